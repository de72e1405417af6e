def wX0_hasTable (post : Int32 → Prop) (u : XS) : Prop := (((xNT u) < 2 → (post 0)) ∧ (¬ (xNT u) < 2 → (post 1)))

set_option maxHeartbeats 4000000 in
set_option maxRecDepth 100000 in
theorem mX0_hasTable (l : Launch) (D : va_G) (cJ : ClassId) (h0 a1 a2 a3 a4 a5 a6 tC tS : Nat) (u : XS) (post : Int32 → Prop) : Met l yX0_hasTable wsX0_hasTable ({ frames := 0, cells := 0, slots := 0, locals := 0 } : Room) (va_Pc [.ref h0] (fun U => XW D cJ h0 a1 a2 a3 a4 a5 a6 tC tS u U U.heap ∧ wX0_hasTable post u)) (vp_Si (fun r => (r = 0 ∨ r = 1) ∧ post r)) 0 0 nA := by
  refine Met.ofW (cc := cX0_hasTable) (maxL := 1) (ret := (some .boolean)) (by decide +kernel) rfl ?_
  intro p e s m args below meth c s₁ B hml hv
  obtain ⟨rfl, hW, hw⟩ := hv
  have hx := B.exec
  have hb := B.bytes
  have hr := B.returns
  have hts := atoms_spec (ws := wsX0_hasTable) B.pre
  have hown : s.vm.findClass RX0 = some m.cls := findClass_of_methodNamed B.named
  have hlocks := B.notSynchronized
  have hin : ∀ w ∈ u_ws RX0 TX0 9, w ∈ wsX0_hasTable := by decide +kernel
  have hl := lv_entry ([.ref h0]) (n := 1) (Nat.le_of_ble_eq_true rfl)
  rw [lg_entry_eq]
  generalize (lg_sl ([.ref h0]) ++ List.replicate (1 - (lg_sl ([.ref h0])).length) Slot.unset).toArray = ls at hl ⊢
  have hl : lv_has ls 1 [(0, .ref h0)] := hl
  unfold wX0_hasTable at hw
  refine lv_aload_n hx hb dX0_hasTable_0 rfl (lv_at hl 0 rfl) ?_
  refine va_get (D := D) (ci := 0) (v := .int (xNT u)) (C := RX0) (T := TX0) (N := 9) hx hb hts hin hown hW.2.1 hW.1 0 rfl rfl 2 (by decide) (hts (.fieldLink RX0 16 "TideDepths" "turns" "I") (by decide +kernel)) (fun _ h9 => h9) rfl dX0_hasTable_1 ?_
  refine lv_iconst (v := 2) hx hb dX0_hasTable_4 (by decide) ?_
  refine lv_icmp_lt (tgt := 12) hx hb dX0_hasTable_5 (by decide) (fun c1 => ?_) (fun c1 => ?_)
  · have hw := hw.1 c1
    refine lv_iconst (v := 0) hx hb dX0_hasTable_12 (by decide) ?_
    exact W.zret (v := 0) hx hb hr (bz_nar (Or.inl rfl)) (fun t ht hWm => ⟨_, rfl, ⟨(Or.inl rfl), hw⟩, ht⟩) t_nil dX0_hasTable_13
  · have hw := hw.2 c1
    refine lv_iconst (v := 1) hx hb dX0_hasTable_8 (by decide) ?_
    refine lv_goto (tgt := 13) hx hb dX0_hasTable_9 (by decide) ?_
    exact W.zret (v := 1) hx hb hr (bz_nar (Or.inr rfl)) (fun t ht hWm => ⟨_, rfl, ⟨(Or.inr rfl), hw⟩, ht⟩) t_nil dX0_hasTable_13

def wX0_firstSecond (post : Int64 → Prop) (u : XS) : Prop := (wX0_hasTable (fun r1 => ((r1 = 0 → (post (-1))) ∧ (¬ r1 = 0 → (post ((xTT u) 0))))) u)

set_option maxHeartbeats 4000000 in
set_option maxRecDepth 100000 in
theorem mX0_firstSecond (l : Launch) (D : va_G) (cJ : ClassId) (h0 a1 a2 a3 a4 a5 a6 tC tS : Nat) (u : XS) (post : Int64 → Prop) : Met l yX0_firstSecond wsX0_firstSecond ({ frames := 1, cells := 0, slots := 0, locals := 20 } : Room) (va_Pc [.ref h0] (fun U => XW D cJ h0 a1 a2 a3 a4 a5 a6 tC tS u U U.heap ∧ wX0_firstSecond post u)) (vp_Sl post) 0 0 nA := by
  refine Met.ofW (cc := cX0_firstSecond) (maxL := 1) (ret := (some .long)) (by decide +kernel) rfl ?_
  intro p e s m args below meth c s₁ B hml hv
  obtain ⟨rfl, hW, hw⟩ := hv
  have hx := B.exec
  have hb := B.bytes
  have hr := B.returns
  have hts := atoms_spec (ws := wsX0_firstSecond) B.pre
  have hown : s.vm.findClass RX0 = some m.cls := findClass_of_methodNamed B.named
  have hlocks := B.notSynchronized
  have hin : ∀ w ∈ u_ws RX0 TX0 9, w ∈ wsX0_firstSecond := by decide +kernel
  have hl := lv_entry ([.ref h0]) (n := 1) (Nat.le_of_ble_eq_true rfl)
  rw [lg_entry_eq]
  generalize (lg_sl ([.ref h0]) ++ List.replicate (1 - (lg_sl ([.ref h0])).length) Slot.unset).toArray = ls at hl ⊢
  have hl : lv_has ls 1 [(0, .ref h0)] := hl
  unfold wX0_firstSecond at hw
  refine lv_aload_n hx hb dX0_firstSecond_0 rfl (lv_at hl 0 rfl) ?_
  refine pc_Vi (As := []) (rest := []) ⟨hx, hb, hml, hown, hts⟩ (mX0_hasTable l D cJ h0 a1 a2 a3 a4 a5 a6 tC tS u _) (cwV 0 hts gX0_firstSecond_X0_hasTable rfl rfl rfl (by decide +kernel) ⟨Nat.le_of_ble_eq_true rfl, Nat.le_of_ble_eq_true rfl⟩) (wX_rc hW) wX_bl (wX_in hW hw) rfl hl.1 rfl (Nat.le_of_ble_eq_true rfl) dX0_firstSecond_1 ⟨Nat.le_of_ble_eq_true rfl, Nat.le_of_ble_eq_true rfl⟩ (fun r1 hw => ?_)
  obtain ⟨z_r1, hw⟩ := hw
  refine lv_if_eq (tgt := 16) hx hb dX0_firstSecond_4 (by decide) (fun c2 => ?_) (fun c2 => ?_)
  · have hw := hw.1 c2
    refine lv_ldc2 (v := (-1)) hx hb hown (hts (.constantLong RX0 190 (-1)) (by decide +kernel)) dX0_firstSecond_16 ?_
    exact W.lret (v := (-1)) hx hb hr (fun t ht hWm => ⟨_, rfl, hw, ht⟩) t_nil dX0_firstSecond_19
  · have hw := hw.2 c2
    refine lv_aload_n hx hb dX0_firstSecond_7 rfl (lv_at hl 0 rfl) ?_
    refine va_get (D := D) (ci := 0) (v := .ref a1) (C := RX0) (T := TX0) (N := 9) hx hb hts hin hown hW.2.1 hW.1 0 rfl rfl 0 (by decide) (hts (.fieldLink RX0 9 "TideDepths" "turnTimes" "[J") (by decide +kernel)) (fun _ h9 => h9) rfl dX0_firstSecond_8 ?_
    refine lv_iconst (v := 0) hx hb dX0_firstSecond_11 (by decide) ?_
    refine va_lald hx hb hW.2.1 hW.1 1 0 rfl rfl (by unfold vp_in; decide) dX0_firstSecond_12 ?_
    rw [show Int32.toNatClampNeg 0 = 0 from by decide]
    refine lv_goto (tgt := 19) hx hb dX0_firstSecond_13 (by decide) ?_
    exact W.lret (v := ((xTT u) 0)) hx hb hr (fun t ht hWm => ⟨_, rfl, hw, ht⟩) t_nil dX0_firstSecond_19

def wX0_lastSecond (post : Int64 → Prop) (u : XS) : Prop := (wX0_hasTable (fun r1 => ((r1 = 0 → (post (-1))) ∧ (¬ r1 = 0 → (vp_in ((xNT u) - 1) 40 ∧ (post ((xTT u) (((xNT u) - 1)).toNatClampNeg)))))) u)

set_option maxHeartbeats 4000000 in
set_option maxRecDepth 100000 in
theorem mX0_lastSecond (l : Launch) (D : va_G) (cJ : ClassId) (h0 a1 a2 a3 a4 a5 a6 tC tS : Nat) (u : XS) (post : Int64 → Prop) : Met l yX0_lastSecond wsX0_lastSecond ({ frames := 1, cells := 0, slots := 0, locals := 20 } : Room) (va_Pc [.ref h0] (fun U => XW D cJ h0 a1 a2 a3 a4 a5 a6 tC tS u U U.heap ∧ wX0_lastSecond post u)) (vp_Sl post) 0 0 nA := by
  refine Met.ofW (cc := cX0_lastSecond) (maxL := 1) (ret := (some .long)) (by decide +kernel) rfl ?_
  intro p e s m args below meth c s₁ B hml hv
  obtain ⟨rfl, hW, hw⟩ := hv
  have hx := B.exec
  have hb := B.bytes
  have hr := B.returns
  have hts := atoms_spec (ws := wsX0_lastSecond) B.pre
  have hown : s.vm.findClass RX0 = some m.cls := findClass_of_methodNamed B.named
  have hlocks := B.notSynchronized
  have hin : ∀ w ∈ u_ws RX0 TX0 9, w ∈ wsX0_lastSecond := by decide +kernel
  have hl := lv_entry ([.ref h0]) (n := 1) (Nat.le_of_ble_eq_true rfl)
  rw [lg_entry_eq]
  generalize (lg_sl ([.ref h0]) ++ List.replicate (1 - (lg_sl ([.ref h0])).length) Slot.unset).toArray = ls at hl ⊢
  have hl : lv_has ls 1 [(0, .ref h0)] := hl
  unfold wX0_lastSecond at hw
  refine lv_aload_n hx hb dX0_lastSecond_0 rfl (lv_at hl 0 rfl) ?_
  refine pc_Vi (As := []) (rest := []) ⟨hx, hb, hml, hown, hts⟩ (mX0_hasTable l D cJ h0 a1 a2 a3 a4 a5 a6 tC tS u _) (cwV 0 hts gX0_lastSecond_X0_hasTable rfl rfl rfl (by decide +kernel) ⟨Nat.le_of_ble_eq_true rfl, Nat.le_of_ble_eq_true rfl⟩) (wX_rc hW) wX_bl (wX_in hW hw) rfl hl.1 rfl (Nat.le_of_ble_eq_true rfl) dX0_lastSecond_1 ⟨Nat.le_of_ble_eq_true rfl, Nat.le_of_ble_eq_true rfl⟩ (fun r1 hw => ?_)
  obtain ⟨z_r1, hw⟩ := hw
  refine lv_if_eq (tgt := 21) hx hb dX0_lastSecond_4 (by decide) (fun c2 => ?_) (fun c2 => ?_)
  · have hw := hw.1 c2
    refine lv_ldc2 (v := (-1)) hx hb hown (hts (.constantLong RX0 190 (-1)) (by decide +kernel)) dX0_lastSecond_21 ?_
    exact W.lret (v := (-1)) hx hb hr (fun t ht hWm => ⟨_, rfl, hw, ht⟩) t_nil dX0_lastSecond_24
  · have hw := hw.2 c2
    refine lv_aload_n hx hb dX0_lastSecond_7 rfl (lv_at hl 0 rfl) ?_
    refine va_get (D := D) (ci := 0) (v := .ref a1) (C := RX0) (T := TX0) (N := 9) hx hb hts hin hown hW.2.1 hW.1 0 rfl rfl 0 (by decide) (hts (.fieldLink RX0 9 "TideDepths" "turnTimes" "[J") (by decide +kernel)) (fun _ h9 => h9) rfl dX0_lastSecond_8 ?_
    refine lv_aload_n hx hb dX0_lastSecond_11 rfl (lv_at hl 0 rfl) ?_
    refine va_get (D := D) (ci := 0) (v := .int (xNT u)) (C := RX0) (T := TX0) (N := 9) hx hb hts hin hown hW.2.1 hW.1 0 rfl rfl 2 (by decide) (hts (.fieldLink RX0 16 "TideDepths" "turns" "I") (by decide +kernel)) (fun _ h9 => h9) rfl dX0_lastSecond_12 ?_
    refine lv_iconst (v := 1) hx hb dX0_lastSecond_15 (by decide) ?_
    refine lv_isub hx hb dX0_lastSecond_16 ?_
    obtain ⟨h3, hw⟩ := hw
    refine va_lald hx hb hW.2.1 hW.1 1 0 rfl rfl h3 dX0_lastSecond_17 ?_
    refine lv_goto (tgt := 24) hx hb dX0_lastSecond_18 (by decide) ?_
    exact W.lret (v := ((xTT u) (((xNT u) - 1)).toNatClampNeg)) hx hb hr (fun t ht hWm => ⟨_, rfl, hw, ht⟩) t_nil dX0_lastSecond_24

def wX0_isInTable (post : Int32 → Prop) (u : XS) (v1 : Int64) : Prop := (wX0_hasTable (fun r1 => ((r1 = 0 → (post 0)) ∧ (¬ r1 = 0 → (wX0_firstSecond (fun r3 => (wX0_lastSecond (fun r4 => (wX0_isWithin (fun r5 => ((r5 = 0 → (post 0)) ∧ (¬ r5 = 0 → (post 1)))) v1 r3 r4)) u)) u)))) u)

set_option maxHeartbeats 4000000 in
set_option maxRecDepth 100000 in
theorem mX0_isInTable (l : Launch) (D : va_G) (cJ : ClassId) (h0 a1 a2 a3 a4 a5 a6 tC tS : Nat) (u : XS) (v1 : Int64) (post : Int32 → Prop) : Met l yX0_isInTable wsX0_isInTable ({ frames := 2, cells := 0, slots := 0, locals := 40 } : Room) (va_Pc [.ref h0, .long v1] (fun U => XW D cJ h0 a1 a2 a3 a4 a5 a6 tC tS u U U.heap ∧ wX0_isInTable post u v1)) (vp_Si (fun r => (r = 0 ∨ r = 1) ∧ post r)) 0 0 nA := by
  refine Met.ofW (cc := cX0_isInTable) (maxL := 3) (ret := (some .boolean)) (by decide +kernel) rfl ?_
  intro p e s m args below meth c s₁ B hml hv
  obtain ⟨rfl, hW, hw⟩ := hv
  have hx := B.exec
  have hb := B.bytes
  have hr := B.returns
  have hts := atoms_spec (ws := wsX0_isInTable) B.pre
  have hown : s.vm.findClass RX0 = some m.cls := findClass_of_methodNamed B.named
  have hlocks := B.notSynchronized
  have hin : ∀ w ∈ u_ws RX0 TX0 9, w ∈ wsX0_isInTable := by decide +kernel
  have hl := lv_entry ([.ref h0, .long v1]) (n := 3) (Nat.le_of_ble_eq_true rfl)
  rw [lg_entry_eq]
  generalize (lg_sl ([.ref h0, .long v1]) ++ List.replicate (3 - (lg_sl ([.ref h0, .long v1])).length) Slot.unset).toArray = ls at hl ⊢
  have hl : lv_has ls 3 [(0, .ref h0), (1, .long v1)] := hl
  unfold wX0_isInTable at hw
  refine lv_aload_n hx hb dX0_isInTable_0 rfl (lv_at hl 0 rfl) ?_
  refine pc_Vi (As := []) (rest := []) ⟨hx, hb, hml, hown, hts⟩ (mX0_hasTable l D cJ h0 a1 a2 a3 a4 a5 a6 tC tS u _) (cwV 0 hts gX0_isInTable_X0_hasTable rfl rfl rfl (by decide +kernel) ⟨Nat.le_of_ble_eq_true rfl, Nat.le_of_ble_eq_true rfl⟩) (wX_rc hW) wX_bl (wX_in hW hw) rfl hl.1 rfl (Nat.le_of_ble_eq_true rfl) dX0_isInTable_1 ⟨Nat.le_of_ble_eq_true rfl, Nat.le_of_ble_eq_true rfl⟩ (fun r1 hw => ?_)
  obtain ⟨z_r1, hw⟩ := hw
  refine lv_if_eq (tgt := 26) hx hb dX0_isInTable_4 (by decide) (fun c2 => ?_) (fun c2 => ?_)
  · have hw := hw.1 c2
    refine lv_iconst (v := 0) hx hb dX0_isInTable_26 (by decide) ?_
    exact W.zret (v := 0) hx hb hr (bz_nar (Or.inl rfl)) (fun t ht hWm => ⟨_, rfl, ⟨(Or.inl rfl), hw⟩, ht⟩) t_nil dX0_isInTable_27
  · have hw := hw.2 c2
    refine lv_lload_n hx hb dX0_isInTable_7 rfl (lv_at hl 1 rfl) ?_
    refine lv_aload_n hx hb dX0_isInTable_8 rfl (lv_at hl 0 rfl) ?_
    refine pc_Vl (As := []) (rest := [.long v1]) ⟨hx, hb, hml, hown, hts⟩ (mX0_firstSecond l D cJ h0 a1 a2 a3 a4 a5 a6 tC tS u _) (cwV 0 hts gX0_isInTable_X0_firstSecond rfl rfl rfl (by decide +kernel) ⟨Nat.le_of_ble_eq_true rfl, Nat.le_of_ble_eq_true rfl⟩) (wX_rc hW) wX_bl (wX_in hW hw) rfl hl.1 rfl (Nat.le_of_ble_eq_true rfl) dX0_isInTable_9 ⟨Nat.le_of_ble_eq_true rfl, Nat.le_of_ble_eq_true rfl⟩ (fun r3 hw => ?_)
    refine lv_aload_n hx hb dX0_isInTable_12 rfl (lv_at hl 0 rfl) ?_
    refine pc_Vl (As := []) (rest := [.long r3, .long v1]) ⟨hx, hb, hml, hown, hts⟩ (mX0_lastSecond l D cJ h0 a1 a2 a3 a4 a5 a6 tC tS u _) (cwV 0 hts gX0_isInTable_X0_lastSecond rfl rfl rfl (by decide +kernel) ⟨Nat.le_of_ble_eq_true rfl, Nat.le_of_ble_eq_true rfl⟩) (wX_rc hW) wX_bl (wX_in hW hw) rfl hl.1 rfl (Nat.le_of_ble_eq_true rfl) dX0_isInTable_13 ⟨Nat.le_of_ble_eq_true rfl, Nat.le_of_ble_eq_true rfl⟩ (fun r4 hw => ?_)
    refine pc_Si (As := [.long v1, .long r3, .long r4]) (rest := []) ⟨hx, hb, hml, hown, hts⟩ (mX0_isWithin l v1 r3 r4 _) (va_cwS 3 hts gX0_isInTable_X0_isWithin rfl rfl rfl (by decide +kernel) ⟨Nat.le_of_ble_eq_true rfl, Nat.le_of_ble_eq_true rfl⟩) wK_bl (fun _ _ _ => hw) rfl hl.1 rfl (Nat.le_of_ble_eq_true rfl) dX0_isInTable_16 ⟨Nat.le_of_ble_eq_true rfl, Nat.le_of_ble_eq_true rfl⟩ (fun r5 hw => ?_)
    obtain ⟨z_r5, hw⟩ := hw
    refine lv_if_eq (tgt := 26) hx hb dX0_isInTable_19 (by decide) (fun c6 => ?_) (fun c6 => ?_)
    · have hw := hw.1 c6
      refine lv_iconst (v := 0) hx hb dX0_isInTable_26 (by decide) ?_
      exact W.zret (v := 0) hx hb hr (bz_nar (Or.inl rfl)) (fun t ht hWm => ⟨_, rfl, ⟨(Or.inl rfl), hw⟩, ht⟩) t_nil dX0_isInTable_27
    · have hw := hw.2 c6
      refine lv_iconst (v := 1) hx hb dX0_isInTable_22 (by decide) ?_
      refine lv_goto (tgt := 27) hx hb dX0_isInTable_23 (by decide) ?_
      exact W.zret (v := 1) hx hb hr (bz_nar (Or.inr rfl)) (fun t ht hWm => ⟨_, rfl, ⟨(Or.inr rfl), hw⟩, ht⟩) t_nil dX0_isInTable_27

def wX0_alternates (post : Int32 → Prop) (u : XS) (v1 : Int64) : Prop := (((xNT u) = 0 → (post 1)) ∧ (¬ (xNT u) = 0 → (vp_in ((xNT u) - 1) 40 ∧ (((xNT u) = 1 → ((v1 = ((xTH u) (((xNT u) - 1)).toNatClampNeg) → (post 0)) ∧ (¬ v1 = ((xTH u) (((xNT u) - 1)).toNatClampNeg) → (post 1)))) ∧ (¬ (xNT u) = 1 → (vp_in ((xNT u) - 2) 40 ∧ ((((xTH u) (((xNT u) - 1)).toNatClampNeg) ≤ ((xTH u) (((xNT u) - 2)).toNatClampNeg) → ((v1 ≤ ((xTH u) (((xNT u) - 1)).toNatClampNeg) → (post 0)) ∧ (¬ v1 ≤ ((xTH u) (((xNT u) - 1)).toNatClampNeg) → (post 1)))) ∧ (¬ ((xTH u) (((xNT u) - 1)).toNatClampNeg) ≤ ((xTH u) (((xNT u) - 2)).toNatClampNeg) → ((((xTH u) (((xNT u) - 1)).toNatClampNeg) ≤ v1 → (post 0)) ∧ (¬ ((xTH u) (((xNT u) - 1)).toNatClampNeg) ≤ v1 → (post 1)))))))))))

set_option maxHeartbeats 4000000 in
set_option maxRecDepth 100000 in
theorem mX0_alternates (l : Launch) (D : va_G) (cJ : ClassId) (h0 a1 a2 a3 a4 a5 a6 tC tS : Nat) (u : XS) (v1 : Int64) (post : Int32 → Prop) : Met l yX0_alternates wsX0_alternates ({ frames := 0, cells := 0, slots := 0, locals := 0 } : Room) (va_Pc [.ref h0, .long v1] (fun U => XW D cJ h0 a1 a2 a3 a4 a5 a6 tC tS u U U.heap ∧ wX0_alternates post u v1)) (vp_Si (fun r => (r = 0 ∨ r = 1) ∧ post r)) 0 0 nA := by
  refine Met.ofW (cc := cX0_alternates) (maxL := 6) (ret := (some .boolean)) (by decide +kernel) rfl ?_
  intro p e s m args below meth c s₁ B hml hv
  obtain ⟨rfl, hW, hw⟩ := hv
  have hx := B.exec
  have hb := B.bytes
  have hr := B.returns
  have hts := atoms_spec (ws := wsX0_alternates) B.pre
  have hown : s.vm.findClass RX0 = some m.cls := findClass_of_methodNamed B.named
  have hlocks := B.notSynchronized
  have hin : ∀ w ∈ u_ws RX0 TX0 9, w ∈ wsX0_alternates := by decide +kernel
  have hl := lv_entry ([.ref h0, .long v1]) (n := 6) (Nat.le_of_ble_eq_true rfl)
  rw [lg_entry_eq]
  generalize (lg_sl ([.ref h0, .long v1]) ++ List.replicate (6 - (lg_sl ([.ref h0, .long v1])).length) Slot.unset).toArray = ls at hl ⊢
  have hl : lv_has ls 6 [(0, .ref h0), (1, .long v1)] := hl
  unfold wX0_alternates at hw
  refine lv_aload_n hx hb dX0_alternates_0 rfl (lv_at hl 0 rfl) ?_
  refine va_get (D := D) (ci := 0) (v := .int (xNT u)) (C := RX0) (T := TX0) (N := 9) hx hb hts hin hown hW.2.1 hW.1 0 rfl rfl 2 (by decide) (hts (.fieldLink RX0 16 "TideDepths" "turns" "I") (by decide +kernel)) (fun _ h9 => h9) rfl dX0_alternates_1 ?_
  refine lv_if_ne (tgt := 9) hx hb dX0_alternates_4 (by decide) (fun c1 => ?_) (fun c1 => ?_)
  · have hw := hw.2 c1
    refine lv_aload_n hx hb dX0_alternates_9 rfl (lv_at hl 0 rfl) ?_
    refine va_get (D := D) (ci := 0) (v := .ref a2) (C := RX0) (T := TX0) (N := 9) hx hb hts hin hown hW.2.1 hW.1 0 rfl rfl 1 (by decide) (hts (.fieldLink RX0 13 "TideDepths" "turnHeights" "[J") (by decide +kernel)) (fun _ h9 => h9) rfl dX0_alternates_10 ?_
    refine lv_aload_n hx hb dX0_alternates_13 rfl (lv_at hl 0 rfl) ?_
    refine va_get (D := D) (ci := 0) (v := .int (xNT u)) (C := RX0) (T := TX0) (N := 9) hx hb hts hin hown hW.2.1 hW.1 0 rfl rfl 2 (by decide) (hts (.fieldLink RX0 16 "TideDepths" "turns" "I") (by decide +kernel)) (fun _ h9 => h9) rfl dX0_alternates_14 ?_
    refine lv_iconst (v := 1) hx hb dX0_alternates_17 (by decide) ?_
    refine lv_isub hx hb dX0_alternates_18 ?_
    obtain ⟨h2, hw⟩ := hw
    refine va_lald hx hb hW.2.1 hW.1 2 0 rfl rfl h2 dX0_alternates_19 ?_
    refine lv_lstore_n (lv' := [(3, .long ((xTH u) (((xNT u) - 1)).toNatClampNeg)), (0, .ref h0), (1, .long v1)]) hx hb dX0_alternates_20 rfl hl (by decide) rfl (fun ls hl => ?_)
    refine lv_aload_n hx hb dX0_alternates_21 rfl (lv_at hl 1 rfl) ?_
    refine va_get (D := D) (ci := 0) (v := .int (xNT u)) (C := RX0) (T := TX0) (N := 9) hx hb hts hin hown hW.2.1 hW.1 0 rfl rfl 2 (by decide) (hts (.fieldLink RX0 16 "TideDepths" "turns" "I") (by decide +kernel)) (fun _ h9 => h9) rfl dX0_alternates_22 ?_
    refine lv_iconst (v := 1) hx hb dX0_alternates_25 (by decide) ?_
    refine lv_icmp_ne (tgt := 41) hx hb dX0_alternates_26 (by decide) (fun c3 => ?_) (fun c3 => ?_)
    · have hw := hw.2 c3
      refine lv_lload_n hx hb dX0_alternates_41 rfl (lv_at hl 0 rfl) ?_
      refine lv_aload_n hx hb dX0_alternates_42 rfl (lv_at hl 1 rfl) ?_
      refine va_get (D := D) (ci := 0) (v := .ref a2) (C := RX0) (T := TX0) (N := 9) hx hb hts hin hown hW.2.1 hW.1 0 rfl rfl 1 (by decide) (hts (.fieldLink RX0 13 "TideDepths" "turnHeights" "[J") (by decide +kernel)) (fun _ h9 => h9) rfl dX0_alternates_43 ?_
      refine lv_aload_n hx hb dX0_alternates_46 rfl (lv_at hl 1 rfl) ?_
      refine va_get (D := D) (ci := 0) (v := .int (xNT u)) (C := RX0) (T := TX0) (N := 9) hx hb hts hin hown hW.2.1 hW.1 0 rfl rfl 2 (by decide) (hts (.fieldLink RX0 16 "TideDepths" "turns" "I") (by decide +kernel)) (fun _ h9 => h9) rfl dX0_alternates_47 ?_
      refine lv_iconst (v := 2) hx hb dX0_alternates_50 (by decide) ?_
      refine lv_isub hx hb dX0_alternates_51 ?_
      obtain ⟨h4, hw⟩ := hw
      refine va_lald hx hb hW.2.1 hW.1 2 0 rfl rfl h4 dX0_alternates_52 ?_
      refine bl_le (tgt := 61) hx hb dX0_alternates_53 dX0_alternates_54 (by decide) (fun c5 => ?_) (fun c5 => ?_)
      · have hw := hw.1 c5
        refine lv_iconst (v := 0) hx hb dX0_alternates_61 (by decide) ?_
        refine lv_istore (lv' := [(5, .int 0), (3, .long ((xTH u) (((xNT u) - 1)).toNatClampNeg)), (0, .ref h0), (1, .long v1)]) hx hb dX0_alternates_62 hl (by decide) rfl (fun ls hl => ?_)
        refine lv_iload hx hb dX0_alternates_64 (lv_at hl 0 rfl) ?_
        refine lv_if_eq (tgt := 83) hx hb dX0_alternates_66 (by decide) (fun c6 => ?_) (fun c6 => ?_)
        ·
          refine lv_lload_n hx hb dX0_alternates_83 rfl (lv_at hl 3 rfl) ?_
          refine lv_lload_n hx hb dX0_alternates_84 rfl (lv_at hl 1 rfl) ?_
          refine bl_le (tgt := 93) hx hb dX0_alternates_85 dX0_alternates_86 (by decide) (fun c7 => ?_) (fun c7 => ?_)
          · have hw := hw.1 c7
            refine lv_iconst (v := 0) hx hb dX0_alternates_93 (by decide) ?_
            exact W.zret (v := 0) hx hb hr (bz_nar (Or.inl rfl)) (fun t ht hWm => ⟨_, rfl, ⟨(Or.inl rfl), hw⟩, ht⟩) t_nil dX0_alternates_94
          · have hw := hw.2 c7
            refine lv_iconst (v := 1) hx hb dX0_alternates_89 (by decide) ?_
            refine lv_goto (tgt := 94) hx hb dX0_alternates_90 (by decide) ?_
            exact W.zret (v := 1) hx hb hr (bz_nar (Or.inr rfl)) (fun t ht hWm => ⟨_, rfl, ⟨(Or.inr rfl), hw⟩, ht⟩) t_nil dX0_alternates_94
        · exact absurd (by decide) c6
      · have hw := hw.2 c5
        refine lv_iconst (v := 1) hx hb dX0_alternates_57 (by decide) ?_
        refine lv_goto (tgt := 62) hx hb dX0_alternates_58 (by decide) ?_
        refine lv_istore (lv' := [(5, .int 1), (3, .long ((xTH u) (((xNT u) - 1)).toNatClampNeg)), (0, .ref h0), (1, .long v1)]) hx hb dX0_alternates_62 hl (by decide) rfl (fun ls hl => ?_)
        refine lv_iload hx hb dX0_alternates_64 (lv_at hl 0 rfl) ?_
        refine lv_if_eq (tgt := 83) hx hb dX0_alternates_66 (by decide) (fun c8 => ?_) (fun c8 => ?_)
        · exact absurd c8 (by decide)
        ·
          refine lv_lload_n hx hb dX0_alternates_69 rfl (lv_at hl 3 rfl) ?_
          refine lv_lload_n hx hb dX0_alternates_70 rfl (lv_at hl 1 rfl) ?_
          refine bl_ge (tgt := 79) hx hb dX0_alternates_71 dX0_alternates_72 (by decide) (fun c9 => ?_) (fun c9 => ?_)
          · have hw := hw.1 c9
            refine lv_iconst (v := 0) hx hb dX0_alternates_79 (by decide) ?_
            refine lv_goto (tgt := 94) hx hb dX0_alternates_80 (by decide) ?_
            exact W.zret (v := 0) hx hb hr (bz_nar (Or.inl rfl)) (fun t ht hWm => ⟨_, rfl, ⟨(Or.inl rfl), hw⟩, ht⟩) t_nil dX0_alternates_94
          · have hw := hw.2 c9
            refine lv_iconst (v := 1) hx hb dX0_alternates_75 (by decide) ?_
            refine lv_goto (tgt := 94) hx hb dX0_alternates_76 (by decide) ?_
            exact W.zret (v := 1) hx hb hr (bz_nar (Or.inr rfl)) (fun t ht hWm => ⟨_, rfl, ⟨(Or.inr rfl), hw⟩, ht⟩) t_nil dX0_alternates_94
    · have hw := hw.1 c3
      refine lv_lload_n hx hb dX0_alternates_29 rfl (lv_at hl 2 rfl) ?_
      refine lv_lload_n hx hb dX0_alternates_30 rfl (lv_at hl 0 rfl) ?_
      refine bl_eq (tgt := 39) hx hb dX0_alternates_31 dX0_alternates_32 (by decide) (fun c10 => ?_) (fun c10 => ?_)
      · have hw := hw.1 c10
        refine lv_iconst (v := 0) hx hb dX0_alternates_39 (by decide) ?_
        exact W.zret (v := 0) hx hb hr (bz_nar (Or.inl rfl)) (fun t ht hWm => ⟨_, rfl, ⟨(Or.inl rfl), hw⟩, ht⟩) t_nil dX0_alternates_40
      · have hw := hw.2 c10
        refine lv_iconst (v := 1) hx hb dX0_alternates_35 (by decide) ?_
        refine lv_goto (tgt := 40) hx hb dX0_alternates_36 (by decide) ?_
        exact W.zret (v := 1) hx hb hr (bz_nar (Or.inr rfl)) (fun t ht hWm => ⟨_, rfl, ⟨(Or.inr rfl), hw⟩, ht⟩) t_nil dX0_alternates_40
  · have hw := hw.1 c1
    refine lv_iconst (v := 1) hx hb dX0_alternates_7 (by decide) ?_
    exact W.zret (v := 1) hx hb hr (bz_nar (Or.inr rfl)) (fun t ht hWm => ⟨_, rfl, ⟨(Or.inr rfl), hw⟩, ht⟩) t_nil dX0_alternates_8

def wX0_tableHeight (post : Int64 → Prop) (u : XS) (v1 : Int64) : Prop := (wX0_lastNotBehind (fun r1 => ((0 ≤ r1 → (vp_in r1 40 ∧ (((r1 + 1) < (xNT u) → (vp_in r1 40 ∧ (vp_in (r1 + 1) 40 ∧ (vp_in r1 40 ∧ (wX0_cosinePart (fun r8 => (vp_in (r1 + 1) 40 ∧ (wJ9_floorDiv_f86c9 (fun r10 => (post (((xTH u) (r1).toNatClampNeg) + r10))) ((((xTH u) ((r1 + 1)).toNatClampNeg) - ((xTH u) (r1).toNatClampNeg)) * r8) 32768))) (v1 - ((xTT u) (r1).toNatClampNeg)) (((xTT u) ((r1 + 1)).toNatClampNeg) - ((xTT u) (r1).toNatClampNeg))))))) ∧ (¬ (r1 + 1) < (xNT u) → (post ((xTH u) (r1).toNatClampNeg)))))) ∧ (¬ 0 ≤ r1 → (post 0)))) 40 (xTT u) v1 (xNT u))

set_option maxHeartbeats 4000000 in
set_option maxRecDepth 100000 in
theorem mX0_tableHeight (l : Launch) (D : va_G) (cJ : ClassId) (h0 a1 a2 a3 a4 a5 a6 tC tS : Nat) (u : XS) (v1 : Int64) (post : Int64 → Prop) : Met l yX0_tableHeight wsX0_tableHeight ({ frames := 1, cells := 0, slots := 0, locals := 28 } : Room) (va_Pc [.ref h0, .long v1] (fun U => XW D cJ h0 a1 a2 a3 a4 a5 a6 tC tS u U U.heap ∧ wX0_tableHeight post u v1)) (vp_Sl post) 0 0 nA := by
  refine Met.ofW (cc := cX0_tableHeight) (maxL := 8) (ret := (some .long)) (by decide +kernel) rfl ?_
  intro p e s m args below meth c s₁ B hml hv
  obtain ⟨rfl, hW, hw⟩ := hv
  have hx := B.exec
  have hb := B.bytes
  have hr := B.returns
  have hts := atoms_spec (ws := wsX0_tableHeight) B.pre
  have hown : s.vm.findClass RX0 = some m.cls := findClass_of_methodNamed B.named
  have hlocks := B.notSynchronized
  have hin : ∀ w ∈ u_ws RX0 TX0 9, w ∈ wsX0_tableHeight := by decide +kernel
  have hl := lv_entry ([.ref h0, .long v1]) (n := 8) (Nat.le_of_ble_eq_true rfl)
  rw [lg_entry_eq]
  generalize (lg_sl ([.ref h0, .long v1]) ++ List.replicate (8 - (lg_sl ([.ref h0, .long v1])).length) Slot.unset).toArray = ls at hl ⊢
  have hl : lv_has ls 8 [(0, .ref h0), (1, .long v1)] := hl
  unfold wX0_tableHeight at hw
  refine lv_lload_n hx hb dX0_tableHeight_0 rfl (lv_at hl 1 rfl) ?_
  refine lv_aload_n hx hb dX0_tableHeight_1 rfl (lv_at hl 0 rfl) ?_
  refine va_get (D := D) (ci := 0) (v := .ref a1) (C := RX0) (T := TX0) (N := 9) hx hb hts hin hown hW.2.1 hW.1 0 rfl rfl 0 (by decide) (hts (.fieldLink RX0 9 "TideDepths" "turnTimes" "[J") (by decide +kernel)) (fun _ h9 => h9) rfl dX0_tableHeight_2 ?_
  refine lv_aload_n hx hb dX0_tableHeight_5 rfl (lv_at hl 0 rfl) ?_
  refine va_get (D := D) (ci := 0) (v := .int (xNT u)) (C := RX0) (T := TX0) (N := 9) hx hb hts hin hown hW.2.1 hW.1 0 rfl rfl 2 (by decide) (hts (.fieldLink RX0 16 "TideDepths" "turns" "I") (by decide +kernel)) (fun _ h9 => h9) rfl dX0_tableHeight_6 ?_
  refine pc_Si (As := [.long v1, .ref a1, .int (xNT u)]) (rest := []) ⟨hx, hb, hml, hown, hts⟩ (mX0_lastNotBehind l D cJ a1 40 (xTT u) v1 (xNT u) _) (va_cwS 3 hts gX0_tableHeight_X0_lastNotBehind rfl rfl rfl (by decide +kernel) ⟨Nat.le_of_ble_eq_true rfl, Nat.le_of_ble_eq_true rfl⟩) wA_bl (wA_in ⟨hW.1.sub [1] rfl, hW.2.1⟩ hw) rfl hl.1 rfl (Nat.le_of_ble_eq_true rfl) dX0_tableHeight_9 ⟨Nat.le_of_ble_eq_true rfl, Nat.le_of_ble_eq_true rfl⟩ (fun r1 hw => ?_)
  refine lv_istore_n (lv' := [(3, .int r1), (0, .ref h0), (1, .long v1)]) hx hb dX0_tableHeight_12 rfl hl (by decide) rfl (fun ls hl => ?_)
  refine lv_iload_n hx hb dX0_tableHeight_13 rfl (lv_at hl 0 rfl) ?_
  refine lv_if_ge (tgt := 19) hx hb dX0_tableHeight_14 (by decide) (fun c2 => ?_) (fun c2 => ?_)
  · have hw := hw.1 c2
    refine lv_aload_n hx hb dX0_tableHeight_19 rfl (lv_at hl 1 rfl) ?_
    refine va_get (D := D) (ci := 0) (v := .ref a2) (C := RX0) (T := TX0) (N := 9) hx hb hts hin hown hW.2.1 hW.1 0 rfl rfl 1 (by decide) (hts (.fieldLink RX0 13 "TideDepths" "turnHeights" "[J") (by decide +kernel)) (fun _ h9 => h9) rfl dX0_tableHeight_20 ?_
    refine lv_iload_n hx hb dX0_tableHeight_23 rfl (lv_at hl 0 rfl) ?_
    obtain ⟨h3, hw⟩ := hw
    refine va_lald hx hb hW.2.1 hW.1 2 0 rfl rfl h3 dX0_tableHeight_24 ?_
    refine lv_lstore (lv' := [(4, .long ((xTH u) (r1).toNatClampNeg)), (3, .int r1), (0, .ref h0), (1, .long v1)]) hx hb dX0_tableHeight_25 hl (by decide) rfl (fun ls hl => ?_)
    refine lv_iload_n hx hb dX0_tableHeight_27 rfl (lv_at hl 1 rfl) ?_
    refine lv_iconst (v := 1) hx hb dX0_tableHeight_28 (by decide) ?_
    refine lv_iadd hx hb dX0_tableHeight_29 ?_
    refine lv_aload_n hx hb dX0_tableHeight_30 rfl (lv_at hl 2 rfl) ?_
    refine va_get (D := D) (ci := 0) (v := .int (xNT u)) (C := RX0) (T := TX0) (N := 9) hx hb hts hin hown hW.2.1 hW.1 0 rfl rfl 2 (by decide) (hts (.fieldLink RX0 16 "TideDepths" "turns" "I") (by decide +kernel)) (fun _ h9 => h9) rfl dX0_tableHeight_31 ?_
    refine lv_icmp_lt (tgt := 40) hx hb dX0_tableHeight_34 (by decide) (fun c4 => ?_) (fun c4 => ?_)
    · have hw := hw.1 c4
      refine lv_lload_n hx hb dX0_tableHeight_40 rfl (lv_at hl 3 rfl) ?_
      refine lv_aload_n hx hb dX0_tableHeight_41 rfl (lv_at hl 2 rfl) ?_
      refine va_get (D := D) (ci := 0) (v := .ref a1) (C := RX0) (T := TX0) (N := 9) hx hb hts hin hown hW.2.1 hW.1 0 rfl rfl 0 (by decide) (hts (.fieldLink RX0 9 "TideDepths" "turnTimes" "[J") (by decide +kernel)) (fun _ h9 => h9) rfl dX0_tableHeight_42 ?_
      refine lv_iload_n hx hb dX0_tableHeight_45 rfl (lv_at hl 1 rfl) ?_
      obtain ⟨h5, hw⟩ := hw
      refine va_lald hx hb hW.2.1 hW.1 1 0 rfl rfl h5 dX0_tableHeight_46 ?_
      refine lv_lsub hx hb dX0_tableHeight_47 ?_
      refine lv_aload_n hx hb dX0_tableHeight_48 rfl (lv_at hl 2 rfl) ?_
      refine va_get (D := D) (ci := 0) (v := .ref a1) (C := RX0) (T := TX0) (N := 9) hx hb hts hin hown hW.2.1 hW.1 0 rfl rfl 0 (by decide) (hts (.fieldLink RX0 9 "TideDepths" "turnTimes" "[J") (by decide +kernel)) (fun _ h9 => h9) rfl dX0_tableHeight_49 ?_
      refine lv_iload_n hx hb dX0_tableHeight_52 rfl (lv_at hl 1 rfl) ?_
      refine lv_iconst (v := 1) hx hb dX0_tableHeight_53 (by decide) ?_
      refine lv_iadd hx hb dX0_tableHeight_54 ?_
      obtain ⟨h6, hw⟩ := hw
      refine va_lald hx hb hW.2.1 hW.1 1 0 rfl rfl h6 dX0_tableHeight_55 ?_
      refine lv_aload_n hx hb dX0_tableHeight_56 rfl (lv_at hl 2 rfl) ?_
      refine va_get (D := D) (ci := 0) (v := .ref a1) (C := RX0) (T := TX0) (N := 9) hx hb hts hin hown hW.2.1 hW.1 0 rfl rfl 0 (by decide) (hts (.fieldLink RX0 9 "TideDepths" "turnTimes" "[J") (by decide +kernel)) (fun _ h9 => h9) rfl dX0_tableHeight_57 ?_
      refine lv_iload_n hx hb dX0_tableHeight_60 rfl (lv_at hl 1 rfl) ?_
      obtain ⟨h7, hw⟩ := hw
      refine va_lald hx hb hW.2.1 hW.1 1 0 rfl rfl h7 dX0_tableHeight_61 ?_
      refine lv_lsub hx hb dX0_tableHeight_62 ?_
      refine pc_Sl (As := [.long (v1 - ((xTT u) (r1).toNatClampNeg)), .long (((xTT u) ((r1 + 1)).toNatClampNeg) - ((xTT u) (r1).toNatClampNeg))]) (rest := []) ⟨hx, hb, hml, hown, hts⟩ (mX0_cosinePart l tC tS (v1 - ((xTT u) (r1).toNatClampNeg)) (((xTT u) ((r1 + 1)).toNatClampNeg) - ((xTT u) (r1).toNatClampNeg)) _) (va_cwS 2 hts gX0_tableHeight_X0_cosinePart rfl rfl rfl (by decide +kernel) ⟨Nat.le_of_ble_eq_true rfl, Nat.le_of_ble_eq_true rfl⟩) wS_bl (wS_in hW.2.2 hw) rfl hl.1 rfl (Nat.le_of_ble_eq_true rfl) dX0_tableHeight_63 ⟨Nat.le_of_ble_eq_true rfl, Nat.le_of_ble_eq_true rfl⟩ (fun r8 hw => ?_)
      refine lv_lstore (lv' := [(6, .long r8), (4, .long ((xTH u) (r1).toNatClampNeg)), (3, .int r1), (0, .ref h0), (1, .long v1)]) hx hb dX0_tableHeight_66 hl (by decide) rfl (fun ls hl => ?_)
      refine lv_lload hx hb dX0_tableHeight_68 (lv_at hl 1 rfl) ?_
      refine lv_aload_n hx hb dX0_tableHeight_70 rfl (lv_at hl 3 rfl) ?_
      refine va_get (D := D) (ci := 0) (v := .ref a2) (C := RX0) (T := TX0) (N := 9) hx hb hts hin hown hW.2.1 hW.1 0 rfl rfl 1 (by decide) (hts (.fieldLink RX0 13 "TideDepths" "turnHeights" "[J") (by decide +kernel)) (fun _ h9 => h9) rfl dX0_tableHeight_71 ?_
      refine lv_iload_n hx hb dX0_tableHeight_74 rfl (lv_at hl 2 rfl) ?_
      refine lv_iconst (v := 1) hx hb dX0_tableHeight_75 (by decide) ?_
      refine lv_iadd hx hb dX0_tableHeight_76 ?_
      obtain ⟨h9, hw⟩ := hw
      refine va_lald hx hb hW.2.1 hW.1 2 0 rfl rfl h9 dX0_tableHeight_77 ?_
      refine lv_lload hx hb dX0_tableHeight_78 (lv_at hl 1 rfl) ?_
      refine lv_lsub hx hb dX0_tableHeight_80 ?_
      refine lv_lload hx hb dX0_tableHeight_81 (lv_at hl 0 rfl) ?_
      refine lv_lmul hx hb dX0_tableHeight_83 ?_
      refine lv_ldc2 (v := 32768) hx hb hown (hts (.constantLong RX0 202 (32768)) (by decide +kernel)) dX0_tableHeight_84 ?_
      refine pc_Sl (As := [.long ((((xTH u) ((r1 + 1)).toNatClampNeg) - ((xTH u) (r1).toNatClampNeg)) * r8), .long 32768]) (rest := [.long ((xTH u) (r1).toNatClampNeg)]) ⟨hx, hb, hml, hown, hts⟩ (mJ9_floorDiv_f86c9 l ((((xTH u) ((r1 + 1)).toNatClampNeg) - ((xTH u) (r1).toNatClampNeg)) * r8) 32768 _) (va_cwS 2 hts gX0_tableHeight_J9_floorDiv_f86c9 rfl rfl rfl (by decide +kernel) ⟨Nat.le_of_ble_eq_true rfl, Nat.le_of_ble_eq_true rfl⟩) wK_bl (fun _ _ _ => hw) rfl hl.1 rfl (Nat.le_of_ble_eq_true rfl) dX0_tableHeight_87 ⟨Nat.le_of_ble_eq_true rfl, Nat.le_of_ble_eq_true rfl⟩ (fun r10 hw => ?_)
      refine lv_ladd hx hb dX0_tableHeight_90 ?_
      exact W.lret (v := (((xTH u) (r1).toNatClampNeg) + r10)) hx hb hr (fun t ht hWm => ⟨_, rfl, hw, ht⟩) t_nil dX0_tableHeight_91
    · have hw := hw.2 c4
      refine lv_lload hx hb dX0_tableHeight_37 (lv_at hl 0 rfl) ?_
      exact W.lret (v := ((xTH u) (r1).toNatClampNeg)) hx hb hr (fun t ht hWm => ⟨_, rfl, hw, ht⟩) t_nil dX0_tableHeight_39
  · have hw := hw.2 c2
    refine lv_lconst (v := 0) hx hb dX0_tableHeight_17 (by decide) ?_
    exact W.lret (v := 0) hx hb hr (fun t ht hWm => ⟨_, rfl, hw, ht⟩) t_nil dX0_tableHeight_18

def wX0_correction_L44 (post : Int64 → Prop) (u : XS) (v6 : Int64) : Nat → Int64 → Int64 → Prop
  | 0, _, _ => False
  | n + 1, v4, v8 => ((v6 ≤ v8 → (post v4)) ∧ (¬ v6 ≤ v8 → (wX0_correction_L44 post u v6 n (v4 / 2) (v8 + 1))))
def wX0_correction (post : Int64 → Prop) (u : XS) (v1 : Int64) : Prop := (wX0_lastNotBehind (fun r1 => ((0 ≤ r1 → (vp_in r1 16 ∧ (vp_in r1 16 ∧ (∃ n6 : Nat, wX0_correction_L44 post u ((v1 - ((xOT u) (r1).toNatClampNeg)) / 600) n6 ((xOD u) (r1).toNatClampNeg) 0)))) ∧ (¬ 0 ≤ r1 → (post 0)))) 16 (xOT u) v1 (xNO u))
set_option maxHeartbeats 4000000 in
set_option maxRecDepth 100000 in
theorem kX0_correction_L44 {p : Program} {l : Launch} {e : Env} {s : State} {m : MethodId} {args : Array Value} {below : List Frame} {meth : Method} {c : Code} {D : va_G} {cJ : ClassId} {h0 a1 a2 a3 a4 a5 a6 tC tS : Nat} {u : XS} {post : Int64 → Prop} (hx : p.tables.exec = Jvm.exec) (hb : c.code = cX0_correction) (hr : meth.sig.returnType = (some .long)) (hml : c.maxLocals = 10) (hown : s.vm.findClass RX0 = some m.cls) (hlocks : meth.locks = false) (hts : ∀ w ∈ wsX0_correction, w.before args s = true) (hin : ∀ w ∈ u_ws RX0 TX0 9, w ∈ wsX0_correction) (hW : XW D cJ h0 a1 a2 a3 a4 a5 a6 tC tS u s s.heap) (v1 : Int64) (v3 : Int32) (v6 : Int64) : ∀ (n : Nat) (v4 : Int64) (v8 : Int64) (ls : Array Slot), lv_has ls 10 [(0, .ref h0), (1, .long v1), (3, .int v3), (4, .long v4), (6, .long v6), (8, .long v8)] → wX0_correction_L44 post u v6 n v4 v8 → W p l e ({ frames := 1, cells := 0, slots := 0, locals := 24 } : Room) s m args below meth c s.heap [] 0 0 (MQ below (vp_Sl post) args s 0 0 nA) (F0 m 44 ls []) := by
  intro n
  induction n with
  | zero =>
    intro v4 v8 ls hl hw
    exact hw.elim
  | succ n ih =>
    intro v4 v8 ls hl hw
    rw [wX0_correction_L44] at hw
    refine lv_lload hx hb dX0_correction_44 (lv_at hl 5 rfl) ?_
    refine lv_lload hx hb dX0_correction_46 (lv_at hl 4 rfl) ?_
    refine bl_ge (tgt := 69) hx hb dX0_correction_48 dX0_correction_49 (by decide) (fun c5 => ?_) (fun c5 => ?_)
    · have hw := hw.1 c5
      refine lv_lload hx hb dX0_correction_69 (lv_at hl 3 rfl) ?_
      exact W.lret (v := v4) hx hb hr (fun t ht hWm => ⟨_, rfl, hw, ht⟩) t_nil dX0_correction_71
    · have hw := hw.2 c5
      refine lv_lload hx hb dX0_correction_52 (lv_at hl 3 rfl) ?_
      refine lv_ldc2 (v := 2) hx hb hown (hts (.constantLong RX0 213 (2)) (by decide +kernel)) dX0_correction_54 ?_
      refine lv_ldiv hx hb dX0_correction_57 (by decide) ?_
      refine lv_lstore (lv' := [(4, .long (v4 / 2)), (0, .ref h0), (1, .long v1), (3, .int v3), (6, .long v6), (8, .long v8)]) hx hb dX0_correction_58 hl (by decide) rfl (fun ls hl => ?_)
      refine lv_lload hx hb dX0_correction_60 (lv_at hl 5 rfl) ?_
      refine lv_lconst (v := 1) hx hb dX0_correction_62 (by decide) ?_
      refine lv_ladd hx hb dX0_correction_63 ?_
      refine lv_lstore (lv' := [(8, .long (v8 + 1)), (4, .long (v4 / 2)), (0, .ref h0), (1, .long v1), (3, .int v3), (6, .long v6)]) hx hb dX0_correction_64 hl (by decide) rfl (fun ls hl => ?_)
      refine lv_goto (tgt := 44) hx hb dX0_correction_66 (by decide) ?_
      exact ih (v4 / 2) (v8 + 1) ls (lv_sub hl [2, 3, 4, 1, 5, 0] rfl) hw
set_option maxHeartbeats 4000000 in
set_option maxRecDepth 100000 in
theorem mX0_correction (l : Launch) (D : va_G) (cJ : ClassId) (h0 a1 a2 a3 a4 a5 a6 tC tS : Nat) (u : XS) (v1 : Int64) (post : Int64 → Prop) : Met l yX0_correction wsX0_correction ({ frames := 1, cells := 0, slots := 0, locals := 24 } : Room) (va_Pc [.ref h0, .long v1] (fun U => XW D cJ h0 a1 a2 a3 a4 a5 a6 tC tS u U U.heap ∧ wX0_correction post u v1)) (vp_Sl post) 0 0 nA := by
  refine Met.ofW (cc := cX0_correction) (maxL := 10) (ret := (some .long)) (by decide +kernel) rfl ?_
  intro p e s m args below meth c s₁ B hml hv
  obtain ⟨rfl, hW, hw⟩ := hv
  have hx := B.exec
  have hb := B.bytes
  have hr := B.returns
  have hts := atoms_spec (ws := wsX0_correction) B.pre
  have hown : s.vm.findClass RX0 = some m.cls := findClass_of_methodNamed B.named
  have hlocks := B.notSynchronized
  have hin : ∀ w ∈ u_ws RX0 TX0 9, w ∈ wsX0_correction := by decide +kernel
  have hl := lv_entry ([.ref h0, .long v1]) (n := 10) (Nat.le_of_ble_eq_true rfl)
  rw [lg_entry_eq]
  generalize (lg_sl ([.ref h0, .long v1]) ++ List.replicate (10 - (lg_sl ([.ref h0, .long v1])).length) Slot.unset).toArray = ls at hl ⊢
  have hl : lv_has ls 10 [(0, .ref h0), (1, .long v1)] := hl
  unfold wX0_correction at hw
  refine lv_lload_n hx hb dX0_correction_0 rfl (lv_at hl 1 rfl) ?_
  refine lv_aload_n hx hb dX0_correction_1 rfl (lv_at hl 0 rfl) ?_
  refine va_get (D := D) (ci := 0) (v := .ref a3) (C := RX0) (T := TX0) (N := 9) hx hb hts hin hown hW.2.1 hW.1 0 rfl rfl 3 (by decide) (hts (.fieldLink RX0 20 "TideDepths" "observedTimes" "[J") (by decide +kernel)) (fun _ h9 => h9) rfl dX0_correction_2 ?_
  refine lv_aload_n hx hb dX0_correction_5 rfl (lv_at hl 0 rfl) ?_
  refine va_get (D := D) (ci := 0) (v := .int (xNO u)) (C := RX0) (T := TX0) (N := 9) hx hb hts hin hown hW.2.1 hW.1 0 rfl rfl 5 (by decide) (hts (.fieldLink RX0 26 "TideDepths" "observations" "I") (by decide +kernel)) (fun _ h9 => h9) rfl dX0_correction_6 ?_
  refine pc_Si (As := [.long v1, .ref a3, .int (xNO u)]) (rest := []) ⟨hx, hb, hml, hown, hts⟩ (mX0_lastNotBehind l D cJ a3 16 (xOT u) v1 (xNO u) _) (va_cwS 3 hts gX0_correction_X0_lastNotBehind rfl rfl rfl (by decide +kernel) ⟨Nat.le_of_ble_eq_true rfl, Nat.le_of_ble_eq_true rfl⟩) wA_bl (wA_in ⟨hW.1.sub [3] rfl, hW.2.1⟩ hw) rfl hl.1 rfl (Nat.le_of_ble_eq_true rfl) dX0_correction_9 ⟨Nat.le_of_ble_eq_true rfl, Nat.le_of_ble_eq_true rfl⟩ (fun r1 hw => ?_)
  refine lv_istore_n (lv' := [(3, .int r1), (0, .ref h0), (1, .long v1)]) hx hb dX0_correction_12 rfl hl (by decide) rfl (fun ls hl => ?_)
  refine lv_iload_n hx hb dX0_correction_13 rfl (lv_at hl 0 rfl) ?_
  refine lv_if_ge (tgt := 19) hx hb dX0_correction_14 (by decide) (fun c2 => ?_) (fun c2 => ?_)
  · have hw := hw.1 c2
    refine lv_aload_n hx hb dX0_correction_19 rfl (lv_at hl 1 rfl) ?_
    refine va_get (D := D) (ci := 0) (v := .ref a4) (C := RX0) (T := TX0) (N := 9) hx hb hts hin hown hW.2.1 hW.1 0 rfl rfl 4 (by decide) (hts (.fieldLink RX0 23 "TideDepths" "differences" "[J") (by decide +kernel)) (fun _ h9 => h9) rfl dX0_correction_20 ?_
    refine lv_iload_n hx hb dX0_correction_23 rfl (lv_at hl 0 rfl) ?_
    obtain ⟨h3, hw⟩ := hw
    refine va_lald hx hb hW.2.1 hW.1 4 0 rfl rfl h3 dX0_correction_24 ?_
    refine lv_lstore (lv' := [(4, .long ((xOD u) (r1).toNatClampNeg)), (3, .int r1), (0, .ref h0), (1, .long v1)]) hx hb dX0_correction_25 hl (by decide) rfl (fun ls hl => ?_)
    refine lv_lload_n hx hb dX0_correction_27 rfl (lv_at hl 3 rfl) ?_
    refine lv_aload_n hx hb dX0_correction_28 rfl (lv_at hl 2 rfl) ?_
    refine va_get (D := D) (ci := 0) (v := .ref a3) (C := RX0) (T := TX0) (N := 9) hx hb hts hin hown hW.2.1 hW.1 0 rfl rfl 3 (by decide) (hts (.fieldLink RX0 20 "TideDepths" "observedTimes" "[J") (by decide +kernel)) (fun _ h9 => h9) rfl dX0_correction_29 ?_
    refine lv_iload_n hx hb dX0_correction_32 rfl (lv_at hl 1 rfl) ?_
    obtain ⟨h4, hw⟩ := hw
    refine va_lald hx hb hW.2.1 hW.1 3 0 rfl rfl h4 dX0_correction_33 ?_
    refine lv_lsub hx hb dX0_correction_34 ?_
    refine lv_ldc2 (v := 600) hx hb hown (hts (.constantLong RX0 211 (600)) (by decide +kernel)) dX0_correction_35 ?_
    refine lv_ldiv hx hb dX0_correction_38 (by decide) ?_
    refine lv_lstore (lv' := [(6, .long ((v1 - ((xOT u) (r1).toNatClampNeg)) / 600)), (4, .long ((xOD u) (r1).toNatClampNeg)), (3, .int r1), (0, .ref h0), (1, .long v1)]) hx hb dX0_correction_39 hl (by decide) rfl (fun ls hl => ?_)
    refine lv_lconst (v := 0) hx hb dX0_correction_41 (by decide) ?_
    refine lv_lstore (lv' := [(8, .long 0), (6, .long ((v1 - ((xOT u) (r1).toNatClampNeg)) / 600)), (4, .long ((xOD u) (r1).toNatClampNeg)), (3, .int r1), (0, .ref h0), (1, .long v1)]) hx hb dX0_correction_42 hl (by decide) rfl (fun ls hl => ?_)
    obtain ⟨n6, hw⟩ := hw
    exact kX0_correction_L44 hx hb hr hml hown hlocks hts hin hW v1 r1 ((v1 - ((xOT u) (r1).toNatClampNeg)) / 600) n6 ((xOD u) (r1).toNatClampNeg) 0 ls (lv_sub hl [4, 5, 3, 2, 1, 0] rfl) hw
  · have hw := hw.2 c2
    refine lv_lconst (v := 0) hx hb dX0_correction_17 (by decide) ?_
    exact W.lret (v := 0) hx hb hr (fun t ht hWm => ⟨_, rfl, hw, ht⟩) t_nil dX0_correction_18

def wX0_heightAt (post : Int64 → Prop) (u : XS) (v1 : Int64) : Prop := (wX0_tableHeight (fun r1 => (wX0_correction (fun r2 => (post (r1 + r2))) u v1)) u v1)

set_option maxHeartbeats 4000000 in
set_option maxRecDepth 100000 in
theorem mX0_heightAt (l : Launch) (D : va_G) (cJ : ClassId) (h0 a1 a2 a3 a4 a5 a6 tC tS : Nat) (u : XS) (v1 : Int64) (post : Int64 → Prop) : Met l yX0_heightAt wsX0_heightAt ({ frames := 2, cells := 0, slots := 0, locals := 55 } : Room) (va_Pc [.ref h0, .long v1] (fun U => XW D cJ h0 a1 a2 a3 a4 a5 a6 tC tS u U U.heap ∧ wX0_heightAt post u v1)) (vp_Sl post) 0 0 nA := by
  refine Met.ofW (cc := cX0_heightAt) (maxL := 3) (ret := (some .long)) (by decide +kernel) rfl ?_
  intro p e s m args below meth c s₁ B hml hv
  obtain ⟨rfl, hW, hw⟩ := hv
  have hx := B.exec
  have hb := B.bytes
  have hr := B.returns
  have hts := atoms_spec (ws := wsX0_heightAt) B.pre
  have hown : s.vm.findClass RX0 = some m.cls := findClass_of_methodNamed B.named
  have hlocks := B.notSynchronized
  have hin : ∀ w ∈ u_ws RX0 TX0 9, w ∈ wsX0_heightAt := by decide +kernel
  have hl := lv_entry ([.ref h0, .long v1]) (n := 3) (Nat.le_of_ble_eq_true rfl)
  rw [lg_entry_eq]
  generalize (lg_sl ([.ref h0, .long v1]) ++ List.replicate (3 - (lg_sl ([.ref h0, .long v1])).length) Slot.unset).toArray = ls at hl ⊢
  have hl : lv_has ls 3 [(0, .ref h0), (1, .long v1)] := hl
  unfold wX0_heightAt at hw
  refine lv_aload_n hx hb dX0_heightAt_0 rfl (lv_at hl 0 rfl) ?_
  refine lv_lload_n hx hb dX0_heightAt_1 rfl (lv_at hl 1 rfl) ?_
  refine pc_Vl (As := [.long v1]) (rest := []) ⟨hx, hb, hml, hown, hts⟩ (mX0_tableHeight l D cJ h0 a1 a2 a3 a4 a5 a6 tC tS u v1 _) (cwV 1 hts gX0_heightAt_X0_tableHeight rfl rfl rfl (by decide +kernel) ⟨Nat.le_of_ble_eq_true rfl, Nat.le_of_ble_eq_true rfl⟩) (wX_rc hW) wX_bl (wX_in hW hw) rfl hl.1 rfl (Nat.le_of_ble_eq_true rfl) dX0_heightAt_2 ⟨Nat.le_of_ble_eq_true rfl, Nat.le_of_ble_eq_true rfl⟩ (fun r1 hw => ?_)
  refine lv_aload_n hx hb dX0_heightAt_5 rfl (lv_at hl 0 rfl) ?_
  refine lv_lload_n hx hb dX0_heightAt_6 rfl (lv_at hl 1 rfl) ?_
  refine pc_Vl (As := [.long v1]) (rest := [.long r1]) ⟨hx, hb, hml, hown, hts⟩ (mX0_correction l D cJ h0 a1 a2 a3 a4 a5 a6 tC tS u v1 _) (cwV 1 hts gX0_heightAt_X0_correction rfl rfl rfl (by decide +kernel) ⟨Nat.le_of_ble_eq_true rfl, Nat.le_of_ble_eq_true rfl⟩) (wX_rc hW) wX_bl (wX_in hW hw) rfl hl.1 rfl (Nat.le_of_ble_eq_true rfl) dX0_heightAt_7 ⟨Nat.le_of_ble_eq_true rfl, Nat.le_of_ble_eq_true rfl⟩ (fun r2 hw => ?_)
  refine lv_ladd hx hb dX0_heightAt_10 ?_
  exact W.lret (v := (r1 + r2)) hx hb hr (fun t ht hWm => ⟨_, rfl, hw, ht⟩) t_nil dX0_heightAt_11

def wX0_correctionEnd (post : Int64 → Prop) (u : XS) (v1 : Int64) : Prop := (wX0_lastNotBehind (fun r1 => (((xNO u) ≤ (r1 + 1) → ((0 ≤ r1 → (vp_in r1 16 ∧ (post (if (((v1 + 600) - 1) - ((v1 - ((xOT u) (r1).toNatClampNeg)) - (v1 - ((xOT u) (r1).toNatClampNeg)) / 600 * 600)) < 20000 then (((v1 + 600) - 1) - ((v1 - ((xOT u) (r1).toNatClampNeg)) - (v1 - ((xOT u) (r1).toNatClampNeg)) / 600 * 600)) else 20000)))) ∧ (¬ 0 ≤ r1 → (post 20000)))) ∧ (¬ (xNO u) ≤ (r1 + 1) → (vp_in (r1 + 1) 16 ∧ ((0 ≤ r1 → (vp_in r1 16 ∧ (post (if (((v1 + 600) - 1) - ((v1 - ((xOT u) (r1).toNatClampNeg)) - (v1 - ((xOT u) (r1).toNatClampNeg)) / 600 * 600)) < (((xOT u) ((r1 + 1)).toNatClampNeg) - 1) then (((v1 + 600) - 1) - ((v1 - ((xOT u) (r1).toNatClampNeg)) - (v1 - ((xOT u) (r1).toNatClampNeg)) / 600 * 600)) else (((xOT u) ((r1 + 1)).toNatClampNeg) - 1))))) ∧ (¬ 0 ≤ r1 → (post (((xOT u) ((r1 + 1)).toNatClampNeg) - 1)))))))) 16 (xOT u) v1 (xNO u))

set_option maxHeartbeats 4000000 in
set_option maxRecDepth 100000 in
theorem mX0_correctionEnd (l : Launch) (D : va_G) (cJ : ClassId) (h0 a1 a2 a3 a4 a5 a6 tC tS : Nat) (u : XS) (v1 : Int64) (post : Int64 → Prop) : Met l yX0_correctionEnd wsX0_correctionEnd ({ frames := 1, cells := 0, slots := 0, locals := 24 } : Room) (va_Pc [.ref h0, .long v1] (fun U => XW D cJ h0 a1 a2 a3 a4 a5 a6 tC tS u U U.heap ∧ wX0_correctionEnd post u v1)) (vp_Sl post) 0 0 nA := by
  refine Met.ofW (cc := cX0_correctionEnd) (maxL := 8) (ret := (some .long)) (by decide +kernel) rfl ?_
  intro p e s m args below meth c s₁ B hml hv
  obtain ⟨rfl, hW, hw⟩ := hv
  have hx := B.exec
  have hb := B.bytes
  have hr := B.returns
  have hts := atoms_spec (ws := wsX0_correctionEnd) B.pre
  have hown : s.vm.findClass RX0 = some m.cls := findClass_of_methodNamed B.named
  have hlocks := B.notSynchronized
  have hin : ∀ w ∈ u_ws RX0 TX0 9, w ∈ wsX0_correctionEnd := by decide +kernel
  have hl := lv_entry ([.ref h0, .long v1]) (n := 8) (Nat.le_of_ble_eq_true rfl)
  rw [lg_entry_eq]
  generalize (lg_sl ([.ref h0, .long v1]) ++ List.replicate (8 - (lg_sl ([.ref h0, .long v1])).length) Slot.unset).toArray = ls at hl ⊢
  have hl : lv_has ls 8 [(0, .ref h0), (1, .long v1)] := hl
  unfold wX0_correctionEnd at hw
  refine lv_ldc2 (v := 20000) hx hb hown (hts (.constantLong RX0 38 (20000)) (by decide +kernel)) dX0_correctionEnd_0 ?_
  refine lv_lstore_n (lv' := [(3, .long 20000), (0, .ref h0), (1, .long v1)]) hx hb dX0_correctionEnd_3 rfl hl (by decide) rfl (fun ls hl => ?_)
  refine lv_lload_n hx hb dX0_correctionEnd_4 rfl (lv_at hl 2 rfl) ?_
  refine lv_aload_n hx hb dX0_correctionEnd_5 rfl (lv_at hl 1 rfl) ?_
  refine va_get (D := D) (ci := 0) (v := .ref a3) (C := RX0) (T := TX0) (N := 9) hx hb hts hin hown hW.2.1 hW.1 0 rfl rfl 3 (by decide) (hts (.fieldLink RX0 20 "TideDepths" "observedTimes" "[J") (by decide +kernel)) (fun _ h9 => h9) rfl dX0_correctionEnd_6 ?_
  refine lv_aload_n hx hb dX0_correctionEnd_9 rfl (lv_at hl 1 rfl) ?_
  refine va_get (D := D) (ci := 0) (v := .int (xNO u)) (C := RX0) (T := TX0) (N := 9) hx hb hts hin hown hW.2.1 hW.1 0 rfl rfl 5 (by decide) (hts (.fieldLink RX0 26 "TideDepths" "observations" "I") (by decide +kernel)) (fun _ h9 => h9) rfl dX0_correctionEnd_10 ?_
  refine pc_Si (As := [.long v1, .ref a3, .int (xNO u)]) (rest := []) ⟨hx, hb, hml, hown, hts⟩ (mX0_lastNotBehind l D cJ a3 16 (xOT u) v1 (xNO u) _) (va_cwS 3 hts gX0_correctionEnd_X0_lastNotBehind rfl rfl rfl (by decide +kernel) ⟨Nat.le_of_ble_eq_true rfl, Nat.le_of_ble_eq_true rfl⟩) wA_bl (wA_in ⟨hW.1.sub [3] rfl, hW.2.1⟩ hw) rfl hl.1 rfl (Nat.le_of_ble_eq_true rfl) dX0_correctionEnd_13 ⟨Nat.le_of_ble_eq_true rfl, Nat.le_of_ble_eq_true rfl⟩ (fun r1 hw => ?_)
  refine lv_istore (lv' := [(5, .int r1), (3, .long 20000), (0, .ref h0), (1, .long v1)]) hx hb dX0_correctionEnd_16 hl (by decide) rfl (fun ls hl => ?_)
  refine lv_iload hx hb dX0_correctionEnd_18 (lv_at hl 0 rfl) ?_
  refine lv_iconst (v := 1) hx hb dX0_correctionEnd_20 (by decide) ?_
  refine lv_iadd hx hb dX0_correctionEnd_21 ?_
  refine lv_aload_n hx hb dX0_correctionEnd_22 rfl (lv_at hl 2 rfl) ?_
  refine va_get (D := D) (ci := 0) (v := .int (xNO u)) (C := RX0) (T := TX0) (N := 9) hx hb hts hin hown hW.2.1 hW.1 0 rfl rfl 5 (by decide) (hts (.fieldLink RX0 26 "TideDepths" "observations" "I") (by decide +kernel)) (fun _ h9 => h9) rfl dX0_correctionEnd_23 ?_
  refine lv_icmp_ge (tgt := 41) hx hb dX0_correctionEnd_26 (by decide) (fun c2 => ?_) (fun c2 => ?_)
  · have hw := hw.1 c2
    refine lv_iload hx hb dX0_correctionEnd_41 (lv_at hl 0 rfl) ?_
    refine lv_if_ge (tgt := 48) hx hb dX0_correctionEnd_43 (by decide) (fun c3 => ?_) (fun c3 => ?_)
    · have hw := hw.1 c3
      refine lv_lload_n hx hb dX0_correctionEnd_48 rfl (lv_at hl 3 rfl) ?_
      refine lv_aload_n hx hb dX0_correctionEnd_49 rfl (lv_at hl 2 rfl) ?_
      refine va_get (D := D) (ci := 0) (v := .ref a3) (C := RX0) (T := TX0) (N := 9) hx hb hts hin hown hW.2.1 hW.1 0 rfl rfl 3 (by decide) (hts (.fieldLink RX0 20 "TideDepths" "observedTimes" "[J") (by decide +kernel)) (fun _ h9 => h9) rfl dX0_correctionEnd_50 ?_
      refine lv_iload hx hb dX0_correctionEnd_53 (lv_at hl 0 rfl) ?_
      obtain ⟨h4, hw⟩ := hw
      refine va_lald hx hb hW.2.1 hW.1 3 0 rfl rfl h4 dX0_correctionEnd_55 ?_
      refine lv_lsub hx hb dX0_correctionEnd_56 ?_
      refine lv_ldc2 (v := 600) hx hb hown (hts (.constantLong RX0 211 (600)) (by decide +kernel)) dX0_correctionEnd_57 ?_
      refine lv_lrem hx hb dX0_correctionEnd_60 (by decide) ?_
      refine lv_lstore (lv' := [(6, .long ((v1 - ((xOT u) (r1).toNatClampNeg)) - (v1 - ((xOT u) (r1).toNatClampNeg)) / 600 * 600)), (5, .int r1), (3, .long 20000), (0, .ref h0), (1, .long v1)]) hx hb dX0_correctionEnd_61 hl (by decide) rfl (fun ls hl => ?_)
      refine lv_lload_n hx hb dX0_correctionEnd_63 rfl (lv_at hl 2 rfl) ?_
      refine lv_lload_n hx hb dX0_correctionEnd_64 rfl (lv_at hl 4 rfl) ?_
      refine lv_ldc2 (v := 600) hx hb hown (hts (.constantLong RX0 211 (600)) (by decide +kernel)) dX0_correctionEnd_65 ?_
      refine lv_ladd hx hb dX0_correctionEnd_68 ?_
      refine lv_lconst (v := 1) hx hb dX0_correctionEnd_69 (by decide) ?_
      refine lv_lsub hx hb dX0_correctionEnd_70 ?_
      refine lv_lload hx hb dX0_correctionEnd_71 (lv_at hl 0 rfl) ?_
      refine lv_lsub hx hb dX0_correctionEnd_73 ?_
      refine va_mmin_long hx hb (hml.trans hl.1.symm) hown (hts (.methodLink RX0 218 Lib.MathLoose.min_long.x) (by decide +kernel)) (hts (.static Lib.MathLoose.min_long.x) (by decide +kernel)) (hts (.initialized "java/lang/Math") (by decide +kernel)) (hts (.code Lib.MathLoose.min_long.x Lib.MathLoose.min_long.code 4 (some .long)) (by decide +kernel)) (Nat.le_of_ble_eq_true rfl) (Nat.le_of_ble_eq_true rfl) (Nat.le_of_ble_eq_true rfl) (Nat.le_of_ble_eq_true rfl) dX0_correctionEnd_74 ?_
      exact W.lret (v := (if (((v1 + 600) - 1) - ((v1 - ((xOT u) (r1).toNatClampNeg)) - (v1 - ((xOT u) (r1).toNatClampNeg)) / 600 * 600)) < 20000 then (((v1 + 600) - 1) - ((v1 - ((xOT u) (r1).toNatClampNeg)) - (v1 - ((xOT u) (r1).toNatClampNeg)) / 600 * 600)) else 20000)) hx hb hr (fun t ht hWm => ⟨_, rfl, hw, ht⟩) t_nil dX0_correctionEnd_77
    · have hw := hw.2 c3
      refine lv_lload_n hx hb dX0_correctionEnd_46 rfl (lv_at hl 1 rfl) ?_
      exact W.lret (v := 20000) hx hb hr (fun t ht hWm => ⟨_, rfl, hw, ht⟩) t_nil dX0_correctionEnd_47
  · have hw := hw.2 c2
    refine lv_aload_n hx hb dX0_correctionEnd_29 rfl (lv_at hl 2 rfl) ?_
    refine va_get (D := D) (ci := 0) (v := .ref a3) (C := RX0) (T := TX0) (N := 9) hx hb hts hin hown hW.2.1 hW.1 0 rfl rfl 3 (by decide) (hts (.fieldLink RX0 20 "TideDepths" "observedTimes" "[J") (by decide +kernel)) (fun _ h9 => h9) rfl dX0_correctionEnd_30 ?_
    refine lv_iload hx hb dX0_correctionEnd_33 (lv_at hl 0 rfl) ?_
    refine lv_iconst (v := 1) hx hb dX0_correctionEnd_35 (by decide) ?_
    refine lv_iadd hx hb dX0_correctionEnd_36 ?_
    obtain ⟨h5, hw⟩ := hw
    refine va_lald hx hb hW.2.1 hW.1 3 0 rfl rfl h5 dX0_correctionEnd_37 ?_
    refine lv_lconst (v := 1) hx hb dX0_correctionEnd_38 (by decide) ?_
    refine lv_lsub hx hb dX0_correctionEnd_39 ?_
    refine lv_lstore_n (lv' := [(3, .long (((xOT u) ((r1 + 1)).toNatClampNeg) - 1)), (5, .int r1), (0, .ref h0), (1, .long v1)]) hx hb dX0_correctionEnd_40 rfl hl (by decide) rfl (fun ls hl => ?_)
    refine lv_iload hx hb dX0_correctionEnd_41 (lv_at hl 1 rfl) ?_
    refine lv_if_ge (tgt := 48) hx hb dX0_correctionEnd_43 (by decide) (fun c6 => ?_) (fun c6 => ?_)
    · have hw := hw.1 c6
      refine lv_lload_n hx hb dX0_correctionEnd_48 rfl (lv_at hl 3 rfl) ?_
      refine lv_aload_n hx hb dX0_correctionEnd_49 rfl (lv_at hl 2 rfl) ?_
      refine va_get (D := D) (ci := 0) (v := .ref a3) (C := RX0) (T := TX0) (N := 9) hx hb hts hin hown hW.2.1 hW.1 0 rfl rfl 3 (by decide) (hts (.fieldLink RX0 20 "TideDepths" "observedTimes" "[J") (by decide +kernel)) (fun _ h9 => h9) rfl dX0_correctionEnd_50 ?_
      refine lv_iload hx hb dX0_correctionEnd_53 (lv_at hl 1 rfl) ?_
      obtain ⟨h7, hw⟩ := hw
      refine va_lald hx hb hW.2.1 hW.1 3 0 rfl rfl h7 dX0_correctionEnd_55 ?_
      refine lv_lsub hx hb dX0_correctionEnd_56 ?_
      refine lv_ldc2 (v := 600) hx hb hown (hts (.constantLong RX0 211 (600)) (by decide +kernel)) dX0_correctionEnd_57 ?_
      refine lv_lrem hx hb dX0_correctionEnd_60 (by decide) ?_
      refine lv_lstore (lv' := [(6, .long ((v1 - ((xOT u) (r1).toNatClampNeg)) - (v1 - ((xOT u) (r1).toNatClampNeg)) / 600 * 600)), (3, .long (((xOT u) ((r1 + 1)).toNatClampNeg) - 1)), (5, .int r1), (0, .ref h0), (1, .long v1)]) hx hb dX0_correctionEnd_61 hl (by decide) rfl (fun ls hl => ?_)
      refine lv_lload_n hx hb dX0_correctionEnd_63 rfl (lv_at hl 1 rfl) ?_
      refine lv_lload_n hx hb dX0_correctionEnd_64 rfl (lv_at hl 4 rfl) ?_
      refine lv_ldc2 (v := 600) hx hb hown (hts (.constantLong RX0 211 (600)) (by decide +kernel)) dX0_correctionEnd_65 ?_
      refine lv_ladd hx hb dX0_correctionEnd_68 ?_
      refine lv_lconst (v := 1) hx hb dX0_correctionEnd_69 (by decide) ?_
      refine lv_lsub hx hb dX0_correctionEnd_70 ?_
      refine lv_lload hx hb dX0_correctionEnd_71 (lv_at hl 0 rfl) ?_
      refine lv_lsub hx hb dX0_correctionEnd_73 ?_
      refine va_mmin_long hx hb (hml.trans hl.1.symm) hown (hts (.methodLink RX0 218 Lib.MathLoose.min_long.x) (by decide +kernel)) (hts (.static Lib.MathLoose.min_long.x) (by decide +kernel)) (hts (.initialized "java/lang/Math") (by decide +kernel)) (hts (.code Lib.MathLoose.min_long.x Lib.MathLoose.min_long.code 4 (some .long)) (by decide +kernel)) (Nat.le_of_ble_eq_true rfl) (Nat.le_of_ble_eq_true rfl) (Nat.le_of_ble_eq_true rfl) (Nat.le_of_ble_eq_true rfl) dX0_correctionEnd_74 ?_
      exact W.lret (v := (if (((v1 + 600) - 1) - ((v1 - ((xOT u) (r1).toNatClampNeg)) - (v1 - ((xOT u) (r1).toNatClampNeg)) / 600 * 600)) < (((xOT u) ((r1 + 1)).toNatClampNeg) - 1) then (((v1 + 600) - 1) - ((v1 - ((xOT u) (r1).toNatClampNeg)) - (v1 - ((xOT u) (r1).toNatClampNeg)) / 600 * 600)) else (((xOT u) ((r1 + 1)).toNatClampNeg) - 1))) hx hb hr (fun t ht hWm => ⟨_, rfl, hw, ht⟩) t_nil dX0_correctionEnd_77
    · have hw := hw.2 c6
      refine lv_lload_n hx hb dX0_correctionEnd_46 rfl (lv_at hl 0 rfl) ?_
      exact W.lret (v := (((xOT u) ((r1 + 1)).toNatClampNeg) - 1)) hx hb hr (fun t ht hWm => ⟨_, rfl, hw, ht⟩) t_nil dX0_correctionEnd_47

def wX0_stretchEnd (post : Int64 → Prop) (u : XS) (v1 : Int64) : Prop := (wX0_lastNotBehind (fun r1 => (((xNT u) ≤ (r1 + 1) → (wX0_lastSecond (fun r3 => (wX0_correctionEnd (fun r4 => (post (if r4 < r3 then r4 else r3))) u v1)) u)) ∧ (¬ (xNT u) ≤ (r1 + 1) → (vp_in (r1 + 1) 40 ∧ (wX0_correctionEnd (fun r6 => (post (if r6 < ((xTT u) ((r1 + 1)).toNatClampNeg) then r6 else ((xTT u) ((r1 + 1)).toNatClampNeg)))) u v1))))) 40 (xTT u) v1 (xNT u))

set_option maxHeartbeats 4000000 in
set_option maxRecDepth 100000 in
theorem mX0_stretchEnd (l : Launch) (D : va_G) (cJ : ClassId) (h0 a1 a2 a3 a4 a5 a6 tC tS : Nat) (u : XS) (v1 : Int64) (post : Int64 → Prop) : Met l yX0_stretchEnd wsX0_stretchEnd ({ frames := 2, cells := 0, slots := 0, locals := 51 } : Room) (va_Pc [.ref h0, .long v1] (fun U => XW D cJ h0 a1 a2 a3 a4 a5 a6 tC tS u U U.heap ∧ wX0_stretchEnd post u v1)) (vp_Sl post) 0 0 nA := by
  refine Met.ofW (cc := cX0_stretchEnd) (maxL := 6) (ret := (some .long)) (by decide +kernel) rfl ?_
  intro p e s m args below meth c s₁ B hml hv
  obtain ⟨rfl, hW, hw⟩ := hv
  have hx := B.exec
  have hb := B.bytes
  have hr := B.returns
  have hts := atoms_spec (ws := wsX0_stretchEnd) B.pre
  have hown : s.vm.findClass RX0 = some m.cls := findClass_of_methodNamed B.named
  have hlocks := B.notSynchronized
  have hin : ∀ w ∈ u_ws RX0 TX0 9, w ∈ wsX0_stretchEnd := by decide +kernel
  have hl := lv_entry ([.ref h0, .long v1]) (n := 6) (Nat.le_of_ble_eq_true rfl)
  rw [lg_entry_eq]
  generalize (lg_sl ([.ref h0, .long v1]) ++ List.replicate (6 - (lg_sl ([.ref h0, .long v1])).length) Slot.unset).toArray = ls at hl ⊢
  have hl : lv_has ls 6 [(0, .ref h0), (1, .long v1)] := hl
  unfold wX0_stretchEnd at hw
  refine lv_lload_n hx hb dX0_stretchEnd_0 rfl (lv_at hl 1 rfl) ?_
  refine lv_aload_n hx hb dX0_stretchEnd_1 rfl (lv_at hl 0 rfl) ?_
  refine va_get (D := D) (ci := 0) (v := .ref a1) (C := RX0) (T := TX0) (N := 9) hx hb hts hin hown hW.2.1 hW.1 0 rfl rfl 0 (by decide) (hts (.fieldLink RX0 9 "TideDepths" "turnTimes" "[J") (by decide +kernel)) (fun _ h9 => h9) rfl dX0_stretchEnd_2 ?_
  refine lv_aload_n hx hb dX0_stretchEnd_5 rfl (lv_at hl 0 rfl) ?_
  refine va_get (D := D) (ci := 0) (v := .int (xNT u)) (C := RX0) (T := TX0) (N := 9) hx hb hts hin hown hW.2.1 hW.1 0 rfl rfl 2 (by decide) (hts (.fieldLink RX0 16 "TideDepths" "turns" "I") (by decide +kernel)) (fun _ h9 => h9) rfl dX0_stretchEnd_6 ?_
  refine pc_Si (As := [.long v1, .ref a1, .int (xNT u)]) (rest := []) ⟨hx, hb, hml, hown, hts⟩ (mX0_lastNotBehind l D cJ a1 40 (xTT u) v1 (xNT u) _) (va_cwS 3 hts gX0_stretchEnd_X0_lastNotBehind rfl rfl rfl (by decide +kernel) ⟨Nat.le_of_ble_eq_true rfl, Nat.le_of_ble_eq_true rfl⟩) wA_bl (wA_in ⟨hW.1.sub [1] rfl, hW.2.1⟩ hw) rfl hl.1 rfl (Nat.le_of_ble_eq_true rfl) dX0_stretchEnd_9 ⟨Nat.le_of_ble_eq_true rfl, Nat.le_of_ble_eq_true rfl⟩ (fun r1 hw => ?_)
  refine lv_istore_n (lv' := [(3, .int r1), (0, .ref h0), (1, .long v1)]) hx hb dX0_stretchEnd_12 rfl hl (by decide) rfl (fun ls hl => ?_)
  refine lv_iload_n hx hb dX0_stretchEnd_13 rfl (lv_at hl 0 rfl) ?_
  refine lv_iconst (v := 1) hx hb dX0_stretchEnd_14 (by decide) ?_
  refine lv_iadd hx hb dX0_stretchEnd_15 ?_
  refine lv_aload_n hx hb dX0_stretchEnd_16 rfl (lv_at hl 1 rfl) ?_
  refine va_get (D := D) (ci := 0) (v := .int (xNT u)) (C := RX0) (T := TX0) (N := 9) hx hb hts hin hown hW.2.1 hW.1 0 rfl rfl 2 (by decide) (hts (.fieldLink RX0 16 "TideDepths" "turns" "I") (by decide +kernel)) (fun _ h9 => h9) rfl dX0_stretchEnd_17 ?_
  refine lv_icmp_ge (tgt := 34) hx hb dX0_stretchEnd_20 (by decide) (fun c2 => ?_) (fun c2 => ?_)
  · have hw := hw.1 c2
    refine lv_aload_n hx hb dX0_stretchEnd_34 rfl (lv_at hl 1 rfl) ?_
    refine pc_Vl (As := []) (rest := []) ⟨hx, hb, hml, hown, hts⟩ (mX0_lastSecond l D cJ h0 a1 a2 a3 a4 a5 a6 tC tS u _) (cwV 0 hts gX0_stretchEnd_X0_lastSecond rfl rfl rfl (by decide +kernel) ⟨Nat.le_of_ble_eq_true rfl, Nat.le_of_ble_eq_true rfl⟩) (wX_rc hW) wX_bl (wX_in hW hw) rfl hl.1 rfl (Nat.le_of_ble_eq_true rfl) dX0_stretchEnd_35 ⟨Nat.le_of_ble_eq_true rfl, Nat.le_of_ble_eq_true rfl⟩ (fun r3 hw => ?_)
    refine lv_lstore (lv' := [(4, .long r3), (3, .int r1), (0, .ref h0), (1, .long v1)]) hx hb dX0_stretchEnd_38 hl (by decide) rfl (fun ls hl => ?_)
    refine lv_lload hx hb dX0_stretchEnd_40 (lv_at hl 0 rfl) ?_
    refine lv_aload_n hx hb dX0_stretchEnd_42 rfl (lv_at hl 2 rfl) ?_
    refine lv_lload_n hx hb dX0_stretchEnd_43 rfl (lv_at hl 3 rfl) ?_
    refine pc_Vl (As := [.long v1]) (rest := [.long r3]) ⟨hx, hb, hml, hown, hts⟩ (mX0_correctionEnd l D cJ h0 a1 a2 a3 a4 a5 a6 tC tS u v1 _) (cwV 1 hts gX0_stretchEnd_X0_correctionEnd rfl rfl rfl (by decide +kernel) ⟨Nat.le_of_ble_eq_true rfl, Nat.le_of_ble_eq_true rfl⟩) (wX_rc hW) wX_bl (wX_in hW hw) rfl hl.1 rfl (Nat.le_of_ble_eq_true rfl) dX0_stretchEnd_44 ⟨Nat.le_of_ble_eq_true rfl, Nat.le_of_ble_eq_true rfl⟩ (fun r4 hw => ?_)
    refine va_mmin_long hx hb (hml.trans hl.1.symm) hown (hts (.methodLink RX0 218 Lib.MathLoose.min_long.x) (by decide +kernel)) (hts (.static Lib.MathLoose.min_long.x) (by decide +kernel)) (hts (.initialized "java/lang/Math") (by decide +kernel)) (hts (.code Lib.MathLoose.min_long.x Lib.MathLoose.min_long.code 4 (some .long)) (by decide +kernel)) (Nat.le_of_ble_eq_true rfl) (Nat.le_of_ble_eq_true rfl) (Nat.le_of_ble_eq_true rfl) (Nat.le_of_ble_eq_true rfl) dX0_stretchEnd_47 ?_
    exact W.lret (v := (if r4 < r3 then r4 else r3)) hx hb hr (fun t ht hWm => ⟨_, rfl, hw, ht⟩) t_nil dX0_stretchEnd_50
  · have hw := hw.2 c2
    refine lv_aload_n hx hb dX0_stretchEnd_23 rfl (lv_at hl 1 rfl) ?_
    refine va_get (D := D) (ci := 0) (v := .ref a1) (C := RX0) (T := TX0) (N := 9) hx hb hts hin hown hW.2.1 hW.1 0 rfl rfl 0 (by decide) (hts (.fieldLink RX0 9 "TideDepths" "turnTimes" "[J") (by decide +kernel)) (fun _ h9 => h9) rfl dX0_stretchEnd_24 ?_
    refine lv_iload_n hx hb dX0_stretchEnd_27 rfl (lv_at hl 0 rfl) ?_
    refine lv_iconst (v := 1) hx hb dX0_stretchEnd_28 (by decide) ?_
    refine lv_iadd hx hb dX0_stretchEnd_29 ?_
    obtain ⟨h5, hw⟩ := hw
    refine va_lald hx hb hW.2.1 hW.1 1 0 rfl rfl h5 dX0_stretchEnd_30 ?_
    refine lv_goto (tgt := 38) hx hb dX0_stretchEnd_31 (by decide) ?_
    refine lv_lstore (lv' := [(4, .long ((xTT u) ((r1 + 1)).toNatClampNeg)), (3, .int r1), (0, .ref h0), (1, .long v1)]) hx hb dX0_stretchEnd_38 hl (by decide) rfl (fun ls hl => ?_)
    refine lv_lload hx hb dX0_stretchEnd_40 (lv_at hl 0 rfl) ?_
    refine lv_aload_n hx hb dX0_stretchEnd_42 rfl (lv_at hl 2 rfl) ?_
    refine lv_lload_n hx hb dX0_stretchEnd_43 rfl (lv_at hl 3 rfl) ?_
    refine pc_Vl (As := [.long v1]) (rest := [.long ((xTT u) ((r1 + 1)).toNatClampNeg)]) ⟨hx, hb, hml, hown, hts⟩ (mX0_correctionEnd l D cJ h0 a1 a2 a3 a4 a5 a6 tC tS u v1 _) (cwV 1 hts gX0_stretchEnd_X0_correctionEnd rfl rfl rfl (by decide +kernel) ⟨Nat.le_of_ble_eq_true rfl, Nat.le_of_ble_eq_true rfl⟩) (wX_rc hW) wX_bl (wX_in hW hw) rfl hl.1 rfl (Nat.le_of_ble_eq_true rfl) dX0_stretchEnd_44 ⟨Nat.le_of_ble_eq_true rfl, Nat.le_of_ble_eq_true rfl⟩ (fun r6 hw => ?_)
    refine va_mmin_long hx hb (hml.trans hl.1.symm) hown (hts (.methodLink RX0 218 Lib.MathLoose.min_long.x) (by decide +kernel)) (hts (.static Lib.MathLoose.min_long.x) (by decide +kernel)) (hts (.initialized "java/lang/Math") (by decide +kernel)) (hts (.code Lib.MathLoose.min_long.x Lib.MathLoose.min_long.code 4 (some .long)) (by decide +kernel)) (Nat.le_of_ble_eq_true rfl) (Nat.le_of_ble_eq_true rfl) (Nat.le_of_ble_eq_true rfl) (Nat.le_of_ble_eq_true rfl) dX0_stretchEnd_47 ?_
    exact W.lret (v := (if r6 < ((xTT u) ((r1 + 1)).toNatClampNeg) then r6 else ((xTT u) ((r1 + 1)).toNatClampNeg))) hx hb hr (fun t ht hWm => ⟨_, rfl, hw, ht⟩) t_nil dX0_stretchEnd_50
