def wL_turn (post : Int32 → XS × (Nat → Int64) → Prop) (u : XS) (f : Nat → Int64) (v1 : Int64) (v3 : Int64) : Prop := (wX0_turn (fun r u2 => (post 0 (u2, (vp_updL f 0 (r).toInt64)))) (fun k9 => (k9 = 0 → (post 1 (u, f))) ∧ (k9 = 1 → (post 2 (u, f))) ∧ (k9 = 0 ∨ k9 = 1)) u v1 v3)

set_option maxHeartbeats 4000000 in
set_option maxRecDepth 100000 in
theorem mL_turn (l : Launch) (hst : l.stackTraces = false) (D : va_G) (cJ : ClassId) (h0 a1 a2 a3 a4 a5 a6 tC tS qo sz : Nat) (u : XS) (f : Nat → Int64) (v1 : Int64) (v3 : Int64) (post : Int32 → XS × (Nat → Int64) → Prop) : Met l yL_turn wsL_turn ({ frames := 7, cells := 1, slots := 6, locals := 114 } : Room) (va_Pc [.ref h0, .long v1, .long v3, .ref qo] (fun U => LE D cJ h0 a1 a2 a3 a4 a5 a6 tC tS qo sz u f U ∧ wL_turn post u f v1 v3)) (va_Qi post (fun w9 t9 => LTt D cJ h0 a1 a2 a3 a4 a5 a6 qo (va_A (lW cJ h0 a1 a2 a3 a4 a5 a6 qo u f) sz) w9 t9) (va_A (lW cJ h0 a1 a2 a3 a4 a5 a6 qo u f) sz)) 1 6 (va_A (lW cJ h0 a1 a2 a3 a4 a5 a6 qo u f) sz) := by
  refine va_MetW (cc := cL_turn) (maxL := 7) (ret := some .int) (hh := [(0, 11, 14, 13), (0, 11, 18, 15)]) (by decide +kernel) rfl ?_
  intro p e s m args below meth c s₁ B hml hv
  obtain ⟨rfl, ⟨hsz, hP, hK, hD0, hZ, hT, hNC⟩, hw⟩ := hv
  have hx := B.exec
  have hb := B.bytes
  have hr := B.returns
  have hts := atoms_spec (ws := wsL_turn) B.pre
  have hown : s.vm.findClass RL = some m.cls := findClass_of_methodNamed B.named
  have hlocks := B.notSynchronized
  have htab : c.exceptionTable.toList = tableOf [(0, 11, 14, 13), (0, 11, 18, 15)] := vx_table (x := yL_turn) B (hts _ List.mem_cons_self)
  subst hsz
  have hD := hD0.self (sz := s.heap.size)
  generalize hAe : va_A (lW cJ h0 a1 a2 a3 a4 a5 a6 qo u f) s.heap.size = A at hD hZ hT ⊢
  have hA : ∀ q : Nat, s.heap.size ≤ q → A q := fun q h => by rw [← hAe]; exact Or.inr h
  have hG : GL D cJ h0 a1 a2 a3 a4 a5 a6 tC tS qo A u f s s.heap [] := ⟨hP, hK, hD, va_S.rf, hA, hZ, hT⟩
  have hl := lv_entry ([.ref h0, .long v1, .long v3, .ref qo]) (n := 7) (Nat.le_of_ble_eq_true rfl)
  rw [lg_entry_eq]
  generalize (lg_sl ([.ref h0, .long v1, .long v3, .ref qo]) ++ List.replicate (7 - (lg_sl ([.ref h0, .long v1, .long v3, .ref qo])).length) Slot.unset).toArray = ls at hl ⊢
  have hl : lv_has ls 7 [(0, .ref h0), (1, .long v1), (3, .long v3), (5, .ref qo)] := hl
  unfold wL_turn at hw
  refine lv_aload hx hb dL_turn_0 (lv_at hl 3 rfl) ?_
  refine lv_iconst (v := 0) hx hb dL_turn_2 (by decide) ?_
  refine lv_aload_n hx hb dL_turn_3 rfl (lv_at hl 0 rfl) ?_
  refine lv_lload_n hx hb dL_turn_4 rfl (lv_at hl 1 rfl) ?_
  refine lv_lload_n hx hb dL_turn_5 rfl (lv_at hl 2 rfl) ?_
  refine Lc_i (As := [.long v1, .long v3]) (rest := [.int 0, .ref qo]) ⟨hx, hb, hml, hown, hts⟩ (mX0_turn l hst D cJ h0 a1 a2 a3 a4 a5 a6 tC tS s.heap.size u v1 v3 _ _) (cwV 2 hts gL_turn_X0_turn rfl rfl rfl (by decide +kernel) ⟨Nat.le_of_ble_eq_true rfl, Nat.le_of_ble_eq_true rfl⟩) hG hw rfl hl.1 rfl (Nat.le_of_ble_eq_true rfl) dL_turn_6 ⟨Nat.le_of_ble_eq_true rfl, Nat.le_of_ble_eq_true rfl⟩ (fun k9 q9 ce9 H locs hk9 hG hce hcv hcl => ?_) (fun r u2 H locs hw hG => ?_)
  · obtain ⟨g0, g1, (rfl | rfl)⟩ := hk9
    · have hw := g0 rfl
      refine vc_catch (hp := 14) hown (by rw [htab]; exact ⟨by decide, by decide, "java/lang/IllegalArgumentException", hts (.classLink RL 13 "java/lang/IllegalArgumentException") (by decide +kernel), Or.inl ⟨va_Nw.use rfl (hG.2.2.2.2.2.2.2.2 (.castable "java/lang/IllegalArgumentException" "java/lang/IllegalArgumentException") (by decide +kernel)), rfl⟩⟩) hce hcv hcl ?_
      refine lv_astore (lv' := [(6, .ref q9), (0, .ref h0), (1, .long v1), (3, .long v3), (5, .ref qo)]) hx hb dL_turn_14 hl (by decide) rfl (fun ls hl => ?_)
      refine lv_iconst (v := 1) hx hb dL_turn_16 (by decide) ?_
      exact W.iret (v := 1) hx hb hr (fun t ht hWm => ⟨⟨1, (u, f), rfl, hw, by rw [ht]; exact hG.1, va_K.moved hWm.alike hG.2.1, hG.2.2.1⟩, hG.2.2.2.1.F ht⟩) hG.2.2.2.1.2.2 dL_turn_17
    · have hw := g1 rfl
      refine vc_catch (hp := 18) hown (by rw [htab]; exact ⟨by decide, by decide, "java/lang/IllegalArgumentException", hts (.classLink RL 13 "java/lang/IllegalArgumentException") (by decide +kernel), Or.inr ⟨hNC.1, ⟨by decide, by decide, "java/lang/IllegalStateException", hts (.classLink RL 15 "java/lang/IllegalStateException") (by decide +kernel), Or.inl ⟨va_Nw.use rfl (hG.2.2.2.2.2.2.2.2 (.castable "java/lang/IllegalStateException" "java/lang/IllegalStateException") (by decide +kernel)), rfl⟩⟩⟩⟩) hce hcv hcl ?_
      refine lv_astore (lv' := [(6, .ref q9), (0, .ref h0), (1, .long v1), (3, .long v3), (5, .ref qo)]) hx hb dL_turn_18 hl (by decide) rfl (fun ls hl => ?_)
      refine lv_iconst (v := 2) hx hb dL_turn_20 (by decide) ?_
      exact W.iret (v := 2) hx hb hr (fun t ht hWm => ⟨⟨2, (u, f), rfl, hw, by rw [ht]; exact hG.1, va_K.moved hWm.alike hG.2.1, hG.2.2.1⟩, hG.2.2.2.1.F ht⟩) hG.2.2.2.1.2.2 dL_turn_21
  ·
    refine lv_i2l (v := (r).toInt64) hx hb dL_turn_9 rfl ?_
    obtain ⟨hP, hK, hD, hS, hA, hZ, hT⟩ := hG
    refine va_last hx hb hK hP hD hS 0 0 rfl rfl (by unfold vp_in; decide) dL_turn_10 (fun H locs hP hD hS => ?_)
    have hG : GL D cJ h0 a1 a2 a3 a4 a5 a6 tC tS qo A u2 (vp_updL f 0 (r).toInt64) s H locs := ⟨hP, hK, hD, hS, hA, hZ, hT⟩
    refine lv_goto (tgt := 22) hx hb dL_turn_11 (by decide) ?_
    refine lv_iconst (v := 0) hx hb dL_turn_22 (by decide) ?_
    exact W.iret (v := 0) hx hb hr (fun t ht hWm => ⟨⟨0, (u2, (vp_updL f 0 (r).toInt64)), rfl, hw, by rw [ht]; exact hG.1, va_K.moved hWm.alike hG.2.1, hG.2.2.1⟩, hG.2.2.2.1.F ht⟩) hG.2.2.2.1.2.2 dL_turn_23

def wL_height (post : Int32 → XS × (Nat → Int64) → Prop) (u : XS) (f : Nat → Int64) (v1 : Int64) : Prop := (wX0_height (fun r u2 => (post 0 (u2, (vp_updL f 0 r)))) (fun k9 => (k9 = 0 → (post 1 (u, f))) ∧ (k9 = 0)) u v1)

set_option maxHeartbeats 4000000 in
set_option maxRecDepth 100000 in
theorem mL_height (l : Launch) (hst : l.stackTraces = false) (D : va_G) (cJ : ClassId) (h0 a1 a2 a3 a4 a5 a6 tC tS qo sz : Nat) (u : XS) (f : Nat → Int64) (v1 : Int64) (post : Int32 → XS × (Nat → Int64) → Prop) : Met l yL_height wsL_height ({ frames := 7, cells := 1, slots := 6, locals := 112 } : Room) (va_Pc [.ref h0, .long v1, .ref qo] (fun U => LE D cJ h0 a1 a2 a3 a4 a5 a6 tC tS qo sz u f U ∧ wL_height post u f v1)) (va_Qi post (fun w9 t9 => LTt D cJ h0 a1 a2 a3 a4 a5 a6 qo (va_A (lW cJ h0 a1 a2 a3 a4 a5 a6 qo u f) sz) w9 t9) (va_A (lW cJ h0 a1 a2 a3 a4 a5 a6 qo u f) sz)) 1 6 (va_A (lW cJ h0 a1 a2 a3 a4 a5 a6 qo u f) sz) := by
  refine va_MetW (cc := cL_height) (maxL := 5) (ret := some .int) (hh := [(0, 8, 11, 13)]) (by decide +kernel) rfl ?_
  intro p e s m args below meth c s₁ B hml hv
  obtain ⟨rfl, ⟨hsz, hP, hK, hD0, hZ, hT, hNC⟩, hw⟩ := hv
  have hx := B.exec
  have hb := B.bytes
  have hr := B.returns
  have hts := atoms_spec (ws := wsL_height) B.pre
  have hown : s.vm.findClass RL = some m.cls := findClass_of_methodNamed B.named
  have hlocks := B.notSynchronized
  have htab : c.exceptionTable.toList = tableOf [(0, 8, 11, 13)] := vx_table (x := yL_turn) B (hts _ List.mem_cons_self)
  subst hsz
  have hD := hD0.self (sz := s.heap.size)
  generalize hAe : va_A (lW cJ h0 a1 a2 a3 a4 a5 a6 qo u f) s.heap.size = A at hD hZ hT ⊢
  have hA : ∀ q : Nat, s.heap.size ≤ q → A q := fun q h => by rw [← hAe]; exact Or.inr h
  have hG : GL D cJ h0 a1 a2 a3 a4 a5 a6 tC tS qo A u f s s.heap [] := ⟨hP, hK, hD, va_S.rf, hA, hZ, hT⟩
  have hl := lv_entry ([.ref h0, .long v1, .ref qo]) (n := 5) (Nat.le_of_ble_eq_true rfl)
  rw [lg_entry_eq]
  generalize (lg_sl ([.ref h0, .long v1, .ref qo]) ++ List.replicate (5 - (lg_sl ([.ref h0, .long v1, .ref qo])).length) Slot.unset).toArray = ls at hl ⊢
  have hl : lv_has ls 5 [(0, .ref h0), (1, .long v1), (3, .ref qo)] := hl
  unfold wL_height at hw
  refine lv_aload_n hx hb dL_height_0 rfl (lv_at hl 2 rfl) ?_
  refine lv_iconst (v := 0) hx hb dL_height_1 (by decide) ?_
  refine lv_aload_n hx hb dL_height_2 rfl (lv_at hl 0 rfl) ?_
  refine lv_lload_n hx hb dL_height_3 rfl (lv_at hl 1 rfl) ?_
  refine Lc_l (As := [.long v1]) (rest := [.int 0, .ref qo]) ⟨hx, hb, hml, hown, hts⟩ (mX0_height l hst D cJ h0 a1 a2 a3 a4 a5 a6 tC tS s.heap.size u v1 _ _) (cwV 1 hts gL_height_X0_height rfl rfl rfl (by decide +kernel) ⟨Nat.le_of_ble_eq_true rfl, Nat.le_of_ble_eq_true rfl⟩) hG hw rfl hl.1 rfl (Nat.le_of_ble_eq_true rfl) dL_height_4 ⟨Nat.le_of_ble_eq_true rfl, Nat.le_of_ble_eq_true rfl⟩ (fun k9 q9 ce9 H locs hk9 hG hce hcv hcl => ?_) (fun r u2 H locs hw hG => ?_)
  · obtain ⟨g0, (rfl)⟩ := hk9
    · have hw := g0 rfl
      refine vc_catch (hp := 11) hown (by rw [htab]; exact ⟨by decide, by decide, "java/lang/IllegalArgumentException", hts (.classLink RL 13 "java/lang/IllegalArgumentException") (by decide +kernel), Or.inl ⟨va_Nw.use rfl (hG.2.2.2.2.2.2.2.2 (.castable "java/lang/IllegalArgumentException" "java/lang/IllegalArgumentException") (by decide +kernel)), rfl⟩⟩) hce hcv hcl ?_
      refine lv_astore (lv' := [(4, .ref q9), (0, .ref h0), (1, .long v1), (3, .ref qo)]) hx hb dL_height_11 hl (by decide) rfl (fun ls hl => ?_)
      refine lv_iconst (v := 1) hx hb dL_height_13 (by decide) ?_
      exact W.iret (v := 1) hx hb hr (fun t ht hWm => ⟨⟨1, (u, f), rfl, hw, by rw [ht]; exact hG.1, va_K.moved hWm.alike hG.2.1, hG.2.2.1⟩, hG.2.2.2.1.F ht⟩) hG.2.2.2.1.2.2 dL_height_14
  ·
    obtain ⟨hP, hK, hD, hS, hA, hZ, hT⟩ := hG
    refine va_last hx hb hK hP hD hS 0 0 rfl rfl (by unfold vp_in; decide) dL_height_7 (fun H locs hP hD hS => ?_)
    have hG : GL D cJ h0 a1 a2 a3 a4 a5 a6 tC tS qo A u2 (vp_updL f 0 r) s H locs := ⟨hP, hK, hD, hS, hA, hZ, hT⟩
    refine lv_goto (tgt := 15) hx hb dL_height_8 (by decide) ?_
    refine lv_iconst (v := 0) hx hb dL_height_15 (by decide) ?_
    exact W.iret (v := 0) hx hb hr (fun t ht hWm => ⟨⟨0, (u2, (vp_updL f 0 r)), rfl, hw, by rw [ht]; exact hG.1, va_K.moved hWm.alike hG.2.1, hG.2.2.1⟩, hG.2.2.2.1.F ht⟩) hG.2.2.2.1.2.2 dL_height_16

def wL_observe (post : Int32 → XS × (Nat → Int64) → Prop) (u : XS) (f : Nat → Int64) (v1 : Int64) (v3 : Int64) : Prop := (wX0_observe (fun r u2 => (post 0 (u2, (vp_updL f 0 (r).toInt64)))) (fun k9 => (k9 = 0 → (post 1 (u, f))) ∧ (k9 = 1 → (post 2 (u, f))) ∧ (k9 = 0 ∨ k9 = 1)) u v1 v3)

set_option maxHeartbeats 4000000 in
set_option maxRecDepth 100000 in
theorem mL_observe (l : Launch) (hst : l.stackTraces = false) (D : va_G) (cJ : ClassId) (h0 a1 a2 a3 a4 a5 a6 tC tS qo sz : Nat) (u : XS) (f : Nat → Int64) (v1 : Int64) (v3 : Int64) (post : Int32 → XS × (Nat → Int64) → Prop) : Met l yL_observe wsL_observe ({ frames := 7, cells := 1, slots := 6, locals := 114 } : Room) (va_Pc [.ref h0, .long v1, .long v3, .ref qo] (fun U => LE D cJ h0 a1 a2 a3 a4 a5 a6 tC tS qo sz u f U ∧ wL_observe post u f v1 v3)) (va_Qi post (fun w9 t9 => LTt D cJ h0 a1 a2 a3 a4 a5 a6 qo (va_A (lW cJ h0 a1 a2 a3 a4 a5 a6 qo u f) sz) w9 t9) (va_A (lW cJ h0 a1 a2 a3 a4 a5 a6 qo u f) sz)) 1 6 (va_A (lW cJ h0 a1 a2 a3 a4 a5 a6 qo u f) sz) := by
  refine va_MetW (cc := cL_observe) (maxL := 7) (ret := some .int) (hh := [(0, 11, 14, 13), (0, 11, 18, 15)]) (by decide +kernel) rfl ?_
  intro p e s m args below meth c s₁ B hml hv
  obtain ⟨rfl, ⟨hsz, hP, hK, hD0, hZ, hT, hNC⟩, hw⟩ := hv
  have hx := B.exec
  have hb := B.bytes
  have hr := B.returns
  have hts := atoms_spec (ws := wsL_observe) B.pre
  have hown : s.vm.findClass RL = some m.cls := findClass_of_methodNamed B.named
  have hlocks := B.notSynchronized
  have htab : c.exceptionTable.toList = tableOf [(0, 11, 14, 13), (0, 11, 18, 15)] := vx_table (x := yL_turn) B (hts _ List.mem_cons_self)
  subst hsz
  have hD := hD0.self (sz := s.heap.size)
  generalize hAe : va_A (lW cJ h0 a1 a2 a3 a4 a5 a6 qo u f) s.heap.size = A at hD hZ hT ⊢
  have hA : ∀ q : Nat, s.heap.size ≤ q → A q := fun q h => by rw [← hAe]; exact Or.inr h
  have hG : GL D cJ h0 a1 a2 a3 a4 a5 a6 tC tS qo A u f s s.heap [] := ⟨hP, hK, hD, va_S.rf, hA, hZ, hT⟩
  have hl := lv_entry ([.ref h0, .long v1, .long v3, .ref qo]) (n := 7) (Nat.le_of_ble_eq_true rfl)
  rw [lg_entry_eq]
  generalize (lg_sl ([.ref h0, .long v1, .long v3, .ref qo]) ++ List.replicate (7 - (lg_sl ([.ref h0, .long v1, .long v3, .ref qo])).length) Slot.unset).toArray = ls at hl ⊢
  have hl : lv_has ls 7 [(0, .ref h0), (1, .long v1), (3, .long v3), (5, .ref qo)] := hl
  unfold wL_observe at hw
  refine lv_aload hx hb dL_observe_0 (lv_at hl 3 rfl) ?_
  refine lv_iconst (v := 0) hx hb dL_observe_2 (by decide) ?_
  refine lv_aload_n hx hb dL_observe_3 rfl (lv_at hl 0 rfl) ?_
  refine lv_lload_n hx hb dL_observe_4 rfl (lv_at hl 1 rfl) ?_
  refine lv_lload_n hx hb dL_observe_5 rfl (lv_at hl 2 rfl) ?_
  refine Lc_i (As := [.long v1, .long v3]) (rest := [.int 0, .ref qo]) ⟨hx, hb, hml, hown, hts⟩ (mX0_observe l hst D cJ h0 a1 a2 a3 a4 a5 a6 tC tS s.heap.size u v1 v3 _ _) (cwV 2 hts gL_observe_X0_observe rfl rfl rfl (by decide +kernel) ⟨Nat.le_of_ble_eq_true rfl, Nat.le_of_ble_eq_true rfl⟩) hG hw rfl hl.1 rfl (Nat.le_of_ble_eq_true rfl) dL_observe_6 ⟨Nat.le_of_ble_eq_true rfl, Nat.le_of_ble_eq_true rfl⟩ (fun k9 q9 ce9 H locs hk9 hG hce hcv hcl => ?_) (fun r u2 H locs hw hG => ?_)
  · obtain ⟨g0, g1, (rfl | rfl)⟩ := hk9
    · have hw := g0 rfl
      refine vc_catch (hp := 14) hown (by rw [htab]; exact ⟨by decide, by decide, "java/lang/IllegalArgumentException", hts (.classLink RL 13 "java/lang/IllegalArgumentException") (by decide +kernel), Or.inl ⟨va_Nw.use rfl (hG.2.2.2.2.2.2.2.2 (.castable "java/lang/IllegalArgumentException" "java/lang/IllegalArgumentException") (by decide +kernel)), rfl⟩⟩) hce hcv hcl ?_
      refine lv_astore (lv' := [(6, .ref q9), (0, .ref h0), (1, .long v1), (3, .long v3), (5, .ref qo)]) hx hb dL_observe_14 hl (by decide) rfl (fun ls hl => ?_)
      refine lv_iconst (v := 1) hx hb dL_observe_16 (by decide) ?_
      exact W.iret (v := 1) hx hb hr (fun t ht hWm => ⟨⟨1, (u, f), rfl, hw, by rw [ht]; exact hG.1, va_K.moved hWm.alike hG.2.1, hG.2.2.1⟩, hG.2.2.2.1.F ht⟩) hG.2.2.2.1.2.2 dL_observe_17
    · have hw := g1 rfl
      refine vc_catch (hp := 18) hown (by rw [htab]; exact ⟨by decide, by decide, "java/lang/IllegalArgumentException", hts (.classLink RL 13 "java/lang/IllegalArgumentException") (by decide +kernel), Or.inr ⟨hNC.1, ⟨by decide, by decide, "java/lang/IllegalStateException", hts (.classLink RL 15 "java/lang/IllegalStateException") (by decide +kernel), Or.inl ⟨va_Nw.use rfl (hG.2.2.2.2.2.2.2.2 (.castable "java/lang/IllegalStateException" "java/lang/IllegalStateException") (by decide +kernel)), rfl⟩⟩⟩⟩) hce hcv hcl ?_
      refine lv_astore (lv' := [(6, .ref q9), (0, .ref h0), (1, .long v1), (3, .long v3), (5, .ref qo)]) hx hb dL_observe_18 hl (by decide) rfl (fun ls hl => ?_)
      refine lv_iconst (v := 2) hx hb dL_observe_20 (by decide) ?_
      exact W.iret (v := 2) hx hb hr (fun t ht hWm => ⟨⟨2, (u, f), rfl, hw, by rw [ht]; exact hG.1, va_K.moved hWm.alike hG.2.1, hG.2.2.1⟩, hG.2.2.2.1.F ht⟩) hG.2.2.2.1.2.2 dL_observe_21
  ·
    refine lv_i2l (v := (r).toInt64) hx hb dL_observe_9 rfl ?_
    obtain ⟨hP, hK, hD, hS, hA, hZ, hT⟩ := hG
    refine va_last hx hb hK hP hD hS 0 0 rfl rfl (by unfold vp_in; decide) dL_observe_10 (fun H locs hP hD hS => ?_)
    have hG : GL D cJ h0 a1 a2 a3 a4 a5 a6 tC tS qo A u2 (vp_updL f 0 (r).toInt64) s H locs := ⟨hP, hK, hD, hS, hA, hZ, hT⟩
    refine lv_goto (tgt := 22) hx hb dL_observe_11 (by decide) ?_
    refine lv_iconst (v := 0) hx hb dL_observe_22 (by decide) ?_
    exact W.iret (v := 0) hx hb hr (fun t ht hWm => ⟨⟨0, (u2, (vp_updL f 0 (r).toInt64)), rfl, hw, by rw [ht]; exact hG.1, va_K.moved hWm.alike hG.2.1, hG.2.2.1⟩, hG.2.2.2.1.F ht⟩) hG.2.2.2.1.2.2 dL_observe_23

def wL_span (post : Int32 → XS × (Nat → Int64) → Prop) (u : XS) (f : Nat → Int64) (v1 : Int64) (v3 : Int64) (v5 : Int64) (v7 : Int32) : Prop := (wX0_span (fun r u2 => (post 0 (u2, (vp_updL f 0 (r).toInt64)))) (fun k9 => (k9 = 0 → (post 1 (u, f))) ∧ (k9 = 0)) u v1 v3 v5 v7)

set_option maxHeartbeats 4000000 in
set_option maxRecDepth 100000 in
theorem mL_span (l : Launch) (hst : l.stackTraces = false) (D : va_G) (cJ : ClassId) (h0 a1 a2 a3 a4 a5 a6 tC tS qo sz : Nat) (u : XS) (f : Nat → Int64) (v1 : Int64) (v3 : Int64) (v5 : Int64) (v7 : Int32) (post : Int32 → XS × (Nat → Int64) → Prop) : Met l yL_span wsL_span ({ frames := 7, cells := 1, slots := 6, locals := 211 } : Room) (va_Pc [.ref h0, .long v1, .long v3, .long v5, .int v7, .ref qo] (fun U => LE D cJ h0 a1 a2 a3 a4 a5 a6 tC tS qo sz u f U ∧ wL_span post u f v1 v3 v5 v7)) (va_Qi post (fun w9 t9 => LTt D cJ h0 a1 a2 a3 a4 a5 a6 qo (va_A (lW cJ h0 a1 a2 a3 a4 a5 a6 qo u f) sz) w9 t9) (va_A (lW cJ h0 a1 a2 a3 a4 a5 a6 qo u f) sz)) 1 6 (va_A (lW cJ h0 a1 a2 a3 a4 a5 a6 qo u f) sz) := by
  refine va_MetW (cc := cL_span) (maxL := 10) (ret := some .int) (hh := [(0, 15, 18, 13)]) (by decide +kernel) rfl ?_
  intro p e s m args below meth c s₁ B hml hv
  obtain ⟨rfl, ⟨hsz, hP, hK, hD0, hZ, hT, hNC⟩, hw⟩ := hv
  have hx := B.exec
  have hb := B.bytes
  have hr := B.returns
  have hts := atoms_spec (ws := wsL_span) B.pre
  have hown : s.vm.findClass RL = some m.cls := findClass_of_methodNamed B.named
  have hlocks := B.notSynchronized
  have htab : c.exceptionTable.toList = tableOf [(0, 15, 18, 13)] := vx_table (x := yL_turn) B (hts _ List.mem_cons_self)
  subst hsz
  have hD := hD0.self (sz := s.heap.size)
  generalize hAe : va_A (lW cJ h0 a1 a2 a3 a4 a5 a6 qo u f) s.heap.size = A at hD hZ hT ⊢
  have hA : ∀ q : Nat, s.heap.size ≤ q → A q := fun q h => by rw [← hAe]; exact Or.inr h
  have hG : GL D cJ h0 a1 a2 a3 a4 a5 a6 tC tS qo A u f s s.heap [] := ⟨hP, hK, hD, va_S.rf, hA, hZ, hT⟩
  have hl := lv_entry ([.ref h0, .long v1, .long v3, .long v5, .int v7, .ref qo]) (n := 10) (Nat.le_of_ble_eq_true rfl)
  rw [lg_entry_eq]
  generalize (lg_sl ([.ref h0, .long v1, .long v3, .long v5, .int v7, .ref qo]) ++ List.replicate (10 - (lg_sl ([.ref h0, .long v1, .long v3, .long v5, .int v7, .ref qo])).length) Slot.unset).toArray = ls at hl ⊢
  have hl : lv_has ls 10 [(0, .ref h0), (1, .long v1), (3, .long v3), (5, .long v5), (7, .int v7), (8, .ref qo)] := hl
  unfold wL_span at hw
  refine lv_aload hx hb dL_span_0 (lv_at hl 5 rfl) ?_
  refine lv_iconst (v := 0) hx hb dL_span_2 (by decide) ?_
  refine lv_aload_n hx hb dL_span_3 rfl (lv_at hl 0 rfl) ?_
  refine lv_lload_n hx hb dL_span_4 rfl (lv_at hl 1 rfl) ?_
  refine lv_lload_n hx hb dL_span_5 rfl (lv_at hl 2 rfl) ?_
  refine lv_lload hx hb dL_span_6 (lv_at hl 3 rfl) ?_
  refine lv_iload hx hb dL_span_8 (lv_at hl 4 rfl) ?_
  refine Lc_i (As := [.long v1, .long v3, .long v5, .int v7]) (rest := [.int 0, .ref qo]) ⟨hx, hb, hml, hown, hts⟩ (mX0_span l hst D cJ h0 a1 a2 a3 a4 a5 a6 tC tS s.heap.size u v1 v3 v5 v7 _ _) (cwV 4 hts gL_span_X0_span rfl rfl rfl (by decide +kernel) ⟨Nat.le_of_ble_eq_true rfl, Nat.le_of_ble_eq_true rfl⟩) hG hw rfl hl.1 rfl (Nat.le_of_ble_eq_true rfl) dL_span_10 ⟨Nat.le_of_ble_eq_true rfl, Nat.le_of_ble_eq_true rfl⟩ (fun k9 q9 ce9 H locs hk9 hG hce hcv hcl => ?_) (fun r u2 H locs hw hG => ?_)
  · obtain ⟨g0, (rfl)⟩ := hk9
    · have hw := g0 rfl
      refine vc_catch (hp := 18) hown (by rw [htab]; exact ⟨by decide, by decide, "java/lang/IllegalArgumentException", hts (.classLink RL 13 "java/lang/IllegalArgumentException") (by decide +kernel), Or.inl ⟨va_Nw.use rfl (hG.2.2.2.2.2.2.2.2 (.castable "java/lang/IllegalArgumentException" "java/lang/IllegalArgumentException") (by decide +kernel)), rfl⟩⟩) hce hcv hcl ?_
      refine lv_astore (lv' := [(9, .ref q9), (0, .ref h0), (1, .long v1), (3, .long v3), (5, .long v5), (7, .int v7), (8, .ref qo)]) hx hb dL_span_18 hl (by decide) rfl (fun ls hl => ?_)
      refine lv_iconst (v := 1) hx hb dL_span_20 (by decide) ?_
      exact W.iret (v := 1) hx hb hr (fun t ht hWm => ⟨⟨1, (u, f), rfl, hw, by rw [ht]; exact hG.1, va_K.moved hWm.alike hG.2.1, hG.2.2.1⟩, hG.2.2.2.1.F ht⟩) hG.2.2.2.1.2.2 dL_span_21
  ·
    refine lv_i2l (v := (r).toInt64) hx hb dL_span_13 rfl ?_
    obtain ⟨hP, hK, hD, hS, hA, hZ, hT⟩ := hG
    refine va_last hx hb hK hP hD hS 0 0 rfl rfl (by unfold vp_in; decide) dL_span_14 (fun H locs hP hD hS => ?_)
    have hG : GL D cJ h0 a1 a2 a3 a4 a5 a6 tC tS qo A u2 (vp_updL f 0 (r).toInt64) s H locs := ⟨hP, hK, hD, hS, hA, hZ, hT⟩
    refine lv_goto (tgt := 22) hx hb dL_span_15 (by decide) ?_
    refine lv_iconst (v := 0) hx hb dL_span_22 (by decide) ?_
    exact W.iret (v := 0) hx hb hr (fun t ht hWm => ⟨⟨0, (u2, (vp_updL f 0 (r).toInt64)), rfl, hw, by rw [ht]; exact hG.1, va_K.moved hWm.alike hG.2.1, hG.2.2.1⟩, hG.2.2.2.1.F ht⟩) hG.2.2.2.1.2.2 dL_span_23

def wL_squat (post : Int32 → XS × (Nat → Int64) → Prop) (u : XS) (f : Nat → Int64) (v1 : Int64) (v3 : Int64) : Prop := (wX0_squat (fun r u2 => (post 0 (u2, (vp_updL f 0 r)))) (fun k9 => (k9 = 0 → (post 1 (u, f))) ∧ (k9 = 0)) u v1 v3)

set_option maxHeartbeats 4000000 in
set_option maxRecDepth 100000 in
theorem mL_squat (l : Launch) (hst : l.stackTraces = false) (D : va_G) (cJ : ClassId) (h0 a1 a2 a3 a4 a5 a6 tC tS qo sz : Nat) (u : XS) (f : Nat → Int64) (v1 : Int64) (v3 : Int64) (post : Int32 → XS × (Nat → Int64) → Prop) : Met l yL_squat wsL_squat ({ frames := 7, cells := 1, slots := 6, locals := 114 } : Room) (va_Pc [.ref h0, .long v1, .long v3, .ref qo] (fun U => LE D cJ h0 a1 a2 a3 a4 a5 a6 tC tS qo sz u f U ∧ wL_squat post u f v1 v3)) (va_Qi post (fun w9 t9 => LTt D cJ h0 a1 a2 a3 a4 a5 a6 qo (va_A (lW cJ h0 a1 a2 a3 a4 a5 a6 qo u f) sz) w9 t9) (va_A (lW cJ h0 a1 a2 a3 a4 a5 a6 qo u f) sz)) 1 6 (va_A (lW cJ h0 a1 a2 a3 a4 a5 a6 qo u f) sz) := by
  refine va_MetW (cc := cL_squat) (maxL := 7) (ret := some .int) (hh := [(0, 10, 13, 13)]) (by decide +kernel) rfl ?_
  intro p e s m args below meth c s₁ B hml hv
  obtain ⟨rfl, ⟨hsz, hP, hK, hD0, hZ, hT, hNC⟩, hw⟩ := hv
  have hx := B.exec
  have hb := B.bytes
  have hr := B.returns
  have hts := atoms_spec (ws := wsL_squat) B.pre
  have hown : s.vm.findClass RL = some m.cls := findClass_of_methodNamed B.named
  have hlocks := B.notSynchronized
  have htab : c.exceptionTable.toList = tableOf [(0, 10, 13, 13)] := vx_table (x := yL_turn) B (hts _ List.mem_cons_self)
  subst hsz
  have hD := hD0.self (sz := s.heap.size)
  generalize hAe : va_A (lW cJ h0 a1 a2 a3 a4 a5 a6 qo u f) s.heap.size = A at hD hZ hT ⊢
  have hA : ∀ q : Nat, s.heap.size ≤ q → A q := fun q h => by rw [← hAe]; exact Or.inr h
  have hG : GL D cJ h0 a1 a2 a3 a4 a5 a6 tC tS qo A u f s s.heap [] := ⟨hP, hK, hD, va_S.rf, hA, hZ, hT⟩
  have hl := lv_entry ([.ref h0, .long v1, .long v3, .ref qo]) (n := 7) (Nat.le_of_ble_eq_true rfl)
  rw [lg_entry_eq]
  generalize (lg_sl ([.ref h0, .long v1, .long v3, .ref qo]) ++ List.replicate (7 - (lg_sl ([.ref h0, .long v1, .long v3, .ref qo])).length) Slot.unset).toArray = ls at hl ⊢
  have hl : lv_has ls 7 [(0, .ref h0), (1, .long v1), (3, .long v3), (5, .ref qo)] := hl
  unfold wL_squat at hw
  refine lv_aload hx hb dL_squat_0 (lv_at hl 3 rfl) ?_
  refine lv_iconst (v := 0) hx hb dL_squat_2 (by decide) ?_
  refine lv_aload_n hx hb dL_squat_3 rfl (lv_at hl 0 rfl) ?_
  refine lv_lload_n hx hb dL_squat_4 rfl (lv_at hl 1 rfl) ?_
  refine lv_lload_n hx hb dL_squat_5 rfl (lv_at hl 2 rfl) ?_
  refine Lc_l (As := [.long v1, .long v3]) (rest := [.int 0, .ref qo]) ⟨hx, hb, hml, hown, hts⟩ (mX0_squat l hst D cJ h0 a1 a2 a3 a4 a5 a6 tC tS s.heap.size u v1 v3 _ _) (cwV 2 hts gL_squat_X0_squat rfl rfl rfl (by decide +kernel) ⟨Nat.le_of_ble_eq_true rfl, Nat.le_of_ble_eq_true rfl⟩) hG hw rfl hl.1 rfl (Nat.le_of_ble_eq_true rfl) dL_squat_6 ⟨Nat.le_of_ble_eq_true rfl, Nat.le_of_ble_eq_true rfl⟩ (fun k9 q9 ce9 H locs hk9 hG hce hcv hcl => ?_) (fun r u2 H locs hw hG => ?_)
  · obtain ⟨g0, (rfl)⟩ := hk9
    · have hw := g0 rfl
      refine vc_catch (hp := 13) hown (by rw [htab]; exact ⟨by decide, by decide, "java/lang/IllegalArgumentException", hts (.classLink RL 13 "java/lang/IllegalArgumentException") (by decide +kernel), Or.inl ⟨va_Nw.use rfl (hG.2.2.2.2.2.2.2.2 (.castable "java/lang/IllegalArgumentException" "java/lang/IllegalArgumentException") (by decide +kernel)), rfl⟩⟩) hce hcv hcl ?_
      refine lv_astore (lv' := [(6, .ref q9), (0, .ref h0), (1, .long v1), (3, .long v3), (5, .ref qo)]) hx hb dL_squat_13 hl (by decide) rfl (fun ls hl => ?_)
      refine lv_iconst (v := 1) hx hb dL_squat_15 (by decide) ?_
      exact W.iret (v := 1) hx hb hr (fun t ht hWm => ⟨⟨1, (u, f), rfl, hw, by rw [ht]; exact hG.1, va_K.moved hWm.alike hG.2.1, hG.2.2.1⟩, hG.2.2.2.1.F ht⟩) hG.2.2.2.1.2.2 dL_squat_16
  ·
    obtain ⟨hP, hK, hD, hS, hA, hZ, hT⟩ := hG
    refine va_last hx hb hK hP hD hS 0 0 rfl rfl (by unfold vp_in; decide) dL_squat_9 (fun H locs hP hD hS => ?_)
    have hG : GL D cJ h0 a1 a2 a3 a4 a5 a6 tC tS qo A u2 (vp_updL f 0 r) s H locs := ⟨hP, hK, hD, hS, hA, hZ, hT⟩
    refine lv_goto (tgt := 17) hx hb dL_squat_10 (by decide) ?_
    refine lv_iconst (v := 0) hx hb dL_squat_17 (by decide) ?_
    exact W.iret (v := 0) hx hb hr (fun t ht hWm => ⟨⟨0, (u2, (vp_updL f 0 r)), rfl, hw, by rw [ht]; exact hG.1, va_K.moved hWm.alike hG.2.1, hG.2.2.1⟩, hG.2.2.2.1.F ht⟩) hG.2.2.2.1.2.2 dL_squat_18

def wL_passing (post : Int32 → XS × (Nat → Int64) → Prop) (u : XS) (f : Nat → Int64) (v1 : Int64) (v3 : Int64) : Prop := (wX0_passing (fun r u2 => (post 0 (u2, (vp_updL f 0 r)))) (fun k9 => (k9 = 0 → (post 1 (u, f))) ∧ (k9 = 2 → (post 2 (u, f))) ∧ (k9 = 0 ∨ k9 = 2)) u v1 v3)

set_option maxHeartbeats 4000000 in
set_option maxRecDepth 100000 in
theorem mL_passing (l : Launch) (hst : l.stackTraces = false) (D : va_G) (cJ : ClassId) (h0 a1 a2 a3 a4 a5 a6 tC tS qo sz : Nat) (u : XS) (f : Nat → Int64) (v1 : Int64) (v3 : Int64) (post : Int32 → XS × (Nat → Int64) → Prop) : Met l yL_passing wsL_passing ({ frames := 7, cells := 1, slots := 6, locals := 114 } : Room) (va_Pc [.ref h0, .long v1, .long v3, .ref qo] (fun U => LE D cJ h0 a1 a2 a3 a4 a5 a6 tC tS qo sz u f U ∧ wL_passing post u f v1 v3)) (va_Qi post (fun w9 t9 => LTt D cJ h0 a1 a2 a3 a4 a5 a6 qo (va_A (lW cJ h0 a1 a2 a3 a4 a5 a6 qo u f) sz) w9 t9) (va_A (lW cJ h0 a1 a2 a3 a4 a5 a6 qo u f) sz)) 1 6 (va_A (lW cJ h0 a1 a2 a3 a4 a5 a6 qo u f) sz) := by
  refine va_MetW (cc := cL_passing) (maxL := 7) (ret := some .int) (hh := [(0, 10, 13, 13), (0, 10, 17, 35)]) (by decide +kernel) rfl ?_
  intro p e s m args below meth c s₁ B hml hv
  obtain ⟨rfl, ⟨hsz, hP, hK, hD0, hZ, hT, hNC⟩, hw⟩ := hv
  have hx := B.exec
  have hb := B.bytes
  have hr := B.returns
  have hts := atoms_spec (ws := wsL_passing) B.pre
  have hown : s.vm.findClass RL = some m.cls := findClass_of_methodNamed B.named
  have hlocks := B.notSynchronized
  have htab : c.exceptionTable.toList = tableOf [(0, 10, 13, 13), (0, 10, 17, 35)] := vx_table (x := yL_turn) B (hts _ List.mem_cons_self)
  subst hsz
  have hD := hD0.self (sz := s.heap.size)
  generalize hAe : va_A (lW cJ h0 a1 a2 a3 a4 a5 a6 qo u f) s.heap.size = A at hD hZ hT ⊢
  have hA : ∀ q : Nat, s.heap.size ≤ q → A q := fun q h => by rw [← hAe]; exact Or.inr h
  have hG : GL D cJ h0 a1 a2 a3 a4 a5 a6 tC tS qo A u f s s.heap [] := ⟨hP, hK, hD, va_S.rf, hA, hZ, hT⟩
  have hl := lv_entry ([.ref h0, .long v1, .long v3, .ref qo]) (n := 7) (Nat.le_of_ble_eq_true rfl)
  rw [lg_entry_eq]
  generalize (lg_sl ([.ref h0, .long v1, .long v3, .ref qo]) ++ List.replicate (7 - (lg_sl ([.ref h0, .long v1, .long v3, .ref qo])).length) Slot.unset).toArray = ls at hl ⊢
  have hl : lv_has ls 7 [(0, .ref h0), (1, .long v1), (3, .long v3), (5, .ref qo)] := hl
  unfold wL_passing at hw
  refine lv_aload hx hb dL_passing_0 (lv_at hl 3 rfl) ?_
  refine lv_iconst (v := 0) hx hb dL_passing_2 (by decide) ?_
  refine lv_aload_n hx hb dL_passing_3 rfl (lv_at hl 0 rfl) ?_
  refine lv_lload_n hx hb dL_passing_4 rfl (lv_at hl 1 rfl) ?_
  refine lv_lload_n hx hb dL_passing_5 rfl (lv_at hl 2 rfl) ?_
  refine Lc_l (As := [.long v1, .long v3]) (rest := [.int 0, .ref qo]) ⟨hx, hb, hml, hown, hts⟩ (mX0_passing l hst D cJ h0 a1 a2 a3 a4 a5 a6 tC tS s.heap.size u v1 v3 _ _) (cwV 2 hts gL_passing_X0_passing rfl rfl rfl (by decide +kernel) ⟨Nat.le_of_ble_eq_true rfl, Nat.le_of_ble_eq_true rfl⟩) hG hw rfl hl.1 rfl (Nat.le_of_ble_eq_true rfl) dL_passing_6 ⟨Nat.le_of_ble_eq_true rfl, Nat.le_of_ble_eq_true rfl⟩ (fun k9 q9 ce9 H locs hk9 hG hce hcv hcl => ?_) (fun r u2 H locs hw hG => ?_)
  · obtain ⟨g0, g1, (rfl | rfl)⟩ := hk9
    · have hw := g0 rfl
      refine vc_catch (hp := 13) hown (by rw [htab]; exact ⟨by decide, by decide, "java/lang/IllegalArgumentException", hts (.classLink RL 13 "java/lang/IllegalArgumentException") (by decide +kernel), Or.inl ⟨va_Nw.use rfl (hG.2.2.2.2.2.2.2.2 (.castable "java/lang/IllegalArgumentException" "java/lang/IllegalArgumentException") (by decide +kernel)), rfl⟩⟩) hce hcv hcl ?_
      refine lv_astore (lv' := [(6, .ref q9), (0, .ref h0), (1, .long v1), (3, .long v3), (5, .ref qo)]) hx hb dL_passing_13 hl (by decide) rfl (fun ls hl => ?_)
      refine lv_iconst (v := 1) hx hb dL_passing_15 (by decide) ?_
      exact W.iret (v := 1) hx hb hr (fun t ht hWm => ⟨⟨1, (u, f), rfl, hw, by rw [ht]; exact hG.1, va_K.moved hWm.alike hG.2.1, hG.2.2.1⟩, hG.2.2.2.1.F ht⟩) hG.2.2.2.1.2.2 dL_passing_16
    · have hw := g1 rfl
      refine vc_catch (hp := 17) hown (by rw [htab]; exact ⟨by decide, by decide, "java/lang/IllegalArgumentException", hts (.classLink RL 13 "java/lang/IllegalArgumentException") (by decide +kernel), Or.inr ⟨hNC.2.1, ⟨by decide, by decide, "java/lang/ArithmeticException", hts (.classLink RL 35 "java/lang/ArithmeticException") (by decide +kernel), Or.inl ⟨va_Nw.use rfl (hG.2.2.2.2.2.2.2.2 (.castable "java/lang/ArithmeticException" "java/lang/ArithmeticException") (by decide +kernel)), rfl⟩⟩⟩⟩) hce hcv hcl ?_
      refine lv_astore (lv' := [(6, .ref q9), (0, .ref h0), (1, .long v1), (3, .long v3), (5, .ref qo)]) hx hb dL_passing_17 hl (by decide) rfl (fun ls hl => ?_)
      refine lv_iconst (v := 2) hx hb dL_passing_19 (by decide) ?_
      exact W.iret (v := 2) hx hb hr (fun t ht hWm => ⟨⟨2, (u, f), rfl, hw, by rw [ht]; exact hG.1, va_K.moved hWm.alike hG.2.1, hG.2.2.1⟩, hG.2.2.2.1.F ht⟩) hG.2.2.2.1.2.2 dL_passing_20
  ·
    obtain ⟨hP, hK, hD, hS, hA, hZ, hT⟩ := hG
    refine va_last hx hb hK hP hD hS 0 0 rfl rfl (by unfold vp_in; decide) dL_passing_9 (fun H locs hP hD hS => ?_)
    have hG : GL D cJ h0 a1 a2 a3 a4 a5 a6 tC tS qo A u2 (vp_updL f 0 r) s H locs := ⟨hP, hK, hD, hS, hA, hZ, hT⟩
    refine lv_goto (tgt := 21) hx hb dL_passing_10 (by decide) ?_
    refine lv_iconst (v := 0) hx hb dL_passing_21 (by decide) ?_
    exact W.iret (v := 0) hx hb hr (fun t ht hWm => ⟨⟨0, (u2, (vp_updL f 0 r)), rfl, hw, by rw [ht]; exact hG.1, va_K.moved hWm.alike hG.2.1, hG.2.2.1⟩, hG.2.2.2.1.F ht⟩) hG.2.2.2.1.2.2 dL_passing_22

def wL_cosine (post : Int32 → XS × (Nat → Int64) → Prop) (u : XS) (f : Nat → Int64) (v1 : Int32) : Prop := (wX0_cosine (fun r u2 => (post 0 (u2, (vp_updL f 0 (r).toInt64)))) (fun k9 => (k9 = 4 → (post 1 (u, f))) ∧ (k9 = 4)) u v1)

set_option maxHeartbeats 4000000 in
set_option maxRecDepth 100000 in
theorem mL_cosine (l : Launch) (hst : l.stackTraces = false) (D : va_G) (cJ : ClassId) (h0 a1 a2 a3 a4 a5 a6 tC tS qo sz : Nat) (u : XS) (f : Nat → Int64) (v1 : Int32) (post : Int32 → XS × (Nat → Int64) → Prop) : Met l yL_cosine wsL_cosineX ({ frames := 8, cells := 1, slots := 6, locals := 124 } : Room) (va_Pc [.ref h0, .int v1, .ref qo] (fun U => LE D cJ h0 a1 a2 a3 a4 a5 a6 tC tS qo sz u f U ∧ wL_cosine post u f v1)) (va_Qi post (fun w9 t9 => LTt D cJ h0 a1 a2 a3 a4 a5 a6 qo (va_A (lW cJ h0 a1 a2 a3 a4 a5 a6 qo u f) sz) w9 t9) (va_A (lW cJ h0 a1 a2 a3 a4 a5 a6 qo u f) sz)) 1 6 (va_A (lW cJ h0 a1 a2 a3 a4 a5 a6 qo u f) sz) := by
  refine va_MetW (cc := cL_cosine) (maxL := 4) (ret := some .int) (hh := [(0, 9, 12, 41)]) (by decide +kernel) rfl ?_
  intro p e s m args below meth c s₁ B hml hv
  obtain ⟨rfl, ⟨hsz, hP, hK, hD0, hZ, hT, hNC⟩, hw⟩ := hv
  have hx := B.exec
  have hb := B.bytes
  have hr := B.returns
  have hts := atoms_spec (ws := wsL_cosineX) B.pre
  have hown : s.vm.findClass RL = some m.cls := findClass_of_methodNamed B.named
  have hlocks := B.notSynchronized
  have htab : c.exceptionTable.toList = tableOf [(0, 9, 12, 41)] := vx_table (x := yL_turn) B (hts _ List.mem_cons_self)
  subst hsz
  have hD := hD0.self (sz := s.heap.size)
  generalize hAe : va_A (lW cJ h0 a1 a2 a3 a4 a5 a6 qo u f) s.heap.size = A at hD hZ hT ⊢
  have hA : ∀ q : Nat, s.heap.size ≤ q → A q := fun q h => by rw [← hAe]; exact Or.inr h
  have hG : GL D cJ h0 a1 a2 a3 a4 a5 a6 tC tS qo A u f s s.heap [] := ⟨hP, hK, hD, va_S.rf, hA, hZ, hT⟩
  have hl := lv_entry ([.ref h0, .int v1, .ref qo]) (n := 4) (Nat.le_of_ble_eq_true rfl)
  rw [lg_entry_eq]
  generalize (lg_sl ([.ref h0, .int v1, .ref qo]) ++ List.replicate (4 - (lg_sl ([.ref h0, .int v1, .ref qo])).length) Slot.unset).toArray = ls at hl ⊢
  have hl : lv_has ls 4 [(0, .ref h0), (1, .int v1), (2, .ref qo)] := hl
  unfold wL_cosine at hw
  refine lv_aload_n hx hb dL_cosine_0 rfl (lv_at hl 2 rfl) ?_
  refine lv_iconst (v := 0) hx hb dL_cosine_1 (by decide) ?_
  refine lv_aload_n hx hb dL_cosine_2 rfl (lv_at hl 0 rfl) ?_
  refine lv_iload_n hx hb dL_cosine_3 rfl (lv_at hl 1 rfl) ?_
  refine Lc_i (As := [.int v1]) (rest := [.int 0, .ref qo]) ⟨hx, hb, hml, hown, hts⟩ (mX0_cosine l hst D cJ h0 a1 a2 a3 a4 a5 a6 tC tS s.heap.size u v1 _ _) (cwV 1 hts gL_cosine_X0_cosineX rfl rfl rfl (by decide +kernel) ⟨Nat.le_of_ble_eq_true rfl, Nat.le_of_ble_eq_true rfl⟩) hG hw rfl hl.1 rfl (Nat.le_of_ble_eq_true rfl) dL_cosine_4 ⟨Nat.le_of_ble_eq_true rfl, Nat.le_of_ble_eq_true rfl⟩ (fun k9 q9 ce9 H locs hk9 hG hce hcv hcl => ?_) (fun r u2 H locs hw hG => ?_)
  · obtain ⟨g0, (rfl)⟩ := hk9
    · have hw := g0 rfl
      refine vc_catch (hp := 12) hown (by rw [htab]; exact ⟨by decide, by decide, "java/lang/ArrayIndexOutOfBoundsException", hts (.classLink RL 41 "java/lang/ArrayIndexOutOfBoundsException") (by decide +kernel), Or.inl ⟨va_Nw.use rfl (hG.2.2.2.2.2.2.2.2 (.castable "java/lang/ArrayIndexOutOfBoundsException" "java/lang/ArrayIndexOutOfBoundsException") (by decide +kernel)), rfl⟩⟩) hce hcv hcl ?_
      refine lv_astore_n (lv' := [(3, .ref q9), (0, .ref h0), (1, .int v1), (2, .ref qo)]) hx hb dL_cosine_12 rfl hl (by decide) rfl (fun ls hl => ?_)
      refine lv_iconst (v := 1) hx hb dL_cosine_13 (by decide) ?_
      exact W.iret (v := 1) hx hb hr (fun t ht hWm => ⟨⟨1, (u, f), rfl, hw, by rw [ht]; exact hG.1, va_K.moved hWm.alike hG.2.1, hG.2.2.1⟩, hG.2.2.2.1.F ht⟩) hG.2.2.2.1.2.2 dL_cosine_14
  ·
    refine lv_i2l (v := (r).toInt64) hx hb dL_cosine_7 rfl ?_
    obtain ⟨hP, hK, hD, hS, hA, hZ, hT⟩ := hG
    refine va_last hx hb hK hP hD hS 0 0 rfl rfl (by unfold vp_in; decide) dL_cosine_8 (fun H locs hP hD hS => ?_)
    have hG : GL D cJ h0 a1 a2 a3 a4 a5 a6 tC tS qo A u2 (vp_updL f 0 (r).toInt64) s H locs := ⟨hP, hK, hD, hS, hA, hZ, hT⟩
    refine lv_goto (tgt := 15) hx hb dL_cosine_9 (by decide) ?_
    refine lv_iconst (v := 0) hx hb dL_cosine_15 (by decide) ?_
    exact W.iret (v := 0) hx hb hr (fun t ht hWm => ⟨⟨0, (u2, (vp_updL f 0 (r).toInt64)), rfl, hw, by rw [ht]; exact hG.1, va_K.moved hWm.alike hG.2.1, hG.2.2.1⟩, hG.2.2.2.1.F ht⟩) hG.2.2.2.1.2.2 dL_cosine_16

def wL_draft (post : Int32 → XS × (Nat → Int64) → Prop) (u : XS) (f : Nat → Int64) (v1 : Int64) (v3 : Int64) (v5 : Int64) : Prop := (wX0_draft (fun r u2 => (post 0 (u2, (vp_updL f 0 r)))) (fun k9 => (k9 = 0 → (post 1 (u, f))) ∧ (k9 = 0)) u v1 v3 v5)

set_option maxHeartbeats 4000000 in
set_option maxRecDepth 100000 in
theorem mL_draft (l : Launch) (hst : l.stackTraces = false) (D : va_G) (cJ : ClassId) (h0 a1 a2 a3 a4 a5 a6 tC tS qo sz : Nat) (u : XS) (f : Nat → Int64) (v1 : Int64) (v3 : Int64) (v5 : Int64) (post : Int32 → XS × (Nat → Int64) → Prop) : Met l yL_draft wsL_draft ({ frames := 7, cells := 1, slots := 6, locals := 116 } : Room) (va_Pc [.ref h0, .long v1, .long v3, .long v5, .ref qo] (fun U => LE D cJ h0 a1 a2 a3 a4 a5 a6 tC tS qo sz u f U ∧ wL_draft post u f v1 v3 v5)) (va_Qi post (fun w9 t9 => LTt D cJ h0 a1 a2 a3 a4 a5 a6 qo (va_A (lW cJ h0 a1 a2 a3 a4 a5 a6 qo u f) sz) w9 t9) (va_A (lW cJ h0 a1 a2 a3 a4 a5 a6 qo u f) sz)) 1 6 (va_A (lW cJ h0 a1 a2 a3 a4 a5 a6 qo u f) sz) := by
  refine va_MetW (cc := cL_draft) (maxL := 9) (ret := some .int) (hh := [(0, 12, 15, 13)]) (by decide +kernel) rfl ?_
  intro p e s m args below meth c s₁ B hml hv
  obtain ⟨rfl, ⟨hsz, hP, hK, hD0, hZ, hT, hNC⟩, hw⟩ := hv
  have hx := B.exec
  have hb := B.bytes
  have hr := B.returns
  have hts := atoms_spec (ws := wsL_draft) B.pre
  have hown : s.vm.findClass RL = some m.cls := findClass_of_methodNamed B.named
  have hlocks := B.notSynchronized
  have htab : c.exceptionTable.toList = tableOf [(0, 12, 15, 13)] := vx_table (x := yL_turn) B (hts _ List.mem_cons_self)
  subst hsz
  have hD := hD0.self (sz := s.heap.size)
  generalize hAe : va_A (lW cJ h0 a1 a2 a3 a4 a5 a6 qo u f) s.heap.size = A at hD hZ hT ⊢
  have hA : ∀ q : Nat, s.heap.size ≤ q → A q := fun q h => by rw [← hAe]; exact Or.inr h
  have hG : GL D cJ h0 a1 a2 a3 a4 a5 a6 tC tS qo A u f s s.heap [] := ⟨hP, hK, hD, va_S.rf, hA, hZ, hT⟩
  have hl := lv_entry ([.ref h0, .long v1, .long v3, .long v5, .ref qo]) (n := 9) (Nat.le_of_ble_eq_true rfl)
  rw [lg_entry_eq]
  generalize (lg_sl ([.ref h0, .long v1, .long v3, .long v5, .ref qo]) ++ List.replicate (9 - (lg_sl ([.ref h0, .long v1, .long v3, .long v5, .ref qo])).length) Slot.unset).toArray = ls at hl ⊢
  have hl : lv_has ls 9 [(0, .ref h0), (1, .long v1), (3, .long v3), (5, .long v5), (7, .ref qo)] := hl
  unfold wL_draft at hw
  refine lv_aload hx hb dL_draft_0 (lv_at hl 4 rfl) ?_
  refine lv_iconst (v := 0) hx hb dL_draft_2 (by decide) ?_
  refine lv_aload_n hx hb dL_draft_3 rfl (lv_at hl 0 rfl) ?_
  refine lv_lload_n hx hb dL_draft_4 rfl (lv_at hl 1 rfl) ?_
  refine lv_lload_n hx hb dL_draft_5 rfl (lv_at hl 2 rfl) ?_
  refine lv_lload hx hb dL_draft_6 (lv_at hl 3 rfl) ?_
  refine Lc_l (As := [.long v1, .long v3, .long v5]) (rest := [.int 0, .ref qo]) ⟨hx, hb, hml, hown, hts⟩ (mX0_draft l hst D cJ h0 a1 a2 a3 a4 a5 a6 tC tS s.heap.size u v1 v3 v5 _ _) (cwV 3 hts gL_draft_X0_draft rfl rfl rfl (by decide +kernel) ⟨Nat.le_of_ble_eq_true rfl, Nat.le_of_ble_eq_true rfl⟩) hG hw rfl hl.1 rfl (Nat.le_of_ble_eq_true rfl) dL_draft_8 ⟨Nat.le_of_ble_eq_true rfl, Nat.le_of_ble_eq_true rfl⟩ (fun k9 q9 ce9 H locs hk9 hG hce hcv hcl => ?_) (fun r u2 H locs hw hG => ?_)
  · obtain ⟨g0, (rfl)⟩ := hk9
    · have hw := g0 rfl
      refine vc_catch (hp := 15) hown (by rw [htab]; exact ⟨by decide, by decide, "java/lang/IllegalArgumentException", hts (.classLink RL 13 "java/lang/IllegalArgumentException") (by decide +kernel), Or.inl ⟨va_Nw.use rfl (hG.2.2.2.2.2.2.2.2 (.castable "java/lang/IllegalArgumentException" "java/lang/IllegalArgumentException") (by decide +kernel)), rfl⟩⟩) hce hcv hcl ?_
      refine lv_astore (lv' := [(8, .ref q9), (0, .ref h0), (1, .long v1), (3, .long v3), (5, .long v5), (7, .ref qo)]) hx hb dL_draft_15 hl (by decide) rfl (fun ls hl => ?_)
      refine lv_iconst (v := 1) hx hb dL_draft_17 (by decide) ?_
      exact W.iret (v := 1) hx hb hr (fun t ht hWm => ⟨⟨1, (u, f), rfl, hw, by rw [ht]; exact hG.1, va_K.moved hWm.alike hG.2.1, hG.2.2.1⟩, hG.2.2.2.1.F ht⟩) hG.2.2.2.1.2.2 dL_draft_18
  ·
    obtain ⟨hP, hK, hD, hS, hA, hZ, hT⟩ := hG
    refine va_last hx hb hK hP hD hS 0 0 rfl rfl (by unfold vp_in; decide) dL_draft_11 (fun H locs hP hD hS => ?_)
    have hG : GL D cJ h0 a1 a2 a3 a4 a5 a6 tC tS qo A u2 (vp_updL f 0 r) s H locs := ⟨hP, hK, hD, hS, hA, hZ, hT⟩
    refine lv_goto (tgt := 19) hx hb dL_draft_12 (by decide) ?_
    refine lv_iconst (v := 0) hx hb dL_draft_19 (by decide) ?_
    exact W.iret (v := 0) hx hb hr (fun t ht hWm => ⟨⟨0, (u2, (vp_updL f 0 r)), rfl, hw, by rw [ht]; exact hG.1, va_K.moved hWm.alike hG.2.1, hG.2.2.1⟩, hG.2.2.2.1.F ht⟩) hG.2.2.2.1.2.2 dL_draft_20

def wL_place (post : Int32 → XS × (Nat → Int64) → Prop) (u : XS) (f : Nat → Int64) (v1 : Int64) (v3 : Int64) : Prop := (wX0_place (fun r u2 => (post 0 (u2, (vp_updL f 0 (r).toInt64)))) (fun k9 => (k9 = 0 → (post 1 (u, f))) ∧ (k9 = 1 → (post 2 (u, f))) ∧ (k9 = 0 ∨ k9 = 1)) u v1 v3)

set_option maxHeartbeats 4000000 in
set_option maxRecDepth 100000 in
theorem mL_place (l : Launch) (hst : l.stackTraces = false) (D : va_G) (cJ : ClassId) (h0 a1 a2 a3 a4 a5 a6 tC tS qo sz : Nat) (u : XS) (f : Nat → Int64) (v1 : Int64) (v3 : Int64) (post : Int32 → XS × (Nat → Int64) → Prop) : Met l yL_place wsL_place ({ frames := 7, cells := 1, slots := 6, locals := 114 } : Room) (va_Pc [.ref h0, .long v1, .long v3, .ref qo] (fun U => LE D cJ h0 a1 a2 a3 a4 a5 a6 tC tS qo sz u f U ∧ wL_place post u f v1 v3)) (va_Qi post (fun w9 t9 => LTt D cJ h0 a1 a2 a3 a4 a5 a6 qo (va_A (lW cJ h0 a1 a2 a3 a4 a5 a6 qo u f) sz) w9 t9) (va_A (lW cJ h0 a1 a2 a3 a4 a5 a6 qo u f) sz)) 1 6 (va_A (lW cJ h0 a1 a2 a3 a4 a5 a6 qo u f) sz) := by
  refine va_MetW (cc := cL_place) (maxL := 7) (ret := some .int) (hh := [(0, 11, 14, 13), (0, 11, 18, 15)]) (by decide +kernel) rfl ?_
  intro p e s m args below meth c s₁ B hml hv
  obtain ⟨rfl, ⟨hsz, hP, hK, hD0, hZ, hT, hNC⟩, hw⟩ := hv
  have hx := B.exec
  have hb := B.bytes
  have hr := B.returns
  have hts := atoms_spec (ws := wsL_place) B.pre
  have hown : s.vm.findClass RL = some m.cls := findClass_of_methodNamed B.named
  have hlocks := B.notSynchronized
  have htab : c.exceptionTable.toList = tableOf [(0, 11, 14, 13), (0, 11, 18, 15)] := vx_table (x := yL_turn) B (hts _ List.mem_cons_self)
  subst hsz
  have hD := hD0.self (sz := s.heap.size)
  generalize hAe : va_A (lW cJ h0 a1 a2 a3 a4 a5 a6 qo u f) s.heap.size = A at hD hZ hT ⊢
  have hA : ∀ q : Nat, s.heap.size ≤ q → A q := fun q h => by rw [← hAe]; exact Or.inr h
  have hG : GL D cJ h0 a1 a2 a3 a4 a5 a6 tC tS qo A u f s s.heap [] := ⟨hP, hK, hD, va_S.rf, hA, hZ, hT⟩
  have hl := lv_entry ([.ref h0, .long v1, .long v3, .ref qo]) (n := 7) (Nat.le_of_ble_eq_true rfl)
  rw [lg_entry_eq]
  generalize (lg_sl ([.ref h0, .long v1, .long v3, .ref qo]) ++ List.replicate (7 - (lg_sl ([.ref h0, .long v1, .long v3, .ref qo])).length) Slot.unset).toArray = ls at hl ⊢
  have hl : lv_has ls 7 [(0, .ref h0), (1, .long v1), (3, .long v3), (5, .ref qo)] := hl
  unfold wL_place at hw
  refine lv_aload hx hb dL_place_0 (lv_at hl 3 rfl) ?_
  refine lv_iconst (v := 0) hx hb dL_place_2 (by decide) ?_
  refine lv_aload_n hx hb dL_place_3 rfl (lv_at hl 0 rfl) ?_
  refine lv_lload_n hx hb dL_place_4 rfl (lv_at hl 1 rfl) ?_
  refine lv_lload_n hx hb dL_place_5 rfl (lv_at hl 2 rfl) ?_
  refine Lc_i (As := [.long v1, .long v3]) (rest := [.int 0, .ref qo]) ⟨hx, hb, hml, hown, hts⟩ (mX0_place l hst D cJ h0 a1 a2 a3 a4 a5 a6 tC tS s.heap.size u v1 v3 _ _) (cwV 2 hts gL_place_X0_place rfl rfl rfl (by decide +kernel) ⟨Nat.le_of_ble_eq_true rfl, Nat.le_of_ble_eq_true rfl⟩) hG hw rfl hl.1 rfl (Nat.le_of_ble_eq_true rfl) dL_place_6 ⟨Nat.le_of_ble_eq_true rfl, Nat.le_of_ble_eq_true rfl⟩ (fun k9 q9 ce9 H locs hk9 hG hce hcv hcl => ?_) (fun r u2 H locs hw hG => ?_)
  · obtain ⟨g0, g1, (rfl | rfl)⟩ := hk9
    · have hw := g0 rfl
      refine vc_catch (hp := 14) hown (by rw [htab]; exact ⟨by decide, by decide, "java/lang/IllegalArgumentException", hts (.classLink RL 13 "java/lang/IllegalArgumentException") (by decide +kernel), Or.inl ⟨va_Nw.use rfl (hG.2.2.2.2.2.2.2.2 (.castable "java/lang/IllegalArgumentException" "java/lang/IllegalArgumentException") (by decide +kernel)), rfl⟩⟩) hce hcv hcl ?_
      refine lv_astore (lv' := [(6, .ref q9), (0, .ref h0), (1, .long v1), (3, .long v3), (5, .ref qo)]) hx hb dL_place_14 hl (by decide) rfl (fun ls hl => ?_)
      refine lv_iconst (v := 1) hx hb dL_place_16 (by decide) ?_
      exact W.iret (v := 1) hx hb hr (fun t ht hWm => ⟨⟨1, (u, f), rfl, hw, by rw [ht]; exact hG.1, va_K.moved hWm.alike hG.2.1, hG.2.2.1⟩, hG.2.2.2.1.F ht⟩) hG.2.2.2.1.2.2 dL_place_17
    · have hw := g1 rfl
      refine vc_catch (hp := 18) hown (by rw [htab]; exact ⟨by decide, by decide, "java/lang/IllegalArgumentException", hts (.classLink RL 13 "java/lang/IllegalArgumentException") (by decide +kernel), Or.inr ⟨hNC.1, ⟨by decide, by decide, "java/lang/IllegalStateException", hts (.classLink RL 15 "java/lang/IllegalStateException") (by decide +kernel), Or.inl ⟨va_Nw.use rfl (hG.2.2.2.2.2.2.2.2 (.castable "java/lang/IllegalStateException" "java/lang/IllegalStateException") (by decide +kernel)), rfl⟩⟩⟩⟩) hce hcv hcl ?_
      refine lv_astore (lv' := [(6, .ref q9), (0, .ref h0), (1, .long v1), (3, .long v3), (5, .ref qo)]) hx hb dL_place_18 hl (by decide) rfl (fun ls hl => ?_)
      refine lv_iconst (v := 2) hx hb dL_place_20 (by decide) ?_
      exact W.iret (v := 2) hx hb hr (fun t ht hWm => ⟨⟨2, (u, f), rfl, hw, by rw [ht]; exact hG.1, va_K.moved hWm.alike hG.2.1, hG.2.2.1⟩, hG.2.2.2.1.F ht⟩) hG.2.2.2.1.2.2 dL_place_21
  ·
    refine lv_i2l (v := (r).toInt64) hx hb dL_place_9 rfl ?_
    obtain ⟨hP, hK, hD, hS, hA, hZ, hT⟩ := hG
    refine va_last hx hb hK hP hD hS 0 0 rfl rfl (by unfold vp_in; decide) dL_place_10 (fun H locs hP hD hS => ?_)
    have hG : GL D cJ h0 a1 a2 a3 a4 a5 a6 tC tS qo A u2 (vp_updL f 0 (r).toInt64) s H locs := ⟨hP, hK, hD, hS, hA, hZ, hT⟩
    refine lv_goto (tgt := 22) hx hb dL_place_11 (by decide) ?_
    refine lv_iconst (v := 0) hx hb dL_place_22 (by decide) ?_
    exact W.iret (v := 0) hx hb hr (fun t ht hWm => ⟨⟨0, (u2, (vp_updL f 0 (r).toInt64)), rfl, hw, by rw [ht]; exact hG.1, va_K.moved hWm.alike hG.2.1, hG.2.2.1⟩, hG.2.2.2.1.F ht⟩) hG.2.2.2.1.2.2 dL_place_23

def wL_depth (post : Int32 → XS × (Nat → Int64) → Prop) (u : XS) (f : Nat → Int64) (v1 : Int32) (v2 : Int64) : Prop := (wX0_depth (fun r u2 => (post 0 (u2, (vp_updL f 0 r)))) (fun k9 => (k9 = 3 → (post 1 (u, f))) ∧ (k9 = 0 → (post 2 (u, f))) ∧ (k9 = 3 ∨ k9 = 0)) u v1 v2)

set_option maxHeartbeats 4000000 in
set_option maxRecDepth 100000 in
theorem mL_depth (l : Launch) (hst : l.stackTraces = false) (D : va_G) (cJ : ClassId) (h0 a1 a2 a3 a4 a5 a6 tC tS qo sz : Nat) (u : XS) (f : Nat → Int64) (v1 : Int32) (v2 : Int64) (post : Int32 → XS × (Nat → Int64) → Prop) : Met l yL_depth wsL_depth ({ frames := 7, cells := 1, slots := 6, locals := 113 } : Room) (va_Pc [.ref h0, .int v1, .long v2, .ref qo] (fun U => LE D cJ h0 a1 a2 a3 a4 a5 a6 tC tS qo sz u f U ∧ wL_depth post u f v1 v2)) (va_Qi post (fun w9 t9 => LTt D cJ h0 a1 a2 a3 a4 a5 a6 qo (va_A (lW cJ h0 a1 a2 a3 a4 a5 a6 qo u f) sz) w9 t9) (va_A (lW cJ h0 a1 a2 a3 a4 a5 a6 qo u f) sz)) 1 6 (va_A (lW cJ h0 a1 a2 a3 a4 a5 a6 qo u f) sz) := by
  refine va_MetW (cc := cL_depth) (maxL := 6) (ret := some .int) (hh := [(0, 10, 13, 54), (0, 10, 17, 13)]) (by decide +kernel) rfl ?_
  intro p e s m args below meth c s₁ B hml hv
  obtain ⟨rfl, ⟨hsz, hP, hK, hD0, hZ, hT, hNC⟩, hw⟩ := hv
  have hx := B.exec
  have hb := B.bytes
  have hr := B.returns
  have hts := atoms_spec (ws := wsL_depth) B.pre
  have hown : s.vm.findClass RL = some m.cls := findClass_of_methodNamed B.named
  have hlocks := B.notSynchronized
  have htab : c.exceptionTable.toList = tableOf [(0, 10, 13, 54), (0, 10, 17, 13)] := vx_table (x := yL_turn) B (hts _ List.mem_cons_self)
  subst hsz
  have hD := hD0.self (sz := s.heap.size)
  generalize hAe : va_A (lW cJ h0 a1 a2 a3 a4 a5 a6 qo u f) s.heap.size = A at hD hZ hT ⊢
  have hA : ∀ q : Nat, s.heap.size ≤ q → A q := fun q h => by rw [← hAe]; exact Or.inr h
  have hG : GL D cJ h0 a1 a2 a3 a4 a5 a6 tC tS qo A u f s s.heap [] := ⟨hP, hK, hD, va_S.rf, hA, hZ, hT⟩
  have hl := lv_entry ([.ref h0, .int v1, .long v2, .ref qo]) (n := 6) (Nat.le_of_ble_eq_true rfl)
  rw [lg_entry_eq]
  generalize (lg_sl ([.ref h0, .int v1, .long v2, .ref qo]) ++ List.replicate (6 - (lg_sl ([.ref h0, .int v1, .long v2, .ref qo])).length) Slot.unset).toArray = ls at hl ⊢
  have hl : lv_has ls 6 [(0, .ref h0), (1, .int v1), (2, .long v2), (4, .ref qo)] := hl
  unfold wL_depth at hw
  refine lv_aload hx hb dL_depth_0 (lv_at hl 3 rfl) ?_
  refine lv_iconst (v := 0) hx hb dL_depth_2 (by decide) ?_
  refine lv_aload_n hx hb dL_depth_3 rfl (lv_at hl 0 rfl) ?_
  refine lv_iload_n hx hb dL_depth_4 rfl (lv_at hl 1 rfl) ?_
  refine lv_lload_n hx hb dL_depth_5 rfl (lv_at hl 2 rfl) ?_
  refine Lc_l (As := [.int v1, .long v2]) (rest := [.int 0, .ref qo]) ⟨hx, hb, hml, hown, hts⟩ (mX0_depth l hst D cJ h0 a1 a2 a3 a4 a5 a6 tC tS s.heap.size u v1 v2 _ _) (cwV 2 hts gL_depth_X0_depth rfl rfl rfl (by decide +kernel) ⟨Nat.le_of_ble_eq_true rfl, Nat.le_of_ble_eq_true rfl⟩) hG hw rfl hl.1 rfl (Nat.le_of_ble_eq_true rfl) dL_depth_6 ⟨Nat.le_of_ble_eq_true rfl, Nat.le_of_ble_eq_true rfl⟩ (fun k9 q9 ce9 H locs hk9 hG hce hcv hcl => ?_) (fun r u2 H locs hw hG => ?_)
  · obtain ⟨g0, g1, (rfl | rfl)⟩ := hk9
    · have hw := g0 rfl
      refine vc_catch (hp := 13) hown (by rw [htab]; exact ⟨by decide, by decide, "java/lang/IndexOutOfBoundsException", hts (.classLink RL 54 "java/lang/IndexOutOfBoundsException") (by decide +kernel), Or.inl ⟨va_Nw.use rfl (hG.2.2.2.2.2.2.2.2 (.castable "java/lang/IndexOutOfBoundsException" "java/lang/IndexOutOfBoundsException") (by decide +kernel)), rfl⟩⟩) hce hcv hcl ?_
      refine lv_astore (lv' := [(5, .ref q9), (0, .ref h0), (1, .int v1), (2, .long v2), (4, .ref qo)]) hx hb dL_depth_13 hl (by decide) rfl (fun ls hl => ?_)
      refine lv_iconst (v := 1) hx hb dL_depth_15 (by decide) ?_
      exact W.iret (v := 1) hx hb hr (fun t ht hWm => ⟨⟨1, (u, f), rfl, hw, by rw [ht]; exact hG.1, va_K.moved hWm.alike hG.2.1, hG.2.2.1⟩, hG.2.2.2.1.F ht⟩) hG.2.2.2.1.2.2 dL_depth_16
    · have hw := g1 rfl
      refine vc_catch (hp := 17) hown (by rw [htab]; exact ⟨by decide, by decide, "java/lang/IndexOutOfBoundsException", hts (.classLink RL 54 "java/lang/IndexOutOfBoundsException") (by decide +kernel), Or.inr ⟨hNC.2.2.1, ⟨by decide, by decide, "java/lang/IllegalArgumentException", hts (.classLink RL 13 "java/lang/IllegalArgumentException") (by decide +kernel), Or.inl ⟨va_Nw.use rfl (hG.2.2.2.2.2.2.2.2 (.castable "java/lang/IllegalArgumentException" "java/lang/IllegalArgumentException") (by decide +kernel)), rfl⟩⟩⟩⟩) hce hcv hcl ?_
      refine lv_astore (lv' := [(5, .ref q9), (0, .ref h0), (1, .int v1), (2, .long v2), (4, .ref qo)]) hx hb dL_depth_17 hl (by decide) rfl (fun ls hl => ?_)
      refine lv_iconst (v := 2) hx hb dL_depth_19 (by decide) ?_
      exact W.iret (v := 2) hx hb hr (fun t ht hWm => ⟨⟨2, (u, f), rfl, hw, by rw [ht]; exact hG.1, va_K.moved hWm.alike hG.2.1, hG.2.2.1⟩, hG.2.2.2.1.F ht⟩) hG.2.2.2.1.2.2 dL_depth_20
  ·
    obtain ⟨hP, hK, hD, hS, hA, hZ, hT⟩ := hG
    refine va_last hx hb hK hP hD hS 0 0 rfl rfl (by unfold vp_in; decide) dL_depth_9 (fun H locs hP hD hS => ?_)
    have hG : GL D cJ h0 a1 a2 a3 a4 a5 a6 tC tS qo A u2 (vp_updL f 0 r) s H locs := ⟨hP, hK, hD, hS, hA, hZ, hT⟩
    refine lv_goto (tgt := 21) hx hb dL_depth_10 (by decide) ?_
    refine lv_iconst (v := 0) hx hb dL_depth_21 (by decide) ?_
    exact W.iret (v := 0) hx hb hr (fun t ht hWm => ⟨⟨0, (u2, (vp_updL f 0 r)), rfl, hw, by rw [ht]; exact hG.1, va_K.moved hWm.alike hG.2.1, hG.2.2.1⟩, hG.2.2.2.1.F ht⟩) hG.2.2.2.1.2.2 dL_depth_22

def wL_sail (post : Int32 → XS × (Nat → Int64) → Prop) (u : XS) (f : Nat → Int64) (v1 : Int64) (v3 : Int64) (v5 : Int64) (v7 : Int32) : Prop := (wX0_sail (fun r u2 => (post 0 (u2, (vp_updL f 0 (r).toInt64)))) (fun k9 => (k9 = 0 → (post 1 (u, f))) ∧ (k9 = 1 → (post 2 (u, f))) ∧ (k9 = 2 → (post 3 (u, f))) ∧ (k9 = 0 ∨ k9 = 1 ∨ k9 = 2)) u v1 v3 v5 v7)

set_option maxHeartbeats 4000000 in
set_option maxRecDepth 100000 in
theorem mL_sail (l : Launch) (hst : l.stackTraces = false) (D : va_G) (cJ : ClassId) (h0 a1 a2 a3 a4 a5 a6 tC tS qo sz : Nat) (u : XS) (f : Nat → Int64) (v1 : Int64) (v3 : Int64) (v5 : Int64) (v7 : Int32) (post : Int32 → XS × (Nat → Int64) → Prop) : Met l yL_sail wsL_sail ({ frames := 7, cells := 1, slots := 6, locals := 212 } : Room) (va_Pc [.ref h0, .long v1, .long v3, .long v5, .int v7, .ref qo] (fun U => LE D cJ h0 a1 a2 a3 a4 a5 a6 tC tS qo sz u f U ∧ wL_sail post u f v1 v3 v5 v7)) (va_Qi post (fun w9 t9 => LTt D cJ h0 a1 a2 a3 a4 a5 a6 qo (va_A (lW cJ h0 a1 a2 a3 a4 a5 a6 qo u f) sz) w9 t9) (va_A (lW cJ h0 a1 a2 a3 a4 a5 a6 qo u f) sz)) 1 6 (va_A (lW cJ h0 a1 a2 a3 a4 a5 a6 qo u f) sz) := by
  refine va_MetW (cc := cL_sail) (maxL := 10) (ret := some .int) (hh := [(0, 15, 18, 13), (0, 15, 22, 15), (0, 15, 26, 35)]) (by decide +kernel) rfl ?_
  intro p e s m args below meth c s₁ B hml hv
  obtain ⟨rfl, ⟨hsz, hP, hK, hD0, hZ, hT, hNC⟩, hw⟩ := hv
  have hx := B.exec
  have hb := B.bytes
  have hr := B.returns
  have hts := atoms_spec (ws := wsL_sail) B.pre
  have hown : s.vm.findClass RL = some m.cls := findClass_of_methodNamed B.named
  have hlocks := B.notSynchronized
  have htab : c.exceptionTable.toList = tableOf [(0, 15, 18, 13), (0, 15, 22, 15), (0, 15, 26, 35)] := vx_table (x := yL_turn) B (hts _ List.mem_cons_self)
  subst hsz
  have hD := hD0.self (sz := s.heap.size)
  generalize hAe : va_A (lW cJ h0 a1 a2 a3 a4 a5 a6 qo u f) s.heap.size = A at hD hZ hT ⊢
  have hA : ∀ q : Nat, s.heap.size ≤ q → A q := fun q h => by rw [← hAe]; exact Or.inr h
  have hG : GL D cJ h0 a1 a2 a3 a4 a5 a6 tC tS qo A u f s s.heap [] := ⟨hP, hK, hD, va_S.rf, hA, hZ, hT⟩
  have hl := lv_entry ([.ref h0, .long v1, .long v3, .long v5, .int v7, .ref qo]) (n := 10) (Nat.le_of_ble_eq_true rfl)
  rw [lg_entry_eq]
  generalize (lg_sl ([.ref h0, .long v1, .long v3, .long v5, .int v7, .ref qo]) ++ List.replicate (10 - (lg_sl ([.ref h0, .long v1, .long v3, .long v5, .int v7, .ref qo])).length) Slot.unset).toArray = ls at hl ⊢
  have hl : lv_has ls 10 [(0, .ref h0), (1, .long v1), (3, .long v3), (5, .long v5), (7, .int v7), (8, .ref qo)] := hl
  unfold wL_sail at hw
  refine lv_aload hx hb dL_sail_0 (lv_at hl 5 rfl) ?_
  refine lv_iconst (v := 0) hx hb dL_sail_2 (by decide) ?_
  refine lv_aload_n hx hb dL_sail_3 rfl (lv_at hl 0 rfl) ?_
  refine lv_lload_n hx hb dL_sail_4 rfl (lv_at hl 1 rfl) ?_
  refine lv_lload_n hx hb dL_sail_5 rfl (lv_at hl 2 rfl) ?_
  refine lv_lload hx hb dL_sail_6 (lv_at hl 3 rfl) ?_
  refine lv_iload hx hb dL_sail_8 (lv_at hl 4 rfl) ?_
  refine Lc_i (As := [.long v1, .long v3, .long v5, .int v7]) (rest := [.int 0, .ref qo]) ⟨hx, hb, hml, hown, hts⟩ (mX0_sail l hst D cJ h0 a1 a2 a3 a4 a5 a6 tC tS s.heap.size u v1 v3 v5 v7 _ _) (cwV 4 hts gL_sail_X0_sail rfl rfl rfl (by decide +kernel) ⟨Nat.le_of_ble_eq_true rfl, Nat.le_of_ble_eq_true rfl⟩) hG hw rfl hl.1 rfl (Nat.le_of_ble_eq_true rfl) dL_sail_10 ⟨Nat.le_of_ble_eq_true rfl, Nat.le_of_ble_eq_true rfl⟩ (fun k9 q9 ce9 H locs hk9 hG hce hcv hcl => ?_) (fun r u2 H locs hw hG => ?_)
  · obtain ⟨g0, g1, g2, (rfl | rfl | rfl)⟩ := hk9
    · have hw := g0 rfl
      refine vc_catch (hp := 18) hown (by rw [htab]; exact ⟨by decide, by decide, "java/lang/IllegalArgumentException", hts (.classLink RL 13 "java/lang/IllegalArgumentException") (by decide +kernel), Or.inl ⟨va_Nw.use rfl (hG.2.2.2.2.2.2.2.2 (.castable "java/lang/IllegalArgumentException" "java/lang/IllegalArgumentException") (by decide +kernel)), rfl⟩⟩) hce hcv hcl ?_
      refine lv_astore (lv' := [(9, .ref q9), (0, .ref h0), (1, .long v1), (3, .long v3), (5, .long v5), (7, .int v7), (8, .ref qo)]) hx hb dL_sail_18 hl (by decide) rfl (fun ls hl => ?_)
      refine lv_iconst (v := 1) hx hb dL_sail_20 (by decide) ?_
      exact W.iret (v := 1) hx hb hr (fun t ht hWm => ⟨⟨1, (u, f), rfl, hw, by rw [ht]; exact hG.1, va_K.moved hWm.alike hG.2.1, hG.2.2.1⟩, hG.2.2.2.1.F ht⟩) hG.2.2.2.1.2.2 dL_sail_21
    · have hw := g1 rfl
      refine vc_catch (hp := 22) hown (by rw [htab]; exact ⟨by decide, by decide, "java/lang/IllegalArgumentException", hts (.classLink RL 13 "java/lang/IllegalArgumentException") (by decide +kernel), Or.inr ⟨hNC.1, ⟨by decide, by decide, "java/lang/IllegalStateException", hts (.classLink RL 15 "java/lang/IllegalStateException") (by decide +kernel), Or.inl ⟨va_Nw.use rfl (hG.2.2.2.2.2.2.2.2 (.castable "java/lang/IllegalStateException" "java/lang/IllegalStateException") (by decide +kernel)), rfl⟩⟩⟩⟩) hce hcv hcl ?_
      refine lv_astore (lv' := [(9, .ref q9), (0, .ref h0), (1, .long v1), (3, .long v3), (5, .long v5), (7, .int v7), (8, .ref qo)]) hx hb dL_sail_22 hl (by decide) rfl (fun ls hl => ?_)
      refine lv_iconst (v := 2) hx hb dL_sail_24 (by decide) ?_
      exact W.iret (v := 2) hx hb hr (fun t ht hWm => ⟨⟨2, (u, f), rfl, hw, by rw [ht]; exact hG.1, va_K.moved hWm.alike hG.2.1, hG.2.2.1⟩, hG.2.2.2.1.F ht⟩) hG.2.2.2.1.2.2 dL_sail_25
    · have hw := g2 rfl
      refine vc_catch (hp := 26) hown (by rw [htab]; exact ⟨by decide, by decide, "java/lang/IllegalArgumentException", hts (.classLink RL 13 "java/lang/IllegalArgumentException") (by decide +kernel), Or.inr ⟨hNC.2.1, ⟨by decide, by decide, "java/lang/IllegalStateException", hts (.classLink RL 15 "java/lang/IllegalStateException") (by decide +kernel), Or.inr ⟨hNC.2.2.2, ⟨by decide, by decide, "java/lang/ArithmeticException", hts (.classLink RL 35 "java/lang/ArithmeticException") (by decide +kernel), Or.inl ⟨va_Nw.use rfl (hG.2.2.2.2.2.2.2.2 (.castable "java/lang/ArithmeticException" "java/lang/ArithmeticException") (by decide +kernel)), rfl⟩⟩⟩⟩⟩⟩) hce hcv hcl ?_
      refine lv_astore (lv' := [(9, .ref q9), (0, .ref h0), (1, .long v1), (3, .long v3), (5, .long v5), (7, .int v7), (8, .ref qo)]) hx hb dL_sail_26 hl (by decide) rfl (fun ls hl => ?_)
      refine lv_iconst (v := 3) hx hb dL_sail_28 (by decide) ?_
      exact W.iret (v := 3) hx hb hr (fun t ht hWm => ⟨⟨3, (u, f), rfl, hw, by rw [ht]; exact hG.1, va_K.moved hWm.alike hG.2.1, hG.2.2.1⟩, hG.2.2.2.1.F ht⟩) hG.2.2.2.1.2.2 dL_sail_29
  ·
    refine lv_i2l (v := (r).toInt64) hx hb dL_sail_13 rfl ?_
    obtain ⟨hP, hK, hD, hS, hA, hZ, hT⟩ := hG
    refine va_last hx hb hK hP hD hS 0 0 rfl rfl (by unfold vp_in; decide) dL_sail_14 (fun H locs hP hD hS => ?_)
    have hG : GL D cJ h0 a1 a2 a3 a4 a5 a6 tC tS qo A u2 (vp_updL f 0 (r).toInt64) s H locs := ⟨hP, hK, hD, hS, hA, hZ, hT⟩
    refine lv_goto (tgt := 30) hx hb dL_sail_15 (by decide) ?_
    refine lv_iconst (v := 0) hx hb dL_sail_30 (by decide) ?_
    exact W.iret (v := 0) hx hb hr (fun t ht hWm => ⟨⟨0, (u2, (vp_updL f 0 (r).toInt64)), rfl, hw, by rw [ht]; exact hG.1, va_K.moved hWm.alike hG.2.1, hG.2.2.1⟩, hG.2.2.2.1.F ht⟩) hG.2.2.2.1.2.2 dL_sail_31

def wL_read (post : Int32 → XS × (Nat → Int64) → Prop) (u : XS) (f : Nat → Int64) (v1 : Int32) (v2 : Int32) : Prop := (wX0_read (fun r u2 => (post 0 (u2, (vp_updL f 0 r)))) (fun k9 => (k9 = 3 → (post 1 (u, f))) ∧ (k9 = 3)) u v1 v2)

set_option maxHeartbeats 4000000 in
set_option maxRecDepth 100000 in
theorem mL_read (l : Launch) (hst : l.stackTraces = false) (D : va_G) (cJ : ClassId) (h0 a1 a2 a3 a4 a5 a6 tC tS qo sz : Nat) (u : XS) (f : Nat → Int64) (v1 : Int32) (v2 : Int32) (post : Int32 → XS × (Nat → Int64) → Prop) : Met l yL_read wsL_read ({ frames := 7, cells := 1, slots := 6, locals := 115 } : Room) (va_Pc [.ref h0, .int v1, .int v2, .ref qo] (fun U => LE D cJ h0 a1 a2 a3 a4 a5 a6 tC tS qo sz u f U ∧ wL_read post u f v1 v2)) (va_Qi post (fun w9 t9 => LTt D cJ h0 a1 a2 a3 a4 a5 a6 qo (va_A (lW cJ h0 a1 a2 a3 a4 a5 a6 qo u f) sz) w9 t9) (va_A (lW cJ h0 a1 a2 a3 a4 a5 a6 qo u f) sz)) 1 6 (va_A (lW cJ h0 a1 a2 a3 a4 a5 a6 qo u f) sz) := by
  refine va_MetW (cc := cL_read) (maxL := 5) (ret := some .int) (hh := [(0, 9, 12, 54)]) (by decide +kernel) rfl ?_
  intro p e s m args below meth c s₁ B hml hv
  obtain ⟨rfl, ⟨hsz, hP, hK, hD0, hZ, hT, hNC⟩, hw⟩ := hv
  have hx := B.exec
  have hb := B.bytes
  have hr := B.returns
  have hts := atoms_spec (ws := wsL_read) B.pre
  have hown : s.vm.findClass RL = some m.cls := findClass_of_methodNamed B.named
  have hlocks := B.notSynchronized
  have htab : c.exceptionTable.toList = tableOf [(0, 9, 12, 54)] := vx_table (x := yL_turn) B (hts _ List.mem_cons_self)
  subst hsz
  have hD := hD0.self (sz := s.heap.size)
  generalize hAe : va_A (lW cJ h0 a1 a2 a3 a4 a5 a6 qo u f) s.heap.size = A at hD hZ hT ⊢
  have hA : ∀ q : Nat, s.heap.size ≤ q → A q := fun q h => by rw [← hAe]; exact Or.inr h
  have hG : GL D cJ h0 a1 a2 a3 a4 a5 a6 tC tS qo A u f s s.heap [] := ⟨hP, hK, hD, va_S.rf, hA, hZ, hT⟩
  have hl := lv_entry ([.ref h0, .int v1, .int v2, .ref qo]) (n := 5) (Nat.le_of_ble_eq_true rfl)
  rw [lg_entry_eq]
  generalize (lg_sl ([.ref h0, .int v1, .int v2, .ref qo]) ++ List.replicate (5 - (lg_sl ([.ref h0, .int v1, .int v2, .ref qo])).length) Slot.unset).toArray = ls at hl ⊢
  have hl : lv_has ls 5 [(0, .ref h0), (1, .int v1), (2, .int v2), (3, .ref qo)] := hl
  unfold wL_read at hw
  refine lv_aload_n hx hb dL_read_0 rfl (lv_at hl 3 rfl) ?_
  refine lv_iconst (v := 0) hx hb dL_read_1 (by decide) ?_
  refine lv_aload_n hx hb dL_read_2 rfl (lv_at hl 0 rfl) ?_
  refine lv_iload_n hx hb dL_read_3 rfl (lv_at hl 1 rfl) ?_
  refine lv_iload_n hx hb dL_read_4 rfl (lv_at hl 2 rfl) ?_
  refine Lc_l (As := [.int v1, .int v2]) (rest := [.int 0, .ref qo]) ⟨hx, hb, hml, hown, hts⟩ (mX0_read l hst D cJ h0 a1 a2 a3 a4 a5 a6 tC tS s.heap.size u v1 v2 _ _) (cwV 2 hts gL_read_X0_read rfl rfl rfl (by decide +kernel) ⟨Nat.le_of_ble_eq_true rfl, Nat.le_of_ble_eq_true rfl⟩) hG hw rfl hl.1 rfl (Nat.le_of_ble_eq_true rfl) dL_read_5 ⟨Nat.le_of_ble_eq_true rfl, Nat.le_of_ble_eq_true rfl⟩ (fun k9 q9 ce9 H locs hk9 hG hce hcv hcl => ?_) (fun r u2 H locs hw hG => ?_)
  · obtain ⟨g0, (rfl)⟩ := hk9
    · have hw := g0 rfl
      refine vc_catch (hp := 12) hown (by rw [htab]; exact ⟨by decide, by decide, "java/lang/IndexOutOfBoundsException", hts (.classLink RL 54 "java/lang/IndexOutOfBoundsException") (by decide +kernel), Or.inl ⟨va_Nw.use rfl (hG.2.2.2.2.2.2.2.2 (.castable "java/lang/IndexOutOfBoundsException" "java/lang/IndexOutOfBoundsException") (by decide +kernel)), rfl⟩⟩) hce hcv hcl ?_
      refine lv_astore (lv' := [(4, .ref q9), (0, .ref h0), (1, .int v1), (2, .int v2), (3, .ref qo)]) hx hb dL_read_12 hl (by decide) rfl (fun ls hl => ?_)
      refine lv_iconst (v := 1) hx hb dL_read_14 (by decide) ?_
      exact W.iret (v := 1) hx hb hr (fun t ht hWm => ⟨⟨1, (u, f), rfl, hw, by rw [ht]; exact hG.1, va_K.moved hWm.alike hG.2.1, hG.2.2.1⟩, hG.2.2.2.1.F ht⟩) hG.2.2.2.1.2.2 dL_read_15
  ·
    obtain ⟨hP, hK, hD, hS, hA, hZ, hT⟩ := hG
    refine va_last hx hb hK hP hD hS 0 0 rfl rfl (by unfold vp_in; decide) dL_read_8 (fun H locs hP hD hS => ?_)
    have hG : GL D cJ h0 a1 a2 a3 a4 a5 a6 tC tS qo A u2 (vp_updL f 0 r) s H locs := ⟨hP, hK, hD, hS, hA, hZ, hT⟩
    refine lv_goto (tgt := 16) hx hb dL_read_9 (by decide) ?_
    refine lv_iconst (v := 0) hx hb dL_read_16 (by decide) ?_
    exact W.iret (v := 0) hx hb hr (fun t ht hWm => ⟨⟨0, (u2, (vp_updL f 0 r)), rfl, hw, by rw [ht]; exact hG.1, va_K.moved hWm.alike hG.2.1, hG.2.2.1⟩, hG.2.2.2.1.F ht⟩) hG.2.2.2.1.2.2 dL_read_17
