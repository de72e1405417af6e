/-! the constructors -/
theorem vk_eqL {D : va_G} {cl : List vw_C} {tys : List (ClassId × FieldType)} {U : State} (hK : va_K D cl tys U) {i j : Nat} {c1 c2 : ClassId} (h1 : tys[i]? = some (c1, .long)) (h2 : tys[j]? = some (c2, .long)) : c1 = c2 := Option.some.inj ((show U.vm.findClass _ = some c1 from (hK.2 i _ h1).2).symm.trans (show U.vm.findClass _ = some c2 from (hK.2 j _ h2).2))
theorem vk_eqI {D : va_G} {cl : List vw_C} {tys : List (ClassId × FieldType)} {U : State} (hK : va_K D cl tys U) {i j : Nat} {c1 c2 : ClassId} (h1 : tys[i]? = some (c1, .int)) (h2 : tys[j]? = some (c2, .int)) : c1 = c2 := Option.some.inj ((show U.vm.findClass _ = some c1 from (hK.2 i _ h1).2).symm.trans (show U.vm.findClass _ = some c2 from (hK.2 j _ h2).2))
theorem upd_tab {f g : Nat → Int32} {k : Nat} {x : Int32} (h : ∀ j, j < k → f j = g j) (hx : x = g k) : ∀ j, j < k + 1 → upd f k x j = g j := by
  intro j hj
  by_cases e : j = k
  · subst e; rw [pk_us, hx]
  · rw [pk_un e]; exact h j (by omega)
/-- the class as it is made -/
def x00 : XS := (fun _ => 0, fun _ => 0, 0, fun _ => 0, fun _ => 0, 0, fun _ => 0, fun _ => 0, 0)
set_option maxHeartbeats 2000000 in
set_option maxRecDepth 100000 in
theorem mX0_init (l : Launch) (D : va_G) (cJ : ClassId) (h0 sz : Nat) : Met l yX0_init wsX0_init ({ frames := 1, cells := 6, slots := 136, locals := 20 } : Room) (va_Pc [.ref h0] (fun U => U.heap.size = sz ∧ va_P D cls2 [(h0, .inr (0, [.null, .null, .int 0, .null, .null, .int 0, .null, .null, .int 0]))] U.heap ∧ va_K D cls2 [(cJ, .long)] U ∧ va_D (fun _ => True) [(h0, .inr (0, [.null, .null, .int 0, .null, .null, .int 0, .null, .null, .int 0]))])) (va_Qv (fun q : Nat × Nat × Nat × Nat × Nat × Nat => True) (fun q t => XT D cJ h0 q.1 q.2.1 q.2.2.1 q.2.2.2.1 q.2.2.2.2.1 q.2.2.2.2.2 (va_A [(h0, .inr (0, [.null, .null, .int 0, .null, .null, .int 0, .null, .null, .int 0]))] sz) x00 t) (va_A [(h0, .inr (0, [.null, .null, .int 0, .null, .null, .int 0, .null, .null, .int 0]))] sz)) 6 136 (va_A [(h0, .inr (0, [.null, .null, .int 0, .null, .null, .int 0, .null, .null, .int 0]))] sz) := by
  refine Met.ofW (cc := cX0_init) (maxL := 1) (ret := none) (by decide +kernel) rfl ?_
  intro p e s m args below meth c s₁ B hml hv
  obtain ⟨rfl, hsz, hP, hK, hD0⟩ := hv
  have hx := B.exec
  have hb := B.bytes
  have hr := B.returns
  have hts := atoms_spec (ws := wsX0_init) B.pre
  have hown : s.vm.findClass RX0 = some m.cls := findClass_of_methodNamed B.named
  have hlocks := B.notSynchronized
  have hinit : meth.name = "<init>" := (name_of_methodNamed B.named B.method).1
  have hin : ∀ w ∈ u_ws RX0 TX0 9, w ∈ wsX0_init := by decide +kernel
  subst hsz
  have hD := hD0.self (sz := s.heap.size)
  generalize hAe : va_A [(h0, .inr (0, [.null, .null, .int 0, .null, .null, .int 0, .null, .null, .int 0]))] s.heap.size = A at hD ⊢
  have hA : ∀ q : Nat, s.heap.size ≤ q → A q := fun q h => by rw [← hAe]; exact Or.inr h
  have hS : va_S A s.heap s.heap [] := va_S.rf
  have hl := lv_entry ([.ref h0]) (n := 1) (Nat.le_of_ble_eq_true rfl)
  rw [lg_entry_eq]
  generalize (lg_sl ([.ref h0]) ++ List.replicate (1 - (lg_sl ([.ref h0])).length) Slot.unset).toArray = ls at hl ⊢
  have hl : lv_has ls 1 [(0, .ref h0)] := hl
  refine lv_aload_n hx hb dX0_init_0 rfl (lv_at hl 0 rfl) ?_
  refine W.objInit hx hb hown (hts (.methodLink RX0 1 objectInit) (by decide +kernel)) (hts (.instanceMethod objectInit) (by decide +kernel)) (hts (.code objectInit ⟨#[0xb1]⟩ 1 none) (by decide +kernel)) rfl (by rw [hml]; exact hl.1) rfl dX0_init_1 (Nat.le_of_ble_eq_true rfl) (Nat.le_of_ble_eq_true rfl) ?_
  refine W.eq (g2 := F0 m 4 ls []) rfl ?_
  refine lv_aload_n hx hb dX0_init_4 rfl (lv_at hl 0 rfl) ?_
  refine lv_bipush (v := 40) hx hb dX0_init_5 (by decide) ?_
  refine va_newa (atype := .long) (ty := .long) (a0 := (40, .inr (.inl (fun _ => 0)))) (N' := 40) hx hb (hts (.arrayClass .long) (by decide +kernel)) rfl hK hP hD hS hA (fun _ => rfl) (by decide) (by decide) (Nat.le_of_ble_eq_true rfl) (Nat.le_of_ble_eq_true rfl) (Nat.le_of_ble_eq_true rfl) dX0_init_7 (fun q1 cA H hK5 hP hD hS => ?_)
  have eA : cA = cJ := vk_eqL hK5 (i := 1) (j := 0) rfl rfl
  subst cA
  clear hK5
  have hP : va_P D cls2 [(h0, .inr (0, [.null, .null, .int 0, .null, .null, .int 0, .null, .null, .int 0])), (q1, .inl (cJ, 40, .inr (.inl (fun _ => 0))))] H := hP
  have hD : va_D A [(h0, .inr (0, [.null, .null, .int 0, .null, .null, .int 0, .null, .null, .int 0])), (q1, .inl (cJ, 40, .inr (.inl (fun _ => 0))))] := hD
  refine va_putF (D := D) (ci := 0) (v := .ref q1) (ty := (.array .long)) (C := RX0) (T := TX0) (N := 9) hx hb hts hin tyX0 tyX0_ok nmX0 hown hK hP hD hS 0 rfl rfl 0 (by decide) (hts (.fieldLink RX0 9 "TideDepths" "turnTimes" "[J") (by decide +kernel)) (fun _ h9 => h9) rfl hinit rfl (by decide +kernel) rfl rfl (Nat.le_of_ble_eq_true rfl) dX0_init_9 (fun H locs hP hD hS => ?_)
  have hP : va_P D cls2 [(h0, .inr (0, [.ref q1, .null, .int 0, .null, .null, .int 0, .null, .null, .int 0])), (q1, .inl (cJ, 40, .inr (.inl (fun _ => 0))))] H := hP
  have hD : va_D A [(h0, .inr (0, [.ref q1, .null, .int 0, .null, .null, .int 0, .null, .null, .int 0])), (q1, .inl (cJ, 40, .inr (.inl (fun _ => 0))))] := hD
  refine lv_aload_n hx hb dX0_init_12 rfl (lv_at hl 0 rfl) ?_
  refine lv_bipush (v := 40) hx hb dX0_init_13 (by decide) ?_
  refine va_newa (atype := .long) (ty := .long) (a0 := (40, .inr (.inl (fun _ => 0)))) (N' := 40) hx hb (hts (.arrayClass .long) (by decide +kernel)) rfl hK hP hD hS hA (fun _ => rfl) (by decide) (by decide) (Nat.le_of_ble_eq_true rfl) (Nat.le_of_ble_eq_true rfl) (Nat.le_of_ble_eq_true rfl) dX0_init_15 (fun q2 cA H hK5 hP hD hS => ?_)
  have eA : cA = cJ := vk_eqL hK5 (i := 1) (j := 0) rfl rfl
  subst cA
  clear hK5
  have hP : va_P D cls2 [(h0, .inr (0, [.ref q1, .null, .int 0, .null, .null, .int 0, .null, .null, .int 0])), (q1, .inl (cJ, 40, .inr (.inl (fun _ => 0)))), (q2, .inl (cJ, 40, .inr (.inl (fun _ => 0))))] H := hP
  have hD : va_D A [(h0, .inr (0, [.ref q1, .null, .int 0, .null, .null, .int 0, .null, .null, .int 0])), (q1, .inl (cJ, 40, .inr (.inl (fun _ => 0)))), (q2, .inl (cJ, 40, .inr (.inl (fun _ => 0))))] := hD
  refine va_putF (D := D) (ci := 0) (v := .ref q2) (ty := (.array .long)) (C := RX0) (T := TX0) (N := 9) hx hb hts hin tyX0 tyX0_ok nmX0 hown hK hP hD hS 0 rfl rfl 1 (by decide) (hts (.fieldLink RX0 13 "TideDepths" "turnHeights" "[J") (by decide +kernel)) (fun _ h9 => h9) rfl hinit rfl (by decide +kernel) rfl rfl (Nat.le_of_ble_eq_true rfl) dX0_init_17 (fun H locs hP hD hS => ?_)
  have hP : va_P D cls2 [(h0, .inr (0, [.ref q1, .ref q2, .int 0, .null, .null, .int 0, .null, .null, .int 0])), (q1, .inl (cJ, 40, .inr (.inl (fun _ => 0)))), (q2, .inl (cJ, 40, .inr (.inl (fun _ => 0))))] H := hP
  have hD : va_D A [(h0, .inr (0, [.ref q1, .ref q2, .int 0, .null, .null, .int 0, .null, .null, .int 0])), (q1, .inl (cJ, 40, .inr (.inl (fun _ => 0)))), (q2, .inl (cJ, 40, .inr (.inl (fun _ => 0))))] := hD
  refine lv_aload_n hx hb dX0_init_20 rfl (lv_at hl 0 rfl) ?_
  refine lv_iconst (v := 0) hx hb dX0_init_21 (by decide) ?_
  refine va_put (D := D) (ci := 0) (v := .int 0) (ty := .int) (C := RX0) (T := TX0) (N := 9) hx hb hts hin tyX0 tyX0_ok nmX0 hown hK hP hD hS 0 rfl rfl 2 (by decide) (hts (.fieldLink RX0 16 "TideDepths" "turns" "I") (by decide +kernel)) (fun _ h9 => h9) rfl (by decide +kernel) rfl rfl (Nat.le_of_ble_eq_true rfl) dX0_init_22 (fun H locs hP hD hS => ?_)
  have hP : va_P D cls2 [(h0, .inr (0, [.ref q1, .ref q2, .int 0, .null, .null, .int 0, .null, .null, .int 0])), (q1, .inl (cJ, 40, .inr (.inl (fun _ => 0)))), (q2, .inl (cJ, 40, .inr (.inl (fun _ => 0))))] H := hP
  have hD : va_D A [(h0, .inr (0, [.ref q1, .ref q2, .int 0, .null, .null, .int 0, .null, .null, .int 0])), (q1, .inl (cJ, 40, .inr (.inl (fun _ => 0)))), (q2, .inl (cJ, 40, .inr (.inl (fun _ => 0))))] := hD
  refine lv_aload_n hx hb dX0_init_25 rfl (lv_at hl 0 rfl) ?_
  refine lv_bipush (v := 16) hx hb dX0_init_26 (by decide) ?_
  refine va_newa (atype := .long) (ty := .long) (a0 := (16, .inr (.inl (fun _ => 0)))) (N' := 16) hx hb (hts (.arrayClass .long) (by decide +kernel)) rfl hK hP hD hS hA (fun _ => rfl) (by decide) (by decide) (Nat.le_of_ble_eq_true rfl) (Nat.le_of_ble_eq_true rfl) (Nat.le_of_ble_eq_true rfl) dX0_init_28 (fun q3 cA H hK5 hP hD hS => ?_)
  have eA : cA = cJ := vk_eqL hK5 (i := 1) (j := 0) rfl rfl
  subst cA
  clear hK5
  have hP : va_P D cls2 [(h0, .inr (0, [.ref q1, .ref q2, .int 0, .null, .null, .int 0, .null, .null, .int 0])), (q1, .inl (cJ, 40, .inr (.inl (fun _ => 0)))), (q2, .inl (cJ, 40, .inr (.inl (fun _ => 0)))), (q3, .inl (cJ, 16, .inr (.inl (fun _ => 0))))] H := hP
  have hD : va_D A [(h0, .inr (0, [.ref q1, .ref q2, .int 0, .null, .null, .int 0, .null, .null, .int 0])), (q1, .inl (cJ, 40, .inr (.inl (fun _ => 0)))), (q2, .inl (cJ, 40, .inr (.inl (fun _ => 0)))), (q3, .inl (cJ, 16, .inr (.inl (fun _ => 0))))] := hD
  refine va_putF (D := D) (ci := 0) (v := .ref q3) (ty := (.array .long)) (C := RX0) (T := TX0) (N := 9) hx hb hts hin tyX0 tyX0_ok nmX0 hown hK hP hD hS 0 rfl rfl 3 (by decide) (hts (.fieldLink RX0 20 "TideDepths" "observedTimes" "[J") (by decide +kernel)) (fun _ h9 => h9) rfl hinit rfl (by decide +kernel) rfl rfl (Nat.le_of_ble_eq_true rfl) dX0_init_30 (fun H locs hP hD hS => ?_)
  have hP : va_P D cls2 [(h0, .inr (0, [.ref q1, .ref q2, .int 0, .ref q3, .null, .int 0, .null, .null, .int 0])), (q1, .inl (cJ, 40, .inr (.inl (fun _ => 0)))), (q2, .inl (cJ, 40, .inr (.inl (fun _ => 0)))), (q3, .inl (cJ, 16, .inr (.inl (fun _ => 0))))] H := hP
  have hD : va_D A [(h0, .inr (0, [.ref q1, .ref q2, .int 0, .ref q3, .null, .int 0, .null, .null, .int 0])), (q1, .inl (cJ, 40, .inr (.inl (fun _ => 0)))), (q2, .inl (cJ, 40, .inr (.inl (fun _ => 0)))), (q3, .inl (cJ, 16, .inr (.inl (fun _ => 0))))] := hD
  refine lv_aload_n hx hb dX0_init_33 rfl (lv_at hl 0 rfl) ?_
  refine lv_bipush (v := 16) hx hb dX0_init_34 (by decide) ?_
  refine va_newa (atype := .long) (ty := .long) (a0 := (16, .inr (.inl (fun _ => 0)))) (N' := 16) hx hb (hts (.arrayClass .long) (by decide +kernel)) rfl hK hP hD hS hA (fun _ => rfl) (by decide) (by decide) (Nat.le_of_ble_eq_true rfl) (Nat.le_of_ble_eq_true rfl) (Nat.le_of_ble_eq_true rfl) dX0_init_36 (fun q4 cA H hK5 hP hD hS => ?_)
  have eA : cA = cJ := vk_eqL hK5 (i := 1) (j := 0) rfl rfl
  subst cA
  clear hK5
  have hP : va_P D cls2 [(h0, .inr (0, [.ref q1, .ref q2, .int 0, .ref q3, .null, .int 0, .null, .null, .int 0])), (q1, .inl (cJ, 40, .inr (.inl (fun _ => 0)))), (q2, .inl (cJ, 40, .inr (.inl (fun _ => 0)))), (q3, .inl (cJ, 16, .inr (.inl (fun _ => 0)))), (q4, .inl (cJ, 16, .inr (.inl (fun _ => 0))))] H := hP
  have hD : va_D A [(h0, .inr (0, [.ref q1, .ref q2, .int 0, .ref q3, .null, .int 0, .null, .null, .int 0])), (q1, .inl (cJ, 40, .inr (.inl (fun _ => 0)))), (q2, .inl (cJ, 40, .inr (.inl (fun _ => 0)))), (q3, .inl (cJ, 16, .inr (.inl (fun _ => 0)))), (q4, .inl (cJ, 16, .inr (.inl (fun _ => 0))))] := hD
  refine va_putF (D := D) (ci := 0) (v := .ref q4) (ty := (.array .long)) (C := RX0) (T := TX0) (N := 9) hx hb hts hin tyX0 tyX0_ok nmX0 hown hK hP hD hS 0 rfl rfl 4 (by decide) (hts (.fieldLink RX0 23 "TideDepths" "differences" "[J") (by decide +kernel)) (fun _ h9 => h9) rfl hinit rfl (by decide +kernel) rfl rfl (Nat.le_of_ble_eq_true rfl) dX0_init_38 (fun H locs hP hD hS => ?_)
  have hP : va_P D cls2 [(h0, .inr (0, [.ref q1, .ref q2, .int 0, .ref q3, .ref q4, .int 0, .null, .null, .int 0])), (q1, .inl (cJ, 40, .inr (.inl (fun _ => 0)))), (q2, .inl (cJ, 40, .inr (.inl (fun _ => 0)))), (q3, .inl (cJ, 16, .inr (.inl (fun _ => 0)))), (q4, .inl (cJ, 16, .inr (.inl (fun _ => 0))))] H := hP
  have hD : va_D A [(h0, .inr (0, [.ref q1, .ref q2, .int 0, .ref q3, .ref q4, .int 0, .null, .null, .int 0])), (q1, .inl (cJ, 40, .inr (.inl (fun _ => 0)))), (q2, .inl (cJ, 40, .inr (.inl (fun _ => 0)))), (q3, .inl (cJ, 16, .inr (.inl (fun _ => 0)))), (q4, .inl (cJ, 16, .inr (.inl (fun _ => 0))))] := hD
  refine lv_aload_n hx hb dX0_init_41 rfl (lv_at hl 0 rfl) ?_
  refine lv_iconst (v := 0) hx hb dX0_init_42 (by decide) ?_
  refine va_put (D := D) (ci := 0) (v := .int 0) (ty := .int) (C := RX0) (T := TX0) (N := 9) hx hb hts hin tyX0 tyX0_ok nmX0 hown hK hP hD hS 0 rfl rfl 5 (by decide) (hts (.fieldLink RX0 26 "TideDepths" "observations" "I") (by decide +kernel)) (fun _ h9 => h9) rfl (by decide +kernel) rfl rfl (Nat.le_of_ble_eq_true rfl) dX0_init_43 (fun H locs hP hD hS => ?_)
  have hP : va_P D cls2 [(h0, .inr (0, [.ref q1, .ref q2, .int 0, .ref q3, .ref q4, .int 0, .null, .null, .int 0])), (q1, .inl (cJ, 40, .inr (.inl (fun _ => 0)))), (q2, .inl (cJ, 40, .inr (.inl (fun _ => 0)))), (q3, .inl (cJ, 16, .inr (.inl (fun _ => 0)))), (q4, .inl (cJ, 16, .inr (.inl (fun _ => 0))))] H := hP
  have hD : va_D A [(h0, .inr (0, [.ref q1, .ref q2, .int 0, .ref q3, .ref q4, .int 0, .null, .null, .int 0])), (q1, .inl (cJ, 40, .inr (.inl (fun _ => 0)))), (q2, .inl (cJ, 40, .inr (.inl (fun _ => 0)))), (q3, .inl (cJ, 16, .inr (.inl (fun _ => 0)))), (q4, .inl (cJ, 16, .inr (.inl (fun _ => 0))))] := hD
  refine lv_aload_n hx hb dX0_init_46 rfl (lv_at hl 0 rfl) ?_
  refine lv_bipush (v := 12) hx hb dX0_init_47 (by decide) ?_
  refine va_newa (atype := .long) (ty := .long) (a0 := (12, .inr (.inl (fun _ => 0)))) (N' := 12) hx hb (hts (.arrayClass .long) (by decide +kernel)) rfl hK hP hD hS hA (fun _ => rfl) (by decide) (by decide) (Nat.le_of_ble_eq_true rfl) (Nat.le_of_ble_eq_true rfl) (Nat.le_of_ble_eq_true rfl) dX0_init_49 (fun q5 cA H hK5 hP hD hS => ?_)
  have eA : cA = cJ := vk_eqL hK5 (i := 1) (j := 0) rfl rfl
  subst cA
  clear hK5
  have hP : va_P D cls2 [(h0, .inr (0, [.ref q1, .ref q2, .int 0, .ref q3, .ref q4, .int 0, .null, .null, .int 0])), (q1, .inl (cJ, 40, .inr (.inl (fun _ => 0)))), (q2, .inl (cJ, 40, .inr (.inl (fun _ => 0)))), (q3, .inl (cJ, 16, .inr (.inl (fun _ => 0)))), (q4, .inl (cJ, 16, .inr (.inl (fun _ => 0)))), (q5, .inl (cJ, 12, .inr (.inl (fun _ => 0))))] H := hP
  have hD : va_D A [(h0, .inr (0, [.ref q1, .ref q2, .int 0, .ref q3, .ref q4, .int 0, .null, .null, .int 0])), (q1, .inl (cJ, 40, .inr (.inl (fun _ => 0)))), (q2, .inl (cJ, 40, .inr (.inl (fun _ => 0)))), (q3, .inl (cJ, 16, .inr (.inl (fun _ => 0)))), (q4, .inl (cJ, 16, .inr (.inl (fun _ => 0)))), (q5, .inl (cJ, 12, .inr (.inl (fun _ => 0))))] := hD
  refine va_putF (D := D) (ci := 0) (v := .ref q5) (ty := (.array .long)) (C := RX0) (T := TX0) (N := 9) hx hb hts hin tyX0 tyX0_ok nmX0 hown hK hP hD hS 0 rfl rfl 6 (by decide) (hts (.fieldLink RX0 29 "TideDepths" "ways" "[J") (by decide +kernel)) (fun _ h9 => h9) rfl hinit rfl (by decide +kernel) rfl rfl (Nat.le_of_ble_eq_true rfl) dX0_init_51 (fun H locs hP hD hS => ?_)
  have hP : va_P D cls2 [(h0, .inr (0, [.ref q1, .ref q2, .int 0, .ref q3, .ref q4, .int 0, .ref q5, .null, .int 0])), (q1, .inl (cJ, 40, .inr (.inl (fun _ => 0)))), (q2, .inl (cJ, 40, .inr (.inl (fun _ => 0)))), (q3, .inl (cJ, 16, .inr (.inl (fun _ => 0)))), (q4, .inl (cJ, 16, .inr (.inl (fun _ => 0)))), (q5, .inl (cJ, 12, .inr (.inl (fun _ => 0))))] H := hP
  have hD : va_D A [(h0, .inr (0, [.ref q1, .ref q2, .int 0, .ref q3, .ref q4, .int 0, .ref q5, .null, .int 0])), (q1, .inl (cJ, 40, .inr (.inl (fun _ => 0)))), (q2, .inl (cJ, 40, .inr (.inl (fun _ => 0)))), (q3, .inl (cJ, 16, .inr (.inl (fun _ => 0)))), (q4, .inl (cJ, 16, .inr (.inl (fun _ => 0)))), (q5, .inl (cJ, 12, .inr (.inl (fun _ => 0))))] := hD
  refine lv_aload_n hx hb dX0_init_54 rfl (lv_at hl 0 rfl) ?_
  refine lv_bipush (v := 12) hx hb dX0_init_55 (by decide) ?_
  refine va_newa (atype := .long) (ty := .long) (a0 := (12, .inr (.inl (fun _ => 0)))) (N' := 12) hx hb (hts (.arrayClass .long) (by decide +kernel)) rfl hK hP hD hS hA (fun _ => rfl) (by decide) (by decide) (Nat.le_of_ble_eq_true rfl) (Nat.le_of_ble_eq_true rfl) (Nat.le_of_ble_eq_true rfl) dX0_init_57 (fun q6 cA H hK5 hP hD hS => ?_)
  have eA : cA = cJ := vk_eqL hK5 (i := 1) (j := 0) rfl rfl
  subst cA
  clear hK5
  have hP : va_P D cls2 [(h0, .inr (0, [.ref q1, .ref q2, .int 0, .ref q3, .ref q4, .int 0, .ref q5, .null, .int 0])), (q1, .inl (cJ, 40, .inr (.inl (fun _ => 0)))), (q2, .inl (cJ, 40, .inr (.inl (fun _ => 0)))), (q3, .inl (cJ, 16, .inr (.inl (fun _ => 0)))), (q4, .inl (cJ, 16, .inr (.inl (fun _ => 0)))), (q5, .inl (cJ, 12, .inr (.inl (fun _ => 0)))), (q6, .inl (cJ, 12, .inr (.inl (fun _ => 0))))] H := hP
  have hD : va_D A [(h0, .inr (0, [.ref q1, .ref q2, .int 0, .ref q3, .ref q4, .int 0, .ref q5, .null, .int 0])), (q1, .inl (cJ, 40, .inr (.inl (fun _ => 0)))), (q2, .inl (cJ, 40, .inr (.inl (fun _ => 0)))), (q3, .inl (cJ, 16, .inr (.inl (fun _ => 0)))), (q4, .inl (cJ, 16, .inr (.inl (fun _ => 0)))), (q5, .inl (cJ, 12, .inr (.inl (fun _ => 0)))), (q6, .inl (cJ, 12, .inr (.inl (fun _ => 0))))] := hD
  refine va_putF (D := D) (ci := 0) (v := .ref q6) (ty := (.array .long)) (C := RX0) (T := TX0) (N := 9) hx hb hts hin tyX0 tyX0_ok nmX0 hown hK hP hD hS 0 rfl rfl 7 (by decide) (hts (.fieldLink RX0 32 "TideDepths" "bases" "[J") (by decide +kernel)) (fun _ h9 => h9) rfl hinit rfl (by decide +kernel) rfl rfl (Nat.le_of_ble_eq_true rfl) dX0_init_59 (fun H locs hP hD hS => ?_)
  have hP : va_P D cls2 [(h0, .inr (0, [.ref q1, .ref q2, .int 0, .ref q3, .ref q4, .int 0, .ref q5, .ref q6, .int 0])), (q1, .inl (cJ, 40, .inr (.inl (fun _ => 0)))), (q2, .inl (cJ, 40, .inr (.inl (fun _ => 0)))), (q3, .inl (cJ, 16, .inr (.inl (fun _ => 0)))), (q4, .inl (cJ, 16, .inr (.inl (fun _ => 0)))), (q5, .inl (cJ, 12, .inr (.inl (fun _ => 0)))), (q6, .inl (cJ, 12, .inr (.inl (fun _ => 0))))] H := hP
  have hD : va_D A [(h0, .inr (0, [.ref q1, .ref q2, .int 0, .ref q3, .ref q4, .int 0, .ref q5, .ref q6, .int 0])), (q1, .inl (cJ, 40, .inr (.inl (fun _ => 0)))), (q2, .inl (cJ, 40, .inr (.inl (fun _ => 0)))), (q3, .inl (cJ, 16, .inr (.inl (fun _ => 0)))), (q4, .inl (cJ, 16, .inr (.inl (fun _ => 0)))), (q5, .inl (cJ, 12, .inr (.inl (fun _ => 0)))), (q6, .inl (cJ, 12, .inr (.inl (fun _ => 0))))] := hD
  refine lv_aload_n hx hb dX0_init_62 rfl (lv_at hl 0 rfl) ?_
  refine lv_iconst (v := 0) hx hb dX0_init_63 (by decide) ?_
  refine va_put (D := D) (ci := 0) (v := .int 0) (ty := .int) (C := RX0) (T := TX0) (N := 9) hx hb hts hin tyX0 tyX0_ok nmX0 hown hK hP hD hS 0 rfl rfl 8 (by decide) (hts (.fieldLink RX0 35 "TideDepths" "places" "I") (by decide +kernel)) (fun _ h9 => h9) rfl (by decide +kernel) rfl rfl (Nat.le_of_ble_eq_true rfl) dX0_init_64 (fun H locs hP hD hS => ?_)
  have hP : va_P D cls2 [(h0, .inr (0, [.ref q1, .ref q2, .int 0, .ref q3, .ref q4, .int 0, .ref q5, .ref q6, .int 0])), (q1, .inl (cJ, 40, .inr (.inl (fun _ => 0)))), (q2, .inl (cJ, 40, .inr (.inl (fun _ => 0)))), (q3, .inl (cJ, 16, .inr (.inl (fun _ => 0)))), (q4, .inl (cJ, 16, .inr (.inl (fun _ => 0)))), (q5, .inl (cJ, 12, .inr (.inl (fun _ => 0)))), (q6, .inl (cJ, 12, .inr (.inl (fun _ => 0))))] H := hP
  have hD : va_D A [(h0, .inr (0, [.ref q1, .ref q2, .int 0, .ref q3, .ref q4, .int 0, .ref q5, .ref q6, .int 0])), (q1, .inl (cJ, 40, .inr (.inl (fun _ => 0)))), (q2, .inl (cJ, 40, .inr (.inl (fun _ => 0)))), (q3, .inl (cJ, 16, .inr (.inl (fun _ => 0)))), (q4, .inl (cJ, 16, .inr (.inl (fun _ => 0)))), (q5, .inl (cJ, 12, .inr (.inl (fun _ => 0)))), (q6, .inl (cJ, 12, .inr (.inl (fun _ => 0))))] := hD
  exact W.vret hx hb hr (fun t ht hWm => ⟨⟨(q1, q2, q3, q4, q5, q6), rfl, trivial, by rw [ht]; exact hP, va_K.moved hWm.alike hK, hD⟩, hS.F ht⟩) hS.2.2 dX0_init_67
/-- the reference as it is made -/
def yStart (y : YS) : Prop := yTH y = 0 ∧ yNT y = 0 ∧ yNO y = 0 ∧ yNP y = 0 ∧ (∀ j, j < 65 → yC y j = cosT j) ∧ ∀ j, j < 7 → yQ y j = sqT j
set_option maxHeartbeats 2000000 in
set_option maxRecDepth 100000 in
theorem mX1_init (l : Launch) (D : va_G) (cI cJ : ClassId) (k0 sz : Nat) : Met l yX1_init wsX1_init ({ frames := 1, cells := 8, slots := 208, locals := 20 } : Room) (va_Pc [.ref k0] (fun U => U.heap.size = sz ∧ va_P D cls2 [(k0, .inr (1, [.int 0, .int 0, .int 0, .int 0, .null, .null, .null, .null, .null, .null, .null, .null]))] U.heap ∧ va_K D cls2 [(cI, .int), (cJ, .long)] U ∧ va_D (fun _ => True) [(k0, .inr (1, [.int 0, .int 0, .int 0, .int 0, .null, .null, .null, .null, .null, .null, .null, .null]))])) (va_Qv (fun q : Nat × Nat × Nat × Nat × Nat × Nat × Nat × Nat × YS => yStart q.2.2.2.2.2.2.2.2) (fun q t => YT D cI cJ k0 q.1 q.2.1 q.2.2.1 q.2.2.2.1 q.2.2.2.2.1 q.2.2.2.2.2.1 q.2.2.2.2.2.2.1 q.2.2.2.2.2.2.2.1 (va_A [(k0, .inr (1, [.int 0, .int 0, .int 0, .int 0, .null, .null, .null, .null, .null, .null, .null, .null]))] sz) q.2.2.2.2.2.2.2.2 t) (va_A [(k0, .inr (1, [.int 0, .int 0, .int 0, .int 0, .null, .null, .null, .null, .null, .null, .null, .null]))] sz)) 8 208 (va_A [(k0, .inr (1, [.int 0, .int 0, .int 0, .int 0, .null, .null, .null, .null, .null, .null, .null, .null]))] sz) := by
  refine Met.ofW (cc := cX1_init) (maxL := 1) (ret := none) (by decide +kernel) rfl ?_
  intro p e s m args below meth c s₁ B hml hv
  obtain ⟨rfl, hsz, hP, hK, hD0⟩ := hv
  have hx := B.exec
  have hb := B.bytes
  have hr := B.returns
  have hts := atoms_spec (ws := wsX1_init) B.pre
  have hown : s.vm.findClass RX1 = some m.cls := findClass_of_methodNamed B.named
  have hlocks := B.notSynchronized
  have hinit : meth.name = "<init>" := (name_of_methodNamed B.named B.method).1
  have hin : ∀ w ∈ u_ws RX1 TX1 12, w ∈ wsX1_init := by decide +kernel
  subst hsz
  have hD := hD0.self (sz := s.heap.size)
  generalize hAe : va_A [(k0, .inr (1, [.int 0, .int 0, .int 0, .int 0, .null, .null, .null, .null, .null, .null, .null, .null]))] s.heap.size = A at hD ⊢
  have hA : ∀ q : Nat, s.heap.size ≤ q → A q := fun q h => by rw [← hAe]; exact Or.inr h
  have hS : va_S A s.heap s.heap [] := va_S.rf
  have hl := lv_entry ([.ref k0]) (n := 1) (Nat.le_of_ble_eq_true rfl)
  rw [lg_entry_eq]
  generalize (lg_sl ([.ref k0]) ++ List.replicate (1 - (lg_sl ([.ref k0])).length) Slot.unset).toArray = ls at hl ⊢
  have hl : lv_has ls 1 [(0, .ref k0)] := hl
  refine lv_aload_n hx hb dX1_init_0 rfl (lv_at hl 0 rfl) ?_
  refine W.objInit hx hb hown (hts (.methodLink RX1 1 objectInit) (by decide +kernel)) (hts (.instanceMethod objectInit) (by decide +kernel)) (hts (.code objectInit ⟨#[0xb1]⟩ 1 none) (by decide +kernel)) rfl (by rw [hml]; exact hl.1) rfl dX1_init_1 (Nat.le_of_ble_eq_true rfl) (Nat.le_of_ble_eq_true rfl) ?_
  refine W.eq (g2 := F0 m 4 ls []) rfl ?_
  refine lv_aload_n hx hb dX1_init_4 rfl (lv_at hl 0 rfl) ?_
  refine lv_bipush (v := 40) hx hb dX1_init_5 (by decide) ?_
  refine va_newa (atype := .int) (ty := .int) (a0 := (40, .inl (fun _ => 0))) (N' := 40) hx hb (hts (.arrayClass .int) (by decide +kernel)) rfl hK hP hD hS hA (fun _ => rfl) (by decide) (by decide) (Nat.le_of_ble_eq_true rfl) (Nat.le_of_ble_eq_true rfl) (Nat.le_of_ble_eq_true rfl) dX1_init_7 (fun q1 cA H hK5 hP hD hS => ?_)
  have eA : cA = cI := vk_eqI hK5 (i := 2) (j := 0) rfl rfl
  subst cA
  clear hK5
  have hP : va_P D cls2 [(k0, .inr (1, [.int 0, .int 0, .int 0, .int 0, .null, .null, .null, .null, .null, .null, .null, .null])), (q1, .inl (cI, 40, .inl (fun _ => 0)))] H := hP
  have hD : va_D A [(k0, .inr (1, [.int 0, .int 0, .int 0, .int 0, .null, .null, .null, .null, .null, .null, .null, .null])), (q1, .inl (cI, 40, .inl (fun _ => 0)))] := hD
  refine va_putF (D := D) (ci := 1) (v := .ref q1) (ty := (.array .int)) (C := RX1) (T := TX1) (N := 12) hx hb hts hin tyX1 tyX1_ok nmX1 hown hK hP hD hS 0 rfl rfl 4 (by decide) (hts (.fieldLink RX1 7 "TideDepthsModel" "turnTime" "[I") (by decide +kernel)) (fun _ h9 => h9) rfl hinit rfl (by decide +kernel) rfl rfl (Nat.le_of_ble_eq_true rfl) dX1_init_9 (fun H locs hP hD hS => ?_)
  have hP : va_P D cls2 [(k0, .inr (1, [.int 0, .int 0, .int 0, .int 0, .ref q1, .null, .null, .null, .null, .null, .null, .null])), (q1, .inl (cI, 40, .inl (fun _ => 0)))] H := hP
  have hD : va_D A [(k0, .inr (1, [.int 0, .int 0, .int 0, .int 0, .ref q1, .null, .null, .null, .null, .null, .null, .null])), (q1, .inl (cI, 40, .inl (fun _ => 0)))] := hD
  refine lv_aload_n hx hb dX1_init_12 rfl (lv_at hl 0 rfl) ?_
  refine lv_bipush (v := 40) hx hb dX1_init_13 (by decide) ?_
  refine va_newa (atype := .int) (ty := .int) (a0 := (40, .inl (fun _ => 0))) (N' := 40) hx hb (hts (.arrayClass .int) (by decide +kernel)) rfl hK hP hD hS hA (fun _ => rfl) (by decide) (by decide) (Nat.le_of_ble_eq_true rfl) (Nat.le_of_ble_eq_true rfl) (Nat.le_of_ble_eq_true rfl) dX1_init_15 (fun q2 cA H hK5 hP hD hS => ?_)
  have eA : cA = cI := vk_eqI hK5 (i := 2) (j := 0) rfl rfl
  subst cA
  clear hK5
  have hP : va_P D cls2 [(k0, .inr (1, [.int 0, .int 0, .int 0, .int 0, .ref q1, .null, .null, .null, .null, .null, .null, .null])), (q1, .inl (cI, 40, .inl (fun _ => 0))), (q2, .inl (cI, 40, .inl (fun _ => 0)))] H := hP
  have hD : va_D A [(k0, .inr (1, [.int 0, .int 0, .int 0, .int 0, .ref q1, .null, .null, .null, .null, .null, .null, .null])), (q1, .inl (cI, 40, .inl (fun _ => 0))), (q2, .inl (cI, 40, .inl (fun _ => 0)))] := hD
  refine va_putF (D := D) (ci := 1) (v := .ref q2) (ty := (.array .int)) (C := RX1) (T := TX1) (N := 12) hx hb hts hin tyX1 tyX1_ok nmX1 hown hK hP hD hS 0 rfl rfl 5 (by decide) (hts (.fieldLink RX1 13 "TideDepthsModel" "turnHeight" "[I") (by decide +kernel)) (fun _ h9 => h9) rfl hinit rfl (by decide +kernel) rfl rfl (Nat.le_of_ble_eq_true rfl) dX1_init_17 (fun H locs hP hD hS => ?_)
  have hP : va_P D cls2 [(k0, .inr (1, [.int 0, .int 0, .int 0, .int 0, .ref q1, .ref q2, .null, .null, .null, .null, .null, .null])), (q1, .inl (cI, 40, .inl (fun _ => 0))), (q2, .inl (cI, 40, .inl (fun _ => 0)))] H := hP
  have hD : va_D A [(k0, .inr (1, [.int 0, .int 0, .int 0, .int 0, .ref q1, .ref q2, .null, .null, .null, .null, .null, .null])), (q1, .inl (cI, 40, .inl (fun _ => 0))), (q2, .inl (cI, 40, .inl (fun _ => 0)))] := hD
  refine lv_aload_n hx hb dX1_init_20 rfl (lv_at hl 0 rfl) ?_
  refine lv_bipush (v := 16) hx hb dX1_init_21 (by decide) ?_
  refine va_newa (atype := .int) (ty := .int) (a0 := (16, .inl (fun _ => 0))) (N' := 16) hx hb (hts (.arrayClass .int) (by decide +kernel)) rfl hK hP hD hS hA (fun _ => rfl) (by decide) (by decide) (Nat.le_of_ble_eq_true rfl) (Nat.le_of_ble_eq_true rfl) (Nat.le_of_ble_eq_true rfl) dX1_init_23 (fun q3 cA H hK5 hP hD hS => ?_)
  have eA : cA = cI := vk_eqI hK5 (i := 2) (j := 0) rfl rfl
  subst cA
  clear hK5
  have hP : va_P D cls2 [(k0, .inr (1, [.int 0, .int 0, .int 0, .int 0, .ref q1, .ref q2, .null, .null, .null, .null, .null, .null])), (q1, .inl (cI, 40, .inl (fun _ => 0))), (q2, .inl (cI, 40, .inl (fun _ => 0))), (q3, .inl (cI, 16, .inl (fun _ => 0)))] H := hP
  have hD : va_D A [(k0, .inr (1, [.int 0, .int 0, .int 0, .int 0, .ref q1, .ref q2, .null, .null, .null, .null, .null, .null])), (q1, .inl (cI, 40, .inl (fun _ => 0))), (q2, .inl (cI, 40, .inl (fun _ => 0))), (q3, .inl (cI, 16, .inl (fun _ => 0)))] := hD
  refine va_putF (D := D) (ci := 1) (v := .ref q3) (ty := (.array .int)) (C := RX1) (T := TX1) (N := 12) hx hb hts hin tyX1 tyX1_ok nmX1 hown hK hP hD hS 0 rfl rfl 6 (by decide) (hts (.fieldLink RX1 16 "TideDepthsModel" "seenTime" "[I") (by decide +kernel)) (fun _ h9 => h9) rfl hinit rfl (by decide +kernel) rfl rfl (Nat.le_of_ble_eq_true rfl) dX1_init_25 (fun H locs hP hD hS => ?_)
  have hP : va_P D cls2 [(k0, .inr (1, [.int 0, .int 0, .int 0, .int 0, .ref q1, .ref q2, .ref q3, .null, .null, .null, .null, .null])), (q1, .inl (cI, 40, .inl (fun _ => 0))), (q2, .inl (cI, 40, .inl (fun _ => 0))), (q3, .inl (cI, 16, .inl (fun _ => 0)))] H := hP
  have hD : va_D A [(k0, .inr (1, [.int 0, .int 0, .int 0, .int 0, .ref q1, .ref q2, .ref q3, .null, .null, .null, .null, .null])), (q1, .inl (cI, 40, .inl (fun _ => 0))), (q2, .inl (cI, 40, .inl (fun _ => 0))), (q3, .inl (cI, 16, .inl (fun _ => 0)))] := hD
  refine lv_aload_n hx hb dX1_init_28 rfl (lv_at hl 0 rfl) ?_
  refine lv_bipush (v := 16) hx hb dX1_init_29 (by decide) ?_
  refine va_newa (atype := .long) (ty := .long) (a0 := (16, .inr (.inl (fun _ => 0)))) (N' := 16) hx hb (hts (.arrayClass .long) (by decide +kernel)) rfl hK hP hD hS hA (fun _ => rfl) (by decide) (by decide) (Nat.le_of_ble_eq_true rfl) (Nat.le_of_ble_eq_true rfl) (Nat.le_of_ble_eq_true rfl) dX1_init_31 (fun q4 cA H hK5 hP hD hS => ?_)
  have eA : cA = cJ := vk_eqL hK5 (i := 2) (j := 1) rfl rfl
  subst cA
  clear hK5
  have hP : va_P D cls2 [(k0, .inr (1, [.int 0, .int 0, .int 0, .int 0, .ref q1, .ref q2, .ref q3, .null, .null, .null, .null, .null])), (q1, .inl (cI, 40, .inl (fun _ => 0))), (q2, .inl (cI, 40, .inl (fun _ => 0))), (q3, .inl (cI, 16, .inl (fun _ => 0))), (q4, .inl (cJ, 16, .inr (.inl (fun _ => 0))))] H := hP
  have hD : va_D A [(k0, .inr (1, [.int 0, .int 0, .int 0, .int 0, .ref q1, .ref q2, .ref q3, .null, .null, .null, .null, .null])), (q1, .inl (cI, 40, .inl (fun _ => 0))), (q2, .inl (cI, 40, .inl (fun _ => 0))), (q3, .inl (cI, 16, .inl (fun _ => 0))), (q4, .inl (cJ, 16, .inr (.inl (fun _ => 0))))] := hD
  refine va_putF (D := D) (ci := 1) (v := .ref q4) (ty := (.array .long)) (C := RX1) (T := TX1) (N := 12) hx hb hts hin tyX1 tyX1_ok nmX1 hown hK hP hD hS 0 rfl rfl 7 (by decide) (hts (.fieldLink RX1 19 "TideDepthsModel" "difference" "[J") (by decide +kernel)) (fun _ h9 => h9) rfl hinit rfl (by decide +kernel) rfl rfl (Nat.le_of_ble_eq_true rfl) dX1_init_33 (fun H locs hP hD hS => ?_)
  have hP : va_P D cls2 [(k0, .inr (1, [.int 0, .int 0, .int 0, .int 0, .ref q1, .ref q2, .ref q3, .ref q4, .null, .null, .null, .null])), (q1, .inl (cI, 40, .inl (fun _ => 0))), (q2, .inl (cI, 40, .inl (fun _ => 0))), (q3, .inl (cI, 16, .inl (fun _ => 0))), (q4, .inl (cJ, 16, .inr (.inl (fun _ => 0))))] H := hP
  have hD : va_D A [(k0, .inr (1, [.int 0, .int 0, .int 0, .int 0, .ref q1, .ref q2, .ref q3, .ref q4, .null, .null, .null, .null])), (q1, .inl (cI, 40, .inl (fun _ => 0))), (q2, .inl (cI, 40, .inl (fun _ => 0))), (q3, .inl (cI, 16, .inl (fun _ => 0))), (q4, .inl (cJ, 16, .inr (.inl (fun _ => 0))))] := hD
  refine lv_aload_n hx hb dX1_init_36 rfl (lv_at hl 0 rfl) ?_
  refine lv_bipush (v := 12) hx hb dX1_init_37 (by decide) ?_
  refine va_newa (atype := .long) (ty := .long) (a0 := (12, .inr (.inl (fun _ => 0)))) (N' := 12) hx hb (hts (.arrayClass .long) (by decide +kernel)) rfl hK hP hD hS hA (fun _ => rfl) (by decide) (by decide) (Nat.le_of_ble_eq_true rfl) (Nat.le_of_ble_eq_true rfl) (Nat.le_of_ble_eq_true rfl) dX1_init_39 (fun q5 cA H hK5 hP hD hS => ?_)
  have eA : cA = cJ := vk_eqL hK5 (i := 2) (j := 1) rfl rfl
  subst cA
  clear hK5
  have hP : va_P D cls2 [(k0, .inr (1, [.int 0, .int 0, .int 0, .int 0, .ref q1, .ref q2, .ref q3, .ref q4, .null, .null, .null, .null])), (q1, .inl (cI, 40, .inl (fun _ => 0))), (q2, .inl (cI, 40, .inl (fun _ => 0))), (q3, .inl (cI, 16, .inl (fun _ => 0))), (q4, .inl (cJ, 16, .inr (.inl (fun _ => 0)))), (q5, .inl (cJ, 12, .inr (.inl (fun _ => 0))))] H := hP
  have hD : va_D A [(k0, .inr (1, [.int 0, .int 0, .int 0, .int 0, .ref q1, .ref q2, .ref q3, .ref q4, .null, .null, .null, .null])), (q1, .inl (cI, 40, .inl (fun _ => 0))), (q2, .inl (cI, 40, .inl (fun _ => 0))), (q3, .inl (cI, 16, .inl (fun _ => 0))), (q4, .inl (cJ, 16, .inr (.inl (fun _ => 0)))), (q5, .inl (cJ, 12, .inr (.inl (fun _ => 0))))] := hD
  refine va_putF (D := D) (ci := 1) (v := .ref q5) (ty := (.array .long)) (C := RX1) (T := TX1) (N := 12) hx hb hts hin tyX1 tyX1_ok nmX1 hown hK hP hD hS 0 rfl rfl 8 (by decide) (hts (.fieldLink RX1 23 "TideDepthsModel" "wayTo" "[J") (by decide +kernel)) (fun _ h9 => h9) rfl hinit rfl (by decide +kernel) rfl rfl (Nat.le_of_ble_eq_true rfl) dX1_init_41 (fun H locs hP hD hS => ?_)
  have hP : va_P D cls2 [(k0, .inr (1, [.int 0, .int 0, .int 0, .int 0, .ref q1, .ref q2, .ref q3, .ref q4, .ref q5, .null, .null, .null])), (q1, .inl (cI, 40, .inl (fun _ => 0))), (q2, .inl (cI, 40, .inl (fun _ => 0))), (q3, .inl (cI, 16, .inl (fun _ => 0))), (q4, .inl (cJ, 16, .inr (.inl (fun _ => 0)))), (q5, .inl (cJ, 12, .inr (.inl (fun _ => 0))))] H := hP
  have hD : va_D A [(k0, .inr (1, [.int 0, .int 0, .int 0, .int 0, .ref q1, .ref q2, .ref q3, .ref q4, .ref q5, .null, .null, .null])), (q1, .inl (cI, 40, .inl (fun _ => 0))), (q2, .inl (cI, 40, .inl (fun _ => 0))), (q3, .inl (cI, 16, .inl (fun _ => 0))), (q4, .inl (cJ, 16, .inr (.inl (fun _ => 0)))), (q5, .inl (cJ, 12, .inr (.inl (fun _ => 0))))] := hD
  refine lv_aload_n hx hb dX1_init_44 rfl (lv_at hl 0 rfl) ?_
  refine lv_bipush (v := 12) hx hb dX1_init_45 (by decide) ?_
  refine va_newa (atype := .long) (ty := .long) (a0 := (12, .inr (.inl (fun _ => 0)))) (N' := 12) hx hb (hts (.arrayClass .long) (by decide +kernel)) rfl hK hP hD hS hA (fun _ => rfl) (by decide) (by decide) (Nat.le_of_ble_eq_true rfl) (Nat.le_of_ble_eq_true rfl) (Nat.le_of_ble_eq_true rfl) dX1_init_47 (fun q6 cA H hK5 hP hD hS => ?_)
  have eA : cA = cJ := vk_eqL hK5 (i := 2) (j := 1) rfl rfl
  subst cA
  clear hK5
  have hP : va_P D cls2 [(k0, .inr (1, [.int 0, .int 0, .int 0, .int 0, .ref q1, .ref q2, .ref q3, .ref q4, .ref q5, .null, .null, .null])), (q1, .inl (cI, 40, .inl (fun _ => 0))), (q2, .inl (cI, 40, .inl (fun _ => 0))), (q3, .inl (cI, 16, .inl (fun _ => 0))), (q4, .inl (cJ, 16, .inr (.inl (fun _ => 0)))), (q5, .inl (cJ, 12, .inr (.inl (fun _ => 0)))), (q6, .inl (cJ, 12, .inr (.inl (fun _ => 0))))] H := hP
  have hD : va_D A [(k0, .inr (1, [.int 0, .int 0, .int 0, .int 0, .ref q1, .ref q2, .ref q3, .ref q4, .ref q5, .null, .null, .null])), (q1, .inl (cI, 40, .inl (fun _ => 0))), (q2, .inl (cI, 40, .inl (fun _ => 0))), (q3, .inl (cI, 16, .inl (fun _ => 0))), (q4, .inl (cJ, 16, .inr (.inl (fun _ => 0)))), (q5, .inl (cJ, 12, .inr (.inl (fun _ => 0)))), (q6, .inl (cJ, 12, .inr (.inl (fun _ => 0))))] := hD
  refine va_putF (D := D) (ci := 1) (v := .ref q6) (ty := (.array .long)) (C := RX1) (T := TX1) (N := 12) hx hb hts hin tyX1 tyX1_ok nmX1 hown hK hP hD hS 0 rfl rfl 9 (by decide) (hts (.fieldLink RX1 26 "TideDepthsModel" "baseOf" "[J") (by decide +kernel)) (fun _ h9 => h9) rfl hinit rfl (by decide +kernel) rfl rfl (Nat.le_of_ble_eq_true rfl) dX1_init_49 (fun H locs hP hD hS => ?_)
  have hP : va_P D cls2 [(k0, .inr (1, [.int 0, .int 0, .int 0, .int 0, .ref q1, .ref q2, .ref q3, .ref q4, .ref q5, .ref q6, .null, .null])), (q1, .inl (cI, 40, .inl (fun _ => 0))), (q2, .inl (cI, 40, .inl (fun _ => 0))), (q3, .inl (cI, 16, .inl (fun _ => 0))), (q4, .inl (cJ, 16, .inr (.inl (fun _ => 0)))), (q5, .inl (cJ, 12, .inr (.inl (fun _ => 0)))), (q6, .inl (cJ, 12, .inr (.inl (fun _ => 0))))] H := hP
  have hD : va_D A [(k0, .inr (1, [.int 0, .int 0, .int 0, .int 0, .ref q1, .ref q2, .ref q3, .ref q4, .ref q5, .ref q6, .null, .null])), (q1, .inl (cI, 40, .inl (fun _ => 0))), (q2, .inl (cI, 40, .inl (fun _ => 0))), (q3, .inl (cI, 16, .inl (fun _ => 0))), (q4, .inl (cJ, 16, .inr (.inl (fun _ => 0)))), (q5, .inl (cJ, 12, .inr (.inl (fun _ => 0)))), (q6, .inl (cJ, 12, .inr (.inl (fun _ => 0))))] := hD
  refine lv_aload_n hx hb dX1_init_52 rfl (lv_at hl 0 rfl) ?_
  refine lv_bipush (v := 65) hx hb dX1_init_53 (by decide) ?_
  refine va_newa (atype := .int) (ty := .int) (a0 := (65, .inl (fun _ => 0))) (N' := 65) hx hb (hts (.arrayClass .int) (by decide +kernel)) rfl hK hP hD hS hA (fun _ => rfl) (by decide) (by decide) (Nat.le_of_ble_eq_true rfl) (Nat.le_of_ble_eq_true rfl) (Nat.le_of_ble_eq_true rfl) dX1_init_55 (fun q7 cA H hK5 hP hD hS => ?_)
  have eA : cA = cI := vk_eqI hK5 (i := 2) (j := 0) rfl rfl
  subst cA
  clear hK5
  have hP : va_P D cls2 [(k0, .inr (1, [.int 0, .int 0, .int 0, .int 0, .ref q1, .ref q2, .ref q3, .ref q4, .ref q5, .ref q6, .null, .null])), (q1, .inl (cI, 40, .inl (fun _ => 0))), (q2, .inl (cI, 40, .inl (fun _ => 0))), (q3, .inl (cI, 16, .inl (fun _ => 0))), (q4, .inl (cJ, 16, .inr (.inl (fun _ => 0)))), (q5, .inl (cJ, 12, .inr (.inl (fun _ => 0)))), (q6, .inl (cJ, 12, .inr (.inl (fun _ => 0)))), (q7, .inl (cI, 65, .inl (fun _ => 0)))] H := hP
  have hD : va_D A [(k0, .inr (1, [.int 0, .int 0, .int 0, .int 0, .ref q1, .ref q2, .ref q3, .ref q4, .ref q5, .ref q6, .null, .null])), (q1, .inl (cI, 40, .inl (fun _ => 0))), (q2, .inl (cI, 40, .inl (fun _ => 0))), (q3, .inl (cI, 16, .inl (fun _ => 0))), (q4, .inl (cJ, 16, .inr (.inl (fun _ => 0)))), (q5, .inl (cJ, 12, .inr (.inl (fun _ => 0)))), (q6, .inl (cJ, 12, .inr (.inl (fun _ => 0)))), (q7, .inl (cI, 65, .inl (fun _ => 0)))] := hD
  refine lv_dup hx hb dX1_init_57 rfl ?_
  refine lv_iconst (v := 0) hx hb dX1_init_58 (by decide) ?_
  refine lv_iconst (v := 0) hx hb dX1_init_59 (by decide) ?_
  refine va_iast hx hb hK hP hD hS 7 0 rfl rfl (by unfold vp_in; decide) dX1_init_60 (fun H locs hP hD hS => ?_)
  have hP : va_P D cls2 [(k0, .inr (1, [.int 0, .int 0, .int 0, .int 0, .ref q1, .ref q2, .ref q3, .ref q4, .ref q5, .ref q6, .null, .null])), (q1, .inl (cI, 40, .inl (fun _ => 0))), (q2, .inl (cI, 40, .inl (fun _ => 0))), (q3, .inl (cI, 16, .inl (fun _ => 0))), (q4, .inl (cJ, 16, .inr (.inl (fun _ => 0)))), (q5, .inl (cJ, 12, .inr (.inl (fun _ => 0)))), (q6, .inl (cJ, 12, .inr (.inl (fun _ => 0)))), (q7, .inl (cI, 65, .inl (upd (fun _ => 0) 0 0)))] H := hP
  have hD : va_D A [(k0, .inr (1, [.int 0, .int 0, .int 0, .int 0, .ref q1, .ref q2, .ref q3, .ref q4, .ref q5, .ref q6, .null, .null])), (q1, .inl (cI, 40, .inl (fun _ => 0))), (q2, .inl (cI, 40, .inl (fun _ => 0))), (q3, .inl (cI, 16, .inl (fun _ => 0))), (q4, .inl (cJ, 16, .inr (.inl (fun _ => 0)))), (q5, .inl (cJ, 12, .inr (.inl (fun _ => 0)))), (q6, .inl (cJ, 12, .inr (.inl (fun _ => 0)))), (q7, .inl (cI, 65, .inl (upd (fun _ => 0) 0 0)))] := hD
  have ef6_0 : ∀ j, j < 1 → (upd (fun _ => 0) 0 0) j = cosT j := upd_tab (fun j h => absurd h (Nat.not_lt_zero j)) (by decide)
  generalize (upd (fun _ => 0) 0 0) = f6_0 at hP hD ef6_0
  refine lv_dup hx hb dX1_init_61 rfl ?_
  refine lv_iconst (v := 1) hx hb dX1_init_62 (by decide) ?_
  refine lv_bipush (v := 20) hx hb dX1_init_63 (by decide) ?_
  refine va_iast hx hb hK hP hD hS 7 0 rfl rfl (by unfold vp_in; decide) dX1_init_65 (fun H locs hP hD hS => ?_)
  have hP : va_P D cls2 [(k0, .inr (1, [.int 0, .int 0, .int 0, .int 0, .ref q1, .ref q2, .ref q3, .ref q4, .ref q5, .ref q6, .null, .null])), (q1, .inl (cI, 40, .inl (fun _ => 0))), (q2, .inl (cI, 40, .inl (fun _ => 0))), (q3, .inl (cI, 16, .inl (fun _ => 0))), (q4, .inl (cJ, 16, .inr (.inl (fun _ => 0)))), (q5, .inl (cJ, 12, .inr (.inl (fun _ => 0)))), (q6, .inl (cJ, 12, .inr (.inl (fun _ => 0)))), (q7, .inl (cI, 65, .inl (upd f6_0 1 20)))] H := hP
  have hD : va_D A [(k0, .inr (1, [.int 0, .int 0, .int 0, .int 0, .ref q1, .ref q2, .ref q3, .ref q4, .ref q5, .ref q6, .null, .null])), (q1, .inl (cI, 40, .inl (fun _ => 0))), (q2, .inl (cI, 40, .inl (fun _ => 0))), (q3, .inl (cI, 16, .inl (fun _ => 0))), (q4, .inl (cJ, 16, .inr (.inl (fun _ => 0)))), (q5, .inl (cJ, 12, .inr (.inl (fun _ => 0)))), (q6, .inl (cJ, 12, .inr (.inl (fun _ => 0)))), (q7, .inl (cI, 65, .inl (upd f6_0 1 20)))] := hD
  have ef6_1 : ∀ j, j < 2 → (upd f6_0 1 20) j = cosT j := upd_tab (ef6_0) (by decide)
  generalize (upd f6_0 1 20) = f6_1 at hP hD ef6_1
  refine lv_dup hx hb dX1_init_66 rfl ?_
  refine lv_iconst (v := 2) hx hb dX1_init_67 (by decide) ?_
  refine lv_bipush (v := 79) hx hb dX1_init_68 (by decide) ?_
  refine va_iast hx hb hK hP hD hS 7 0 rfl rfl (by unfold vp_in; decide) dX1_init_70 (fun H locs hP hD hS => ?_)
  have hP : va_P D cls2 [(k0, .inr (1, [.int 0, .int 0, .int 0, .int 0, .ref q1, .ref q2, .ref q3, .ref q4, .ref q5, .ref q6, .null, .null])), (q1, .inl (cI, 40, .inl (fun _ => 0))), (q2, .inl (cI, 40, .inl (fun _ => 0))), (q3, .inl (cI, 16, .inl (fun _ => 0))), (q4, .inl (cJ, 16, .inr (.inl (fun _ => 0)))), (q5, .inl (cJ, 12, .inr (.inl (fun _ => 0)))), (q6, .inl (cJ, 12, .inr (.inl (fun _ => 0)))), (q7, .inl (cI, 65, .inl (upd f6_1 2 79)))] H := hP
  have hD : va_D A [(k0, .inr (1, [.int 0, .int 0, .int 0, .int 0, .ref q1, .ref q2, .ref q3, .ref q4, .ref q5, .ref q6, .null, .null])), (q1, .inl (cI, 40, .inl (fun _ => 0))), (q2, .inl (cI, 40, .inl (fun _ => 0))), (q3, .inl (cI, 16, .inl (fun _ => 0))), (q4, .inl (cJ, 16, .inr (.inl (fun _ => 0)))), (q5, .inl (cJ, 12, .inr (.inl (fun _ => 0)))), (q6, .inl (cJ, 12, .inr (.inl (fun _ => 0)))), (q7, .inl (cI, 65, .inl (upd f6_1 2 79)))] := hD
  have ef6_2 : ∀ j, j < 3 → (upd f6_1 2 79) j = cosT j := upd_tab (ef6_1) (by decide)
  generalize (upd f6_1 2 79) = f6_2 at hP hD ef6_2
  refine lv_dup hx hb dX1_init_71 rfl ?_
  refine lv_iconst (v := 3) hx hb dX1_init_72 (by decide) ?_
  refine lv_sipush (v := 177) hx hb dX1_init_73 (by decide) ?_
  refine va_iast hx hb hK hP hD hS 7 0 rfl rfl (by unfold vp_in; decide) dX1_init_76 (fun H locs hP hD hS => ?_)
  have hP : va_P D cls2 [(k0, .inr (1, [.int 0, .int 0, .int 0, .int 0, .ref q1, .ref q2, .ref q3, .ref q4, .ref q5, .ref q6, .null, .null])), (q1, .inl (cI, 40, .inl (fun _ => 0))), (q2, .inl (cI, 40, .inl (fun _ => 0))), (q3, .inl (cI, 16, .inl (fun _ => 0))), (q4, .inl (cJ, 16, .inr (.inl (fun _ => 0)))), (q5, .inl (cJ, 12, .inr (.inl (fun _ => 0)))), (q6, .inl (cJ, 12, .inr (.inl (fun _ => 0)))), (q7, .inl (cI, 65, .inl (upd f6_2 3 177)))] H := hP
  have hD : va_D A [(k0, .inr (1, [.int 0, .int 0, .int 0, .int 0, .ref q1, .ref q2, .ref q3, .ref q4, .ref q5, .ref q6, .null, .null])), (q1, .inl (cI, 40, .inl (fun _ => 0))), (q2, .inl (cI, 40, .inl (fun _ => 0))), (q3, .inl (cI, 16, .inl (fun _ => 0))), (q4, .inl (cJ, 16, .inr (.inl (fun _ => 0)))), (q5, .inl (cJ, 12, .inr (.inl (fun _ => 0)))), (q6, .inl (cJ, 12, .inr (.inl (fun _ => 0)))), (q7, .inl (cI, 65, .inl (upd f6_2 3 177)))] := hD
  have ef6_3 : ∀ j, j < 4 → (upd f6_2 3 177) j = cosT j := upd_tab (ef6_2) (by decide)
  generalize (upd f6_2 3 177) = f6_3 at hP hD ef6_3
  refine lv_dup hx hb dX1_init_77 rfl ?_
  refine lv_iconst (v := 4) hx hb dX1_init_78 (by decide) ?_
  refine lv_sipush (v := 315) hx hb dX1_init_79 (by decide) ?_
  refine va_iast hx hb hK hP hD hS 7 0 rfl rfl (by unfold vp_in; decide) dX1_init_82 (fun H locs hP hD hS => ?_)
  have hP : va_P D cls2 [(k0, .inr (1, [.int 0, .int 0, .int 0, .int 0, .ref q1, .ref q2, .ref q3, .ref q4, .ref q5, .ref q6, .null, .null])), (q1, .inl (cI, 40, .inl (fun _ => 0))), (q2, .inl (cI, 40, .inl (fun _ => 0))), (q3, .inl (cI, 16, .inl (fun _ => 0))), (q4, .inl (cJ, 16, .inr (.inl (fun _ => 0)))), (q5, .inl (cJ, 12, .inr (.inl (fun _ => 0)))), (q6, .inl (cJ, 12, .inr (.inl (fun _ => 0)))), (q7, .inl (cI, 65, .inl (upd f6_3 4 315)))] H := hP
  have hD : va_D A [(k0, .inr (1, [.int 0, .int 0, .int 0, .int 0, .ref q1, .ref q2, .ref q3, .ref q4, .ref q5, .ref q6, .null, .null])), (q1, .inl (cI, 40, .inl (fun _ => 0))), (q2, .inl (cI, 40, .inl (fun _ => 0))), (q3, .inl (cI, 16, .inl (fun _ => 0))), (q4, .inl (cJ, 16, .inr (.inl (fun _ => 0)))), (q5, .inl (cJ, 12, .inr (.inl (fun _ => 0)))), (q6, .inl (cJ, 12, .inr (.inl (fun _ => 0)))), (q7, .inl (cI, 65, .inl (upd f6_3 4 315)))] := hD
  have ef6_4 : ∀ j, j < 5 → (upd f6_3 4 315) j = cosT j := upd_tab (ef6_3) (by decide)
  generalize (upd f6_3 4 315) = f6_4 at hP hD ef6_4
  refine lv_dup hx hb dX1_init_83 rfl ?_
  refine lv_iconst (v := 5) hx hb dX1_init_84 (by decide) ?_
  refine lv_sipush (v := 491) hx hb dX1_init_85 (by decide) ?_
  refine va_iast hx hb hK hP hD hS 7 0 rfl rfl (by unfold vp_in; decide) dX1_init_88 (fun H locs hP hD hS => ?_)
  have hP : va_P D cls2 [(k0, .inr (1, [.int 0, .int 0, .int 0, .int 0, .ref q1, .ref q2, .ref q3, .ref q4, .ref q5, .ref q6, .null, .null])), (q1, .inl (cI, 40, .inl (fun _ => 0))), (q2, .inl (cI, 40, .inl (fun _ => 0))), (q3, .inl (cI, 16, .inl (fun _ => 0))), (q4, .inl (cJ, 16, .inr (.inl (fun _ => 0)))), (q5, .inl (cJ, 12, .inr (.inl (fun _ => 0)))), (q6, .inl (cJ, 12, .inr (.inl (fun _ => 0)))), (q7, .inl (cI, 65, .inl (upd f6_4 5 491)))] H := hP
  have hD : va_D A [(k0, .inr (1, [.int 0, .int 0, .int 0, .int 0, .ref q1, .ref q2, .ref q3, .ref q4, .ref q5, .ref q6, .null, .null])), (q1, .inl (cI, 40, .inl (fun _ => 0))), (q2, .inl (cI, 40, .inl (fun _ => 0))), (q3, .inl (cI, 16, .inl (fun _ => 0))), (q4, .inl (cJ, 16, .inr (.inl (fun _ => 0)))), (q5, .inl (cJ, 12, .inr (.inl (fun _ => 0)))), (q6, .inl (cJ, 12, .inr (.inl (fun _ => 0)))), (q7, .inl (cI, 65, .inl (upd f6_4 5 491)))] := hD
  have ef6_5 : ∀ j, j < 6 → (upd f6_4 5 491) j = cosT j := upd_tab (ef6_4) (by decide)
  generalize (upd f6_4 5 491) = f6_5 at hP hD ef6_5
  refine lv_dup hx hb dX1_init_89 rfl ?_
  refine lv_bipush (v := 6) hx hb dX1_init_90 (by decide) ?_
  refine lv_sipush (v := 705) hx hb dX1_init_92 (by decide) ?_
  refine va_iast hx hb hK hP hD hS 7 0 rfl rfl (by unfold vp_in; decide) dX1_init_95 (fun H locs hP hD hS => ?_)
  have hP : va_P D cls2 [(k0, .inr (1, [.int 0, .int 0, .int 0, .int 0, .ref q1, .ref q2, .ref q3, .ref q4, .ref q5, .ref q6, .null, .null])), (q1, .inl (cI, 40, .inl (fun _ => 0))), (q2, .inl (cI, 40, .inl (fun _ => 0))), (q3, .inl (cI, 16, .inl (fun _ => 0))), (q4, .inl (cJ, 16, .inr (.inl (fun _ => 0)))), (q5, .inl (cJ, 12, .inr (.inl (fun _ => 0)))), (q6, .inl (cJ, 12, .inr (.inl (fun _ => 0)))), (q7, .inl (cI, 65, .inl (upd f6_5 6 705)))] H := hP
  have hD : va_D A [(k0, .inr (1, [.int 0, .int 0, .int 0, .int 0, .ref q1, .ref q2, .ref q3, .ref q4, .ref q5, .ref q6, .null, .null])), (q1, .inl (cI, 40, .inl (fun _ => 0))), (q2, .inl (cI, 40, .inl (fun _ => 0))), (q3, .inl (cI, 16, .inl (fun _ => 0))), (q4, .inl (cJ, 16, .inr (.inl (fun _ => 0)))), (q5, .inl (cJ, 12, .inr (.inl (fun _ => 0)))), (q6, .inl (cJ, 12, .inr (.inl (fun _ => 0)))), (q7, .inl (cI, 65, .inl (upd f6_5 6 705)))] := hD
  have ef6_6 : ∀ j, j < 7 → (upd f6_5 6 705) j = cosT j := upd_tab (ef6_5) (by decide)
  generalize (upd f6_5 6 705) = f6_6 at hP hD ef6_6
  refine lv_dup hx hb dX1_init_96 rfl ?_
  refine lv_bipush (v := 7) hx hb dX1_init_97 (by decide) ?_
  refine lv_sipush (v := 958) hx hb dX1_init_99 (by decide) ?_
  refine va_iast hx hb hK hP hD hS 7 0 rfl rfl (by unfold vp_in; decide) dX1_init_102 (fun H locs hP hD hS => ?_)
  have hP : va_P D cls2 [(k0, .inr (1, [.int 0, .int 0, .int 0, .int 0, .ref q1, .ref q2, .ref q3, .ref q4, .ref q5, .ref q6, .null, .null])), (q1, .inl (cI, 40, .inl (fun _ => 0))), (q2, .inl (cI, 40, .inl (fun _ => 0))), (q3, .inl (cI, 16, .inl (fun _ => 0))), (q4, .inl (cJ, 16, .inr (.inl (fun _ => 0)))), (q5, .inl (cJ, 12, .inr (.inl (fun _ => 0)))), (q6, .inl (cJ, 12, .inr (.inl (fun _ => 0)))), (q7, .inl (cI, 65, .inl (upd f6_6 7 958)))] H := hP
  have hD : va_D A [(k0, .inr (1, [.int 0, .int 0, .int 0, .int 0, .ref q1, .ref q2, .ref q3, .ref q4, .ref q5, .ref q6, .null, .null])), (q1, .inl (cI, 40, .inl (fun _ => 0))), (q2, .inl (cI, 40, .inl (fun _ => 0))), (q3, .inl (cI, 16, .inl (fun _ => 0))), (q4, .inl (cJ, 16, .inr (.inl (fun _ => 0)))), (q5, .inl (cJ, 12, .inr (.inl (fun _ => 0)))), (q6, .inl (cJ, 12, .inr (.inl (fun _ => 0)))), (q7, .inl (cI, 65, .inl (upd f6_6 7 958)))] := hD
  have ef6_7 : ∀ j, j < 8 → (upd f6_6 7 958) j = cosT j := upd_tab (ef6_6) (by decide)
  generalize (upd f6_6 7 958) = f6_7 at hP hD ef6_7
  refine lv_dup hx hb dX1_init_103 rfl ?_
  refine lv_bipush (v := 8) hx hb dX1_init_104 (by decide) ?_
  refine lv_sipush (v := 1247) hx hb dX1_init_106 (by decide) ?_
  refine va_iast hx hb hK hP hD hS 7 0 rfl rfl (by unfold vp_in; decide) dX1_init_109 (fun H locs hP hD hS => ?_)
  have hP : va_P D cls2 [(k0, .inr (1, [.int 0, .int 0, .int 0, .int 0, .ref q1, .ref q2, .ref q3, .ref q4, .ref q5, .ref q6, .null, .null])), (q1, .inl (cI, 40, .inl (fun _ => 0))), (q2, .inl (cI, 40, .inl (fun _ => 0))), (q3, .inl (cI, 16, .inl (fun _ => 0))), (q4, .inl (cJ, 16, .inr (.inl (fun _ => 0)))), (q5, .inl (cJ, 12, .inr (.inl (fun _ => 0)))), (q6, .inl (cJ, 12, .inr (.inl (fun _ => 0)))), (q7, .inl (cI, 65, .inl (upd f6_7 8 1247)))] H := hP
  have hD : va_D A [(k0, .inr (1, [.int 0, .int 0, .int 0, .int 0, .ref q1, .ref q2, .ref q3, .ref q4, .ref q5, .ref q6, .null, .null])), (q1, .inl (cI, 40, .inl (fun _ => 0))), (q2, .inl (cI, 40, .inl (fun _ => 0))), (q3, .inl (cI, 16, .inl (fun _ => 0))), (q4, .inl (cJ, 16, .inr (.inl (fun _ => 0)))), (q5, .inl (cJ, 12, .inr (.inl (fun _ => 0)))), (q6, .inl (cJ, 12, .inr (.inl (fun _ => 0)))), (q7, .inl (cI, 65, .inl (upd f6_7 8 1247)))] := hD
  have ef6_8 : ∀ j, j < 9 → (upd f6_7 8 1247) j = cosT j := upd_tab (ef6_7) (by decide)
  generalize (upd f6_7 8 1247) = f6_8 at hP hD ef6_8
  refine lv_dup hx hb dX1_init_110 rfl ?_
  refine lv_bipush (v := 9) hx hb dX1_init_111 (by decide) ?_
  refine lv_sipush (v := 1573) hx hb dX1_init_113 (by decide) ?_
  refine va_iast hx hb hK hP hD hS 7 0 rfl rfl (by unfold vp_in; decide) dX1_init_116 (fun H locs hP hD hS => ?_)
  have hP : va_P D cls2 [(k0, .inr (1, [.int 0, .int 0, .int 0, .int 0, .ref q1, .ref q2, .ref q3, .ref q4, .ref q5, .ref q6, .null, .null])), (q1, .inl (cI, 40, .inl (fun _ => 0))), (q2, .inl (cI, 40, .inl (fun _ => 0))), (q3, .inl (cI, 16, .inl (fun _ => 0))), (q4, .inl (cJ, 16, .inr (.inl (fun _ => 0)))), (q5, .inl (cJ, 12, .inr (.inl (fun _ => 0)))), (q6, .inl (cJ, 12, .inr (.inl (fun _ => 0)))), (q7, .inl (cI, 65, .inl (upd f6_8 9 1573)))] H := hP
  have hD : va_D A [(k0, .inr (1, [.int 0, .int 0, .int 0, .int 0, .ref q1, .ref q2, .ref q3, .ref q4, .ref q5, .ref q6, .null, .null])), (q1, .inl (cI, 40, .inl (fun _ => 0))), (q2, .inl (cI, 40, .inl (fun _ => 0))), (q3, .inl (cI, 16, .inl (fun _ => 0))), (q4, .inl (cJ, 16, .inr (.inl (fun _ => 0)))), (q5, .inl (cJ, 12, .inr (.inl (fun _ => 0)))), (q6, .inl (cJ, 12, .inr (.inl (fun _ => 0)))), (q7, .inl (cI, 65, .inl (upd f6_8 9 1573)))] := hD
  have ef6_9 : ∀ j, j < 10 → (upd f6_8 9 1573) j = cosT j := upd_tab (ef6_8) (by decide)
  generalize (upd f6_8 9 1573) = f6_9 at hP hD ef6_9
  refine lv_dup hx hb dX1_init_117 rfl ?_
  refine lv_bipush (v := 10) hx hb dX1_init_118 (by decide) ?_
  refine lv_sipush (v := 1935) hx hb dX1_init_120 (by decide) ?_
  refine va_iast hx hb hK hP hD hS 7 0 rfl rfl (by unfold vp_in; decide) dX1_init_123 (fun H locs hP hD hS => ?_)
  have hP : va_P D cls2 [(k0, .inr (1, [.int 0, .int 0, .int 0, .int 0, .ref q1, .ref q2, .ref q3, .ref q4, .ref q5, .ref q6, .null, .null])), (q1, .inl (cI, 40, .inl (fun _ => 0))), (q2, .inl (cI, 40, .inl (fun _ => 0))), (q3, .inl (cI, 16, .inl (fun _ => 0))), (q4, .inl (cJ, 16, .inr (.inl (fun _ => 0)))), (q5, .inl (cJ, 12, .inr (.inl (fun _ => 0)))), (q6, .inl (cJ, 12, .inr (.inl (fun _ => 0)))), (q7, .inl (cI, 65, .inl (upd f6_9 10 1935)))] H := hP
  have hD : va_D A [(k0, .inr (1, [.int 0, .int 0, .int 0, .int 0, .ref q1, .ref q2, .ref q3, .ref q4, .ref q5, .ref q6, .null, .null])), (q1, .inl (cI, 40, .inl (fun _ => 0))), (q2, .inl (cI, 40, .inl (fun _ => 0))), (q3, .inl (cI, 16, .inl (fun _ => 0))), (q4, .inl (cJ, 16, .inr (.inl (fun _ => 0)))), (q5, .inl (cJ, 12, .inr (.inl (fun _ => 0)))), (q6, .inl (cJ, 12, .inr (.inl (fun _ => 0)))), (q7, .inl (cI, 65, .inl (upd f6_9 10 1935)))] := hD
  have ef6_10 : ∀ j, j < 11 → (upd f6_9 10 1935) j = cosT j := upd_tab (ef6_9) (by decide)
  generalize (upd f6_9 10 1935) = f6_10 at hP hD ef6_10
  refine lv_dup hx hb dX1_init_124 rfl ?_
  refine lv_bipush (v := 11) hx hb dX1_init_125 (by decide) ?_
  refine lv_sipush (v := 2331) hx hb dX1_init_127 (by decide) ?_
  refine va_iast hx hb hK hP hD hS 7 0 rfl rfl (by unfold vp_in; decide) dX1_init_130 (fun H locs hP hD hS => ?_)
  have hP : va_P D cls2 [(k0, .inr (1, [.int 0, .int 0, .int 0, .int 0, .ref q1, .ref q2, .ref q3, .ref q4, .ref q5, .ref q6, .null, .null])), (q1, .inl (cI, 40, .inl (fun _ => 0))), (q2, .inl (cI, 40, .inl (fun _ => 0))), (q3, .inl (cI, 16, .inl (fun _ => 0))), (q4, .inl (cJ, 16, .inr (.inl (fun _ => 0)))), (q5, .inl (cJ, 12, .inr (.inl (fun _ => 0)))), (q6, .inl (cJ, 12, .inr (.inl (fun _ => 0)))), (q7, .inl (cI, 65, .inl (upd f6_10 11 2331)))] H := hP
  have hD : va_D A [(k0, .inr (1, [.int 0, .int 0, .int 0, .int 0, .ref q1, .ref q2, .ref q3, .ref q4, .ref q5, .ref q6, .null, .null])), (q1, .inl (cI, 40, .inl (fun _ => 0))), (q2, .inl (cI, 40, .inl (fun _ => 0))), (q3, .inl (cI, 16, .inl (fun _ => 0))), (q4, .inl (cJ, 16, .inr (.inl (fun _ => 0)))), (q5, .inl (cJ, 12, .inr (.inl (fun _ => 0)))), (q6, .inl (cJ, 12, .inr (.inl (fun _ => 0)))), (q7, .inl (cI, 65, .inl (upd f6_10 11 2331)))] := hD
  have ef6_11 : ∀ j, j < 12 → (upd f6_10 11 2331) j = cosT j := upd_tab (ef6_10) (by decide)
  generalize (upd f6_10 11 2331) = f6_11 at hP hD ef6_11
  refine lv_dup hx hb dX1_init_131 rfl ?_
  refine lv_bipush (v := 12) hx hb dX1_init_132 (by decide) ?_
  refine lv_sipush (v := 2761) hx hb dX1_init_134 (by decide) ?_
  refine va_iast hx hb hK hP hD hS 7 0 rfl rfl (by unfold vp_in; decide) dX1_init_137 (fun H locs hP hD hS => ?_)
  have hP : va_P D cls2 [(k0, .inr (1, [.int 0, .int 0, .int 0, .int 0, .ref q1, .ref q2, .ref q3, .ref q4, .ref q5, .ref q6, .null, .null])), (q1, .inl (cI, 40, .inl (fun _ => 0))), (q2, .inl (cI, 40, .inl (fun _ => 0))), (q3, .inl (cI, 16, .inl (fun _ => 0))), (q4, .inl (cJ, 16, .inr (.inl (fun _ => 0)))), (q5, .inl (cJ, 12, .inr (.inl (fun _ => 0)))), (q6, .inl (cJ, 12, .inr (.inl (fun _ => 0)))), (q7, .inl (cI, 65, .inl (upd f6_11 12 2761)))] H := hP
  have hD : va_D A [(k0, .inr (1, [.int 0, .int 0, .int 0, .int 0, .ref q1, .ref q2, .ref q3, .ref q4, .ref q5, .ref q6, .null, .null])), (q1, .inl (cI, 40, .inl (fun _ => 0))), (q2, .inl (cI, 40, .inl (fun _ => 0))), (q3, .inl (cI, 16, .inl (fun _ => 0))), (q4, .inl (cJ, 16, .inr (.inl (fun _ => 0)))), (q5, .inl (cJ, 12, .inr (.inl (fun _ => 0)))), (q6, .inl (cJ, 12, .inr (.inl (fun _ => 0)))), (q7, .inl (cI, 65, .inl (upd f6_11 12 2761)))] := hD
  have ef6_12 : ∀ j, j < 13 → (upd f6_11 12 2761) j = cosT j := upd_tab (ef6_11) (by decide)
  generalize (upd f6_11 12 2761) = f6_12 at hP hD ef6_12
  refine lv_dup hx hb dX1_init_138 rfl ?_
  refine lv_bipush (v := 13) hx hb dX1_init_139 (by decide) ?_
  refine lv_sipush (v := 3224) hx hb dX1_init_141 (by decide) ?_
  refine va_iast hx hb hK hP hD hS 7 0 rfl rfl (by unfold vp_in; decide) dX1_init_144 (fun H locs hP hD hS => ?_)
  have hP : va_P D cls2 [(k0, .inr (1, [.int 0, .int 0, .int 0, .int 0, .ref q1, .ref q2, .ref q3, .ref q4, .ref q5, .ref q6, .null, .null])), (q1, .inl (cI, 40, .inl (fun _ => 0))), (q2, .inl (cI, 40, .inl (fun _ => 0))), (q3, .inl (cI, 16, .inl (fun _ => 0))), (q4, .inl (cJ, 16, .inr (.inl (fun _ => 0)))), (q5, .inl (cJ, 12, .inr (.inl (fun _ => 0)))), (q6, .inl (cJ, 12, .inr (.inl (fun _ => 0)))), (q7, .inl (cI, 65, .inl (upd f6_12 13 3224)))] H := hP
  have hD : va_D A [(k0, .inr (1, [.int 0, .int 0, .int 0, .int 0, .ref q1, .ref q2, .ref q3, .ref q4, .ref q5, .ref q6, .null, .null])), (q1, .inl (cI, 40, .inl (fun _ => 0))), (q2, .inl (cI, 40, .inl (fun _ => 0))), (q3, .inl (cI, 16, .inl (fun _ => 0))), (q4, .inl (cJ, 16, .inr (.inl (fun _ => 0)))), (q5, .inl (cJ, 12, .inr (.inl (fun _ => 0)))), (q6, .inl (cJ, 12, .inr (.inl (fun _ => 0)))), (q7, .inl (cI, 65, .inl (upd f6_12 13 3224)))] := hD
  have ef6_13 : ∀ j, j < 14 → (upd f6_12 13 3224) j = cosT j := upd_tab (ef6_12) (by decide)
  generalize (upd f6_12 13 3224) = f6_13 at hP hD ef6_13
  refine lv_dup hx hb dX1_init_145 rfl ?_
  refine lv_bipush (v := 14) hx hb dX1_init_146 (by decide) ?_
  refine lv_sipush (v := 3719) hx hb dX1_init_148 (by decide) ?_
  refine va_iast hx hb hK hP hD hS 7 0 rfl rfl (by unfold vp_in; decide) dX1_init_151 (fun H locs hP hD hS => ?_)
  have hP : va_P D cls2 [(k0, .inr (1, [.int 0, .int 0, .int 0, .int 0, .ref q1, .ref q2, .ref q3, .ref q4, .ref q5, .ref q6, .null, .null])), (q1, .inl (cI, 40, .inl (fun _ => 0))), (q2, .inl (cI, 40, .inl (fun _ => 0))), (q3, .inl (cI, 16, .inl (fun _ => 0))), (q4, .inl (cJ, 16, .inr (.inl (fun _ => 0)))), (q5, .inl (cJ, 12, .inr (.inl (fun _ => 0)))), (q6, .inl (cJ, 12, .inr (.inl (fun _ => 0)))), (q7, .inl (cI, 65, .inl (upd f6_13 14 3719)))] H := hP
  have hD : va_D A [(k0, .inr (1, [.int 0, .int 0, .int 0, .int 0, .ref q1, .ref q2, .ref q3, .ref q4, .ref q5, .ref q6, .null, .null])), (q1, .inl (cI, 40, .inl (fun _ => 0))), (q2, .inl (cI, 40, .inl (fun _ => 0))), (q3, .inl (cI, 16, .inl (fun _ => 0))), (q4, .inl (cJ, 16, .inr (.inl (fun _ => 0)))), (q5, .inl (cJ, 12, .inr (.inl (fun _ => 0)))), (q6, .inl (cJ, 12, .inr (.inl (fun _ => 0)))), (q7, .inl (cI, 65, .inl (upd f6_13 14 3719)))] := hD
  have ef6_14 : ∀ j, j < 15 → (upd f6_13 14 3719) j = cosT j := upd_tab (ef6_13) (by decide)
  generalize (upd f6_13 14 3719) = f6_14 at hP hD ef6_14
  refine lv_dup hx hb dX1_init_152 rfl ?_
  refine lv_bipush (v := 15) hx hb dX1_init_153 (by decide) ?_
  refine lv_sipush (v := 4244) hx hb dX1_init_155 (by decide) ?_
  refine va_iast hx hb hK hP hD hS 7 0 rfl rfl (by unfold vp_in; decide) dX1_init_158 (fun H locs hP hD hS => ?_)
  have hP : va_P D cls2 [(k0, .inr (1, [.int 0, .int 0, .int 0, .int 0, .ref q1, .ref q2, .ref q3, .ref q4, .ref q5, .ref q6, .null, .null])), (q1, .inl (cI, 40, .inl (fun _ => 0))), (q2, .inl (cI, 40, .inl (fun _ => 0))), (q3, .inl (cI, 16, .inl (fun _ => 0))), (q4, .inl (cJ, 16, .inr (.inl (fun _ => 0)))), (q5, .inl (cJ, 12, .inr (.inl (fun _ => 0)))), (q6, .inl (cJ, 12, .inr (.inl (fun _ => 0)))), (q7, .inl (cI, 65, .inl (upd f6_14 15 4244)))] H := hP
  have hD : va_D A [(k0, .inr (1, [.int 0, .int 0, .int 0, .int 0, .ref q1, .ref q2, .ref q3, .ref q4, .ref q5, .ref q6, .null, .null])), (q1, .inl (cI, 40, .inl (fun _ => 0))), (q2, .inl (cI, 40, .inl (fun _ => 0))), (q3, .inl (cI, 16, .inl (fun _ => 0))), (q4, .inl (cJ, 16, .inr (.inl (fun _ => 0)))), (q5, .inl (cJ, 12, .inr (.inl (fun _ => 0)))), (q6, .inl (cJ, 12, .inr (.inl (fun _ => 0)))), (q7, .inl (cI, 65, .inl (upd f6_14 15 4244)))] := hD
  have ef6_15 : ∀ j, j < 16 → (upd f6_14 15 4244) j = cosT j := upd_tab (ef6_14) (by decide)
  generalize (upd f6_14 15 4244) = f6_15 at hP hD ef6_15
  refine lv_dup hx hb dX1_init_159 rfl ?_
  refine lv_bipush (v := 16) hx hb dX1_init_160 (by decide) ?_
  refine lv_sipush (v := 4799) hx hb dX1_init_162 (by decide) ?_
  refine va_iast hx hb hK hP hD hS 7 0 rfl rfl (by unfold vp_in; decide) dX1_init_165 (fun H locs hP hD hS => ?_)
  have hP : va_P D cls2 [(k0, .inr (1, [.int 0, .int 0, .int 0, .int 0, .ref q1, .ref q2, .ref q3, .ref q4, .ref q5, .ref q6, .null, .null])), (q1, .inl (cI, 40, .inl (fun _ => 0))), (q2, .inl (cI, 40, .inl (fun _ => 0))), (q3, .inl (cI, 16, .inl (fun _ => 0))), (q4, .inl (cJ, 16, .inr (.inl (fun _ => 0)))), (q5, .inl (cJ, 12, .inr (.inl (fun _ => 0)))), (q6, .inl (cJ, 12, .inr (.inl (fun _ => 0)))), (q7, .inl (cI, 65, .inl (upd f6_15 16 4799)))] H := hP
  have hD : va_D A [(k0, .inr (1, [.int 0, .int 0, .int 0, .int 0, .ref q1, .ref q2, .ref q3, .ref q4, .ref q5, .ref q6, .null, .null])), (q1, .inl (cI, 40, .inl (fun _ => 0))), (q2, .inl (cI, 40, .inl (fun _ => 0))), (q3, .inl (cI, 16, .inl (fun _ => 0))), (q4, .inl (cJ, 16, .inr (.inl (fun _ => 0)))), (q5, .inl (cJ, 12, .inr (.inl (fun _ => 0)))), (q6, .inl (cJ, 12, .inr (.inl (fun _ => 0)))), (q7, .inl (cI, 65, .inl (upd f6_15 16 4799)))] := hD
  have ef6_16 : ∀ j, j < 17 → (upd f6_15 16 4799) j = cosT j := upd_tab (ef6_15) (by decide)
  generalize (upd f6_15 16 4799) = f6_16 at hP hD ef6_16
  refine lv_dup hx hb dX1_init_166 rfl ?_
  refine lv_bipush (v := 17) hx hb dX1_init_167 (by decide) ?_
  refine lv_sipush (v := 5381) hx hb dX1_init_169 (by decide) ?_
  refine va_iast hx hb hK hP hD hS 7 0 rfl rfl (by unfold vp_in; decide) dX1_init_172 (fun H locs hP hD hS => ?_)
  have hP : va_P D cls2 [(k0, .inr (1, [.int 0, .int 0, .int 0, .int 0, .ref q1, .ref q2, .ref q3, .ref q4, .ref q5, .ref q6, .null, .null])), (q1, .inl (cI, 40, .inl (fun _ => 0))), (q2, .inl (cI, 40, .inl (fun _ => 0))), (q3, .inl (cI, 16, .inl (fun _ => 0))), (q4, .inl (cJ, 16, .inr (.inl (fun _ => 0)))), (q5, .inl (cJ, 12, .inr (.inl (fun _ => 0)))), (q6, .inl (cJ, 12, .inr (.inl (fun _ => 0)))), (q7, .inl (cI, 65, .inl (upd f6_16 17 5381)))] H := hP
  have hD : va_D A [(k0, .inr (1, [.int 0, .int 0, .int 0, .int 0, .ref q1, .ref q2, .ref q3, .ref q4, .ref q5, .ref q6, .null, .null])), (q1, .inl (cI, 40, .inl (fun _ => 0))), (q2, .inl (cI, 40, .inl (fun _ => 0))), (q3, .inl (cI, 16, .inl (fun _ => 0))), (q4, .inl (cJ, 16, .inr (.inl (fun _ => 0)))), (q5, .inl (cJ, 12, .inr (.inl (fun _ => 0)))), (q6, .inl (cJ, 12, .inr (.inl (fun _ => 0)))), (q7, .inl (cI, 65, .inl (upd f6_16 17 5381)))] := hD
  have ef6_17 : ∀ j, j < 18 → (upd f6_16 17 5381) j = cosT j := upd_tab (ef6_16) (by decide)
  generalize (upd f6_16 17 5381) = f6_17 at hP hD ef6_17
  refine lv_dup hx hb dX1_init_173 rfl ?_
  refine lv_bipush (v := 18) hx hb dX1_init_174 (by decide) ?_
  refine lv_sipush (v := 5990) hx hb dX1_init_176 (by decide) ?_
  refine va_iast hx hb hK hP hD hS 7 0 rfl rfl (by unfold vp_in; decide) dX1_init_179 (fun H locs hP hD hS => ?_)
  have hP : va_P D cls2 [(k0, .inr (1, [.int 0, .int 0, .int 0, .int 0, .ref q1, .ref q2, .ref q3, .ref q4, .ref q5, .ref q6, .null, .null])), (q1, .inl (cI, 40, .inl (fun _ => 0))), (q2, .inl (cI, 40, .inl (fun _ => 0))), (q3, .inl (cI, 16, .inl (fun _ => 0))), (q4, .inl (cJ, 16, .inr (.inl (fun _ => 0)))), (q5, .inl (cJ, 12, .inr (.inl (fun _ => 0)))), (q6, .inl (cJ, 12, .inr (.inl (fun _ => 0)))), (q7, .inl (cI, 65, .inl (upd f6_17 18 5990)))] H := hP
  have hD : va_D A [(k0, .inr (1, [.int 0, .int 0, .int 0, .int 0, .ref q1, .ref q2, .ref q3, .ref q4, .ref q5, .ref q6, .null, .null])), (q1, .inl (cI, 40, .inl (fun _ => 0))), (q2, .inl (cI, 40, .inl (fun _ => 0))), (q3, .inl (cI, 16, .inl (fun _ => 0))), (q4, .inl (cJ, 16, .inr (.inl (fun _ => 0)))), (q5, .inl (cJ, 12, .inr (.inl (fun _ => 0)))), (q6, .inl (cJ, 12, .inr (.inl (fun _ => 0)))), (q7, .inl (cI, 65, .inl (upd f6_17 18 5990)))] := hD
  have ef6_18 : ∀ j, j < 19 → (upd f6_17 18 5990) j = cosT j := upd_tab (ef6_17) (by decide)
  generalize (upd f6_17 18 5990) = f6_18 at hP hD ef6_18
  refine lv_dup hx hb dX1_init_180 rfl ?_
  refine lv_bipush (v := 19) hx hb dX1_init_181 (by decide) ?_
  refine lv_sipush (v := 6624) hx hb dX1_init_183 (by decide) ?_
  refine va_iast hx hb hK hP hD hS 7 0 rfl rfl (by unfold vp_in; decide) dX1_init_186 (fun H locs hP hD hS => ?_)
  have hP : va_P D cls2 [(k0, .inr (1, [.int 0, .int 0, .int 0, .int 0, .ref q1, .ref q2, .ref q3, .ref q4, .ref q5, .ref q6, .null, .null])), (q1, .inl (cI, 40, .inl (fun _ => 0))), (q2, .inl (cI, 40, .inl (fun _ => 0))), (q3, .inl (cI, 16, .inl (fun _ => 0))), (q4, .inl (cJ, 16, .inr (.inl (fun _ => 0)))), (q5, .inl (cJ, 12, .inr (.inl (fun _ => 0)))), (q6, .inl (cJ, 12, .inr (.inl (fun _ => 0)))), (q7, .inl (cI, 65, .inl (upd f6_18 19 6624)))] H := hP
  have hD : va_D A [(k0, .inr (1, [.int 0, .int 0, .int 0, .int 0, .ref q1, .ref q2, .ref q3, .ref q4, .ref q5, .ref q6, .null, .null])), (q1, .inl (cI, 40, .inl (fun _ => 0))), (q2, .inl (cI, 40, .inl (fun _ => 0))), (q3, .inl (cI, 16, .inl (fun _ => 0))), (q4, .inl (cJ, 16, .inr (.inl (fun _ => 0)))), (q5, .inl (cJ, 12, .inr (.inl (fun _ => 0)))), (q6, .inl (cJ, 12, .inr (.inl (fun _ => 0)))), (q7, .inl (cI, 65, .inl (upd f6_18 19 6624)))] := hD
  have ef6_19 : ∀ j, j < 20 → (upd f6_18 19 6624) j = cosT j := upd_tab (ef6_18) (by decide)
  generalize (upd f6_18 19 6624) = f6_19 at hP hD ef6_19
  refine lv_dup hx hb dX1_init_187 rfl ?_
  refine lv_bipush (v := 20) hx hb dX1_init_188 (by decide) ?_
  refine lv_sipush (v := 7282) hx hb dX1_init_190 (by decide) ?_
  refine va_iast hx hb hK hP hD hS 7 0 rfl rfl (by unfold vp_in; decide) dX1_init_193 (fun H locs hP hD hS => ?_)
  have hP : va_P D cls2 [(k0, .inr (1, [.int 0, .int 0, .int 0, .int 0, .ref q1, .ref q2, .ref q3, .ref q4, .ref q5, .ref q6, .null, .null])), (q1, .inl (cI, 40, .inl (fun _ => 0))), (q2, .inl (cI, 40, .inl (fun _ => 0))), (q3, .inl (cI, 16, .inl (fun _ => 0))), (q4, .inl (cJ, 16, .inr (.inl (fun _ => 0)))), (q5, .inl (cJ, 12, .inr (.inl (fun _ => 0)))), (q6, .inl (cJ, 12, .inr (.inl (fun _ => 0)))), (q7, .inl (cI, 65, .inl (upd f6_19 20 7282)))] H := hP
  have hD : va_D A [(k0, .inr (1, [.int 0, .int 0, .int 0, .int 0, .ref q1, .ref q2, .ref q3, .ref q4, .ref q5, .ref q6, .null, .null])), (q1, .inl (cI, 40, .inl (fun _ => 0))), (q2, .inl (cI, 40, .inl (fun _ => 0))), (q3, .inl (cI, 16, .inl (fun _ => 0))), (q4, .inl (cJ, 16, .inr (.inl (fun _ => 0)))), (q5, .inl (cJ, 12, .inr (.inl (fun _ => 0)))), (q6, .inl (cJ, 12, .inr (.inl (fun _ => 0)))), (q7, .inl (cI, 65, .inl (upd f6_19 20 7282)))] := hD
  have ef6_20 : ∀ j, j < 21 → (upd f6_19 20 7282) j = cosT j := upd_tab (ef6_19) (by decide)
  generalize (upd f6_19 20 7282) = f6_20 at hP hD ef6_20
  refine lv_dup hx hb dX1_init_194 rfl ?_
  refine lv_bipush (v := 21) hx hb dX1_init_195 (by decide) ?_
  refine lv_sipush (v := 7961) hx hb dX1_init_197 (by decide) ?_
  refine va_iast hx hb hK hP hD hS 7 0 rfl rfl (by unfold vp_in; decide) dX1_init_200 (fun H locs hP hD hS => ?_)
  have hP : va_P D cls2 [(k0, .inr (1, [.int 0, .int 0, .int 0, .int 0, .ref q1, .ref q2, .ref q3, .ref q4, .ref q5, .ref q6, .null, .null])), (q1, .inl (cI, 40, .inl (fun _ => 0))), (q2, .inl (cI, 40, .inl (fun _ => 0))), (q3, .inl (cI, 16, .inl (fun _ => 0))), (q4, .inl (cJ, 16, .inr (.inl (fun _ => 0)))), (q5, .inl (cJ, 12, .inr (.inl (fun _ => 0)))), (q6, .inl (cJ, 12, .inr (.inl (fun _ => 0)))), (q7, .inl (cI, 65, .inl (upd f6_20 21 7961)))] H := hP
  have hD : va_D A [(k0, .inr (1, [.int 0, .int 0, .int 0, .int 0, .ref q1, .ref q2, .ref q3, .ref q4, .ref q5, .ref q6, .null, .null])), (q1, .inl (cI, 40, .inl (fun _ => 0))), (q2, .inl (cI, 40, .inl (fun _ => 0))), (q3, .inl (cI, 16, .inl (fun _ => 0))), (q4, .inl (cJ, 16, .inr (.inl (fun _ => 0)))), (q5, .inl (cJ, 12, .inr (.inl (fun _ => 0)))), (q6, .inl (cJ, 12, .inr (.inl (fun _ => 0)))), (q7, .inl (cI, 65, .inl (upd f6_20 21 7961)))] := hD
  have ef6_21 : ∀ j, j < 22 → (upd f6_20 21 7961) j = cosT j := upd_tab (ef6_20) (by decide)
  generalize (upd f6_20 21 7961) = f6_21 at hP hD ef6_21
  refine lv_dup hx hb dX1_init_201 rfl ?_
  refine lv_bipush (v := 22) hx hb dX1_init_202 (by decide) ?_
  refine lv_sipush (v := 8661) hx hb dX1_init_204 (by decide) ?_
  refine va_iast hx hb hK hP hD hS 7 0 rfl rfl (by unfold vp_in; decide) dX1_init_207 (fun H locs hP hD hS => ?_)
  have hP : va_P D cls2 [(k0, .inr (1, [.int 0, .int 0, .int 0, .int 0, .ref q1, .ref q2, .ref q3, .ref q4, .ref q5, .ref q6, .null, .null])), (q1, .inl (cI, 40, .inl (fun _ => 0))), (q2, .inl (cI, 40, .inl (fun _ => 0))), (q3, .inl (cI, 16, .inl (fun _ => 0))), (q4, .inl (cJ, 16, .inr (.inl (fun _ => 0)))), (q5, .inl (cJ, 12, .inr (.inl (fun _ => 0)))), (q6, .inl (cJ, 12, .inr (.inl (fun _ => 0)))), (q7, .inl (cI, 65, .inl (upd f6_21 22 8661)))] H := hP
  have hD : va_D A [(k0, .inr (1, [.int 0, .int 0, .int 0, .int 0, .ref q1, .ref q2, .ref q3, .ref q4, .ref q5, .ref q6, .null, .null])), (q1, .inl (cI, 40, .inl (fun _ => 0))), (q2, .inl (cI, 40, .inl (fun _ => 0))), (q3, .inl (cI, 16, .inl (fun _ => 0))), (q4, .inl (cJ, 16, .inr (.inl (fun _ => 0)))), (q5, .inl (cJ, 12, .inr (.inl (fun _ => 0)))), (q6, .inl (cJ, 12, .inr (.inl (fun _ => 0)))), (q7, .inl (cI, 65, .inl (upd f6_21 22 8661)))] := hD
  have ef6_22 : ∀ j, j < 23 → (upd f6_21 22 8661) j = cosT j := upd_tab (ef6_21) (by decide)
  generalize (upd f6_21 22 8661) = f6_22 at hP hD ef6_22
  refine lv_dup hx hb dX1_init_208 rfl ?_
  refine lv_bipush (v := 23) hx hb dX1_init_209 (by decide) ?_
  refine lv_sipush (v := 9379) hx hb dX1_init_211 (by decide) ?_
  refine va_iast hx hb hK hP hD hS 7 0 rfl rfl (by unfold vp_in; decide) dX1_init_214 (fun H locs hP hD hS => ?_)
  have hP : va_P D cls2 [(k0, .inr (1, [.int 0, .int 0, .int 0, .int 0, .ref q1, .ref q2, .ref q3, .ref q4, .ref q5, .ref q6, .null, .null])), (q1, .inl (cI, 40, .inl (fun _ => 0))), (q2, .inl (cI, 40, .inl (fun _ => 0))), (q3, .inl (cI, 16, .inl (fun _ => 0))), (q4, .inl (cJ, 16, .inr (.inl (fun _ => 0)))), (q5, .inl (cJ, 12, .inr (.inl (fun _ => 0)))), (q6, .inl (cJ, 12, .inr (.inl (fun _ => 0)))), (q7, .inl (cI, 65, .inl (upd f6_22 23 9379)))] H := hP
  have hD : va_D A [(k0, .inr (1, [.int 0, .int 0, .int 0, .int 0, .ref q1, .ref q2, .ref q3, .ref q4, .ref q5, .ref q6, .null, .null])), (q1, .inl (cI, 40, .inl (fun _ => 0))), (q2, .inl (cI, 40, .inl (fun _ => 0))), (q3, .inl (cI, 16, .inl (fun _ => 0))), (q4, .inl (cJ, 16, .inr (.inl (fun _ => 0)))), (q5, .inl (cJ, 12, .inr (.inl (fun _ => 0)))), (q6, .inl (cJ, 12, .inr (.inl (fun _ => 0)))), (q7, .inl (cI, 65, .inl (upd f6_22 23 9379)))] := hD
  have ef6_23 : ∀ j, j < 24 → (upd f6_22 23 9379) j = cosT j := upd_tab (ef6_22) (by decide)
  generalize (upd f6_22 23 9379) = f6_23 at hP hD ef6_23
  refine lv_dup hx hb dX1_init_215 rfl ?_
  refine lv_bipush (v := 24) hx hb dX1_init_216 (by decide) ?_
  refine lv_sipush (v := 10114) hx hb dX1_init_218 (by decide) ?_
  refine va_iast hx hb hK hP hD hS 7 0 rfl rfl (by unfold vp_in; decide) dX1_init_221 (fun H locs hP hD hS => ?_)
  have hP : va_P D cls2 [(k0, .inr (1, [.int 0, .int 0, .int 0, .int 0, .ref q1, .ref q2, .ref q3, .ref q4, .ref q5, .ref q6, .null, .null])), (q1, .inl (cI, 40, .inl (fun _ => 0))), (q2, .inl (cI, 40, .inl (fun _ => 0))), (q3, .inl (cI, 16, .inl (fun _ => 0))), (q4, .inl (cJ, 16, .inr (.inl (fun _ => 0)))), (q5, .inl (cJ, 12, .inr (.inl (fun _ => 0)))), (q6, .inl (cJ, 12, .inr (.inl (fun _ => 0)))), (q7, .inl (cI, 65, .inl (upd f6_23 24 10114)))] H := hP
  have hD : va_D A [(k0, .inr (1, [.int 0, .int 0, .int 0, .int 0, .ref q1, .ref q2, .ref q3, .ref q4, .ref q5, .ref q6, .null, .null])), (q1, .inl (cI, 40, .inl (fun _ => 0))), (q2, .inl (cI, 40, .inl (fun _ => 0))), (q3, .inl (cI, 16, .inl (fun _ => 0))), (q4, .inl (cJ, 16, .inr (.inl (fun _ => 0)))), (q5, .inl (cJ, 12, .inr (.inl (fun _ => 0)))), (q6, .inl (cJ, 12, .inr (.inl (fun _ => 0)))), (q7, .inl (cI, 65, .inl (upd f6_23 24 10114)))] := hD
  have ef6_24 : ∀ j, j < 25 → (upd f6_23 24 10114) j = cosT j := upd_tab (ef6_23) (by decide)
  generalize (upd f6_23 24 10114) = f6_24 at hP hD ef6_24
  refine lv_dup hx hb dX1_init_222 rfl ?_
  refine lv_bipush (v := 25) hx hb dX1_init_223 (by decide) ?_
  refine lv_sipush (v := 10864) hx hb dX1_init_225 (by decide) ?_
  refine va_iast hx hb hK hP hD hS 7 0 rfl rfl (by unfold vp_in; decide) dX1_init_228 (fun H locs hP hD hS => ?_)
  have hP : va_P D cls2 [(k0, .inr (1, [.int 0, .int 0, .int 0, .int 0, .ref q1, .ref q2, .ref q3, .ref q4, .ref q5, .ref q6, .null, .null])), (q1, .inl (cI, 40, .inl (fun _ => 0))), (q2, .inl (cI, 40, .inl (fun _ => 0))), (q3, .inl (cI, 16, .inl (fun _ => 0))), (q4, .inl (cJ, 16, .inr (.inl (fun _ => 0)))), (q5, .inl (cJ, 12, .inr (.inl (fun _ => 0)))), (q6, .inl (cJ, 12, .inr (.inl (fun _ => 0)))), (q7, .inl (cI, 65, .inl (upd f6_24 25 10864)))] H := hP
  have hD : va_D A [(k0, .inr (1, [.int 0, .int 0, .int 0, .int 0, .ref q1, .ref q2, .ref q3, .ref q4, .ref q5, .ref q6, .null, .null])), (q1, .inl (cI, 40, .inl (fun _ => 0))), (q2, .inl (cI, 40, .inl (fun _ => 0))), (q3, .inl (cI, 16, .inl (fun _ => 0))), (q4, .inl (cJ, 16, .inr (.inl (fun _ => 0)))), (q5, .inl (cJ, 12, .inr (.inl (fun _ => 0)))), (q6, .inl (cJ, 12, .inr (.inl (fun _ => 0)))), (q7, .inl (cI, 65, .inl (upd f6_24 25 10864)))] := hD
  have ef6_25 : ∀ j, j < 26 → (upd f6_24 25 10864) j = cosT j := upd_tab (ef6_24) (by decide)
  generalize (upd f6_24 25 10864) = f6_25 at hP hD ef6_25
  refine lv_dup hx hb dX1_init_229 rfl ?_
  refine lv_bipush (v := 26) hx hb dX1_init_230 (by decide) ?_
  refine lv_sipush (v := 11628) hx hb dX1_init_232 (by decide) ?_
  refine va_iast hx hb hK hP hD hS 7 0 rfl rfl (by unfold vp_in; decide) dX1_init_235 (fun H locs hP hD hS => ?_)
  have hP : va_P D cls2 [(k0, .inr (1, [.int 0, .int 0, .int 0, .int 0, .ref q1, .ref q2, .ref q3, .ref q4, .ref q5, .ref q6, .null, .null])), (q1, .inl (cI, 40, .inl (fun _ => 0))), (q2, .inl (cI, 40, .inl (fun _ => 0))), (q3, .inl (cI, 16, .inl (fun _ => 0))), (q4, .inl (cJ, 16, .inr (.inl (fun _ => 0)))), (q5, .inl (cJ, 12, .inr (.inl (fun _ => 0)))), (q6, .inl (cJ, 12, .inr (.inl (fun _ => 0)))), (q7, .inl (cI, 65, .inl (upd f6_25 26 11628)))] H := hP
  have hD : va_D A [(k0, .inr (1, [.int 0, .int 0, .int 0, .int 0, .ref q1, .ref q2, .ref q3, .ref q4, .ref q5, .ref q6, .null, .null])), (q1, .inl (cI, 40, .inl (fun _ => 0))), (q2, .inl (cI, 40, .inl (fun _ => 0))), (q3, .inl (cI, 16, .inl (fun _ => 0))), (q4, .inl (cJ, 16, .inr (.inl (fun _ => 0)))), (q5, .inl (cJ, 12, .inr (.inl (fun _ => 0)))), (q6, .inl (cJ, 12, .inr (.inl (fun _ => 0)))), (q7, .inl (cI, 65, .inl (upd f6_25 26 11628)))] := hD
  have ef6_26 : ∀ j, j < 27 → (upd f6_25 26 11628) j = cosT j := upd_tab (ef6_25) (by decide)
  generalize (upd f6_25 26 11628) = f6_26 at hP hD ef6_26
  refine lv_dup hx hb dX1_init_236 rfl ?_
  refine lv_bipush (v := 27) hx hb dX1_init_237 (by decide) ?_
  refine lv_sipush (v := 12403) hx hb dX1_init_239 (by decide) ?_
  refine va_iast hx hb hK hP hD hS 7 0 rfl rfl (by unfold vp_in; decide) dX1_init_242 (fun H locs hP hD hS => ?_)
  have hP : va_P D cls2 [(k0, .inr (1, [.int 0, .int 0, .int 0, .int 0, .ref q1, .ref q2, .ref q3, .ref q4, .ref q5, .ref q6, .null, .null])), (q1, .inl (cI, 40, .inl (fun _ => 0))), (q2, .inl (cI, 40, .inl (fun _ => 0))), (q3, .inl (cI, 16, .inl (fun _ => 0))), (q4, .inl (cJ, 16, .inr (.inl (fun _ => 0)))), (q5, .inl (cJ, 12, .inr (.inl (fun _ => 0)))), (q6, .inl (cJ, 12, .inr (.inl (fun _ => 0)))), (q7, .inl (cI, 65, .inl (upd f6_26 27 12403)))] H := hP
  have hD : va_D A [(k0, .inr (1, [.int 0, .int 0, .int 0, .int 0, .ref q1, .ref q2, .ref q3, .ref q4, .ref q5, .ref q6, .null, .null])), (q1, .inl (cI, 40, .inl (fun _ => 0))), (q2, .inl (cI, 40, .inl (fun _ => 0))), (q3, .inl (cI, 16, .inl (fun _ => 0))), (q4, .inl (cJ, 16, .inr (.inl (fun _ => 0)))), (q5, .inl (cJ, 12, .inr (.inl (fun _ => 0)))), (q6, .inl (cJ, 12, .inr (.inl (fun _ => 0)))), (q7, .inl (cI, 65, .inl (upd f6_26 27 12403)))] := hD
  have ef6_27 : ∀ j, j < 28 → (upd f6_26 27 12403) j = cosT j := upd_tab (ef6_26) (by decide)
  generalize (upd f6_26 27 12403) = f6_27 at hP hD ef6_27
  refine lv_dup hx hb dX1_init_243 rfl ?_
  refine lv_bipush (v := 28) hx hb dX1_init_244 (by decide) ?_
  refine lv_sipush (v := 13188) hx hb dX1_init_246 (by decide) ?_
  refine va_iast hx hb hK hP hD hS 7 0 rfl rfl (by unfold vp_in; decide) dX1_init_249 (fun H locs hP hD hS => ?_)
  have hP : va_P D cls2 [(k0, .inr (1, [.int 0, .int 0, .int 0, .int 0, .ref q1, .ref q2, .ref q3, .ref q4, .ref q5, .ref q6, .null, .null])), (q1, .inl (cI, 40, .inl (fun _ => 0))), (q2, .inl (cI, 40, .inl (fun _ => 0))), (q3, .inl (cI, 16, .inl (fun _ => 0))), (q4, .inl (cJ, 16, .inr (.inl (fun _ => 0)))), (q5, .inl (cJ, 12, .inr (.inl (fun _ => 0)))), (q6, .inl (cJ, 12, .inr (.inl (fun _ => 0)))), (q7, .inl (cI, 65, .inl (upd f6_27 28 13188)))] H := hP
  have hD : va_D A [(k0, .inr (1, [.int 0, .int 0, .int 0, .int 0, .ref q1, .ref q2, .ref q3, .ref q4, .ref q5, .ref q6, .null, .null])), (q1, .inl (cI, 40, .inl (fun _ => 0))), (q2, .inl (cI, 40, .inl (fun _ => 0))), (q3, .inl (cI, 16, .inl (fun _ => 0))), (q4, .inl (cJ, 16, .inr (.inl (fun _ => 0)))), (q5, .inl (cJ, 12, .inr (.inl (fun _ => 0)))), (q6, .inl (cJ, 12, .inr (.inl (fun _ => 0)))), (q7, .inl (cI, 65, .inl (upd f6_27 28 13188)))] := hD
  have ef6_28 : ∀ j, j < 29 → (upd f6_27 28 13188) j = cosT j := upd_tab (ef6_27) (by decide)
  generalize (upd f6_27 28 13188) = f6_28 at hP hD ef6_28
  refine lv_dup hx hb dX1_init_250 rfl ?_
  refine lv_bipush (v := 29) hx hb dX1_init_251 (by decide) ?_
  refine lv_sipush (v := 13980) hx hb dX1_init_253 (by decide) ?_
  refine va_iast hx hb hK hP hD hS 7 0 rfl rfl (by unfold vp_in; decide) dX1_init_256 (fun H locs hP hD hS => ?_)
  have hP : va_P D cls2 [(k0, .inr (1, [.int 0, .int 0, .int 0, .int 0, .ref q1, .ref q2, .ref q3, .ref q4, .ref q5, .ref q6, .null, .null])), (q1, .inl (cI, 40, .inl (fun _ => 0))), (q2, .inl (cI, 40, .inl (fun _ => 0))), (q3, .inl (cI, 16, .inl (fun _ => 0))), (q4, .inl (cJ, 16, .inr (.inl (fun _ => 0)))), (q5, .inl (cJ, 12, .inr (.inl (fun _ => 0)))), (q6, .inl (cJ, 12, .inr (.inl (fun _ => 0)))), (q7, .inl (cI, 65, .inl (upd f6_28 29 13980)))] H := hP
  have hD : va_D A [(k0, .inr (1, [.int 0, .int 0, .int 0, .int 0, .ref q1, .ref q2, .ref q3, .ref q4, .ref q5, .ref q6, .null, .null])), (q1, .inl (cI, 40, .inl (fun _ => 0))), (q2, .inl (cI, 40, .inl (fun _ => 0))), (q3, .inl (cI, 16, .inl (fun _ => 0))), (q4, .inl (cJ, 16, .inr (.inl (fun _ => 0)))), (q5, .inl (cJ, 12, .inr (.inl (fun _ => 0)))), (q6, .inl (cJ, 12, .inr (.inl (fun _ => 0)))), (q7, .inl (cI, 65, .inl (upd f6_28 29 13980)))] := hD
  have ef6_29 : ∀ j, j < 30 → (upd f6_28 29 13980) j = cosT j := upd_tab (ef6_28) (by decide)
  generalize (upd f6_28 29 13980) = f6_29 at hP hD ef6_29
  refine lv_dup hx hb dX1_init_257 rfl ?_
  refine lv_bipush (v := 30) hx hb dX1_init_258 (by decide) ?_
  refine lv_sipush (v := 14778) hx hb dX1_init_260 (by decide) ?_
  refine va_iast hx hb hK hP hD hS 7 0 rfl rfl (by unfold vp_in; decide) dX1_init_263 (fun H locs hP hD hS => ?_)
  have hP : va_P D cls2 [(k0, .inr (1, [.int 0, .int 0, .int 0, .int 0, .ref q1, .ref q2, .ref q3, .ref q4, .ref q5, .ref q6, .null, .null])), (q1, .inl (cI, 40, .inl (fun _ => 0))), (q2, .inl (cI, 40, .inl (fun _ => 0))), (q3, .inl (cI, 16, .inl (fun _ => 0))), (q4, .inl (cJ, 16, .inr (.inl (fun _ => 0)))), (q5, .inl (cJ, 12, .inr (.inl (fun _ => 0)))), (q6, .inl (cJ, 12, .inr (.inl (fun _ => 0)))), (q7, .inl (cI, 65, .inl (upd f6_29 30 14778)))] H := hP
  have hD : va_D A [(k0, .inr (1, [.int 0, .int 0, .int 0, .int 0, .ref q1, .ref q2, .ref q3, .ref q4, .ref q5, .ref q6, .null, .null])), (q1, .inl (cI, 40, .inl (fun _ => 0))), (q2, .inl (cI, 40, .inl (fun _ => 0))), (q3, .inl (cI, 16, .inl (fun _ => 0))), (q4, .inl (cJ, 16, .inr (.inl (fun _ => 0)))), (q5, .inl (cJ, 12, .inr (.inl (fun _ => 0)))), (q6, .inl (cJ, 12, .inr (.inl (fun _ => 0)))), (q7, .inl (cI, 65, .inl (upd f6_29 30 14778)))] := hD
  have ef6_30 : ∀ j, j < 31 → (upd f6_29 30 14778) j = cosT j := upd_tab (ef6_29) (by decide)
  generalize (upd f6_29 30 14778) = f6_30 at hP hD ef6_30
  refine lv_dup hx hb dX1_init_264 rfl ?_
  refine lv_bipush (v := 31) hx hb dX1_init_265 (by decide) ?_
  refine lv_sipush (v := 15580) hx hb dX1_init_267 (by decide) ?_
  refine va_iast hx hb hK hP hD hS 7 0 rfl rfl (by unfold vp_in; decide) dX1_init_270 (fun H locs hP hD hS => ?_)
  have hP : va_P D cls2 [(k0, .inr (1, [.int 0, .int 0, .int 0, .int 0, .ref q1, .ref q2, .ref q3, .ref q4, .ref q5, .ref q6, .null, .null])), (q1, .inl (cI, 40, .inl (fun _ => 0))), (q2, .inl (cI, 40, .inl (fun _ => 0))), (q3, .inl (cI, 16, .inl (fun _ => 0))), (q4, .inl (cJ, 16, .inr (.inl (fun _ => 0)))), (q5, .inl (cJ, 12, .inr (.inl (fun _ => 0)))), (q6, .inl (cJ, 12, .inr (.inl (fun _ => 0)))), (q7, .inl (cI, 65, .inl (upd f6_30 31 15580)))] H := hP
  have hD : va_D A [(k0, .inr (1, [.int 0, .int 0, .int 0, .int 0, .ref q1, .ref q2, .ref q3, .ref q4, .ref q5, .ref q6, .null, .null])), (q1, .inl (cI, 40, .inl (fun _ => 0))), (q2, .inl (cI, 40, .inl (fun _ => 0))), (q3, .inl (cI, 16, .inl (fun _ => 0))), (q4, .inl (cJ, 16, .inr (.inl (fun _ => 0)))), (q5, .inl (cJ, 12, .inr (.inl (fun _ => 0)))), (q6, .inl (cJ, 12, .inr (.inl (fun _ => 0)))), (q7, .inl (cI, 65, .inl (upd f6_30 31 15580)))] := hD
  have ef6_31 : ∀ j, j < 32 → (upd f6_30 31 15580) j = cosT j := upd_tab (ef6_30) (by decide)
  generalize (upd f6_30 31 15580) = f6_31 at hP hD ef6_31
  refine lv_dup hx hb dX1_init_271 rfl ?_
  refine lv_bipush (v := 32) hx hb dX1_init_272 (by decide) ?_
  refine lv_sipush (v := 16384) hx hb dX1_init_274 (by decide) ?_
  refine va_iast hx hb hK hP hD hS 7 0 rfl rfl (by unfold vp_in; decide) dX1_init_277 (fun H locs hP hD hS => ?_)
  have hP : va_P D cls2 [(k0, .inr (1, [.int 0, .int 0, .int 0, .int 0, .ref q1, .ref q2, .ref q3, .ref q4, .ref q5, .ref q6, .null, .null])), (q1, .inl (cI, 40, .inl (fun _ => 0))), (q2, .inl (cI, 40, .inl (fun _ => 0))), (q3, .inl (cI, 16, .inl (fun _ => 0))), (q4, .inl (cJ, 16, .inr (.inl (fun _ => 0)))), (q5, .inl (cJ, 12, .inr (.inl (fun _ => 0)))), (q6, .inl (cJ, 12, .inr (.inl (fun _ => 0)))), (q7, .inl (cI, 65, .inl (upd f6_31 32 16384)))] H := hP
  have hD : va_D A [(k0, .inr (1, [.int 0, .int 0, .int 0, .int 0, .ref q1, .ref q2, .ref q3, .ref q4, .ref q5, .ref q6, .null, .null])), (q1, .inl (cI, 40, .inl (fun _ => 0))), (q2, .inl (cI, 40, .inl (fun _ => 0))), (q3, .inl (cI, 16, .inl (fun _ => 0))), (q4, .inl (cJ, 16, .inr (.inl (fun _ => 0)))), (q5, .inl (cJ, 12, .inr (.inl (fun _ => 0)))), (q6, .inl (cJ, 12, .inr (.inl (fun _ => 0)))), (q7, .inl (cI, 65, .inl (upd f6_31 32 16384)))] := hD
  have ef6_32 : ∀ j, j < 33 → (upd f6_31 32 16384) j = cosT j := upd_tab (ef6_31) (by decide)
  generalize (upd f6_31 32 16384) = f6_32 at hP hD ef6_32
  refine lv_dup hx hb dX1_init_278 rfl ?_
  refine lv_bipush (v := 33) hx hb dX1_init_279 (by decide) ?_
  refine lv_sipush (v := 17188) hx hb dX1_init_281 (by decide) ?_
  refine va_iast hx hb hK hP hD hS 7 0 rfl rfl (by unfold vp_in; decide) dX1_init_284 (fun H locs hP hD hS => ?_)
  have hP : va_P D cls2 [(k0, .inr (1, [.int 0, .int 0, .int 0, .int 0, .ref q1, .ref q2, .ref q3, .ref q4, .ref q5, .ref q6, .null, .null])), (q1, .inl (cI, 40, .inl (fun _ => 0))), (q2, .inl (cI, 40, .inl (fun _ => 0))), (q3, .inl (cI, 16, .inl (fun _ => 0))), (q4, .inl (cJ, 16, .inr (.inl (fun _ => 0)))), (q5, .inl (cJ, 12, .inr (.inl (fun _ => 0)))), (q6, .inl (cJ, 12, .inr (.inl (fun _ => 0)))), (q7, .inl (cI, 65, .inl (upd f6_32 33 17188)))] H := hP
  have hD : va_D A [(k0, .inr (1, [.int 0, .int 0, .int 0, .int 0, .ref q1, .ref q2, .ref q3, .ref q4, .ref q5, .ref q6, .null, .null])), (q1, .inl (cI, 40, .inl (fun _ => 0))), (q2, .inl (cI, 40, .inl (fun _ => 0))), (q3, .inl (cI, 16, .inl (fun _ => 0))), (q4, .inl (cJ, 16, .inr (.inl (fun _ => 0)))), (q5, .inl (cJ, 12, .inr (.inl (fun _ => 0)))), (q6, .inl (cJ, 12, .inr (.inl (fun _ => 0)))), (q7, .inl (cI, 65, .inl (upd f6_32 33 17188)))] := hD
  have ef6_33 : ∀ j, j < 34 → (upd f6_32 33 17188) j = cosT j := upd_tab (ef6_32) (by decide)
  generalize (upd f6_32 33 17188) = f6_33 at hP hD ef6_33
  refine lv_dup hx hb dX1_init_285 rfl ?_
  refine lv_bipush (v := 34) hx hb dX1_init_286 (by decide) ?_
  refine lv_sipush (v := 17990) hx hb dX1_init_288 (by decide) ?_
  refine va_iast hx hb hK hP hD hS 7 0 rfl rfl (by unfold vp_in; decide) dX1_init_291 (fun H locs hP hD hS => ?_)
  have hP : va_P D cls2 [(k0, .inr (1, [.int 0, .int 0, .int 0, .int 0, .ref q1, .ref q2, .ref q3, .ref q4, .ref q5, .ref q6, .null, .null])), (q1, .inl (cI, 40, .inl (fun _ => 0))), (q2, .inl (cI, 40, .inl (fun _ => 0))), (q3, .inl (cI, 16, .inl (fun _ => 0))), (q4, .inl (cJ, 16, .inr (.inl (fun _ => 0)))), (q5, .inl (cJ, 12, .inr (.inl (fun _ => 0)))), (q6, .inl (cJ, 12, .inr (.inl (fun _ => 0)))), (q7, .inl (cI, 65, .inl (upd f6_33 34 17990)))] H := hP
  have hD : va_D A [(k0, .inr (1, [.int 0, .int 0, .int 0, .int 0, .ref q1, .ref q2, .ref q3, .ref q4, .ref q5, .ref q6, .null, .null])), (q1, .inl (cI, 40, .inl (fun _ => 0))), (q2, .inl (cI, 40, .inl (fun _ => 0))), (q3, .inl (cI, 16, .inl (fun _ => 0))), (q4, .inl (cJ, 16, .inr (.inl (fun _ => 0)))), (q5, .inl (cJ, 12, .inr (.inl (fun _ => 0)))), (q6, .inl (cJ, 12, .inr (.inl (fun _ => 0)))), (q7, .inl (cI, 65, .inl (upd f6_33 34 17990)))] := hD
  have ef6_34 : ∀ j, j < 35 → (upd f6_33 34 17990) j = cosT j := upd_tab (ef6_33) (by decide)
  generalize (upd f6_33 34 17990) = f6_34 at hP hD ef6_34
  refine lv_dup hx hb dX1_init_292 rfl ?_
  refine lv_bipush (v := 35) hx hb dX1_init_293 (by decide) ?_
  refine lv_sipush (v := 18788) hx hb dX1_init_295 (by decide) ?_
  refine va_iast hx hb hK hP hD hS 7 0 rfl rfl (by unfold vp_in; decide) dX1_init_298 (fun H locs hP hD hS => ?_)
  have hP : va_P D cls2 [(k0, .inr (1, [.int 0, .int 0, .int 0, .int 0, .ref q1, .ref q2, .ref q3, .ref q4, .ref q5, .ref q6, .null, .null])), (q1, .inl (cI, 40, .inl (fun _ => 0))), (q2, .inl (cI, 40, .inl (fun _ => 0))), (q3, .inl (cI, 16, .inl (fun _ => 0))), (q4, .inl (cJ, 16, .inr (.inl (fun _ => 0)))), (q5, .inl (cJ, 12, .inr (.inl (fun _ => 0)))), (q6, .inl (cJ, 12, .inr (.inl (fun _ => 0)))), (q7, .inl (cI, 65, .inl (upd f6_34 35 18788)))] H := hP
  have hD : va_D A [(k0, .inr (1, [.int 0, .int 0, .int 0, .int 0, .ref q1, .ref q2, .ref q3, .ref q4, .ref q5, .ref q6, .null, .null])), (q1, .inl (cI, 40, .inl (fun _ => 0))), (q2, .inl (cI, 40, .inl (fun _ => 0))), (q3, .inl (cI, 16, .inl (fun _ => 0))), (q4, .inl (cJ, 16, .inr (.inl (fun _ => 0)))), (q5, .inl (cJ, 12, .inr (.inl (fun _ => 0)))), (q6, .inl (cJ, 12, .inr (.inl (fun _ => 0)))), (q7, .inl (cI, 65, .inl (upd f6_34 35 18788)))] := hD
  have ef6_35 : ∀ j, j < 36 → (upd f6_34 35 18788) j = cosT j := upd_tab (ef6_34) (by decide)
  generalize (upd f6_34 35 18788) = f6_35 at hP hD ef6_35
  refine lv_dup hx hb dX1_init_299 rfl ?_
  refine lv_bipush (v := 36) hx hb dX1_init_300 (by decide) ?_
  refine lv_sipush (v := 19580) hx hb dX1_init_302 (by decide) ?_
  refine va_iast hx hb hK hP hD hS 7 0 rfl rfl (by unfold vp_in; decide) dX1_init_305 (fun H locs hP hD hS => ?_)
  have hP : va_P D cls2 [(k0, .inr (1, [.int 0, .int 0, .int 0, .int 0, .ref q1, .ref q2, .ref q3, .ref q4, .ref q5, .ref q6, .null, .null])), (q1, .inl (cI, 40, .inl (fun _ => 0))), (q2, .inl (cI, 40, .inl (fun _ => 0))), (q3, .inl (cI, 16, .inl (fun _ => 0))), (q4, .inl (cJ, 16, .inr (.inl (fun _ => 0)))), (q5, .inl (cJ, 12, .inr (.inl (fun _ => 0)))), (q6, .inl (cJ, 12, .inr (.inl (fun _ => 0)))), (q7, .inl (cI, 65, .inl (upd f6_35 36 19580)))] H := hP
  have hD : va_D A [(k0, .inr (1, [.int 0, .int 0, .int 0, .int 0, .ref q1, .ref q2, .ref q3, .ref q4, .ref q5, .ref q6, .null, .null])), (q1, .inl (cI, 40, .inl (fun _ => 0))), (q2, .inl (cI, 40, .inl (fun _ => 0))), (q3, .inl (cI, 16, .inl (fun _ => 0))), (q4, .inl (cJ, 16, .inr (.inl (fun _ => 0)))), (q5, .inl (cJ, 12, .inr (.inl (fun _ => 0)))), (q6, .inl (cJ, 12, .inr (.inl (fun _ => 0)))), (q7, .inl (cI, 65, .inl (upd f6_35 36 19580)))] := hD
  have ef6_36 : ∀ j, j < 37 → (upd f6_35 36 19580) j = cosT j := upd_tab (ef6_35) (by decide)
  generalize (upd f6_35 36 19580) = f6_36 at hP hD ef6_36
  refine lv_dup hx hb dX1_init_306 rfl ?_
  refine lv_bipush (v := 37) hx hb dX1_init_307 (by decide) ?_
  refine lv_sipush (v := 20365) hx hb dX1_init_309 (by decide) ?_
  refine va_iast hx hb hK hP hD hS 7 0 rfl rfl (by unfold vp_in; decide) dX1_init_312 (fun H locs hP hD hS => ?_)
  have hP : va_P D cls2 [(k0, .inr (1, [.int 0, .int 0, .int 0, .int 0, .ref q1, .ref q2, .ref q3, .ref q4, .ref q5, .ref q6, .null, .null])), (q1, .inl (cI, 40, .inl (fun _ => 0))), (q2, .inl (cI, 40, .inl (fun _ => 0))), (q3, .inl (cI, 16, .inl (fun _ => 0))), (q4, .inl (cJ, 16, .inr (.inl (fun _ => 0)))), (q5, .inl (cJ, 12, .inr (.inl (fun _ => 0)))), (q6, .inl (cJ, 12, .inr (.inl (fun _ => 0)))), (q7, .inl (cI, 65, .inl (upd f6_36 37 20365)))] H := hP
  have hD : va_D A [(k0, .inr (1, [.int 0, .int 0, .int 0, .int 0, .ref q1, .ref q2, .ref q3, .ref q4, .ref q5, .ref q6, .null, .null])), (q1, .inl (cI, 40, .inl (fun _ => 0))), (q2, .inl (cI, 40, .inl (fun _ => 0))), (q3, .inl (cI, 16, .inl (fun _ => 0))), (q4, .inl (cJ, 16, .inr (.inl (fun _ => 0)))), (q5, .inl (cJ, 12, .inr (.inl (fun _ => 0)))), (q6, .inl (cJ, 12, .inr (.inl (fun _ => 0)))), (q7, .inl (cI, 65, .inl (upd f6_36 37 20365)))] := hD
  have ef6_37 : ∀ j, j < 38 → (upd f6_36 37 20365) j = cosT j := upd_tab (ef6_36) (by decide)
  generalize (upd f6_36 37 20365) = f6_37 at hP hD ef6_37
  refine lv_dup hx hb dX1_init_313 rfl ?_
  refine lv_bipush (v := 38) hx hb dX1_init_314 (by decide) ?_
  refine lv_sipush (v := 21140) hx hb dX1_init_316 (by decide) ?_
  refine va_iast hx hb hK hP hD hS 7 0 rfl rfl (by unfold vp_in; decide) dX1_init_319 (fun H locs hP hD hS => ?_)
  have hP : va_P D cls2 [(k0, .inr (1, [.int 0, .int 0, .int 0, .int 0, .ref q1, .ref q2, .ref q3, .ref q4, .ref q5, .ref q6, .null, .null])), (q1, .inl (cI, 40, .inl (fun _ => 0))), (q2, .inl (cI, 40, .inl (fun _ => 0))), (q3, .inl (cI, 16, .inl (fun _ => 0))), (q4, .inl (cJ, 16, .inr (.inl (fun _ => 0)))), (q5, .inl (cJ, 12, .inr (.inl (fun _ => 0)))), (q6, .inl (cJ, 12, .inr (.inl (fun _ => 0)))), (q7, .inl (cI, 65, .inl (upd f6_37 38 21140)))] H := hP
  have hD : va_D A [(k0, .inr (1, [.int 0, .int 0, .int 0, .int 0, .ref q1, .ref q2, .ref q3, .ref q4, .ref q5, .ref q6, .null, .null])), (q1, .inl (cI, 40, .inl (fun _ => 0))), (q2, .inl (cI, 40, .inl (fun _ => 0))), (q3, .inl (cI, 16, .inl (fun _ => 0))), (q4, .inl (cJ, 16, .inr (.inl (fun _ => 0)))), (q5, .inl (cJ, 12, .inr (.inl (fun _ => 0)))), (q6, .inl (cJ, 12, .inr (.inl (fun _ => 0)))), (q7, .inl (cI, 65, .inl (upd f6_37 38 21140)))] := hD
  have ef6_38 : ∀ j, j < 39 → (upd f6_37 38 21140) j = cosT j := upd_tab (ef6_37) (by decide)
  generalize (upd f6_37 38 21140) = f6_38 at hP hD ef6_38
  refine lv_dup hx hb dX1_init_320 rfl ?_
  refine lv_bipush (v := 39) hx hb dX1_init_321 (by decide) ?_
  refine lv_sipush (v := 21904) hx hb dX1_init_323 (by decide) ?_
  refine va_iast hx hb hK hP hD hS 7 0 rfl rfl (by unfold vp_in; decide) dX1_init_326 (fun H locs hP hD hS => ?_)
  have hP : va_P D cls2 [(k0, .inr (1, [.int 0, .int 0, .int 0, .int 0, .ref q1, .ref q2, .ref q3, .ref q4, .ref q5, .ref q6, .null, .null])), (q1, .inl (cI, 40, .inl (fun _ => 0))), (q2, .inl (cI, 40, .inl (fun _ => 0))), (q3, .inl (cI, 16, .inl (fun _ => 0))), (q4, .inl (cJ, 16, .inr (.inl (fun _ => 0)))), (q5, .inl (cJ, 12, .inr (.inl (fun _ => 0)))), (q6, .inl (cJ, 12, .inr (.inl (fun _ => 0)))), (q7, .inl (cI, 65, .inl (upd f6_38 39 21904)))] H := hP
  have hD : va_D A [(k0, .inr (1, [.int 0, .int 0, .int 0, .int 0, .ref q1, .ref q2, .ref q3, .ref q4, .ref q5, .ref q6, .null, .null])), (q1, .inl (cI, 40, .inl (fun _ => 0))), (q2, .inl (cI, 40, .inl (fun _ => 0))), (q3, .inl (cI, 16, .inl (fun _ => 0))), (q4, .inl (cJ, 16, .inr (.inl (fun _ => 0)))), (q5, .inl (cJ, 12, .inr (.inl (fun _ => 0)))), (q6, .inl (cJ, 12, .inr (.inl (fun _ => 0)))), (q7, .inl (cI, 65, .inl (upd f6_38 39 21904)))] := hD
  have ef6_39 : ∀ j, j < 40 → (upd f6_38 39 21904) j = cosT j := upd_tab (ef6_38) (by decide)
  generalize (upd f6_38 39 21904) = f6_39 at hP hD ef6_39
  refine lv_dup hx hb dX1_init_327 rfl ?_
  refine lv_bipush (v := 40) hx hb dX1_init_328 (by decide) ?_
  refine lv_sipush (v := 22654) hx hb dX1_init_330 (by decide) ?_
  refine va_iast hx hb hK hP hD hS 7 0 rfl rfl (by unfold vp_in; decide) dX1_init_333 (fun H locs hP hD hS => ?_)
  have hP : va_P D cls2 [(k0, .inr (1, [.int 0, .int 0, .int 0, .int 0, .ref q1, .ref q2, .ref q3, .ref q4, .ref q5, .ref q6, .null, .null])), (q1, .inl (cI, 40, .inl (fun _ => 0))), (q2, .inl (cI, 40, .inl (fun _ => 0))), (q3, .inl (cI, 16, .inl (fun _ => 0))), (q4, .inl (cJ, 16, .inr (.inl (fun _ => 0)))), (q5, .inl (cJ, 12, .inr (.inl (fun _ => 0)))), (q6, .inl (cJ, 12, .inr (.inl (fun _ => 0)))), (q7, .inl (cI, 65, .inl (upd f6_39 40 22654)))] H := hP
  have hD : va_D A [(k0, .inr (1, [.int 0, .int 0, .int 0, .int 0, .ref q1, .ref q2, .ref q3, .ref q4, .ref q5, .ref q6, .null, .null])), (q1, .inl (cI, 40, .inl (fun _ => 0))), (q2, .inl (cI, 40, .inl (fun _ => 0))), (q3, .inl (cI, 16, .inl (fun _ => 0))), (q4, .inl (cJ, 16, .inr (.inl (fun _ => 0)))), (q5, .inl (cJ, 12, .inr (.inl (fun _ => 0)))), (q6, .inl (cJ, 12, .inr (.inl (fun _ => 0)))), (q7, .inl (cI, 65, .inl (upd f6_39 40 22654)))] := hD
  have ef6_40 : ∀ j, j < 41 → (upd f6_39 40 22654) j = cosT j := upd_tab (ef6_39) (by decide)
  generalize (upd f6_39 40 22654) = f6_40 at hP hD ef6_40
  refine lv_dup hx hb dX1_init_334 rfl ?_
  refine lv_bipush (v := 41) hx hb dX1_init_335 (by decide) ?_
  refine lv_sipush (v := 23389) hx hb dX1_init_337 (by decide) ?_
  refine va_iast hx hb hK hP hD hS 7 0 rfl rfl (by unfold vp_in; decide) dX1_init_340 (fun H locs hP hD hS => ?_)
  have hP : va_P D cls2 [(k0, .inr (1, [.int 0, .int 0, .int 0, .int 0, .ref q1, .ref q2, .ref q3, .ref q4, .ref q5, .ref q6, .null, .null])), (q1, .inl (cI, 40, .inl (fun _ => 0))), (q2, .inl (cI, 40, .inl (fun _ => 0))), (q3, .inl (cI, 16, .inl (fun _ => 0))), (q4, .inl (cJ, 16, .inr (.inl (fun _ => 0)))), (q5, .inl (cJ, 12, .inr (.inl (fun _ => 0)))), (q6, .inl (cJ, 12, .inr (.inl (fun _ => 0)))), (q7, .inl (cI, 65, .inl (upd f6_40 41 23389)))] H := hP
  have hD : va_D A [(k0, .inr (1, [.int 0, .int 0, .int 0, .int 0, .ref q1, .ref q2, .ref q3, .ref q4, .ref q5, .ref q6, .null, .null])), (q1, .inl (cI, 40, .inl (fun _ => 0))), (q2, .inl (cI, 40, .inl (fun _ => 0))), (q3, .inl (cI, 16, .inl (fun _ => 0))), (q4, .inl (cJ, 16, .inr (.inl (fun _ => 0)))), (q5, .inl (cJ, 12, .inr (.inl (fun _ => 0)))), (q6, .inl (cJ, 12, .inr (.inl (fun _ => 0)))), (q7, .inl (cI, 65, .inl (upd f6_40 41 23389)))] := hD
  have ef6_41 : ∀ j, j < 42 → (upd f6_40 41 23389) j = cosT j := upd_tab (ef6_40) (by decide)
  generalize (upd f6_40 41 23389) = f6_41 at hP hD ef6_41
  refine lv_dup hx hb dX1_init_341 rfl ?_
  refine lv_bipush (v := 42) hx hb dX1_init_342 (by decide) ?_
  refine lv_sipush (v := 24107) hx hb dX1_init_344 (by decide) ?_
  refine va_iast hx hb hK hP hD hS 7 0 rfl rfl (by unfold vp_in; decide) dX1_init_347 (fun H locs hP hD hS => ?_)
  have hP : va_P D cls2 [(k0, .inr (1, [.int 0, .int 0, .int 0, .int 0, .ref q1, .ref q2, .ref q3, .ref q4, .ref q5, .ref q6, .null, .null])), (q1, .inl (cI, 40, .inl (fun _ => 0))), (q2, .inl (cI, 40, .inl (fun _ => 0))), (q3, .inl (cI, 16, .inl (fun _ => 0))), (q4, .inl (cJ, 16, .inr (.inl (fun _ => 0)))), (q5, .inl (cJ, 12, .inr (.inl (fun _ => 0)))), (q6, .inl (cJ, 12, .inr (.inl (fun _ => 0)))), (q7, .inl (cI, 65, .inl (upd f6_41 42 24107)))] H := hP
  have hD : va_D A [(k0, .inr (1, [.int 0, .int 0, .int 0, .int 0, .ref q1, .ref q2, .ref q3, .ref q4, .ref q5, .ref q6, .null, .null])), (q1, .inl (cI, 40, .inl (fun _ => 0))), (q2, .inl (cI, 40, .inl (fun _ => 0))), (q3, .inl (cI, 16, .inl (fun _ => 0))), (q4, .inl (cJ, 16, .inr (.inl (fun _ => 0)))), (q5, .inl (cJ, 12, .inr (.inl (fun _ => 0)))), (q6, .inl (cJ, 12, .inr (.inl (fun _ => 0)))), (q7, .inl (cI, 65, .inl (upd f6_41 42 24107)))] := hD
  have ef6_42 : ∀ j, j < 43 → (upd f6_41 42 24107) j = cosT j := upd_tab (ef6_41) (by decide)
  generalize (upd f6_41 42 24107) = f6_42 at hP hD ef6_42
  refine lv_dup hx hb dX1_init_348 rfl ?_
  refine lv_bipush (v := 43) hx hb dX1_init_349 (by decide) ?_
  refine lv_sipush (v := 24807) hx hb dX1_init_351 (by decide) ?_
  refine va_iast hx hb hK hP hD hS 7 0 rfl rfl (by unfold vp_in; decide) dX1_init_354 (fun H locs hP hD hS => ?_)
  have hP : va_P D cls2 [(k0, .inr (1, [.int 0, .int 0, .int 0, .int 0, .ref q1, .ref q2, .ref q3, .ref q4, .ref q5, .ref q6, .null, .null])), (q1, .inl (cI, 40, .inl (fun _ => 0))), (q2, .inl (cI, 40, .inl (fun _ => 0))), (q3, .inl (cI, 16, .inl (fun _ => 0))), (q4, .inl (cJ, 16, .inr (.inl (fun _ => 0)))), (q5, .inl (cJ, 12, .inr (.inl (fun _ => 0)))), (q6, .inl (cJ, 12, .inr (.inl (fun _ => 0)))), (q7, .inl (cI, 65, .inl (upd f6_42 43 24807)))] H := hP
  have hD : va_D A [(k0, .inr (1, [.int 0, .int 0, .int 0, .int 0, .ref q1, .ref q2, .ref q3, .ref q4, .ref q5, .ref q6, .null, .null])), (q1, .inl (cI, 40, .inl (fun _ => 0))), (q2, .inl (cI, 40, .inl (fun _ => 0))), (q3, .inl (cI, 16, .inl (fun _ => 0))), (q4, .inl (cJ, 16, .inr (.inl (fun _ => 0)))), (q5, .inl (cJ, 12, .inr (.inl (fun _ => 0)))), (q6, .inl (cJ, 12, .inr (.inl (fun _ => 0)))), (q7, .inl (cI, 65, .inl (upd f6_42 43 24807)))] := hD
  have ef6_43 : ∀ j, j < 44 → (upd f6_42 43 24807) j = cosT j := upd_tab (ef6_42) (by decide)
  generalize (upd f6_42 43 24807) = f6_43 at hP hD ef6_43
  refine lv_dup hx hb dX1_init_355 rfl ?_
  refine lv_bipush (v := 44) hx hb dX1_init_356 (by decide) ?_
  refine lv_sipush (v := 25486) hx hb dX1_init_358 (by decide) ?_
  refine va_iast hx hb hK hP hD hS 7 0 rfl rfl (by unfold vp_in; decide) dX1_init_361 (fun H locs hP hD hS => ?_)
  have hP : va_P D cls2 [(k0, .inr (1, [.int 0, .int 0, .int 0, .int 0, .ref q1, .ref q2, .ref q3, .ref q4, .ref q5, .ref q6, .null, .null])), (q1, .inl (cI, 40, .inl (fun _ => 0))), (q2, .inl (cI, 40, .inl (fun _ => 0))), (q3, .inl (cI, 16, .inl (fun _ => 0))), (q4, .inl (cJ, 16, .inr (.inl (fun _ => 0)))), (q5, .inl (cJ, 12, .inr (.inl (fun _ => 0)))), (q6, .inl (cJ, 12, .inr (.inl (fun _ => 0)))), (q7, .inl (cI, 65, .inl (upd f6_43 44 25486)))] H := hP
  have hD : va_D A [(k0, .inr (1, [.int 0, .int 0, .int 0, .int 0, .ref q1, .ref q2, .ref q3, .ref q4, .ref q5, .ref q6, .null, .null])), (q1, .inl (cI, 40, .inl (fun _ => 0))), (q2, .inl (cI, 40, .inl (fun _ => 0))), (q3, .inl (cI, 16, .inl (fun _ => 0))), (q4, .inl (cJ, 16, .inr (.inl (fun _ => 0)))), (q5, .inl (cJ, 12, .inr (.inl (fun _ => 0)))), (q6, .inl (cJ, 12, .inr (.inl (fun _ => 0)))), (q7, .inl (cI, 65, .inl (upd f6_43 44 25486)))] := hD
  have ef6_44 : ∀ j, j < 45 → (upd f6_43 44 25486) j = cosT j := upd_tab (ef6_43) (by decide)
  generalize (upd f6_43 44 25486) = f6_44 at hP hD ef6_44
  refine lv_dup hx hb dX1_init_362 rfl ?_
  refine lv_bipush (v := 45) hx hb dX1_init_363 (by decide) ?_
  refine lv_sipush (v := 26144) hx hb dX1_init_365 (by decide) ?_
  refine va_iast hx hb hK hP hD hS 7 0 rfl rfl (by unfold vp_in; decide) dX1_init_368 (fun H locs hP hD hS => ?_)
  have hP : va_P D cls2 [(k0, .inr (1, [.int 0, .int 0, .int 0, .int 0, .ref q1, .ref q2, .ref q3, .ref q4, .ref q5, .ref q6, .null, .null])), (q1, .inl (cI, 40, .inl (fun _ => 0))), (q2, .inl (cI, 40, .inl (fun _ => 0))), (q3, .inl (cI, 16, .inl (fun _ => 0))), (q4, .inl (cJ, 16, .inr (.inl (fun _ => 0)))), (q5, .inl (cJ, 12, .inr (.inl (fun _ => 0)))), (q6, .inl (cJ, 12, .inr (.inl (fun _ => 0)))), (q7, .inl (cI, 65, .inl (upd f6_44 45 26144)))] H := hP
  have hD : va_D A [(k0, .inr (1, [.int 0, .int 0, .int 0, .int 0, .ref q1, .ref q2, .ref q3, .ref q4, .ref q5, .ref q6, .null, .null])), (q1, .inl (cI, 40, .inl (fun _ => 0))), (q2, .inl (cI, 40, .inl (fun _ => 0))), (q3, .inl (cI, 16, .inl (fun _ => 0))), (q4, .inl (cJ, 16, .inr (.inl (fun _ => 0)))), (q5, .inl (cJ, 12, .inr (.inl (fun _ => 0)))), (q6, .inl (cJ, 12, .inr (.inl (fun _ => 0)))), (q7, .inl (cI, 65, .inl (upd f6_44 45 26144)))] := hD
  have ef6_45 : ∀ j, j < 46 → (upd f6_44 45 26144) j = cosT j := upd_tab (ef6_44) (by decide)
  generalize (upd f6_44 45 26144) = f6_45 at hP hD ef6_45
  refine lv_dup hx hb dX1_init_369 rfl ?_
  refine lv_bipush (v := 46) hx hb dX1_init_370 (by decide) ?_
  refine lv_sipush (v := 26778) hx hb dX1_init_372 (by decide) ?_
  refine va_iast hx hb hK hP hD hS 7 0 rfl rfl (by unfold vp_in; decide) dX1_init_375 (fun H locs hP hD hS => ?_)
  have hP : va_P D cls2 [(k0, .inr (1, [.int 0, .int 0, .int 0, .int 0, .ref q1, .ref q2, .ref q3, .ref q4, .ref q5, .ref q6, .null, .null])), (q1, .inl (cI, 40, .inl (fun _ => 0))), (q2, .inl (cI, 40, .inl (fun _ => 0))), (q3, .inl (cI, 16, .inl (fun _ => 0))), (q4, .inl (cJ, 16, .inr (.inl (fun _ => 0)))), (q5, .inl (cJ, 12, .inr (.inl (fun _ => 0)))), (q6, .inl (cJ, 12, .inr (.inl (fun _ => 0)))), (q7, .inl (cI, 65, .inl (upd f6_45 46 26778)))] H := hP
  have hD : va_D A [(k0, .inr (1, [.int 0, .int 0, .int 0, .int 0, .ref q1, .ref q2, .ref q3, .ref q4, .ref q5, .ref q6, .null, .null])), (q1, .inl (cI, 40, .inl (fun _ => 0))), (q2, .inl (cI, 40, .inl (fun _ => 0))), (q3, .inl (cI, 16, .inl (fun _ => 0))), (q4, .inl (cJ, 16, .inr (.inl (fun _ => 0)))), (q5, .inl (cJ, 12, .inr (.inl (fun _ => 0)))), (q6, .inl (cJ, 12, .inr (.inl (fun _ => 0)))), (q7, .inl (cI, 65, .inl (upd f6_45 46 26778)))] := hD
  have ef6_46 : ∀ j, j < 47 → (upd f6_45 46 26778) j = cosT j := upd_tab (ef6_45) (by decide)
  generalize (upd f6_45 46 26778) = f6_46 at hP hD ef6_46
  refine lv_dup hx hb dX1_init_376 rfl ?_
  refine lv_bipush (v := 47) hx hb dX1_init_377 (by decide) ?_
  refine lv_sipush (v := 27387) hx hb dX1_init_379 (by decide) ?_
  refine va_iast hx hb hK hP hD hS 7 0 rfl rfl (by unfold vp_in; decide) dX1_init_382 (fun H locs hP hD hS => ?_)
  have hP : va_P D cls2 [(k0, .inr (1, [.int 0, .int 0, .int 0, .int 0, .ref q1, .ref q2, .ref q3, .ref q4, .ref q5, .ref q6, .null, .null])), (q1, .inl (cI, 40, .inl (fun _ => 0))), (q2, .inl (cI, 40, .inl (fun _ => 0))), (q3, .inl (cI, 16, .inl (fun _ => 0))), (q4, .inl (cJ, 16, .inr (.inl (fun _ => 0)))), (q5, .inl (cJ, 12, .inr (.inl (fun _ => 0)))), (q6, .inl (cJ, 12, .inr (.inl (fun _ => 0)))), (q7, .inl (cI, 65, .inl (upd f6_46 47 27387)))] H := hP
  have hD : va_D A [(k0, .inr (1, [.int 0, .int 0, .int 0, .int 0, .ref q1, .ref q2, .ref q3, .ref q4, .ref q5, .ref q6, .null, .null])), (q1, .inl (cI, 40, .inl (fun _ => 0))), (q2, .inl (cI, 40, .inl (fun _ => 0))), (q3, .inl (cI, 16, .inl (fun _ => 0))), (q4, .inl (cJ, 16, .inr (.inl (fun _ => 0)))), (q5, .inl (cJ, 12, .inr (.inl (fun _ => 0)))), (q6, .inl (cJ, 12, .inr (.inl (fun _ => 0)))), (q7, .inl (cI, 65, .inl (upd f6_46 47 27387)))] := hD
  have ef6_47 : ∀ j, j < 48 → (upd f6_46 47 27387) j = cosT j := upd_tab (ef6_46) (by decide)
  generalize (upd f6_46 47 27387) = f6_47 at hP hD ef6_47
  refine lv_dup hx hb dX1_init_383 rfl ?_
  refine lv_bipush (v := 48) hx hb dX1_init_384 (by decide) ?_
  refine lv_sipush (v := 27969) hx hb dX1_init_386 (by decide) ?_
  refine va_iast hx hb hK hP hD hS 7 0 rfl rfl (by unfold vp_in; decide) dX1_init_389 (fun H locs hP hD hS => ?_)
  have hP : va_P D cls2 [(k0, .inr (1, [.int 0, .int 0, .int 0, .int 0, .ref q1, .ref q2, .ref q3, .ref q4, .ref q5, .ref q6, .null, .null])), (q1, .inl (cI, 40, .inl (fun _ => 0))), (q2, .inl (cI, 40, .inl (fun _ => 0))), (q3, .inl (cI, 16, .inl (fun _ => 0))), (q4, .inl (cJ, 16, .inr (.inl (fun _ => 0)))), (q5, .inl (cJ, 12, .inr (.inl (fun _ => 0)))), (q6, .inl (cJ, 12, .inr (.inl (fun _ => 0)))), (q7, .inl (cI, 65, .inl (upd f6_47 48 27969)))] H := hP
  have hD : va_D A [(k0, .inr (1, [.int 0, .int 0, .int 0, .int 0, .ref q1, .ref q2, .ref q3, .ref q4, .ref q5, .ref q6, .null, .null])), (q1, .inl (cI, 40, .inl (fun _ => 0))), (q2, .inl (cI, 40, .inl (fun _ => 0))), (q3, .inl (cI, 16, .inl (fun _ => 0))), (q4, .inl (cJ, 16, .inr (.inl (fun _ => 0)))), (q5, .inl (cJ, 12, .inr (.inl (fun _ => 0)))), (q6, .inl (cJ, 12, .inr (.inl (fun _ => 0)))), (q7, .inl (cI, 65, .inl (upd f6_47 48 27969)))] := hD
  have ef6_48 : ∀ j, j < 49 → (upd f6_47 48 27969) j = cosT j := upd_tab (ef6_47) (by decide)
  generalize (upd f6_47 48 27969) = f6_48 at hP hD ef6_48
  refine lv_dup hx hb dX1_init_390 rfl ?_
  refine lv_bipush (v := 49) hx hb dX1_init_391 (by decide) ?_
  refine lv_sipush (v := 28524) hx hb dX1_init_393 (by decide) ?_
  refine va_iast hx hb hK hP hD hS 7 0 rfl rfl (by unfold vp_in; decide) dX1_init_396 (fun H locs hP hD hS => ?_)
  have hP : va_P D cls2 [(k0, .inr (1, [.int 0, .int 0, .int 0, .int 0, .ref q1, .ref q2, .ref q3, .ref q4, .ref q5, .ref q6, .null, .null])), (q1, .inl (cI, 40, .inl (fun _ => 0))), (q2, .inl (cI, 40, .inl (fun _ => 0))), (q3, .inl (cI, 16, .inl (fun _ => 0))), (q4, .inl (cJ, 16, .inr (.inl (fun _ => 0)))), (q5, .inl (cJ, 12, .inr (.inl (fun _ => 0)))), (q6, .inl (cJ, 12, .inr (.inl (fun _ => 0)))), (q7, .inl (cI, 65, .inl (upd f6_48 49 28524)))] H := hP
  have hD : va_D A [(k0, .inr (1, [.int 0, .int 0, .int 0, .int 0, .ref q1, .ref q2, .ref q3, .ref q4, .ref q5, .ref q6, .null, .null])), (q1, .inl (cI, 40, .inl (fun _ => 0))), (q2, .inl (cI, 40, .inl (fun _ => 0))), (q3, .inl (cI, 16, .inl (fun _ => 0))), (q4, .inl (cJ, 16, .inr (.inl (fun _ => 0)))), (q5, .inl (cJ, 12, .inr (.inl (fun _ => 0)))), (q6, .inl (cJ, 12, .inr (.inl (fun _ => 0)))), (q7, .inl (cI, 65, .inl (upd f6_48 49 28524)))] := hD
  have ef6_49 : ∀ j, j < 50 → (upd f6_48 49 28524) j = cosT j := upd_tab (ef6_48) (by decide)
  generalize (upd f6_48 49 28524) = f6_49 at hP hD ef6_49
  refine lv_dup hx hb dX1_init_397 rfl ?_
  refine lv_bipush (v := 50) hx hb dX1_init_398 (by decide) ?_
  refine lv_sipush (v := 29049) hx hb dX1_init_400 (by decide) ?_
  refine va_iast hx hb hK hP hD hS 7 0 rfl rfl (by unfold vp_in; decide) dX1_init_403 (fun H locs hP hD hS => ?_)
  have hP : va_P D cls2 [(k0, .inr (1, [.int 0, .int 0, .int 0, .int 0, .ref q1, .ref q2, .ref q3, .ref q4, .ref q5, .ref q6, .null, .null])), (q1, .inl (cI, 40, .inl (fun _ => 0))), (q2, .inl (cI, 40, .inl (fun _ => 0))), (q3, .inl (cI, 16, .inl (fun _ => 0))), (q4, .inl (cJ, 16, .inr (.inl (fun _ => 0)))), (q5, .inl (cJ, 12, .inr (.inl (fun _ => 0)))), (q6, .inl (cJ, 12, .inr (.inl (fun _ => 0)))), (q7, .inl (cI, 65, .inl (upd f6_49 50 29049)))] H := hP
  have hD : va_D A [(k0, .inr (1, [.int 0, .int 0, .int 0, .int 0, .ref q1, .ref q2, .ref q3, .ref q4, .ref q5, .ref q6, .null, .null])), (q1, .inl (cI, 40, .inl (fun _ => 0))), (q2, .inl (cI, 40, .inl (fun _ => 0))), (q3, .inl (cI, 16, .inl (fun _ => 0))), (q4, .inl (cJ, 16, .inr (.inl (fun _ => 0)))), (q5, .inl (cJ, 12, .inr (.inl (fun _ => 0)))), (q6, .inl (cJ, 12, .inr (.inl (fun _ => 0)))), (q7, .inl (cI, 65, .inl (upd f6_49 50 29049)))] := hD
  have ef6_50 : ∀ j, j < 51 → (upd f6_49 50 29049) j = cosT j := upd_tab (ef6_49) (by decide)
  generalize (upd f6_49 50 29049) = f6_50 at hP hD ef6_50
  refine lv_dup hx hb dX1_init_404 rfl ?_
  refine lv_bipush (v := 51) hx hb dX1_init_405 (by decide) ?_
  refine lv_sipush (v := 29544) hx hb dX1_init_407 (by decide) ?_
  refine va_iast hx hb hK hP hD hS 7 0 rfl rfl (by unfold vp_in; decide) dX1_init_410 (fun H locs hP hD hS => ?_)
  have hP : va_P D cls2 [(k0, .inr (1, [.int 0, .int 0, .int 0, .int 0, .ref q1, .ref q2, .ref q3, .ref q4, .ref q5, .ref q6, .null, .null])), (q1, .inl (cI, 40, .inl (fun _ => 0))), (q2, .inl (cI, 40, .inl (fun _ => 0))), (q3, .inl (cI, 16, .inl (fun _ => 0))), (q4, .inl (cJ, 16, .inr (.inl (fun _ => 0)))), (q5, .inl (cJ, 12, .inr (.inl (fun _ => 0)))), (q6, .inl (cJ, 12, .inr (.inl (fun _ => 0)))), (q7, .inl (cI, 65, .inl (upd f6_50 51 29544)))] H := hP
  have hD : va_D A [(k0, .inr (1, [.int 0, .int 0, .int 0, .int 0, .ref q1, .ref q2, .ref q3, .ref q4, .ref q5, .ref q6, .null, .null])), (q1, .inl (cI, 40, .inl (fun _ => 0))), (q2, .inl (cI, 40, .inl (fun _ => 0))), (q3, .inl (cI, 16, .inl (fun _ => 0))), (q4, .inl (cJ, 16, .inr (.inl (fun _ => 0)))), (q5, .inl (cJ, 12, .inr (.inl (fun _ => 0)))), (q6, .inl (cJ, 12, .inr (.inl (fun _ => 0)))), (q7, .inl (cI, 65, .inl (upd f6_50 51 29544)))] := hD
  have ef6_51 : ∀ j, j < 52 → (upd f6_50 51 29544) j = cosT j := upd_tab (ef6_50) (by decide)
  generalize (upd f6_50 51 29544) = f6_51 at hP hD ef6_51
  refine lv_dup hx hb dX1_init_411 rfl ?_
  refine lv_bipush (v := 52) hx hb dX1_init_412 (by decide) ?_
  refine lv_sipush (v := 30007) hx hb dX1_init_414 (by decide) ?_
  refine va_iast hx hb hK hP hD hS 7 0 rfl rfl (by unfold vp_in; decide) dX1_init_417 (fun H locs hP hD hS => ?_)
  have hP : va_P D cls2 [(k0, .inr (1, [.int 0, .int 0, .int 0, .int 0, .ref q1, .ref q2, .ref q3, .ref q4, .ref q5, .ref q6, .null, .null])), (q1, .inl (cI, 40, .inl (fun _ => 0))), (q2, .inl (cI, 40, .inl (fun _ => 0))), (q3, .inl (cI, 16, .inl (fun _ => 0))), (q4, .inl (cJ, 16, .inr (.inl (fun _ => 0)))), (q5, .inl (cJ, 12, .inr (.inl (fun _ => 0)))), (q6, .inl (cJ, 12, .inr (.inl (fun _ => 0)))), (q7, .inl (cI, 65, .inl (upd f6_51 52 30007)))] H := hP
  have hD : va_D A [(k0, .inr (1, [.int 0, .int 0, .int 0, .int 0, .ref q1, .ref q2, .ref q3, .ref q4, .ref q5, .ref q6, .null, .null])), (q1, .inl (cI, 40, .inl (fun _ => 0))), (q2, .inl (cI, 40, .inl (fun _ => 0))), (q3, .inl (cI, 16, .inl (fun _ => 0))), (q4, .inl (cJ, 16, .inr (.inl (fun _ => 0)))), (q5, .inl (cJ, 12, .inr (.inl (fun _ => 0)))), (q6, .inl (cJ, 12, .inr (.inl (fun _ => 0)))), (q7, .inl (cI, 65, .inl (upd f6_51 52 30007)))] := hD
  have ef6_52 : ∀ j, j < 53 → (upd f6_51 52 30007) j = cosT j := upd_tab (ef6_51) (by decide)
  generalize (upd f6_51 52 30007) = f6_52 at hP hD ef6_52
  refine lv_dup hx hb dX1_init_418 rfl ?_
  refine lv_bipush (v := 53) hx hb dX1_init_419 (by decide) ?_
  refine lv_sipush (v := 30437) hx hb dX1_init_421 (by decide) ?_
  refine va_iast hx hb hK hP hD hS 7 0 rfl rfl (by unfold vp_in; decide) dX1_init_424 (fun H locs hP hD hS => ?_)
  have hP : va_P D cls2 [(k0, .inr (1, [.int 0, .int 0, .int 0, .int 0, .ref q1, .ref q2, .ref q3, .ref q4, .ref q5, .ref q6, .null, .null])), (q1, .inl (cI, 40, .inl (fun _ => 0))), (q2, .inl (cI, 40, .inl (fun _ => 0))), (q3, .inl (cI, 16, .inl (fun _ => 0))), (q4, .inl (cJ, 16, .inr (.inl (fun _ => 0)))), (q5, .inl (cJ, 12, .inr (.inl (fun _ => 0)))), (q6, .inl (cJ, 12, .inr (.inl (fun _ => 0)))), (q7, .inl (cI, 65, .inl (upd f6_52 53 30437)))] H := hP
  have hD : va_D A [(k0, .inr (1, [.int 0, .int 0, .int 0, .int 0, .ref q1, .ref q2, .ref q3, .ref q4, .ref q5, .ref q6, .null, .null])), (q1, .inl (cI, 40, .inl (fun _ => 0))), (q2, .inl (cI, 40, .inl (fun _ => 0))), (q3, .inl (cI, 16, .inl (fun _ => 0))), (q4, .inl (cJ, 16, .inr (.inl (fun _ => 0)))), (q5, .inl (cJ, 12, .inr (.inl (fun _ => 0)))), (q6, .inl (cJ, 12, .inr (.inl (fun _ => 0)))), (q7, .inl (cI, 65, .inl (upd f6_52 53 30437)))] := hD
  have ef6_53 : ∀ j, j < 54 → (upd f6_52 53 30437) j = cosT j := upd_tab (ef6_52) (by decide)
  generalize (upd f6_52 53 30437) = f6_53 at hP hD ef6_53
  refine lv_dup hx hb dX1_init_425 rfl ?_
  refine lv_bipush (v := 54) hx hb dX1_init_426 (by decide) ?_
  refine lv_sipush (v := 30833) hx hb dX1_init_428 (by decide) ?_
  refine va_iast hx hb hK hP hD hS 7 0 rfl rfl (by unfold vp_in; decide) dX1_init_431 (fun H locs hP hD hS => ?_)
  have hP : va_P D cls2 [(k0, .inr (1, [.int 0, .int 0, .int 0, .int 0, .ref q1, .ref q2, .ref q3, .ref q4, .ref q5, .ref q6, .null, .null])), (q1, .inl (cI, 40, .inl (fun _ => 0))), (q2, .inl (cI, 40, .inl (fun _ => 0))), (q3, .inl (cI, 16, .inl (fun _ => 0))), (q4, .inl (cJ, 16, .inr (.inl (fun _ => 0)))), (q5, .inl (cJ, 12, .inr (.inl (fun _ => 0)))), (q6, .inl (cJ, 12, .inr (.inl (fun _ => 0)))), (q7, .inl (cI, 65, .inl (upd f6_53 54 30833)))] H := hP
  have hD : va_D A [(k0, .inr (1, [.int 0, .int 0, .int 0, .int 0, .ref q1, .ref q2, .ref q3, .ref q4, .ref q5, .ref q6, .null, .null])), (q1, .inl (cI, 40, .inl (fun _ => 0))), (q2, .inl (cI, 40, .inl (fun _ => 0))), (q3, .inl (cI, 16, .inl (fun _ => 0))), (q4, .inl (cJ, 16, .inr (.inl (fun _ => 0)))), (q5, .inl (cJ, 12, .inr (.inl (fun _ => 0)))), (q6, .inl (cJ, 12, .inr (.inl (fun _ => 0)))), (q7, .inl (cI, 65, .inl (upd f6_53 54 30833)))] := hD
  have ef6_54 : ∀ j, j < 55 → (upd f6_53 54 30833) j = cosT j := upd_tab (ef6_53) (by decide)
  generalize (upd f6_53 54 30833) = f6_54 at hP hD ef6_54
  refine lv_dup hx hb dX1_init_432 rfl ?_
  refine lv_bipush (v := 55) hx hb dX1_init_433 (by decide) ?_
  refine lv_sipush (v := 31195) hx hb dX1_init_435 (by decide) ?_
  refine va_iast hx hb hK hP hD hS 7 0 rfl rfl (by unfold vp_in; decide) dX1_init_438 (fun H locs hP hD hS => ?_)
  have hP : va_P D cls2 [(k0, .inr (1, [.int 0, .int 0, .int 0, .int 0, .ref q1, .ref q2, .ref q3, .ref q4, .ref q5, .ref q6, .null, .null])), (q1, .inl (cI, 40, .inl (fun _ => 0))), (q2, .inl (cI, 40, .inl (fun _ => 0))), (q3, .inl (cI, 16, .inl (fun _ => 0))), (q4, .inl (cJ, 16, .inr (.inl (fun _ => 0)))), (q5, .inl (cJ, 12, .inr (.inl (fun _ => 0)))), (q6, .inl (cJ, 12, .inr (.inl (fun _ => 0)))), (q7, .inl (cI, 65, .inl (upd f6_54 55 31195)))] H := hP
  have hD : va_D A [(k0, .inr (1, [.int 0, .int 0, .int 0, .int 0, .ref q1, .ref q2, .ref q3, .ref q4, .ref q5, .ref q6, .null, .null])), (q1, .inl (cI, 40, .inl (fun _ => 0))), (q2, .inl (cI, 40, .inl (fun _ => 0))), (q3, .inl (cI, 16, .inl (fun _ => 0))), (q4, .inl (cJ, 16, .inr (.inl (fun _ => 0)))), (q5, .inl (cJ, 12, .inr (.inl (fun _ => 0)))), (q6, .inl (cJ, 12, .inr (.inl (fun _ => 0)))), (q7, .inl (cI, 65, .inl (upd f6_54 55 31195)))] := hD
  have ef6_55 : ∀ j, j < 56 → (upd f6_54 55 31195) j = cosT j := upd_tab (ef6_54) (by decide)
  generalize (upd f6_54 55 31195) = f6_55 at hP hD ef6_55
  refine lv_dup hx hb dX1_init_439 rfl ?_
  refine lv_bipush (v := 56) hx hb dX1_init_440 (by decide) ?_
  refine lv_sipush (v := 31521) hx hb dX1_init_442 (by decide) ?_
  refine va_iast hx hb hK hP hD hS 7 0 rfl rfl (by unfold vp_in; decide) dX1_init_445 (fun H locs hP hD hS => ?_)
  have hP : va_P D cls2 [(k0, .inr (1, [.int 0, .int 0, .int 0, .int 0, .ref q1, .ref q2, .ref q3, .ref q4, .ref q5, .ref q6, .null, .null])), (q1, .inl (cI, 40, .inl (fun _ => 0))), (q2, .inl (cI, 40, .inl (fun _ => 0))), (q3, .inl (cI, 16, .inl (fun _ => 0))), (q4, .inl (cJ, 16, .inr (.inl (fun _ => 0)))), (q5, .inl (cJ, 12, .inr (.inl (fun _ => 0)))), (q6, .inl (cJ, 12, .inr (.inl (fun _ => 0)))), (q7, .inl (cI, 65, .inl (upd f6_55 56 31521)))] H := hP
  have hD : va_D A [(k0, .inr (1, [.int 0, .int 0, .int 0, .int 0, .ref q1, .ref q2, .ref q3, .ref q4, .ref q5, .ref q6, .null, .null])), (q1, .inl (cI, 40, .inl (fun _ => 0))), (q2, .inl (cI, 40, .inl (fun _ => 0))), (q3, .inl (cI, 16, .inl (fun _ => 0))), (q4, .inl (cJ, 16, .inr (.inl (fun _ => 0)))), (q5, .inl (cJ, 12, .inr (.inl (fun _ => 0)))), (q6, .inl (cJ, 12, .inr (.inl (fun _ => 0)))), (q7, .inl (cI, 65, .inl (upd f6_55 56 31521)))] := hD
  have ef6_56 : ∀ j, j < 57 → (upd f6_55 56 31521) j = cosT j := upd_tab (ef6_55) (by decide)
  generalize (upd f6_55 56 31521) = f6_56 at hP hD ef6_56
  refine lv_dup hx hb dX1_init_446 rfl ?_
  refine lv_bipush (v := 57) hx hb dX1_init_447 (by decide) ?_
  refine lv_sipush (v := 31810) hx hb dX1_init_449 (by decide) ?_
  refine va_iast hx hb hK hP hD hS 7 0 rfl rfl (by unfold vp_in; decide) dX1_init_452 (fun H locs hP hD hS => ?_)
  have hP : va_P D cls2 [(k0, .inr (1, [.int 0, .int 0, .int 0, .int 0, .ref q1, .ref q2, .ref q3, .ref q4, .ref q5, .ref q6, .null, .null])), (q1, .inl (cI, 40, .inl (fun _ => 0))), (q2, .inl (cI, 40, .inl (fun _ => 0))), (q3, .inl (cI, 16, .inl (fun _ => 0))), (q4, .inl (cJ, 16, .inr (.inl (fun _ => 0)))), (q5, .inl (cJ, 12, .inr (.inl (fun _ => 0)))), (q6, .inl (cJ, 12, .inr (.inl (fun _ => 0)))), (q7, .inl (cI, 65, .inl (upd f6_56 57 31810)))] H := hP
  have hD : va_D A [(k0, .inr (1, [.int 0, .int 0, .int 0, .int 0, .ref q1, .ref q2, .ref q3, .ref q4, .ref q5, .ref q6, .null, .null])), (q1, .inl (cI, 40, .inl (fun _ => 0))), (q2, .inl (cI, 40, .inl (fun _ => 0))), (q3, .inl (cI, 16, .inl (fun _ => 0))), (q4, .inl (cJ, 16, .inr (.inl (fun _ => 0)))), (q5, .inl (cJ, 12, .inr (.inl (fun _ => 0)))), (q6, .inl (cJ, 12, .inr (.inl (fun _ => 0)))), (q7, .inl (cI, 65, .inl (upd f6_56 57 31810)))] := hD
  have ef6_57 : ∀ j, j < 58 → (upd f6_56 57 31810) j = cosT j := upd_tab (ef6_56) (by decide)
  generalize (upd f6_56 57 31810) = f6_57 at hP hD ef6_57
  refine lv_dup hx hb dX1_init_453 rfl ?_
  refine lv_bipush (v := 58) hx hb dX1_init_454 (by decide) ?_
  refine lv_sipush (v := 32063) hx hb dX1_init_456 (by decide) ?_
  refine va_iast hx hb hK hP hD hS 7 0 rfl rfl (by unfold vp_in; decide) dX1_init_459 (fun H locs hP hD hS => ?_)
  have hP : va_P D cls2 [(k0, .inr (1, [.int 0, .int 0, .int 0, .int 0, .ref q1, .ref q2, .ref q3, .ref q4, .ref q5, .ref q6, .null, .null])), (q1, .inl (cI, 40, .inl (fun _ => 0))), (q2, .inl (cI, 40, .inl (fun _ => 0))), (q3, .inl (cI, 16, .inl (fun _ => 0))), (q4, .inl (cJ, 16, .inr (.inl (fun _ => 0)))), (q5, .inl (cJ, 12, .inr (.inl (fun _ => 0)))), (q6, .inl (cJ, 12, .inr (.inl (fun _ => 0)))), (q7, .inl (cI, 65, .inl (upd f6_57 58 32063)))] H := hP
  have hD : va_D A [(k0, .inr (1, [.int 0, .int 0, .int 0, .int 0, .ref q1, .ref q2, .ref q3, .ref q4, .ref q5, .ref q6, .null, .null])), (q1, .inl (cI, 40, .inl (fun _ => 0))), (q2, .inl (cI, 40, .inl (fun _ => 0))), (q3, .inl (cI, 16, .inl (fun _ => 0))), (q4, .inl (cJ, 16, .inr (.inl (fun _ => 0)))), (q5, .inl (cJ, 12, .inr (.inl (fun _ => 0)))), (q6, .inl (cJ, 12, .inr (.inl (fun _ => 0)))), (q7, .inl (cI, 65, .inl (upd f6_57 58 32063)))] := hD
  have ef6_58 : ∀ j, j < 59 → (upd f6_57 58 32063) j = cosT j := upd_tab (ef6_57) (by decide)
  generalize (upd f6_57 58 32063) = f6_58 at hP hD ef6_58
  refine lv_dup hx hb dX1_init_460 rfl ?_
  refine lv_bipush (v := 59) hx hb dX1_init_461 (by decide) ?_
  refine lv_sipush (v := 32277) hx hb dX1_init_463 (by decide) ?_
  refine va_iast hx hb hK hP hD hS 7 0 rfl rfl (by unfold vp_in; decide) dX1_init_466 (fun H locs hP hD hS => ?_)
  have hP : va_P D cls2 [(k0, .inr (1, [.int 0, .int 0, .int 0, .int 0, .ref q1, .ref q2, .ref q3, .ref q4, .ref q5, .ref q6, .null, .null])), (q1, .inl (cI, 40, .inl (fun _ => 0))), (q2, .inl (cI, 40, .inl (fun _ => 0))), (q3, .inl (cI, 16, .inl (fun _ => 0))), (q4, .inl (cJ, 16, .inr (.inl (fun _ => 0)))), (q5, .inl (cJ, 12, .inr (.inl (fun _ => 0)))), (q6, .inl (cJ, 12, .inr (.inl (fun _ => 0)))), (q7, .inl (cI, 65, .inl (upd f6_58 59 32277)))] H := hP
  have hD : va_D A [(k0, .inr (1, [.int 0, .int 0, .int 0, .int 0, .ref q1, .ref q2, .ref q3, .ref q4, .ref q5, .ref q6, .null, .null])), (q1, .inl (cI, 40, .inl (fun _ => 0))), (q2, .inl (cI, 40, .inl (fun _ => 0))), (q3, .inl (cI, 16, .inl (fun _ => 0))), (q4, .inl (cJ, 16, .inr (.inl (fun _ => 0)))), (q5, .inl (cJ, 12, .inr (.inl (fun _ => 0)))), (q6, .inl (cJ, 12, .inr (.inl (fun _ => 0)))), (q7, .inl (cI, 65, .inl (upd f6_58 59 32277)))] := hD
  have ef6_59 : ∀ j, j < 60 → (upd f6_58 59 32277) j = cosT j := upd_tab (ef6_58) (by decide)
  generalize (upd f6_58 59 32277) = f6_59 at hP hD ef6_59
  refine lv_dup hx hb dX1_init_467 rfl ?_
  refine lv_bipush (v := 60) hx hb dX1_init_468 (by decide) ?_
  refine lv_sipush (v := 32453) hx hb dX1_init_470 (by decide) ?_
  refine va_iast hx hb hK hP hD hS 7 0 rfl rfl (by unfold vp_in; decide) dX1_init_473 (fun H locs hP hD hS => ?_)
  have hP : va_P D cls2 [(k0, .inr (1, [.int 0, .int 0, .int 0, .int 0, .ref q1, .ref q2, .ref q3, .ref q4, .ref q5, .ref q6, .null, .null])), (q1, .inl (cI, 40, .inl (fun _ => 0))), (q2, .inl (cI, 40, .inl (fun _ => 0))), (q3, .inl (cI, 16, .inl (fun _ => 0))), (q4, .inl (cJ, 16, .inr (.inl (fun _ => 0)))), (q5, .inl (cJ, 12, .inr (.inl (fun _ => 0)))), (q6, .inl (cJ, 12, .inr (.inl (fun _ => 0)))), (q7, .inl (cI, 65, .inl (upd f6_59 60 32453)))] H := hP
  have hD : va_D A [(k0, .inr (1, [.int 0, .int 0, .int 0, .int 0, .ref q1, .ref q2, .ref q3, .ref q4, .ref q5, .ref q6, .null, .null])), (q1, .inl (cI, 40, .inl (fun _ => 0))), (q2, .inl (cI, 40, .inl (fun _ => 0))), (q3, .inl (cI, 16, .inl (fun _ => 0))), (q4, .inl (cJ, 16, .inr (.inl (fun _ => 0)))), (q5, .inl (cJ, 12, .inr (.inl (fun _ => 0)))), (q6, .inl (cJ, 12, .inr (.inl (fun _ => 0)))), (q7, .inl (cI, 65, .inl (upd f6_59 60 32453)))] := hD
  have ef6_60 : ∀ j, j < 61 → (upd f6_59 60 32453) j = cosT j := upd_tab (ef6_59) (by decide)
  generalize (upd f6_59 60 32453) = f6_60 at hP hD ef6_60
  refine lv_dup hx hb dX1_init_474 rfl ?_
  refine lv_bipush (v := 61) hx hb dX1_init_475 (by decide) ?_
  refine lv_sipush (v := 32591) hx hb dX1_init_477 (by decide) ?_
  refine va_iast hx hb hK hP hD hS 7 0 rfl rfl (by unfold vp_in; decide) dX1_init_480 (fun H locs hP hD hS => ?_)
  have hP : va_P D cls2 [(k0, .inr (1, [.int 0, .int 0, .int 0, .int 0, .ref q1, .ref q2, .ref q3, .ref q4, .ref q5, .ref q6, .null, .null])), (q1, .inl (cI, 40, .inl (fun _ => 0))), (q2, .inl (cI, 40, .inl (fun _ => 0))), (q3, .inl (cI, 16, .inl (fun _ => 0))), (q4, .inl (cJ, 16, .inr (.inl (fun _ => 0)))), (q5, .inl (cJ, 12, .inr (.inl (fun _ => 0)))), (q6, .inl (cJ, 12, .inr (.inl (fun _ => 0)))), (q7, .inl (cI, 65, .inl (upd f6_60 61 32591)))] H := hP
  have hD : va_D A [(k0, .inr (1, [.int 0, .int 0, .int 0, .int 0, .ref q1, .ref q2, .ref q3, .ref q4, .ref q5, .ref q6, .null, .null])), (q1, .inl (cI, 40, .inl (fun _ => 0))), (q2, .inl (cI, 40, .inl (fun _ => 0))), (q3, .inl (cI, 16, .inl (fun _ => 0))), (q4, .inl (cJ, 16, .inr (.inl (fun _ => 0)))), (q5, .inl (cJ, 12, .inr (.inl (fun _ => 0)))), (q6, .inl (cJ, 12, .inr (.inl (fun _ => 0)))), (q7, .inl (cI, 65, .inl (upd f6_60 61 32591)))] := hD
  have ef6_61 : ∀ j, j < 62 → (upd f6_60 61 32591) j = cosT j := upd_tab (ef6_60) (by decide)
  generalize (upd f6_60 61 32591) = f6_61 at hP hD ef6_61
  refine lv_dup hx hb dX1_init_481 rfl ?_
  refine lv_bipush (v := 62) hx hb dX1_init_482 (by decide) ?_
  refine lv_sipush (v := 32689) hx hb dX1_init_484 (by decide) ?_
  refine va_iast hx hb hK hP hD hS 7 0 rfl rfl (by unfold vp_in; decide) dX1_init_487 (fun H locs hP hD hS => ?_)
  have hP : va_P D cls2 [(k0, .inr (1, [.int 0, .int 0, .int 0, .int 0, .ref q1, .ref q2, .ref q3, .ref q4, .ref q5, .ref q6, .null, .null])), (q1, .inl (cI, 40, .inl (fun _ => 0))), (q2, .inl (cI, 40, .inl (fun _ => 0))), (q3, .inl (cI, 16, .inl (fun _ => 0))), (q4, .inl (cJ, 16, .inr (.inl (fun _ => 0)))), (q5, .inl (cJ, 12, .inr (.inl (fun _ => 0)))), (q6, .inl (cJ, 12, .inr (.inl (fun _ => 0)))), (q7, .inl (cI, 65, .inl (upd f6_61 62 32689)))] H := hP
  have hD : va_D A [(k0, .inr (1, [.int 0, .int 0, .int 0, .int 0, .ref q1, .ref q2, .ref q3, .ref q4, .ref q5, .ref q6, .null, .null])), (q1, .inl (cI, 40, .inl (fun _ => 0))), (q2, .inl (cI, 40, .inl (fun _ => 0))), (q3, .inl (cI, 16, .inl (fun _ => 0))), (q4, .inl (cJ, 16, .inr (.inl (fun _ => 0)))), (q5, .inl (cJ, 12, .inr (.inl (fun _ => 0)))), (q6, .inl (cJ, 12, .inr (.inl (fun _ => 0)))), (q7, .inl (cI, 65, .inl (upd f6_61 62 32689)))] := hD
  have ef6_62 : ∀ j, j < 63 → (upd f6_61 62 32689) j = cosT j := upd_tab (ef6_61) (by decide)
  generalize (upd f6_61 62 32689) = f6_62 at hP hD ef6_62
  refine lv_dup hx hb dX1_init_488 rfl ?_
  refine lv_bipush (v := 63) hx hb dX1_init_489 (by decide) ?_
  refine lv_sipush (v := 32748) hx hb dX1_init_491 (by decide) ?_
  refine va_iast hx hb hK hP hD hS 7 0 rfl rfl (by unfold vp_in; decide) dX1_init_494 (fun H locs hP hD hS => ?_)
  have hP : va_P D cls2 [(k0, .inr (1, [.int 0, .int 0, .int 0, .int 0, .ref q1, .ref q2, .ref q3, .ref q4, .ref q5, .ref q6, .null, .null])), (q1, .inl (cI, 40, .inl (fun _ => 0))), (q2, .inl (cI, 40, .inl (fun _ => 0))), (q3, .inl (cI, 16, .inl (fun _ => 0))), (q4, .inl (cJ, 16, .inr (.inl (fun _ => 0)))), (q5, .inl (cJ, 12, .inr (.inl (fun _ => 0)))), (q6, .inl (cJ, 12, .inr (.inl (fun _ => 0)))), (q7, .inl (cI, 65, .inl (upd f6_62 63 32748)))] H := hP
  have hD : va_D A [(k0, .inr (1, [.int 0, .int 0, .int 0, .int 0, .ref q1, .ref q2, .ref q3, .ref q4, .ref q5, .ref q6, .null, .null])), (q1, .inl (cI, 40, .inl (fun _ => 0))), (q2, .inl (cI, 40, .inl (fun _ => 0))), (q3, .inl (cI, 16, .inl (fun _ => 0))), (q4, .inl (cJ, 16, .inr (.inl (fun _ => 0)))), (q5, .inl (cJ, 12, .inr (.inl (fun _ => 0)))), (q6, .inl (cJ, 12, .inr (.inl (fun _ => 0)))), (q7, .inl (cI, 65, .inl (upd f6_62 63 32748)))] := hD
  have ef6_63 : ∀ j, j < 64 → (upd f6_62 63 32748) j = cosT j := upd_tab (ef6_62) (by decide)
  generalize (upd f6_62 63 32748) = f6_63 at hP hD ef6_63
  refine lv_dup hx hb dX1_init_495 rfl ?_
  refine lv_bipush (v := 64) hx hb dX1_init_496 (by decide) ?_
  refine lv_ldc (v := 32768) hx hb hown (hts (.constant RX1 29 (32768)) (by decide +kernel)) dX1_init_498 ?_
  refine va_iast hx hb hK hP hD hS 7 0 rfl rfl (by unfold vp_in; decide) dX1_init_500 (fun H locs hP hD hS => ?_)
  have hP : va_P D cls2 [(k0, .inr (1, [.int 0, .int 0, .int 0, .int 0, .ref q1, .ref q2, .ref q3, .ref q4, .ref q5, .ref q6, .null, .null])), (q1, .inl (cI, 40, .inl (fun _ => 0))), (q2, .inl (cI, 40, .inl (fun _ => 0))), (q3, .inl (cI, 16, .inl (fun _ => 0))), (q4, .inl (cJ, 16, .inr (.inl (fun _ => 0)))), (q5, .inl (cJ, 12, .inr (.inl (fun _ => 0)))), (q6, .inl (cJ, 12, .inr (.inl (fun _ => 0)))), (q7, .inl (cI, 65, .inl (upd f6_63 64 32768)))] H := hP
  have hD : va_D A [(k0, .inr (1, [.int 0, .int 0, .int 0, .int 0, .ref q1, .ref q2, .ref q3, .ref q4, .ref q5, .ref q6, .null, .null])), (q1, .inl (cI, 40, .inl (fun _ => 0))), (q2, .inl (cI, 40, .inl (fun _ => 0))), (q3, .inl (cI, 16, .inl (fun _ => 0))), (q4, .inl (cJ, 16, .inr (.inl (fun _ => 0)))), (q5, .inl (cJ, 12, .inr (.inl (fun _ => 0)))), (q6, .inl (cJ, 12, .inr (.inl (fun _ => 0)))), (q7, .inl (cI, 65, .inl (upd f6_63 64 32768)))] := hD
  have ef6_64 : ∀ j, j < 65 → (upd f6_63 64 32768) j = cosT j := upd_tab (ef6_63) (by decide)
  generalize (upd f6_63 64 32768) = f6_64 at hP hD ef6_64
  refine va_putF (D := D) (ci := 1) (v := .ref q7) (ty := (.array .int)) (C := RX1) (T := TX1) (N := 12) hx hb hts hin tyX1 tyX1_ok nmX1 hown hK hP hD hS 0 rfl rfl 10 (by decide) (hts (.fieldLink RX1 30 "TideDepthsModel" "cosines" "[I") (by decide +kernel)) (fun _ h9 => h9) rfl hinit rfl (by decide +kernel) rfl rfl (Nat.le_of_ble_eq_true rfl) dX1_init_501 (fun H locs hP hD hS => ?_)
  have hP : va_P D cls2 [(k0, .inr (1, [.int 0, .int 0, .int 0, .int 0, .ref q1, .ref q2, .ref q3, .ref q4, .ref q5, .ref q6, .ref q7, .null])), (q1, .inl (cI, 40, .inl (fun _ => 0))), (q2, .inl (cI, 40, .inl (fun _ => 0))), (q3, .inl (cI, 16, .inl (fun _ => 0))), (q4, .inl (cJ, 16, .inr (.inl (fun _ => 0)))), (q5, .inl (cJ, 12, .inr (.inl (fun _ => 0)))), (q6, .inl (cJ, 12, .inr (.inl (fun _ => 0)))), (q7, .inl (cI, 65, .inl f6_64))] H := hP
  have hD : va_D A [(k0, .inr (1, [.int 0, .int 0, .int 0, .int 0, .ref q1, .ref q2, .ref q3, .ref q4, .ref q5, .ref q6, .ref q7, .null])), (q1, .inl (cI, 40, .inl (fun _ => 0))), (q2, .inl (cI, 40, .inl (fun _ => 0))), (q3, .inl (cI, 16, .inl (fun _ => 0))), (q4, .inl (cJ, 16, .inr (.inl (fun _ => 0)))), (q5, .inl (cJ, 12, .inr (.inl (fun _ => 0)))), (q6, .inl (cJ, 12, .inr (.inl (fun _ => 0)))), (q7, .inl (cI, 65, .inl f6_64))] := hD
  refine lv_aload_n hx hb dX1_init_504 rfl (lv_at hl 0 rfl) ?_
  refine lv_bipush (v := 7) hx hb dX1_init_505 (by decide) ?_
  refine va_newa (atype := .int) (ty := .int) (a0 := (7, .inl (fun _ => 0))) (N' := 7) hx hb (hts (.arrayClass .int) (by decide +kernel)) rfl hK hP hD hS hA (fun _ => rfl) (by decide) (by decide) (Nat.le_of_ble_eq_true rfl) (Nat.le_of_ble_eq_true rfl) (Nat.le_of_ble_eq_true rfl) dX1_init_507 (fun q8 cA H hK5 hP hD hS => ?_)
  have eA : cA = cI := vk_eqI hK5 (i := 2) (j := 0) rfl rfl
  subst cA
  clear hK5
  have hP : va_P D cls2 [(k0, .inr (1, [.int 0, .int 0, .int 0, .int 0, .ref q1, .ref q2, .ref q3, .ref q4, .ref q5, .ref q6, .ref q7, .null])), (q1, .inl (cI, 40, .inl (fun _ => 0))), (q2, .inl (cI, 40, .inl (fun _ => 0))), (q3, .inl (cI, 16, .inl (fun _ => 0))), (q4, .inl (cJ, 16, .inr (.inl (fun _ => 0)))), (q5, .inl (cJ, 12, .inr (.inl (fun _ => 0)))), (q6, .inl (cJ, 12, .inr (.inl (fun _ => 0)))), (q7, .inl (cI, 65, .inl f6_64)), (q8, .inl (cI, 7, .inl (fun _ => 0)))] H := hP
  have hD : va_D A [(k0, .inr (1, [.int 0, .int 0, .int 0, .int 0, .ref q1, .ref q2, .ref q3, .ref q4, .ref q5, .ref q6, .ref q7, .null])), (q1, .inl (cI, 40, .inl (fun _ => 0))), (q2, .inl (cI, 40, .inl (fun _ => 0))), (q3, .inl (cI, 16, .inl (fun _ => 0))), (q4, .inl (cJ, 16, .inr (.inl (fun _ => 0)))), (q5, .inl (cJ, 12, .inr (.inl (fun _ => 0)))), (q6, .inl (cJ, 12, .inr (.inl (fun _ => 0)))), (q7, .inl (cI, 65, .inl f6_64)), (q8, .inl (cI, 7, .inl (fun _ => 0)))] := hD
  refine lv_dup hx hb dX1_init_509 rfl ?_
  refine lv_iconst (v := 0) hx hb dX1_init_510 (by decide) ?_
  refine lv_iconst (v := 0) hx hb dX1_init_511 (by decide) ?_
  refine va_iast hx hb hK hP hD hS 8 0 rfl rfl (by unfold vp_in; decide) dX1_init_512 (fun H locs hP hD hS => ?_)
  have hP : va_P D cls2 [(k0, .inr (1, [.int 0, .int 0, .int 0, .int 0, .ref q1, .ref q2, .ref q3, .ref q4, .ref q5, .ref q6, .ref q7, .null])), (q1, .inl (cI, 40, .inl (fun _ => 0))), (q2, .inl (cI, 40, .inl (fun _ => 0))), (q3, .inl (cI, 16, .inl (fun _ => 0))), (q4, .inl (cJ, 16, .inr (.inl (fun _ => 0)))), (q5, .inl (cJ, 12, .inr (.inl (fun _ => 0)))), (q6, .inl (cJ, 12, .inr (.inl (fun _ => 0)))), (q7, .inl (cI, 65, .inl f6_64)), (q8, .inl (cI, 7, .inl (upd (fun _ => 0) 0 0)))] H := hP
  have hD : va_D A [(k0, .inr (1, [.int 0, .int 0, .int 0, .int 0, .ref q1, .ref q2, .ref q3, .ref q4, .ref q5, .ref q6, .ref q7, .null])), (q1, .inl (cI, 40, .inl (fun _ => 0))), (q2, .inl (cI, 40, .inl (fun _ => 0))), (q3, .inl (cI, 16, .inl (fun _ => 0))), (q4, .inl (cJ, 16, .inr (.inl (fun _ => 0)))), (q5, .inl (cJ, 12, .inr (.inl (fun _ => 0)))), (q6, .inl (cJ, 12, .inr (.inl (fun _ => 0)))), (q7, .inl (cI, 65, .inl f6_64)), (q8, .inl (cI, 7, .inl (upd (fun _ => 0) 0 0)))] := hD
  have ef7_0 : ∀ j, j < 1 → (upd (fun _ => 0) 0 0) j = sqT j := upd_tab (fun j h => absurd h (Nat.not_lt_zero j)) (by decide)
  generalize (upd (fun _ => 0) 0 0) = f7_0 at hP hD ef7_0
  refine lv_dup hx hb dX1_init_513 rfl ?_
  refine lv_iconst (v := 1) hx hb dX1_init_514 (by decide) ?_
  refine lv_iconst (v := 3) hx hb dX1_init_515 (by decide) ?_
  refine va_iast hx hb hK hP hD hS 8 0 rfl rfl (by unfold vp_in; decide) dX1_init_516 (fun H locs hP hD hS => ?_)
  have hP : va_P D cls2 [(k0, .inr (1, [.int 0, .int 0, .int 0, .int 0, .ref q1, .ref q2, .ref q3, .ref q4, .ref q5, .ref q6, .ref q7, .null])), (q1, .inl (cI, 40, .inl (fun _ => 0))), (q2, .inl (cI, 40, .inl (fun _ => 0))), (q3, .inl (cI, 16, .inl (fun _ => 0))), (q4, .inl (cJ, 16, .inr (.inl (fun _ => 0)))), (q5, .inl (cJ, 12, .inr (.inl (fun _ => 0)))), (q6, .inl (cJ, 12, .inr (.inl (fun _ => 0)))), (q7, .inl (cI, 65, .inl f6_64)), (q8, .inl (cI, 7, .inl (upd f7_0 1 3)))] H := hP
  have hD : va_D A [(k0, .inr (1, [.int 0, .int 0, .int 0, .int 0, .ref q1, .ref q2, .ref q3, .ref q4, .ref q5, .ref q6, .ref q7, .null])), (q1, .inl (cI, 40, .inl (fun _ => 0))), (q2, .inl (cI, 40, .inl (fun _ => 0))), (q3, .inl (cI, 16, .inl (fun _ => 0))), (q4, .inl (cJ, 16, .inr (.inl (fun _ => 0)))), (q5, .inl (cJ, 12, .inr (.inl (fun _ => 0)))), (q6, .inl (cJ, 12, .inr (.inl (fun _ => 0)))), (q7, .inl (cI, 65, .inl f6_64)), (q8, .inl (cI, 7, .inl (upd f7_0 1 3)))] := hD
  have ef7_1 : ∀ j, j < 2 → (upd f7_0 1 3) j = sqT j := upd_tab (ef7_0) (by decide)
  generalize (upd f7_0 1 3) = f7_1 at hP hD ef7_1
  refine lv_dup hx hb dX1_init_517 rfl ?_
  refine lv_iconst (v := 2) hx hb dX1_init_518 (by decide) ?_
  refine lv_bipush (v := 11) hx hb dX1_init_519 (by decide) ?_
  refine va_iast hx hb hK hP hD hS 8 0 rfl rfl (by unfold vp_in; decide) dX1_init_521 (fun H locs hP hD hS => ?_)
  have hP : va_P D cls2 [(k0, .inr (1, [.int 0, .int 0, .int 0, .int 0, .ref q1, .ref q2, .ref q3, .ref q4, .ref q5, .ref q6, .ref q7, .null])), (q1, .inl (cI, 40, .inl (fun _ => 0))), (q2, .inl (cI, 40, .inl (fun _ => 0))), (q3, .inl (cI, 16, .inl (fun _ => 0))), (q4, .inl (cJ, 16, .inr (.inl (fun _ => 0)))), (q5, .inl (cJ, 12, .inr (.inl (fun _ => 0)))), (q6, .inl (cJ, 12, .inr (.inl (fun _ => 0)))), (q7, .inl (cI, 65, .inl f6_64)), (q8, .inl (cI, 7, .inl (upd f7_1 2 11)))] H := hP
  have hD : va_D A [(k0, .inr (1, [.int 0, .int 0, .int 0, .int 0, .ref q1, .ref q2, .ref q3, .ref q4, .ref q5, .ref q6, .ref q7, .null])), (q1, .inl (cI, 40, .inl (fun _ => 0))), (q2, .inl (cI, 40, .inl (fun _ => 0))), (q3, .inl (cI, 16, .inl (fun _ => 0))), (q4, .inl (cJ, 16, .inr (.inl (fun _ => 0)))), (q5, .inl (cJ, 12, .inr (.inl (fun _ => 0)))), (q6, .inl (cJ, 12, .inr (.inl (fun _ => 0)))), (q7, .inl (cI, 65, .inl f6_64)), (q8, .inl (cI, 7, .inl (upd f7_1 2 11)))] := hD
  have ef7_2 : ∀ j, j < 3 → (upd f7_1 2 11) j = sqT j := upd_tab (ef7_1) (by decide)
  generalize (upd f7_1 2 11) = f7_2 at hP hD ef7_2
  refine lv_dup hx hb dX1_init_522 rfl ?_
  refine lv_iconst (v := 3) hx hb dX1_init_523 (by decide) ?_
  refine lv_bipush (v := 24) hx hb dX1_init_524 (by decide) ?_
  refine va_iast hx hb hK hP hD hS 8 0 rfl rfl (by unfold vp_in; decide) dX1_init_526 (fun H locs hP hD hS => ?_)
  have hP : va_P D cls2 [(k0, .inr (1, [.int 0, .int 0, .int 0, .int 0, .ref q1, .ref q2, .ref q3, .ref q4, .ref q5, .ref q6, .ref q7, .null])), (q1, .inl (cI, 40, .inl (fun _ => 0))), (q2, .inl (cI, 40, .inl (fun _ => 0))), (q3, .inl (cI, 16, .inl (fun _ => 0))), (q4, .inl (cJ, 16, .inr (.inl (fun _ => 0)))), (q5, .inl (cJ, 12, .inr (.inl (fun _ => 0)))), (q6, .inl (cJ, 12, .inr (.inl (fun _ => 0)))), (q7, .inl (cI, 65, .inl f6_64)), (q8, .inl (cI, 7, .inl (upd f7_2 3 24)))] H := hP
  have hD : va_D A [(k0, .inr (1, [.int 0, .int 0, .int 0, .int 0, .ref q1, .ref q2, .ref q3, .ref q4, .ref q5, .ref q6, .ref q7, .null])), (q1, .inl (cI, 40, .inl (fun _ => 0))), (q2, .inl (cI, 40, .inl (fun _ => 0))), (q3, .inl (cI, 16, .inl (fun _ => 0))), (q4, .inl (cJ, 16, .inr (.inl (fun _ => 0)))), (q5, .inl (cJ, 12, .inr (.inl (fun _ => 0)))), (q6, .inl (cJ, 12, .inr (.inl (fun _ => 0)))), (q7, .inl (cI, 65, .inl f6_64)), (q8, .inl (cI, 7, .inl (upd f7_2 3 24)))] := hD
  have ef7_3 : ∀ j, j < 4 → (upd f7_2 3 24) j = sqT j := upd_tab (ef7_2) (by decide)
  generalize (upd f7_2 3 24) = f7_3 at hP hD ef7_3
  refine lv_dup hx hb dX1_init_527 rfl ?_
  refine lv_iconst (v := 4) hx hb dX1_init_528 (by decide) ?_
  refine lv_bipush (v := 43) hx hb dX1_init_529 (by decide) ?_
  refine va_iast hx hb hK hP hD hS 8 0 rfl rfl (by unfold vp_in; decide) dX1_init_531 (fun H locs hP hD hS => ?_)
  have hP : va_P D cls2 [(k0, .inr (1, [.int 0, .int 0, .int 0, .int 0, .ref q1, .ref q2, .ref q3, .ref q4, .ref q5, .ref q6, .ref q7, .null])), (q1, .inl (cI, 40, .inl (fun _ => 0))), (q2, .inl (cI, 40, .inl (fun _ => 0))), (q3, .inl (cI, 16, .inl (fun _ => 0))), (q4, .inl (cJ, 16, .inr (.inl (fun _ => 0)))), (q5, .inl (cJ, 12, .inr (.inl (fun _ => 0)))), (q6, .inl (cJ, 12, .inr (.inl (fun _ => 0)))), (q7, .inl (cI, 65, .inl f6_64)), (q8, .inl (cI, 7, .inl (upd f7_3 4 43)))] H := hP
  have hD : va_D A [(k0, .inr (1, [.int 0, .int 0, .int 0, .int 0, .ref q1, .ref q2, .ref q3, .ref q4, .ref q5, .ref q6, .ref q7, .null])), (q1, .inl (cI, 40, .inl (fun _ => 0))), (q2, .inl (cI, 40, .inl (fun _ => 0))), (q3, .inl (cI, 16, .inl (fun _ => 0))), (q4, .inl (cJ, 16, .inr (.inl (fun _ => 0)))), (q5, .inl (cJ, 12, .inr (.inl (fun _ => 0)))), (q6, .inl (cJ, 12, .inr (.inl (fun _ => 0)))), (q7, .inl (cI, 65, .inl f6_64)), (q8, .inl (cI, 7, .inl (upd f7_3 4 43)))] := hD
  have ef7_4 : ∀ j, j < 5 → (upd f7_3 4 43) j = sqT j := upd_tab (ef7_3) (by decide)
  generalize (upd f7_3 4 43) = f7_4 at hP hD ef7_4
  refine lv_dup hx hb dX1_init_532 rfl ?_
  refine lv_iconst (v := 5) hx hb dX1_init_533 (by decide) ?_
  refine lv_bipush (v := 68) hx hb dX1_init_534 (by decide) ?_
  refine va_iast hx hb hK hP hD hS 8 0 rfl rfl (by unfold vp_in; decide) dX1_init_536 (fun H locs hP hD hS => ?_)
  have hP : va_P D cls2 [(k0, .inr (1, [.int 0, .int 0, .int 0, .int 0, .ref q1, .ref q2, .ref q3, .ref q4, .ref q5, .ref q6, .ref q7, .null])), (q1, .inl (cI, 40, .inl (fun _ => 0))), (q2, .inl (cI, 40, .inl (fun _ => 0))), (q3, .inl (cI, 16, .inl (fun _ => 0))), (q4, .inl (cJ, 16, .inr (.inl (fun _ => 0)))), (q5, .inl (cJ, 12, .inr (.inl (fun _ => 0)))), (q6, .inl (cJ, 12, .inr (.inl (fun _ => 0)))), (q7, .inl (cI, 65, .inl f6_64)), (q8, .inl (cI, 7, .inl (upd f7_4 5 68)))] H := hP
  have hD : va_D A [(k0, .inr (1, [.int 0, .int 0, .int 0, .int 0, .ref q1, .ref q2, .ref q3, .ref q4, .ref q5, .ref q6, .ref q7, .null])), (q1, .inl (cI, 40, .inl (fun _ => 0))), (q2, .inl (cI, 40, .inl (fun _ => 0))), (q3, .inl (cI, 16, .inl (fun _ => 0))), (q4, .inl (cJ, 16, .inr (.inl (fun _ => 0)))), (q5, .inl (cJ, 12, .inr (.inl (fun _ => 0)))), (q6, .inl (cJ, 12, .inr (.inl (fun _ => 0)))), (q7, .inl (cI, 65, .inl f6_64)), (q8, .inl (cI, 7, .inl (upd f7_4 5 68)))] := hD
  have ef7_5 : ∀ j, j < 6 → (upd f7_4 5 68) j = sqT j := upd_tab (ef7_4) (by decide)
  generalize (upd f7_4 5 68) = f7_5 at hP hD ef7_5
  refine lv_dup hx hb dX1_init_537 rfl ?_
  refine lv_bipush (v := 6) hx hb dX1_init_538 (by decide) ?_
  refine lv_bipush (v := 100) hx hb dX1_init_540 (by decide) ?_
  refine va_iast hx hb hK hP hD hS 8 0 rfl rfl (by unfold vp_in; decide) dX1_init_542 (fun H locs hP hD hS => ?_)
  have hP : va_P D cls2 [(k0, .inr (1, [.int 0, .int 0, .int 0, .int 0, .ref q1, .ref q2, .ref q3, .ref q4, .ref q5, .ref q6, .ref q7, .null])), (q1, .inl (cI, 40, .inl (fun _ => 0))), (q2, .inl (cI, 40, .inl (fun _ => 0))), (q3, .inl (cI, 16, .inl (fun _ => 0))), (q4, .inl (cJ, 16, .inr (.inl (fun _ => 0)))), (q5, .inl (cJ, 12, .inr (.inl (fun _ => 0)))), (q6, .inl (cJ, 12, .inr (.inl (fun _ => 0)))), (q7, .inl (cI, 65, .inl f6_64)), (q8, .inl (cI, 7, .inl (upd f7_5 6 100)))] H := hP
  have hD : va_D A [(k0, .inr (1, [.int 0, .int 0, .int 0, .int 0, .ref q1, .ref q2, .ref q3, .ref q4, .ref q5, .ref q6, .ref q7, .null])), (q1, .inl (cI, 40, .inl (fun _ => 0))), (q2, .inl (cI, 40, .inl (fun _ => 0))), (q3, .inl (cI, 16, .inl (fun _ => 0))), (q4, .inl (cJ, 16, .inr (.inl (fun _ => 0)))), (q5, .inl (cJ, 12, .inr (.inl (fun _ => 0)))), (q6, .inl (cJ, 12, .inr (.inl (fun _ => 0)))), (q7, .inl (cI, 65, .inl f6_64)), (q8, .inl (cI, 7, .inl (upd f7_5 6 100)))] := hD
  have ef7_6 : ∀ j, j < 7 → (upd f7_5 6 100) j = sqT j := upd_tab (ef7_5) (by decide)
  generalize (upd f7_5 6 100) = f7_6 at hP hD ef7_6
  refine va_putF (D := D) (ci := 1) (v := .ref q8) (ty := (.array .int)) (C := RX1) (T := TX1) (N := 12) hx hb hts hin tyX1 tyX1_ok nmX1 hown hK hP hD hS 0 rfl rfl 11 (by decide) (hts (.fieldLink RX1 33 "TideDepthsModel" "squats" "[I") (by decide +kernel)) (fun _ h9 => h9) rfl hinit rfl (by decide +kernel) rfl rfl (Nat.le_of_ble_eq_true rfl) dX1_init_543 (fun H locs hP hD hS => ?_)
  have hP : va_P D cls2 [(k0, .inr (1, [.int 0, .int 0, .int 0, .int 0, .ref q1, .ref q2, .ref q3, .ref q4, .ref q5, .ref q6, .ref q7, .ref q8])), (q1, .inl (cI, 40, .inl (fun _ => 0))), (q2, .inl (cI, 40, .inl (fun _ => 0))), (q3, .inl (cI, 16, .inl (fun _ => 0))), (q4, .inl (cJ, 16, .inr (.inl (fun _ => 0)))), (q5, .inl (cJ, 12, .inr (.inl (fun _ => 0)))), (q6, .inl (cJ, 12, .inr (.inl (fun _ => 0)))), (q7, .inl (cI, 65, .inl f6_64)), (q8, .inl (cI, 7, .inl f7_6))] H := hP
  have hD : va_D A [(k0, .inr (1, [.int 0, .int 0, .int 0, .int 0, .ref q1, .ref q2, .ref q3, .ref q4, .ref q5, .ref q6, .ref q7, .ref q8])), (q1, .inl (cI, 40, .inl (fun _ => 0))), (q2, .inl (cI, 40, .inl (fun _ => 0))), (q3, .inl (cI, 16, .inl (fun _ => 0))), (q4, .inl (cJ, 16, .inr (.inl (fun _ => 0)))), (q5, .inl (cJ, 12, .inr (.inl (fun _ => 0)))), (q6, .inl (cJ, 12, .inr (.inl (fun _ => 0)))), (q7, .inl (cI, 65, .inl f6_64)), (q8, .inl (cI, 7, .inl f7_6))] := hD
  exact W.vret hx hb hr (fun t ht hWm => ⟨⟨(q1, q2, q3, q4, q5, q6, q7, q8, (0, 0, 0, 0, (fun _ => 0), (fun _ => 0), (fun _ => 0), (fun _ => 0), (fun _ => 0), (fun _ => 0), f6_64, f7_6)), rfl, ⟨rfl, rfl, rfl, rfl, ef6_64, ef7_6⟩, by rw [ht]; exact hP, va_K.moved hWm.alike hK, hD⟩, hS.F ht⟩) hS.2.2 dX1_init_546
