def wX0_changeWithin_L10 (post : Int64 → Prop) (u : XS) (v1 : Int64) (v7 : Int32) : Nat → Int64 → Int64 → Int32 → Prop
  | 0, _, _, _ => False
  | n + 1, v8, v10, v12 => ((20000 < v12 → (post v10)) ∧ (¬ 20000 < v12 → (((v10 - v8) ≤ 1 → (post v10)) ∧ (¬ (v10 - v8) ≤ 1 → (wX0_heightAt (fun r3 => ((r3 < v1 → ((0 = v7 → (wX0_changeWithin_L10 post u v1 v7 n v8 ((v8 + v10) / 2) (v12 + 1))) ∧ (¬ 0 = v7 → (wX0_changeWithin_L10 post u v1 v7 n ((v8 + v10) / 2) v10 (v12 + 1))))) ∧ (¬ r3 < v1 → ((1 = v7 → (wX0_changeWithin_L10 post u v1 v7 n v8 ((v8 + v10) / 2) (v12 + 1))) ∧ (¬ 1 = v7 → (wX0_changeWithin_L10 post u v1 v7 n ((v8 + v10) / 2) v10 (v12 + 1))))))) u ((v8 + v10) / 2))))))
def wX0_changeWithin (post : Int64 → Prop) (u : XS) (v1 : Int64) (v3 : Int64) (v5 : Int64) (v7 : Int32) : Prop := (∃ n7 : Nat, wX0_changeWithin_L10 post u v1 v7 n7 v3 v5 0)
set_option maxHeartbeats 4000000 in
set_option maxRecDepth 100000 in
theorem kX0_changeWithin_L10 {p : Program} {l : Launch} {e : Env} {s : State} {m : MethodId} {args : Array Value} {below : List Frame} {meth : Method} {c : Code} {D : va_G} {cJ : ClassId} {h0 a1 a2 a3 a4 a5 a6 tC tS : Nat} {u : XS} {post : Int64 → Prop} (hx : p.tables.exec = Jvm.exec) (hb : c.code = cX0_changeWithin) (hr : meth.sig.returnType = (some .long)) (hml : c.maxLocals = 15) (hown : s.vm.findClass RX0 = some m.cls) (hlocks : meth.locks = false) (hts : ∀ w ∈ wsX0_changeWithin, w.before args s = true) (hin : ∀ w ∈ u_ws RX0 TX0 9, w ∈ wsX0_changeWithin) (hW : XW D cJ h0 a1 a2 a3 a4 a5 a6 tC tS u s s.heap) (v1 : Int64) (v3 : Int64) (v5 : Int64) (v7 : Int32) : ∀ (n : Nat) (v8 : Int64) (v10 : Int64) (v12 : Int32) (ls : Array Slot), lv_has ls 15 [(0, .ref h0), (1, .long v1), (3, .long v3), (5, .long v5), (7, .int v7), (8, .long v8), (10, .long v10), (12, .int v12)] → wX0_changeWithin_L10 post u v1 v7 n v8 v10 v12 → W p l e ({ frames := 3, cells := 0, slots := 0, locals := 77 } : Room) s m args below meth c s.heap [] 0 0 (MQ below (vp_Sl post) args s 0 0 nA) (F0 m 10 ls []) := by
  intro n
  induction n with
  | zero =>
    intro v8 v10 v12 ls hl hw
    exact hw.elim
  | succ n ih =>
    intro v8 v10 v12 ls hl hw
    rw [wX0_changeWithin_L10] at hw
    refine lv_iload hx hb dX0_changeWithin_10 (lv_at hl 7 rfl) ?_
    refine lv_sipush (v := 20000) hx hb dX0_changeWithin_12 (by decide) ?_
    refine lv_icmp_gt (tgt := 77) hx hb dX0_changeWithin_15 (by decide) (fun c1 => ?_) (fun c1 => ?_)
    · have hw := hw.1 c1
      refine lv_lload hx hb dX0_changeWithin_77 (lv_at hl 6 rfl) ?_
      exact W.lret (v := v10) hx hb hr (fun t ht hWm => ⟨_, rfl, hw, ht⟩) t_nil dX0_changeWithin_79
    · have hw := hw.2 c1
      refine lv_lload hx hb dX0_changeWithin_18 (lv_at hl 6 rfl) ?_
      refine lv_lload hx hb dX0_changeWithin_20 (lv_at hl 5 rfl) ?_
      refine lv_lsub hx hb dX0_changeWithin_22 ?_
      refine lv_lconst (v := 1) hx hb dX0_changeWithin_23 (by decide) ?_
      refine bl_le (tgt := 77) hx hb dX0_changeWithin_24 dX0_changeWithin_25 (by decide) (fun c2 => ?_) (fun c2 => ?_)
      · have hw := hw.1 c2
        refine lv_lload hx hb dX0_changeWithin_77 (lv_at hl 6 rfl) ?_
        exact W.lret (v := v10) hx hb hr (fun t ht hWm => ⟨_, rfl, hw, ht⟩) t_nil dX0_changeWithin_79
      · have hw := hw.2 c2
        refine lv_lload hx hb dX0_changeWithin_28 (lv_at hl 5 rfl) ?_
        refine lv_lload hx hb dX0_changeWithin_30 (lv_at hl 6 rfl) ?_
        refine lv_ladd hx hb dX0_changeWithin_32 ?_
        refine lv_ldc2 (v := 2) hx hb hown (hts (.constantLong RX0 213 (2)) (by decide +kernel)) dX0_changeWithin_33 ?_
        refine lv_ldiv hx hb dX0_changeWithin_36 (by decide) ?_
        refine lv_lstore (lv' := [(13, .long ((v8 + v10) / 2)), (0, .ref h0), (1, .long v1), (3, .long v3), (5, .long v5), (7, .int v7), (8, .long v8), (10, .long v10), (12, .int v12)]) hx hb dX0_changeWithin_37 hl (by decide) rfl (fun ls hl => ?_)
        refine lv_aload_n hx hb dX0_changeWithin_39 rfl (lv_at hl 1 rfl) ?_
        refine lv_lload hx hb dX0_changeWithin_40 (lv_at hl 0 rfl) ?_
        refine pc_Vl (As := [.long ((v8 + v10) / 2)]) (rest := []) ⟨hx, hb, hml, hown, hts⟩ (mX0_heightAt l D cJ h0 a1 a2 a3 a4 a5 a6 tC tS u ((v8 + v10) / 2) _) (cwV 1 hts gX0_changeWithin_X0_heightAt rfl rfl rfl (by decide +kernel) ⟨Nat.le_of_ble_eq_true rfl, Nat.le_of_ble_eq_true rfl⟩) (wX_rc hW) wX_bl (wX_in hW hw) rfl hl.1 rfl (Nat.le_of_ble_eq_true rfl) dX0_changeWithin_42 ⟨Nat.le_of_ble_eq_true rfl, Nat.le_of_ble_eq_true rfl⟩ (fun r3 hw => ?_)
        refine lv_lload_n hx hb dX0_changeWithin_45 rfl (lv_at hl 2 rfl) ?_
        refine bl_lt (tgt := 54) hx hb dX0_changeWithin_46 dX0_changeWithin_47 (by decide) (fun c4 => ?_) (fun c4 => ?_)
        · have hw := hw.1 c4
          refine lv_iconst (v := 0) hx hb dX0_changeWithin_54 (by decide) ?_
          refine lv_iload hx hb dX0_changeWithin_55 (lv_at hl 5 rfl) ?_
          refine lv_icmp_ne (tgt := 67) hx hb dX0_changeWithin_57 (by decide) (fun c5 => ?_) (fun c5 => ?_)
          · have hw := hw.2 c5
            refine lv_lload hx hb dX0_changeWithin_67 (lv_at hl 0 rfl) ?_
            refine lv_lstore (lv' := [(8, .long ((v8 + v10) / 2)), (13, .long ((v8 + v10) / 2)), (0, .ref h0), (1, .long v1), (3, .long v3), (5, .long v5), (7, .int v7), (10, .long v10), (12, .int v12)]) hx hb dX0_changeWithin_69 hl (by decide) rfl (fun ls hl => ?_)
            refine lv_iinc (v := (v12 + 1)) (lv' := [(12, .int (v12 + 1)), (8, .long ((v8 + v10) / 2)), (13, .long ((v8 + v10) / 2)), (0, .ref h0), (1, .long v1), (3, .long v3), (5, .long v5), (7, .int v7), (10, .long v10)]) hx hb dX0_changeWithin_71 hl (k := 8) rfl (by first | rfl | exact congrArg (fun z => v12 + z) (by decide)) (by decide) rfl (fun ls hl => ?_)
            refine lv_goto (tgt := 10) hx hb dX0_changeWithin_74 (by decide) ?_
            exact ih ((v8 + v10) / 2) v10 (v12 + 1) ls (lv_sub hl [3, 4, 5, 6, 7, 1, 8, 0] rfl) hw
          · have hw := hw.1 c5
            refine lv_lload hx hb dX0_changeWithin_60 (lv_at hl 0 rfl) ?_
            refine lv_lstore (lv' := [(10, .long ((v8 + v10) / 2)), (13, .long ((v8 + v10) / 2)), (0, .ref h0), (1, .long v1), (3, .long v3), (5, .long v5), (7, .int v7), (8, .long v8), (12, .int v12)]) hx hb dX0_changeWithin_62 hl (by decide) rfl (fun ls hl => ?_)
            refine lv_goto (tgt := 71) hx hb dX0_changeWithin_64 (by decide) ?_
            refine lv_iinc (v := (v12 + 1)) (lv' := [(12, .int (v12 + 1)), (10, .long ((v8 + v10) / 2)), (13, .long ((v8 + v10) / 2)), (0, .ref h0), (1, .long v1), (3, .long v3), (5, .long v5), (7, .int v7), (8, .long v8)]) hx hb dX0_changeWithin_71 hl (k := 8) rfl (by first | rfl | exact congrArg (fun z => v12 + z) (by decide)) (by decide) rfl (fun ls hl => ?_)
            refine lv_goto (tgt := 10) hx hb dX0_changeWithin_74 (by decide) ?_
            exact ih v8 ((v8 + v10) / 2) (v12 + 1) ls (lv_sub hl [3, 4, 5, 6, 7, 8, 1, 0] rfl) hw
        · have hw := hw.2 c4
          refine lv_iconst (v := 1) hx hb dX0_changeWithin_50 (by decide) ?_
          refine lv_goto (tgt := 55) hx hb dX0_changeWithin_51 (by decide) ?_
          refine lv_iload hx hb dX0_changeWithin_55 (lv_at hl 5 rfl) ?_
          refine lv_icmp_ne (tgt := 67) hx hb dX0_changeWithin_57 (by decide) (fun c6 => ?_) (fun c6 => ?_)
          · have hw := hw.2 c6
            refine lv_lload hx hb dX0_changeWithin_67 (lv_at hl 0 rfl) ?_
            refine lv_lstore (lv' := [(8, .long ((v8 + v10) / 2)), (13, .long ((v8 + v10) / 2)), (0, .ref h0), (1, .long v1), (3, .long v3), (5, .long v5), (7, .int v7), (10, .long v10), (12, .int v12)]) hx hb dX0_changeWithin_69 hl (by decide) rfl (fun ls hl => ?_)
            refine lv_iinc (v := (v12 + 1)) (lv' := [(12, .int (v12 + 1)), (8, .long ((v8 + v10) / 2)), (13, .long ((v8 + v10) / 2)), (0, .ref h0), (1, .long v1), (3, .long v3), (5, .long v5), (7, .int v7), (10, .long v10)]) hx hb dX0_changeWithin_71 hl (k := 8) rfl (by first | rfl | exact congrArg (fun z => v12 + z) (by decide)) (by decide) rfl (fun ls hl => ?_)
            refine lv_goto (tgt := 10) hx hb dX0_changeWithin_74 (by decide) ?_
            exact ih ((v8 + v10) / 2) v10 (v12 + 1) ls (lv_sub hl [3, 4, 5, 6, 7, 1, 8, 0] rfl) hw
          · have hw := hw.1 c6
            refine lv_lload hx hb dX0_changeWithin_60 (lv_at hl 0 rfl) ?_
            refine lv_lstore (lv' := [(10, .long ((v8 + v10) / 2)), (13, .long ((v8 + v10) / 2)), (0, .ref h0), (1, .long v1), (3, .long v3), (5, .long v5), (7, .int v7), (8, .long v8), (12, .int v12)]) hx hb dX0_changeWithin_62 hl (by decide) rfl (fun ls hl => ?_)
            refine lv_goto (tgt := 71) hx hb dX0_changeWithin_64 (by decide) ?_
            refine lv_iinc (v := (v12 + 1)) (lv' := [(12, .int (v12 + 1)), (10, .long ((v8 + v10) / 2)), (13, .long ((v8 + v10) / 2)), (0, .ref h0), (1, .long v1), (3, .long v3), (5, .long v5), (7, .int v7), (8, .long v8)]) hx hb dX0_changeWithin_71 hl (k := 8) rfl (by first | rfl | exact congrArg (fun z => v12 + z) (by decide)) (by decide) rfl (fun ls hl => ?_)
            refine lv_goto (tgt := 10) hx hb dX0_changeWithin_74 (by decide) ?_
            exact ih v8 ((v8 + v10) / 2) (v12 + 1) ls (lv_sub hl [3, 4, 5, 6, 7, 8, 1, 0] rfl) hw
set_option maxHeartbeats 4000000 in
set_option maxRecDepth 100000 in
theorem mX0_changeWithin (l : Launch) (D : va_G) (cJ : ClassId) (h0 a1 a2 a3 a4 a5 a6 tC tS : Nat) (u : XS) (v1 : Int64) (v3 : Int64) (v5 : Int64) (v7 : Int32) (post : Int64 → Prop) : Met l yX0_changeWithin wsX0_changeWithin ({ frames := 3, cells := 0, slots := 0, locals := 77 } : Room) (va_Pc [.ref h0, .long v1, .long v3, .long v5, .int v7] (fun U => XW D cJ h0 a1 a2 a3 a4 a5 a6 tC tS u U U.heap ∧ wX0_changeWithin post u v1 v3 v5 v7)) (vp_Sl post) 0 0 nA := by
  refine Met.ofW (cc := cX0_changeWithin) (maxL := 15) (ret := (some .long)) (by decide +kernel) rfl ?_
  intro p e s m args below meth c s₁ B hml hv
  obtain ⟨rfl, hW, hw⟩ := hv
  have hx := B.exec
  have hb := B.bytes
  have hr := B.returns
  have hts := atoms_spec (ws := wsX0_changeWithin) B.pre
  have hown : s.vm.findClass RX0 = some m.cls := findClass_of_methodNamed B.named
  have hlocks := B.notSynchronized
  have hin : ∀ w ∈ u_ws RX0 TX0 9, w ∈ wsX0_changeWithin := by decide +kernel
  have hl := lv_entry ([.ref h0, .long v1, .long v3, .long v5, .int v7]) (n := 15) (Nat.le_of_ble_eq_true rfl)
  rw [lg_entry_eq]
  generalize (lg_sl ([.ref h0, .long v1, .long v3, .long v5, .int v7]) ++ List.replicate (15 - (lg_sl ([.ref h0, .long v1, .long v3, .long v5, .int v7])).length) Slot.unset).toArray = ls at hl ⊢
  have hl : lv_has ls 15 [(0, .ref h0), (1, .long v1), (3, .long v3), (5, .long v5), (7, .int v7)] := hl
  unfold wX0_changeWithin at hw
  refine lv_lload_n hx hb dX0_changeWithin_0 rfl (lv_at hl 2 rfl) ?_
  refine lv_lstore (lv' := [(8, .long v3), (0, .ref h0), (1, .long v1), (3, .long v3), (5, .long v5), (7, .int v7)]) hx hb dX0_changeWithin_1 hl (by decide) rfl (fun ls hl => ?_)
  refine lv_lload hx hb dX0_changeWithin_3 (lv_at hl 4 rfl) ?_
  refine lv_lstore (lv' := [(10, .long v5), (8, .long v3), (0, .ref h0), (1, .long v1), (3, .long v3), (5, .long v5), (7, .int v7)]) hx hb dX0_changeWithin_5 hl (by decide) rfl (fun ls hl => ?_)
  refine lv_iconst (v := 0) hx hb dX0_changeWithin_7 (by decide) ?_
  refine lv_istore (lv' := [(12, .int 0), (10, .long v5), (8, .long v3), (0, .ref h0), (1, .long v1), (3, .long v3), (5, .long v5), (7, .int v7)]) hx hb dX0_changeWithin_8 hl (by decide) rfl (fun ls hl => ?_)
  obtain ⟨n7, hw⟩ := hw
  exact kX0_changeWithin_L10 hx hb hr hml hown hlocks hts hin hW v1 v3 v5 v7 n7 v3 v5 0 ls (lv_sub hl [3, 4, 5, 6, 7, 2, 1, 0] rfl) hw

def wX0_nextSecond_L12 (post : Int64 → Prop) (u : XS) (v1 : Int64) (v5 : Int32) (v6 : Int64) : Nat → Int64 → Int32 → Prop
  | 0, _, _ => False
  | n + 1, v8, v10 => ((20000 < v10 → (post (v6 + 1))) ∧ (¬ 20000 < v10 → ((v6 < v8 → (post (v6 + 1))) ∧ (¬ v6 < v8 → (wX0_heightAt (fun r4 => ((r4 < v1 → ((0 = v5 → (post v8)) ∧ (¬ 0 = v5 → (wX0_stretchEnd (fun r7 => (wX0_heightAt (fun r8 => ((r8 < v1 → (wX0_nextSecond_L12 post u v1 v5 v6 n (r7 + 1) (v10 + 1))) ∧ (¬ r8 < v1 → ((1 = v5 → (wX0_changeWithin (fun r12 => (post r12)) u v1 v8 r7 v5)) ∧ (¬ 1 = v5 → (wX0_nextSecond_L12 post u v1 v5 v6 n (r7 + 1) (v10 + 1))))))) u r7)) u v8)))) ∧ (¬ r4 < v1 → ((1 = v5 → (post v8)) ∧ (¬ 1 = v5 → (wX0_stretchEnd (fun r14 => (wX0_heightAt (fun r15 => ((r15 < v1 → ((0 = v5 → (wX0_changeWithin (fun r18 => (post r18)) u v1 v8 r14 v5)) ∧ (¬ 0 = v5 → (wX0_nextSecond_L12 post u v1 v5 v6 n (r14 + 1) (v10 + 1))))) ∧ (¬ r15 < v1 → (wX0_nextSecond_L12 post u v1 v5 v6 n (r14 + 1) (v10 + 1))))) u r14)) u v8)))))) u v8)))))
def wX0_nextSecond (post : Int64 → Prop) (u : XS) (v1 : Int64) (v3 : Int64) (v5 : Int32) : Prop := (wX0_lastSecond (fun r1 => (∃ n20 : Nat, wX0_nextSecond_L12 post u v1 v5 r1 n20 v3 0)) u)
set_option maxHeartbeats 4000000 in
set_option maxRecDepth 100000 in
theorem kX0_nextSecond_L12 {p : Program} {l : Launch} {e : Env} {s : State} {m : MethodId} {args : Array Value} {below : List Frame} {meth : Method} {c : Code} {D : va_G} {cJ : ClassId} {h0 a1 a2 a3 a4 a5 a6 tC tS : Nat} {u : XS} {post : Int64 → Prop} (hx : p.tables.exec = Jvm.exec) (hb : c.code = cX0_nextSecond) (hr : meth.sig.returnType = (some .long)) (hml : c.maxLocals = 13) (hown : s.vm.findClass RX0 = some m.cls) (hlocks : meth.locks = false) (hts : ∀ w ∈ wsX0_nextSecond, w.before args s = true) (hin : ∀ w ∈ u_ws RX0 TX0 9, w ∈ wsX0_nextSecond) (hW : XW D cJ h0 a1 a2 a3 a4 a5 a6 tC tS u s s.heap) (v1 : Int64) (v3 : Int64) (v5 : Int32) (v6 : Int64) : ∀ (n : Nat) (v8 : Int64) (v10 : Int32) (ls : Array Slot), lv_has ls 13 [(0, .ref h0), (1, .long v1), (3, .long v3), (5, .int v5), (6, .long v6), (8, .long v8), (10, .int v10)] → wX0_nextSecond_L12 post u v1 v5 v6 n v8 v10 → W p l e ({ frames := 4, cells := 0, slots := 0, locals := 111 } : Room) s m args below meth c s.heap [] 0 0 (MQ below (vp_Sl post) args s 0 0 nA) (F0 m 12 ls []) := by
  intro n
  induction n with
  | zero =>
    intro v8 v10 ls hl hw
    exact hw.elim
  | succ n ih =>
    intro v8 v10 ls hl hw
    rw [wX0_nextSecond_L12] at hw
    refine lv_iload hx hb dX0_nextSecond_12 (lv_at hl 6 rfl) ?_
    refine lv_sipush (v := 20000) hx hb dX0_nextSecond_14 (by decide) ?_
    refine lv_icmp_gt (tgt := 105) hx hb dX0_nextSecond_17 (by decide) (fun c2 => ?_) (fun c2 => ?_)
    · have hw := hw.1 c2
      refine lv_lload hx hb dX0_nextSecond_105 (lv_at hl 4 rfl) ?_
      refine lv_lconst (v := 1) hx hb dX0_nextSecond_107 (by decide) ?_
      refine lv_ladd hx hb dX0_nextSecond_108 ?_
      exact W.lret (v := (v6 + 1)) hx hb hr (fun t ht hWm => ⟨_, rfl, hw, ht⟩) t_nil dX0_nextSecond_109
    · have hw := hw.2 c2
      refine lv_lload hx hb dX0_nextSecond_20 (lv_at hl 5 rfl) ?_
      refine lv_lload hx hb dX0_nextSecond_22 (lv_at hl 4 rfl) ?_
      refine bl_gt (tgt := 105) hx hb dX0_nextSecond_24 dX0_nextSecond_25 (by decide) (fun c3 => ?_) (fun c3 => ?_)
      · have hw := hw.1 c3
        refine lv_lload hx hb dX0_nextSecond_105 (lv_at hl 4 rfl) ?_
        refine lv_lconst (v := 1) hx hb dX0_nextSecond_107 (by decide) ?_
        refine lv_ladd hx hb dX0_nextSecond_108 ?_
        exact W.lret (v := (v6 + 1)) hx hb hr (fun t ht hWm => ⟨_, rfl, hw, ht⟩) t_nil dX0_nextSecond_109
      · have hw := hw.2 c3
        refine lv_aload_n hx hb dX0_nextSecond_28 rfl (lv_at hl 0 rfl) ?_
        refine lv_lload hx hb dX0_nextSecond_29 (lv_at hl 5 rfl) ?_
        refine pc_Vl (As := [.long v8]) (rest := []) ⟨hx, hb, hml, hown, hts⟩ (mX0_heightAt l D cJ h0 a1 a2 a3 a4 a5 a6 tC tS u v8 _) (cwV 1 hts gX0_nextSecond_X0_heightAt rfl rfl rfl (by decide +kernel) ⟨Nat.le_of_ble_eq_true rfl, Nat.le_of_ble_eq_true rfl⟩) (wX_rc hW) wX_bl (wX_in hW hw) rfl hl.1 rfl (Nat.le_of_ble_eq_true rfl) dX0_nextSecond_31 ⟨Nat.le_of_ble_eq_true rfl, Nat.le_of_ble_eq_true rfl⟩ (fun r4 hw => ?_)
        refine lv_lload_n hx hb dX0_nextSecond_34 rfl (lv_at hl 1 rfl) ?_
        refine bl_lt (tgt := 43) hx hb dX0_nextSecond_35 dX0_nextSecond_36 (by decide) (fun c5 => ?_) (fun c5 => ?_)
        · have hw := hw.1 c5
          refine lv_iconst (v := 0) hx hb dX0_nextSecond_43 (by decide) ?_
          refine lv_iload hx hb dX0_nextSecond_44 (lv_at hl 3 rfl) ?_
          refine lv_icmp_ne (tgt := 52) hx hb dX0_nextSecond_46 (by decide) (fun c6 => ?_) (fun c6 => ?_)
          · have hw := hw.2 c6
            refine lv_aload_n hx hb dX0_nextSecond_52 rfl (lv_at hl 0 rfl) ?_
            refine lv_lload hx hb dX0_nextSecond_53 (lv_at hl 5 rfl) ?_
            refine pc_Vl (As := [.long v8]) (rest := []) ⟨hx, hb, hml, hown, hts⟩ (mX0_stretchEnd l D cJ h0 a1 a2 a3 a4 a5 a6 tC tS u v8 _) (cwV 1 hts gX0_nextSecond_X0_stretchEnd rfl rfl rfl (by decide +kernel) ⟨Nat.le_of_ble_eq_true rfl, Nat.le_of_ble_eq_true rfl⟩) (wX_rc hW) wX_bl (wX_in hW hw) rfl hl.1 rfl (Nat.le_of_ble_eq_true rfl) dX0_nextSecond_55 ⟨Nat.le_of_ble_eq_true rfl, Nat.le_of_ble_eq_true rfl⟩ (fun r7 hw => ?_)
            refine lv_lstore (lv' := [(11, .long r7), (0, .ref h0), (1, .long v1), (3, .long v3), (5, .int v5), (6, .long v6), (8, .long v8), (10, .int v10)]) hx hb dX0_nextSecond_58 hl (by decide) rfl (fun ls hl => ?_)
            refine lv_aload_n hx hb dX0_nextSecond_60 rfl (lv_at hl 1 rfl) ?_
            refine lv_lload hx hb dX0_nextSecond_61 (lv_at hl 0 rfl) ?_
            refine pc_Vl (As := [.long r7]) (rest := []) ⟨hx, hb, hml, hown, hts⟩ (mX0_heightAt l D cJ h0 a1 a2 a3 a4 a5 a6 tC tS u r7 _) (cwV 1 hts gX0_nextSecond_X0_heightAt rfl rfl rfl (by decide +kernel) ⟨Nat.le_of_ble_eq_true rfl, Nat.le_of_ble_eq_true rfl⟩) (wX_rc hW) wX_bl (wX_in hW hw) rfl hl.1 rfl (Nat.le_of_ble_eq_true rfl) dX0_nextSecond_63 ⟨Nat.le_of_ble_eq_true rfl, Nat.le_of_ble_eq_true rfl⟩ (fun r8 hw => ?_)
            refine lv_lload_n hx hb dX0_nextSecond_66 rfl (lv_at hl 2 rfl) ?_
            refine bl_lt (tgt := 75) hx hb dX0_nextSecond_67 dX0_nextSecond_68 (by decide) (fun c9 => ?_) (fun c9 => ?_)
            · have hw := hw.1 c9
              refine lv_iconst (v := 0) hx hb dX0_nextSecond_75 (by decide) ?_
              refine lv_iload hx hb dX0_nextSecond_76 (lv_at hl 4 rfl) ?_
              refine lv_icmp_ne (tgt := 93) hx hb dX0_nextSecond_78 (by decide) (fun c10 => ?_) (fun c10 => ?_)
              ·
                refine lv_lload hx hb dX0_nextSecond_93 (lv_at hl 0 rfl) ?_
                refine lv_lconst (v := 1) hx hb dX0_nextSecond_95 (by decide) ?_
                refine lv_ladd hx hb dX0_nextSecond_96 ?_
                refine lv_lstore (lv' := [(8, .long (r7 + 1)), (11, .long r7), (0, .ref h0), (1, .long v1), (3, .long v3), (5, .int v5), (6, .long v6), (10, .int v10)]) hx hb dX0_nextSecond_97 hl (by decide) rfl (fun ls hl => ?_)
                refine lv_iinc (v := (v10 + 1)) (lv' := [(10, .int (v10 + 1)), (8, .long (r7 + 1)), (11, .long r7), (0, .ref h0), (1, .long v1), (3, .long v3), (5, .int v5), (6, .long v6)]) hx hb dX0_nextSecond_99 hl (k := 7) rfl (by first | rfl | exact congrArg (fun z => v10 + z) (by decide)) (by decide) rfl (fun ls hl => ?_)
                refine lv_goto (tgt := 12) hx hb dX0_nextSecond_102 (by decide) ?_
                exact ih (r7 + 1) (v10 + 1) ls (lv_sub hl [3, 4, 5, 6, 7, 1, 0] rfl) hw
              · exact absurd c10 c6
            · have hw := hw.2 c9
              refine lv_iconst (v := 1) hx hb dX0_nextSecond_71 (by decide) ?_
              refine lv_goto (tgt := 76) hx hb dX0_nextSecond_72 (by decide) ?_
              refine lv_iload hx hb dX0_nextSecond_76 (lv_at hl 4 rfl) ?_
              refine lv_icmp_ne (tgt := 93) hx hb dX0_nextSecond_78 (by decide) (fun c11 => ?_) (fun c11 => ?_)
              · have hw := hw.2 c11
                refine lv_lload hx hb dX0_nextSecond_93 (lv_at hl 0 rfl) ?_
                refine lv_lconst (v := 1) hx hb dX0_nextSecond_95 (by decide) ?_
                refine lv_ladd hx hb dX0_nextSecond_96 ?_
                refine lv_lstore (lv' := [(8, .long (r7 + 1)), (11, .long r7), (0, .ref h0), (1, .long v1), (3, .long v3), (5, .int v5), (6, .long v6), (10, .int v10)]) hx hb dX0_nextSecond_97 hl (by decide) rfl (fun ls hl => ?_)
                refine lv_iinc (v := (v10 + 1)) (lv' := [(10, .int (v10 + 1)), (8, .long (r7 + 1)), (11, .long r7), (0, .ref h0), (1, .long v1), (3, .long v3), (5, .int v5), (6, .long v6)]) hx hb dX0_nextSecond_99 hl (k := 7) rfl (by first | rfl | exact congrArg (fun z => v10 + z) (by decide)) (by decide) rfl (fun ls hl => ?_)
                refine lv_goto (tgt := 12) hx hb dX0_nextSecond_102 (by decide) ?_
                exact ih (r7 + 1) (v10 + 1) ls (lv_sub hl [3, 4, 5, 6, 7, 1, 0] rfl) hw
              · have hw := hw.1 c11
                refine lv_aload_n hx hb dX0_nextSecond_81 rfl (lv_at hl 1 rfl) ?_
                refine lv_lload_n hx hb dX0_nextSecond_82 rfl (lv_at hl 2 rfl) ?_
                refine lv_lload hx hb dX0_nextSecond_83 (lv_at hl 6 rfl) ?_
                refine lv_lload hx hb dX0_nextSecond_85 (lv_at hl 0 rfl) ?_
                refine lv_iload hx hb dX0_nextSecond_87 (lv_at hl 4 rfl) ?_
                refine pc_Vl (As := [.long v1, .long v8, .long r7, .int v5]) (rest := []) ⟨hx, hb, hml, hown, hts⟩ (mX0_changeWithin l D cJ h0 a1 a2 a3 a4 a5 a6 tC tS u v1 v8 r7 v5 _) (cwV 4 hts gX0_nextSecond_X0_changeWithin rfl rfl rfl (by decide +kernel) ⟨Nat.le_of_ble_eq_true rfl, Nat.le_of_ble_eq_true rfl⟩) (wX_rc hW) wX_bl (wX_in hW hw) rfl hl.1 rfl (Nat.le_of_ble_eq_true rfl) dX0_nextSecond_89 ⟨Nat.le_of_ble_eq_true rfl, Nat.le_of_ble_eq_true rfl⟩ (fun r12 hw => ?_)
                exact W.lret (v := r12) hx hb hr (fun t ht hWm => ⟨_, rfl, hw, ht⟩) t_nil dX0_nextSecond_92
          · have hw := hw.1 c6
            refine lv_lload hx hb dX0_nextSecond_49 (lv_at hl 5 rfl) ?_
            exact W.lret (v := v8) hx hb hr (fun t ht hWm => ⟨_, rfl, hw, ht⟩) t_nil dX0_nextSecond_51
        · have hw := hw.2 c5
          refine lv_iconst (v := 1) hx hb dX0_nextSecond_39 (by decide) ?_
          refine lv_goto (tgt := 44) hx hb dX0_nextSecond_40 (by decide) ?_
          refine lv_iload hx hb dX0_nextSecond_44 (lv_at hl 3 rfl) ?_
          refine lv_icmp_ne (tgt := 52) hx hb dX0_nextSecond_46 (by decide) (fun c13 => ?_) (fun c13 => ?_)
          · have hw := hw.2 c13
            refine lv_aload_n hx hb dX0_nextSecond_52 rfl (lv_at hl 0 rfl) ?_
            refine lv_lload hx hb dX0_nextSecond_53 (lv_at hl 5 rfl) ?_
            refine pc_Vl (As := [.long v8]) (rest := []) ⟨hx, hb, hml, hown, hts⟩ (mX0_stretchEnd l D cJ h0 a1 a2 a3 a4 a5 a6 tC tS u v8 _) (cwV 1 hts gX0_nextSecond_X0_stretchEnd rfl rfl rfl (by decide +kernel) ⟨Nat.le_of_ble_eq_true rfl, Nat.le_of_ble_eq_true rfl⟩) (wX_rc hW) wX_bl (wX_in hW hw) rfl hl.1 rfl (Nat.le_of_ble_eq_true rfl) dX0_nextSecond_55 ⟨Nat.le_of_ble_eq_true rfl, Nat.le_of_ble_eq_true rfl⟩ (fun r14 hw => ?_)
            refine lv_lstore (lv' := [(11, .long r14), (0, .ref h0), (1, .long v1), (3, .long v3), (5, .int v5), (6, .long v6), (8, .long v8), (10, .int v10)]) hx hb dX0_nextSecond_58 hl (by decide) rfl (fun ls hl => ?_)
            refine lv_aload_n hx hb dX0_nextSecond_60 rfl (lv_at hl 1 rfl) ?_
            refine lv_lload hx hb dX0_nextSecond_61 (lv_at hl 0 rfl) ?_
            refine pc_Vl (As := [.long r14]) (rest := []) ⟨hx, hb, hml, hown, hts⟩ (mX0_heightAt l D cJ h0 a1 a2 a3 a4 a5 a6 tC tS u r14 _) (cwV 1 hts gX0_nextSecond_X0_heightAt rfl rfl rfl (by decide +kernel) ⟨Nat.le_of_ble_eq_true rfl, Nat.le_of_ble_eq_true rfl⟩) (wX_rc hW) wX_bl (wX_in hW hw) rfl hl.1 rfl (Nat.le_of_ble_eq_true rfl) dX0_nextSecond_63 ⟨Nat.le_of_ble_eq_true rfl, Nat.le_of_ble_eq_true rfl⟩ (fun r15 hw => ?_)
            refine lv_lload_n hx hb dX0_nextSecond_66 rfl (lv_at hl 2 rfl) ?_
            refine bl_lt (tgt := 75) hx hb dX0_nextSecond_67 dX0_nextSecond_68 (by decide) (fun c16 => ?_) (fun c16 => ?_)
            · have hw := hw.1 c16
              refine lv_iconst (v := 0) hx hb dX0_nextSecond_75 (by decide) ?_
              refine lv_iload hx hb dX0_nextSecond_76 (lv_at hl 4 rfl) ?_
              refine lv_icmp_ne (tgt := 93) hx hb dX0_nextSecond_78 (by decide) (fun c17 => ?_) (fun c17 => ?_)
              · have hw := hw.2 c17
                refine lv_lload hx hb dX0_nextSecond_93 (lv_at hl 0 rfl) ?_
                refine lv_lconst (v := 1) hx hb dX0_nextSecond_95 (by decide) ?_
                refine lv_ladd hx hb dX0_nextSecond_96 ?_
                refine lv_lstore (lv' := [(8, .long (r14 + 1)), (11, .long r14), (0, .ref h0), (1, .long v1), (3, .long v3), (5, .int v5), (6, .long v6), (10, .int v10)]) hx hb dX0_nextSecond_97 hl (by decide) rfl (fun ls hl => ?_)
                refine lv_iinc (v := (v10 + 1)) (lv' := [(10, .int (v10 + 1)), (8, .long (r14 + 1)), (11, .long r14), (0, .ref h0), (1, .long v1), (3, .long v3), (5, .int v5), (6, .long v6)]) hx hb dX0_nextSecond_99 hl (k := 7) rfl (by first | rfl | exact congrArg (fun z => v10 + z) (by decide)) (by decide) rfl (fun ls hl => ?_)
                refine lv_goto (tgt := 12) hx hb dX0_nextSecond_102 (by decide) ?_
                exact ih (r14 + 1) (v10 + 1) ls (lv_sub hl [3, 4, 5, 6, 7, 1, 0] rfl) hw
              · have hw := hw.1 c17
                refine lv_aload_n hx hb dX0_nextSecond_81 rfl (lv_at hl 1 rfl) ?_
                refine lv_lload_n hx hb dX0_nextSecond_82 rfl (lv_at hl 2 rfl) ?_
                refine lv_lload hx hb dX0_nextSecond_83 (lv_at hl 6 rfl) ?_
                refine lv_lload hx hb dX0_nextSecond_85 (lv_at hl 0 rfl) ?_
                refine lv_iload hx hb dX0_nextSecond_87 (lv_at hl 4 rfl) ?_
                refine pc_Vl (As := [.long v1, .long v8, .long r14, .int v5]) (rest := []) ⟨hx, hb, hml, hown, hts⟩ (mX0_changeWithin l D cJ h0 a1 a2 a3 a4 a5 a6 tC tS u v1 v8 r14 v5 _) (cwV 4 hts gX0_nextSecond_X0_changeWithin rfl rfl rfl (by decide +kernel) ⟨Nat.le_of_ble_eq_true rfl, Nat.le_of_ble_eq_true rfl⟩) (wX_rc hW) wX_bl (wX_in hW hw) rfl hl.1 rfl (Nat.le_of_ble_eq_true rfl) dX0_nextSecond_89 ⟨Nat.le_of_ble_eq_true rfl, Nat.le_of_ble_eq_true rfl⟩ (fun r18 hw => ?_)
                exact W.lret (v := r18) hx hb hr (fun t ht hWm => ⟨_, rfl, hw, ht⟩) t_nil dX0_nextSecond_92
            · have hw := hw.2 c16
              refine lv_iconst (v := 1) hx hb dX0_nextSecond_71 (by decide) ?_
              refine lv_goto (tgt := 76) hx hb dX0_nextSecond_72 (by decide) ?_
              refine lv_iload hx hb dX0_nextSecond_76 (lv_at hl 4 rfl) ?_
              refine lv_icmp_ne (tgt := 93) hx hb dX0_nextSecond_78 (by decide) (fun c19 => ?_) (fun c19 => ?_)
              ·
                refine lv_lload hx hb dX0_nextSecond_93 (lv_at hl 0 rfl) ?_
                refine lv_lconst (v := 1) hx hb dX0_nextSecond_95 (by decide) ?_
                refine lv_ladd hx hb dX0_nextSecond_96 ?_
                refine lv_lstore (lv' := [(8, .long (r14 + 1)), (11, .long r14), (0, .ref h0), (1, .long v1), (3, .long v3), (5, .int v5), (6, .long v6), (10, .int v10)]) hx hb dX0_nextSecond_97 hl (by decide) rfl (fun ls hl => ?_)
                refine lv_iinc (v := (v10 + 1)) (lv' := [(10, .int (v10 + 1)), (8, .long (r14 + 1)), (11, .long r14), (0, .ref h0), (1, .long v1), (3, .long v3), (5, .int v5), (6, .long v6)]) hx hb dX0_nextSecond_99 hl (k := 7) rfl (by first | rfl | exact congrArg (fun z => v10 + z) (by decide)) (by decide) rfl (fun ls hl => ?_)
                refine lv_goto (tgt := 12) hx hb dX0_nextSecond_102 (by decide) ?_
                exact ih (r14 + 1) (v10 + 1) ls (lv_sub hl [3, 4, 5, 6, 7, 1, 0] rfl) hw
              · exact absurd c19 c13
          · have hw := hw.1 c13
            refine lv_lload hx hb dX0_nextSecond_49 (lv_at hl 5 rfl) ?_
            exact W.lret (v := v8) hx hb hr (fun t ht hWm => ⟨_, rfl, hw, ht⟩) t_nil dX0_nextSecond_51
set_option maxHeartbeats 4000000 in
set_option maxRecDepth 100000 in
theorem mX0_nextSecond (l : Launch) (D : va_G) (cJ : ClassId) (h0 a1 a2 a3 a4 a5 a6 tC tS : Nat) (u : XS) (v1 : Int64) (v3 : Int64) (v5 : Int32) (post : Int64 → Prop) : Met l yX0_nextSecond wsX0_nextSecond ({ frames := 4, cells := 0, slots := 0, locals := 111 } : Room) (va_Pc [.ref h0, .long v1, .long v3, .int v5] (fun U => XW D cJ h0 a1 a2 a3 a4 a5 a6 tC tS u U U.heap ∧ wX0_nextSecond post u v1 v3 v5)) (vp_Sl post) 0 0 nA := by
  refine Met.ofW (cc := cX0_nextSecond) (maxL := 13) (ret := (some .long)) (by decide +kernel) rfl ?_
  intro p e s m args below meth c s₁ B hml hv
  obtain ⟨rfl, hW, hw⟩ := hv
  have hx := B.exec
  have hb := B.bytes
  have hr := B.returns
  have hts := atoms_spec (ws := wsX0_nextSecond) B.pre
  have hown : s.vm.findClass RX0 = some m.cls := findClass_of_methodNamed B.named
  have hlocks := B.notSynchronized
  have hin : ∀ w ∈ u_ws RX0 TX0 9, w ∈ wsX0_nextSecond := by decide +kernel
  have hl := lv_entry ([.ref h0, .long v1, .long v3, .int v5]) (n := 13) (Nat.le_of_ble_eq_true rfl)
  rw [lg_entry_eq]
  generalize (lg_sl ([.ref h0, .long v1, .long v3, .int v5]) ++ List.replicate (13 - (lg_sl ([.ref h0, .long v1, .long v3, .int v5])).length) Slot.unset).toArray = ls at hl ⊢
  have hl : lv_has ls 13 [(0, .ref h0), (1, .long v1), (3, .long v3), (5, .int v5)] := hl
  unfold wX0_nextSecond at hw
  refine lv_aload_n hx hb dX0_nextSecond_0 rfl (lv_at hl 0 rfl) ?_
  refine pc_Vl (As := []) (rest := []) ⟨hx, hb, hml, hown, hts⟩ (mX0_lastSecond l D cJ h0 a1 a2 a3 a4 a5 a6 tC tS u _) (cwV 0 hts gX0_nextSecond_X0_lastSecond rfl rfl rfl (by decide +kernel) ⟨Nat.le_of_ble_eq_true rfl, Nat.le_of_ble_eq_true rfl⟩) (wX_rc hW) wX_bl (wX_in hW hw) rfl hl.1 rfl (Nat.le_of_ble_eq_true rfl) dX0_nextSecond_1 ⟨Nat.le_of_ble_eq_true rfl, Nat.le_of_ble_eq_true rfl⟩ (fun r1 hw => ?_)
  refine lv_lstore (lv' := [(6, .long r1), (0, .ref h0), (1, .long v1), (3, .long v3), (5, .int v5)]) hx hb dX0_nextSecond_4 hl (by decide) rfl (fun ls hl => ?_)
  refine lv_lload_n hx hb dX0_nextSecond_6 rfl (lv_at hl 3 rfl) ?_
  refine lv_lstore (lv' := [(8, .long v3), (6, .long r1), (0, .ref h0), (1, .long v1), (3, .long v3), (5, .int v5)]) hx hb dX0_nextSecond_7 hl (by decide) rfl (fun ls hl => ?_)
  refine lv_iconst (v := 0) hx hb dX0_nextSecond_9 (by decide) ?_
  refine lv_istore (lv' := [(10, .int 0), (8, .long v3), (6, .long r1), (0, .ref h0), (1, .long v1), (3, .long v3), (5, .int v5)]) hx hb dX0_nextSecond_10 hl (by decide) rfl (fun ls hl => ?_)
  obtain ⟨n20, hw⟩ := hw
  exact kX0_nextSecond_L12 hx hb hr hml hown hlocks hts hin hW v1 v3 v5 r1 n20 v3 0 ls (lv_sub hl [3, 4, 5, 6, 2, 1, 0] rfl) hw

def wX0_longestSpan_L27 (post : Int64 → Prop) (u : XS) (v1 : Int64) (v5 : Int64) : Nat → Int64 → Int64 → Int64 → Int32 → Prop
  | 0, _, _, _, _ => False
  | n + 1, v7, v9, v11, v13 => ((20000 < v13 → (post v7)) ∧ (¬ 20000 < v13 → ((v5 < v11 → (post v7)) ∧ (¬ v5 < v11 → (wX0_nextSecond (fun r5 => (((r5 - v11) ≤ v9 → (wX0_nextSecond (fun r7 => (wX0_longestSpan_L27 post u v1 v5 n v7 v9 r7 (v13 + 1))) u v1 r5 1)) ∧ (¬ (r5 - v11) ≤ v9 → (wX0_nextSecond (fun r8 => (wX0_longestSpan_L27 post u v1 v5 n v11 (r5 - v11) r8 (v13 + 1))) u v1 r5 1)))) u v1 v11 0)))))
def wX0_longestSpan (post : Int64 → Prop) (u : XS) (v1 : Int64) (v3 : Int64) : Prop := (wX0_lastSecond (fun r1 => (wX0_nextSecond (fun r2 => (∃ n9 : Nat, wX0_longestSpan_L27 post u v1 r1 n9 (r1 + 1) 0 r2 0)) u v1 v3 1)) u)
set_option maxHeartbeats 4000000 in
set_option maxRecDepth 100000 in
theorem kX0_longestSpan_L27 {p : Program} {l : Launch} {e : Env} {s : State} {m : MethodId} {args : Array Value} {below : List Frame} {meth : Method} {c : Code} {D : va_G} {cJ : ClassId} {h0 a1 a2 a3 a4 a5 a6 tC tS : Nat} {u : XS} {post : Int64 → Prop} (hx : p.tables.exec = Jvm.exec) (hb : c.code = cX0_longestSpan) (hr : meth.sig.returnType = (some .long)) (hml : c.maxLocals = 16) (hown : s.vm.findClass RX0 = some m.cls) (hlocks : meth.locks = false) (hts : ∀ w ∈ wsX0_longestSpan, w.before args s = true) (hin : ∀ w ∈ u_ws RX0 TX0 9, w ∈ wsX0_longestSpan) (hW : XW D cJ h0 a1 a2 a3 a4 a5 a6 tC tS u s s.heap) (v1 : Int64) (v3 : Int64) (v5 : Int64) : ∀ (n : Nat) (v7 : Int64) (v9 : Int64) (v11 : Int64) (v13 : Int32) (ls : Array Slot), lv_has ls 16 [(0, .ref h0), (1, .long v1), (3, .long v3), (5, .long v5), (7, .long v7), (9, .long v9), (11, .long v11), (13, .int v13)] → wX0_longestSpan_L27 post u v1 v5 n v7 v9 v11 v13 → W p l e ({ frames := 5, cells := 0, slots := 0, locals := 143 } : Room) s m args below meth c s.heap [] 0 0 (MQ below (vp_Sl post) args s 0 0 nA) (F0 m 27 ls []) := by
  intro n
  induction n with
  | zero =>
    intro v7 v9 v11 v13 ls hl hw
    exact hw.elim
  | succ n ih =>
    intro v7 v9 v11 v13 ls hl hw
    rw [wX0_longestSpan_L27] at hw
    refine lv_iload hx hb dX0_longestSpan_27 (lv_at hl 7 rfl) ?_
    refine lv_sipush (v := 20000) hx hb dX0_longestSpan_29 (by decide) ?_
    refine lv_icmp_gt (tgt := 91) hx hb dX0_longestSpan_32 (by decide) (fun c3 => ?_) (fun c3 => ?_)
    · have hw := hw.1 c3
      refine lv_lload hx hb dX0_longestSpan_91 (lv_at hl 4 rfl) ?_
      exact W.lret (v := v7) hx hb hr (fun t ht hWm => ⟨_, rfl, hw, ht⟩) t_nil dX0_longestSpan_93
    · have hw := hw.2 c3
      refine lv_lload hx hb dX0_longestSpan_35 (lv_at hl 6 rfl) ?_
      refine lv_lload hx hb dX0_longestSpan_37 (lv_at hl 3 rfl) ?_
      refine bl_gt (tgt := 91) hx hb dX0_longestSpan_39 dX0_longestSpan_40 (by decide) (fun c4 => ?_) (fun c4 => ?_)
      · have hw := hw.1 c4
        refine lv_lload hx hb dX0_longestSpan_91 (lv_at hl 4 rfl) ?_
        exact W.lret (v := v7) hx hb hr (fun t ht hWm => ⟨_, rfl, hw, ht⟩) t_nil dX0_longestSpan_93
      · have hw := hw.2 c4
        refine lv_aload_n hx hb dX0_longestSpan_43 rfl (lv_at hl 0 rfl) ?_
        refine lv_lload_n hx hb dX0_longestSpan_44 rfl (lv_at hl 1 rfl) ?_
        refine lv_lload hx hb dX0_longestSpan_45 (lv_at hl 6 rfl) ?_
        refine lv_iconst (v := 0) hx hb dX0_longestSpan_47 (by decide) ?_
        refine pc_Vl (As := [.long v1, .long v11, .int 0]) (rest := []) ⟨hx, hb, hml, hown, hts⟩ (mX0_nextSecond l D cJ h0 a1 a2 a3 a4 a5 a6 tC tS u v1 v11 0 _) (cwV 3 hts gX0_longestSpan_X0_nextSecond rfl rfl rfl (by decide +kernel) ⟨Nat.le_of_ble_eq_true rfl, Nat.le_of_ble_eq_true rfl⟩) (wX_rc hW) wX_bl (wX_in hW hw) rfl hl.1 rfl (Nat.le_of_ble_eq_true rfl) dX0_longestSpan_48 ⟨Nat.le_of_ble_eq_true rfl, Nat.le_of_ble_eq_true rfl⟩ (fun r5 hw => ?_)
        refine lv_lstore (lv' := [(14, .long r5), (0, .ref h0), (1, .long v1), (3, .long v3), (5, .long v5), (7, .long v7), (9, .long v9), (11, .long v11), (13, .int v13)]) hx hb dX0_longestSpan_51 hl (by decide) rfl (fun ls hl => ?_)
        refine lv_lload hx hb dX0_longestSpan_53 (lv_at hl 0 rfl) ?_
        refine lv_lload hx hb dX0_longestSpan_55 (lv_at hl 7 rfl) ?_
        refine lv_lsub hx hb dX0_longestSpan_57 ?_
        refine lv_lload hx hb dX0_longestSpan_58 (lv_at hl 6 rfl) ?_
        refine bl_le (tgt := 75) hx hb dX0_longestSpan_60 dX0_longestSpan_61 (by decide) (fun c6 => ?_) (fun c6 => ?_)
        · have hw := hw.1 c6
          refine lv_aload_n hx hb dX0_longestSpan_75 rfl (lv_at hl 1 rfl) ?_
          refine lv_lload_n hx hb dX0_longestSpan_76 rfl (lv_at hl 2 rfl) ?_
          refine lv_lload hx hb dX0_longestSpan_77 (lv_at hl 0 rfl) ?_
          refine lv_iconst (v := 1) hx hb dX0_longestSpan_79 (by decide) ?_
          refine pc_Vl (As := [.long v1, .long r5, .int 1]) (rest := []) ⟨hx, hb, hml, hown, hts⟩ (mX0_nextSecond l D cJ h0 a1 a2 a3 a4 a5 a6 tC tS u v1 r5 1 _) (cwV 3 hts gX0_longestSpan_X0_nextSecond rfl rfl rfl (by decide +kernel) ⟨Nat.le_of_ble_eq_true rfl, Nat.le_of_ble_eq_true rfl⟩) (wX_rc hW) wX_bl (wX_in hW hw) rfl hl.1 rfl (Nat.le_of_ble_eq_true rfl) dX0_longestSpan_80 ⟨Nat.le_of_ble_eq_true rfl, Nat.le_of_ble_eq_true rfl⟩ (fun r7 hw => ?_)
          refine lv_lstore (lv' := [(11, .long r7), (14, .long r5), (0, .ref h0), (1, .long v1), (3, .long v3), (5, .long v5), (7, .long v7), (9, .long v9), (13, .int v13)]) hx hb dX0_longestSpan_83 hl (by decide) rfl (fun ls hl => ?_)
          refine lv_iinc (v := (v13 + 1)) (lv' := [(13, .int (v13 + 1)), (11, .long r7), (14, .long r5), (0, .ref h0), (1, .long v1), (3, .long v3), (5, .long v5), (7, .long v7), (9, .long v9)]) hx hb dX0_longestSpan_85 hl (k := 8) rfl (by first | rfl | exact congrArg (fun z => v13 + z) (by decide)) (by decide) rfl (fun ls hl => ?_)
          refine lv_goto (tgt := 27) hx hb dX0_longestSpan_88 (by decide) ?_
          exact ih v7 v9 r7 (v13 + 1) ls (lv_sub hl [3, 4, 5, 6, 7, 8, 1, 0] rfl) hw
        · have hw := hw.2 c6
          refine lv_lload hx hb dX0_longestSpan_64 (lv_at hl 0 rfl) ?_
          refine lv_lload hx hb dX0_longestSpan_66 (lv_at hl 7 rfl) ?_
          refine lv_lsub hx hb dX0_longestSpan_68 ?_
          refine lv_lstore (lv' := [(9, .long (r5 - v11)), (14, .long r5), (0, .ref h0), (1, .long v1), (3, .long v3), (5, .long v5), (7, .long v7), (11, .long v11), (13, .int v13)]) hx hb dX0_longestSpan_69 hl (by decide) rfl (fun ls hl => ?_)
          refine lv_lload hx hb dX0_longestSpan_71 (lv_at hl 7 rfl) ?_
          refine lv_lstore (lv' := [(7, .long v11), (9, .long (r5 - v11)), (14, .long r5), (0, .ref h0), (1, .long v1), (3, .long v3), (5, .long v5), (11, .long v11), (13, .int v13)]) hx hb dX0_longestSpan_73 hl (by decide) rfl (fun ls hl => ?_)
          refine lv_aload_n hx hb dX0_longestSpan_75 rfl (lv_at hl 3 rfl) ?_
          refine lv_lload_n hx hb dX0_longestSpan_76 rfl (lv_at hl 4 rfl) ?_
          refine lv_lload hx hb dX0_longestSpan_77 (lv_at hl 2 rfl) ?_
          refine lv_iconst (v := 1) hx hb dX0_longestSpan_79 (by decide) ?_
          refine pc_Vl (As := [.long v1, .long r5, .int 1]) (rest := []) ⟨hx, hb, hml, hown, hts⟩ (mX0_nextSecond l D cJ h0 a1 a2 a3 a4 a5 a6 tC tS u v1 r5 1 _) (cwV 3 hts gX0_longestSpan_X0_nextSecond rfl rfl rfl (by decide +kernel) ⟨Nat.le_of_ble_eq_true rfl, Nat.le_of_ble_eq_true rfl⟩) (wX_rc hW) wX_bl (wX_in hW hw) rfl hl.1 rfl (Nat.le_of_ble_eq_true rfl) dX0_longestSpan_80 ⟨Nat.le_of_ble_eq_true rfl, Nat.le_of_ble_eq_true rfl⟩ (fun r8 hw => ?_)
          refine lv_lstore (lv' := [(11, .long r8), (7, .long v11), (9, .long (r5 - v11)), (14, .long r5), (0, .ref h0), (1, .long v1), (3, .long v3), (5, .long v5), (13, .int v13)]) hx hb dX0_longestSpan_83 hl (by decide) rfl (fun ls hl => ?_)
          refine lv_iinc (v := (v13 + 1)) (lv' := [(13, .int (v13 + 1)), (11, .long r8), (7, .long v11), (9, .long (r5 - v11)), (14, .long r5), (0, .ref h0), (1, .long v1), (3, .long v3), (5, .long v5)]) hx hb dX0_longestSpan_85 hl (k := 8) rfl (by first | rfl | exact congrArg (fun z => v13 + z) (by decide)) (by decide) rfl (fun ls hl => ?_)
          refine lv_goto (tgt := 27) hx hb dX0_longestSpan_88 (by decide) ?_
          exact ih v11 (r5 - v11) r8 (v13 + 1) ls (lv_sub hl [5, 6, 7, 8, 2, 3, 1, 0] rfl) hw
set_option maxHeartbeats 4000000 in
set_option maxRecDepth 100000 in
theorem mX0_longestSpan (l : Launch) (D : va_G) (cJ : ClassId) (h0 a1 a2 a3 a4 a5 a6 tC tS : Nat) (u : XS) (v1 : Int64) (v3 : Int64) (post : Int64 → Prop) : Met l yX0_longestSpan wsX0_longestSpan ({ frames := 5, cells := 0, slots := 0, locals := 143 } : Room) (va_Pc [.ref h0, .long v1, .long v3] (fun U => XW D cJ h0 a1 a2 a3 a4 a5 a6 tC tS u U U.heap ∧ wX0_longestSpan post u v1 v3)) (vp_Sl post) 0 0 nA := by
  refine Met.ofW (cc := cX0_longestSpan) (maxL := 16) (ret := (some .long)) (by decide +kernel) rfl ?_
  intro p e s m args below meth c s₁ B hml hv
  obtain ⟨rfl, hW, hw⟩ := hv
  have hx := B.exec
  have hb := B.bytes
  have hr := B.returns
  have hts := atoms_spec (ws := wsX0_longestSpan) B.pre
  have hown : s.vm.findClass RX0 = some m.cls := findClass_of_methodNamed B.named
  have hlocks := B.notSynchronized
  have hin : ∀ w ∈ u_ws RX0 TX0 9, w ∈ wsX0_longestSpan := by decide +kernel
  have hl := lv_entry ([.ref h0, .long v1, .long v3]) (n := 16) (Nat.le_of_ble_eq_true rfl)
  rw [lg_entry_eq]
  generalize (lg_sl ([.ref h0, .long v1, .long v3]) ++ List.replicate (16 - (lg_sl ([.ref h0, .long v1, .long v3])).length) Slot.unset).toArray = ls at hl ⊢
  have hl : lv_has ls 16 [(0, .ref h0), (1, .long v1), (3, .long v3)] := hl
  unfold wX0_longestSpan at hw
  refine lv_aload_n hx hb dX0_longestSpan_0 rfl (lv_at hl 0 rfl) ?_
  refine pc_Vl (As := []) (rest := []) ⟨hx, hb, hml, hown, hts⟩ (mX0_lastSecond l D cJ h0 a1 a2 a3 a4 a5 a6 tC tS u _) (cwV 0 hts gX0_longestSpan_X0_lastSecond rfl rfl rfl (by decide +kernel) ⟨Nat.le_of_ble_eq_true rfl, Nat.le_of_ble_eq_true rfl⟩) (wX_rc hW) wX_bl (wX_in hW hw) rfl hl.1 rfl (Nat.le_of_ble_eq_true rfl) dX0_longestSpan_1 ⟨Nat.le_of_ble_eq_true rfl, Nat.le_of_ble_eq_true rfl⟩ (fun r1 hw => ?_)
  refine lv_lstore (lv' := [(5, .long r1), (0, .ref h0), (1, .long v1), (3, .long v3)]) hx hb dX0_longestSpan_4 hl (by decide) rfl (fun ls hl => ?_)
  refine lv_lload hx hb dX0_longestSpan_6 (lv_at hl 0 rfl) ?_
  refine lv_lconst (v := 1) hx hb dX0_longestSpan_8 (by decide) ?_
  refine lv_ladd hx hb dX0_longestSpan_9 ?_
  refine lv_lstore (lv' := [(7, .long (r1 + 1)), (5, .long r1), (0, .ref h0), (1, .long v1), (3, .long v3)]) hx hb dX0_longestSpan_10 hl (by decide) rfl (fun ls hl => ?_)
  refine lv_lconst (v := 0) hx hb dX0_longestSpan_12 (by decide) ?_
  refine lv_lstore (lv' := [(9, .long 0), (7, .long (r1 + 1)), (5, .long r1), (0, .ref h0), (1, .long v1), (3, .long v3)]) hx hb dX0_longestSpan_13 hl (by decide) rfl (fun ls hl => ?_)
  refine lv_aload_n hx hb dX0_longestSpan_15 rfl (lv_at hl 3 rfl) ?_
  refine lv_lload_n hx hb dX0_longestSpan_16 rfl (lv_at hl 4 rfl) ?_
  refine lv_lload_n hx hb dX0_longestSpan_17 rfl (lv_at hl 5 rfl) ?_
  refine lv_iconst (v := 1) hx hb dX0_longestSpan_18 (by decide) ?_
  refine pc_Vl (As := [.long v1, .long v3, .int 1]) (rest := []) ⟨hx, hb, hml, hown, hts⟩ (mX0_nextSecond l D cJ h0 a1 a2 a3 a4 a5 a6 tC tS u v1 v3 1 _) (cwV 3 hts gX0_longestSpan_X0_nextSecond rfl rfl rfl (by decide +kernel) ⟨Nat.le_of_ble_eq_true rfl, Nat.le_of_ble_eq_true rfl⟩) (wX_rc hW) wX_bl (wX_in hW hw) rfl hl.1 rfl (Nat.le_of_ble_eq_true rfl) dX0_longestSpan_19 ⟨Nat.le_of_ble_eq_true rfl, Nat.le_of_ble_eq_true rfl⟩ (fun r2 hw => ?_)
  refine lv_lstore (lv' := [(11, .long r2), (9, .long 0), (7, .long (r1 + 1)), (5, .long r1), (0, .ref h0), (1, .long v1), (3, .long v3)]) hx hb dX0_longestSpan_22 hl (by decide) rfl (fun ls hl => ?_)
  refine lv_iconst (v := 0) hx hb dX0_longestSpan_24 (by decide) ?_
  refine lv_istore (lv' := [(13, .int 0), (11, .long r2), (9, .long 0), (7, .long (r1 + 1)), (5, .long r1), (0, .ref h0), (1, .long v1), (3, .long v3)]) hx hb dX0_longestSpan_25 hl (by decide) rfl (fun ls hl => ?_)
  obtain ⟨n9, hw⟩ := hw
  exact kX0_longestSpan_L27 hx hb hr hml hown hlocks hts hin hW v1 v3 r1 n9 (r1 + 1) 0 r2 0 ls (lv_sub hl [5, 6, 7, 4, 3, 2, 1, 0] rfl) hw

def wX0_firstSailing_L28 (post : Int64 → Prop) (u : XS) (ex : Int64 → Int32 → Prop) (v1 : Int64) (v3 : Int64) (v7 : Int64) : Nat → Int64 → Int32 → Prop
  | 0, _, _ => False
  | n + 1, v9, v14 => (((xNP u) ≤ v14 → (ex v9 v14)) ∧ (¬ (xNP u) ≤ v14 → (vp_in v14 12 ∧ (wX0_secondsFor (fun r5 => (vp_in v14 12 ∧ (wX0_nextSecond (fun r7 => ((r7 ≤ v7 → (wX0_firstSailing_L28 post u ex v1 v3 v7 n (r7 - r5) (v14 + 1))) ∧ (¬ r7 ≤ v7 → (post (v7 + 1))))) u (v1 - ((xPB u) (v14).toNatClampNeg)) (v9 + r5) 1))) ((xPW u) (v14).toNatClampNeg) v3))))
def wX0_firstSailing_L13 (post : Int64 → Prop) (u : XS) (v1 : Int64) (v3 : Int64) (v7 : Int64) : Nat → Int64 → Int32 → Prop
  | 0, _, _ => False
  | n + 1, v9, v11 => ((20000 < v11 → (post (v7 + 1))) ∧ (¬ 20000 < v11 → (∃ n9 : Nat, wX0_firstSailing_L28 post u (fun (x10 : Int64) (x11 : Int32) => ((x10 = v9 → (post x10)) ∧ (¬ x10 = v9 → (wX0_firstSailing_L13 post u v1 v3 v7 n x10 (v11 + 1))))) v1 v3 v7 n9 v9 0)))
def wX0_firstSailing (post : Int64 → Prop) (u : XS) (v1 : Int64) (v3 : Int64) (v5 : Int64) : Prop := (wX0_lastSecond (fun r1 => (∃ n13 : Nat, wX0_firstSailing_L13 post u v1 v3 r1 n13 v5 0)) u)
set_option maxHeartbeats 4000000 in
set_option maxRecDepth 100000 in
theorem kX0_firstSailing_L28 {p : Program} {l : Launch} {e : Env} {s : State} {m : MethodId} {args : Array Value} {below : List Frame} {meth : Method} {c : Code} {D : va_G} {cJ : ClassId} {h0 a1 a2 a3 a4 a5 a6 tC tS : Nat} {u : XS} {post : Int64 → Prop} (hx : p.tables.exec = Jvm.exec) (hb : c.code = cX0_firstSailing) (hr : meth.sig.returnType = (some .long)) (hml : c.maxLocals = 19) (hown : s.vm.findClass RX0 = some m.cls) (hlocks : meth.locks = false) (hts : ∀ w ∈ wsX0_firstSailing, w.before args s = true) (hin : ∀ w ∈ u_ws RX0 TX0 9, w ∈ wsX0_firstSailing) (hW : XW D cJ h0 a1 a2 a3 a4 a5 a6 tC tS u s s.heap) {ex : Int64 → Int32 → Prop} (v1 : Int64) (v3 : Int64) (v5 : Int64) (v7 : Int64) (v11 : Int32) (v12 : Int64) (hex : ∀ (v9 : Int64) (v14 : Int32) (ls : Array Slot), lv_has ls 19 [(0, .ref h0), (1, .long v1), (3, .long v3), (5, .long v5), (7, .long v7), (9, .long v9), (11, .int v11), (12, .long v12), (14, .int v14)] → ex v9 v14 → W p l e ({ frames := 5, cells := 0, slots := 0, locals := 143 } : Room) s m args below meth c s.heap [] 0 0 (MQ below (vp_Sl post) args s 0 0 nA) (F0 m 97 ls [])) : ∀ (n : Nat) (v9 : Int64) (v14 : Int32) (ls : Array Slot), lv_has ls 19 [(0, .ref h0), (1, .long v1), (3, .long v3), (5, .long v5), (7, .long v7), (9, .long v9), (11, .int v11), (12, .long v12), (14, .int v14)] → wX0_firstSailing_L28 post u ex v1 v3 v7 n v9 v14 → W p l e ({ frames := 5, cells := 0, slots := 0, locals := 143 } : Room) s m args below meth c s.heap [] 0 0 (MQ below (vp_Sl post) args s 0 0 nA) (F0 m 28 ls []) := by
  intro n
  induction n with
  | zero =>
    intro v9 v14 ls hl hw
    exact hw.elim
  | succ n ih =>
    intro v9 v14 ls hl hw
    rw [wX0_firstSailing_L28] at hw
    refine lv_iload hx hb dX0_firstSailing_28 (lv_at hl 8 rfl) ?_
    refine lv_aload_n hx hb dX0_firstSailing_30 rfl (lv_at hl 0 rfl) ?_
    refine va_get (D := D) (ci := 0) (v := .int (xNP u)) (C := RX0) (T := TX0) (N := 9) hx hb hts hin hown hW.2.1 hW.1 0 rfl rfl 8 (by decide) (hts (.fieldLink RX0 35 "TideDepths" "places" "I") (by decide +kernel)) (fun _ h9 => h9) rfl dX0_firstSailing_31 ?_
    refine lv_icmp_ge (tgt := 97) hx hb dX0_firstSailing_34 (by decide) (fun c3 => ?_) (fun c3 => ?_)
    · have hw := hw.1 c3
      exact hex v9 v14 ls (lv_sub hl [0, 1, 2, 3, 4, 5, 6, 7, 8] rfl) hw
    · have hw := hw.2 c3
      refine lv_aload_n hx hb dX0_firstSailing_37 rfl (lv_at hl 0 rfl) ?_
      refine va_get (D := D) (ci := 0) (v := .ref a5) (C := RX0) (T := TX0) (N := 9) hx hb hts hin hown hW.2.1 hW.1 0 rfl rfl 6 (by decide) (hts (.fieldLink RX0 29 "TideDepths" "ways" "[J") (by decide +kernel)) (fun _ h9 => h9) rfl dX0_firstSailing_38 ?_
      refine lv_iload hx hb dX0_firstSailing_41 (lv_at hl 8 rfl) ?_
      obtain ⟨h4, hw⟩ := hw
      refine va_lald hx hb hW.2.1 hW.1 5 0 rfl rfl h4 dX0_firstSailing_43 ?_
      refine lv_lload_n hx hb dX0_firstSailing_44 rfl (lv_at hl 2 rfl) ?_
      refine pc_Sl (As := [.long ((xPW u) (v14).toNatClampNeg), .long v3]) (rest := []) ⟨hx, hb, hml, hown, hts⟩ (mX0_secondsFor l ((xPW u) (v14).toNatClampNeg) v3 _) (va_cwS 2 hts gX0_firstSailing_X0_secondsFor rfl rfl rfl (by decide +kernel) ⟨Nat.le_of_ble_eq_true rfl, Nat.le_of_ble_eq_true rfl⟩) wK_bl (fun _ _ _ => hw) rfl hl.1 rfl (Nat.le_of_ble_eq_true rfl) dX0_firstSailing_45 ⟨Nat.le_of_ble_eq_true rfl, Nat.le_of_ble_eq_true rfl⟩ (fun r5 hw => ?_)
      refine lv_lstore (lv' := [(15, .long r5), (0, .ref h0), (1, .long v1), (3, .long v3), (5, .long v5), (7, .long v7), (9, .long v9), (11, .int v11), (12, .long v12), (14, .int v14)]) hx hb dX0_firstSailing_48 hl (by decide) rfl (fun ls hl => ?_)
      refine lv_aload_n hx hb dX0_firstSailing_50 rfl (lv_at hl 1 rfl) ?_
      refine lv_lload_n hx hb dX0_firstSailing_51 rfl (lv_at hl 2 rfl) ?_
      refine lv_aload_n hx hb dX0_firstSailing_52 rfl (lv_at hl 1 rfl) ?_
      refine va_get (D := D) (ci := 0) (v := .ref a6) (C := RX0) (T := TX0) (N := 9) hx hb hts hin hown hW.2.1 hW.1 0 rfl rfl 7 (by decide) (hts (.fieldLink RX0 32 "TideDepths" "bases" "[J") (by decide +kernel)) (fun _ h9 => h9) rfl dX0_firstSailing_53 ?_
      refine lv_iload hx hb dX0_firstSailing_56 (lv_at hl 9 rfl) ?_
      obtain ⟨h6, hw⟩ := hw
      refine va_lald hx hb hW.2.1 hW.1 6 0 rfl rfl h6 dX0_firstSailing_58 ?_
      refine lv_lsub hx hb dX0_firstSailing_59 ?_
      refine lv_lload hx hb dX0_firstSailing_60 (lv_at hl 6 rfl) ?_
      refine lv_lload hx hb dX0_firstSailing_62 (lv_at hl 0 rfl) ?_
      refine lv_ladd hx hb dX0_firstSailing_64 ?_
      refine lv_iconst (v := 1) hx hb dX0_firstSailing_65 (by decide) ?_
      refine pc_Vl (As := [.long (v1 - ((xPB u) (v14).toNatClampNeg)), .long (v9 + r5), .int 1]) (rest := []) ⟨hx, hb, hml, hown, hts⟩ (mX0_nextSecond l D cJ h0 a1 a2 a3 a4 a5 a6 tC tS u (v1 - ((xPB u) (v14).toNatClampNeg)) (v9 + r5) 1 _) (cwV 3 hts gX0_firstSailing_X0_nextSecond rfl rfl rfl (by decide +kernel) ⟨Nat.le_of_ble_eq_true rfl, Nat.le_of_ble_eq_true rfl⟩) (wX_rc hW) wX_bl (wX_in hW hw) rfl hl.1 rfl (Nat.le_of_ble_eq_true rfl) dX0_firstSailing_66 ⟨Nat.le_of_ble_eq_true rfl, Nat.le_of_ble_eq_true rfl⟩ (fun r7 hw => ?_)
      refine lv_lstore (lv' := [(17, .long r7), (15, .long r5), (0, .ref h0), (1, .long v1), (3, .long v3), (5, .long v5), (7, .long v7), (9, .long v9), (11, .int v11), (12, .long v12), (14, .int v14)]) hx hb dX0_firstSailing_69 hl (by decide) rfl (fun ls hl => ?_)
      refine lv_lload hx hb dX0_firstSailing_71 (lv_at hl 0 rfl) ?_
      refine lv_lload hx hb dX0_firstSailing_73 (lv_at hl 6 rfl) ?_
      refine bl_le (tgt := 84) hx hb dX0_firstSailing_75 dX0_firstSailing_76 (by decide) (fun c8 => ?_) (fun c8 => ?_)
      · have hw := hw.1 c8
        refine lv_lload hx hb dX0_firstSailing_84 (lv_at hl 0 rfl) ?_
        refine lv_lload hx hb dX0_firstSailing_86 (lv_at hl 1 rfl) ?_
        refine lv_lsub hx hb dX0_firstSailing_88 ?_
        refine lv_lstore (lv' := [(9, .long (r7 - r5)), (17, .long r7), (15, .long r5), (0, .ref h0), (1, .long v1), (3, .long v3), (5, .long v5), (7, .long v7), (11, .int v11), (12, .long v12), (14, .int v14)]) hx hb dX0_firstSailing_89 hl (by decide) rfl (fun ls hl => ?_)
        refine lv_iinc (v := (v14 + 1)) (lv' := [(14, .int (v14 + 1)), (9, .long (r7 - r5)), (17, .long r7), (15, .long r5), (0, .ref h0), (1, .long v1), (3, .long v3), (5, .long v5), (7, .long v7), (11, .int v11), (12, .long v12)]) hx hb dX0_firstSailing_91 hl (k := 10) rfl (by first | rfl | exact congrArg (fun z => v14 + z) (by decide)) (by decide) rfl (fun ls hl => ?_)
        refine lv_goto (tgt := 28) hx hb dX0_firstSailing_94 (by decide) ?_
        exact ih (r7 - r5) (v14 + 1) ls (lv_sub hl [4, 5, 6, 7, 8, 1, 9, 10, 0] rfl) hw
      · have hw := hw.2 c8
        refine lv_lload hx hb dX0_firstSailing_79 (lv_at hl 6 rfl) ?_
        refine lv_lconst (v := 1) hx hb dX0_firstSailing_81 (by decide) ?_
        refine lv_ladd hx hb dX0_firstSailing_82 ?_
        exact W.lret (v := (v7 + 1)) hx hb hr (fun t ht hWm => ⟨_, rfl, hw, ht⟩) t_nil dX0_firstSailing_83
set_option maxHeartbeats 4000000 in
set_option maxRecDepth 100000 in
theorem kX0_firstSailing_L13 {p : Program} {l : Launch} {e : Env} {s : State} {m : MethodId} {args : Array Value} {below : List Frame} {meth : Method} {c : Code} {D : va_G} {cJ : ClassId} {h0 a1 a2 a3 a4 a5 a6 tC tS : Nat} {u : XS} {post : Int64 → Prop} (hx : p.tables.exec = Jvm.exec) (hb : c.code = cX0_firstSailing) (hr : meth.sig.returnType = (some .long)) (hml : c.maxLocals = 19) (hown : s.vm.findClass RX0 = some m.cls) (hlocks : meth.locks = false) (hts : ∀ w ∈ wsX0_firstSailing, w.before args s = true) (hin : ∀ w ∈ u_ws RX0 TX0 9, w ∈ wsX0_firstSailing) (hW : XW D cJ h0 a1 a2 a3 a4 a5 a6 tC tS u s s.heap) (v1 : Int64) (v3 : Int64) (v5 : Int64) (v7 : Int64) : ∀ (n : Nat) (v9 : Int64) (v11 : Int32) (ls : Array Slot), lv_has ls 19 [(0, .ref h0), (1, .long v1), (3, .long v3), (5, .long v5), (7, .long v7), (9, .long v9), (11, .int v11)] → wX0_firstSailing_L13 post u v1 v3 v7 n v9 v11 → W p l e ({ frames := 5, cells := 0, slots := 0, locals := 143 } : Room) s m args below meth c s.heap [] 0 0 (MQ below (vp_Sl post) args s 0 0 nA) (F0 m 13 ls []) := by
  intro n
  induction n with
  | zero =>
    intro v9 v11 ls hl hw
    exact hw.elim
  | succ n ih =>
    intro v9 v11 ls hl hw
    rw [wX0_firstSailing_L13] at hw
    refine lv_iload hx hb dX0_firstSailing_13 (lv_at hl 6 rfl) ?_
    refine lv_sipush (v := 20000) hx hb dX0_firstSailing_15 (by decide) ?_
    refine lv_icmp_gt (tgt := 114) hx hb dX0_firstSailing_18 (by decide) (fun c2 => ?_) (fun c2 => ?_)
    · have hw := hw.1 c2
      refine lv_lload hx hb dX0_firstSailing_114 (lv_at hl 4 rfl) ?_
      refine lv_lconst (v := 1) hx hb dX0_firstSailing_116 (by decide) ?_
      refine lv_ladd hx hb dX0_firstSailing_117 ?_
      exact W.lret (v := (v7 + 1)) hx hb hr (fun t ht hWm => ⟨_, rfl, hw, ht⟩) t_nil dX0_firstSailing_118
    · have hw := hw.2 c2
      refine lv_lload hx hb dX0_firstSailing_21 (lv_at hl 5 rfl) ?_
      refine lv_lstore (lv' := [(12, .long v9), (0, .ref h0), (1, .long v1), (3, .long v3), (5, .long v5), (7, .long v7), (9, .long v9), (11, .int v11)]) hx hb dX0_firstSailing_23 hl (by decide) rfl (fun ls hl => ?_)
      refine lv_iconst (v := 0) hx hb dX0_firstSailing_25 (by decide) ?_
      refine lv_istore (lv' := [(14, .int 0), (12, .long v9), (0, .ref h0), (1, .long v1), (3, .long v3), (5, .long v5), (7, .long v7), (9, .long v9), (11, .int v11)]) hx hb dX0_firstSailing_26 hl (by decide) rfl (fun ls hl => ?_)
      obtain ⟨n9, hw⟩ := hw
      refine kX0_firstSailing_L28 hx hb hr hml hown hlocks hts hin hW v1 v3 v5 v7 v11 v9 (fun x10 x11 ls hl hw => ?_) n9 v9 0 ls (lv_sub hl [2, 3, 4, 5, 6, 7, 8, 1, 0] rfl) hw
      refine lv_lload hx hb dX0_firstSailing_97 (lv_at hl 5 rfl) ?_
      refine lv_lload hx hb dX0_firstSailing_99 (lv_at hl 7 rfl) ?_
      refine bl_ne (tgt := 108) hx hb dX0_firstSailing_101 dX0_firstSailing_102 (by decide) (fun c12 => ?_) (fun c12 => ?_)
      · have hw := hw.2 c12
        refine lv_iinc (v := (v11 + 1)) (lv' := [(11, .int (v11 + 1)), (0, .ref h0), (1, .long v1), (3, .long v3), (5, .long v5), (7, .long v7), (9, .long x10), (12, .long v9), (14, .int x11)]) hx hb dX0_firstSailing_108 hl (k := 6) rfl (by first | rfl | exact congrArg (fun z => v11 + z) (by decide)) (by decide) rfl (fun ls hl => ?_)
        refine lv_goto (tgt := 13) hx hb dX0_firstSailing_111 (by decide) ?_
        exact ih x10 (v11 + 1) ls (lv_sub hl [1, 2, 3, 4, 5, 6, 0] rfl) hw
      · have hw := hw.1 c12
        refine lv_lload hx hb dX0_firstSailing_105 (lv_at hl 5 rfl) ?_
        exact W.lret (v := x10) hx hb hr (fun t ht hWm => ⟨_, rfl, hw, ht⟩) t_nil dX0_firstSailing_107
set_option maxHeartbeats 4000000 in
set_option maxRecDepth 100000 in
theorem mX0_firstSailing (l : Launch) (D : va_G) (cJ : ClassId) (h0 a1 a2 a3 a4 a5 a6 tC tS : Nat) (u : XS) (v1 : Int64) (v3 : Int64) (v5 : Int64) (post : Int64 → Prop) : Met l yX0_firstSailing wsX0_firstSailing ({ frames := 5, cells := 0, slots := 0, locals := 143 } : Room) (va_Pc [.ref h0, .long v1, .long v3, .long v5] (fun U => XW D cJ h0 a1 a2 a3 a4 a5 a6 tC tS u U U.heap ∧ wX0_firstSailing post u v1 v3 v5)) (vp_Sl post) 0 0 nA := by
  refine Met.ofW (cc := cX0_firstSailing) (maxL := 19) (ret := (some .long)) (by decide +kernel) rfl ?_
  intro p e s m args below meth c s₁ B hml hv
  obtain ⟨rfl, hW, hw⟩ := hv
  have hx := B.exec
  have hb := B.bytes
  have hr := B.returns
  have hts := atoms_spec (ws := wsX0_firstSailing) B.pre
  have hown : s.vm.findClass RX0 = some m.cls := findClass_of_methodNamed B.named
  have hlocks := B.notSynchronized
  have hin : ∀ w ∈ u_ws RX0 TX0 9, w ∈ wsX0_firstSailing := by decide +kernel
  have hl := lv_entry ([.ref h0, .long v1, .long v3, .long v5]) (n := 19) (Nat.le_of_ble_eq_true rfl)
  rw [lg_entry_eq]
  generalize (lg_sl ([.ref h0, .long v1, .long v3, .long v5]) ++ List.replicate (19 - (lg_sl ([.ref h0, .long v1, .long v3, .long v5])).length) Slot.unset).toArray = ls at hl ⊢
  have hl : lv_has ls 19 [(0, .ref h0), (1, .long v1), (3, .long v3), (5, .long v5)] := hl
  unfold wX0_firstSailing at hw
  refine lv_aload_n hx hb dX0_firstSailing_0 rfl (lv_at hl 0 rfl) ?_
  refine pc_Vl (As := []) (rest := []) ⟨hx, hb, hml, hown, hts⟩ (mX0_lastSecond l D cJ h0 a1 a2 a3 a4 a5 a6 tC tS u _) (cwV 0 hts gX0_firstSailing_X0_lastSecond rfl rfl rfl (by decide +kernel) ⟨Nat.le_of_ble_eq_true rfl, Nat.le_of_ble_eq_true rfl⟩) (wX_rc hW) wX_bl (wX_in hW hw) rfl hl.1 rfl (Nat.le_of_ble_eq_true rfl) dX0_firstSailing_1 ⟨Nat.le_of_ble_eq_true rfl, Nat.le_of_ble_eq_true rfl⟩ (fun r1 hw => ?_)
  refine lv_lstore (lv' := [(7, .long r1), (0, .ref h0), (1, .long v1), (3, .long v3), (5, .long v5)]) hx hb dX0_firstSailing_4 hl (by decide) rfl (fun ls hl => ?_)
  refine lv_lload hx hb dX0_firstSailing_6 (lv_at hl 4 rfl) ?_
  refine lv_lstore (lv' := [(9, .long v5), (7, .long r1), (0, .ref h0), (1, .long v1), (3, .long v3), (5, .long v5)]) hx hb dX0_firstSailing_8 hl (by decide) rfl (fun ls hl => ?_)
  refine lv_iconst (v := 0) hx hb dX0_firstSailing_10 (by decide) ?_
  refine lv_istore (lv' := [(11, .int 0), (9, .long v5), (7, .long r1), (0, .ref h0), (1, .long v1), (3, .long v3), (5, .long v5)]) hx hb dX0_firstSailing_11 hl (by decide) rfl (fun ls hl => ?_)
  obtain ⟨n13, hw⟩ := hw
  exact kX0_firstSailing_L13 hx hb hr hml hown hlocks hts hin hW v1 v3 v5 r1 n13 v5 0 ls (lv_sub hl [3, 4, 5, 6, 2, 1, 0] rfl) hw

def wX0_lastSailing_L9 (post : Int64 → Prop) (u : XS) (v1 : Int64) (v3 : Int64) (v5 : Int64) : Nat → Int64 → Int32 → Prop
  | 0, _, _ => False
  | n + 1, v7, v9 => (((xNP u) ≤ v9 → (post v7)) ∧ (¬ (xNP u) ≤ v9 → (vp_in v9 12 ∧ (wX0_secondsFor (fun r4 => (vp_in v9 12 ∧ (wX0_nextSecond (fun r6 => (wX0_lastSailing_L9 post u v1 v3 v5 n (if ((r6 - 1) - r4) < v7 then ((r6 - 1) - r4) else v7) (v9 + 1))) u (v1 - ((xPB u) (v9).toNatClampNeg)) (v5 + r4) 0))) ((xPW u) (v9).toNatClampNeg) v3))))
def wX0_lastSailing (post : Int64 → Prop) (u : XS) (v1 : Int64) (v3 : Int64) (v5 : Int64) : Prop := (wX0_lastSecond (fun r1 => (∃ n7 : Nat, wX0_lastSailing_L9 post u v1 v3 v5 n7 r1 0)) u)
set_option maxHeartbeats 4000000 in
set_option maxRecDepth 100000 in
theorem kX0_lastSailing_L9 {p : Program} {l : Launch} {e : Env} {s : State} {m : MethodId} {args : Array Value} {below : List Frame} {meth : Method} {c : Code} {D : va_G} {cJ : ClassId} {h0 a1 a2 a3 a4 a5 a6 tC tS : Nat} {u : XS} {post : Int64 → Prop} (hx : p.tables.exec = Jvm.exec) (hb : c.code = cX0_lastSailing) (hr : meth.sig.returnType = (some .long)) (hml : c.maxLocals = 14) (hown : s.vm.findClass RX0 = some m.cls) (hlocks : meth.locks = false) (hts : ∀ w ∈ wsX0_lastSailing, w.before args s = true) (hin : ∀ w ∈ u_ws RX0 TX0 9, w ∈ wsX0_lastSailing) (hW : XW D cJ h0 a1 a2 a3 a4 a5 a6 tC tS u s s.heap) (v1 : Int64) (v3 : Int64) (v5 : Int64) : ∀ (n : Nat) (v7 : Int64) (v9 : Int32) (ls : Array Slot), lv_has ls 14 [(0, .ref h0), (1, .long v1), (3, .long v3), (5, .long v5), (7, .long v7), (9, .int v9)] → wX0_lastSailing_L9 post u v1 v3 v5 n v7 v9 → W p l e ({ frames := 5, cells := 0, slots := 0, locals := 143 } : Room) s m args below meth c s.heap [] 0 0 (MQ below (vp_Sl post) args s 0 0 nA) (F0 m 9 ls []) := by
  intro n
  induction n with
  | zero =>
    intro v7 v9 ls hl hw
    exact hw.elim
  | succ n ih =>
    intro v7 v9 ls hl hw
    rw [wX0_lastSailing_L9] at hw
    refine lv_iload hx hb dX0_lastSailing_9 (lv_at hl 5 rfl) ?_
    refine lv_aload_n hx hb dX0_lastSailing_11 rfl (lv_at hl 0 rfl) ?_
    refine va_get (D := D) (ci := 0) (v := .int (xNP u)) (C := RX0) (T := TX0) (N := 9) hx hb hts hin hown hW.2.1 hW.1 0 rfl rfl 8 (by decide) (hts (.fieldLink RX0 35 "TideDepths" "places" "I") (by decide +kernel)) (fun _ h9 => h9) rfl dX0_lastSailing_12 ?_
    refine lv_icmp_ge (tgt := 72) hx hb dX0_lastSailing_15 (by decide) (fun c2 => ?_) (fun c2 => ?_)
    · have hw := hw.1 c2
      refine lv_lload hx hb dX0_lastSailing_72 (lv_at hl 4 rfl) ?_
      exact W.lret (v := v7) hx hb hr (fun t ht hWm => ⟨_, rfl, hw, ht⟩) t_nil dX0_lastSailing_74
    · have hw := hw.2 c2
      refine lv_aload_n hx hb dX0_lastSailing_18 rfl (lv_at hl 0 rfl) ?_
      refine va_get (D := D) (ci := 0) (v := .ref a5) (C := RX0) (T := TX0) (N := 9) hx hb hts hin hown hW.2.1 hW.1 0 rfl rfl 6 (by decide) (hts (.fieldLink RX0 29 "TideDepths" "ways" "[J") (by decide +kernel)) (fun _ h9 => h9) rfl dX0_lastSailing_19 ?_
      refine lv_iload hx hb dX0_lastSailing_22 (lv_at hl 5 rfl) ?_
      obtain ⟨h3, hw⟩ := hw
      refine va_lald hx hb hW.2.1 hW.1 5 0 rfl rfl h3 dX0_lastSailing_24 ?_
      refine lv_lload_n hx hb dX0_lastSailing_25 rfl (lv_at hl 2 rfl) ?_
      refine pc_Sl (As := [.long ((xPW u) (v9).toNatClampNeg), .long v3]) (rest := []) ⟨hx, hb, hml, hown, hts⟩ (mX0_secondsFor l ((xPW u) (v9).toNatClampNeg) v3 _) (va_cwS 2 hts gX0_lastSailing_X0_secondsFor rfl rfl rfl (by decide +kernel) ⟨Nat.le_of_ble_eq_true rfl, Nat.le_of_ble_eq_true rfl⟩) wK_bl (fun _ _ _ => hw) rfl hl.1 rfl (Nat.le_of_ble_eq_true rfl) dX0_lastSailing_26 ⟨Nat.le_of_ble_eq_true rfl, Nat.le_of_ble_eq_true rfl⟩ (fun r4 hw => ?_)
      refine lv_lstore (lv' := [(10, .long r4), (0, .ref h0), (1, .long v1), (3, .long v3), (5, .long v5), (7, .long v7), (9, .int v9)]) hx hb dX0_lastSailing_29 hl (by decide) rfl (fun ls hl => ?_)
      refine lv_aload_n hx hb dX0_lastSailing_31 rfl (lv_at hl 1 rfl) ?_
      refine lv_lload_n hx hb dX0_lastSailing_32 rfl (lv_at hl 2 rfl) ?_
      refine lv_aload_n hx hb dX0_lastSailing_33 rfl (lv_at hl 1 rfl) ?_
      refine va_get (D := D) (ci := 0) (v := .ref a6) (C := RX0) (T := TX0) (N := 9) hx hb hts hin hown hW.2.1 hW.1 0 rfl rfl 7 (by decide) (hts (.fieldLink RX0 32 "TideDepths" "bases" "[J") (by decide +kernel)) (fun _ h9 => h9) rfl dX0_lastSailing_34 ?_
      refine lv_iload hx hb dX0_lastSailing_37 (lv_at hl 6 rfl) ?_
      obtain ⟨h5, hw⟩ := hw
      refine va_lald hx hb hW.2.1 hW.1 6 0 rfl rfl h5 dX0_lastSailing_39 ?_
      refine lv_lsub hx hb dX0_lastSailing_40 ?_
      refine lv_lload hx hb dX0_lastSailing_41 (lv_at hl 4 rfl) ?_
      refine lv_lload hx hb dX0_lastSailing_43 (lv_at hl 0 rfl) ?_
      refine lv_ladd hx hb dX0_lastSailing_45 ?_
      refine lv_iconst (v := 0) hx hb dX0_lastSailing_46 (by decide) ?_
      refine pc_Vl (As := [.long (v1 - ((xPB u) (v9).toNatClampNeg)), .long (v5 + r4), .int 0]) (rest := []) ⟨hx, hb, hml, hown, hts⟩ (mX0_nextSecond l D cJ h0 a1 a2 a3 a4 a5 a6 tC tS u (v1 - ((xPB u) (v9).toNatClampNeg)) (v5 + r4) 0 _) (cwV 3 hts gX0_lastSailing_X0_nextSecond rfl rfl rfl (by decide +kernel) ⟨Nat.le_of_ble_eq_true rfl, Nat.le_of_ble_eq_true rfl⟩) (wX_rc hW) wX_bl (wX_in hW hw) rfl hl.1 rfl (Nat.le_of_ble_eq_true rfl) dX0_lastSailing_47 ⟨Nat.le_of_ble_eq_true rfl, Nat.le_of_ble_eq_true rfl⟩ (fun r6 hw => ?_)
      refine lv_lstore (lv' := [(12, .long r6), (10, .long r4), (0, .ref h0), (1, .long v1), (3, .long v3), (5, .long v5), (7, .long v7), (9, .int v9)]) hx hb dX0_lastSailing_50 hl (by decide) rfl (fun ls hl => ?_)
      refine lv_lload hx hb dX0_lastSailing_52 (lv_at hl 6 rfl) ?_
      refine lv_lload hx hb dX0_lastSailing_54 (lv_at hl 0 rfl) ?_
      refine lv_lconst (v := 1) hx hb dX0_lastSailing_56 (by decide) ?_
      refine lv_lsub hx hb dX0_lastSailing_57 ?_
      refine lv_lload hx hb dX0_lastSailing_58 (lv_at hl 1 rfl) ?_
      refine lv_lsub hx hb dX0_lastSailing_60 ?_
      refine va_mmin_long hx hb (hml.trans hl.1.symm) hown (hts (.methodLink RX0 218 Lib.MathLoose.min_long.x) (by decide +kernel)) (hts (.static Lib.MathLoose.min_long.x) (by decide +kernel)) (hts (.initialized "java/lang/Math") (by decide +kernel)) (hts (.code Lib.MathLoose.min_long.x Lib.MathLoose.min_long.code 4 (some .long)) (by decide +kernel)) (Nat.le_of_ble_eq_true rfl) (Nat.le_of_ble_eq_true rfl) (Nat.le_of_ble_eq_true rfl) (Nat.le_of_ble_eq_true rfl) dX0_lastSailing_61 ?_
      refine lv_lstore (lv' := [(7, .long (if ((r6 - 1) - r4) < v7 then ((r6 - 1) - r4) else v7)), (12, .long r6), (10, .long r4), (0, .ref h0), (1, .long v1), (3, .long v3), (5, .long v5), (9, .int v9)]) hx hb dX0_lastSailing_64 hl (by decide) rfl (fun ls hl => ?_)
      refine lv_iinc (v := (v9 + 1)) (lv' := [(9, .int (v9 + 1)), (7, .long (if ((r6 - 1) - r4) < v7 then ((r6 - 1) - r4) else v7)), (12, .long r6), (10, .long r4), (0, .ref h0), (1, .long v1), (3, .long v3), (5, .long v5)]) hx hb dX0_lastSailing_66 hl (k := 7) rfl (by first | rfl | exact congrArg (fun z => v9 + z) (by decide)) (by decide) rfl (fun ls hl => ?_)
      refine lv_goto (tgt := 9) hx hb dX0_lastSailing_69 (by decide) ?_
      exact ih (if ((r6 - 1) - r4) < v7 then ((r6 - 1) - r4) else v7) (v9 + 1) ls (lv_sub hl [4, 5, 6, 7, 1, 0] rfl) hw
set_option maxHeartbeats 4000000 in
set_option maxRecDepth 100000 in
theorem mX0_lastSailing (l : Launch) (D : va_G) (cJ : ClassId) (h0 a1 a2 a3 a4 a5 a6 tC tS : Nat) (u : XS) (v1 : Int64) (v3 : Int64) (v5 : Int64) (post : Int64 → Prop) : Met l yX0_lastSailing wsX0_lastSailing ({ frames := 5, cells := 0, slots := 0, locals := 143 } : Room) (va_Pc [.ref h0, .long v1, .long v3, .long v5] (fun U => XW D cJ h0 a1 a2 a3 a4 a5 a6 tC tS u U U.heap ∧ wX0_lastSailing post u v1 v3 v5)) (vp_Sl post) 0 0 nA := by
  refine Met.ofW (cc := cX0_lastSailing) (maxL := 14) (ret := (some .long)) (by decide +kernel) rfl ?_
  intro p e s m args below meth c s₁ B hml hv
  obtain ⟨rfl, hW, hw⟩ := hv
  have hx := B.exec
  have hb := B.bytes
  have hr := B.returns
  have hts := atoms_spec (ws := wsX0_lastSailing) B.pre
  have hown : s.vm.findClass RX0 = some m.cls := findClass_of_methodNamed B.named
  have hlocks := B.notSynchronized
  have hin : ∀ w ∈ u_ws RX0 TX0 9, w ∈ wsX0_lastSailing := by decide +kernel
  have hl := lv_entry ([.ref h0, .long v1, .long v3, .long v5]) (n := 14) (Nat.le_of_ble_eq_true rfl)
  rw [lg_entry_eq]
  generalize (lg_sl ([.ref h0, .long v1, .long v3, .long v5]) ++ List.replicate (14 - (lg_sl ([.ref h0, .long v1, .long v3, .long v5])).length) Slot.unset).toArray = ls at hl ⊢
  have hl : lv_has ls 14 [(0, .ref h0), (1, .long v1), (3, .long v3), (5, .long v5)] := hl
  unfold wX0_lastSailing at hw
  refine lv_aload_n hx hb dX0_lastSailing_0 rfl (lv_at hl 0 rfl) ?_
  refine pc_Vl (As := []) (rest := []) ⟨hx, hb, hml, hown, hts⟩ (mX0_lastSecond l D cJ h0 a1 a2 a3 a4 a5 a6 tC tS u _) (cwV 0 hts gX0_lastSailing_X0_lastSecond rfl rfl rfl (by decide +kernel) ⟨Nat.le_of_ble_eq_true rfl, Nat.le_of_ble_eq_true rfl⟩) (wX_rc hW) wX_bl (wX_in hW hw) rfl hl.1 rfl (Nat.le_of_ble_eq_true rfl) dX0_lastSailing_1 ⟨Nat.le_of_ble_eq_true rfl, Nat.le_of_ble_eq_true rfl⟩ (fun r1 hw => ?_)
  refine lv_lstore (lv' := [(7, .long r1), (0, .ref h0), (1, .long v1), (3, .long v3), (5, .long v5)]) hx hb dX0_lastSailing_4 hl (by decide) rfl (fun ls hl => ?_)
  refine lv_iconst (v := 0) hx hb dX0_lastSailing_6 (by decide) ?_
  refine lv_istore (lv' := [(9, .int 0), (7, .long r1), (0, .ref h0), (1, .long v1), (3, .long v3), (5, .long v5)]) hx hb dX0_lastSailing_7 hl (by decide) rfl (fun ls hl => ?_)
  obtain ⟨n7, hw⟩ := hw
  exact kX0_lastSailing_L9 hx hb hr hml hown hlocks hts hin hW v1 v3 v5 n7 r1 0 ls (lv_sub hl [2, 3, 4, 5, 1, 0] rfl) hw

def wX0_count (post : Int32 → Prop) (u : XS) (v1 : Int32) : Prop := ((v1 = 0 → (post (xNT u))) ∧ (¬ v1 = 0 → ((v1 = 1 → (post (xNO u))) ∧ (¬ v1 = 1 → ((v1 = 2 → (post (xNP u))) ∧ (¬ v1 = 2 → ((v1 = 3 → (wX0_firstSecond (fun r2 => (post (r2).toInt32)) u)) ∧ (¬ v1 = 3 → ((v1 = 4 → (wX0_lastSecond (fun r3 => (post (r3).toInt32)) u)) ∧ (¬ v1 = 4 → (post (-1))))))))))))

set_option maxHeartbeats 4000000 in
set_option maxRecDepth 100000 in
theorem mX0_count (l : Launch) (D : va_G) (cJ : ClassId) (h0 a1 a2 a3 a4 a5 a6 tC tS : Nat) (u : XS) (v1 : Int32) (post : Int32 → Prop) : Met l yX0_count wsX0_count ({ frames := 2, cells := 0, slots := 0, locals := 40 } : Room) (va_Pc [.ref h0, .int v1] (fun U => XW D cJ h0 a1 a2 a3 a4 a5 a6 tC tS u U U.heap ∧ wX0_count post u v1)) (vp_Si post) 0 0 nA := by
  refine Met.ofW (cc := cX0_count) (maxL := 2) (ret := (some .int)) (by decide +kernel) rfl ?_
  intro p e s m args below meth c s₁ B hml hv
  obtain ⟨rfl, hW, hw⟩ := hv
  have hx := B.exec
  have hb := B.bytes
  have hr := B.returns
  have hts := atoms_spec (ws := wsX0_count) B.pre
  have hown : s.vm.findClass RX0 = some m.cls := findClass_of_methodNamed B.named
  have hlocks := B.notSynchronized
  have hin : ∀ w ∈ u_ws RX0 TX0 9, w ∈ wsX0_count := by decide +kernel
  have hl := lv_entry ([.ref h0, .int v1]) (n := 2) (Nat.le_of_ble_eq_true rfl)
  rw [lg_entry_eq]
  generalize (lg_sl ([.ref h0, .int v1]) ++ List.replicate (2 - (lg_sl ([.ref h0, .int v1])).length) Slot.unset).toArray = ls at hl ⊢
  have hl : lv_has ls 2 [(0, .ref h0), (1, .int v1)] := hl
  unfold wX0_count at hw
  refine lv_iload_n hx hb dX0_count_0 rfl (lv_at hl 1 rfl) ?_
  by_cases c1_0 : v1 = 0
  · have hw := hw.1 c1_0
    refine lv_tableIn (tgt := 36) hx hb dX0_count_1 (by rw [c1_0]; decide) (by rw [c1_0]; decide) (by rw [c1_0]; rfl) (by decide) ?_
    refine lv_aload_n hx hb dX0_count_36 rfl (lv_at hl 0 rfl) ?_
    refine va_get (D := D) (ci := 0) (v := .int (xNT u)) (C := RX0) (T := TX0) (N := 9) hx hb hts hin hown hW.2.1 hW.1 0 rfl rfl 2 (by decide) (hts (.fieldLink RX0 16 "TideDepths" "turns" "I") (by decide +kernel)) (fun _ h9 => h9) rfl dX0_count_37 ?_
    exact W.iret (v := (xNT u)) hx hb hr (fun t ht hWm => ⟨_, rfl, hw, ht⟩) t_nil dX0_count_40
  have hw := hw.2 c1_0
  by_cases c1_1 : v1 = 1
  · have hw := hw.1 c1_1
    refine lv_tableIn (tgt := 41) hx hb dX0_count_1 (by rw [c1_1]; decide) (by rw [c1_1]; decide) (by rw [c1_1]; rfl) (by decide) ?_
    refine lv_aload_n hx hb dX0_count_41 rfl (lv_at hl 0 rfl) ?_
    refine va_get (D := D) (ci := 0) (v := .int (xNO u)) (C := RX0) (T := TX0) (N := 9) hx hb hts hin hown hW.2.1 hW.1 0 rfl rfl 5 (by decide) (hts (.fieldLink RX0 26 "TideDepths" "observations" "I") (by decide +kernel)) (fun _ h9 => h9) rfl dX0_count_42 ?_
    exact W.iret (v := (xNO u)) hx hb hr (fun t ht hWm => ⟨_, rfl, hw, ht⟩) t_nil dX0_count_45
  have hw := hw.2 c1_1
  by_cases c1_2 : v1 = 2
  · have hw := hw.1 c1_2
    refine lv_tableIn (tgt := 46) hx hb dX0_count_1 (by rw [c1_2]; decide) (by rw [c1_2]; decide) (by rw [c1_2]; rfl) (by decide) ?_
    refine lv_aload_n hx hb dX0_count_46 rfl (lv_at hl 0 rfl) ?_
    refine va_get (D := D) (ci := 0) (v := .int (xNP u)) (C := RX0) (T := TX0) (N := 9) hx hb hts hin hown hW.2.1 hW.1 0 rfl rfl 8 (by decide) (hts (.fieldLink RX0 35 "TideDepths" "places" "I") (by decide +kernel)) (fun _ h9 => h9) rfl dX0_count_47 ?_
    exact W.iret (v := (xNP u)) hx hb hr (fun t ht hWm => ⟨_, rfl, hw, ht⟩) t_nil dX0_count_50
  have hw := hw.2 c1_2
  by_cases c1_3 : v1 = 3
  · have hw := hw.1 c1_3
    refine lv_tableIn (tgt := 51) hx hb dX0_count_1 (by rw [c1_3]; decide) (by rw [c1_3]; decide) (by rw [c1_3]; rfl) (by decide) ?_
    refine lv_aload_n hx hb dX0_count_51 rfl (lv_at hl 0 rfl) ?_
    refine pc_Vl (As := []) (rest := []) ⟨hx, hb, hml, hown, hts⟩ (mX0_firstSecond l D cJ h0 a1 a2 a3 a4 a5 a6 tC tS u _) (cwV 0 hts gX0_count_X0_firstSecond rfl rfl rfl (by decide +kernel) ⟨Nat.le_of_ble_eq_true rfl, Nat.le_of_ble_eq_true rfl⟩) (wX_rc hW) wX_bl (wX_in hW hw) rfl hl.1 rfl (Nat.le_of_ble_eq_true rfl) dX0_count_52 ⟨Nat.le_of_ble_eq_true rfl, Nat.le_of_ble_eq_true rfl⟩ (fun r2 hw => ?_)
    refine lv_l2i (v := (r2).toInt32) hx hb dX0_count_55 rfl ?_
    exact W.iret (v := (r2).toInt32) hx hb hr (fun t ht hWm => ⟨_, rfl, hw, ht⟩) t_nil dX0_count_56
  have hw := hw.2 c1_3
  by_cases c1_4 : v1 = 4
  · have hw := hw.1 c1_4
    refine lv_tableIn (tgt := 57) hx hb dX0_count_1 (by rw [c1_4]; decide) (by rw [c1_4]; decide) (by rw [c1_4]; rfl) (by decide) ?_
    refine lv_aload_n hx hb dX0_count_57 rfl (lv_at hl 0 rfl) ?_
    refine pc_Vl (As := []) (rest := []) ⟨hx, hb, hml, hown, hts⟩ (mX0_lastSecond l D cJ h0 a1 a2 a3 a4 a5 a6 tC tS u _) (cwV 0 hts gX0_count_X0_lastSecond rfl rfl rfl (by decide +kernel) ⟨Nat.le_of_ble_eq_true rfl, Nat.le_of_ble_eq_true rfl⟩) (wX_rc hW) wX_bl (wX_in hW hw) rfl hl.1 rfl (Nat.le_of_ble_eq_true rfl) dX0_count_58 ⟨Nat.le_of_ble_eq_true rfl, Nat.le_of_ble_eq_true rfl⟩ (fun r3 hw => ?_)
    refine lv_l2i (v := (r3).toInt32) hx hb dX0_count_61 rfl ?_
    exact W.iret (v := (r3).toInt32) hx hb hr (fun t ht hWm => ⟨_, rfl, hw, ht⟩) t_nil dX0_count_62
  have hw := hw.2 c1_4
  refine lv_tableOut (tgt := 63) hx hb dX0_count_1 (tsw_4 c1_0 c1_1 c1_2 c1_3 c1_4) (by decide) ?_
  refine lv_iconst (v := (-1)) hx hb dX0_count_63 (by decide) ?_
  exact W.iret (v := (-1)) hx hb hr (fun t ht hWm => ⟨_, rfl, hw, ht⟩) t_nil dX0_count_64
