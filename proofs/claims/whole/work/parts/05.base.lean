/-! OUR WORDS: the class's cells, the reference's cells, the static tables, and rows for calls of methods that write nothing -/
def cosL : List Int32 := [0, 20, 79, 177, 315, 491, 705, 958, 1247, 1573, 1935, 2331, 2761, 3224, 3719, 4244, 4799, 5381, 5990, 6624, 7282, 7961, 8661, 9379, 10114, 10864, 11628, 12403, 13188, 13980, 14778, 15580, 16384, 17188, 17990, 18788, 19580, 20365, 21140, 21904, 22654, 23389, 24107, 24807, 25486, 26144, 26778, 27387, 27969, 28524, 29049, 29544, 30007, 30437, 30833, 31195, 31521, 31810, 32063, 32277, 32453, 32591, 32689, 32748, 32768]
def cosT (j : Nat) : Int32 := cosL.getD j 0
def sqL : List Int32 := [0, 3, 11, 24, 43, 68, 100]
def sqT (j : Nat) : Int32 := sqL.getD j 0
abbrev cls2 : List vw_C := [(RX0, TX0, 9), (RX1, TX1, 12)]
/-- what the class's cells hold: times and heights of the turns, their number; of the observations; of the places -/
abbrev XS : Type := (Nat → Int64) × (Nat → Int64) × Int32 × (Nat → Int64) × (Nat → Int64) × Int32 × (Nat → Int64) × (Nat → Int64) × Int32
abbrev xTT (u : XS) : Nat → Int64 := u.1
abbrev xTH (u : XS) : Nat → Int64 := u.2.1
abbrev xNT (u : XS) : Int32 := u.2.2.1
abbrev xOT (u : XS) : Nat → Int64 := u.2.2.2.1
abbrev xOD (u : XS) : Nat → Int64 := u.2.2.2.2.1
abbrev xNO (u : XS) : Int32 := u.2.2.2.2.2.1
abbrev xPW (u : XS) : Nat → Int64 := u.2.2.2.2.2.2.1
abbrev xPB (u : XS) : Nat → Int64 := u.2.2.2.2.2.2.2.1
abbrev xNP (u : XS) : Int32 := u.2.2.2.2.2.2.2.2
abbrev x0W (cJ : ClassId) (h0 a1 a2 a3 a4 a5 a6 : Nat) (u : XS) : va_W := [(h0, .inr (0, [.ref a1, .ref a2, .int (xNT u), .ref a3, .ref a4, .int (xNO u), .ref a5, .ref a6, .int (xNP u)])), (a1, .inl (cJ, 40, .inr (.inl (xTT u)))), (a2, .inl (cJ, 40, .inr (.inl (xTH u)))), (a3, .inl (cJ, 16, .inr (.inl (xOT u)))), (a4, .inl (cJ, 16, .inr (.inl (xOD u)))), (a5, .inl (cJ, 12, .inr (.inl (xPW u)))), (a6, .inl (cJ, 12, .inr (.inl (xPB u))))]
/-- the static tables -/
def SW (A : Nat → Prop) (tC tS : Nat) (U : State) (H : Heap) : Prop := va_Z "TideDepths" "COSINE" "[I" (.ref tC) A U H ∧ va_T .int tC 65 (fun j => .int (cosT j)) A U H ∧ va_Z "TideDepths" "SQUAT_ROWS" "[I" (.ref tS) A U H ∧ va_T .int tS 7 (fun j => .int (sqT j)) A U H
theorem SW.moved {A : Nat → Prop} {tC tS : Nat} {u U : State} {H : Heap} (hvm : u.vm.Alike U.vm) (h : SW A tC tS u H) : SW A tC tS U H := ⟨va_Z.moved hvm h.1, va_T.moved hvm h.2.1, va_Z.moved hvm h.2.2.1, va_T.moved hvm h.2.2.2⟩
theorem SW.kept {A : Nat → Prop} {tC tS : Nat} {U : State} {H H1 : Heap} (h : SW A tC tS U H) (hq : ∀ a : Nat, a < H.size → ¬ A a → H1[a]? = H[a]?) : SW A tC tS U H1 := ⟨va_Z.kept h.1 hq, va_T.kept h.2.1 hq, va_Z.kept h.2.2.1 hq, va_T.kept h.2.2.2 hq⟩
theorem SW.narrow {A B : Nat → Prop} {tC tS : Nat} {U : State} {H : Heap} (h : SW A tC tS U H) (hAB : ∀ q, B q → A q) : SW B tC tS U H := ⟨va_Z.narrow h.1 hAB, va_T.narrow h.2.1 hAB, va_Z.narrow h.2.2.1 hAB, va_T.narrow h.2.2.2 hAB⟩
abbrev nA : Nat → Prop := fun _ => False
theorem nS {H : Heap} : va_S nA H H [] := va_S.rf
/-- the class's world in the heap H -/
def XW (D : va_G) (cJ : ClassId) (h0 a1 a2 a3 a4 a5 a6 tC tS : Nat) (u : XS) (U : State) (H : Heap) : Prop := va_P D cls2 (x0W cJ h0 a1 a2 a3 a4 a5 a6 u) H ∧ va_K D cls2 [(cJ, .long)] U ∧ SW nA tC tS U H
theorem XW.moved {D : va_G} {cJ : ClassId} {h0 a1 a2 a3 a4 a5 a6 tC tS : Nat} {x : XS} {u U : State} {H : Heap} (hvm : u.vm.Alike U.vm) (h : XW D cJ h0 a1 a2 a3 a4 a5 a6 tC tS x u H) : XW D cJ h0 a1 a2 a3 a4 a5 a6 tC tS x U H := ⟨h.1, va_K.moved hvm h.2.1, SW.moved hvm h.2.2⟩
/-- what the reference's cells hold -/
abbrev YS : Type := Int32 × Int32 × Int32 × Int32 × (Nat → Int32) × (Nat → Int32) × (Nat → Int32) × (Nat → Int64) × (Nat → Int64) × (Nat → Int64) × (Nat → Int32) × (Nat → Int32)
abbrev yTH (y : YS) : Int32 := y.1
abbrev yNT (y : YS) : Int32 := y.2.1
abbrev yNO (y : YS) : Int32 := y.2.2.1
abbrev yNP (y : YS) : Int32 := y.2.2.2.1
abbrev yT (y : YS) : Nat → Int32 := y.2.2.2.2.1
abbrev yH (y : YS) : Nat → Int32 := y.2.2.2.2.2.1
abbrev yO (y : YS) : Nat → Int32 := y.2.2.2.2.2.2.1
abbrev yD (y : YS) : Nat → Int64 := y.2.2.2.2.2.2.2.1
abbrev yW (y : YS) : Nat → Int64 := y.2.2.2.2.2.2.2.2.1
abbrev yB (y : YS) : Nat → Int64 := y.2.2.2.2.2.2.2.2.2.1
abbrev yC (y : YS) : Nat → Int32 := y.2.2.2.2.2.2.2.2.2.2.1
abbrev yQ (y : YS) : Nat → Int32 := y.2.2.2.2.2.2.2.2.2.2.2
abbrev x1W (cI cJ : ClassId) (k0 b1 b2 b3 b4 b5 b6 b7 b8 : Nat) (y : YS) : va_W := [(k0, .inr (1, [.int (yTH y), .int (yNT y), .int (yNO y), .int (yNP y), .ref b1, .ref b2, .ref b3, .ref b4, .ref b5, .ref b6, .ref b7, .ref b8])), (b1, .inl (cI, 40, .inl (yT y))), (b2, .inl (cI, 40, .inl (yH y))), (b3, .inl (cI, 16, .inl (yO y))), (b4, .inl (cJ, 16, .inr (.inl (yD y)))), (b5, .inl (cJ, 12, .inr (.inl (yW y)))), (b6, .inl (cJ, 12, .inr (.inl (yB y)))), (b7, .inl (cI, 65, .inl (yC y))), (b8, .inl (cI, 7, .inl (yQ y)))]
/-- the reference's world -/
def YW (D : va_G) (cI cJ : ClassId) (k0 b1 b2 b3 b4 b5 b6 b7 b8 : Nat) (y : YS) (U : State) (H : Heap) : Prop := va_P D cls2 (x1W cI cJ k0 b1 b2 b3 b4 b5 b6 b7 b8 y) H ∧ va_K D cls2 [(cI, .int), (cJ, .long)] U
theorem YW.moved {D : va_G} {cI cJ : ClassId} {k0 b1 b2 b3 b4 b5 b6 b7 b8 : Nat} {y : YS} {u U : State} {H : Heap} (hvm : u.vm.Alike U.vm) (h : YW D cI cJ k0 b1 b2 b3 b4 b5 b6 b7 b8 y u H) : YW D cI cJ k0 b1 b2 b3 b4 b5 b6 b7 b8 y U H := ⟨h.1, va_K.moved hvm h.2⟩
theorem bz_nar {r : Int32} (h : r = 0 ∨ r = 1) : narrow .boolean (.int r) = .int r := by
  rcases h with h | h
  · rw [h]; rfl
  · rw [h]; rfl
section OB
variable {p : Program} {l : Launch} {e : Env} {R : Room} {s : State} {m : MethodId} {args : Array Value} {below : List Frame} {meth : Method} {c : Code} {H : Heap} {locs : List Loc} {cells slots : Nat} {Q : State → Prop} {cc : ByteArray} {pc : Nat} {ls : Array Slot} {rest : List Value}
theorem bl_lt (hx : p.tables.exec = Jvm.exec) (hb : c.code = cc) {x y : Int64} {off : Int} {tgt : Nat} (d1 : decode cc pc = .ok (.lcmp, 1)) (d2 : decode cc (pc + 1) = .ok (.ifCond .lt off, 3)) (ht : ((pc + 1 : Nat) : Int) + off = (tgt : Int)) (kt : x < y → W p l e R s m args below meth c H locs cells slots Q (F0 m tgt ls rest)) (kf : ¬ x < y → W p l e R s m args below meth c H locs cells slots Q (F0 m (pc + 1 + 3) ls rest)) : W p l e R s m args below meth c H locs cells slots Q (F0 m pc ls (.long y :: .long x :: rest)) :=
  W.lcmp hx hb d1 (lv_if_lt hx hb d2 ht (fun h => kt ((lg_cmp_lt x y).mp h)) (fun h => kf (fun z => h ((lg_cmp_lt x y).mpr z))))
theorem bl_ge (hx : p.tables.exec = Jvm.exec) (hb : c.code = cc) {x y : Int64} {off : Int} {tgt : Nat} (d1 : decode cc pc = .ok (.lcmp, 1)) (d2 : decode cc (pc + 1) = .ok (.ifCond .ge off, 3)) (ht : ((pc + 1 : Nat) : Int) + off = (tgt : Int)) (kt : y ≤ x → W p l e R s m args below meth c H locs cells slots Q (F0 m tgt ls rest)) (kf : ¬ y ≤ x → W p l e R s m args below meth c H locs cells slots Q (F0 m (pc + 1 + 3) ls rest)) : W p l e R s m args below meth c H locs cells slots Q (F0 m pc ls (.long y :: .long x :: rest)) :=
  W.lcmp hx hb d1 (lv_if_ge hx hb d2 ht (fun h => kt ((lg_cmp_ge x y).mp h)) (fun h => kf (fun z => h ((lg_cmp_ge x y).mpr z))))
theorem bl_gt (hx : p.tables.exec = Jvm.exec) (hb : c.code = cc) {x y : Int64} {off : Int} {tgt : Nat} (d1 : decode cc pc = .ok (.lcmp, 1)) (d2 : decode cc (pc + 1) = .ok (.ifCond .gt off, 3)) (ht : ((pc + 1 : Nat) : Int) + off = (tgt : Int)) (kt : y < x → W p l e R s m args below meth c H locs cells slots Q (F0 m tgt ls rest)) (kf : ¬ y < x → W p l e R s m args below meth c H locs cells slots Q (F0 m (pc + 1 + 3) ls rest)) : W p l e R s m args below meth c H locs cells slots Q (F0 m pc ls (.long y :: .long x :: rest)) :=
  W.lcmp hx hb d1 (lv_if_gt hx hb d2 ht (fun h => kt ((lg_cmp_gt x y).mp h)) (fun h => kf (fun z => h ((lg_cmp_gt x y).mpr z))))
theorem bl_le (hx : p.tables.exec = Jvm.exec) (hb : c.code = cc) {x y : Int64} {off : Int} {tgt : Nat} (d1 : decode cc pc = .ok (.lcmp, 1)) (d2 : decode cc (pc + 1) = .ok (.ifCond .le off, 3)) (ht : ((pc + 1 : Nat) : Int) + off = (tgt : Int)) (kt : x ≤ y → W p l e R s m args below meth c H locs cells slots Q (F0 m tgt ls rest)) (kf : ¬ x ≤ y → W p l e R s m args below meth c H locs cells slots Q (F0 m (pc + 1 + 3) ls rest)) : W p l e R s m args below meth c H locs cells slots Q (F0 m pc ls (.long y :: .long x :: rest)) :=
  W.lcmp hx hb d1 (lv_if_le hx hb d2 ht (fun h => kt ((lg_cmp_le x y).mp h)) (fun h => kf (fun z => h ((lg_cmp_le x y).mpr z))))
theorem bl_eq (hx : p.tables.exec = Jvm.exec) (hb : c.code = cc) {x y : Int64} {off : Int} {tgt : Nat} (d1 : decode cc pc = .ok (.lcmp, 1)) (d2 : decode cc (pc + 1) = .ok (.ifCond .eq off, 3)) (ht : ((pc + 1 : Nat) : Int) + off = (tgt : Int)) (kt : x = y → W p l e R s m args below meth c H locs cells slots Q (F0 m tgt ls rest)) (kf : ¬ x = y → W p l e R s m args below meth c H locs cells slots Q (F0 m (pc + 1 + 3) ls rest)) : W p l e R s m args below meth c H locs cells slots Q (F0 m pc ls (.long y :: .long x :: rest)) :=
  W.lcmp hx hb d1 (lv_if_eq hx hb d2 ht (fun h => kt ((lg_cmp_eq x y).mp h)) (fun h => kf (fun z => h ((lg_cmp_eq x y).mpr z))))
theorem bl_ne (hx : p.tables.exec = Jvm.exec) (hb : c.code = cc) {x y : Int64} {off : Int} {tgt : Nat} (d1 : decode cc pc = .ok (.lcmp, 1)) (d2 : decode cc (pc + 1) = .ok (.ifCond .ne off, 3)) (ht : ((pc + 1 : Nat) : Int) + off = (tgt : Int)) (kt : ¬ x = y → W p l e R s m args below meth c H locs cells slots Q (F0 m tgt ls rest)) (kf : x = y → W p l e R s m args below meth c H locs cells slots Q (F0 m (pc + 1 + 3) ls rest)) : W p l e R s m args below meth c H locs cells slots Q (F0 m pc ls (.long y :: .long x :: rest)) :=
  W.lcmp hx hb d1 (lv_if_ne hx hb d2 ht (fun h => kt (fun z => h ((lg_cmp_eq x y).mpr z))) (fun h => kf ((lg_cmp_eq x y).mp h)))
variable {y : MethodName} {bytes : ByteArray} {maxL nL n index : Nat} {ret : Option FieldType} {ws : List Cond} {rm : Room} {Ts : List Cond} {own C : String} {b : Addr} {As : List Value} {st0 : List Value} {B : State → Prop}
/-- a static call of a method that writes nothing -/
theorem pc_Sl {post : Int64 → Prop} (S : CallFix p m c cc nL s args Ts own) (hM : Met l y ws rm (va_Pc As B) (vp_Sl post) 0 0 nA) (cw : CallB R s args own index y bytes maxL ret ws rm 0 0 n ∧ (Cond.static y).before args s = true) (hbl : ∀ U V : State, V.heap = U.heap → V.vm = U.vm → B U → B V) (hB : ∀ U : State, U.heap = H → s.vm.Alike U.vm → B U) (hn : As.length = n) (hsize : ls.size = nL) (hstack : st0 = As.reverse ++ rest) (hW : (rest.map fun v => v.category).sum ≤ 8) (hdg : decode cc pc = .ok (.invokestatic index, 3)) (hf : cells + 0 ≤ R.cells ∧ slots + 0 ≤ R.slots)
    (kk : ∀ r : Int64, post r → W p l e R s m args below meth c H locs cells slots Q (F0 m (pc + 3) ls (.long r :: rest))) : W p l e R s m args below meth c H locs cells slots Q (F0 m pc ls st0) :=
  vp_callSl (W.runS S hM cw ⟨fun a U g mk h => ⟨h.1, hbl U _ rfl rfl h.2⟩, fun U hU hWm => ⟨rfl, hB U hU hWm.alike⟩⟩ rfl hn hsize hstack (lv_room hW) hdg hf) kk
theorem pc_Si {post : Int32 → Prop} (S : CallFix p m c cc nL s args Ts own) (hM : Met l y ws rm (va_Pc As B) (vp_Si post) 0 0 nA) (cw : CallB R s args own index y bytes maxL ret ws rm 0 0 n ∧ (Cond.static y).before args s = true) (hbl : ∀ U V : State, V.heap = U.heap → V.vm = U.vm → B U → B V) (hB : ∀ U : State, U.heap = H → s.vm.Alike U.vm → B U) (hn : As.length = n) (hsize : ls.size = nL) (hstack : st0 = As.reverse ++ rest) (hW : (rest.map fun v => v.category).sum ≤ 8) (hdg : decode cc pc = .ok (.invokestatic index, 3)) (hf : cells + 0 ≤ R.cells ∧ slots + 0 ≤ R.slots)
    (kk : ∀ r : Int32, post r → W p l e R s m args below meth c H locs cells slots Q (F0 m (pc + 3) ls (.int r :: rest))) : W p l e R s m args below meth c H locs cells slots Q (F0 m pc ls st0) :=
  vp_callSi (W.runS S hM cw ⟨fun a U g mk h => ⟨h.1, hbl U _ rfl rfl h.2⟩, fun U hU hWm => ⟨rfl, hB U hU hWm.alike⟩⟩ rfl hn hsize hstack (lv_room hW) hdg hf) kk
/-- a call on an object, of a method that writes nothing -/
theorem pc_Vl {post : Int64 → Prop} (S : CallFix p m c cc nL s args Ts own) (hM : Met l y ws rm (va_Pc (.ref b :: As) B) (vp_Sl post) 0 0 nA) (cw : CallW R s args own C index y bytes maxL ret ws rm 0 0 n) (hrc : ∃ cellB : Cell, H[b]? = some cellB ∧ cellB.vm.isStatics = false ∧ s.vm.findClass C = some cellB.cls) (hbl : ∀ U V : State, V.heap = U.heap → V.vm = U.vm → B U → B V) (hB : ∀ U : State, U.heap = H → s.vm.Alike U.vm → B U) (hn : As.length = n) (hsize : ls.size = nL) (hstack : st0 = As.reverse ++ .ref b :: rest) (hW : (rest.map fun v => v.category).sum ≤ 8) (hdg : decode cc pc = .ok (.invokevirtual index, 3)) (hf : cells + 0 ≤ R.cells ∧ slots + 0 ≤ R.slots)
    (kk : ∀ r : Int64, post r → W p l e R s m args below meth c H locs cells slots Q (F0 m (pc + 3) ls (.long r :: rest))) : W p l e R s m args below meth c H locs cells slots Q (F0 m pc ls st0) :=
  vp_callSl (W.runV S hM cw ⟨fun a U g mk h => ⟨h.1, hbl U _ rfl rfl h.2⟩, hrc, fun U hU hWm => ⟨rfl, hB U hU hWm.alike⟩⟩ rfl hn hsize hstack (lv_room hW) hdg hf) kk
theorem pc_Vi {post : Int32 → Prop} (S : CallFix p m c cc nL s args Ts own) (hM : Met l y ws rm (va_Pc (.ref b :: As) B) (vp_Si post) 0 0 nA) (cw : CallW R s args own C index y bytes maxL ret ws rm 0 0 n) (hrc : ∃ cellB : Cell, H[b]? = some cellB ∧ cellB.vm.isStatics = false ∧ s.vm.findClass C = some cellB.cls) (hbl : ∀ U V : State, V.heap = U.heap → V.vm = U.vm → B U → B V) (hB : ∀ U : State, U.heap = H → s.vm.Alike U.vm → B U) (hn : As.length = n) (hsize : ls.size = nL) (hstack : st0 = As.reverse ++ .ref b :: rest) (hW : (rest.map fun v => v.category).sum ≤ 8) (hdg : decode cc pc = .ok (.invokevirtual index, 3)) (hf : cells + 0 ≤ R.cells ∧ slots + 0 ≤ R.slots)
    (kk : ∀ r : Int32, post r → W p l e R s m args below meth c H locs cells slots Q (F0 m (pc + 3) ls (.int r :: rest))) : W p l e R s m args below meth c H locs cells slots Q (F0 m pc ls st0) :=
  vp_callSi (W.runV S hM cw ⟨fun a U g mk h => ⟨h.1, hbl U _ rfl rfl h.2⟩, hrc, fun U hU hWm => ⟨rfl, hB U hU hWm.alike⟩⟩ rfl hn hsize hstack (lv_room hW) hdg hf) kk
end OB
/-- how a world is handed to a callee: it doesn't see the frames; it moves with the machine -/
theorem wX_bl {D : va_G} {cJ : ClassId} {h0 a1 a2 a3 a4 a5 a6 tC tS : Nat} {x : XS} {K : Prop} : ∀ U V : State, V.heap = U.heap → V.vm = U.vm → (XW D cJ h0 a1 a2 a3 a4 a5 a6 tC tS x U U.heap ∧ K) → (XW D cJ h0 a1 a2 a3 a4 a5 a6 tC tS x V V.heap ∧ K) := fun U V e1 e2 h => ⟨by rw [e1]; exact XW.moved (by rw [e2]; exact Vm.Alike.refl _) h.1, h.2⟩
theorem wX_in {D : va_G} {cJ : ClassId} {h0 a1 a2 a3 a4 a5 a6 tC tS : Nat} {x : XS} {K : Prop} {s : State} {H : Heap} (hW : XW D cJ h0 a1 a2 a3 a4 a5 a6 tC tS x s H) (hw : K) : ∀ U : State, U.heap = H → s.vm.Alike U.vm → (XW D cJ h0 a1 a2 a3 a4 a5 a6 tC tS x U U.heap ∧ K) := fun U e1 e2 => ⟨by rw [e1]; exact XW.moved e2 hW, hw⟩
theorem wX_rc {D : va_G} {cJ : ClassId} {h0 a1 a2 a3 a4 a5 a6 tC tS : Nat} {x : XS} {s : State} {H : Heap} (hW : XW D cJ h0 a1 a2 a3 a4 a5 a6 tC tS x s H) : ∃ cellB : Cell, H[h0]? = some cellB ∧ cellB.vm.isStatics = false ∧ s.vm.findClass RX0 = some cellB.cls := va_recv (ci := 0) (q0 := 0) hW.2.1 hW.1 rfl rfl
theorem wY_bl {D : va_G} {cI cJ : ClassId} {k0 b1 b2 b3 b4 b5 b6 b7 b8 : Nat} {y : YS} {K : Prop} : ∀ U V : State, V.heap = U.heap → V.vm = U.vm → (YW D cI cJ k0 b1 b2 b3 b4 b5 b6 b7 b8 y U U.heap ∧ K) → (YW D cI cJ k0 b1 b2 b3 b4 b5 b6 b7 b8 y V V.heap ∧ K) := fun U V e1 e2 h => ⟨by rw [e1]; exact YW.moved (by rw [e2]; exact Vm.Alike.refl _) h.1, h.2⟩
theorem wY_in {D : va_G} {cI cJ : ClassId} {k0 b1 b2 b3 b4 b5 b6 b7 b8 : Nat} {y : YS} {K : Prop} {s : State} {H : Heap} (hW : YW D cI cJ k0 b1 b2 b3 b4 b5 b6 b7 b8 y s H) (hw : K) : ∀ U : State, U.heap = H → s.vm.Alike U.vm → (YW D cI cJ k0 b1 b2 b3 b4 b5 b6 b7 b8 y U U.heap ∧ K) := fun U e1 e2 => ⟨by rw [e1]; exact YW.moved e2 hW, hw⟩
theorem wY_rc {D : va_G} {cI cJ : ClassId} {k0 b1 b2 b3 b4 b5 b6 b7 b8 : Nat} {y : YS} {s : State} {H : Heap} (hW : YW D cI cJ k0 b1 b2 b3 b4 b5 b6 b7 b8 y s H) : ∃ cellB : Cell, H[k0]? = some cellB ∧ cellB.vm.isStatics = false ∧ s.vm.findClass RX1 = some cellB.cls := va_recv (ci := 1) (q0 := 0) hW.2 hW.1 rfl rfl
theorem wK_bl {K : Prop} : ∀ U V : State, V.heap = U.heap → V.vm = U.vm → (fun _ : State => K) U → (fun _ : State => K) V := fun _ _ _ _ h => h
theorem wS_bl {tC tS : Nat} {K : Prop} : ∀ U V : State, V.heap = U.heap → V.vm = U.vm → (SW nA tC tS U U.heap ∧ K) → (SW nA tC tS V V.heap ∧ K) := fun U V e1 e2 h => ⟨by rw [e1]; exact SW.moved (by rw [e2]; exact Vm.Alike.refl _) h.1, h.2⟩
theorem wS_in {tC tS : Nat} {K : Prop} {s : State} {H : Heap} (hW : SW nA tC tS s H) (hw : K) : ∀ U : State, U.heap = H → s.vm.Alike U.vm → (SW nA tC tS U U.heap ∧ K) := fun U e1 e2 => ⟨by rw [e1]; exact SW.moved e2 hW, hw⟩
/-- one row of longs -/
def AW (D : va_G) (cJ : ClassId) (a n : Nat) (f : Nat → Int64) (U : State) (H : Heap) : Prop := va_P D cls2 [(a, .inl (cJ, n, .inr (.inl f)))] H ∧ va_K D cls2 [(cJ, .long)] U
theorem wA_bl {D : va_G} {cJ : ClassId} {a n : Nat} {f : Nat → Int64} {K : Prop} : ∀ U V : State, V.heap = U.heap → V.vm = U.vm → (AW D cJ a n f U U.heap ∧ K) → (AW D cJ a n f V V.heap ∧ K) := fun U V e1 e2 h => ⟨⟨by rw [e1]; exact h.1.1, va_K.moved (by rw [e2]; exact Vm.Alike.refl _) h.1.2⟩, h.2⟩
theorem wA_in {D : va_G} {cJ : ClassId} {a n : Nat} {f : Nat → Int64} {K : Prop} {s : State} {H : Heap} (hW : AW D cJ a n f s H) (hw : K) : ∀ U : State, U.heap = H → s.vm.Alike U.vm → (AW D cJ a n f U U.heap ∧ K) := fun U e1 e2 => ⟨⟨by rw [e1]; exact hW.1, va_K.moved e2 hW.2⟩, hw⟩
theorem i32_ne {v k : Int32} (h : ¬ v = k) : v.toInt ≠ k.toInt := fun e => h (Int32.toInt_inj.mp e)
theorem tsw_4 {v : Int32} (h0 : ¬ v = 0) (h1 : ¬ v = 1) (h2 : ¬ v = 2) (h3 : ¬ v = 3) (h4 : ¬ v = 4) : v.toInt < 0 ∨ 4 < v.toInt := by
  have e0 := i32_ne h0
  have e1 := i32_ne h1
  have e2 := i32_ne h2
  have e3 := i32_ne h3
  have e4 := i32_ne h4
  rw [show (0 : Int32).toInt = 0 by decide] at e0
  rw [show (1 : Int32).toInt = 1 by decide] at e1
  rw [show (2 : Int32).toInt = 2 by decide] at e2
  rw [show (3 : Int32).toInt = 3 by decide] at e3
  rw [show (4 : Int32).toInt = 4 by decide] at e4
  omega
