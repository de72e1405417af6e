/-! the law's helpers: the class's cells and the row 'out' -/
abbrev lW (cJ : ClassId) (h0 a1 a2 a3 a4 a5 a6 qo : Nat) (u : XS) (f : Nat → Int64) : va_W := (qo, .inl (cJ, 1, .inr (.inl f))) :: x0W cJ h0 a1 a2 a3 a4 a5 a6 u
/-- which exceptions are no others -/
def NCs (U : State) : Prop := va_Nc (exN 1) (exN 0) U ∧ va_Nc (exN 2) (exN 0) U ∧ va_Nc (exN 0) (exN 3) U ∧ va_Nc (exN 2) (exN 1) U
theorem NCs.moved {u U : State} (hvm : u.vm.Alike U.vm) (h : NCs u) : NCs U := ⟨va_Nc.moved hvm h.1, va_Nc.moved hvm h.2.1, va_Nc.moved hvm h.2.2.1, va_Nc.moved hvm h.2.2.2⟩
theorem XE.same {D : va_G} {cJ : ClassId} {h0 a1 a2 a3 a4 a5 a6 tC tS sz : Nat} {u : XS} {U V : State} (e1 : V.heap = U.heap) (e2 : V.vm = U.vm) (h : XE D cJ h0 a1 a2 a3 a4 a5 a6 tC tS sz u U) : XE D cJ h0 a1 a2 a3 a4 a5 a6 tC tS sz u V := by
  obtain ⟨h1, h2, h3, h4, h5, h6⟩ := h
  have ha : U.vm.Alike V.vm := by rw [e2]; exact Vm.Alike.refl _
  exact ⟨by rw [e1]; exact h1, by rw [e1]; exact h2, va_K.moved ha h3, h4, by rw [e1]; exact SW.moved ha h5, by rw [e1]; exact TE.same e2 h6⟩
/-- within a helper -/
def GL (D : va_G) (cJ : ClassId) (h0 a1 a2 a3 a4 a5 a6 tC tS qo : Nat) (A : Nat → Prop) (u : XS) (f : Nat → Int64) (s : State) (H : Heap) (locs : List Loc) : Prop := va_P D cls2 (lW cJ h0 a1 a2 a3 a4 a5 a6 qo u f) H ∧ va_K D cls2 [(cJ, .long)] s ∧ va_D A (lW cJ h0 a1 a2 a3 a4 a5 a6 qo u f) ∧ va_S A s.heap H locs ∧ (∀ q, s.heap.size ≤ q → A q) ∧ SW A tC tS s s.heap ∧ TE A s s.heap
theorem GL.toXE {D : va_G} {cJ : ClassId} {h0 a1 a2 a3 a4 a5 a6 tC tS qo : Nat} {A : Nat → Prop} {u : XS} {f : Nat → Int64} {s : State} {H : Heap} {locs : List Loc} (hG : GL D cJ h0 a1 a2 a3 a4 a5 a6 tC tS qo A u f s H locs) {U : State} (hU : U.heap = H) (hWm : s.WarmedH U.vm) : XE D cJ h0 a1 a2 a3 a4 a5 a6 tC tS H.size u U := by
  obtain ⟨hP, hK, hD, hS, hA, hZ, hT⟩ := hG
  have hF := va_free (wc := x0W cJ h0 a1 a2 a3 a4 a5 a6 u) hD hS hA [1, 2, 3, 4, 5, 6, 7] rfl
  refine ⟨by rw [hU], by rw [hU]; exact hP.sub [1, 2, 3, 4, 5, 6, 7] rfl, va_K.moved hWm.alike hK, (hD.sub [1, 2, 3, 4, 5, 6, 7] (by decide) rfl).weaken (fun _ _ _ _ => trivial), ?_, ?_⟩
  · rw [hU]; exact SW.moved hWm.alike ((SW.kept hZ hS.2.1).narrow hF)
  · rw [hU]; exact ⟨ZQ.moved hWm.alike ((ZQ.kept hT.1 hS.2.1).narrow hF), hT.2.1.warm hWm, hT.2.2.warm hWm⟩
/-- at a helper's entry -/
def LE (D : va_G) (cJ : ClassId) (h0 a1 a2 a3 a4 a5 a6 tC tS qo sz : Nat) (u : XS) (f : Nat → Int64) (U : State) : Prop := U.heap.size = sz ∧ va_P D cls2 (lW cJ h0 a1 a2 a3 a4 a5 a6 qo u f) U.heap ∧ va_K D cls2 [(cJ, .long)] U ∧ va_D (fun _ => True) (lW cJ h0 a1 a2 a3 a4 a5 a6 qo u f) ∧ SW (va_A (lW cJ h0 a1 a2 a3 a4 a5 a6 qo u f) sz) tC tS U U.heap ∧ TE (va_A (lW cJ h0 a1 a2 a3 a4 a5 a6 qo u f) sz) U U.heap ∧ NCs U
theorem LE.same {D : va_G} {cJ : ClassId} {h0 a1 a2 a3 a4 a5 a6 tC tS qo sz : Nat} {u : XS} {f : Nat → Int64} {U V : State} (e1 : V.heap = U.heap) (e2 : V.vm = U.vm) (h : LE D cJ h0 a1 a2 a3 a4 a5 a6 tC tS qo sz u f U) : LE D cJ h0 a1 a2 a3 a4 a5 a6 tC tS qo sz u f V := by
  obtain ⟨h1, h2, h3, h4, h5, h6, h7⟩ := h
  have ha : U.vm.Alike V.vm := by rw [e2]; exact Vm.Alike.refl _
  exact ⟨by rw [e1]; exact h1, by rw [e1]; exact h2, va_K.moved ha h3, h4, by rw [e1]; exact SW.moved ha h5, by rw [e1]; exact TE.same e2 h6, h7.moved ha⟩
abbrev LTt (D : va_G) (cJ : ClassId) (h0 a1 a2 a3 a4 a5 a6 qo : Nat) (A : Nat → Prop) (w : XS × (Nat → Int64)) (t : State) : Prop := va_P D cls2 (lW cJ h0 a1 a2 a3 a4 a5 a6 qo w.1 w.2) t.heap ∧ va_K D cls2 [(cJ, .long)] t ∧ va_D A (lW cJ h0 a1 a2 a3 a4 a5 a6 qo w.1 w.2)
def wsL_cosineX : List Cond := .codeWith yL_cosine cL_cosine 4 (some .int) [(0, 9, 12, 41)] :: ([.methodLink RL 37 yX0_cosine, .instanceMethod yX0_cosine, .selects RX0 yX0_cosine yX0_cosine, .initialized RX0, .classLink RL 41 "java/lang/ArrayIndexOutOfBoundsException"] ++ wsX0_cosineX)
theorem gL_cosine_X0_cosineX : GoodIn wsL_cosineX (wsV RL 37 RX0 yX0_cosine wsX0_cosineX) := goodIn_app (goodIn_of _ (by decide +kernel)) (fun w h => ⟨List.mem_cons_of_mem _ (List.mem_append_right _ h), good_of_word ((by decide +kernel : ∀ w ∈ wsX0_cosineX, goodWord w = true) w h)⟩)
/-- a call of the class's public method out of a helper of the law: it returns, or throws; the row 'out' stays -/
theorem Lc_i {p : Program} {l : Launch} {e : Env} {R : Room} {s : State} {m : MethodId} {args : Array Value} {below : List Frame} {meth : Method} {c : Code} {H : Heap} {locs : List Loc} {Q : State → Prop} {cc : ByteArray} {pc : Nat} {ls : Array Slot} {rest : List Value} {y : MethodName} {bytes : ByteArray} {maxL nL n index : Nat} {ret : Option FieldType} {ws : List Cond} {rm : Room} {Ts : List Cond} {own : String} {As : List Value} {st0 : List Value} {D : va_G} {cJ : ClassId} {h0 a1 a2 a3 a4 a5 a6 tC tS qo : Nat} {A : Nat → Prop} {u : XS} {f : Nat → Int64} {post : Int32 → XS → Prop} {thr : Nat → Prop} {K : Prop}
    (S : CallFix p m c cc nL s args Ts own) (hM : vx_Met l y ws rm (va_Pc (.ref h0 :: As) (fun U => XE D cJ h0 a1 a2 a3 a4 a5 a6 tC tS H.size u U ∧ K)) (va_Qi post (fun u9 t9 => XT D cJ h0 a1 a2 a3 a4 a5 a6 (va_A (x0W cJ h0 a1 a2 a3 a4 a5 a6 u) H.size) u9 t9) (va_A (x0W cJ h0 a1 a2 a3 a4 a5 a6 u) H.size)) (vx_X thr (fun E9 k9 t9 => E9 = exN k9 ∧ XT D cJ h0 a1 a2 a3 a4 a5 a6 (va_A (x0W cJ h0 a1 a2 a3 a4 a5 a6 u) H.size) u t9) (va_A (x0W cJ h0 a1 a2 a3 a4 a5 a6 u) H.size)) 1 6 (va_A (x0W cJ h0 a1 a2 a3 a4 a5 a6 u) H.size)) (cw : CallW R s args own RX0 index y bytes maxL ret ws rm 1 6 n) (hG : GL D cJ h0 a1 a2 a3 a4 a5 a6 tC tS qo A u f s H locs) (hw : K) (hn : As.length = n) (hsize : ls.size = nL) (hstack : st0 = As.reverse ++ .ref h0 :: rest) (hW : (rest.map fun v => v.category).sum ≤ 8) (hdg : decode cc pc = .ok (.invokevirtual index, 3)) (hf : 0 + 1 ≤ R.cells ∧ 0 + 6 ≤ R.slots)
    (kx : ∀ (k : Nat) (q9 : Addr) (ce : Cell) (H1 : Heap) (locs1 : List Loc), thr k → GL D cJ h0 a1 a2 a3 a4 a5 a6 tC tS qo A u f s H1 locs1 → H1[q9]? = some ce → ce.vm = .none → s.vm.findClass (exN k) = some ce.cls → vx_W p l e R s m args below meth c H1 locs1 (0 + 1) (0 + 6) Q (F0 m pc ls rest) q9)
    (kk : ∀ (r : Int32) (u2 : XS) (H1 : Heap) (locs1 : List Loc), post r u2 → GL D cJ h0 a1 a2 a3 a4 a5 a6 tC tS qo A u2 f s H1 locs1 → W p l e R s m args below meth c H1 locs1 (0 + 1) (0 + 6) Q (F0 m (pc + 3) ls (.int r :: rest))) : W p l e R s m args below meth c H locs 0 0 Q (F0 m pc ls st0) := by
  obtain ⟨hP, hK, hD, hS, hA, hZ, hT⟩ := id hG
  have hF := va_free (wc := x0W cJ h0 a1 a2 a3 a4 a5 a6 u) hD hS hA [1, 2, 3, 4, 5, 6, 7] rfl
  refine vx_calli (vx_runV S hM cw ⟨fun a U g mk h => ⟨h.1, XE.same (U := U) (V := U.calling g mk a) rfl rfl h.2.1, h.2.2⟩, va_recv (ci := 0) (q0 := 1) hK hP rfl rfl, fun U hU hWm => ⟨rfl, GL.toXE hG hU hWm, hw⟩⟩ rfl hn hsize hstack (lv_room hW) hdg hf) hS (fun q _ h => hF q h) hF (fun q _ h => hF q h) (fun E ce q9 k t H1 locs1 ht hvm hk hB hz1 hk1 hS1 hce hcv hcl => ?_) (fun r u2 t H1 locs1 ht hvm hp hB hz1 hk1 hS1 => ?_)
  · obtain ⟨rfl, hP1, hK1, hD1⟩ := hB
    rw [ht] at hP1
    obtain ⟨hP2, hD2⟩ := va_join (wr := [(qo, .inl (cJ, 1, .inr (.inl f)))]) (w1 := x0W cJ h0 a1 a2 a3 a4 a5 a6 u) hP hD [1, 2, 3, 4, 5, 6, 7] [0] rfl rfl (by decide) (by decide) hk1 hF hP1 hD1
    exact kx k q9 ce H1 locs1 hk ⟨hP2, hK, hD2, hS1, hA, hZ, hT⟩ hce hcv hcl
  · obtain ⟨hP1, hK1, hD1⟩ := hB
    rw [ht] at hP1
    obtain ⟨hP2, hD2⟩ := va_join (wr := [(qo, .inl (cJ, 1, .inr (.inl f)))]) (w1 := x0W cJ h0 a1 a2 a3 a4 a5 a6 u2) hP hD [1, 2, 3, 4, 5, 6, 7] [0] rfl rfl (by decide) (by decide) hk1 hF hP1 hD1
    exact kk r u2 H1 locs1 hp ⟨hP2, hK, hD2, hS1, hA, hZ, hT⟩
/-- a call of the class's public method out of a helper of the law: it returns, or throws; the row 'out' stays -/
theorem Lc_l {p : Program} {l : Launch} {e : Env} {R : Room} {s : State} {m : MethodId} {args : Array Value} {below : List Frame} {meth : Method} {c : Code} {H : Heap} {locs : List Loc} {Q : State → Prop} {cc : ByteArray} {pc : Nat} {ls : Array Slot} {rest : List Value} {y : MethodName} {bytes : ByteArray} {maxL nL n index : Nat} {ret : Option FieldType} {ws : List Cond} {rm : Room} {Ts : List Cond} {own : String} {As : List Value} {st0 : List Value} {D : va_G} {cJ : ClassId} {h0 a1 a2 a3 a4 a5 a6 tC tS qo : Nat} {A : Nat → Prop} {u : XS} {f : Nat → Int64} {post : Int64 → XS → Prop} {thr : Nat → Prop} {K : Prop}
    (S : CallFix p m c cc nL s args Ts own) (hM : vx_Met l y ws rm (va_Pc (.ref h0 :: As) (fun U => XE D cJ h0 a1 a2 a3 a4 a5 a6 tC tS H.size u U ∧ K)) (va_Ql post (fun u9 t9 => XT D cJ h0 a1 a2 a3 a4 a5 a6 (va_A (x0W cJ h0 a1 a2 a3 a4 a5 a6 u) H.size) u9 t9) (va_A (x0W cJ h0 a1 a2 a3 a4 a5 a6 u) H.size)) (vx_X thr (fun E9 k9 t9 => E9 = exN k9 ∧ XT D cJ h0 a1 a2 a3 a4 a5 a6 (va_A (x0W cJ h0 a1 a2 a3 a4 a5 a6 u) H.size) u t9) (va_A (x0W cJ h0 a1 a2 a3 a4 a5 a6 u) H.size)) 1 6 (va_A (x0W cJ h0 a1 a2 a3 a4 a5 a6 u) H.size)) (cw : CallW R s args own RX0 index y bytes maxL ret ws rm 1 6 n) (hG : GL D cJ h0 a1 a2 a3 a4 a5 a6 tC tS qo A u f s H locs) (hw : K) (hn : As.length = n) (hsize : ls.size = nL) (hstack : st0 = As.reverse ++ .ref h0 :: rest) (hW : (rest.map fun v => v.category).sum ≤ 8) (hdg : decode cc pc = .ok (.invokevirtual index, 3)) (hf : 0 + 1 ≤ R.cells ∧ 0 + 6 ≤ R.slots)
    (kx : ∀ (k : Nat) (q9 : Addr) (ce : Cell) (H1 : Heap) (locs1 : List Loc), thr k → GL D cJ h0 a1 a2 a3 a4 a5 a6 tC tS qo A u f s H1 locs1 → H1[q9]? = some ce → ce.vm = .none → s.vm.findClass (exN k) = some ce.cls → vx_W p l e R s m args below meth c H1 locs1 (0 + 1) (0 + 6) Q (F0 m pc ls rest) q9)
    (kk : ∀ (r : Int64) (u2 : XS) (H1 : Heap) (locs1 : List Loc), post r u2 → GL D cJ h0 a1 a2 a3 a4 a5 a6 tC tS qo A u2 f s H1 locs1 → W p l e R s m args below meth c H1 locs1 (0 + 1) (0 + 6) Q (F0 m (pc + 3) ls (.long r :: rest))) : W p l e R s m args below meth c H locs 0 0 Q (F0 m pc ls st0) := by
  obtain ⟨hP, hK, hD, hS, hA, hZ, hT⟩ := id hG
  have hF := va_free (wc := x0W cJ h0 a1 a2 a3 a4 a5 a6 u) hD hS hA [1, 2, 3, 4, 5, 6, 7] rfl
  refine vx_calll (vx_runV S hM cw ⟨fun a U g mk h => ⟨h.1, XE.same (U := U) (V := U.calling g mk a) rfl rfl h.2.1, h.2.2⟩, va_recv (ci := 0) (q0 := 1) hK hP rfl rfl, fun U hU hWm => ⟨rfl, GL.toXE hG hU hWm, hw⟩⟩ rfl hn hsize hstack (lv_room hW) hdg hf) hS (fun q _ h => hF q h) hF (fun q _ h => hF q h) (fun E ce q9 k t H1 locs1 ht hvm hk hB hz1 hk1 hS1 hce hcv hcl => ?_) (fun r u2 t H1 locs1 ht hvm hp hB hz1 hk1 hS1 => ?_)
  · obtain ⟨rfl, hP1, hK1, hD1⟩ := hB
    rw [ht] at hP1
    obtain ⟨hP2, hD2⟩ := va_join (wr := [(qo, .inl (cJ, 1, .inr (.inl f)))]) (w1 := x0W cJ h0 a1 a2 a3 a4 a5 a6 u) hP hD [1, 2, 3, 4, 5, 6, 7] [0] rfl rfl (by decide) (by decide) hk1 hF hP1 hD1
    exact kx k q9 ce H1 locs1 hk ⟨hP2, hK, hD2, hS1, hA, hZ, hT⟩ hce hcv hcl
  · obtain ⟨hP1, hK1, hD1⟩ := hB
    rw [ht] at hP1
    obtain ⟨hP2, hD2⟩ := va_join (wr := [(qo, .inl (cJ, 1, .inr (.inl f)))]) (w1 := x0W cJ h0 a1 a2 a3 a4 a5 a6 u2) hP hD [1, 2, 3, 4, 5, 6, 7] [0] rfl rfl (by decide) (by decide) hk1 hF hP1 hD1
    exact kk r u2 H1 locs1 hp ⟨hP2, hK, hD2, hS1, hA, hZ, hT⟩
