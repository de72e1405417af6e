/-! methods that write, or throw: their worlds -/
def exN (k : Nat) : String := match k with
  | 0 => "java/lang/IllegalArgumentException"
  | 1 => "java/lang/IllegalStateException"
  | 2 => "java/lang/ArithmeticException"
  | 3 => "java/lang/IndexOutOfBoundsException"
  | _ => "java/lang/ArrayIndexOutOfBoundsException"
/-- the texts of the class's throws, by their entries -/
def txL : List (Nat × String) := [(50, "no such time or height"), (55, "not behind the last turn"), (59, "no room for a turn"), (68, "outside the table"), (74, "outside the table, or no such height"), (76, "ahead of the latest observation"), (78, "no room for an observation"), (85, "outside the table, or no such base, need or side"), (103, "no such speed or draft"), (110, "no such way or speed"), (114, "speed 0"), (126, "no such number of the cosine"), (132, "no such draft or density"), (137, "no such way or base"), (139, "not above the last place's way"), (141, "no room for a place"), (145, "no such place"), (148, "outside the table, or no such need"), (150, "no such speed or side"), (152, "no places"), (161, "nothing such to read")]
/-- words of a throw that the machine's warming is not known to keep by themselves -/
def tbW : List Cond := [.declares (Bundle.initS "java/lang/RuntimeException"), .declares (Bundle.initS "java/lang/Exception"), .declares (Bundle.initS "java/lang/Throwable"), .declares (Bundle.initS "java/lang/IndexOutOfBoundsException"), .castable "java/lang/IllegalArgumentException" "java/lang/IllegalArgumentException", .castable "java/lang/IllegalStateException" "java/lang/IllegalStateException", .castable "java/lang/ArithmeticException" "java/lang/ArithmeticException", .castable "java/lang/IndexOutOfBoundsException" "java/lang/IndexOutOfBoundsException", .castable "java/lang/ArrayIndexOutOfBoundsException" "java/lang/ArrayIndexOutOfBoundsException"]
theorem tbW_ot : ∀ w ∈ tbW, w.onTables = true := by decide +kernel
def TXs (U : State) : Prop := ∀ q ∈ txL, ∃ sa : Nat, vk_R RX0 q.1 q.2 sa U
def TB (U : State) : Prop := ∀ w ∈ tbW, va_Nw w U
def ZQ (A : Nat → Prop) (U : State) (H : Heap) : Prop := vx_Zq Bundle.tN "UNASSIGNED_STACK" Bundle.steD A U H ∧ vx_Zq Bundle.tN "SUPPRESSED_SENTINEL" Bundle.listD A U H
/-- what a throw needs of the start -/
def TE (A : Nat → Prop) (U : State) (H : Heap) : Prop := ZQ A U H ∧ TXs U ∧ TB U
theorem TXs.warm {s U : State} (hW : s.WarmedH U.vm) (h : TXs s) : TXs U := fun q hq => (h q hq).imp fun _ hv => vk_R.warm hW hv
theorem TXs.same {s U : State} (hv : U.vm = s.vm) (h : TXs s) : TXs U := fun q hq => (h q hq).imp fun _ h9 => vk_R.same hv h9
theorem TB.warm {s U : State} (hW : s.WarmedH U.vm) (h : TB s) : TB U := by
  intro w hw
  have h9 := h w hw
  simp only [tbW, List.mem_cons, List.not_mem_nil, or_false] at hw
  rcases hw with rfl | rfl | rfl | rfl | rfl | rfl | rfl | rfl | rfl
  · exact va_Nw.warmD hW h9
  · exact va_Nw.warmD hW h9
  · exact va_Nw.warmD hW h9
  · exact va_Nw.warmD hW h9
  · exact va_Nw.warmC hW h9
  · exact va_Nw.warmC hW h9
  · exact va_Nw.warmC hW h9
  · exact va_Nw.warmC hW h9
  · exact va_Nw.warmC hW h9
theorem TB.same {s U : State} (hv : U.vm = s.vm) (h : TB s) : TB U := fun w hw => va_Nw.same (tbW_ot w hw) hv.symm (h w hw)
theorem ZQ.moved {A : Nat → Prop} {u U : State} {H : Heap} (hvm : u.vm.Alike U.vm) (h : ZQ A u H) : ZQ A U H := ⟨vx_Zq.moved hvm h.1, vx_Zq.moved hvm h.2⟩
theorem ZQ.kept {A : Nat → Prop} {U : State} {H H1 : Heap} (h : ZQ A U H) (hq : ∀ a : Nat, a < H.size → ¬ A a → H1[a]? = H[a]?) : ZQ A U H1 := ⟨vx_Zq.kept h.1 hq, vx_Zq.kept h.2 hq⟩
theorem ZQ.narrow {A B : Nat → Prop} {U : State} {H : Heap} (h : ZQ A U H) (hAB : ∀ q, B q → A q) : ZQ B U H := ⟨vx_Zq.narrow h.1 hAB, vx_Zq.narrow h.2 hAB⟩
theorem TE.warm {A : Nat → Prop} {s U : State} {H : Heap} (hW : s.WarmedH U.vm) (h : TE A s H) : TE A U H := ⟨h.1.moved hW.alike, h.2.1.warm hW, h.2.2.warm hW⟩
theorem TE.same {A : Nat → Prop} {s U : State} {H : Heap} (hv : U.vm = s.vm) (h : TE A s H) : TE A U H := ⟨h.1.moved (by rw [hv]; exact Vm.Alike.refl _), h.2.1.same hv, h.2.2.same hv⟩
/-- the class's world at a writing method's entry -/
def XE (D : va_G) (cJ : ClassId) (h0 a1 a2 a3 a4 a5 a6 tC tS sz : Nat) (u : XS) (U : State) : Prop := U.heap.size = sz ∧ va_P D cls2 (x0W cJ h0 a1 a2 a3 a4 a5 a6 u) U.heap ∧ va_K D cls2 [(cJ, .long)] U ∧ va_D (fun _ => True) (x0W cJ h0 a1 a2 a3 a4 a5 a6 u) ∧ SW (va_A (x0W cJ h0 a1 a2 a3 a4 a5 a6 u) sz) tC tS U U.heap ∧ TE (va_A (x0W cJ h0 a1 a2 a3 a4 a5 a6 u) sz) U U.heap
/-- .. and behind it -/
abbrev XT (D : va_G) (cJ : ClassId) (h0 a1 a2 a3 a4 a5 a6 : Nat) (A : Nat → Prop) (u : XS) (t : State) : Prop := va_P D cls2 (x0W cJ h0 a1 a2 a3 a4 a5 a6 u) t.heap ∧ va_K D cls2 [(cJ, .long)] t ∧ va_D A (x0W cJ h0 a1 a2 a3 a4 a5 a6 u)
def YE (D : va_G) (cI cJ : ClassId) (k0 b1 b2 b3 b4 b5 b6 b7 b8 sz : Nat) (y : YS) (U : State) : Prop := U.heap.size = sz ∧ va_P D cls2 (x1W cI cJ k0 b1 b2 b3 b4 b5 b6 b7 b8 y) U.heap ∧ va_K D cls2 [(cI, .int), (cJ, .long)] U ∧ va_D (fun _ => True) (x1W cI cJ k0 b1 b2 b3 b4 b5 b6 b7 b8 y)
abbrev YT (D : va_G) (cI cJ : ClassId) (k0 b1 b2 b3 b4 b5 b6 b7 b8 : Nat) (A : Nat → Prop) (y : YS) (t : State) : Prop := va_P D cls2 (x1W cI cJ k0 b1 b2 b3 b4 b5 b6 b7 b8 y) t.heap ∧ va_K D cls2 [(cI, .int), (cJ, .long)] t ∧ va_D A (x1W cI cJ k0 b1 b2 b3 b4 b5 b6 b7 b8 y)
/-- the words of cosine, its throw among them -/
def wsX0_cosineX : List Cond := .code yX0_cosine cX0_cosine 2 (some .int) :: ([.fieldLink RX0 120 "TideDepths" "COSINE" "[I", .classLink RX0 124 "java/lang/ArrayIndexOutOfBoundsException", .initialized "java/lang/ArrayIndexOutOfBoundsException"] ++ (vx_atS RX0 128 "java/lang/ArrayIndexOutOfBoundsException" ["java/lang/IndexOutOfBoundsException", "java/lang/RuntimeException", "java/lang/Exception"]).filter goodWord)
/-- 'throw new E("text")' in the class, its cells as they were -/
theorem x0_throw {p : Program} {l : Launch} {e : Env} {R : Room} {s : State} {m : MethodId} {args : Array Value} {below : List Frame} {meth : Method} {c : Code} {cc : ByteArray} {pc : Nat} {ls : Array Slot} {rest : List Value} {D : va_G} {cJ : ClassId} {h0 a1 a2 a3 a4 a5 a6 : Nat} {u : XS} {A : Nat → Prop} {Qc : Array Value → State → Outcome → State → Prop} {thr : Nat → Prop} {cls text : String} {names : List String} {ik is ic k : Nat}
    (hx : p.tables.exec = Jvm.exec) (hb : c.code = cc) (hst : l.stackTraces = false) (hown : s.vm.findClass RX0 = some m.cls) (hcls : Bundle.fit cls = true) (hnames : ∀ n ∈ names, Bundle.fit n = true) (hk : (Cond.classLink RX0 ik cls).before args s = true) (hini : (Cond.initialized cls).before args s = true) (htx : (is, text) ∈ txL) (hT : TE A s s.heap)
    (h1 : ∀ w ∈ (vx_atS RX0 ic cls names).filter goodWord, w.before args s = true) (h2 : ∀ w ∈ (vx_atS RX0 ic cls names).filter (fun w => !goodWord w), w ∈ tbW) (hgood : ∀ w ∈ Cond.classLink RX0 ik cls :: Cond.initialized cls :: vx_atS RX0 ic cls names, vx_ot w = true) (hsize : ls.size = c.maxLocals)
    (d0 : decode cc pc = .ok (.new ik, 3)) (d3 : decode cc (pc + 3) = .ok (.dup, 1)) (d4 : decode cc (pc + 4) = .ok (.ldc is, 2)) (d6 : decode cc (pc + 6) = .ok (.invokespecial ic, 3)) (d9 : decode cc (pc + 9) = .ok (.athrow, 1)) (hout : ∀ x ∈ c.exceptionTable.toList, False)
    (hRf : names.length + 3 < R.frames) (hRl : (rest.map fun v => v.category).sum + (13 * (names.length + 1) + 43) ≤ R.locals) (hRc : 0 + 1 ≤ R.cells) (hRs : 0 + 6 ≤ R.slots) (hlocks : meth.locks = false)
    (hP : va_P D cls2 (x0W cJ h0 a1 a2 a3 a4 a5 a6 u) s.heap) (hK : va_K D cls2 [(cJ, .long)] s) (hD : va_D A (x0W cJ h0 a1 a2 a3 a4 a5 a6 u)) (hE : cls = exN k) (hw : thr k) :
    W p l e R s m args below meth c s.heap [] 0 0 (vx_MQ below Qc (vx_X thr (fun E9 k9 t9 => E9 = exN k9 ∧ XT D cJ h0 a1 a2 a3 a4 a5 a6 A u t9) A) args s 1 6 A) (F0 m pc ls rest) := by
  obtain ⟨⟨hU, hN⟩, hX, hB⟩ := hT
  obtain ⟨sa, hstr⟩ := hX _ htx
  refine vx_throwS (A := A) (sa := sa) (text := text) (names := names) hx hb hst hown hcls hnames hk hini hstr (vx_hat h1 h2 (fun w hw => va_Nw.use (tbW_ot w hw) (hB w hw))) hgood hU hN va_S.rf hsize d0 d3 d4 d6 d9 (fun x h => (hout x h).elim) hRf hRl hRc hRs hlocks ?_ t_nil (Nat.le_refl _) (Nat.le_refl _)
  intro t hvm hsz hq
  exact ⟨k, hw, ⟨hE, hP.kept (fun k x hx => hq x.1 ((hP k x hx).lt)), va_K.moved hvm hK, hD⟩, hsz, fun q h _ => hq q h⟩
