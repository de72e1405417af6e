/-! an exception that leaves a callee, caught by a row of the caller's table that names its class; the rows ahead name others -/
theorem vc_row {Q : Handler → Pre} {E : CtlPost} {e : Env} {d : Bool} {acts : List Action} {s : State} {f : JFrame} {a : Addr} {x : ExceptionTableEntry} {t : List ExceptionTableEntry} {c : ClassId} {cell : Cell} (hx : covers x f.pc = true) (h0 : x.catchType ≠ 0) (hl : s.vm.ClassLinks e.platform f.method.cls x.catchType c) (hcell : s.heap[a]? = some cell) (hobj : ∀ k, cell.vm ≠ .statics k) (hk : ∃ k, s.vm.classes[cell.cls]? = some k) (hc : ∃ k, s.vm.classes[c]? = some k) :
    wp (findHandler.go f a (x :: t)) Q E e d acts s ↔ if s.vm.assignable cell.cls c = true then Q (.found x.handlerPc) d acts (s.setVm (s.vm.noted f.method.cls x.catchType (.cls c))) else wp (findHandler.go f a t) Q E e d acts (s.setVm (s.vm.noted f.method.cls x.catchType (.cls c))) := by
  simp only [covers] at hx
  obtain ⟨ha, ht⟩ := (resolveClass_links e.toSetting hl).op (op := VmOp.resolveClass f.method.cls x.catchType) rfl
  have hal : s.vm.Alike (s.vm.noted f.method.cls x.catchType (.cls c)) := (Vm.Alike.refl s.vm).noted _ _ _
  obtain ⟨k1, hk1⟩ := hk
  obtain ⟨k2, hk2⟩ := hc
  obtain ⟨k3, hk3, -⟩ := hal.2.2 _ _ hk1
  obtain ⟨k4, hk4, -⟩ := hal.2.2 _ _ hk2
  cases hfit : s.vm.assignable cell.cls c with
  | true =>
    have h9 : (s.vm.noted f.method.cls x.catchType (.cls c)).assignable cell.cls c = true := by rw [hal.assignable]; exact hfit
    simp [findHandler.go, hx, h0, ha, ht, hcell, hobj, hk3, hk4, h9, VmOp.dirties, VmOp.acts]
  | false =>
    have h9 : (s.vm.noted f.method.cls x.catchType (.cls c)).assignable cell.cls c = false := by rw [hal.assignable]; exact hfit
    simp [findHandler.go, hx, h0, ha, ht, hcell, hobj, hk3, hk4, h9, VmOp.dirties, VmOp.acts]
/-- the table's first row that takes a thing of the class th goes to hp -/
def vc_T (pl : Platform) (s0 : State) (d : ClassId) (pc : Nat) (th : ClassId) (hp : Nat) : List ExceptionTableEntry → Prop
  | [] => False
  | y :: ys => covers y pc = true ∧ y.catchType ≠ 0 ∧ ∃ c, s0.vm.ClassLinks pl d y.catchType c ∧ ((s0.vm.assignable th c = true ∧ y.handlerPc = hp) ∨ (s0.vm.assignable th c = false ∧ vc_T pl s0 d pc th hp ys))
theorem vc_go {e : Env} {s0 : State} {f : JFrame} {a : Addr} {cell : Cell} {hp : Nat} (hobj : ∀ k, cell.vm ≠ .statics k) (hk0 : ∃ k, s0.vm.classes[cell.cls]? = some k) : ∀ (tb : List ExceptionTableEntry) (S : State), s0.WarmedH S.vm → S.heap[a]? = some cell → vc_T e.platform s0 f.method.cls f.pc cell.cls hp tb → ∃ vm', s0.WarmedH vm' ∧ ∀ (Q : Handler → Pre) (E : CtlPost) (d : Bool) (acts : List Action), wp (findHandler.go f a tb) Q E e d acts S ↔ Q (.found hp) d acts (S.setVm vm') := by
  obtain ⟨k0, hk0⟩ := hk0
  intro tb
  induction tb with
  | nil => intro S _ _ h; exact h.elim
  | cons y ys ih =>
    intro S hW hcell h
    obtain ⟨hx, h0, c, hl, hh⟩ := h
    obtain ⟨k1, hk1, -⟩ := hW.alike.2.2 _ _ hk0
    obtain ⟨dk, _, _, kt, hd, _, _, _, _, hkt, _, hopen⟩ := hl.here
    obtain ⟨k2, hk2, -⟩ := hW.alike.2.2 _ _ hkt
    have hW2 := hW.noted hd hopen (State.rightAt_cls hl)
    rcases hh with ⟨ha, rfl⟩ | ⟨ha, ht⟩
    · refine ⟨_, hW2, fun Q E d acts => ?_⟩
      rw [vc_row hx h0 (hW.classLinks hl) hcell hobj ⟨k1, hk1⟩ ⟨k2, hk2⟩, hW.alike.assignable, if_pos ha]
    · obtain ⟨vm', h1, h2⟩ := ih (S.setVm (S.vm.noted f.method.cls y.catchType (.cls c))) hW2 hcell ht
      refine ⟨vm', h1, fun Q E d acts => ?_⟩
      rw [vc_row hx h0 (hW.classLinks hl) hcell hobj ⟨k1, hk1⟩ ⟨k2, hk2⟩, hW.alike.assignable, ha, if_neg (by decide)]
      exact h2 Q E d acts
theorem vc_step {e : Env} {s : State} {a : Addr} {f : JFrame} {r : List Frame} {pc : Nat} {vm' : Vm} (hf : ∀ (Q : Handler → Pre) (E : CtlPost) (d : Bool) (acts : List Action), wp (findHandler f a) Q E e d acts s ↔ Q (.found pc) d acts (s.setVm vm')) : (stepThrowing e s a (.java f :: r)).1 = (s.setVm vm').setFrames (.java { f with pc := pc, stack := [.ref a] } :: r) := by
  simp only [stepThrowing, searchFrame, vmDo]
  generalize hr : Sem.go _ e false [] s = res
  obtain ⟨as, rfl, ha⟩ := Sem.eq_ok_of hr (a := Handler.found pc) (s' := s.setVm vm') (acts' := []) (by simp [hf])
  rfl
/-- the rows by the names of their classes -/
def vc_N (own : String) (args : Array Value) (s : State) (pc : Nat) (E : String) (hp : Nat) : List ExceptionTableEntry → Prop
  | [] => False
  | y :: ys => covers y pc = true ∧ y.catchType ≠ 0 ∧ ∃ nm : String, (Cond.classLink own y.catchType nm).before args s = true ∧ (((Cond.castable E nm).before args s = true ∧ y.handlerPc = hp) ∨ (va_Nc E nm s ∧ vc_N own args s pc E hp ys))
theorem vc_of {own E : String} {args : Array Value} {s : State} {pc hp : Nat} {d th : ClassId} {pl : Platform} (hpl : pl.magicAccessors = ({} : Platform).magicAccessors) (hown : s.vm.findClass own = some d) (hE : s.vm.findClass E = some th) : ∀ tb : List ExceptionTableEntry, vc_N own args s pc E hp tb → vc_T pl s d pc th hp tb := by
  intro tb
  induction tb with
  | nil => intro h; exact h
  | cons y ys ih =>
    intro h
    obtain ⟨h1, h2, nm, hl, hh⟩ := h
    obtain ⟨c, hc, hcl⟩ := Cond.classLink_spec hown hl pl hpl
    refine ⟨h1, h2, c, hcl, ?_⟩
    rcases hh with ⟨hcast, hp9⟩ | ⟨hno, ht⟩
    · obtain ⟨c3, c4, hc3, hc4, hasg⟩ := Cond.castable_spec hcast
      cases Option.some.inj (hc3.symm.trans hE)
      cases Option.some.inj (hc4.symm.trans hc)
      exact Or.inl ⟨hasg, hp9⟩
    · obtain ⟨a8, b8, q1, q2, q3⟩ := hno
      cases Option.some.inj (q1.symm.trans hE)
      cases Option.some.inj (q2.symm.trans hc)
      exact Or.inr ⟨q3, ih ht⟩
theorem vc_catch {p : Program} {l : Launch} {e : Env} {R : Room} {s : State} {m : MethodId} {args : Array Value} {below : List Frame} {meth : Method} {c : Code} {H : Heap} {locs : List Loc} {cells slots : Nat} {Q : State → Prop} {pc : Nat} {ls : Array Slot} {rest : List Value} {own E : String} {ce : Cell} {q : Addr} {hp : Nat}
    (hown : s.vm.findClass own = some m.cls) (htb : vc_N own args s pc E hp c.exceptionTable.toList) (hcell : H[q]? = some ce) (hv : ce.vm = .none) (hcl : s.vm.findClass E = some ce.cls)
    (kk : W p l e R s m args below meth c H locs cells slots Q (F0 m hp ls [.ref q])) : vx_W p l e R s m args below meth c H locs cells slots Q (F0 m pc ls rest) q := by
  intro T hT X
  have hpl : e.platform.magicAccessors = ({} : Platform).magicAccessors := by rw [X.admits.platform]
  have hh := vc_of (pl := e.platform) hpl hown hcl _ htb
  have hcell' : ((T.setTop (F0 m pc ls rest)).pushFrame (.throwing q)).heap[q]? = some ce := by rw [Stand.throwing_heap, hT]; exact hcell
  have hWm : s.WarmedH ((T.setTop (F0 m pc ls rest)).pushFrame (.throwing q)).vm := by rw [Stand.throwing_vm]; exact X.warmed
  obtain ⟨vm', hW', hf⟩ := vc_go (e := e) (s0 := s) (f := F0 m pc ls rest) (a := q) (cell := ce) (hp := hp) (fun k h => by rw [hv] at h; cases h) (by obtain ⟨k9, h9, -⟩ := Vm.findClass_spec hcl; exact ⟨k9, h9⟩) c.exceptionTable.toList ((T.setTop (F0 m pc ls rest)).pushFrame (.throwing q)) hWm hcell' hh
  have X' := X.noted hW'
  obtain ⟨t, a1, b1⟩ := kk (T.setVm vm') hT X'
  refine ⟨t, ?_, b1⟩
  have hmeth : ((T.setTop (F0 m pc ls rest)).pushFrame (.throwing q)).vm.method? m = some meth := by rw [Stand.throwing_vm]; exact X.method'
  have h : At T m c below := X.here
  obtain ⟨hgo, hw⟩ := h.throwing (g := F0 m pc ls rest) q
  refine Steps.head hgo hw ?_
  rw [stepThread_throwing (frames_entered h.top _), vc_step (vm' := vm') (pc := hp) (fun Q E d acts => by rw [W.findHandler_eq hmeth X.code]; exact hf Q E d acts)]
  obtain ⟨g0, hg0⟩ := Option.isSome_iff_exists.mp h.top
  obtain ⟨r, hr⟩ := State.topJava?_eq_some.mp hg0
  have hr' : (T.setVm vm').frames = .java g0 :: r := hr
  rw [State.setTop_of_frames _ hr'] at a1
  have e1 : ∀ (u : State) (F G : List Frame), ((u.setFrames F).setVm vm').setFrames G = (u.setVm vm').setFrames G := fun u F G => by
    rw [show (u.setFrames F).setVm vm' = (u.setVm vm').setFrames F from rfl, State.setFrames_setFrames]
  rw [hr, List.tail_cons, State.pushFrame, e1, State.setTop_of_frames _ hr, e1]
  exact a1
