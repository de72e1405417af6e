section
-- ===== PART A: goes FIRST, ahead of the names: the tables' words, and 'selects' of the private methods out of them =====
/-- a private method of a class that the tables say can be made, by its rows of tables_1 -/
def lw_okq (q : MethodName × Nat) : Prop := (q.1.cls ≠ "java/lang/invoke/MethodHandle" ∧ q.1.cls ≠ "java/lang/invoke/VarHandle") ∧ Cond.instantiable q.1.cls q.2 ∈ tables_1 ∧ Cond.privateMethod q.1 ∈ tables_1 ∧ Cond.instanceMethod q.1 ∈ tables_1
theorem lw_p0 : lw_okq (⟨"TideDepths", "firstSecond", "()J"⟩, 9) := ⟨⟨by decide +kernel, by decide +kernel⟩, List.mem_of_getElem? (i := 13) (by decide +kernel), List.mem_of_getElem? (i := 54) (by decide +kernel), List.mem_of_getElem? (i := 55) (by decide +kernel)⟩
theorem lw_p1 : lw_okq (⟨"TideDepths", "hasTable", "()Z"⟩, 9) := ⟨⟨by decide +kernel, by decide +kernel⟩, List.mem_of_getElem? (i := 13) (by decide +kernel), List.mem_of_getElem? (i := 58) (by decide +kernel), List.mem_of_getElem? (i := 59) (by decide +kernel)⟩
theorem lw_p2 : lw_okq (⟨"TideDepths", "lastSecond", "()J"⟩, 9) := ⟨⟨by decide +kernel, by decide +kernel⟩, List.mem_of_getElem? (i := 13) (by decide +kernel), List.mem_of_getElem? (i := 63) (by decide +kernel), List.mem_of_getElem? (i := 64) (by decide +kernel)⟩
theorem lw_p3 : lw_okq (⟨"java/lang/Throwable", "fillInStackTrace", "(I)Ljava/lang/Throwable;"⟩, 6) := ⟨⟨by decide +kernel, by decide +kernel⟩, List.mem_of_getElem? (i := 125) (by decide +kernel), List.mem_of_getElem? (i := 123) (by decide +kernel), List.mem_of_getElem? (i := 124) (by decide +kernel)⟩
theorem lw_p4 : lw_okq (⟨"TideDepths", "alternates", "(J)Z"⟩, 9) := ⟨⟨by decide +kernel, by decide +kernel⟩, List.mem_of_getElem? (i := 13) (by decide +kernel), List.mem_of_getElem? (i := 172) (by decide +kernel), List.mem_of_getElem? (i := 173) (by decide +kernel)⟩
theorem lw_p5 : lw_okq (⟨"TideDepths", "isInTable", "(J)Z"⟩, 9) := ⟨⟨by decide +kernel, by decide +kernel⟩, List.mem_of_getElem? (i := 13) (by decide +kernel), List.mem_of_getElem? (i := 183) (by decide +kernel), List.mem_of_getElem? (i := 184) (by decide +kernel)⟩
theorem lw_p6 : lw_okq (⟨"TideDepths", "heightAt", "(J)J"⟩, 9) := ⟨⟨by decide +kernel, by decide +kernel⟩, List.mem_of_getElem? (i := 13) (by decide +kernel), List.mem_of_getElem? (i := 188) (by decide +kernel), List.mem_of_getElem? (i := 189) (by decide +kernel)⟩
theorem lw_p7 : lw_okq (⟨"TideDepths", "tableHeight", "(J)J"⟩, 9) := ⟨⟨by decide +kernel, by decide +kernel⟩, List.mem_of_getElem? (i := 13) (by decide +kernel), List.mem_of_getElem? (i := 192) (by decide +kernel), List.mem_of_getElem? (i := 193) (by decide +kernel)⟩
theorem lw_p8 : lw_okq (⟨"TideDepths", "correction", "(J)J"⟩, 9) := ⟨⟨by decide +kernel, by decide +kernel⟩, List.mem_of_getElem? (i := 13) (by decide +kernel), List.mem_of_getElem? (i := 209) (by decide +kernel), List.mem_of_getElem? (i := 210) (by decide +kernel)⟩
theorem lw_p9 : lw_okq (⟨"TideDepths", "longestSpan", "(JJ)J"⟩, 9) := ⟨⟨by decide +kernel, by decide +kernel⟩, List.mem_of_getElem? (i := 13) (by decide +kernel), List.mem_of_getElem? (i := 234) (by decide +kernel), List.mem_of_getElem? (i := 235) (by decide +kernel)⟩
theorem lw_p10 : lw_okq (⟨"TideDepths", "nextSecond", "(JJZ)J"⟩, 9) := ⟨⟨by decide +kernel, by decide +kernel⟩, List.mem_of_getElem? (i := 13) (by decide +kernel), List.mem_of_getElem? (i := 238) (by decide +kernel), List.mem_of_getElem? (i := 239) (by decide +kernel)⟩
theorem lw_p11 : lw_okq (⟨"TideDepths", "stretchEnd", "(J)J"⟩, 9) := ⟨⟨by decide +kernel, by decide +kernel⟩, List.mem_of_getElem? (i := 13) (by decide +kernel), List.mem_of_getElem? (i := 242) (by decide +kernel), List.mem_of_getElem? (i := 243) (by decide +kernel)⟩
theorem lw_p12 : lw_okq (⟨"TideDepths", "correctionEnd", "(J)J"⟩, 9) := ⟨⟨by decide +kernel, by decide +kernel⟩, List.mem_of_getElem? (i := 13) (by decide +kernel), List.mem_of_getElem? (i := 246) (by decide +kernel), List.mem_of_getElem? (i := 247) (by decide +kernel)⟩
theorem lw_p13 : lw_okq (⟨"TideDepths", "changeWithin", "(JJJZ)J"⟩, 9) := ⟨⟨by decide +kernel, by decide +kernel⟩, List.mem_of_getElem? (i := 13) (by decide +kernel), List.mem_of_getElem? (i := 253) (by decide +kernel), List.mem_of_getElem? (i := 254) (by decide +kernel)⟩
theorem lw_p14 : lw_okq (⟨"TideDepths", "firstSailing", "(JJJ)J"⟩, 9) := ⟨⟨by decide +kernel, by decide +kernel⟩, List.mem_of_getElem? (i := 13) (by decide +kernel), List.mem_of_getElem? (i := 393) (by decide +kernel), List.mem_of_getElem? (i := 394) (by decide +kernel)⟩
theorem lw_p15 : lw_okq (⟨"TideDepths", "lastSailing", "(JJJ)J"⟩, 9) := ⟨⟨by decide +kernel, by decide +kernel⟩, List.mem_of_getElem? (i := 13) (by decide +kernel), List.mem_of_getElem? (i := 397) (by decide +kernel), List.mem_of_getElem? (i := 398) (by decide +kernel)⟩
def lw_privs_1 : List (MethodName × Nat) := [(⟨"TideDepths", "firstSecond", "()J"⟩, 9), (⟨"TideDepths", "hasTable", "()Z"⟩, 9), (⟨"TideDepths", "lastSecond", "()J"⟩, 9), (⟨"java/lang/Throwable", "fillInStackTrace", "(I)Ljava/lang/Throwable;"⟩, 6), (⟨"TideDepths", "alternates", "(J)Z"⟩, 9), (⟨"TideDepths", "isInTable", "(J)Z"⟩, 9), (⟨"TideDepths", "heightAt", "(J)J"⟩, 9), (⟨"TideDepths", "tableHeight", "(J)J"⟩, 9), (⟨"TideDepths", "correction", "(J)J"⟩, 9), (⟨"TideDepths", "longestSpan", "(JJ)J"⟩, 9), (⟨"TideDepths", "nextSecond", "(JJZ)J"⟩, 9), (⟨"TideDepths", "stretchEnd", "(J)J"⟩, 9), (⟨"TideDepths", "correctionEnd", "(J)J"⟩, 9), (⟨"TideDepths", "changeWithin", "(JJJZ)J"⟩, 9), (⟨"TideDepths", "firstSailing", "(JJJ)J"⟩, 9), (⟨"TideDepths", "lastSailing", "(JJJ)J"⟩, 9)]
theorem lw_r1 : ∀ q ∈ lw_privs_1, lw_okq q := List.forall_mem_cons.mpr ⟨lw_p0, List.forall_mem_cons.mpr ⟨lw_p1, List.forall_mem_cons.mpr ⟨lw_p2, List.forall_mem_cons.mpr ⟨lw_p3, List.forall_mem_cons.mpr ⟨lw_p4, List.forall_mem_cons.mpr ⟨lw_p5, List.forall_mem_cons.mpr ⟨lw_p6, List.forall_mem_cons.mpr ⟨lw_p7, List.forall_mem_cons.mpr ⟨lw_p8, List.forall_mem_cons.mpr ⟨lw_p9, List.forall_mem_cons.mpr ⟨lw_p10, List.forall_mem_cons.mpr ⟨lw_p11, List.forall_mem_cons.mpr ⟨lw_p12, List.forall_mem_cons.mpr ⟨lw_p13, List.forall_mem_cons.mpr ⟨lw_p14, List.forall_mem_cons.mpr ⟨lw_p15, fun _ h => absurd h List.not_mem_nil⟩⟩⟩⟩⟩⟩⟩⟩⟩⟩⟩⟩⟩⟩⟩⟩
theorem lw_p16 : lw_okq (⟨"TideDepthsModel", "isInTable", "(J)Z"⟩, 12) := ⟨⟨by decide +kernel, by decide +kernel⟩, List.mem_of_getElem? (i := 409) (by decide +kernel), List.mem_of_getElem? (i := 475) (by decide +kernel), List.mem_of_getElem? (i := 476) (by decide +kernel)⟩
theorem lw_p17 : lw_okq (⟨"TideDepthsModel", "heightAt", "(I)J"⟩, 12) := ⟨⟨by decide +kernel, by decide +kernel⟩, List.mem_of_getElem? (i := 409) (by decide +kernel), List.mem_of_getElem? (i := 479) (by decide +kernel), List.mem_of_getElem? (i := 480) (by decide +kernel)⟩
theorem lw_p18 : lw_okq (⟨"TideDepthsModel", "tableHeight", "(I)J"⟩, 12) := ⟨⟨by decide +kernel, by decide +kernel⟩, List.mem_of_getElem? (i := 409) (by decide +kernel), List.mem_of_getElem? (i := 484) (by decide +kernel), List.mem_of_getElem? (i := 485) (by decide +kernel)⟩
theorem lw_p19 : lw_okq (⟨"TideDepthsModel", "squatOf", "(JJ)J"⟩, 12) := ⟨⟨by decide +kernel, by decide +kernel⟩, List.mem_of_getElem? (i := 409) (by decide +kernel), List.mem_of_getElem? (i := 507) (by decide +kernel), List.mem_of_getElem? (i := 508) (by decide +kernel)⟩
theorem lw_p20 : lw_okq (⟨"TideDepthsModel", "maySail", "(IJJ)Z"⟩, 12) := ⟨⟨by decide +kernel, by decide +kernel⟩, List.mem_of_getElem? (i := 409) (by decide +kernel), List.mem_of_getElem? (i := 544) (by decide +kernel), List.mem_of_getElem? (i := 545) (by decide +kernel)⟩
def lw_privs_2 : List (MethodName × Nat) := [(⟨"TideDepthsModel", "isInTable", "(J)Z"⟩, 12), (⟨"TideDepthsModel", "heightAt", "(I)J"⟩, 12), (⟨"TideDepthsModel", "tableHeight", "(I)J"⟩, 12), (⟨"TideDepthsModel", "squatOf", "(JJ)J"⟩, 12), (⟨"TideDepthsModel", "maySail", "(IJJ)Z"⟩, 12)]
theorem lw_r2 : ∀ q ∈ lw_privs_2, lw_okq q := List.forall_mem_cons.mpr ⟨lw_p16, List.forall_mem_cons.mpr ⟨lw_p17, List.forall_mem_cons.mpr ⟨lw_p18, List.forall_mem_cons.mpr ⟨lw_p19, List.forall_mem_cons.mpr ⟨lw_p20, fun _ h => absurd h List.not_mem_nil⟩⟩⟩⟩⟩
def lw_privs : List (MethodName × Nat) := lw_privs_1 ++ (lw_privs_2)
def lw_tbl : List Cond := k2_sels lw_privs ++ tables_1
theorem lw_privs_ok : ∀ q ∈ lw_privs, lw_okq q := by
  show ∀ q ∈ lw_privs_1 ++ (lw_privs_2), lw_okq q
  exact List.forall_mem_append.mpr ⟨lw_r1, lw_r2⟩
end
section
/-! ===== BEGIN words of one list among another's, by their places ===== -/
theorem goodIn_r {big : List Cond} (ws : List Cond) (ps : List Nat) (hp : ws = ps.filterMap (fun i => big[i]?)) (h : ws.all goodWord = true) : GoodIn big ws := by
  intro w hw
  have h1 := List.all_eq_true.mp h w hw
  rw [hp] at hw
  obtain ⟨i, -, hi⟩ := List.mem_filterMap.mp hw
  have hm : w ∈ big := by first | exact List.mem_of_getElem? hi | exact List.getElem?_mem hi
  exact ⟨hm, good_of_word h1⟩
theorem goodIn_app {big a b : List Cond} (ha : GoodIn big a) (hb : GoodIn big b) : GoodIn big (a ++ b) := fun w h => (List.mem_append.mp h).elim (ha w) (hb w)
theorem goodIn_ca {big a b : List Cond} {c : Cond} (ha : GoodIn big (c :: a)) (hb : GoodIn big b) : GoodIn big (c :: (a ++ b)) := fun w h => (List.mem_cons.mp h).elim (fun e => ha w (List.mem_cons.mpr (Or.inl e))) (fun h => (List.mem_append.mp h).elim (fun h => ha w (List.mem_cons.mpr (Or.inr h))) (hb w))
theorem goodIn_sub {big ws : List Cond} (hm : ∀ w ∈ ws, w ∈ big) (h : ws.all goodWord = true) : GoodIn big ws := fun w hw => ⟨hm w hw, good_of_word (List.all_eq_true.mp h w hw)⟩
/-! ===== END ===== -/

/-! ===== BEGIN exceptions that leave a method, and their catching by the caller (launches without stack traces) ===== -/
section VXA
/-! The laws vx_back, vx_callV, vx_callS, vx_callSW, vx_throw0, vx_throwS follow proofs of the library, with one case more: JvmDerived/Free/Laws.lean (Back.of_free), Shelf42/LK1.lean (callV, callS), Shelf/KitTraced.lean (throwNew0V, throwNewS). -/
/-- where a method has thrown q: the class by its name, the cell, what was written, the world -/
def vx_T (XC : String → State → State → Prop) (st : State) (q : Addr) (t : State) (mc ms : Nat) (free : Addr → Prop) : Prop :=
  ∃ (E : String) (ce : Cell) (L : List Loc), XC E st t ∧ t.heap[q]? = some ce ∧ ce.vm = .none ∧ st.vm.findClass E = some ce.cls ∧ st.WarmedH t.vm ∧ st.sameButNew ({ t with vm := st.vm } : State) L mc ms ∧ ∀ z ∈ L, free z.base
def vx_Q (Qc : Array Value → State → Outcome → State → Prop) (XC : String → State → State → Prop) (mc ms : Nat) (free : Addr → Prop) : Array Value → State → Outcome → State → Prop := fun a st o t =>
  (Qc a st o t ∧ ∃ L, FrameEnd st o t L mc ms ∧ ∀ q ∈ L, free q.base) ∨ ∃ q, o = .threw q ∧ vx_T XC st q t mc ms free
/-- a callee that returns or throws -/
def vx_Met (l : Launch) (y : MethodName) (ws : List Cond) (rm : Room) (Pc : Array Value → State → Prop) (Qc : Array Value → State → Outcome → State → Prop) (XC : String → State → State → Prop) (mc ms : Nat) (free : Addr → Prop) : Prop :=
  MetFree l y (headSpec ws rm) Pc (fun _ _ _ _ _ => True) (vx_Q Qc XC mc ms free)
def vx_Post (XC : String → State → State → Prop) (mc ms : Nat) (free : Addr → Prop) : Pt → Array Value → Addr → Pt → Prop := fun A a q B =>
  ∃ (g : JFrame) (mk : MethodId) (t : State) (L : List Loc) (E : String) (ce : Cell), B.U.heap = t.heap ∧ B.U.vm = t.vm ∧ XC E (A.U.calling g mk a) t ∧ t.heap[q]? = some ce ∧ ce.vm = .none ∧ A.U.vm.findClass E = some ce.cls ∧ B.locs = A.locs ++ L ∧ (∀ z ∈ L, free z.base) ∧ B.cells = A.cells + mc ∧ B.slots = A.slots + ms
def vx_Back (l : Launch) (R : Room) (p : Program) (e : Env) (below : List Frame) (s : State) (sargs : Array Value) (y : MethodName) (len W9 : Nat)
    (Pre : Pt → Array Value → Prop) (Post : Pt → Array Value → Option Value → Pt → Prop) (PostX : Pt → Array Value → Addr → Pt → Prop) : Prop :=
  ∀ (m : MethodId) (meth : Method) (c : Code) (A : Pt) (g : JFrame) (ig : Instr) (mk : MethodId) (a : Array Value),
    Stand p l e R s m sargs below meth c A.U A.locs A.cells A.slots → g.method = m → g.locals.size = c.maxLocals → decode c.code g.pc = .ok (ig, len) →
    2 * g.monitorRoom + (g.stack.map fun v => v.category).sum ≤ W9 → A.U.methodNamed? y = some mk → Pre A a →
    (∃ (v : Option Value) (B : Pt), Stand p l e R s m sargs below meth c B.U B.locs B.cells B.slots ∧ Post A a v B ∧
      Steps p.tables e below (doInvoke e (A.U.setTop g) [] mk a).1 (B.U.setTop { g with pc := g.pc + len, stack := v.toList ++ g.stack })) ∨
    (∃ (q : Addr) (B : Pt), Stand p l e R s m sargs below meth c B.U B.locs B.cells B.slots ∧ PostX A a q B ∧
      Steps p.tables e below (doInvoke e (A.U.setTop g) [] mk a).1 ((B.U.setTop g).pushFrame (.throwing q)))
section Payer
variable {l : Launch} {R : Room} {p : Program} {e : Env} {below : List Frame} {s : State} {sargs : Array Value} {y : MethodName} {len W9 : Nat}
theorem vx_back {ws : List Cond} {rm : Room} {Pc : Array Value → State → Prop} {Qc : Array Value → State → Outcome → State → Prop} {XC : String → State → State → Prop} {mc ms : Nat} {free : Addr → Prop} {bytes : ByteArray} {maxL : Nat} {ret : Option FieldType}
    (hM : vx_Met l y ws rm Pc Qc XC mc ms free) (hblind : FrameBlind Pc) (hrc : rm.cells = mc) (hrs : rm.slots = ms)
    (hframes : rm.frames + 1 ≤ R.frames) (hlocals : W9 + (maxL + 11) + rm.locals ≤ R.locals)
    (hws : ∀ w ∈ ws, ∀ a' U, s.WarmedH U.vm → w.before a' U = true) (hcode : Cond.code y bytes maxL ret ∈ ws) (hinit : ∀ a' U, s.WarmedH U.vm → (Cond.initialized y.cls).before a' U = true) :
    vx_Back l R p e below s sargs y len W9 (PreOf R mc ms Pc) (PostOf Qc mc ms free) (vx_Post XC mc ms free) := by
  intro m meth c A g ig mk a X hg hsize hdg hW hn hp
  have h1 : (headSpec ws rm).pre.before a A.U = true := atoms_intro fun w hw => hws w hw _ _ X.warmed
  have h2 : (Cond.code y bytes maxL ret).before a A.U = true := hws _ hcode _ _ X.warmed
  have h3 : (Cond.initialized y.cls).before a A.U = true := hinit _ _ X.warmed
  have h4 : A.cells + (headSpec ws rm).room.cells ≤ R.cells := by rw [show (headSpec ws rm).room.cells = mc from hrc]; exact hp.1
  have h5 : A.slots + (headSpec ws rm).room.slots ≤ R.slots := by rw [show (headSpec ws rm).room.slots = ms from hrs]; exact hp.2.1
  have hPc : Pc a (A.U.calling g mk a) := hblind _ _ _ _ hp.2.2
  obtain ⟨U, Ls, c0, s0⟩ := A
  dsimp only [Pt.U, Pt.locs, Pt.cells, Pt.slots] at h1 h2 h3 h4 h5 X hn hPc ⊢
  obtain ⟨methY, cY, hmY, hcY, -, hlY, -, -, -, -⟩ := Cond.code_spec hn h2
  obtain ⟨kY, hkY, -⟩ := className_of_methodNamed hn
  have hinitY : kY.init = .initialized := Cond.initialized_spec (findClass_of_methodNamed hn) hkY h3
  have h : At U g.method c below := by rw [hg]; exact X.here
  have hlocals9 : W9 + (maxL + 11) + (headSpec ws rm).room.locals ≤ R.locals := hlocals
  have happ : (headSpec ws rm).appliesLoose y e.platform (U.calling g mk a) = true :=
    Spec.appliesLoose_calling (g := g) h hdg hn hkY hinitY
      (X.room_calling (g := g) (R' := (headSpec ws rm).room) hsize hmY hcY hframes (by rw [hlY]; omega) h4 h5) h1
  obtain ⟨mid, hmid⟩ := h.above
  have hfr : (U.setTop g).frames = (.java g :: mid) ++ below := by rw [State.frames_setTop' g h.top, hmid]; rfl
  obtain ⟨o, s₂, hsteps, -, hend, hq⟩ := Steps.callFree hM p X.admits X.cas X.clock (acts := []) hfr happ hPc trivial
  have hq' : vx_Q Qc XC mc ms free a (U.calling g mk a) o s₂ := hq
  rw [State.frames_setTop' g h.top] at hend
  obtain ⟨g₀, hg0⟩ := Option.isSome_iff_exists.mp h.top
  obtain ⟨r, hr⟩ := State.topJava?_eq_some.mp hg0
  have hr' : (({ U with heap := s₂.heap, slotsUsed := s₂.slotsUsed } : State).setVm s₂.vm).frames = .java g₀ :: r := hr
  rcases hq' with ⟨hqc, L, hfe, hL⟩ | ⟨q, rfl, E, ce, L, hx, hce, hcv, hcl, hW₂, hsm, hL⟩
  · obtain ⟨⟨v, rfl⟩, hW₂, e2, q2, q3, q4, q5, q6⟩ := id hfe
    have e3 : s₂ = ({ (U.calling g mk a).setFrames s₂.frames with heap := s₂.heap, slotsUsed := s₂.slotsUsed } : State).setVm s₂.vm := by
      have : s₂ = ({ s₂ with vm := (U.calling g mk a).vm } : State).setVm s₂.vm := rfl
      rw [e2] at this
      exact this
    obtain ⟨c₂, i₂, len₂, hc₂, hd₂, hf₂⟩ := hend
    have hW' : U.WarmedH s₂.vm := hW₂
    have hcc : c₂ = c := by
      have h1 : s₂.code? g.method = U.code? g.method := by
        rw [State.code?_eq, State.code?_eq, hW'.alike.method?]
      exact Option.some.inj (hc₂.symm.trans (h1.trans h.code))
    subst hcc
    have hlen : len₂ = len := by rw [hdg] at hd₂; cases hd₂; rfl
    subst hlen
    have hs₂ : s₂ = (({ U with heap := s₂.heap, slotsUsed := s₂.slotsUsed } : State).setVm s₂.vm).setTop { g with pc := g.pc + len₂, stack := v.toList ++ g.stack } := by
      refine e3.trans ?_
      rw [hf₂, State.calling_eq h.top, State.setFrames_setFrames, State.setTop_of_frames _ hr', hr]
      rfl
    have hsame : U.sameButNew ({ U with heap := s₂.heap, slotsUsed := s₂.slotsUsed } : State) L mc ms := by
      refine ⟨?_, q2, q3, q4, q5, q6⟩
      obtain ⟨t, ht, -⟩ := State.frames_cons hr
      show ({ U with heap := s₂.heap, slotsUsed := s₂.slotsUsed } : State) = { U.setFrames U.frames with heap := s₂.heap, slotsUsed := s₂.slotsUsed }
      rw [State.setFrames_self ht]
    subst hg
    refine Or.inl ⟨v, ⟨(({ U with heap := s₂.heap, slotsUsed := s₂.slotsUsed } : State).setVm s₂.vm), Ls ++ L, c0 + mc, s0 + ms⟩,
      ⟨X.admits, X.cas, X.clock, X.frames, X.room, X.hears, X.method, X.code, (X.here.setHeapUsed s₂.heap s₂.slotsUsed).setVm hW'.alike, X.tail, State.WarmedH.trans X.warmed hW', X.limits, X.bytes, X.same.trans (hsame.setVm s.vm)⟩,
      ⟨g, mk, s₂, L, rfl, rfl, hqc, rfl, hL, rfl, rfl⟩, ?_⟩
    show Steps p.tables e below _ ((({ U with heap := s₂.heap, slotsUsed := s₂.slotsUsed } : State).setVm s₂.vm).setTop { g with pc := g.pc + len₂, stack := v.toList ++ g.stack })
    rw [← hs₂]
    exact hsteps
  · obtain ⟨e2, q2, q3, q4, q5, q6⟩ := id hsm
    have e3 : s₂ = ({ (U.calling g mk a).setFrames s₂.frames with heap := s₂.heap, slotsUsed := s₂.slotsUsed } : State).setVm s₂.vm := by
      have : s₂ = ({ s₂ with vm := (U.calling g mk a).vm } : State).setVm s₂.vm := rfl
      rw [e2] at this
      exact this
    have hf₂ : s₂.frames = .throwing q :: .java g :: U.frames.tail := hend
    have hW' : U.WarmedH s₂.vm := hW₂
    have hs₂ : s₂ = ((({ U with heap := s₂.heap, slotsUsed := s₂.slotsUsed } : State).setVm s₂.vm).setTop g).pushFrame (.throwing q) := by
      refine e3.trans ?_
      rw [hf₂, State.calling_eq h.top, State.setFrames_setFrames, State.pushFrame, State.frames_setTop _ hr', State.setTop_of_frames _ hr', State.setFrames_setFrames, hr]
      rfl
    have hsame : U.sameButNew ({ U with heap := s₂.heap, slotsUsed := s₂.slotsUsed } : State) L mc ms := by
      refine ⟨?_, q2, q3, q4, q5, q6⟩
      obtain ⟨t, ht, -⟩ := State.frames_cons hr
      show ({ U with heap := s₂.heap, slotsUsed := s₂.slotsUsed } : State) = { U.setFrames U.frames with heap := s₂.heap, slotsUsed := s₂.slotsUsed }
      rw [State.setFrames_self ht]
    subst hg
    refine Or.inr ⟨q, ⟨(({ U with heap := s₂.heap, slotsUsed := s₂.slotsUsed } : State).setVm s₂.vm), Ls ++ L, c0 + mc, s0 + ms⟩,
      ⟨X.admits, X.cas, X.clock, X.frames, X.room, X.hears, X.method, X.code, (X.here.setHeapUsed s₂.heap s₂.slotsUsed).setVm hW'.alike, X.tail, State.WarmedH.trans X.warmed hW', X.limits, X.bytes, X.same.trans (hsame.setVm s.vm)⟩,
      ⟨g, mk, s₂, L, E, ce, rfl, rfl, hx, hce, hcv, hcl, rfl, hL, rfl, rfl⟩, ?_⟩
    show Steps p.tables e below _ (((({ U with heap := s₂.heap, slotsUsed := s₂.slotsUsed } : State).setVm s₂.vm).setTop g).pushFrame (.throwing q))
    rw [← hs₂]
    exact hsteps
end Payer
section Calls
variable {p : Program} {l : Launch} {e : Env} {R : Room} {s : State} {m : MethodId} {args : Array Value} {below : List Frame} {meth : Method} {c : Code} {T : State} {locs : List Loc} {cells slots : Nat}
theorem vx_callV (X : Stand p l e R s m args below meth c T locs cells slots) (hexec : p.tables.exec = Jvm.exec) {own C : String} {index : Nat} {y : MethodName} {bytes : ByteArray} {maxL : Nat} {ret : Option FieldType}
    (hown : s.vm.findClass own = some m.cls) (hlink : (Cond.methodLink own index y).before args s = true) (hinst : (Cond.instanceMethod y).before args s = true) (hsel : (Cond.selects C y y).before args s = true)
    (hcode : (Cond.code y bytes maxL ret).before args s = true) (hy : y.cls ≠ "java/lang/invoke/MethodHandle" ∧ y.cls ≠ "java/lang/invoke/VarHandle")
    {W9 : Nat} {Pre : Pt → Array Value → Prop} {Post : Pt → Array Value → Option Value → Pt → Prop} {PostX : Pt → Array Value → Addr → Pt → Prop} (hK : vx_Back l R p e below s args y 3 W9 Pre Post PostX)
    {b : Addr} {cellB : Cell} (hcell : T.heap[b]? = some cellB) (hobj : cellB.vm.isStatics = false) (hcls : s.vm.findClass C = some cellB.cls)
    {g : JFrame} (hg : g.method = m) (hsize : g.locals.size = c.maxLocals) {argsL rest : List Value} (hlen : ∀ sig, parseMethodDescriptor y.desc = some sig → argsL.length = sig.parameters.length)
    (hstack : g.stack = argsL.reverse ++ .ref b :: rest) (hW : 2 * g.monitorRoom + (rest.map fun v => v.category).sum ≤ W9) (hdg : decode c.code g.pc = .ok (.invokevirtual index, 3))
    (hpre : ∀ vm₁, s.WarmedH vm₁ → Pre ⟨T.setVm vm₁, locs, cells, slots⟩ (Value.ref b :: argsL).toArray) :
    (∃ (v : Option Value) (vm₁ : Vm) (B : Pt), s.WarmedH vm₁ ∧ Stand p l e R s m args below meth c B.U B.locs B.cells B.slots ∧ Post ⟨T.setVm vm₁, locs, cells, slots⟩ (Value.ref b :: argsL).toArray v B ∧
      ∀ target, Steps p.tables e below (B.U.setTop { g with pc := g.pc + 3, stack := v.toList ++ rest }) target → Steps p.tables e below (T.setTop g) target) ∨
    (∃ (q : Addr) (vm₁ : Vm) (B : Pt), s.WarmedH vm₁ ∧ Stand p l e R s m args below meth c B.U B.locs B.cells B.slots ∧ PostX ⟨T.setVm vm₁, locs, cells, slots⟩ (Value.ref b :: argsL).toArray q B ∧
      Steps p.tables e below (T.setTop g) ((B.U.setTop { g with stack := rest }).pushFrame (.throwing q))) := by
  obtain ⟨mk, methM, hnamed, hmethM, hstM, habM⟩ := Cond.instanceMethod_spec hinst
  obtain ⟨methM', cM, hmethM', -, -, -, -, -, -, hsigM⟩ := Cond.code_spec hnamed hcode
  cases hmethM.symm.trans hmethM'
  obtain ⟨c2, r2, m2, q1, q2, q3, q4, kP, hkP, hkPi⟩ := Cond.selects_spec hsel
  cases hcls.symm.trans q1
  cases (State.methodFound?_of_named hnamed hy).symm.trans q2
  cases hnamed.symm.trans q3
  have hselP : selectMethod e.platform s.vm cellB.cls mk = .method mk := by rw [Launch.admits_selectMethod X.admits]; exact q4
  obtain ⟨vm₁, X₁, hstep₁⟩ := X.invokevirtual hexec hown hlink hnamed hmethM hstM hkP hkPi hy (a := b) (cell := cellB) hcell
    (fun z h => by rw [h] at hobj; cases hobj) hselP hmethM habM hkP hkPi (g := g) hg (argsL := argsL) (rest := rest) (hlen _ hsigM) hstack hdg
  rcases hK m meth c ⟨T.setVm vm₁, locs, cells, slots⟩ { g with stack := rest } (.invokevirtual index) mk (Value.ref b :: argsL).toArray X₁ hg hsize hdg hW (X₁.named hnamed) (hpre vm₁ X₁.warmed) with ⟨v, B, X', hpost, hsteps⟩ | ⟨q, B, X', hpost, hsteps⟩
  · exact Or.inl ⟨v, vm₁, B, X₁.warmed, X', hpost, fun target h => hstep₁ _ fun acts => by rw [doInvoke_state]; exact hsteps.trans h⟩
  · exact Or.inr ⟨q, vm₁, B, X₁.warmed, X', hpost, hstep₁ _ fun acts => by rw [doInvoke_state]; exact hsteps⟩
theorem vx_callS (X : Stand p l e R s m args below meth c T locs cells slots) (hexec : p.tables.exec = Jvm.exec) {own : String} {index : Nat} {y : MethodName} {bytes : ByteArray} {maxL : Nat} {ret : Option FieldType}
    (hown : s.vm.findClass own = some m.cls) (hlink : (Cond.methodLink own index y).before args s = true) (hstat : (Cond.static y).before args s = true) (hinit : (Cond.initialized y.cls).before args s = true)
    (hcode : (Cond.code y bytes maxL ret).before args s = true) (hy : y.cls ≠ "java/lang/invoke/MethodHandle" ∧ y.cls ≠ "java/lang/invoke/VarHandle")
    {W9 : Nat} {Pre : Pt → Array Value → Prop} {Post : Pt → Array Value → Option Value → Pt → Prop} {PostX : Pt → Array Value → Addr → Pt → Prop} (hK : vx_Back l R p e below s args y 3 W9 Pre Post PostX)
    {g : JFrame} (hg : g.method = m) (hsize : g.locals.size = c.maxLocals) {argsL rest : List Value} (hlen : ∀ sig, parseMethodDescriptor y.desc = some sig → argsL.length = sig.parameters.length)
    (hstack : g.stack = argsL.reverse ++ rest) (hW : 2 * g.monitorRoom + (rest.map fun v => v.category).sum ≤ W9) (hdg : decode c.code g.pc = .ok (.invokestatic index, 3))
    (hpre : ∀ vm₁, s.WarmedH vm₁ → Pre ⟨T.setVm vm₁, locs, cells, slots⟩ argsL.toArray) :
    (∃ (v : Option Value) (vm₁ : Vm) (B : Pt), s.WarmedH vm₁ ∧ Stand p l e R s m args below meth c B.U B.locs B.cells B.slots ∧ Post ⟨T.setVm vm₁, locs, cells, slots⟩ argsL.toArray v B ∧
      ∀ target, Steps p.tables e below (B.U.setTop { g with pc := g.pc + 3, stack := v.toList ++ rest }) target → Steps p.tables e below (T.setTop g) target) ∨
    (∃ (q : Addr) (vm₁ : Vm) (B : Pt), s.WarmedH vm₁ ∧ Stand p l e R s m args below meth c B.U B.locs B.cells B.slots ∧ PostX ⟨T.setVm vm₁, locs, cells, slots⟩ argsL.toArray q B ∧
      Steps p.tables e below (T.setTop g) ((B.U.setTop { g with stack := rest }).pushFrame (.throwing q))) := by
  obtain ⟨mk, hnamed⟩ := Cond.code_named hcode
  obtain ⟨methM, cM, hmethM, -, -, -, -, -, -, hsigM⟩ := Cond.code_spec hnamed hcode
  have hstatic : methM.isStatic = true := Cond.static_spec hnamed hmethM hstat
  obtain ⟨kP, hkP, -⟩ := className_of_methodNamed hnamed
  have hinitP : kP.init = .initialized := Cond.initialized_spec (findClass_of_methodNamed hnamed) hkP hinit
  obtain ⟨vm₁, X₁, hstep₁⟩ := X.invokestatic hexec hown hlink hnamed hmethM hstatic hkP hinitP hy (g := g) hg (argsL := argsL) (rest := rest) (hlen _ hsigM) hstack hdg
  rcases hK m meth c ⟨T.setVm vm₁, locs, cells, slots⟩ { g with stack := rest } (.invokestatic index) mk argsL.toArray X₁ hg hsize hdg hW (X₁.named hnamed) (hpre vm₁ X₁.warmed) with ⟨v, B, X', hpost, hsteps⟩ | ⟨q, B, X', hpost, hsteps⟩
  · exact Or.inl ⟨v, vm₁, B, X₁.warmed, X', hpost, fun target h => hstep₁ _ fun acts => by rw [doInvoke_state]; exact hsteps.trans h⟩
  · exact Or.inr ⟨q, vm₁, B, X₁.warmed, X', hpost, hstep₁ _ fun acts => by rw [doInvoke_state]; exact hsteps⟩
end Calls
theorem vx_cls {s : State} {T : State} {vm₁ : Vm} {E : String} {k : ClassId} (hW : s.WarmedH vm₁) (h : (T.setVm vm₁).vm.findClass E = some k) : s.vm.findClass E = some k := by
  have h1 : vm₁.findClass E = some k := h
  rw [hW.alike.findClass] at h1
  exact h1
/-- the method's frame g, with q thrown over it -/
def vx_W (p : Program) (l : Launch) (e : Env) (R : Room) (s : State) (m : MethodId) (args : Array Value) (below : List Frame) (meth : Method) (c : Code) (H : Heap) (locs : List Loc) (cells slots : Nat) (Q : State → Prop) (g : JFrame) (q : Addr) : Prop :=
  ∀ T : State, T.heap = H → Stand p l e R s m args below meth c T locs cells slots → ∃ t, Steps p.tables e below ((T.setTop g).pushFrame (.throwing q)) t ∧ Q t
def vx_Run (p : Program) (l : Launch) (e : Env) (R : Room) (s : State) (m : MethodId) (args : Array Value) (below : List Frame) (meth : Method) (c : Code) (H : Heap) (locs : List Loc) (cells slots mc ms : Nat) (g : JFrame) (rest : List Value) (Qa : State → Outcome → State → Prop) (XC : String → State → State → Prop) (free : Addr → Prop) : Prop :=
  ∀ T : State, T.heap = H → Stand p l e R s m args below meth c T locs cells slots →
    (∃ (v : Option Value) (st₀ t T' : State) (L : List Loc), st₀.heap = H ∧ Stand p l e R s m args below meth c T' (locs ++ L) (cells + mc) (slots + ms) ∧ (∀ q ∈ L, free q.base) ∧ T'.heap = t.heap ∧ T'.vm = t.vm ∧ Qa st₀ (.returned v) t ∧
      Goes p e below T g T' { g with pc := g.pc + 3, stack := v.toList ++ rest }) ∨
    (∃ (q : Addr) (st₀ t T' : State) (L : List Loc) (E : String) (ce : Cell), st₀.heap = H ∧ Stand p l e R s m args below meth c T' (locs ++ L) (cells + mc) (slots + ms) ∧ (∀ z ∈ L, free z.base) ∧ T'.heap = t.heap ∧ T'.vm = t.vm ∧ XC E st₀ t ∧ t.heap[q]? = some ce ∧ ce.vm = .none ∧ s.vm.findClass E = some ce.cls ∧
      Steps p.tables e below (T.setTop g) ((T'.setTop { g with stack := rest }).pushFrame (.throwing q)))
def vx_X {S : Type} (px : S → Prop) (B : String → S → State → Prop) (A : Nat → Prop) : String → State → State → Prop := fun E st t => ∃ u : S, px u ∧ B E u t ∧ va_F A st t
section Runs
variable {p : Program} {l : Launch} {e : Env} {R : Room} {s : State} {m : MethodId} {args : Array Value} {below : List Frame} {meth : Method} {c : Code} {H : Heap} {locs : List Loc} {cells slots : Nat}
variable {y : MethodName} {bytes cc : ByteArray} {maxL nL mc ms n index : Nat} {ret : Option FieldType} {ws : List Cond} {rm : Room} {Pc : Array Value → State → Prop} {Qc : Array Value → State → Outcome → State → Prop} {XC : String → State → State → Prop} {free : Addr → Prop} {Ts : List Cond} {own C : String} {b : Addr} {As rest : List Value} {g : JFrame}
theorem vx_callBack (cb : CallB R s args own index y bytes maxL ret ws rm mc ms n) (hM : vx_Met l y ws rm Pc Qc XC mc ms free) (hbl : FrameBlind Pc) : vx_Back l R p e below s args y 3 8 (PreOf R mc ms Pc) (PostOf Qc mc ms free) (vx_Post XC mc ms free) := by
  obtain ⟨hrc, hrs, hfr, hlo, hws, hcw, -, hini, -⟩ := cb
  exact vx_back (bytes := bytes) (maxL := maxL) (ret := ret) hM hbl hrc hrs hfr hlo hws hcw (fun a' U hW => word_at hW (Or.inl (by first | rfl | simp [Cond.onTables, Cond.keeps, Cond.steady])) hini)
theorem vx_runV (S : CallFix p m c cc nL s args Ts own) (hM : vx_Met l y ws rm Pc Qc XC mc ms free) (cw : CallW R s args own C index y bytes maxL ret ws rm mc ms n) (hp : PreV s H C b Pc As)
    (hg : g.method = m) (hn : As.length = n) (hsize : g.locals.size = nL) (hstack : g.stack = As.reverse ++ .ref b :: rest) (hW : 2 * g.monitorRoom + (rest.map fun v => v.category).sum ≤ 8) (hdg : decode cc g.pc = .ok (.invokevirtual index, 3)) (hf : cells + mc ≤ R.cells ∧ slots + ms ≤ R.slots) :
    vx_Run p l e R s m args below meth c H locs cells slots mc ms g rest (Qc (Value.ref b :: As).toArray) XC free := by
  have hK : vx_Back l R p e below s args y 3 8 (PreOf R mc ms Pc) (PostOf Qc mc ms free) (vx_Post XC mc ms free) := vx_callBack cw.1 hM hp.1
  obtain ⟨⟨-, -, -, -, -, -, hcode, -, hy, hlen, hl⟩, hin, hse⟩ := cw
  obtain ⟨hx, hb, hml, ho, -⟩ := S
  obtain ⟨-, ⟨cellB, hcB, hoB, hclB⟩, hPc⟩ := hp
  intro T hT X
  rcases vx_callV X hx (C := C) (bytes := bytes) (maxL := maxL) (ret := ret) ho hl hin hse hcode hy hK (by rw [hT]; exact hcB) hoB hclB hg (hsize.trans hml.symm) (argsL := As) (rest := rest) (fun sig h => hn.trans (hlen sig h)) hstack hW (by rw [hb]; exact hdg)
    (fun vm₁ hW₁ => ⟨hf.1, hf.2, hPc (T.setVm vm₁) hT hW₁⟩) with ⟨v, vm₁, ⟨U', l2, c2, s2⟩, hW₁, X', ⟨g', mk, t, L, e1, e2, hq, h1, hL, h2, h3⟩, st⟩ | ⟨q, vm₁, ⟨U', l2, c2, s2⟩, hW₁, X', ⟨g', mk, t, L, E, ce, e1, e2, hq, hce, hcv, hcl, h1, hL, h2, h3⟩, st⟩
  · dsimp only [Pt.U, Pt.locs, Pt.cells, Pt.slots] at X' e1 e2 h1 h2 h3 st
    subst h1; subst h2; subst h3
    exact Or.inl ⟨v, (T.setVm vm₁).calling g' mk (Value.ref b :: As).toArray, t, U', L, hT, X', hL, e1, e2, hq, st⟩
  · dsimp only [Pt.U, Pt.locs, Pt.cells, Pt.slots] at X' e1 e2 h1 h2 h3 st hcl
    subst h1; subst h2; subst h3
    exact Or.inr ⟨q, (T.setVm vm₁).calling g' mk (Value.ref b :: As).toArray, t, U', L, E, ce, hT, X', hL, e1, e2, hq, hce, hcv, vx_cls hW₁ hcl, st⟩
theorem vx_runS (S : CallFix p m c cc nL s args Ts own) (hM : vx_Met l y ws rm Pc Qc XC mc ms free) (cw : CallB R s args own index y bytes maxL ret ws rm mc ms n ∧ (Cond.static y).before args s = true) (hp : PreS s H Pc As)
    (hg : g.method = m) (hn : As.length = n) (hsize : g.locals.size = nL) (hstack : g.stack = As.reverse ++ rest) (hW : 2 * g.monitorRoom + (rest.map fun v => v.category).sum ≤ 8) (hdg : decode cc g.pc = .ok (.invokestatic index, 3)) (hf : cells + mc ≤ R.cells ∧ slots + ms ≤ R.slots) :
    vx_Run p l e R s m args below meth c H locs cells slots mc ms g rest (Qc As.toArray) XC free := by
  have hK : vx_Back l R p e below s args y 3 8 (PreOf R mc ms Pc) (PostOf Qc mc ms free) (vx_Post XC mc ms free) := vx_callBack cw.1 hM hp.1
  obtain ⟨⟨-, -, -, -, -, -, hcode, hini, hy, hlen, hl⟩, hstt⟩ := cw
  obtain ⟨hx, hb, hml, ho, -⟩ := S
  intro T hT X
  rcases vx_callS X hx (bytes := bytes) (maxL := maxL) (ret := ret) ho hl hstt hini hcode hy hK hg (hsize.trans hml.symm) (argsL := As) (rest := rest) (fun sig h => hn.trans (hlen sig h)) hstack hW (by rw [hb]; exact hdg)
    (fun vm₁ hW₁ => ⟨hf.1, hf.2, hp.2 (T.setVm vm₁) hT hW₁⟩) with ⟨v, vm₁, ⟨U', l2, c2, s2⟩, hW₁, X', ⟨g', mk, t, L, e1, e2, hq, h1, hL, h2, h3⟩, st⟩ | ⟨q, vm₁, ⟨U', l2, c2, s2⟩, hW₁, X', ⟨g', mk, t, L, E, ce, e1, e2, hq, hce, hcv, hcl, h1, hL, h2, h3⟩, st⟩
  · dsimp only [Pt.U, Pt.locs, Pt.cells, Pt.slots] at X' e1 e2 h1 h2 h3 st
    subst h1; subst h2; subst h3
    exact Or.inl ⟨v, (T.setVm vm₁).calling g' mk As.toArray, t, U', L, hT, X', hL, e1, e2, hq, st⟩
  · dsimp only [Pt.U, Pt.locs, Pt.cells, Pt.slots] at X' e1 e2 h1 h2 h3 st hcl
    subst h1; subst h2; subst h3
    exact Or.inr ⟨q, (T.setVm vm₁).calling g' mk As.toArray, t, U', L, E, ce, hT, X', hL, e1, e2, hq, hce, hcv, vx_cls hW₁ hcl, st⟩
end Runs
section Rows
variable {p : Program} {l : Launch} {e : Env} {R : Room} {s : State} {m : MethodId} {args : Array Value} {below : List Frame} {meth : Method} {c : Code} {H : Heap} {locs : List Loc} {cells slots : Nat} {Q : State → Prop}
variable {mc ms : Nat} {free : Addr → Prop} {A0 A1 : Nat → Prop} {H0 : Heap} {a : Array Value} {pc : Nat} {ls : Array Slot} {st0 rest : List Value}
theorem vx_keep {st₀ t T' : State} {L : List Loc} (h0 : st₀.heap = H) (e1 : T'.heap = t.heap) (hS : va_S A0 H0 H locs) (hA : ∀ q, q < H.size → A1 q → A0 q) (hf : ∀ q, free q → A0 q) (hL : ∀ q ∈ L, free q.base) (hF : va_F A1 st₀ t) :
    H.size ≤ T'.heap.size ∧ (∀ q : Nat, q < H.size → ¬ A1 q → T'.heap[q]? = H[q]?) ∧ va_S A0 H0 T'.heap (locs ++ L) := by
  obtain ⟨hz, hk⟩ := hF
  rw [h0] at hz hk
  exact ⟨by rw [e1]; exact hz, fun q h1 h2 => by rw [e1]; exact hk q h1 h2,
    ⟨Nat.le_trans hS.1 (by rw [e1]; exact hz), fun q h1 h2 => by rw [e1, hk q (Nat.lt_of_lt_of_le h1 hS.1) (fun z => h2 (hA q (Nat.lt_of_lt_of_le h1 hS.1) z))]; exact hS.2.1 q h1 h2, fun q hq => by
      rcases List.mem_append.mp hq with h | h
      · exact hS.2.2 q h
      · exact hf _ (hL q h)⟩⟩
theorem vx_calli {S SX : Type} {post : Int32 → S → Prop} {px : SX → Prop} {B : S → State → Prop} {BX : String → SX → State → Prop} {AX : Nat → Prop} (hr : vx_Run p l e R s m args below meth c H locs cells slots mc ms (F0 m pc ls st0) rest (va_Qi post B A1 a) (vx_X px BX AX) free) (hS : va_S A0 H0 H locs) (hA : ∀ q, q < H.size → A1 q → A0 q) (hf : ∀ q, free q → A0 q) (hAX : ∀ q, q < H.size → AX q → A0 q)
    (kx : ∀ (E : String) (ce : Cell) (q9 : Addr) (u : SX) (t : State) (H1 : Heap) (locs1 : List Loc), t.heap = H1 → s.vm.Alike t.vm → px u → BX E u t → H.size ≤ H1.size → (∀ q : Nat, q < H.size → ¬ AX q → H1[q]? = H[q]?) → va_S A0 H0 H1 locs1 → H1[q9]? = some ce → ce.vm = .none → s.vm.findClass E = some ce.cls → vx_W p l e R s m args below meth c H1 locs1 (cells + mc) (slots + ms) Q (F0 m pc ls rest) q9)
    (kk : ∀ (r : Int32) (u : S) (t : State) (H1 : Heap) (locs1 : List Loc), t.heap = H1 → s.vm.Alike t.vm → post r u → B u t → H.size ≤ H1.size → (∀ q : Nat, q < H.size → ¬ A1 q → H1[q]? = H[q]?) → va_S A0 H0 H1 locs1 → W p l e R s m args below meth c H1 locs1 (cells + mc) (slots + ms) Q (F0 m (pc + 3) ls (.int r :: rest))) : W p l e R s m args below meth c H locs cells slots Q (F0 m pc ls st0) := by
  intro T hT X
  rcases hr T hT X with ⟨v, st₀, t, T', L, h0, X', hL, e1, e2, ⟨⟨r, u, hv, hp, hb⟩, hF⟩, st⟩ | ⟨q, st₀, t, T', L, E, ce, h0, X', hL, e1, e2, ⟨u, hp, hb, hF⟩, hce, hcv, hcl, st⟩
  · cases hv
    obtain ⟨k1, k2, k3⟩ := vx_keep h0 e1 hS hA hf hL hF
    obtain ⟨t2, a1, b1⟩ := kk r u t T'.heap (locs ++ L) e1.symm (by rw [← e2]; exact X'.warmed.alike) hp hb k1 k2 k3 T' rfl X'
    exact ⟨t2, st t2 a1, b1⟩
  · obtain ⟨k1, k2, k3⟩ := vx_keep h0 e1 hS hAX hf hL hF
    obtain ⟨t2, a1, b1⟩ := kx E ce q u t T'.heap (locs ++ L) e1.symm (by rw [← e2]; exact X'.warmed.alike) hp hb k1 k2 k3 (by rw [e1]; exact hce) hcv hcl T' rfl X'
    exact ⟨t2, st.trans a1, b1⟩
theorem vx_calll {S SX : Type} {post : Int64 → S → Prop} {px : SX → Prop} {B : S → State → Prop} {BX : String → SX → State → Prop} {AX : Nat → Prop} (hr : vx_Run p l e R s m args below meth c H locs cells slots mc ms (F0 m pc ls st0) rest (va_Ql post B A1 a) (vx_X px BX AX) free) (hS : va_S A0 H0 H locs) (hA : ∀ q, q < H.size → A1 q → A0 q) (hf : ∀ q, free q → A0 q) (hAX : ∀ q, q < H.size → AX q → A0 q)
    (kx : ∀ (E : String) (ce : Cell) (q9 : Addr) (u : SX) (t : State) (H1 : Heap) (locs1 : List Loc), t.heap = H1 → s.vm.Alike t.vm → px u → BX E u t → H.size ≤ H1.size → (∀ q : Nat, q < H.size → ¬ AX q → H1[q]? = H[q]?) → va_S A0 H0 H1 locs1 → H1[q9]? = some ce → ce.vm = .none → s.vm.findClass E = some ce.cls → vx_W p l e R s m args below meth c H1 locs1 (cells + mc) (slots + ms) Q (F0 m pc ls rest) q9)
    (kk : ∀ (r : Int64) (u : S) (t : State) (H1 : Heap) (locs1 : List Loc), t.heap = H1 → s.vm.Alike t.vm → post r u → B u t → H.size ≤ H1.size → (∀ q : Nat, q < H.size → ¬ A1 q → H1[q]? = H[q]?) → va_S A0 H0 H1 locs1 → W p l e R s m args below meth c H1 locs1 (cells + mc) (slots + ms) Q (F0 m (pc + 3) ls (.long r :: rest))) : W p l e R s m args below meth c H locs cells slots Q (F0 m pc ls st0) := by
  intro T hT X
  rcases hr T hT X with ⟨v, st₀, t, T', L, h0, X', hL, e1, e2, ⟨⟨r, u, hv, hp, hb⟩, hF⟩, st⟩ | ⟨q, st₀, t, T', L, E, ce, h0, X', hL, e1, e2, ⟨u, hp, hb, hF⟩, hce, hcv, hcl, st⟩
  · cases hv
    obtain ⟨k1, k2, k3⟩ := vx_keep h0 e1 hS hA hf hL hF
    obtain ⟨t2, a1, b1⟩ := kk r u t T'.heap (locs ++ L) e1.symm (by rw [← e2]; exact X'.warmed.alike) hp hb k1 k2 k3 T' rfl X'
    exact ⟨t2, st t2 a1, b1⟩
  · obtain ⟨k1, k2, k3⟩ := vx_keep h0 e1 hS hAX hf hL hF
    obtain ⟨t2, a1, b1⟩ := kx E ce q u t T'.heap (locs ++ L) e1.symm (by rw [← e2]; exact X'.warmed.alike) hp hb k1 k2 k3 (by rw [e1]; exact hce) hcv hcl T' rfl X'
    exact ⟨t2, st.trans a1, b1⟩
theorem vx_callf {S SX : Type} {post : UInt32 → S → Prop} {px : SX → Prop} {B : S → State → Prop} {BX : String → SX → State → Prop} {AX : Nat → Prop} (hr : vx_Run p l e R s m args below meth c H locs cells slots mc ms (F0 m pc ls st0) rest (va_Qf post B A1 a) (vx_X px BX AX) free) (hS : va_S A0 H0 H locs) (hA : ∀ q, q < H.size → A1 q → A0 q) (hf : ∀ q, free q → A0 q) (hAX : ∀ q, q < H.size → AX q → A0 q)
    (kx : ∀ (E : String) (ce : Cell) (q9 : Addr) (u : SX) (t : State) (H1 : Heap) (locs1 : List Loc), t.heap = H1 → s.vm.Alike t.vm → px u → BX E u t → H.size ≤ H1.size → (∀ q : Nat, q < H.size → ¬ AX q → H1[q]? = H[q]?) → va_S A0 H0 H1 locs1 → H1[q9]? = some ce → ce.vm = .none → s.vm.findClass E = some ce.cls → vx_W p l e R s m args below meth c H1 locs1 (cells + mc) (slots + ms) Q (F0 m pc ls rest) q9)
    (kk : ∀ (r : UInt32) (u : S) (t : State) (H1 : Heap) (locs1 : List Loc), t.heap = H1 → s.vm.Alike t.vm → post r u → B u t → H.size ≤ H1.size → (∀ q : Nat, q < H.size → ¬ A1 q → H1[q]? = H[q]?) → va_S A0 H0 H1 locs1 → W p l e R s m args below meth c H1 locs1 (cells + mc) (slots + ms) Q (F0 m (pc + 3) ls (.float r :: rest))) : W p l e R s m args below meth c H locs cells slots Q (F0 m pc ls st0) := by
  intro T hT X
  rcases hr T hT X with ⟨v, st₀, t, T', L, h0, X', hL, e1, e2, ⟨⟨r, u, hv, hp, hb⟩, hF⟩, st⟩ | ⟨q, st₀, t, T', L, E, ce, h0, X', hL, e1, e2, ⟨u, hp, hb, hF⟩, hce, hcv, hcl, st⟩
  · cases hv
    obtain ⟨k1, k2, k3⟩ := vx_keep h0 e1 hS hA hf hL hF
    obtain ⟨t2, a1, b1⟩ := kk r u t T'.heap (locs ++ L) e1.symm (by rw [← e2]; exact X'.warmed.alike) hp hb k1 k2 k3 T' rfl X'
    exact ⟨t2, st t2 a1, b1⟩
  · obtain ⟨k1, k2, k3⟩ := vx_keep h0 e1 hS hAX hf hL hF
    obtain ⟨t2, a1, b1⟩ := kx E ce q u t T'.heap (locs ++ L) e1.symm (by rw [← e2]; exact X'.warmed.alike) hp hb k1 k2 k3 (by rw [e1]; exact hce) hcv hcl T' rfl X'
    exact ⟨t2, st.trans a1, b1⟩
theorem vx_calld {S SX : Type} {post : UInt64 → S → Prop} {px : SX → Prop} {B : S → State → Prop} {BX : String → SX → State → Prop} {AX : Nat → Prop} (hr : vx_Run p l e R s m args below meth c H locs cells slots mc ms (F0 m pc ls st0) rest (va_Qd post B A1 a) (vx_X px BX AX) free) (hS : va_S A0 H0 H locs) (hA : ∀ q, q < H.size → A1 q → A0 q) (hf : ∀ q, free q → A0 q) (hAX : ∀ q, q < H.size → AX q → A0 q)
    (kx : ∀ (E : String) (ce : Cell) (q9 : Addr) (u : SX) (t : State) (H1 : Heap) (locs1 : List Loc), t.heap = H1 → s.vm.Alike t.vm → px u → BX E u t → H.size ≤ H1.size → (∀ q : Nat, q < H.size → ¬ AX q → H1[q]? = H[q]?) → va_S A0 H0 H1 locs1 → H1[q9]? = some ce → ce.vm = .none → s.vm.findClass E = some ce.cls → vx_W p l e R s m args below meth c H1 locs1 (cells + mc) (slots + ms) Q (F0 m pc ls rest) q9)
    (kk : ∀ (r : UInt64) (u : S) (t : State) (H1 : Heap) (locs1 : List Loc), t.heap = H1 → s.vm.Alike t.vm → post r u → B u t → H.size ≤ H1.size → (∀ q : Nat, q < H.size → ¬ A1 q → H1[q]? = H[q]?) → va_S A0 H0 H1 locs1 → W p l e R s m args below meth c H1 locs1 (cells + mc) (slots + ms) Q (F0 m (pc + 3) ls (.double r :: rest))) : W p l e R s m args below meth c H locs cells slots Q (F0 m pc ls st0) := by
  intro T hT X
  rcases hr T hT X with ⟨v, st₀, t, T', L, h0, X', hL, e1, e2, ⟨⟨r, u, hv, hp, hb⟩, hF⟩, st⟩ | ⟨q, st₀, t, T', L, E, ce, h0, X', hL, e1, e2, ⟨u, hp, hb, hF⟩, hce, hcv, hcl, st⟩
  · cases hv
    obtain ⟨k1, k2, k3⟩ := vx_keep h0 e1 hS hA hf hL hF
    obtain ⟨t2, a1, b1⟩ := kk r u t T'.heap (locs ++ L) e1.symm (by rw [← e2]; exact X'.warmed.alike) hp hb k1 k2 k3 T' rfl X'
    exact ⟨t2, st t2 a1, b1⟩
  · obtain ⟨k1, k2, k3⟩ := vx_keep h0 e1 hS hAX hf hL hF
    obtain ⟨t2, a1, b1⟩ := kx E ce q u t T'.heap (locs ++ L) e1.symm (by rw [← e2]; exact X'.warmed.alike) hp hb k1 k2 k3 (by rw [e1]; exact hce) hcv hcl T' rfl X'
    exact ⟨t2, st.trans a1, b1⟩
theorem vx_callv {S SX : Type} {post : S → Prop} {px : SX → Prop} {B : S → State → Prop} {BX : String → SX → State → Prop} {AX : Nat → Prop} (hr : vx_Run p l e R s m args below meth c H locs cells slots mc ms (F0 m pc ls st0) rest (va_Qv post B A1 a) (vx_X px BX AX) free) (hS : va_S A0 H0 H locs) (hA : ∀ q, q < H.size → A1 q → A0 q) (hf : ∀ q, free q → A0 q) (hAX : ∀ q, q < H.size → AX q → A0 q)
    (kx : ∀ (E : String) (ce : Cell) (q9 : Addr) (u : SX) (t : State) (H1 : Heap) (locs1 : List Loc), t.heap = H1 → s.vm.Alike t.vm → px u → BX E u t → H.size ≤ H1.size → (∀ q : Nat, q < H.size → ¬ AX q → H1[q]? = H[q]?) → va_S A0 H0 H1 locs1 → H1[q9]? = some ce → ce.vm = .none → s.vm.findClass E = some ce.cls → vx_W p l e R s m args below meth c H1 locs1 (cells + mc) (slots + ms) Q (F0 m pc ls rest) q9)
    (kk : ∀ (u : S) (t : State) (H1 : Heap) (locs1 : List Loc), t.heap = H1 → s.vm.Alike t.vm → post u → B u t → H.size ≤ H1.size → (∀ q : Nat, q < H.size → ¬ A1 q → H1[q]? = H[q]?) → va_S A0 H0 H1 locs1 → W p l e R s m args below meth c H1 locs1 (cells + mc) (slots + ms) Q (F0 m (pc + 3) ls (rest))) : W p l e R s m args below meth c H locs cells slots Q (F0 m pc ls st0) := by
  intro T hT X
  rcases hr T hT X with ⟨v, st₀, t, T', L, h0, X', hL, e1, e2, ⟨⟨u, hv, hp, hb⟩, hF⟩, st⟩ | ⟨q, st₀, t, T', L, E, ce, h0, X', hL, e1, e2, ⟨u, hp, hb, hF⟩, hce, hcv, hcl, st⟩
  · cases hv
    obtain ⟨k1, k2, k3⟩ := vx_keep h0 e1 hS hA hf hL hF
    obtain ⟨t2, a1, b1⟩ := kk u t T'.heap (locs ++ L) e1.symm (by rw [← e2]; exact X'.warmed.alike) hp hb k1 k2 k3 T' rfl X'
    exact ⟨t2, st t2 a1, b1⟩
  · obtain ⟨k1, k2, k3⟩ := vx_keep h0 e1 hS hAX hf hL hF
    obtain ⟨t2, a1, b1⟩ := kx E ce q u t T'.heap (locs ++ L) e1.symm (by rw [← e2]; exact X'.warmed.alike) hp hb k1 k2 k3 (by rw [e1]; exact hce) hcv hcl T' rfl X'
    exact ⟨t2, st.trans a1, b1⟩
end Rows
section Ends
variable {p : Program} {l : Launch} {e : Env} {R : Room} {s : State} {m : MethodId} {args : Array Value} {below : List Frame} {meth : Method} {c : Code} {H : Heap} {locs : List Loc} {cells slots : Nat} {Q : State → Prop}
variable {mc ms : Nat} {free : Addr → Prop} {A0 A1 : Nat → Prop} {H0 : Heap} {a : Array Value} {ls : Array Slot} {st0 rest : List Value}
variable {Qc : Array Value → State → Outcome → State → Prop} {XC : String → State → State → Prop}
/-- what a body that may throw owes at its end -/
def vx_MQ (below : List Frame) (Qc : Array Value → State → Outcome → State → Prop) (XC : String → State → State → Prop) (a : Array Value) (s : State) (mc ms : Nat) (free : Addr → Prop) : State → Prop := fun t =>
  ∃ o, t.status = .running ∧ Ended t below o ∧ vx_Q Qc XC mc ms free a s o t
theorem vx_ret {g : JFrame} {mc ms : Nat} (k : W p l e R s m args below meth c H locs cells slots (MQ below Qc args s mc ms free) g) : W p l e R s m args below meth c H locs cells slots (vx_MQ below Qc XC args s mc ms free) g := by
  intro T hT X
  obtain ⟨t, a1, o, b1, b2, b3, b4⟩ := k T hT X
  exact ⟨t, a1, o, b1, b2, Or.inl ⟨b3, b4⟩⟩
/-- not caught here: it goes on to the caller -/
theorem vx_widen {g : JFrame} {q : Addr} {k n : Nat} (h1 : cells ≤ k) (h2 : slots ≤ n) (kk : vx_W p l e R s m args below meth c H locs k n Q g q) : vx_W p l e R s m args below meth c H locs cells slots Q g q := fun T hT X => kk T hT (stand_widen X h1 h2)
theorem vx_out {pc : Nat} {E : String} {ce : Cell} {q : Addr} {mc ms : Nat} (hout : ∀ x ∈ c.exceptionTable.toList, covers x pc = false) (hlocks : meth.locks = false) (hcell : H[q]? = some ce) (hv : ce.vm = .none) (hcl : s.vm.findClass E = some ce.cls)
    (hx : ∀ t : State, t.heap = H → s.vm.Alike t.vm → XC E s t) (hf : ∀ z ∈ locs, free z.base) (hc : cells ≤ mc) (hs : slots ≤ ms) :
    vx_W p l e R s m args below meth c H locs cells slots (vx_MQ below Qc XC args s mc ms free) (F0 m pc ls rest) q := by
  intro T hT X
  obtain ⟨st1, hrun, hend, hW, hsm⟩ := X.leaveThrown q (g := F0 m pc ls rest) rfl rfl rfl hout hlocks
  have hcell9 : (T.setFrames (.throwing q :: below)).heap[q]? = some ce := by
    show T.heap[q]? = some ce
    rw [hT]; exact hcell
  exact ⟨_, st1, .threw q, hrun, hend, Or.inr ⟨q, rfl, E, ce, locs, hx _ hT hW.alike, hcell9, hv, hcl, hW, hsm.mono hc hs, hf⟩⟩
theorem vx_frame {U : State} {k n : Nat} (h : s.sameButNew ({ U with vm := s.vm } : State) locs k n) : s.heap.size ≤ U.heap.size ∧ ∀ q : Nat, q < s.heap.size → (∀ z ∈ locs, z.base ≠ q) → U.heap[q]? = s.heap[q]? := by
  obtain ⟨-, h2, -, -, -, h6⟩ := h
  refine ⟨h2, fun q hq hz => ?_⟩
  obtain ⟨c9, e1, e2, e3, e4⟩ := h6 q _ (Array.getElem?_eq_getElem hq)
  have hs : c9.slots = (s.heap[q]).slots := Array.ext_getElem? fun i => e4 i fun hm => hz _ hm rfl
  have h9 : c9 = s.heap[q] := by
    rw [hs] at e2
    exact e2
  have e5 : U.heap[q]? = some c9 := e1
  rw [e5, h9, Array.getElem?_eq_getElem hq]
/-- the words of a throw but the four that speak of the heap -/
def vx_no (w : Cond) : Bool := decide (w ≠ .isRef (.static Bundle.tN "UNASSIGNED_STACK" Bundle.steD)) && decide (w ≠ .isRef (.static Bundle.tN "SUPPRESSED_SENTINEL" Bundle.listD)) && decide (w ≠ .laysStatic Bundle.tN "UNASSIGNED_STACK" Bundle.steD) && decide (w ≠ .laysStatic Bundle.tN "SUPPRESSED_SENTINEL" Bundle.listD)
def vx_at0 (own : String) (ic : Nat) (X : String) (names : List String) : List Cond := (Bundle.ownAtoms0 own ic X names).filter vx_no
def vx_atS (own : String) (ic : Nat) (X : String) (names : List String) : List Cond := (Bundle.ownAtoms own ic X names).filter vx_no
/-- a word that the tables alone decide, or a good one -/
def vx_ot (w : Cond) : Bool := w.onTables || goodWord w
theorem vx_ot_at {args a' : Array Value} {s U : State} {w : Cond} (hW : s.WarmedH U.vm) (hvm : s.vm = U.vm) (hg : vx_ot w = true) (h : w.before args s = true) : w.before a' U = true := by
  simp only [vx_ot, Bool.or_eq_true] at hg
  rcases hg with hg | hg
  · exact va_tabs hg hvm h
  · exact word_at hW (good_of_word hg) h
/-- a list's words: the good ones out of the method's own list, the others by premises of their own -/
theorem vx_hat {args : Array Value} {s : State} {L B : List Cond} (h1 : ∀ w ∈ L.filter goodWord, w.before args s = true) (h2 : ∀ w ∈ L.filter (fun w => !goodWord w), w ∈ B) (h3 : ∀ w ∈ B, w.before args s = true) : ∀ w ∈ L, w.before args s = true := by
  intro w hw
  by_cases g : goodWord w = true
  · exact h1 w (List.mem_filter.mpr ⟨hw, g⟩)
  · refine h3 w (h2 w (List.mem_filter.mpr ⟨hw, ?_⟩))
    show (!goodWord w) = true
    cases hgw : goodWord w
    · rfl
    · exact absurd hgw g
theorem vx_c {args : Array Value} {s : State} {w : Cond} {B : List Cond} (h : w.before args s = true) (t : ∀ w ∈ B, w.before args s = true) : ∀ w' ∈ w :: B, w'.before args s = true := fun w' h' => (List.mem_cons.mp h').elim (fun e => by rw [e]; exact h) (t w')
theorem vx_n {args : Array Value} {s : State} : ∀ w ∈ ([] : List Cond), w.before args s = true := fun _ h => nomatch h
theorem vx_own {args : Array Value} {s : State} {L : List Cond} (h1 : ∀ w ∈ L.filter vx_no, w.before args s = true)
    (hU : (Cond.isRef (.static Bundle.tN "UNASSIGNED_STACK" Bundle.steD)).before args s = true) (hN : (Cond.isRef (.static Bundle.tN "SUPPRESSED_SENTINEL" Bundle.listD)).before args s = true)
    (lU : (Cond.laysStatic Bundle.tN "UNASSIGNED_STACK" Bundle.steD).before args s = true) (lN : (Cond.laysStatic Bundle.tN "SUPPRESSED_SENTINEL" Bundle.listD).before args s = true) : ∀ w ∈ L, w.before args s = true := by
  intro w hw
  by_cases e1 : w = .isRef (.static Bundle.tN "UNASSIGNED_STACK" Bundle.steD)
  · rw [e1]; exact hU
  · by_cases e2 : w = .isRef (.static Bundle.tN "SUPPRESSED_SENTINEL" Bundle.listD)
    · rw [e2]; exact hN
    · by_cases e3 : w = .laysStatic Bundle.tN "UNASSIGNED_STACK" Bundle.steD
      · rw [e3]; exact lU
      · by_cases e4 : w = .laysStatic Bundle.tN "SUPPRESSED_SENTINEL" Bundle.listD
        · rw [e4]; exact lN
        · exact h1 w (List.mem_filter.mpr ⟨hw, by unfold vx_no; rw [decide_eq_true e1, decide_eq_true e2, decide_eq_true e3, decide_eq_true e4]; rfl⟩)
/-- where a static field lies, its class's statics cell in H -/
def vx_L (C n d : String) (A : Nat → Prop) (U : State) (H : Heap) : Prop := ∃ (c : ClassId) (k : Class) (i : Nat) (f : Field) (a : Nat) (cell : Cell), U.vm.findClass C = some c ∧ U.fieldFound? C n d = some (c, k, i, f) ∧ f.isStatic = true ∧ k.statics = some a ∧ H[a]? = some cell ∧ cell.vm.isStatics = true ∧ cell.cls = c ∧ f.slot < cell.slots.size ∧ k.staticTypes[f.slot]? = some f.type ∧ ¬ A a
theorem vx_L.moved {C n d : String} {A : Nat → Prop} {u U : State} {H : Heap} (hvm : u.vm.Alike U.vm) (h : vx_L C n d A u H) : vx_L C n d A U H := by
  obtain ⟨c, k, i, f, a, cell, h1, h2, h3, h4, h5, h6, h7, h8, h9, h10⟩ := h
  obtain ⟨k', hi', he⟩ := State.fieldFound?_setVm hvm h2
  exact ⟨c, k', i, f, a, cell, by rw [hvm.findClass]; exact h1, hi', h3, by rw [he]; exact h4, h5, h6, h7, h8, by rw [he]; exact h9, h10⟩
theorem vx_L.kept {C n d : String} {A : Nat → Prop} {U : State} {H H1 : Heap} (h : vx_L C n d A U H) (hq : ∀ a : Nat, a < H.size → ¬ A a → H1[a]? = H[a]?) : vx_L C n d A U H1 := by
  obtain ⟨c, k, i, f, a, cell, h1, h2, h3, h4, h5, h6, h7, h8, h9, h10⟩ := h
  exact ⟨c, k, i, f, a, cell, h1, h2, h3, h4, by rw [hq a (Array.getElem?_eq_some_iff.mp h5).1 h10]; exact h5, h6, h7, h8, h9, h10⟩
theorem vx_L.narrow {C n d : String} {A B : Nat → Prop} {U : State} {H : Heap} (h : vx_L C n d A U H) (hAB : ∀ q, B q → A q) : vx_L C n d B U H := by
  obtain ⟨c, k, i, f, a, cell, h1, h2, h3, h4, h5, h6, h7, h8, h9, h10⟩ := h
  exact ⟨c, k, i, f, a, cell, h1, h2, h3, h4, h5, h6, h7, h8, h9, fun z => h10 (hAB _ z)⟩
theorem vx_L.word {C n d : String} {A : Nat → Prop} {s : State} {args : Array Value} (h : vx_L C n d A s s.heap) : (Cond.laysStatic C n d).before args s = true := by
  obtain ⟨c, k, i, f, a, cell, h1, h2, h3, h4, h5, h6, h7, h8, h9, -⟩ := h
  show (Cond.laysStatic C n d).holds args s none s [] = true
  exact Cond.laysStatic_of h1 h2 h3 h4 h5 h6 h7 h8 h9
/-- .. and what it holds: null or some reference -/
def vx_Zq (C n d : String) (A : Nat → Prop) (U : State) (H : Heap) : Prop := va_Zq C n d A U H ∧ vx_L C n d A U H
theorem vx_Zq.moved {C n d : String} {A : Nat → Prop} {u U : State} {H : Heap} (hvm : u.vm.Alike U.vm) (h : vx_Zq C n d A u H) : vx_Zq C n d A U H := ⟨va_Zq.moved hvm h.1, vx_L.moved hvm h.2⟩
theorem vx_Zq.kept {C n d : String} {A : Nat → Prop} {U : State} {H H1 : Heap} (h : vx_Zq C n d A U H) (hq : ∀ a : Nat, a < H.size → ¬ A a → H1[a]? = H[a]?) : vx_Zq C n d A U H1 := ⟨va_Zq.kept h.1 hq, vx_L.kept h.2 hq⟩
theorem vx_Zq.narrow {C n d : String} {A B : Nat → Prop} {U : State} {H : Heap} (h : vx_Zq C n d A U H) (hAB : ∀ q, B q → A q) : vx_Zq C n d B U H := ⟨va_Zq.narrow h.1 hAB, vx_L.narrow h.2 hAB⟩
theorem vx_Zqof {args : Array Value} {s : State} {C n d : String} {A : Nat → Prop} (hl : (Cond.laysStatic C n d).before args s = true) (hini : (Cond.initialized C).before args s = true) (h : (Cond.isRef (.static C n d)).before args s = true) (hA : ∀ a : Nat, a < s.heap.size → ¬ A a) : vx_Zq C n d A s s.heap := by
  refine ⟨va_Zqof hl hini h hA, ?_⟩
  obtain ⟨c, k, i, f, a, cell, h1, h2, h3, h4, h5, h6, h7, h8, h9⟩ := Cond.laysStatic_spec hl
  exact ⟨c, k, i, f, a, cell, h1, h2, h3, h4, h5, h6, h7, h8, h9, hA a (Array.getElem?_eq_some_iff.mp h5).1⟩
theorem vx_isRef {C n d : String} {v : Value} {A : Nat → Prop} {s : State} {args : Array Value} (h : va_Z C n d v A s s.heap) (hv : v.isRef = true) : (Cond.isRef (.static C n d)).before args s = true := by
  obtain ⟨cf, kf, fi, f, a, cell, h1, h2, h3, h4, h5, h6, h7, -⟩ := h
  have he : (Term.static C n d).eval args s none [] s = some v := by
    simp [Term.eval, State.fieldNamed?, h1, h2, h4, h5, h6, h7]
  simp only [Cond.before, Cond.holds, Cond.value, he]
  cases v <;> simp_all [Value.isRef]
theorem vx_isRefq {C n d : String} {A : Nat → Prop} {s : State} {args : Array Value} (h : va_Zq C n d A s s.heap) : (Cond.isRef (.static C n d)).before args s = true := by
  rcases h with h | ⟨t, h⟩
  · exact vx_isRef h rfl
  · exact vx_isRef h rfl
/-- the same frame, seen from here: as if the method were called anew in this heap -/
theorem vx_rebase {T : State} (X : Stand p l e R s m args below meth c T locs cells slots) {R' : Room} (hf : R'.frames ≤ R.frames) (hl : R'.locals ≤ R.locals) (hc : cells + R'.cells ≤ R.cells) (hs : slots + R'.slots ≤ R.slots) :
    Stand p l e R' ((T.setVm s.vm).setFrames (.invoking m args :: below)) m args below meth c T [] 0 0 := by
  have htop : (T.setVm s.vm).topJava?.isSome := X.here.top
  have hF : ((T.setVm s.vm).setFrames (.invoking m args :: below)).frames = .invoking m args :: below := State.frames_setFrames _ (State.cur_lt_of_top htop)
  obtain ⟨g₀, hg0⟩ := Option.isSome_iff_exists.mp htop
  obtain ⟨r, hr⟩ := State.topJava?_eq_some.mp hg0
  have hl9 : e.platform.stackLimits (T.setVm s.vm).me = e.platform.stackLimits s.me := X.limits
  have hb9 : (T.setVm s.vm).me.stackBytes = s.me.stackBytes := X.bytes
  refine ⟨X.admits, X.cas, X.clock, hF, ?_, X.hears, X.method, X.code, X.here, X.tail, X.warmed, ?_, ?_, ?_⟩
  · have h := X.room
    have hU : ((T.setVm s.vm).setFrames (.invoking m args :: below)).localsInUse = s.localsInUse := by
      rw [State.localsInUse_invoking hF (meth := meth) (c := c) X.method X.code, State.localsInUse_invoking X.frames X.method X.code]
    simp only [State.hasRoom, Bool.and_eq_true, decide_eq_true_eq] at h ⊢
    obtain ⟨⟨⟨⟨h1, h2, h3, h4, h5, h6⟩, h7⟩, h8⟩, h9⟩ := h
    rw [X.frames, List.length_cons] at h2 h3
    have q1 := X.heapSize
    have q2 := X.used
    simp only [hF, hU, List.length_cons, State.stackLimits_setFrames, State.stackBytes_setFrames, hl9, hb9]
    refine ⟨⟨⟨⟨by omega, by omega, by omega, by omega, by omega, h6⟩, ?_⟩, ?_⟩, X.book⟩
    · show T.heap.size + R'.cells ≤ e.platform.maxCells
      omega
    · show T.slotsUsed + R'.slots ≤ e.platform.maxSlots
      omega
  · rw [State.stackLimits_setFrames]; rfl
  · rw [State.stackBytes_setFrames]; rfl
  · refine ⟨?_, Nat.le_refl _, Nat.le_refl _, ?_, ?_, fun a c9 h9 => ⟨c9, h9, rfl, rfl, fun _ _ => rfl⟩⟩
    · obtain ⟨t, ht, -⟩ := State.frames_cons hr
      show T.setVm s.vm = { ((T.setVm s.vm).setFrames (.invoking m args :: below)).setFrames (T.setVm s.vm).frames with heap := T.heap, slotsUsed := T.slotsUsed }
      rw [State.setFrames_setFrames, State.setFrames_self ht]
      rfl
    · show T.slotsUsed = T.slotsUsed + ((T.heap.toList.drop T.heap.size).map (·.slots.size)).sum
      rw [List.drop_eq_nil_of_le (Nat.le_of_eq Array.length_toList)]
      rfl
    · show ((T.heap.toList.drop T.heap.size).map (·.slots.size)).sum ≤ 0
      rw [List.drop_eq_nil_of_le (Nat.le_of_eq Array.length_toList)]
      exact Nat.le_refl _
/-- 'throw new E()': new; dup; invokespecial; athrow -/
theorem vx_throw0 {cc : ByteArray} {pc : Nat} (hexec : p.tables.exec = Jvm.exec) (hb : c.code = cc) (hl : l.stackTraces = false) {own cls : String} {names : List String} {ik ic mc ms : Nat} {A : Nat → Prop}
    (hown : s.vm.findClass own = some m.cls) (hcls : Bundle.fit cls = true) (hnames : ∀ n ∈ names, Bundle.fit n = true)
    (hk : (Cond.classLink own ik cls).before args s = true) (hini : (Cond.initialized cls).before args s = true) (hat : ∀ w ∈ vx_at0 own ic cls names, w.before args s = true)
    (hgood : ∀ w ∈ Cond.classLink own ik cls :: Cond.initialized cls :: vx_at0 own ic cls names, vx_ot w = true)
    (hU : vx_Zq Bundle.tN "UNASSIGNED_STACK" Bundle.steD A s s.heap) (hN : vx_Zq Bundle.tN "SUPPRESSED_SENTINEL" Bundle.listD A s s.heap) (hS : va_S A s.heap H locs) (hsize : ls.size = c.maxLocals)
    (d0 : decode cc pc = .ok (.new ik, 3)) (d3 : decode cc (pc + 3) = .ok (.dup, 1)) (d4 : decode cc (pc + 4) = .ok (.invokespecial ic, 3)) (d7 : decode cc (pc + 7) = .ok (.athrow, 1))
    (hout : ∀ x ∈ c.exceptionTable.toList, covers x (pc + 7) = false)
    (hRframes : names.length + 3 < R.frames) (hRlocals : (rest.map fun v => v.category).sum + (13 * (names.length + 1) + 42) ≤ R.locals) (hRcells : cells + 1 ≤ R.cells) (hRslots : slots + 6 ≤ R.slots) (hlocks : meth.locks = false)
    (hx : ∀ t : State, s.vm.Alike t.vm → H.size ≤ t.heap.size → (∀ q : Nat, q < H.size → t.heap[q]? = H[q]?) → XC cls s t)
    (hf : ∀ z ∈ locs, free z.base) (hc : cells + 1 ≤ mc) (hs : slots + 6 ≤ ms) :
    W p l e R s m args below meth c H locs cells slots (vx_MQ below Qc XC args s mc ms free) (F0 m pc ls rest) := by
  intro T hT X
  have htr : e.platform.stackTraces = false := (show e.platform.stackTraces = l.stackTraces by rw [X.admits.platform]).trans hl
  have Y := vx_rebase X (R' := { frames := R.frames, locals := R.locals, cells := 1, slots := 6 }) (Nat.le_refl _) (Nat.le_refl _) hRcells hRslots
  obtain ⟨s', hA⟩ : ∃ z, z = (T.setVm s.vm).setFrames (.invoking m args :: below) := ⟨_, rfl⟩
  rw [← hA] at Y
  have hvm : s'.vm = s.vm := by rw [hA]; rfl
  have hhp : s'.heap = H := by rw [hA]; exact hT
  have hW0 : s.WarmedH s'.vm := by rw [hvm]; exact State.WarmedH.refl s
  have hat' : ∀ w ∈ vx_at0 own ic cls names, w.before args s' = true := fun w hw => vx_ot_at hW0 hvm.symm (hgood w (List.mem_cons_of_mem _ (List.mem_cons_of_mem _ hw))) (hat w hw)
  have hk' : (Cond.classLink own ik cls).before args s' = true := vx_ot_at hW0 hvm.symm (hgood _ List.mem_cons_self) hk
  have hini' : (Cond.initialized cls).before args s' = true := vx_ot_at hW0 hvm.symm (hgood _ (List.mem_cons_of_mem _ List.mem_cons_self)) hini
  have hU' : vx_Zq Bundle.tN "UNASSIGNED_STACK" Bundle.steD A s' s'.heap := by rw [hhp]; exact vx_Zq.moved hW0.alike (hU.kept hS.2.1)
  have hN' : vx_Zq Bundle.tN "SUPPRESSED_SENTINEL" Bundle.listD A s' s'.heap := by rw [hhp]; exact vx_Zq.moved hW0.alike (hN.kept hS.2.1)
  have h : ∀ w ∈ Bundle.ownAtoms0 own ic cls names, w.before args s' = true := vx_own hat' (vx_isRefq hU'.1) (vx_isRefq hN'.1) hU'.2.word hN'.2.word
  have hown' : s'.vm.findClass own = some m.cls := by rw [hvm]; exact hown
  have hins : (Cond.instantiable cls 6).before args s' = true := h _ (by simp [Bundle.ownAtoms0])
  obtain ⟨vm₁, cX, kX, hfX, hkX, -, -, X₁, st1⟩ := Y.newCold hexec (own := own) (C := cls) (index := ik) (n := 6) hown' hk' hins hini'
    (g := F0 m pc ls rest) rfl (by rw [hb]; exact d0) (Nat.le_refl _) (Nat.le_refl _)
  generalize hT1 : (T.setVm vm₁).pushCell { cls := cX, slots := kX.instanceTypes.map defaultValue, vm := .none } = T1 at X₁ st1
  have hcat : (Value.ref T.heap.size).category = 1 := rfl
  have hcellA : T1.heap[T.heap.size]? = some (freshCell cX kX) := by rw [← hT1]; exact State.heap_pushCell_size _ _
  have d3' : decode c.code (pc + 3) = .ok (.dup, 1) := by rw [hb]; exact d3
  obtain ⟨U, hsteps, hrun, hend, hW, hsame, ce, hce, hO⟩ := X₁.ctorThrow0 hexec htr (own := own) (cls := cls) (names := names) (ic := ic) hown' hcls hnames h (fun x hx => nomatch hx) hfX hkX hcellA (by rw [hhp, hT]; exact Nat.le_refl _)
    (g := { method := m, pc := pc + 4, locals := ls, stack := .ref T.heap.size :: .ref T.heap.size :: rest, locked := none }) rfl hsize rfl rfl (rest := rest) rfl
    (by rw [hb]; exact d4) (by rw [hb]; exact d7) hout hRframes (by simp only [List.map_cons, List.sum_cons, hcat]; omega) hlocks
  obtain ⟨f1, f2⟩ := vx_frame hsame
  rw [hhp] at f1 f2
  have hWs : s.WarmedH U.vm := State.WarmedH.trans hW0 hW
  have hcl : s.vm.findClass cls = some ce.cls := by
    have h9 := hO.cls
    rw [hvm] at h9
    exact h9
  have hall : s.sameButNew ({ U with vm := s.vm } : State) locs mc ms := by
    subst hA
    obtain ⟨e1, e2⟩ := hsame
    rw [State.setFrames_setFrames] at e1
    have h2 : (T.setVm s.vm).sameButNew ({ U with vm := s.vm } : State) [] (0 + 1) (0 + 6) := ⟨e1, e2⟩
    have h3 := X.same.trans h2
    rw [List.append_nil] at h3
    exact h3.mono hc hs
  refine ⟨U, ?_, .threw T.heap.size, hrun, hend, Or.inr ⟨T.heap.size, rfl, cls, ce, locs, hx U hWs.alike f1 (fun q hq => f2 q hq (fun z hz => nomatch hz)), hce, hO.vm, hcl, hWs, hall, hf⟩⟩
  refine st1 _ ?_
  show Steps p.tables e below (T1.setTop { method := m, pc := pc + 3, locals := ls, stack := .ref T.heap.size :: rest, locked := none }) _
  jvm_step X₁.here [X₁.here.top, hexec, d3', Value.category]
  exact hsteps
/-- 'throw new E("text")': new; dup; ldc; invokespecial; athrow -/
theorem vx_throwS {cc : ByteArray} {pc : Nat} (hexec : p.tables.exec = Jvm.exec) (hb : c.code = cc) (hl : l.stackTraces = false) {own cls text : String} {names : List String} {ik is ic mc ms sa : Nat} {A : Nat → Prop}
    (hown : s.vm.findClass own = some m.cls) (hcls : Bundle.fit cls = true) (hnames : ∀ n ∈ names, Bundle.fit n = true)
    (hk : (Cond.classLink own ik cls).before args s = true) (hini : (Cond.initialized cls).before args s = true) (hstr : vk_R own is text sa s) (hat : ∀ w ∈ vx_atS own ic cls names, w.before args s = true)
    (hgood : ∀ w ∈ Cond.classLink own ik cls :: Cond.initialized cls :: vx_atS own ic cls names, vx_ot w = true)
    (hU : vx_Zq Bundle.tN "UNASSIGNED_STACK" Bundle.steD A s s.heap) (hN : vx_Zq Bundle.tN "SUPPRESSED_SENTINEL" Bundle.listD A s s.heap) (hS : va_S A s.heap H locs) (hsize : ls.size = c.maxLocals)
    (d0 : decode cc pc = .ok (.new ik, 3)) (d3 : decode cc (pc + 3) = .ok (.dup, 1)) (d4 : decode cc (pc + 4) = .ok (.ldc is, 2)) (d6 : decode cc (pc + 6) = .ok (.invokespecial ic, 3)) (d9 : decode cc (pc + 9) = .ok (.athrow, 1))
    (hout : ∀ x ∈ c.exceptionTable.toList, covers x (pc + 9) = false)
    (hRframes : names.length + 3 < R.frames) (hRlocals : (rest.map fun v => v.category).sum + (13 * (names.length + 1) + 43) ≤ R.locals) (hRcells : cells + 1 ≤ R.cells) (hRslots : slots + 6 ≤ R.slots) (hlocks : meth.locks = false)
    (hx : ∀ t : State, s.vm.Alike t.vm → H.size ≤ t.heap.size → (∀ q : Nat, q < H.size → t.heap[q]? = H[q]?) → XC cls s t)
    (hf : ∀ z ∈ locs, free z.base) (hc : cells + 1 ≤ mc) (hs : slots + 6 ≤ ms) :
    W p l e R s m args below meth c H locs cells slots (vx_MQ below Qc XC args s mc ms free) (F0 m pc ls rest) := by
  intro T hT X
  have htr : e.platform.stackTraces = false := (show e.platform.stackTraces = l.stackTraces by rw [X.admits.platform]).trans hl
  have Y := vx_rebase X (R' := { frames := R.frames, locals := R.locals, cells := 1, slots := 6 }) (Nat.le_refl _) (Nat.le_refl _) hRcells hRslots
  obtain ⟨s', hA⟩ : ∃ z, z = (T.setVm s.vm).setFrames (.invoking m args :: below) := ⟨_, rfl⟩
  rw [← hA] at Y
  have hvm : s'.vm = s.vm := by rw [hA]; rfl
  have hhp : s'.heap = H := by rw [hA]; exact hT
  have hW0 : s.WarmedH s'.vm := by rw [hvm]; exact State.WarmedH.refl s
  have hat' : ∀ w ∈ vx_atS own ic cls names, w.before args s' = true := fun w hw => vx_ot_at hW0 hvm.symm (hgood w (List.mem_cons_of_mem _ (List.mem_cons_of_mem _ hw))) (hat w hw)
  have hk' : (Cond.classLink own ik cls).before args s' = true := vx_ot_at hW0 hvm.symm (hgood _ List.mem_cons_self) hk
  have hini' : (Cond.initialized cls).before args s' = true := vx_ot_at hW0 hvm.symm (hgood _ (List.mem_cons_of_mem _ List.mem_cons_self)) hini
  have hU' : vx_Zq Bundle.tN "UNASSIGNED_STACK" Bundle.steD A s' s'.heap := by rw [hhp]; exact vx_Zq.moved hW0.alike (hU.kept hS.2.1)
  have hN' : vx_Zq Bundle.tN "SUPPRESSED_SENTINEL" Bundle.listD A s' s'.heap := by rw [hhp]; exact vx_Zq.moved hW0.alike (hN.kept hS.2.1)
  have h : ∀ w ∈ Bundle.ownAtoms own ic cls names, w.before args s' = true := vx_own hat' (vx_isRefq hU'.1) (vx_isRefq hN'.1) hU'.2.word hN'.2.word
  have hown' : s'.vm.findClass own = some m.cls := by rw [hvm]; exact hown
  have hins : (Cond.instantiable cls 6).before args s' = true := h _ (by simp [Bundle.ownAtoms])
  obtain ⟨vm₁, cX, kX, hfX, hkX, -, -, X₁, st1⟩ := Y.newCold hexec (own := own) (C := cls) (index := ik) (n := 6) hown' hk' hins hini'
    (g := F0 m pc ls rest) rfl (by rw [hb]; exact d0) (Nat.le_refl _) (Nat.le_refl _)
  generalize hT1 : (T.setVm vm₁).pushCell { cls := cX, slots := kX.instanceTypes.map defaultValue, vm := .none } = T1 at X₁ st1
  have hcat : (Value.ref T.heap.size).category = 1 := rfl
  have hcellA : T1.heap[T.heap.size]? = some (freshCell cX kX) := by rw [← hT1]; exact State.heap_pushCell_size _ _
  have d3' : decode c.code (pc + 3) = .ok (.dup, 1) := by rw [hb]; exact d3
  have d4' : decode c.code (pc + 4) = .ok (.ldc is, 2) := by rw [hb]; exact d4
  have hstr' : vk_R own is text sa s' := vk_R.warm hW0 hstr
  obtain ⟨U, hsteps, hrun, hend, hW, hsame, ce, hce, hO⟩ := X₁.ctorThrowS hexec htr (own := own) (cls := cls) (names := names) (ic := ic) hown' hcls hnames h (fun x hx => nomatch hx) hfX hkX hcellA (by rw [hhp, hT]; exact Nat.le_refl _) (msg := .ref sa) rfl
    (g := { method := m, pc := pc + 6, locals := ls, stack := .ref sa :: .ref T.heap.size :: .ref T.heap.size :: rest, locked := none }) rfl hsize rfl rfl (rest := rest) rfl
    (by rw [hb]; exact d6) (by rw [hb]; exact d9) hout hRframes (by simp only [List.map_cons, List.sum_cons, hcat]; omega) hlocks
  obtain ⟨f1, f2⟩ := vx_frame hsame
  rw [hhp] at f1 f2
  have hWs : s.WarmedH U.vm := State.WarmedH.trans hW0 hW
  have hcl : s.vm.findClass cls = some ce.cls := by
    have h9 := hO.cls
    rw [hvm] at h9
    exact h9
  have hall : s.sameButNew ({ U with vm := s.vm } : State) locs mc ms := by
    subst hA
    obtain ⟨e1, e2⟩ := hsame
    rw [State.setFrames_setFrames] at e1
    have h2 : (T.setVm s.vm).sameButNew ({ U with vm := s.vm } : State) [] (0 + 1) (0 + 6) := ⟨e1, e2⟩
    have h3 := X.same.trans h2
    rw [List.append_nil] at h3
    exact h3.mono hc hs
  refine ⟨U, ?_, .threw T.heap.size, hrun, hend, Or.inr ⟨T.heap.size, rfl, cls, ce, locs, hx U hWs.alike f1 (fun q hq => f2 q hq (fun z hz => nomatch hz)), hce, hO.vm, hcl, hWs, hall, hf⟩⟩
  refine st1 _ ?_
  show Steps p.tables e below (T1.setTop { method := m, pc := pc + 3, locals := ls, stack := .ref T.heap.size :: rest, locked := none }) _
  jvm_step X₁.here [X₁.here.top, hexec, d3', Value.category]
  exact X₁.ldcString hexec (own := own) (text := text) (index := is) (a := sa) hown' hstr'.1 hstr'.2
    (g := { method := m, pc := pc + 4, locals := ls, stack := .ref T.heap.size :: .ref T.heap.size :: rest, locked := none }) rfl d4' _ hsteps
/-- 'throw new E("text")', the text by a wide index -/
theorem vx_throwSW {cc : ByteArray} {pc : Nat} (hexec : p.tables.exec = Jvm.exec) (hb : c.code = cc) (hl : l.stackTraces = false) {own cls text : String} {names : List String} {ik is ic mc ms sa : Nat} {A : Nat → Prop}
    (hown : s.vm.findClass own = some m.cls) (hcls : Bundle.fit cls = true) (hnames : ∀ n ∈ names, Bundle.fit n = true)
    (hk : (Cond.classLink own ik cls).before args s = true) (hini : (Cond.initialized cls).before args s = true) (hstr : vk_R own is text sa s) (hat : ∀ w ∈ vx_atS own ic cls names, w.before args s = true)
    (hgood : ∀ w ∈ Cond.classLink own ik cls :: Cond.initialized cls :: vx_atS own ic cls names, vx_ot w = true)
    (hU : vx_Zq Bundle.tN "UNASSIGNED_STACK" Bundle.steD A s s.heap) (hN : vx_Zq Bundle.tN "SUPPRESSED_SENTINEL" Bundle.listD A s s.heap) (hS : va_S A s.heap H locs) (hsize : ls.size = c.maxLocals)
    (d0 : decode cc pc = .ok (.new ik, 3)) (d3 : decode cc (pc + 3) = .ok (.dup, 1)) (d4 : decode cc (pc + 4) = .ok (.ldc_w is, 3)) (d7 : decode cc (pc + 7) = .ok (.invokespecial ic, 3)) (d10 : decode cc (pc + 10) = .ok (.athrow, 1))
    (hout : ∀ x ∈ c.exceptionTable.toList, covers x (pc + 10) = false)
    (hRframes : names.length + 3 < R.frames) (hRlocals : (rest.map fun v => v.category).sum + (13 * (names.length + 1) + 43) ≤ R.locals) (hRcells : cells + 1 ≤ R.cells) (hRslots : slots + 6 ≤ R.slots) (hlocks : meth.locks = false)
    (hx : ∀ t : State, s.vm.Alike t.vm → H.size ≤ t.heap.size → (∀ q : Nat, q < H.size → t.heap[q]? = H[q]?) → XC cls s t)
    (hf : ∀ z ∈ locs, free z.base) (hc : cells + 1 ≤ mc) (hs : slots + 6 ≤ ms) :
    W p l e R s m args below meth c H locs cells slots (vx_MQ below Qc XC args s mc ms free) (F0 m pc ls rest) := by
  intro T hT X
  have htr : e.platform.stackTraces = false := (show e.platform.stackTraces = l.stackTraces by rw [X.admits.platform]).trans hl
  have Y := vx_rebase X (R' := { frames := R.frames, locals := R.locals, cells := 1, slots := 6 }) (Nat.le_refl _) (Nat.le_refl _) hRcells hRslots
  obtain ⟨s', hA⟩ : ∃ z, z = (T.setVm s.vm).setFrames (.invoking m args :: below) := ⟨_, rfl⟩
  rw [← hA] at Y
  have hvm : s'.vm = s.vm := by rw [hA]; rfl
  have hhp : s'.heap = H := by rw [hA]; exact hT
  have hW0 : s.WarmedH s'.vm := by rw [hvm]; exact State.WarmedH.refl s
  have hat' : ∀ w ∈ vx_atS own ic cls names, w.before args s' = true := fun w hw => vx_ot_at hW0 hvm.symm (hgood w (List.mem_cons_of_mem _ (List.mem_cons_of_mem _ hw))) (hat w hw)
  have hk' : (Cond.classLink own ik cls).before args s' = true := vx_ot_at hW0 hvm.symm (hgood _ List.mem_cons_self) hk
  have hini' : (Cond.initialized cls).before args s' = true := vx_ot_at hW0 hvm.symm (hgood _ (List.mem_cons_of_mem _ List.mem_cons_self)) hini
  have hU' : vx_Zq Bundle.tN "UNASSIGNED_STACK" Bundle.steD A s' s'.heap := by rw [hhp]; exact vx_Zq.moved hW0.alike (hU.kept hS.2.1)
  have hN' : vx_Zq Bundle.tN "SUPPRESSED_SENTINEL" Bundle.listD A s' s'.heap := by rw [hhp]; exact vx_Zq.moved hW0.alike (hN.kept hS.2.1)
  have h : ∀ w ∈ Bundle.ownAtoms own ic cls names, w.before args s' = true := vx_own hat' (vx_isRefq hU'.1) (vx_isRefq hN'.1) hU'.2.word hN'.2.word
  have hown' : s'.vm.findClass own = some m.cls := by rw [hvm]; exact hown
  have hins : (Cond.instantiable cls 6).before args s' = true := h _ (by simp [Bundle.ownAtoms])
  obtain ⟨vm₁, cX, kX, hfX, hkX, -, -, X₁, st1⟩ := Y.newCold hexec (own := own) (C := cls) (index := ik) (n := 6) hown' hk' hins hini'
    (g := F0 m pc ls rest) rfl (by rw [hb]; exact d0) (Nat.le_refl _) (Nat.le_refl _)
  generalize hT1 : (T.setVm vm₁).pushCell { cls := cX, slots := kX.instanceTypes.map defaultValue, vm := .none } = T1 at X₁ st1
  have hcat : (Value.ref T.heap.size).category = 1 := rfl
  have hcellA : T1.heap[T.heap.size]? = some (freshCell cX kX) := by rw [← hT1]; exact State.heap_pushCell_size _ _
  have d3' : decode c.code (pc + 3) = .ok (.dup, 1) := by rw [hb]; exact d3
  have d4' : decode c.code (pc + 4) = .ok (.ldc_w is, 3) := by rw [hb]; exact d4
  have hstr' : vk_R own is text sa s' := vk_R.warm hW0 hstr
  obtain ⟨U, hsteps, hrun, hend, hW, hsame, ce, hce, hO⟩ := X₁.ctorThrowS hexec htr (own := own) (cls := cls) (names := names) (ic := ic) hown' hcls hnames h (fun x hx => nomatch hx) hfX hkX hcellA (by rw [hhp, hT]; exact Nat.le_refl _) (msg := .ref sa) rfl
    (g := { method := m, pc := pc + 7, locals := ls, stack := .ref sa :: .ref T.heap.size :: .ref T.heap.size :: rest, locked := none }) rfl hsize rfl rfl (rest := rest) rfl
    (by rw [hb]; exact d7) (by rw [hb]; exact d10) hout hRframes (by simp only [List.map_cons, List.sum_cons, hcat]; omega) hlocks
  obtain ⟨f1, f2⟩ := vx_frame hsame
  rw [hhp] at f1 f2
  have hWs : s.WarmedH U.vm := State.WarmedH.trans hW0 hW
  have hcl : s.vm.findClass cls = some ce.cls := by
    have h9 := hO.cls
    rw [hvm] at h9
    exact h9
  have hall : s.sameButNew ({ U with vm := s.vm } : State) locs mc ms := by
    subst hA
    obtain ⟨e1, e2⟩ := hsame
    rw [State.setFrames_setFrames] at e1
    have h2 : (T.setVm s.vm).sameButNew ({ U with vm := s.vm } : State) [] (0 + 1) (0 + 6) := ⟨e1, e2⟩
    have h3 := X.same.trans h2
    rw [List.append_nil] at h3
    exact h3.mono hc hs
  refine ⟨U, ?_, .threw T.heap.size, hrun, hend, Or.inr ⟨T.heap.size, rfl, cls, ce, locs, hx U hWs.alike f1 (fun q hq => f2 q hq (fun z hz => nomatch hz)), hce, hO.vm, hcl, hWs, hall, hf⟩⟩
  refine st1 _ ?_
  show Steps p.tables e below (T1.setTop { method := m, pc := pc + 3, locals := ls, stack := .ref T.heap.size :: rest, locked := none }) _
  jvm_step X₁.here [X₁.here.top, hexec, d3', Value.category]
  exact X₁.ldcStringW hexec (own := own) (text := text) (index := is) (a := sa) hown' hstr'.1 hstr'.2
    (g := { method := m, pc := pc + 4, locals := ls, stack := .ref T.heap.size :: .ref T.heap.size :: rest, locked := none }) rfl d4' _ hsteps
end Ends
section Bodies
variable {l : Launch}
theorem vx_ofW {y : MethodName} {ws ws' : List Cond} {rm : Room} {Pc : Array Value → State → Prop} {Qc : Array Value → State → Outcome → State → Prop} {XC : String → State → State → Prop} {mc ms : Nat} {free : Addr → Prop} {cc : ByteArray} {maxL : Nat} {ret : Option FieldType}
    (hy : plainName y.cls = true) (hw : ws = Cond.code y cc maxL ret :: ws')
    (body : ∀ p e s m args below meth c s₁, BodyLoose p l y (headSpec ws rm) cc maxL ret e s m args below meth c s₁ → c.maxLocals = maxL → (∀ x ∈ c.exceptionTable.toList, False) → Pc args s →
      W p l e (headSpec ws rm).room s m args below meth c s.heap [] 0 0 (vx_MQ below Qc XC args s mc ms free) (entryFrame m args maxL)) : vx_Met l y ws rm Pc Qc XC mc ms free := by
  refine MetFree.of_bodyS (code := cc) (maxLocals := maxL) (ret := ret) hy ?_ ?_
  · intro args s m h hn
    obtain ⟨meth, c, h1, h2, h3, h4, h5, h6, -, -⟩ := Cond.code_spec hn (atoms_spec (ws := ws) h _ (by rw [hw]; exact List.mem_cons_self))
    exact ⟨meth, c, h1, h2, h3, h4, h5, h6⟩
  · intro p e s m args below meth c s₁ B hml hP _
    have hh0 : s₁.heap = s.heap := by rw [B.state]; rfl
    have ht : ∀ x ∈ c.exceptionTable.toList, False := by
      obtain ⟨meth9, c9, h1, h2, -, -, -, -, h7, -⟩ := Cond.code_spec B.named (atoms_spec (ws := ws) B.pre _ (by rw [hw]; exact List.mem_cons_self))
      cases Option.some.inj (h1.symm.trans B.method)
      cases Option.some.inj (h2.symm.trans (Stand.of_body B).code)
      intro x hx
      rw [Array.isEmpty_iff.mp h7] at hx
      cases hx
    obtain ⟨t, a1, o, b1, b2, b3⟩ := body p e s m args below meth c s₁ B hml ht hP s₁ hh0 (Stand.of_body B)
    exact ⟨t, o, a1, b1, b2, b3⟩
/-- the table of a body with handlers -/
theorem vx_table {p : Program} {x y : MethodName} {S : Spec} {cc bytes : ByteArray} {maxL maxL' : Nat} {ret ret' : Option FieldType} {e : Env} {s s₁ : State} {m : MethodId} {args : Array Value} {below : List Frame} {meth : Method} {c : Code} {hh : List (Nat × Nat × Nat × Nat)}
    (B : BodyLoose p l y S cc maxL ret e s m args below meth c s₁) (h : (Cond.codeWith y bytes maxL' ret' hh).before args s = true) : c.exceptionTable.toList = tableOf hh := by
  obtain ⟨m9, meth9, c9, hn9, h1, h2, -, -, h6, -⟩ := Cond.codeWith_spec h
  cases Option.some.inj (hn9.symm.trans B.named)
  cases Option.some.inj (h1.symm.trans B.method)
  cases Option.some.inj (h2.symm.trans (Stand.of_body B).code)
  rw [← h6, table_eq]
end Bodies
end VXA
/-! ===== END ===== -/
/-! ===== BEGIN a static call of a method with an exception table ===== -/
section VXS
variable {p : Program} {l : Launch} {e : Env} {R : Room} {s : State} {m : MethodId} {args : Array Value} {below : List Frame} {meth : Method} {c : Code} {T : State} {H : Heap} {locs : List Loc} {cells slots : Nat}
abbrev vx_CSW (R : Room) (s : State) (args : Array Value) (own : String) (index : Nat) (y : MethodName) (bytes : ByteArray) (maxL : Nat) (ret : Option FieldType) (hh : List (Nat × Nat × Nat × Nat)) (ws : List Cond) (rm : Room) (mc ms n : Nat) : Prop :=
  (rm.cells = mc ∧ rm.slots = ms ∧ rm.frames + 1 ≤ R.frames ∧ 8 + (maxL + 11) + rm.locals ≤ R.locals ∧ (∀ w ∈ ws, ∀ (a' : Array Value) (U : State), s.WarmedH U.vm → w.before a' U = true) ∧ Cond.codeWith y bytes maxL ret hh ∈ ws) ∧
  (Cond.codeWith y bytes maxL ret hh).before args s = true ∧ (Cond.initialized y.cls).before args s = true ∧ (y.cls ≠ "java/lang/invoke/MethodHandle" ∧ y.cls ≠ "java/lang/invoke/VarHandle") ∧
  (∀ sig, parseMethodDescriptor y.desc = some sig → n = sig.parameters.length) ∧ (Cond.methodLink own index y).before args s = true ∧ (Cond.static y).before args s = true
theorem vx_cwSW {own : String} {index maxL mc ms : Nat} {y : MethodName} {bytes : ByteArray} {ret : Option FieldType} {hh : List (Nat × Nat × Nat × Nat)} {Ts ws ws' : List Cond} {rm : Room} (n : Nat) (ht : ∀ w ∈ Ts, w.before args s = true) (hT : GoodIn Ts (va_wsS own index y ws)) (hw : ws = Cond.codeWith y bytes maxL ret hh :: ws') (hrc : rm.cells = mc) (hrs : rm.slots = ms)
    (hd : y.cls ≠ "java/lang/invoke/MethodHandle" ∧ y.cls ≠ "java/lang/invoke/VarHandle" ∧ (parseMethodDescriptor y.desc).map (fun d => d.parameters.length) = some n) (hR : rm.frames + 1 ≤ R.frames ∧ 8 + (maxL + 11) + rm.locals ≤ R.locals) :
    vx_CSW R s args own index y bytes maxL ret hh ws rm mc ms n := by
  have ok : ∀ w ∈ va_wsS own index y ws, w.before args s = true := fun w h => ht w (hT w h).1
  have hG : GoodIn Ts ws := fun w h => hT w (by unfold va_wsS; exact List.mem_append_right _ h)
  have hc : Cond.codeWith y bytes maxL ret hh ∈ ws := by rw [hw]; exact List.mem_cons_self
  refine ⟨⟨hrc, hrs, hR.1, hR.2, pay_in ht hG, hc⟩, ht _ (hG _ hc).1, ok _ (by simp [va_wsS]), ⟨hd.1, hd.2.1⟩, fun sig h => ?_, ok _ (by simp [va_wsS]), ok _ (by simp [va_wsS])⟩
  have h2 := hd.2.2
  rw [h] at h2
  exact (Option.some.inj h2).symm
theorem vx_callSW (X : Stand p l e R s m args below meth c T locs cells slots) (hexec : p.tables.exec = Jvm.exec) {own : String} {index : Nat} {y : MethodName} {bytes : ByteArray} {maxL : Nat} {ret : Option FieldType} {hh : List (Nat × Nat × Nat × Nat)}
    (hown : s.vm.findClass own = some m.cls) (hlink : (Cond.methodLink own index y).before args s = true) (hstat : (Cond.static y).before args s = true) (hinit : (Cond.initialized y.cls).before args s = true)
    (hcode : (Cond.codeWith y bytes maxL ret hh).before args s = true) (hy : y.cls ≠ "java/lang/invoke/MethodHandle" ∧ y.cls ≠ "java/lang/invoke/VarHandle")
    {W9 : Nat} {Pre : Pt → Array Value → Prop} {Post : Pt → Array Value → Option Value → Pt → Prop} (hK : Back l R p e below s args y 3 W9 Pre Post)
    {g : JFrame} (hg : g.method = m) (hsize : g.locals.size = c.maxLocals) {argsL rest : List Value} (hlen : ∀ sig, parseMethodDescriptor y.desc = some sig → argsL.length = sig.parameters.length)
    (hstack : g.stack = argsL.reverse ++ rest) (hW : 2 * g.monitorRoom + (rest.map fun v => v.category).sum ≤ W9) (hdg : decode c.code g.pc = .ok (.invokestatic index, 3))
    (hpre : ∀ vm₁, s.WarmedH vm₁ → Pre ⟨T.setVm vm₁, locs, cells, slots⟩ argsL.toArray) :
    ∃ (v : Option Value) (vm₁ : Vm) (B : Pt), s.WarmedH vm₁ ∧ Stand p l e R s m args below meth c B.U B.locs B.cells B.slots ∧ Post ⟨T.setVm vm₁, locs, cells, slots⟩ argsL.toArray v B ∧
      ∀ target, Steps p.tables e below (B.U.setTop { g with pc := g.pc + 3, stack := v.toList ++ rest }) target → Steps p.tables e below (T.setTop g) target := by
  obtain ⟨mk, methM, cM, hnamed, hmethM, -, -, -, -, -, -, hsigM⟩ := Cond.codeWith_spec hcode
  have hstatic : methM.isStatic = true := Cond.static_spec hnamed hmethM hstat
  obtain ⟨kP, hkP, -⟩ := className_of_methodNamed hnamed
  have hinitP : kP.init = .initialized := Cond.initialized_spec (findClass_of_methodNamed hnamed) hkP hinit
  obtain ⟨vm₁, X₁, hstep₁⟩ := X.invokestatic hexec hown hlink hnamed hmethM hstatic hkP hinitP hy (g := g) hg (argsL := argsL) (rest := rest) (hlen _ hsigM) hstack hdg
  obtain ⟨v, B, X', hpost, hsteps⟩ := hK m meth c ⟨T.setVm vm₁, locs, cells, slots⟩ { g with stack := rest } (.invokestatic index) mk argsL.toArray X₁ hg hsize hdg hW (X₁.named hnamed) (hpre vm₁ X₁.warmed)
  exact ⟨v, vm₁, B, X₁.warmed, X', hpost, fun target h => hstep₁ _ fun acts => by rw [doInvoke_state]; exact hsteps.trans h⟩
theorem vx_runSW {y : MethodName} {bytes cc : ByteArray} {maxL nL mc ms n index : Nat} {ret : Option FieldType} {hh : List (Nat × Nat × Nat × Nat)} {ws : List Cond} {rm : Room} {Pc : Array Value → State → Prop} {Qc : Array Value → State → Outcome → State → Prop} {free : Addr → Prop} {Ts : List Cond} {own : String} {As rest : List Value} {g : JFrame}
    (S : CallFix p m c cc nL s args Ts own) (hM : Met l y ws rm Pc Qc mc ms free) (cw : vx_CSW R s args own index y bytes maxL ret hh ws rm mc ms n) (hp : PreS s H Pc As)
    (hg : g.method = m) (hn : As.length = n) (hsize : g.locals.size = nL) (hstack : g.stack = As.reverse ++ rest) (hW : 2 * g.monitorRoom + (rest.map fun v => v.category).sum ≤ 8) (hdg : decode cc g.pc = .ok (.invokestatic index, 3)) (hf : cells + mc ≤ R.cells ∧ slots + ms ≤ R.slots) :
    va_Run p l e R s m args below meth c H locs cells slots mc ms g rest (Qc As.toArray) (free) := by
  obtain ⟨⟨hrc, hrs, hfr, hlo, hws, hcw⟩, hcode, hini, hy, hlen, hl, hstt⟩ := cw
  have hK : Back l R p e below s args y 3 8 (PreOf R mc ms Pc) (PostOf Qc mc ms free) := va_backW (hh := hh) (bytes := bytes) (maxL := maxL) (ret := ret) hM hp.1 hrc hrs hfr hlo hws hcw (fun a' U hW => word_at hW (Or.inl (by first | rfl | simp [Cond.onTables, Cond.keeps, Cond.steady])) hini)
  obtain ⟨hx, hb, hml, ho, -⟩ := S
  intro T hT X
  obtain ⟨v, vm₁, ⟨U', l2, c2, s2⟩, hW₁, X', ⟨g', mk, t, L, e1, e2, hq, h1, hL, h2, h3⟩, st⟩ := vx_callSW X hx (hh := hh) (bytes := bytes) (maxL := maxL) (ret := ret) ho hl hstt hini hcode hy hK hg (hsize.trans hml.symm) (argsL := As) (rest := rest) (fun sig h => hn.trans (hlen sig h)) hstack hW (by rw [hb]; exact hdg)
    (fun vm₁ hW₁ => ⟨hf.1, hf.2, hp.2 (T.setVm vm₁) hT hW₁⟩)
  dsimp only [Pt.U, Pt.locs, Pt.cells, Pt.slots] at X' e1 e2 h1 h2 h3 st
  subst h1; subst h2; subst h3
  exact ⟨v, (T.setVm vm₁).calling g' mk As.toArray, t, U', L, hT, X', hL, e1, e2, hq, st⟩
/-- a thing of a world lies in the heap -/
theorem vx_lt {D : va_G} {cl : List vw_C} {ws : va_W} {H1 : Heap} (h : va_P D cl ws H1) {k : Nat} {q : Nat × va_E} (hk : ws[k]? = some q) : q.1 < H1.size := (h k q hk).lt
end VXS
/-! ===== END ===== -/
/-! ===== BEGIN methods with a table of their own: called by a name, returning or throwing ===== -/
section VXH
/-! vx_backW, vx_callVX, vx_callSX, vx_callVW, vx_runVW, vx_runVX, vx_runSX, vx_ofWH follow the same proofs as their sisters above (Free/Laws.lean, Shelf42/LK1.lean); vx_outP calls Shelf42/NT130.lean (outThrough). -/
section
variable {l : Launch} {R : Room} {p : Program} {e : Env} {below : List Frame} {s : State} {sargs : Array Value} {y : MethodName} {len W9 : Nat}
theorem vx_backW {ws : List Cond} {rm : Room} {Pc : Array Value → State → Prop} {Qc : Array Value → State → Outcome → State → Prop} {XC : String → State → State → Prop} {mc ms : Nat} {free : Addr → Prop} {bytes : ByteArray} {maxL : Nat} {ret : Option FieldType} {hh : List (Nat × Nat × Nat × Nat)}
    (hM : vx_Met l y ws rm Pc Qc XC mc ms free) (hblind : FrameBlind Pc) (hrc : rm.cells = mc) (hrs : rm.slots = ms)
    (hframes : rm.frames + 1 ≤ R.frames) (hlocals : W9 + (maxL + 11) + rm.locals ≤ R.locals)
    (hws : ∀ w ∈ ws, ∀ a' U, s.WarmedH U.vm → w.before a' U = true) (hcode : Cond.codeWith y bytes maxL ret hh ∈ ws) (hinit : ∀ a' U, s.WarmedH U.vm → (Cond.initialized y.cls).before a' U = true) :
    vx_Back l R p e below s sargs y len W9 (PreOf R mc ms Pc) (PostOf Qc mc ms free) (vx_Post XC mc ms free) := by
  intro m meth c A g ig mk a X hg hsize hdg hW hn hp
  have h1 : (headSpec ws rm).pre.before a A.U = true := atoms_intro fun w hw => hws w hw _ _ X.warmed
  have h2 : (Cond.codeWith y bytes maxL ret hh).before a A.U = true := hws _ hcode _ _ X.warmed
  have h3 : (Cond.initialized y.cls).before a A.U = true := hinit _ _ X.warmed
  have h4 : A.cells + (headSpec ws rm).room.cells ≤ R.cells := by rw [show (headSpec ws rm).room.cells = mc from hrc]; exact hp.1
  have h5 : A.slots + (headSpec ws rm).room.slots ≤ R.slots := by rw [show (headSpec ws rm).room.slots = ms from hrs]; exact hp.2.1
  have hPc : Pc a (A.U.calling g mk a) := hblind _ _ _ _ hp.2.2
  obtain ⟨U, Ls, c0, s0⟩ := A
  dsimp only [Pt.U, Pt.locs, Pt.cells, Pt.slots] at h1 h2 h3 h4 h5 X hn hPc ⊢
  obtain ⟨m9, methY, cY, hn9, hmY, hcY, -, hlY, -⟩ := Cond.codeWith_spec h2
  cases Option.some.inj (hn9.symm.trans hn)
  obtain ⟨kY, hkY, -⟩ := className_of_methodNamed hn
  have hinitY : kY.init = .initialized := Cond.initialized_spec (findClass_of_methodNamed hn) hkY h3
  have h : At U g.method c below := by rw [hg]; exact X.here
  have hlocals9 : W9 + (maxL + 11) + (headSpec ws rm).room.locals ≤ R.locals := hlocals
  have happ : (headSpec ws rm).appliesLoose y e.platform (U.calling g mk a) = true :=
    Spec.appliesLoose_calling (g := g) h hdg hn hkY hinitY
      (X.room_calling (g := g) (R' := (headSpec ws rm).room) hsize hmY hcY hframes (by rw [hlY]; omega) h4 h5) h1
  obtain ⟨mid, hmid⟩ := h.above
  have hfr : (U.setTop g).frames = (.java g :: mid) ++ below := by rw [State.frames_setTop' g h.top, hmid]; rfl
  obtain ⟨o, s₂, hsteps, -, hend, hq⟩ := Steps.callFree hM p X.admits X.cas X.clock (acts := []) hfr happ hPc trivial
  have hq' : vx_Q Qc XC mc ms free a (U.calling g mk a) o s₂ := hq
  rw [State.frames_setTop' g h.top] at hend
  obtain ⟨g₀, hg0⟩ := Option.isSome_iff_exists.mp h.top
  obtain ⟨r, hr⟩ := State.topJava?_eq_some.mp hg0
  have hr' : (({ U with heap := s₂.heap, slotsUsed := s₂.slotsUsed } : State).setVm s₂.vm).frames = .java g₀ :: r := hr
  rcases hq' with ⟨hqc, L, hfe, hL⟩ | ⟨q, rfl, E, ce, L, hx, hce, hcv, hcl, hW₂, hsm, hL⟩
  · obtain ⟨⟨v, rfl⟩, hW₂, e2, q2, q3, q4, q5, q6⟩ := id hfe
    have e3 : s₂ = ({ (U.calling g mk a).setFrames s₂.frames with heap := s₂.heap, slotsUsed := s₂.slotsUsed } : State).setVm s₂.vm := by
      have : s₂ = ({ s₂ with vm := (U.calling g mk a).vm } : State).setVm s₂.vm := rfl
      rw [e2] at this
      exact this
    obtain ⟨c₂, i₂, len₂, hc₂, hd₂, hf₂⟩ := hend
    have hW' : U.WarmedH s₂.vm := hW₂
    have hcc : c₂ = c := by
      have h1 : s₂.code? g.method = U.code? g.method := by
        rw [State.code?_eq, State.code?_eq, hW'.alike.method?]
      exact Option.some.inj (hc₂.symm.trans (h1.trans h.code))
    subst hcc
    have hlen : len₂ = len := by rw [hdg] at hd₂; cases hd₂; rfl
    subst hlen
    have hs₂ : s₂ = (({ U with heap := s₂.heap, slotsUsed := s₂.slotsUsed } : State).setVm s₂.vm).setTop { g with pc := g.pc + len₂, stack := v.toList ++ g.stack } := by
      refine e3.trans ?_
      rw [hf₂, State.calling_eq h.top, State.setFrames_setFrames, State.setTop_of_frames _ hr', hr]
      rfl
    have hsame : U.sameButNew ({ U with heap := s₂.heap, slotsUsed := s₂.slotsUsed } : State) L mc ms := by
      refine ⟨?_, q2, q3, q4, q5, q6⟩
      obtain ⟨t, ht, -⟩ := State.frames_cons hr
      show ({ U with heap := s₂.heap, slotsUsed := s₂.slotsUsed } : State) = { U.setFrames U.frames with heap := s₂.heap, slotsUsed := s₂.slotsUsed }
      rw [State.setFrames_self ht]
    subst hg
    refine Or.inl ⟨v, ⟨(({ U with heap := s₂.heap, slotsUsed := s₂.slotsUsed } : State).setVm s₂.vm), Ls ++ L, c0 + mc, s0 + ms⟩,
      ⟨X.admits, X.cas, X.clock, X.frames, X.room, X.hears, X.method, X.code, (X.here.setHeapUsed s₂.heap s₂.slotsUsed).setVm hW'.alike, X.tail, State.WarmedH.trans X.warmed hW', X.limits, X.bytes, X.same.trans (hsame.setVm s.vm)⟩,
      ⟨g, mk, s₂, L, rfl, rfl, hqc, rfl, hL, rfl, rfl⟩, ?_⟩
    show Steps p.tables e below _ ((({ U with heap := s₂.heap, slotsUsed := s₂.slotsUsed } : State).setVm s₂.vm).setTop { g with pc := g.pc + len₂, stack := v.toList ++ g.stack })
    rw [← hs₂]
    exact hsteps
  · obtain ⟨e2, q2, q3, q4, q5, q6⟩ := id hsm
    have e3 : s₂ = ({ (U.calling g mk a).setFrames s₂.frames with heap := s₂.heap, slotsUsed := s₂.slotsUsed } : State).setVm s₂.vm := by
      have : s₂ = ({ s₂ with vm := (U.calling g mk a).vm } : State).setVm s₂.vm := rfl
      rw [e2] at this
      exact this
    have hf₂ : s₂.frames = .throwing q :: .java g :: U.frames.tail := hend
    have hW' : U.WarmedH s₂.vm := hW₂
    have hs₂ : s₂ = ((({ U with heap := s₂.heap, slotsUsed := s₂.slotsUsed } : State).setVm s₂.vm).setTop g).pushFrame (.throwing q) := by
      refine e3.trans ?_
      rw [hf₂, State.calling_eq h.top, State.setFrames_setFrames, State.pushFrame, State.frames_setTop _ hr', State.setTop_of_frames _ hr', State.setFrames_setFrames, hr]
      rfl
    have hsame : U.sameButNew ({ U with heap := s₂.heap, slotsUsed := s₂.slotsUsed } : State) L mc ms := by
      refine ⟨?_, q2, q3, q4, q5, q6⟩
      obtain ⟨t, ht, -⟩ := State.frames_cons hr
      show ({ U with heap := s₂.heap, slotsUsed := s₂.slotsUsed } : State) = { U.setFrames U.frames with heap := s₂.heap, slotsUsed := s₂.slotsUsed }
      rw [State.setFrames_self ht]
    subst hg
    refine Or.inr ⟨q, ⟨(({ U with heap := s₂.heap, slotsUsed := s₂.slotsUsed } : State).setVm s₂.vm), Ls ++ L, c0 + mc, s0 + ms⟩,
      ⟨X.admits, X.cas, X.clock, X.frames, X.room, X.hears, X.method, X.code, (X.here.setHeapUsed s₂.heap s₂.slotsUsed).setVm hW'.alike, X.tail, State.WarmedH.trans X.warmed hW', X.limits, X.bytes, X.same.trans (hsame.setVm s.vm)⟩,
      ⟨g, mk, s₂, L, E, ce, rfl, rfl, hx, hce, hcv, hcl, rfl, hL, rfl, rfl⟩, ?_⟩
    show Steps p.tables e below _ (((({ U with heap := s₂.heap, slotsUsed := s₂.slotsUsed } : State).setVm s₂.vm).setTop g).pushFrame (.throwing q))
    rw [← hs₂]
    exact hsteps
end
variable {p : Program} {l : Launch} {e : Env} {R : Room} {s : State} {m : MethodId} {args : Array Value} {below : List Frame} {meth : Method} {c : Code} {T : State} {H : Heap} {locs : List Loc} {cells slots : Nat}
theorem vx_callVX (X : Stand p l e R s m args below meth c T locs cells slots) (hexec : p.tables.exec = Jvm.exec) {own C : String} {index : Nat} {y : MethodName} {bytes : ByteArray} {maxL : Nat} {ret : Option FieldType} {hh : List (Nat × Nat × Nat × Nat)}
    (hown : s.vm.findClass own = some m.cls) (hlink : (Cond.methodLink own index y).before args s = true) (hinst : (Cond.instanceMethod y).before args s = true) (hsel : (Cond.selects C y y).before args s = true)
    (hcode : (Cond.codeWith y bytes maxL ret hh).before args s = true) (hy : y.cls ≠ "java/lang/invoke/MethodHandle" ∧ y.cls ≠ "java/lang/invoke/VarHandle")
    {W9 : Nat} {Pre : Pt → Array Value → Prop} {Post : Pt → Array Value → Option Value → Pt → Prop} {PostX : Pt → Array Value → Addr → Pt → Prop} (hK : vx_Back l R p e below s args y 3 W9 Pre Post PostX)
    {b : Addr} {cellB : Cell} (hcell : T.heap[b]? = some cellB) (hobj : cellB.vm.isStatics = false) (hcls : s.vm.findClass C = some cellB.cls)
    {g : JFrame} (hg : g.method = m) (hsize : g.locals.size = c.maxLocals) {argsL rest : List Value} (hlen : ∀ sig, parseMethodDescriptor y.desc = some sig → argsL.length = sig.parameters.length)
    (hstack : g.stack = argsL.reverse ++ .ref b :: rest) (hW : 2 * g.monitorRoom + (rest.map fun v => v.category).sum ≤ W9) (hdg : decode c.code g.pc = .ok (.invokevirtual index, 3))
    (hpre : ∀ vm₁, s.WarmedH vm₁ → Pre ⟨T.setVm vm₁, locs, cells, slots⟩ (Value.ref b :: argsL).toArray) :
    (∃ (v : Option Value) (vm₁ : Vm) (B : Pt), s.WarmedH vm₁ ∧ Stand p l e R s m args below meth c B.U B.locs B.cells B.slots ∧ Post ⟨T.setVm vm₁, locs, cells, slots⟩ (Value.ref b :: argsL).toArray v B ∧
      ∀ target, Steps p.tables e below (B.U.setTop { g with pc := g.pc + 3, stack := v.toList ++ rest }) target → Steps p.tables e below (T.setTop g) target) ∨
    (∃ (q : Addr) (vm₁ : Vm) (B : Pt), s.WarmedH vm₁ ∧ Stand p l e R s m args below meth c B.U B.locs B.cells B.slots ∧ PostX ⟨T.setVm vm₁, locs, cells, slots⟩ (Value.ref b :: argsL).toArray q B ∧
      Steps p.tables e below (T.setTop g) ((B.U.setTop { g with stack := rest }).pushFrame (.throwing q))) := by
  obtain ⟨mk, methM, hnamed, hmethM, hstM, habM⟩ := Cond.instanceMethod_spec hinst
  obtain ⟨m8, methM', cM, hn8, hmethM', -, -, -, -, -, -, hsigM⟩ := Cond.codeWith_spec hcode
  cases Option.some.inj (hn8.symm.trans hnamed)
  cases hmethM.symm.trans hmethM'
  obtain ⟨c2, r2, m2, q1, q2, q3, q4, kP, hkP, hkPi⟩ := Cond.selects_spec hsel
  cases hcls.symm.trans q1
  cases (State.methodFound?_of_named hnamed hy).symm.trans q2
  cases hnamed.symm.trans q3
  have hselP : selectMethod e.platform s.vm cellB.cls mk = .method mk := by rw [Launch.admits_selectMethod X.admits]; exact q4
  obtain ⟨vm₁, X₁, hstep₁⟩ := X.invokevirtual hexec hown hlink hnamed hmethM hstM hkP hkPi hy (a := b) (cell := cellB) hcell
    (fun z h => by rw [h] at hobj; cases hobj) hselP hmethM habM hkP hkPi (g := g) hg (argsL := argsL) (rest := rest) (hlen _ hsigM) hstack hdg
  rcases hK m meth c ⟨T.setVm vm₁, locs, cells, slots⟩ { g with stack := rest } (.invokevirtual index) mk (Value.ref b :: argsL).toArray X₁ hg hsize hdg hW (X₁.named hnamed) (hpre vm₁ X₁.warmed) with ⟨v, B, X', hpost, hsteps⟩ | ⟨q, B, X', hpost, hsteps⟩
  · exact Or.inl ⟨v, vm₁, B, X₁.warmed, X', hpost, fun target h => hstep₁ _ fun acts => by rw [doInvoke_state]; exact hsteps.trans h⟩
  · exact Or.inr ⟨q, vm₁, B, X₁.warmed, X', hpost, hstep₁ _ fun acts => by rw [doInvoke_state]; exact hsteps⟩
theorem vx_callSX (X : Stand p l e R s m args below meth c T locs cells slots) (hexec : p.tables.exec = Jvm.exec) {own : String} {index : Nat} {y : MethodName} {bytes : ByteArray} {maxL : Nat} {ret : Option FieldType} {hh : List (Nat × Nat × Nat × Nat)}
    (hown : s.vm.findClass own = some m.cls) (hlink : (Cond.methodLink own index y).before args s = true) (hstat : (Cond.static y).before args s = true) (hinit : (Cond.initialized y.cls).before args s = true)
    (hcode : (Cond.codeWith y bytes maxL ret hh).before args s = true) (hy : y.cls ≠ "java/lang/invoke/MethodHandle" ∧ y.cls ≠ "java/lang/invoke/VarHandle")
    {W9 : Nat} {Pre : Pt → Array Value → Prop} {Post : Pt → Array Value → Option Value → Pt → Prop} {PostX : Pt → Array Value → Addr → Pt → Prop} (hK : vx_Back l R p e below s args y 3 W9 Pre Post PostX)
    {g : JFrame} (hg : g.method = m) (hsize : g.locals.size = c.maxLocals) {argsL rest : List Value} (hlen : ∀ sig, parseMethodDescriptor y.desc = some sig → argsL.length = sig.parameters.length)
    (hstack : g.stack = argsL.reverse ++ rest) (hW : 2 * g.monitorRoom + (rest.map fun v => v.category).sum ≤ W9) (hdg : decode c.code g.pc = .ok (.invokestatic index, 3))
    (hpre : ∀ vm₁, s.WarmedH vm₁ → Pre ⟨T.setVm vm₁, locs, cells, slots⟩ argsL.toArray) :
    (∃ (v : Option Value) (vm₁ : Vm) (B : Pt), s.WarmedH vm₁ ∧ Stand p l e R s m args below meth c B.U B.locs B.cells B.slots ∧ Post ⟨T.setVm vm₁, locs, cells, slots⟩ argsL.toArray v B ∧
      ∀ target, Steps p.tables e below (B.U.setTop { g with pc := g.pc + 3, stack := v.toList ++ rest }) target → Steps p.tables e below (T.setTop g) target) ∨
    (∃ (q : Addr) (vm₁ : Vm) (B : Pt), s.WarmedH vm₁ ∧ Stand p l e R s m args below meth c B.U B.locs B.cells B.slots ∧ PostX ⟨T.setVm vm₁, locs, cells, slots⟩ argsL.toArray q B ∧
      Steps p.tables e below (T.setTop g) ((B.U.setTop { g with stack := rest }).pushFrame (.throwing q))) := by
  obtain ⟨mk, methM, cM, hnamed, hmethM, -, -, -, -, -, -, hsigM⟩ := Cond.codeWith_spec hcode
  have hstatic : methM.isStatic = true := Cond.static_spec hnamed hmethM hstat
  obtain ⟨kP, hkP, -⟩ := className_of_methodNamed hnamed
  have hinitP : kP.init = .initialized := Cond.initialized_spec (findClass_of_methodNamed hnamed) hkP hinit
  obtain ⟨vm₁, X₁, hstep₁⟩ := X.invokestatic hexec hown hlink hnamed hmethM hstatic hkP hinitP hy (g := g) hg (argsL := argsL) (rest := rest) (hlen _ hsigM) hstack hdg
  rcases hK m meth c ⟨T.setVm vm₁, locs, cells, slots⟩ { g with stack := rest } (.invokestatic index) mk argsL.toArray X₁ hg hsize hdg hW (X₁.named hnamed) (hpre vm₁ X₁.warmed) with ⟨v, B, X', hpost, hsteps⟩ | ⟨q, B, X', hpost, hsteps⟩
  · exact Or.inl ⟨v, vm₁, B, X₁.warmed, X', hpost, fun target h => hstep₁ _ fun acts => by rw [doInvoke_state]; exact hsteps.trans h⟩
  · exact Or.inr ⟨q, vm₁, B, X₁.warmed, X', hpost, hstep₁ _ fun acts => by rw [doInvoke_state]; exact hsteps⟩
theorem vx_callVW (X : Stand p l e R s m args below meth c T locs cells slots) (hexec : p.tables.exec = Jvm.exec) {own C : String} {index : Nat} {y : MethodName} {bytes : ByteArray} {maxL : Nat} {ret : Option FieldType} {hh : List (Nat × Nat × Nat × Nat)}
    (hown : s.vm.findClass own = some m.cls) (hlink : (Cond.methodLink own index y).before args s = true) (hinst : (Cond.instanceMethod y).before args s = true) (hsel : (Cond.selects C y y).before args s = true)
    (hcode : (Cond.codeWith y bytes maxL ret hh).before args s = true) (hy : y.cls ≠ "java/lang/invoke/MethodHandle" ∧ y.cls ≠ "java/lang/invoke/VarHandle")
    {W9 : Nat} {Pre : Pt → Array Value → Prop} {Post : Pt → Array Value → Option Value → Pt → Prop} (hK : Back l R p e below s args y 3 W9 Pre Post)
    {b : Addr} {cellB : Cell} (hcell : T.heap[b]? = some cellB) (hobj : cellB.vm.isStatics = false) (hcls : s.vm.findClass C = some cellB.cls)
    {g : JFrame} (hg : g.method = m) (hsize : g.locals.size = c.maxLocals) {argsL rest : List Value} (hlen : ∀ sig, parseMethodDescriptor y.desc = some sig → argsL.length = sig.parameters.length)
    (hstack : g.stack = argsL.reverse ++ .ref b :: rest) (hW : 2 * g.monitorRoom + (rest.map fun v => v.category).sum ≤ W9) (hdg : decode c.code g.pc = .ok (.invokevirtual index, 3))
    (hpre : ∀ vm₁, s.WarmedH vm₁ → Pre ⟨T.setVm vm₁, locs, cells, slots⟩ (Value.ref b :: argsL).toArray) :
    ∃ (v : Option Value) (vm₁ : Vm) (B : Pt), s.WarmedH vm₁ ∧ Stand p l e R s m args below meth c B.U B.locs B.cells B.slots ∧ Post ⟨T.setVm vm₁, locs, cells, slots⟩ (Value.ref b :: argsL).toArray v B ∧
      ∀ target, Steps p.tables e below (B.U.setTop { g with pc := g.pc + 3, stack := v.toList ++ rest }) target → Steps p.tables e below (T.setTop g) target := by
  obtain ⟨mk, methM, hnamed, hmethM, hstM, habM⟩ := Cond.instanceMethod_spec hinst
  obtain ⟨m8, methM', cM, hn8, hmethM', -, -, -, -, -, -, hsigM⟩ := Cond.codeWith_spec hcode
  cases Option.some.inj (hn8.symm.trans hnamed)
  cases hmethM.symm.trans hmethM'
  obtain ⟨c2, r2, m2, q1, q2, q3, q4, kP, hkP, hkPi⟩ := Cond.selects_spec hsel
  cases hcls.symm.trans q1
  cases (State.methodFound?_of_named hnamed hy).symm.trans q2
  cases hnamed.symm.trans q3
  have hselP : selectMethod e.platform s.vm cellB.cls mk = .method mk := by rw [Launch.admits_selectMethod X.admits]; exact q4
  obtain ⟨vm₁, X₁, hstep₁⟩ := X.invokevirtual hexec hown hlink hnamed hmethM hstM hkP hkPi hy (a := b) (cell := cellB) hcell
    (fun z h => by rw [h] at hobj; cases hobj) hselP hmethM habM hkP hkPi (g := g) hg (argsL := argsL) (rest := rest) (hlen _ hsigM) hstack hdg
  obtain ⟨v, B, X', hpost, hsteps⟩ := hK m meth c ⟨T.setVm vm₁, locs, cells, slots⟩ { g with stack := rest } (.invokevirtual index) mk (Value.ref b :: argsL).toArray X₁ hg hsize hdg hW (X₁.named hnamed) (hpre vm₁ X₁.warmed)
  exact ⟨v, vm₁, B, X₁.warmed, X', hpost, fun target h => hstep₁ _ fun acts => by rw [doInvoke_state]; exact hsteps.trans h⟩
abbrev vx_CVW (R : Room) (s : State) (args : Array Value) (own C : String) (index : Nat) (y : MethodName) (bytes : ByteArray) (maxL : Nat) (ret : Option FieldType) (hh : List (Nat × Nat × Nat × Nat)) (ws : List Cond) (rm : Room) (mc ms n : Nat) : Prop :=
  (rm.cells = mc ∧ rm.slots = ms ∧ rm.frames + 1 ≤ R.frames ∧ 8 + (maxL + 11) + rm.locals ≤ R.locals ∧ (∀ w ∈ ws, ∀ (a' : Array Value) (U : State), s.WarmedH U.vm → w.before a' U = true) ∧ Cond.codeWith y bytes maxL ret hh ∈ ws) ∧
  (Cond.codeWith y bytes maxL ret hh).before args s = true ∧ (Cond.initialized y.cls).before args s = true ∧ (y.cls ≠ "java/lang/invoke/MethodHandle" ∧ y.cls ≠ "java/lang/invoke/VarHandle") ∧
  (∀ sig, parseMethodDescriptor y.desc = some sig → n = sig.parameters.length) ∧ (Cond.methodLink own index y).before args s = true ∧ (Cond.instanceMethod y).before args s = true ∧ (Cond.selects C y y).before args s = true
theorem vx_cwVW {own C : String} {index maxL mc ms : Nat} {y : MethodName} {bytes : ByteArray} {ret : Option FieldType} {hh : List (Nat × Nat × Nat × Nat)} {Ts ws ws' : List Cond} {rm : Room} (n : Nat) (ht : ∀ w ∈ Ts, w.before args s = true) (hT : GoodIn Ts (wsV own index C y ws)) (hw : ws = Cond.codeWith y bytes maxL ret hh :: ws') (hrc : rm.cells = mc) (hrs : rm.slots = ms)
    (hd : y.cls = C ∧ y.cls ≠ "java/lang/invoke/MethodHandle" ∧ y.cls ≠ "java/lang/invoke/VarHandle" ∧ (parseMethodDescriptor y.desc).map (fun d => d.parameters.length) = some n) (hR : rm.frames + 1 ≤ R.frames ∧ 8 + (maxL + 11) + rm.locals ≤ R.locals) :
    vx_CVW R s args own C index y bytes maxL ret hh ws rm mc ms n := by
  obtain ⟨hC, hd⟩ := hd
  subst hC
  have ok : ∀ w ∈ wsV own index y.cls y ws, w.before args s = true := fun w h => ht w (hT w h).1
  have hG : GoodIn Ts ws := fun w h => hT w (by unfold wsV; exact List.mem_append_right _ h)
  have hc : Cond.codeWith y bytes maxL ret hh ∈ ws := by rw [hw]; exact List.mem_cons_self
  refine ⟨⟨hrc, hrs, hR.1, hR.2, pay_in ht hG, hc⟩, ht _ (hG _ hc).1, ok _ (by simp [wsV]), ⟨hd.1, hd.2.1⟩, fun sig h => ?_, ok _ (by simp [wsV]), ok _ (by simp [wsV]), ok _ (by simp [wsV])⟩
  have h2 := hd.2.2
  rw [h] at h2
  exact (Option.some.inj h2).symm
theorem vx_runVW {y : MethodName} {bytes cc : ByteArray} {maxL nL mc ms n index : Nat} {ret : Option FieldType} {hh : List (Nat × Nat × Nat × Nat)} {ws : List Cond} {rm : Room} {Pc : Array Value → State → Prop} {Qc : Array Value → State → Outcome → State → Prop} {free : Addr → Prop} {Ts : List Cond} {own C : String} {b : Addr} {As rest : List Value} {g : JFrame}
    (S : CallFix p m c cc nL s args Ts own) (hM : Met l y ws rm Pc Qc mc ms free) (cw : vx_CVW R s args own C index y bytes maxL ret hh ws rm mc ms n) (hp : PreV s H C b Pc As)
    (hg : g.method = m) (hn : As.length = n) (hsize : g.locals.size = nL) (hstack : g.stack = As.reverse ++ .ref b :: rest) (hW : 2 * g.monitorRoom + (rest.map fun v => v.category).sum ≤ 8) (hdg : decode cc g.pc = .ok (.invokevirtual index, 3)) (hf : cells + mc ≤ R.cells ∧ slots + ms ≤ R.slots) :
    va_Run p l e R s m args below meth c H locs cells slots mc ms g rest (Qc (Value.ref b :: As).toArray) free := by
  obtain ⟨⟨hrc, hrs, hfr, hlo, hws, hcw⟩, hcode, hini, hy, hlen, hl, hin, hse⟩ := cw
  have hK : Back l R p e below s args y 3 8 (PreOf R mc ms Pc) (PostOf Qc mc ms free) := va_backW (hh := hh) (bytes := bytes) (maxL := maxL) (ret := ret) hM hp.1 hrc hrs hfr hlo hws hcw (fun a' U hW => word_at hW (Or.inl (by first | rfl | simp [Cond.onTables, Cond.keeps, Cond.steady])) hini)
  obtain ⟨hx, hb, hml, ho, -⟩ := S
  obtain ⟨-, ⟨cellB, hcB, hoB, hclB⟩, hPc⟩ := hp
  intro T hT X
  obtain ⟨v, vm₁, ⟨U', l2, c2, s2⟩, hW₁, X', ⟨g', mk, t, L, e1, e2, hq, h1, hL, h2, h3⟩, st⟩ := vx_callVW X hx (C := C) (hh := hh) (bytes := bytes) (maxL := maxL) (ret := ret) ho hl hin hse hcode hy hK (by rw [hT]; exact hcB) hoB hclB hg (hsize.trans hml.symm) (argsL := As) (rest := rest) (fun sig h => hn.trans (hlen sig h)) hstack hW (by rw [hb]; exact hdg)
    (fun vm₁ hW₁ => ⟨hf.1, hf.2, hPc (T.setVm vm₁) hT hW₁⟩)
  dsimp only [Pt.U, Pt.locs, Pt.cells, Pt.slots] at X' e1 e2 h1 h2 h3 st
  subst h1; subst h2; subst h3
  exact ⟨v, (T.setVm vm₁).calling g' mk (Value.ref b :: As).toArray, t, U', L, hT, X', hL, e1, e2, hq, st⟩
section
variable {y : MethodName} {bytes cc : ByteArray} {maxL nL mc ms n index : Nat} {ret : Option FieldType} {ws : List Cond} {rm : Room} {Pc : Array Value → State → Prop} {Qc : Array Value → State → Outcome → State → Prop} {XC : String → State → State → Prop} {free : Addr → Prop} {Ts : List Cond} {own C : String} {b : Addr} {As rest : List Value} {g : JFrame}
theorem vx_runVX {hh : List (Nat × Nat × Nat × Nat)} (S : CallFix p m c cc nL s args Ts own) (hM : vx_Met l y ws rm Pc Qc XC mc ms free) (cw : vx_CVW R s args own C index y bytes maxL ret hh ws rm mc ms n) (hp : PreV s H C b Pc As)
    (hg : g.method = m) (hn : As.length = n) (hsize : g.locals.size = nL) (hstack : g.stack = As.reverse ++ .ref b :: rest) (hW : 2 * g.monitorRoom + (rest.map fun v => v.category).sum ≤ 8) (hdg : decode cc g.pc = .ok (.invokevirtual index, 3)) (hf : cells + mc ≤ R.cells ∧ slots + ms ≤ R.slots) :
    vx_Run p l e R s m args below meth c H locs cells slots mc ms g rest (Qc (Value.ref b :: As).toArray) XC free := by
  obtain ⟨⟨hrc, hrs, hfr, hlo, hws, hcw⟩, hcode, hini, hy, hlen, hl, hin, hse⟩ := cw
  have hK : vx_Back l R p e below s args y 3 8 (PreOf R mc ms Pc) (PostOf Qc mc ms free) (vx_Post XC mc ms free) := vx_backW (hh := hh) (bytes := bytes) (maxL := maxL) (ret := ret) hM hp.1 hrc hrs hfr hlo hws hcw (fun a' U hW => word_at hW (Or.inl (by first | rfl | simp [Cond.onTables, Cond.keeps, Cond.steady])) hini)
  obtain ⟨hx, hb, hml, ho, -⟩ := S
  obtain ⟨-, ⟨cellB, hcB, hoB, hclB⟩, hPc⟩ := hp
  intro T hT X
  rcases vx_callVX X hx (C := C) (hh := hh) (bytes := bytes) (maxL := maxL) (ret := ret) ho hl hin hse hcode hy hK (by rw [hT]; exact hcB) hoB hclB hg (hsize.trans hml.symm) (argsL := As) (rest := rest) (fun sig h => hn.trans (hlen sig h)) hstack hW (by rw [hb]; exact hdg)
    (fun vm₁ hW₁ => ⟨hf.1, hf.2, hPc (T.setVm vm₁) hT hW₁⟩) with ⟨v, vm₁, ⟨U', l2, c2, s2⟩, hW₁, X', ⟨g', mk, t, L, e1, e2, hq, h1, hL, h2, h3⟩, st⟩ | ⟨q, vm₁, ⟨U', l2, c2, s2⟩, hW₁, X', ⟨g', mk, t, L, E, ce, e1, e2, hq, hce, hcv, hcl, h1, hL, h2, h3⟩, st⟩
  · dsimp only [Pt.U, Pt.locs, Pt.cells, Pt.slots] at X' e1 e2 h1 h2 h3 st
    subst h1; subst h2; subst h3
    exact Or.inl ⟨v, (T.setVm vm₁).calling g' mk (Value.ref b :: As).toArray, t, U', L, hT, X', hL, e1, e2, hq, st⟩
  · dsimp only [Pt.U, Pt.locs, Pt.cells, Pt.slots] at X' e1 e2 h1 h2 h3 st hcl
    subst h1; subst h2; subst h3
    exact Or.inr ⟨q, (T.setVm vm₁).calling g' mk (Value.ref b :: As).toArray, t, U', L, E, ce, hT, X', hL, e1, e2, hq, hce, hcv, vx_cls hW₁ hcl, st⟩
theorem vx_runSX {hh : List (Nat × Nat × Nat × Nat)} (S : CallFix p m c cc nL s args Ts own) (hM : vx_Met l y ws rm Pc Qc XC mc ms free) (cw : vx_CSW R s args own index y bytes maxL ret hh ws rm mc ms n) (hp : PreS s H Pc As)
    (hg : g.method = m) (hn : As.length = n) (hsize : g.locals.size = nL) (hstack : g.stack = As.reverse ++ rest) (hW : 2 * g.monitorRoom + (rest.map fun v => v.category).sum ≤ 8) (hdg : decode cc g.pc = .ok (.invokestatic index, 3)) (hf : cells + mc ≤ R.cells ∧ slots + ms ≤ R.slots) :
    vx_Run p l e R s m args below meth c H locs cells slots mc ms g rest (Qc As.toArray) XC free := by
  obtain ⟨⟨hrc, hrs, hfr, hlo, hws, hcw⟩, hcode, hini, hy, hlen, hl, hstt⟩ := cw
  have hK : vx_Back l R p e below s args y 3 8 (PreOf R mc ms Pc) (PostOf Qc mc ms free) (vx_Post XC mc ms free) := vx_backW (hh := hh) (bytes := bytes) (maxL := maxL) (ret := ret) hM hp.1 hrc hrs hfr hlo hws hcw (fun a' U hW => word_at hW (Or.inl (by first | rfl | simp [Cond.onTables, Cond.keeps, Cond.steady])) hini)
  obtain ⟨hx, hb, hml, ho, -⟩ := S
  intro T hT X
  rcases vx_callSX X hx (hh := hh) (bytes := bytes) (maxL := maxL) (ret := ret) ho hl hstt hini hcode hy hK hg (hsize.trans hml.symm) (argsL := As) (rest := rest) (fun sig h => hn.trans (hlen sig h)) hstack hW (by rw [hb]; exact hdg)
    (fun vm₁ hW₁ => ⟨hf.1, hf.2, hp.2 (T.setVm vm₁) hT hW₁⟩) with ⟨v, vm₁, ⟨U', l2, c2, s2⟩, hW₁, X', ⟨g', mk, t, L, e1, e2, hq, h1, hL, h2, h3⟩, st⟩ | ⟨q, vm₁, ⟨U', l2, c2, s2⟩, hW₁, X', ⟨g', mk, t, L, E, ce, e1, e2, hq, hce, hcv, hcl, h1, hL, h2, h3⟩, st⟩
  · dsimp only [Pt.U, Pt.locs, Pt.cells, Pt.slots] at X' e1 e2 h1 h2 h3 st
    subst h1; subst h2; subst h3
    exact Or.inl ⟨v, (T.setVm vm₁).calling g' mk As.toArray, t, U', L, hT, X', hL, e1, e2, hq, st⟩
  · dsimp only [Pt.U, Pt.locs, Pt.cells, Pt.slots] at X' e1 e2 h1 h2 h3 st hcl
    subst h1; subst h2; subst h3
    exact Or.inr ⟨q, (T.setVm vm₁).calling g' mk As.toArray, t, U', L, E, ce, hT, X', hL, e1, e2, hq, hce, hcv, vx_cls hW₁ hcl, st⟩
end
end VXH
theorem vx_ofWH {l : Launch} {y : MethodName} {ws ws' : List Cond} {rm : Room} {Pc : Array Value → State → Prop} {Qc : Array Value → State → Outcome → State → Prop} {XC : String → State → State → Prop} {mc ms : Nat} {free : Addr → Prop} {cc : ByteArray} {maxL : Nat} {ret : Option FieldType} {hh : List (Nat × Nat × Nat × Nat)}
    (hy : plainName y.cls = true) (hw : ws = Cond.codeWith y cc maxL ret hh :: ws')
    (body : ∀ p e s m args below meth c s₁, BodyLoose p l y (headSpec ws rm) cc maxL ret e s m args below meth c s₁ → c.maxLocals = maxL → Pc args s →
      W p l e (headSpec ws rm).room s m args below meth c s.heap [] 0 0 (vx_MQ below Qc XC args s mc ms free) (entryFrame m args maxL)) : vx_Met l y ws rm Pc Qc XC mc ms free := by
  refine MetFree.of_bodyS (code := cc) (maxLocals := maxL) (ret := ret) hy ?_ ?_
  · intro args s m h hn
    obtain ⟨m9, meth, c, hn9, h1, h2, h3, h4, -, h5, h6, -⟩ := Cond.codeWith_spec (atoms_spec (ws := ws) h _ (by rw [hw]; exact List.mem_cons_self))
    cases hn.symm.trans hn9
    exact ⟨meth, c, h1, h2, h3, h4, h5, h6⟩
  · intro p e s m args below meth c s₁ B hml hP _
    have hh0 : s₁.heap = s.heap := by rw [B.state]; rfl
    obtain ⟨t, a1, o, b1, b2, b3⟩ := body p e s m args below meth c s₁ B hml hP s₁ hh0 (Stand.of_body B)
    exact ⟨t, o, a1, b1, b2, b3⟩
/-! ===== END ===== -/
end
section
def RX0 : String := "TideDepths"
def TX0 : u_T := fun k => match k with
  | 0 => ("TideDepths", "turnTimes", "[J", true)
  | 1 => ("TideDepths", "turnHeights", "[J", true)
  | 2 => ("TideDepths", "turns", "I", false)
  | 3 => ("TideDepths", "observedTimes", "[J", true)
  | 4 => ("TideDepths", "differences", "[J", true)
  | 5 => ("TideDepths", "observations", "I", false)
  | 6 => ("TideDepths", "ways", "[J", true)
  | 7 => ("TideDepths", "bases", "[J", true)
  | _ => ("TideDepths", "places", "I", false)
def tyX0 : Nat → FieldType := fun k => match k with
  | 0 => .array .long
  | 1 => .array .long
  | 2 => .int
  | 3 => .array .long
  | 4 => .array .long
  | 5 => .int
  | 6 => .array .long
  | 7 => .array .long
  | _ => .int
abbrev wsX00 : List Cond := u_ws RX0 TX0 9
theorem nmX0 : ∀ a, a < 9 → ∀ b, b < 9 → a ≠ b → (TX0 a).2.1 ≠ (TX0 b).2.1 := by decide +kernel
theorem tyX0_ok : ∀ k, k < 9 → parseFieldDescriptor (TX0 k).2.2.1 = some (tyX0 k) := by decide +kernel
abbrev cX0_init : ByteArray := prog_1_method_1_code
def yX0_init : MethodName := ⟨RX0, "<init>", "()V"⟩
abbrev cX0_turn : ByteArray := prog_1_method_2_code
def yX0_turn : MethodName := ⟨RX0, "turn", "(JJ)I"⟩
abbrev cX0_height : ByteArray := prog_1_method_3_code
def yX0_height : MethodName := ⟨RX0, "height", "(J)J"⟩
abbrev cX0_observe : ByteArray := prog_1_method_4_code
def yX0_observe : MethodName := ⟨RX0, "observe", "(JJ)I"⟩
abbrev cX0_span : ByteArray := prog_1_method_5_code
def yX0_span : MethodName := ⟨RX0, "span", "(JJJI)I"⟩
abbrev cX0_squat : ByteArray := prog_1_method_6_code
def yX0_squat : MethodName := ⟨RX0, "squat", "(JJ)J"⟩
abbrev cX0_passing : ByteArray := prog_1_method_7_code
def yX0_passing : MethodName := ⟨RX0, "passing", "(JJ)J"⟩
abbrev cX0_cosine : ByteArray := prog_1_method_8_code
def yX0_cosine : MethodName := ⟨RX0, "cosine", "(I)I"⟩
abbrev cX0_draft : ByteArray := prog_1_method_9_code
def yX0_draft : MethodName := ⟨RX0, "draft", "(JJJ)J"⟩
abbrev cX0_place : ByteArray := prog_1_method_10_code
def yX0_place : MethodName := ⟨RX0, "place", "(JJ)I"⟩
abbrev cX0_depth : ByteArray := prog_1_method_11_code
def yX0_depth : MethodName := ⟨RX0, "depth", "(IJ)J"⟩
abbrev cX0_sail : ByteArray := prog_1_method_12_code
def yX0_sail : MethodName := ⟨RX0, "sail", "(JJJI)I"⟩
abbrev cX0_read : ByteArray := prog_1_method_13_code
def yX0_read : MethodName := ⟨RX0, "read", "(II)J"⟩
abbrev cX0_count : ByteArray := prog_1_method_14_code
def yX0_count : MethodName := ⟨RX0, "count", "(I)I"⟩
abbrev cX0_isWithin : ByteArray := prog_1_method_15_code
def yX0_isWithin : MethodName := ⟨RX0, "isWithin", "(JJJ)Z"⟩
abbrev cX0_isLevel : ByteArray := prog_1_method_16_code
def yX0_isLevel : MethodName := ⟨RX0, "isLevel", "(J)Z"⟩
abbrev cX0_isDensity : ByteArray := prog_1_method_17_code
def yX0_isDensity : MethodName := ⟨RX0, "isDensity", "(J)Z"⟩
abbrev cX0_dividedUp : ByteArray := prog_1_method_18_code
def yX0_dividedUp : MethodName := ⟨RX0, "dividedUp", "(JJ)J"⟩
abbrev cX0_secondsFor : ByteArray := prog_1_method_19_code
def yX0_secondsFor : MethodName := ⟨RX0, "secondsFor", "(JJ)J"⟩
abbrev cX0_squatOf : ByteArray := prog_1_method_20_code
def yX0_squatOf : MethodName := ⟨RX0, "squatOf", "(JJ)J"⟩
abbrev cX0_squatThousandths : ByteArray := prog_1_method_21_code
def yX0_squatThousandths : MethodName := ⟨RX0, "squatThousandths", "(J)J"⟩
abbrev cX0_alternates : ByteArray := prog_1_method_22_code
def yX0_alternates : MethodName := ⟨RX0, "alternates", "(J)Z"⟩
abbrev cX0_hasTable : ByteArray := prog_1_method_23_code
def yX0_hasTable : MethodName := ⟨RX0, "hasTable", "()Z"⟩
abbrev cX0_firstSecond : ByteArray := prog_1_method_24_code
def yX0_firstSecond : MethodName := ⟨RX0, "firstSecond", "()J"⟩
abbrev cX0_lastSecond : ByteArray := prog_1_method_25_code
def yX0_lastSecond : MethodName := ⟨RX0, "lastSecond", "()J"⟩
abbrev cX0_isInTable : ByteArray := prog_1_method_26_code
def yX0_isInTable : MethodName := ⟨RX0, "isInTable", "(J)Z"⟩
abbrev cX0_lastNotBehind : ByteArray := prog_1_method_27_code
def yX0_lastNotBehind : MethodName := ⟨RX0, "lastNotBehind", "(J[JI)I"⟩
abbrev cX0_heightAt : ByteArray := prog_1_method_28_code
def yX0_heightAt : MethodName := ⟨RX0, "heightAt", "(J)J"⟩
abbrev cX0_tableHeight : ByteArray := prog_1_method_29_code
def yX0_tableHeight : MethodName := ⟨RX0, "tableHeight", "(J)J"⟩
abbrev cX0_cosinePart : ByteArray := prog_1_method_30_code
def yX0_cosinePart : MethodName := ⟨RX0, "cosinePart", "(JJ)J"⟩
abbrev cX0_correction : ByteArray := prog_1_method_31_code
def yX0_correction : MethodName := ⟨RX0, "correction", "(J)J"⟩
abbrev cX0_stretchEnd : ByteArray := prog_1_method_32_code
def yX0_stretchEnd : MethodName := ⟨RX0, "stretchEnd", "(J)J"⟩
abbrev cX0_correctionEnd : ByteArray := prog_1_method_33_code
def yX0_correctionEnd : MethodName := ⟨RX0, "correctionEnd", "(J)J"⟩
abbrev cX0_nextSecond : ByteArray := prog_1_method_34_code
def yX0_nextSecond : MethodName := ⟨RX0, "nextSecond", "(JJZ)J"⟩
abbrev cX0_changeWithin : ByteArray := prog_1_method_35_code
def yX0_changeWithin : MethodName := ⟨RX0, "changeWithin", "(JJJZ)J"⟩
abbrev cX0_longestSpan : ByteArray := prog_1_method_36_code
def yX0_longestSpan : MethodName := ⟨RX0, "longestSpan", "(JJ)J"⟩
abbrev cX0_firstSailing : ByteArray := prog_1_method_37_code
def yX0_firstSailing : MethodName := ⟨RX0, "firstSailing", "(JJJ)J"⟩
abbrev cX0_lastSailing : ByteArray := prog_1_method_38_code
def yX0_lastSailing : MethodName := ⟨RX0, "lastSailing", "(JJJ)J"⟩
def RX1 : String := "TideDepthsModel"
def TX1 : u_T := fun k => match k with
  | 0 => ("TideDepthsModel", "thrown", "I", false)
  | 1 => ("TideDepthsModel", "turns", "I", false)
  | 2 => ("TideDepthsModel", "observations", "I", false)
  | 3 => ("TideDepthsModel", "places", "I", false)
  | 4 => ("TideDepthsModel", "turnTime", "[I", true)
  | 5 => ("TideDepthsModel", "turnHeight", "[I", true)
  | 6 => ("TideDepthsModel", "seenTime", "[I", true)
  | 7 => ("TideDepthsModel", "difference", "[J", true)
  | 8 => ("TideDepthsModel", "wayTo", "[J", true)
  | 9 => ("TideDepthsModel", "baseOf", "[J", true)
  | 10 => ("TideDepthsModel", "cosines", "[I", true)
  | _ => ("TideDepthsModel", "squats", "[I", true)
def tyX1 : Nat → FieldType := fun k => match k with
  | 0 => .int
  | 1 => .int
  | 2 => .int
  | 3 => .int
  | 4 => .array .int
  | 5 => .array .int
  | 6 => .array .int
  | 7 => .array .long
  | 8 => .array .long
  | 9 => .array .long
  | 10 => .array .int
  | _ => .array .int
abbrev wsX10 : List Cond := u_ws RX1 TX1 12
theorem nmX1 : ∀ a, a < 12 → ∀ b, b < 12 → a ≠ b → (TX1 a).2.1 ≠ (TX1 b).2.1 := by decide +kernel
theorem tyX1_ok : ∀ k, k < 12 → parseFieldDescriptor (TX1 k).2.2.1 = some (tyX1 k) := by decide +kernel
abbrev cX1_init : ByteArray := prog_3_method_1_code
def yX1_init : MethodName := ⟨RX1, "<init>", "()V"⟩
abbrev cX1_thrown : ByteArray := prog_3_method_2_code
def yX1_thrown : MethodName := ⟨RX1, "thrown", "()I"⟩
abbrev cX1_in : ByteArray := prog_3_method_3_code
def yX1_in : MethodName := ⟨RX1, "in", "(JJJ)Z"⟩
abbrev cX1_floor : ByteArray := prog_3_method_4_code
def yX1_floor : MethodName := ⟨RX1, "floor", "(JJ)J"⟩
abbrev cX1_up : ByteArray := prog_3_method_5_code
def yX1_up : MethodName := ⟨RX1, "up", "(JJ)J"⟩
abbrev cX1_isInTable : ByteArray := prog_3_method_6_code
def yX1_isInTable : MethodName := ⟨RX1, "isInTable", "(J)Z"⟩
abbrev cX1_isHeight : ByteArray := prog_3_method_7_code
def yX1_isHeight : MethodName := ⟨RX1, "isHeight", "(J)Z"⟩
abbrev cX1_tableHeight : ByteArray := prog_3_method_8_code
def yX1_tableHeight : MethodName := ⟨RX1, "tableHeight", "(I)J"⟩
abbrev cX1_heightAt : ByteArray := prog_3_method_9_code
def yX1_heightAt : MethodName := ⟨RX1, "heightAt", "(I)J"⟩
abbrev cX1_turn : ByteArray := prog_3_method_10_code
def yX1_turn : MethodName := ⟨RX1, "turn", "(JJ)I"⟩
abbrev cX1_height : ByteArray := prog_3_method_11_code
def yX1_height : MethodName := ⟨RX1, "height", "(J)J"⟩
abbrev cX1_observe : ByteArray := prog_3_method_12_code
def yX1_observe : MethodName := ⟨RX1, "observe", "(JJ)I"⟩
abbrev cX1_span : ByteArray := prog_3_method_13_code
def yX1_span : MethodName := ⟨RX1, "span", "(JJJI)I"⟩
abbrev cX1_squatOf : ByteArray := prog_3_method_14_code
def yX1_squatOf : MethodName := ⟨RX1, "squatOf", "(JJ)J"⟩
abbrev cX1_squat : ByteArray := prog_3_method_15_code
def yX1_squat : MethodName := ⟨RX1, "squat", "(JJ)J"⟩
abbrev cX1_passing : ByteArray := prog_3_method_16_code
def yX1_passing : MethodName := ⟨RX1, "passing", "(JJ)J"⟩
abbrev cX1_cosine : ByteArray := prog_3_method_17_code
def yX1_cosine : MethodName := ⟨RX1, "cosine", "(I)I"⟩
abbrev cX1_draft : ByteArray := prog_3_method_18_code
def yX1_draft : MethodName := ⟨RX1, "draft", "(JJJ)J"⟩
abbrev cX1_place : ByteArray := prog_3_method_19_code
def yX1_place : MethodName := ⟨RX1, "place", "(JJ)I"⟩
abbrev cX1_depth : ByteArray := prog_3_method_20_code
def yX1_depth : MethodName := ⟨RX1, "depth", "(IJ)J"⟩
abbrev cX1_maySail : ByteArray := prog_3_method_21_code
def yX1_maySail : MethodName := ⟨RX1, "maySail", "(IJJ)Z"⟩
abbrev cX1_sail : ByteArray := prog_3_method_22_code
def yX1_sail : MethodName := ⟨RX1, "sail", "(JJJI)I"⟩
abbrev cX1_read : ByteArray := prog_3_method_23_code
def yX1_read : MethodName := ⟨RX1, "read", "(II)J"⟩
abbrev cX1_count : ByteArray := prog_3_method_24_code
def yX1_count : MethodName := ⟨RX1, "count", "(I)I"⟩
def RJx00060 : String := "java/lang/ArrayIndexOutOfBoundsException"
def TJx00060 : u_T := fun k => match k with
  | 0 => ("java/lang/Throwable", "cause", "Ljava/lang/Throwable;", false)
  | 1 => ("java/lang/Throwable", "stackTrace", "[Ljava/lang/StackTraceElement;", false)
  | 2 => ("java/lang/Throwable", "suppressedExceptions", "Ljava/util/List;", false)
  | 3 => ("java/lang/Throwable", "detailMessage", "Ljava/lang/String;", false)
  | 4 => ("java/lang/Throwable", "backtrace", "Ljava/lang/Object;", false)
  | _ => ("java/lang/Throwable", "depth", "I", false)
def tyJx00060 : Nat → FieldType := fun k => match k with
  | 0 => .object "java/lang/Throwable"
  | 1 => .array (.object "java/lang/StackTraceElement")
  | 2 => .object "java/util/List"
  | 3 => .object "java/lang/String"
  | 4 => .object "java/lang/Object"
  | _ => .int
abbrev wsJx000600 : List Cond := u_ws RJx00060 TJx00060 6
theorem nmJx00060 : ∀ a, a < 6 → ∀ b, b < 6 → a ≠ b → (TJx00060 a).2.1 ≠ (TJx00060 b).2.1 := by decide +kernel
theorem tyJx00060_ok : ∀ k, k < 6 → parseFieldDescriptor (TJx00060 k).2.2.1 = some (tyJx00060 k) := by decide +kernel
abbrev cJx00060_init_a7421 : ByteArray := prog_5_method_2_code
def yJx00060_init_a7421 : MethodName := ⟨RJx00060, "<init>", "(Ljava/lang/String;)V"⟩
def RJ9 : String := "java/lang/Math"
def TJ9 : u_T := fun k => match k with
  | _ => ("", "", "", false)
def tyJ9 : Nat → FieldType := fun k => match k with
  | _ => .int
abbrev wsJ90 : List Cond := u_ws RJ9 TJ9 0
theorem nmJ9 : ∀ a, a < 0 → ∀ b, b < 0 → a ≠ b → (TJ9 a).2.1 ≠ (TJ9 b).2.1 := by decide +kernel
theorem tyJ9_ok : ∀ k, k < 0 → parseFieldDescriptor (TJ9 k).2.2.1 = some (tyJ9 k) := by decide +kernel
abbrev cJ9_floorDiv_f86c9 : ByteArray := prog_10_method_49_code
def yJ9_floorDiv_f86c9 : MethodName := ⟨RJ9, "floorDiv", "(JJ)J"⟩
abbrev cJ9_min_f86c9 : ByteArray := prog_10_method_70_code
def yJ9_min_f86c9 : MethodName := ⟨RJ9, "min", "(JJ)J"⟩
def RJ0 : String := "java/lang/String"
def TJ0 : u_T := fun k => match k with
  | _ => ("", "", "", false)
def tyJ0 : Nat → FieldType := fun k => match k with
  | _ => .int
abbrev wsJ00 : List Cond := u_ws RJ0 TJ0 0
theorem nmJ0 : ∀ a, a < 0 → ∀ b, b < 0 → a ≠ b → (TJ0 a).2.1 ≠ (TJ0 b).2.1 := by decide +kernel
theorem tyJ0_ok : ∀ k, k < 0 → parseFieldDescriptor (TJ0 k).2.2.1 = some (tyJ0 k) := by decide +kernel
def RL : String := "TideDepthsLaw"
abbrev cL_turn : ByteArray := method_3_code
def yL_turn : MethodName := ⟨RL, "turn", "(LTideDepths;JJ[J)I"⟩
abbrev cL_height : ByteArray := method_4_code
def yL_height : MethodName := ⟨RL, "height", "(LTideDepths;J[J)I"⟩
abbrev cL_observe : ByteArray := method_5_code
def yL_observe : MethodName := ⟨RL, "observe", "(LTideDepths;JJ[J)I"⟩
abbrev cL_span : ByteArray := method_6_code
def yL_span : MethodName := ⟨RL, "span", "(LTideDepths;JJJI[J)I"⟩
abbrev cL_squat : ByteArray := method_7_code
def yL_squat : MethodName := ⟨RL, "squat", "(LTideDepths;JJ[J)I"⟩
abbrev cL_passing : ByteArray := method_8_code
def yL_passing : MethodName := ⟨RL, "passing", "(LTideDepths;JJ[J)I"⟩
abbrev cL_cosine : ByteArray := method_9_code
def yL_cosine : MethodName := ⟨RL, "cosine", "(LTideDepths;I[J)I"⟩
abbrev cL_draft : ByteArray := method_10_code
def yL_draft : MethodName := ⟨RL, "draft", "(LTideDepths;JJJ[J)I"⟩
abbrev cL_place : ByteArray := method_11_code
def yL_place : MethodName := ⟨RL, "place", "(LTideDepths;JJ[J)I"⟩
abbrev cL_depth : ByteArray := method_12_code
def yL_depth : MethodName := ⟨RL, "depth", "(LTideDepths;IJ[J)I"⟩
abbrev cL_sail : ByteArray := method_13_code
def yL_sail : MethodName := ⟨RL, "sail", "(LTideDepths;JJJI[J)I"⟩
abbrev cL_read : ByteArray := method_14_code
def yL_read : MethodName := ⟨RL, "read", "(LTideDepths;II[J)I"⟩
abbrev cL_law : ByteArray := code
def yL_law : MethodName := ⟨RL, "law", "([I)Z"⟩
def wsX0_init : List Cond := .code yX0_init cX0_init 1 none :: ([.methodLink RX0 1 objectInit, .instanceMethod objectInit, .code objectInit ⟨#[0xb1]⟩ 1 none, .arrayClass .long, .fieldLink RX0 9 "TideDepths" "turnTimes" "[J", .fieldLink RX0 13 "TideDepths" "turnHeights" "[J", .fieldLink RX0 16 "TideDepths" "turns" "I", .fieldLink RX0 20 "TideDepths" "observedTimes" "[J", .fieldLink RX0 23 "TideDepths" "differences" "[J", .fieldLink RX0 26 "TideDepths" "observations" "I", .fieldLink RX0 29 "TideDepths" "ways" "[J", .fieldLink RX0 32 "TideDepths" "bases" "[J", .fieldLink RX0 35 "TideDepths" "places" "I"] ++ wsX00)
def wsX0_isWithin : List Cond := .code yX0_isWithin cX0_isWithin 6 (some .boolean) :: ([])
def wsX0_isLevel : List Cond := .code yX0_isLevel cX0_isLevel 2 (some .boolean) :: ([.constantLong RX0 166 (-100000), .constantLong RX0 168 (100000), .methodLink RX0 40 yX0_isWithin, .static yX0_isWithin, .initialized RX0, .code yX0_isWithin cX0_isWithin 6 (some .boolean)])
def wsX0_alternates : List Cond := .code yX0_alternates cX0_alternates 6 (some .boolean) :: ([.fieldLink RX0 16 "TideDepths" "turns" "I", .fieldLink RX0 13 "TideDepths" "turnHeights" "[J"] ++ wsX00)
def wsX0_turn : List Cond := .code yX0_turn cX0_turn 5 (some .int) :: ([.classLink RX0 48 "java/lang/IllegalArgumentException", .initialized "java/lang/IllegalArgumentException", .classLink RX0 57 "java/lang/IllegalStateException", .initialized "java/lang/IllegalStateException", .constantLong RX0 38 (20000), .fieldLink RX0 16 "TideDepths" "turns" "I", .fieldLink RX0 9 "TideDepths" "turnTimes" "[J", .fieldLink RX0 13 "TideDepths" "turnHeights" "[J", .methodLink RX0 40 yX0_isWithin, .static yX0_isWithin, .initialized RX0, .code yX0_isWithin cX0_isWithin 6 (some .boolean), .methodLink RX0 44 yX0_isLevel, .static yX0_isLevel, .code yX0_isLevel cX0_isLevel 2 (some .boolean), .constantLong RX0 166 (-100000), .constantLong RX0 168 (100000), .methodLink RX0 62 yX0_alternates, .instanceMethod yX0_alternates, .selects RX0 yX0_alternates yX0_alternates, .code yX0_alternates cX0_alternates 6 (some .boolean)] ++ wsX00 ++ (vx_atS RX0 52 "java/lang/IllegalArgumentException" ["java/lang/RuntimeException", "java/lang/Exception"]).filter goodWord ++ (vx_atS RX0 61 "java/lang/IllegalStateException" ["java/lang/RuntimeException", "java/lang/Exception"]).filter goodWord)
def wsX0_hasTable : List Cond := .code yX0_hasTable cX0_hasTable 1 (some .boolean) :: ([.fieldLink RX0 16 "TideDepths" "turns" "I"] ++ wsX00)
def wsX0_firstSecond : List Cond := .code yX0_firstSecond cX0_firstSecond 1 (some .long) :: ([.fieldLink RX0 9 "TideDepths" "turnTimes" "[J", .constantLong RX0 190 (-1), .methodLink RX0 186 yX0_hasTable, .instanceMethod yX0_hasTable, .selects RX0 yX0_hasTable yX0_hasTable, .initialized RX0, .code yX0_hasTable cX0_hasTable 1 (some .boolean), .fieldLink RX0 16 "TideDepths" "turns" "I"] ++ wsX00)
def wsX0_lastSecond : List Cond := .code yX0_lastSecond cX0_lastSecond 1 (some .long) :: ([.fieldLink RX0 9 "TideDepths" "turnTimes" "[J", .fieldLink RX0 16 "TideDepths" "turns" "I", .constantLong RX0 190 (-1), .methodLink RX0 186 yX0_hasTable, .instanceMethod yX0_hasTable, .selects RX0 yX0_hasTable yX0_hasTable, .initialized RX0, .code yX0_hasTable cX0_hasTable 1 (some .boolean)] ++ wsX00)
def wsX0_isInTable : List Cond := .code yX0_isInTable cX0_isInTable 3 (some .boolean) :: ([.methodLink RX0 186 yX0_hasTable, .instanceMethod yX0_hasTable, .selects RX0 yX0_hasTable yX0_hasTable, .initialized RX0, .code yX0_hasTable cX0_hasTable 1 (some .boolean), .fieldLink RX0 16 "TideDepths" "turns" "I", .methodLink RX0 163 yX0_firstSecond, .instanceMethod yX0_firstSecond, .selects RX0 yX0_firstSecond yX0_firstSecond, .code yX0_firstSecond cX0_firstSecond 1 (some .long), .fieldLink RX0 9 "TideDepths" "turnTimes" "[J", .constantLong RX0 190 (-1), .methodLink RX0 95 yX0_lastSecond, .instanceMethod yX0_lastSecond, .selects RX0 yX0_lastSecond yX0_lastSecond, .code yX0_lastSecond cX0_lastSecond 1 (some .long), .methodLink RX0 40 yX0_isWithin, .static yX0_isWithin, .code yX0_isWithin cX0_isWithin 6 (some .boolean)] ++ wsX00)
def wsX0_lastNotBehind : List Cond := .code yX0_lastNotBehind cX0_lastNotBehind 5 (some .int) :: ([])
def wsX0_cosinePart : List Cond := .code yX0_cosinePart cX0_cosinePart 9 (some .long) :: ([.constantLong RX0 202 (32768), .constantLong RX0 209 (64), .fieldLink RX0 120 "TideDepths" "COSINE" "[I"])
def wsJ9_floorDiv_f86c9 : List Cond := .code yJ9_floorDiv_f86c9 cJ9_floorDiv_f86c9 6 (some .long) :: ([])
def wsX0_tableHeight : List Cond := .code yX0_tableHeight cX0_tableHeight 8 (some .long) :: ([.fieldLink RX0 9 "TideDepths" "turnTimes" "[J", .fieldLink RX0 16 "TideDepths" "turns" "I", .fieldLink RX0 13 "TideDepths" "turnHeights" "[J", .constantLong RX0 202 (32768), .methodLink RX0 195 yX0_lastNotBehind, .static yX0_lastNotBehind, .initialized RX0, .code yX0_lastNotBehind cX0_lastNotBehind 5 (some .int), .methodLink RX0 199 yX0_cosinePart, .static yX0_cosinePart, .code yX0_cosinePart cX0_cosinePart 9 (some .long), .constantLong RX0 209 (64), .fieldLink RX0 120 "TideDepths" "COSINE" "[I", .methodLink RX0 204 yJ9_floorDiv_f86c9, .static yJ9_floorDiv_f86c9, .initialized RJ9, .code yJ9_floorDiv_f86c9 cJ9_floorDiv_f86c9 6 (some .long)] ++ wsX00)
def wsX0_correction : List Cond := .code yX0_correction cX0_correction 10 (some .long) :: ([.fieldLink RX0 20 "TideDepths" "observedTimes" "[J", .fieldLink RX0 26 "TideDepths" "observations" "I", .fieldLink RX0 23 "TideDepths" "differences" "[J", .constantLong RX0 211 (600), .constantLong RX0 213 (2), .methodLink RX0 195 yX0_lastNotBehind, .static yX0_lastNotBehind, .initialized RX0, .code yX0_lastNotBehind cX0_lastNotBehind 5 (some .int)] ++ wsX00)
def wsX0_heightAt_r1 : List Cond := [Cond.methodLink RX0 80 yX0_tableHeight, Cond.instanceMethod yX0_tableHeight, Cond.selects RX0 yX0_tableHeight yX0_tableHeight, Cond.initialized RX0, Cond.code yX0_tableHeight cX0_tableHeight 8 (some .long), Cond.fieldLink RX0 9 "TideDepths" "turnTimes" "[J", Cond.fieldLink RX0 16 "TideDepths" "turns" "I", Cond.fieldLink RX0 13 "TideDepths" "turnHeights" "[J", Cond.constantLong RX0 202 (32768), Cond.methodLink RX0 195 yX0_lastNotBehind, Cond.static yX0_lastNotBehind, Cond.code yX0_lastNotBehind cX0_lastNotBehind 5 (some .int), Cond.methodLink RX0 199 yX0_cosinePart, Cond.static yX0_cosinePart, Cond.code yX0_cosinePart cX0_cosinePart 9 (some .long), Cond.constantLong RX0 209 (64), Cond.fieldLink RX0 120 "TideDepths" "COSINE" "[I", Cond.methodLink RX0 204 yJ9_floorDiv_f86c9, Cond.static yJ9_floorDiv_f86c9, Cond.initialized RJ9, Cond.code yJ9_floorDiv_f86c9 cJ9_floorDiv_f86c9 6 (some .long), Cond.methodLink RX0 192 yX0_correction, Cond.instanceMethod yX0_correction, Cond.selects RX0 yX0_correction yX0_correction]
def wsX0_heightAt_r2 : List Cond := [Cond.code yX0_correction cX0_correction 10 (some .long), Cond.fieldLink RX0 20 "TideDepths" "observedTimes" "[J", Cond.fieldLink RX0 26 "TideDepths" "observations" "I", Cond.fieldLink RX0 23 "TideDepths" "differences" "[J", Cond.constantLong RX0 211 (600), Cond.constantLong RX0 213 (2)]
def wsX0_heightAt : List Cond := .code yX0_heightAt cX0_heightAt 3 (some .long) :: ((wsX0_heightAt_r1 ++ wsX0_heightAt_r2) ++ wsX00)
def wsX0_height_r1 : List Cond := [Cond.classLink RX0 48 "java/lang/IllegalArgumentException", Cond.initialized "java/lang/IllegalArgumentException", Cond.methodLink RX0 65 yX0_isInTable, Cond.instanceMethod yX0_isInTable, Cond.selects RX0 yX0_isInTable yX0_isInTable, Cond.initialized RX0, Cond.code yX0_isInTable cX0_isInTable 3 (some .boolean), Cond.methodLink RX0 186 yX0_hasTable, Cond.instanceMethod yX0_hasTable, Cond.selects RX0 yX0_hasTable yX0_hasTable, Cond.code yX0_hasTable cX0_hasTable 1 (some .boolean), Cond.fieldLink RX0 16 "TideDepths" "turns" "I", Cond.methodLink RX0 163 yX0_firstSecond, Cond.instanceMethod yX0_firstSecond, Cond.selects RX0 yX0_firstSecond yX0_firstSecond, Cond.code yX0_firstSecond cX0_firstSecond 1 (some .long), Cond.fieldLink RX0 9 "TideDepths" "turnTimes" "[J", Cond.constantLong RX0 190 (-1), Cond.methodLink RX0 95 yX0_lastSecond, Cond.instanceMethod yX0_lastSecond, Cond.selects RX0 yX0_lastSecond yX0_lastSecond, Cond.code yX0_lastSecond cX0_lastSecond 1 (some .long), Cond.methodLink RX0 40 yX0_isWithin, Cond.static yX0_isWithin]
def wsX0_height_r2 : List Cond := [Cond.code yX0_isWithin cX0_isWithin 6 (some .boolean), Cond.methodLink RX0 70 yX0_heightAt, Cond.instanceMethod yX0_heightAt, Cond.selects RX0 yX0_heightAt yX0_heightAt, Cond.code yX0_heightAt cX0_heightAt 3 (some .long), Cond.methodLink RX0 80 yX0_tableHeight, Cond.instanceMethod yX0_tableHeight, Cond.selects RX0 yX0_tableHeight yX0_tableHeight, Cond.code yX0_tableHeight cX0_tableHeight 8 (some .long), Cond.fieldLink RX0 13 "TideDepths" "turnHeights" "[J", Cond.constantLong RX0 202 (32768), Cond.methodLink RX0 195 yX0_lastNotBehind, Cond.static yX0_lastNotBehind, Cond.code yX0_lastNotBehind cX0_lastNotBehind 5 (some .int), Cond.methodLink RX0 199 yX0_cosinePart, Cond.static yX0_cosinePart, Cond.code yX0_cosinePart cX0_cosinePart 9 (some .long), Cond.constantLong RX0 209 (64), Cond.fieldLink RX0 120 "TideDepths" "COSINE" "[I", Cond.methodLink RX0 204 yJ9_floorDiv_f86c9, Cond.static yJ9_floorDiv_f86c9, Cond.initialized RJ9, Cond.code yJ9_floorDiv_f86c9 cJ9_floorDiv_f86c9 6 (some .long), Cond.methodLink RX0 192 yX0_correction]
def wsX0_height_r3 : List Cond := [Cond.instanceMethod yX0_correction, Cond.selects RX0 yX0_correction yX0_correction, Cond.code yX0_correction cX0_correction 10 (some .long), Cond.fieldLink RX0 20 "TideDepths" "observedTimes" "[J", Cond.fieldLink RX0 26 "TideDepths" "observations" "I", Cond.fieldLink RX0 23 "TideDepths" "differences" "[J", Cond.constantLong RX0 211 (600), Cond.constantLong RX0 213 (2)]
def wsX0_height : List Cond := .code yX0_height cX0_height 3 (some .long) :: ((wsX0_height_r1 ++ (wsX0_height_r2 ++ wsX0_height_r3)) ++ wsX00 ++ (vx_atS RX0 52 "java/lang/IllegalArgumentException" ["java/lang/RuntimeException", "java/lang/Exception"]).filter goodWord)
def wsX0_observe_r1 : List Cond := [Cond.classLink RX0 48 "java/lang/IllegalArgumentException", Cond.initialized "java/lang/IllegalArgumentException", Cond.classLink RX0 57 "java/lang/IllegalStateException", Cond.initialized "java/lang/IllegalStateException", Cond.fieldLink RX0 26 "TideDepths" "observations" "I", Cond.fieldLink RX0 20 "TideDepths" "observedTimes" "[J", Cond.fieldLink RX0 23 "TideDepths" "differences" "[J", Cond.methodLink RX0 65 yX0_isInTable, Cond.instanceMethod yX0_isInTable, Cond.selects RX0 yX0_isInTable yX0_isInTable, Cond.initialized RX0, Cond.code yX0_isInTable cX0_isInTable 3 (some .boolean), Cond.methodLink RX0 186 yX0_hasTable, Cond.instanceMethod yX0_hasTable, Cond.selects RX0 yX0_hasTable yX0_hasTable, Cond.code yX0_hasTable cX0_hasTable 1 (some .boolean), Cond.fieldLink RX0 16 "TideDepths" "turns" "I", Cond.methodLink RX0 163 yX0_firstSecond, Cond.instanceMethod yX0_firstSecond, Cond.selects RX0 yX0_firstSecond yX0_firstSecond, Cond.code yX0_firstSecond cX0_firstSecond 1 (some .long), Cond.fieldLink RX0 9 "TideDepths" "turnTimes" "[J", Cond.constantLong RX0 190 (-1), Cond.methodLink RX0 95 yX0_lastSecond]
def wsX0_observe_r2 : List Cond := [Cond.instanceMethod yX0_lastSecond, Cond.selects RX0 yX0_lastSecond yX0_lastSecond, Cond.code yX0_lastSecond cX0_lastSecond 1 (some .long), Cond.methodLink RX0 40 yX0_isWithin, Cond.static yX0_isWithin, Cond.code yX0_isWithin cX0_isWithin 6 (some .boolean), Cond.methodLink RX0 44 yX0_isLevel, Cond.static yX0_isLevel, Cond.code yX0_isLevel cX0_isLevel 2 (some .boolean), Cond.constantLong RX0 166 (-100000), Cond.constantLong RX0 168 (100000), Cond.methodLink RX0 80 yX0_tableHeight, Cond.instanceMethod yX0_tableHeight, Cond.selects RX0 yX0_tableHeight yX0_tableHeight, Cond.code yX0_tableHeight cX0_tableHeight 8 (some .long), Cond.fieldLink RX0 13 "TideDepths" "turnHeights" "[J", Cond.constantLong RX0 202 (32768), Cond.methodLink RX0 195 yX0_lastNotBehind, Cond.static yX0_lastNotBehind, Cond.code yX0_lastNotBehind cX0_lastNotBehind 5 (some .int), Cond.methodLink RX0 199 yX0_cosinePart, Cond.static yX0_cosinePart, Cond.code yX0_cosinePart cX0_cosinePart 9 (some .long), Cond.constantLong RX0 209 (64)]
def wsX0_observe_r3 : List Cond := [Cond.fieldLink RX0 120 "TideDepths" "COSINE" "[I", Cond.methodLink RX0 204 yJ9_floorDiv_f86c9, Cond.static yJ9_floorDiv_f86c9, Cond.initialized RJ9, Cond.code yJ9_floorDiv_f86c9 cJ9_floorDiv_f86c9 6 (some .long)]
def wsX0_observe : List Cond := .code yX0_observe cX0_observe 5 (some .int) :: ((wsX0_observe_r1 ++ (wsX0_observe_r2 ++ wsX0_observe_r3)) ++ wsX00 ++ (vx_atS RX0 52 "java/lang/IllegalArgumentException" ["java/lang/RuntimeException", "java/lang/Exception"]).filter goodWord ++ (vx_atS RX0 61 "java/lang/IllegalStateException" ["java/lang/RuntimeException", "java/lang/Exception"]).filter goodWord)
def wsX0_correctionEnd : List Cond := .code yX0_correctionEnd cX0_correctionEnd 8 (some .long) :: ([.constantLong RX0 38 (20000), .fieldLink RX0 20 "TideDepths" "observedTimes" "[J", .fieldLink RX0 26 "TideDepths" "observations" "I", .constantLong RX0 211 (600), .methodLink RX0 218 Lib.MathLoose.min_long.x, .static Lib.MathLoose.min_long.x, .initialized "java/lang/Math", .code Lib.MathLoose.min_long.x Lib.MathLoose.min_long.code 4 (some .long), .methodLink RX0 195 yX0_lastNotBehind, .static yX0_lastNotBehind, .initialized RX0, .code yX0_lastNotBehind cX0_lastNotBehind 5 (some .int)] ++ wsX00)
def wsX0_stretchEnd_r1 : List Cond := [Cond.fieldLink RX0 9 "TideDepths" "turnTimes" "[J", Cond.fieldLink RX0 16 "TideDepths" "turns" "I", Cond.methodLink RX0 218 Lib.MathLoose.min_long.x, Cond.static Lib.MathLoose.min_long.x, Cond.initialized "java/lang/Math", Cond.code Lib.MathLoose.min_long.x Lib.MathLoose.min_long.code 4 (some .long), Cond.methodLink RX0 195 yX0_lastNotBehind, Cond.static yX0_lastNotBehind, Cond.initialized RX0, Cond.code yX0_lastNotBehind cX0_lastNotBehind 5 (some .int), Cond.methodLink RX0 95 yX0_lastSecond, Cond.instanceMethod yX0_lastSecond, Cond.selects RX0 yX0_lastSecond yX0_lastSecond, Cond.code yX0_lastSecond cX0_lastSecond 1 (some .long), Cond.constantLong RX0 190 (-1), Cond.methodLink RX0 186 yX0_hasTable, Cond.instanceMethod yX0_hasTable, Cond.selects RX0 yX0_hasTable yX0_hasTable, Cond.code yX0_hasTable cX0_hasTable 1 (some .boolean), Cond.methodLink RX0 215 yX0_correctionEnd, Cond.instanceMethod yX0_correctionEnd, Cond.selects RX0 yX0_correctionEnd yX0_correctionEnd, Cond.code yX0_correctionEnd cX0_correctionEnd 8 (some .long), Cond.constantLong RX0 38 (20000)]
def wsX0_stretchEnd_r2 : List Cond := [Cond.fieldLink RX0 20 "TideDepths" "observedTimes" "[J", Cond.fieldLink RX0 26 "TideDepths" "observations" "I", Cond.constantLong RX0 211 (600)]
def wsX0_stretchEnd : List Cond := .code yX0_stretchEnd cX0_stretchEnd 6 (some .long) :: ((wsX0_stretchEnd_r1 ++ wsX0_stretchEnd_r2) ++ wsX00)
def wsX0_changeWithin_r1 : List Cond := [Cond.constantLong RX0 213 (2), Cond.methodLink RX0 70 yX0_heightAt, Cond.instanceMethod yX0_heightAt, Cond.selects RX0 yX0_heightAt yX0_heightAt, Cond.initialized RX0, Cond.code yX0_heightAt cX0_heightAt 3 (some .long), Cond.methodLink RX0 80 yX0_tableHeight, Cond.instanceMethod yX0_tableHeight, Cond.selects RX0 yX0_tableHeight yX0_tableHeight, Cond.code yX0_tableHeight cX0_tableHeight 8 (some .long), Cond.fieldLink RX0 9 "TideDepths" "turnTimes" "[J", Cond.fieldLink RX0 16 "TideDepths" "turns" "I", Cond.fieldLink RX0 13 "TideDepths" "turnHeights" "[J", Cond.constantLong RX0 202 (32768), Cond.methodLink RX0 195 yX0_lastNotBehind, Cond.static yX0_lastNotBehind, Cond.code yX0_lastNotBehind cX0_lastNotBehind 5 (some .int), Cond.methodLink RX0 199 yX0_cosinePart, Cond.static yX0_cosinePart, Cond.code yX0_cosinePart cX0_cosinePart 9 (some .long), Cond.constantLong RX0 209 (64), Cond.fieldLink RX0 120 "TideDepths" "COSINE" "[I", Cond.methodLink RX0 204 yJ9_floorDiv_f86c9, Cond.static yJ9_floorDiv_f86c9]
def wsX0_changeWithin_r2 : List Cond := [Cond.initialized RJ9, Cond.code yJ9_floorDiv_f86c9 cJ9_floorDiv_f86c9 6 (some .long), Cond.methodLink RX0 192 yX0_correction, Cond.instanceMethod yX0_correction, Cond.selects RX0 yX0_correction yX0_correction, Cond.code yX0_correction cX0_correction 10 (some .long), Cond.fieldLink RX0 20 "TideDepths" "observedTimes" "[J", Cond.fieldLink RX0 26 "TideDepths" "observations" "I", Cond.fieldLink RX0 23 "TideDepths" "differences" "[J", Cond.constantLong RX0 211 (600)]
def wsX0_changeWithin : List Cond := .code yX0_changeWithin cX0_changeWithin 15 (some .long) :: ((wsX0_changeWithin_r1 ++ wsX0_changeWithin_r2) ++ wsX00)
def wsX0_nextSecond_r1 : List Cond := [Cond.methodLink RX0 95 yX0_lastSecond, Cond.instanceMethod yX0_lastSecond, Cond.selects RX0 yX0_lastSecond yX0_lastSecond, Cond.initialized RX0, Cond.code yX0_lastSecond cX0_lastSecond 1 (some .long), Cond.fieldLink RX0 9 "TideDepths" "turnTimes" "[J", Cond.fieldLink RX0 16 "TideDepths" "turns" "I", Cond.constantLong RX0 190 (-1), Cond.methodLink RX0 186 yX0_hasTable, Cond.instanceMethod yX0_hasTable, Cond.selects RX0 yX0_hasTable yX0_hasTable, Cond.code yX0_hasTable cX0_hasTable 1 (some .boolean), Cond.methodLink RX0 70 yX0_heightAt, Cond.instanceMethod yX0_heightAt, Cond.selects RX0 yX0_heightAt yX0_heightAt, Cond.code yX0_heightAt cX0_heightAt 3 (some .long), Cond.methodLink RX0 80 yX0_tableHeight, Cond.instanceMethod yX0_tableHeight, Cond.selects RX0 yX0_tableHeight yX0_tableHeight, Cond.code yX0_tableHeight cX0_tableHeight 8 (some .long), Cond.fieldLink RX0 13 "TideDepths" "turnHeights" "[J", Cond.constantLong RX0 202 (32768), Cond.methodLink RX0 195 yX0_lastNotBehind, Cond.static yX0_lastNotBehind]
def wsX0_nextSecond_r2 : List Cond := [Cond.code yX0_lastNotBehind cX0_lastNotBehind 5 (some .int), Cond.methodLink RX0 199 yX0_cosinePart, Cond.static yX0_cosinePart, Cond.code yX0_cosinePart cX0_cosinePart 9 (some .long), Cond.constantLong RX0 209 (64), Cond.fieldLink RX0 120 "TideDepths" "COSINE" "[I", Cond.methodLink RX0 204 yJ9_floorDiv_f86c9, Cond.static yJ9_floorDiv_f86c9, Cond.initialized RJ9, Cond.code yJ9_floorDiv_f86c9 cJ9_floorDiv_f86c9 6 (some .long), Cond.methodLink RX0 192 yX0_correction, Cond.instanceMethod yX0_correction, Cond.selects RX0 yX0_correction yX0_correction, Cond.code yX0_correction cX0_correction 10 (some .long), Cond.fieldLink RX0 20 "TideDepths" "observedTimes" "[J", Cond.fieldLink RX0 26 "TideDepths" "observations" "I", Cond.fieldLink RX0 23 "TideDepths" "differences" "[J", Cond.constantLong RX0 211 (600), Cond.constantLong RX0 213 (2), Cond.methodLink RX0 221 yX0_stretchEnd, Cond.instanceMethod yX0_stretchEnd, Cond.selects RX0 yX0_stretchEnd yX0_stretchEnd, Cond.code yX0_stretchEnd cX0_stretchEnd 6 (some .long), Cond.methodLink RX0 218 Lib.MathLoose.min_long.x]
def wsX0_nextSecond_r3 : List Cond := [Cond.static Lib.MathLoose.min_long.x, Cond.initialized "java/lang/Math", Cond.code Lib.MathLoose.min_long.x Lib.MathLoose.min_long.code 4 (some .long), Cond.methodLink RX0 215 yX0_correctionEnd, Cond.instanceMethod yX0_correctionEnd, Cond.selects RX0 yX0_correctionEnd yX0_correctionEnd, Cond.code yX0_correctionEnd cX0_correctionEnd 8 (some .long), Cond.constantLong RX0 38 (20000), Cond.methodLink RX0 224 yX0_changeWithin, Cond.instanceMethod yX0_changeWithin, Cond.selects RX0 yX0_changeWithin yX0_changeWithin, Cond.code yX0_changeWithin cX0_changeWithin 15 (some .long)]
def wsX0_nextSecond : List Cond := .code yX0_nextSecond cX0_nextSecond 13 (some .long) :: ((wsX0_nextSecond_r1 ++ (wsX0_nextSecond_r2 ++ wsX0_nextSecond_r3)) ++ wsX00)
def wsX0_longestSpan_r1 : List Cond := [Cond.methodLink RX0 95 yX0_lastSecond, Cond.instanceMethod yX0_lastSecond, Cond.selects RX0 yX0_lastSecond yX0_lastSecond, Cond.initialized RX0, Cond.code yX0_lastSecond cX0_lastSecond 1 (some .long), Cond.fieldLink RX0 9 "TideDepths" "turnTimes" "[J", Cond.fieldLink RX0 16 "TideDepths" "turns" "I", Cond.constantLong RX0 190 (-1), Cond.methodLink RX0 186 yX0_hasTable, Cond.instanceMethod yX0_hasTable, Cond.selects RX0 yX0_hasTable yX0_hasTable, Cond.code yX0_hasTable cX0_hasTable 1 (some .boolean), Cond.methodLink RX0 91 yX0_nextSecond, Cond.instanceMethod yX0_nextSecond, Cond.selects RX0 yX0_nextSecond yX0_nextSecond, Cond.code yX0_nextSecond cX0_nextSecond 13 (some .long), Cond.methodLink RX0 70 yX0_heightAt, Cond.instanceMethod yX0_heightAt, Cond.selects RX0 yX0_heightAt yX0_heightAt, Cond.code yX0_heightAt cX0_heightAt 3 (some .long), Cond.methodLink RX0 80 yX0_tableHeight, Cond.instanceMethod yX0_tableHeight, Cond.selects RX0 yX0_tableHeight yX0_tableHeight, Cond.code yX0_tableHeight cX0_tableHeight 8 (some .long)]
def wsX0_longestSpan_r2 : List Cond := [Cond.fieldLink RX0 13 "TideDepths" "turnHeights" "[J", Cond.constantLong RX0 202 (32768), Cond.methodLink RX0 195 yX0_lastNotBehind, Cond.static yX0_lastNotBehind, Cond.code yX0_lastNotBehind cX0_lastNotBehind 5 (some .int), Cond.methodLink RX0 199 yX0_cosinePart, Cond.static yX0_cosinePart, Cond.code yX0_cosinePart cX0_cosinePart 9 (some .long), Cond.constantLong RX0 209 (64), Cond.fieldLink RX0 120 "TideDepths" "COSINE" "[I", Cond.methodLink RX0 204 yJ9_floorDiv_f86c9, Cond.static yJ9_floorDiv_f86c9, Cond.initialized RJ9, Cond.code yJ9_floorDiv_f86c9 cJ9_floorDiv_f86c9 6 (some .long), Cond.methodLink RX0 192 yX0_correction, Cond.instanceMethod yX0_correction, Cond.selects RX0 yX0_correction yX0_correction, Cond.code yX0_correction cX0_correction 10 (some .long), Cond.fieldLink RX0 20 "TideDepths" "observedTimes" "[J", Cond.fieldLink RX0 26 "TideDepths" "observations" "I", Cond.fieldLink RX0 23 "TideDepths" "differences" "[J", Cond.constantLong RX0 211 (600), Cond.constantLong RX0 213 (2), Cond.methodLink RX0 221 yX0_stretchEnd]
def wsX0_longestSpan_r3 : List Cond := [Cond.instanceMethod yX0_stretchEnd, Cond.selects RX0 yX0_stretchEnd yX0_stretchEnd, Cond.code yX0_stretchEnd cX0_stretchEnd 6 (some .long), Cond.methodLink RX0 218 Lib.MathLoose.min_long.x, Cond.static Lib.MathLoose.min_long.x, Cond.initialized "java/lang/Math", Cond.code Lib.MathLoose.min_long.x Lib.MathLoose.min_long.code 4 (some .long), Cond.methodLink RX0 215 yX0_correctionEnd, Cond.instanceMethod yX0_correctionEnd, Cond.selects RX0 yX0_correctionEnd yX0_correctionEnd, Cond.code yX0_correctionEnd cX0_correctionEnd 8 (some .long), Cond.constantLong RX0 38 (20000), Cond.methodLink RX0 224 yX0_changeWithin, Cond.instanceMethod yX0_changeWithin, Cond.selects RX0 yX0_changeWithin yX0_changeWithin, Cond.code yX0_changeWithin cX0_changeWithin 15 (some .long)]
def wsX0_longestSpan : List Cond := .code yX0_longestSpan cX0_longestSpan 16 (some .long) :: ((wsX0_longestSpan_r1 ++ (wsX0_longestSpan_r2 ++ wsX0_longestSpan_r3)) ++ wsX00)
def wsX0_span_r1 : List Cond := [Cond.classLink RX0 48 "java/lang/IllegalArgumentException", Cond.initialized "java/lang/IllegalArgumentException", Cond.constantLong RX0 83 (3), Cond.methodLink RX0 65 yX0_isInTable, Cond.instanceMethod yX0_isInTable, Cond.selects RX0 yX0_isInTable yX0_isInTable, Cond.initialized RX0, Cond.code yX0_isInTable cX0_isInTable 3 (some .boolean), Cond.methodLink RX0 186 yX0_hasTable, Cond.instanceMethod yX0_hasTable, Cond.selects RX0 yX0_hasTable yX0_hasTable, Cond.code yX0_hasTable cX0_hasTable 1 (some .boolean), Cond.fieldLink RX0 16 "TideDepths" "turns" "I", Cond.methodLink RX0 163 yX0_firstSecond, Cond.instanceMethod yX0_firstSecond, Cond.selects RX0 yX0_firstSecond yX0_firstSecond, Cond.code yX0_firstSecond cX0_firstSecond 1 (some .long), Cond.fieldLink RX0 9 "TideDepths" "turnTimes" "[J", Cond.constantLong RX0 190 (-1), Cond.methodLink RX0 95 yX0_lastSecond, Cond.instanceMethod yX0_lastSecond, Cond.selects RX0 yX0_lastSecond yX0_lastSecond, Cond.code yX0_lastSecond cX0_lastSecond 1 (some .long), Cond.methodLink RX0 40 yX0_isWithin]
def wsX0_span_r2 : List Cond := [Cond.static yX0_isWithin, Cond.code yX0_isWithin cX0_isWithin 6 (some .boolean), Cond.methodLink RX0 44 yX0_isLevel, Cond.static yX0_isLevel, Cond.code yX0_isLevel cX0_isLevel 2 (some .boolean), Cond.constantLong RX0 166 (-100000), Cond.constantLong RX0 168 (100000), Cond.methodLink RX0 87 yX0_longestSpan, Cond.instanceMethod yX0_longestSpan, Cond.selects RX0 yX0_longestSpan yX0_longestSpan, Cond.code yX0_longestSpan cX0_longestSpan 16 (some .long), Cond.methodLink RX0 91 yX0_nextSecond, Cond.instanceMethod yX0_nextSecond, Cond.selects RX0 yX0_nextSecond yX0_nextSecond, Cond.code yX0_nextSecond cX0_nextSecond 13 (some .long), Cond.methodLink RX0 70 yX0_heightAt, Cond.instanceMethod yX0_heightAt, Cond.selects RX0 yX0_heightAt yX0_heightAt, Cond.code yX0_heightAt cX0_heightAt 3 (some .long), Cond.methodLink RX0 80 yX0_tableHeight, Cond.instanceMethod yX0_tableHeight, Cond.selects RX0 yX0_tableHeight yX0_tableHeight, Cond.code yX0_tableHeight cX0_tableHeight 8 (some .long), Cond.fieldLink RX0 13 "TideDepths" "turnHeights" "[J"]
def wsX0_span_r3 : List Cond := [Cond.constantLong RX0 202 (32768), Cond.methodLink RX0 195 yX0_lastNotBehind, Cond.static yX0_lastNotBehind, Cond.code yX0_lastNotBehind cX0_lastNotBehind 5 (some .int), Cond.methodLink RX0 199 yX0_cosinePart, Cond.static yX0_cosinePart, Cond.code yX0_cosinePart cX0_cosinePart 9 (some .long), Cond.constantLong RX0 209 (64), Cond.fieldLink RX0 120 "TideDepths" "COSINE" "[I", Cond.methodLink RX0 204 yJ9_floorDiv_f86c9, Cond.static yJ9_floorDiv_f86c9, Cond.initialized RJ9, Cond.code yJ9_floorDiv_f86c9 cJ9_floorDiv_f86c9 6 (some .long), Cond.methodLink RX0 192 yX0_correction, Cond.instanceMethod yX0_correction, Cond.selects RX0 yX0_correction yX0_correction, Cond.code yX0_correction cX0_correction 10 (some .long), Cond.fieldLink RX0 20 "TideDepths" "observedTimes" "[J", Cond.fieldLink RX0 26 "TideDepths" "observations" "I", Cond.fieldLink RX0 23 "TideDepths" "differences" "[J", Cond.constantLong RX0 211 (600), Cond.constantLong RX0 213 (2), Cond.methodLink RX0 221 yX0_stretchEnd, Cond.instanceMethod yX0_stretchEnd]
def wsX0_span_r4 : List Cond := [Cond.selects RX0 yX0_stretchEnd yX0_stretchEnd, Cond.code yX0_stretchEnd cX0_stretchEnd 6 (some .long), Cond.methodLink RX0 218 Lib.MathLoose.min_long.x, Cond.static Lib.MathLoose.min_long.x, Cond.initialized "java/lang/Math", Cond.code Lib.MathLoose.min_long.x Lib.MathLoose.min_long.code 4 (some .long), Cond.methodLink RX0 215 yX0_correctionEnd, Cond.instanceMethod yX0_correctionEnd, Cond.selects RX0 yX0_correctionEnd yX0_correctionEnd, Cond.code yX0_correctionEnd cX0_correctionEnd 8 (some .long), Cond.constantLong RX0 38 (20000), Cond.methodLink RX0 224 yX0_changeWithin, Cond.instanceMethod yX0_changeWithin, Cond.selects RX0 yX0_changeWithin yX0_changeWithin, Cond.code yX0_changeWithin cX0_changeWithin 15 (some .long)]
def wsX0_span : List Cond := .code yX0_span cX0_span 14 (some .int) :: ((wsX0_span_r1 ++ (wsX0_span_r2 ++ (wsX0_span_r3 ++ wsX0_span_r4))) ++ wsX00 ++ (vx_atS RX0 52 "java/lang/IllegalArgumentException" ["java/lang/RuntimeException", "java/lang/Exception"]).filter goodWord)
def wsX0_squatThousandths : List Cond := .code yX0_squatThousandths cX0_squatThousandths 5 (some .long) :: ([.constantLong RX0 181 (200), .fieldLink RX0 183 "TideDepths" "SQUAT_ROWS" "[I"])
def wsX0_dividedUp : List Cond := .code yX0_dividedUp cX0_dividedUp 4 (some .long) :: ([])
def wsX0_squatOf : List Cond := .code yX0_squatOf cX0_squatOf 4 (some .long) :: ([.constantLong RX0 179 (1000), .methodLink RX0 176 yX0_squatThousandths, .static yX0_squatThousandths, .initialized RX0, .code yX0_squatThousandths cX0_squatThousandths 5 (some .long), .constantLong RX0 181 (200), .fieldLink RX0 183 "TideDepths" "SQUAT_ROWS" "[I", .methodLink RX0 134 yX0_dividedUp, .static yX0_dividedUp, .code yX0_dividedUp cX0_dividedUp 4 (some .long)])
def wsX0_squat : List Cond := .code yX0_squat cX0_squat 5 (some .long) :: ([.classLink RX0 48 "java/lang/IllegalArgumentException", .initialized "java/lang/IllegalArgumentException", .constantLong RX0 99 (10000), .constantLong RX0 101 (30000), .methodLink RX0 40 yX0_isWithin, .static yX0_isWithin, .initialized RX0, .code yX0_isWithin cX0_isWithin 6 (some .boolean), .methodLink RX0 105 yX0_squatOf, .static yX0_squatOf, .code yX0_squatOf cX0_squatOf 4 (some .long), .constantLong RX0 179 (1000), .methodLink RX0 176 yX0_squatThousandths, .static yX0_squatThousandths, .code yX0_squatThousandths cX0_squatThousandths 5 (some .long), .constantLong RX0 181 (200), .fieldLink RX0 183 "TideDepths" "SQUAT_ROWS" "[I", .methodLink RX0 134 yX0_dividedUp, .static yX0_dividedUp, .code yX0_dividedUp cX0_dividedUp 4 (some .long)] ++ (vx_atS RX0 52 "java/lang/IllegalArgumentException" ["java/lang/RuntimeException", "java/lang/Exception"]).filter goodWord)
def wsX0_secondsFor : List Cond := .code yX0_secondsFor cX0_secondsFor 4 (some .long) :: ([.constantLong RX0 174 (100), .methodLink RX0 134 yX0_dividedUp, .static yX0_dividedUp, .initialized RX0, .code yX0_dividedUp cX0_dividedUp 4 (some .long)])
def wsX0_passing : List Cond := .code yX0_passing cX0_passing 5 (some .long) :: ([.classLink RX0 48 "java/lang/IllegalArgumentException", .initialized "java/lang/IllegalArgumentException", .classLink RX0 112 "java/lang/ArithmeticException", .initialized "java/lang/ArithmeticException", .constantLong RX0 108 (1000000), .constantLong RX0 99 (10000), .methodLink RX0 40 yX0_isWithin, .static yX0_isWithin, .initialized RX0, .code yX0_isWithin cX0_isWithin 6 (some .boolean), .methodLink RX0 117 yX0_secondsFor, .static yX0_secondsFor, .code yX0_secondsFor cX0_secondsFor 4 (some .long), .constantLong RX0 174 (100), .methodLink RX0 134 yX0_dividedUp, .static yX0_dividedUp, .code yX0_dividedUp cX0_dividedUp 4 (some .long)] ++ (vx_atS RX0 52 "java/lang/IllegalArgumentException" ["java/lang/RuntimeException", "java/lang/Exception"]).filter goodWord ++ (vx_atS RX0 116 "java/lang/ArithmeticException" ["java/lang/RuntimeException", "java/lang/Exception"]).filter goodWord)
def wsX0_cosine : List Cond := .code yX0_cosine cX0_cosine 2 (some .int) :: ([.fieldLink RX0 120 "TideDepths" "COSINE" "[I", .classLink RX0 124 RJx00060, .instantiable RJx00060 6, .initialized RJx00060] ++ wsJx000600)
def wsX0_isDensity : List Cond := .code yX0_isDensity cX0_isDensity 2 (some .boolean) :: ([.constantLong RX0 170 (900), .constantLong RX0 172 (1100), .methodLink RX0 40 yX0_isWithin, .static yX0_isWithin, .initialized RX0, .code yX0_isWithin cX0_isWithin 6 (some .boolean)])
def wsX0_draft : List Cond := .code yX0_draft cX0_draft 7 (some .long) :: ([.classLink RX0 48 "java/lang/IllegalArgumentException", .initialized "java/lang/IllegalArgumentException", .constantLong RX0 101 (30000), .methodLink RX0 40 yX0_isWithin, .static yX0_isWithin, .initialized RX0, .code yX0_isWithin cX0_isWithin 6 (some .boolean), .methodLink RX0 129 yX0_isDensity, .static yX0_isDensity, .code yX0_isDensity cX0_isDensity 2 (some .boolean), .constantLong RX0 170 (900), .constantLong RX0 172 (1100), .methodLink RX0 134 yX0_dividedUp, .static yX0_dividedUp, .code yX0_dividedUp cX0_dividedUp 4 (some .long)] ++ (vx_atS RX0 52 "java/lang/IllegalArgumentException" ["java/lang/RuntimeException", "java/lang/Exception"]).filter goodWord)
def wsX0_place : List Cond := .code yX0_place cX0_place 5 (some .int) :: ([.classLink RX0 48 "java/lang/IllegalArgumentException", .initialized "java/lang/IllegalArgumentException", .classLink RX0 57 "java/lang/IllegalStateException", .initialized "java/lang/IllegalStateException", .constantLong RX0 108 (1000000), .fieldLink RX0 35 "TideDepths" "places" "I", .fieldLink RX0 29 "TideDepths" "ways" "[J", .fieldLink RX0 32 "TideDepths" "bases" "[J", .methodLink RX0 40 yX0_isWithin, .static yX0_isWithin, .initialized RX0, .code yX0_isWithin cX0_isWithin 6 (some .boolean), .methodLink RX0 44 yX0_isLevel, .static yX0_isLevel, .code yX0_isLevel cX0_isLevel 2 (some .boolean), .constantLong RX0 166 (-100000), .constantLong RX0 168 (100000)] ++ wsX00 ++ (vx_atS RX0 52 "java/lang/IllegalArgumentException" ["java/lang/RuntimeException", "java/lang/Exception"]).filter goodWord ++ (vx_atS RX0 61 "java/lang/IllegalStateException" ["java/lang/RuntimeException", "java/lang/Exception"]).filter goodWord)
def wsX0_depth_r1 : List Cond := [Cond.classLink RX0 143 "java/lang/IndexOutOfBoundsException", Cond.initialized "java/lang/IndexOutOfBoundsException", Cond.classLink RX0 48 "java/lang/IllegalArgumentException", Cond.initialized "java/lang/IllegalArgumentException", Cond.fieldLink RX0 35 "TideDepths" "places" "I", Cond.fieldLink RX0 32 "TideDepths" "bases" "[J", Cond.methodLink RX0 65 yX0_isInTable, Cond.instanceMethod yX0_isInTable, Cond.selects RX0 yX0_isInTable yX0_isInTable, Cond.initialized RX0, Cond.code yX0_isInTable cX0_isInTable 3 (some .boolean), Cond.methodLink RX0 186 yX0_hasTable, Cond.instanceMethod yX0_hasTable, Cond.selects RX0 yX0_hasTable yX0_hasTable, Cond.code yX0_hasTable cX0_hasTable 1 (some .boolean), Cond.fieldLink RX0 16 "TideDepths" "turns" "I", Cond.methodLink RX0 163 yX0_firstSecond, Cond.instanceMethod yX0_firstSecond, Cond.selects RX0 yX0_firstSecond yX0_firstSecond, Cond.code yX0_firstSecond cX0_firstSecond 1 (some .long), Cond.fieldLink RX0 9 "TideDepths" "turnTimes" "[J", Cond.constantLong RX0 190 (-1), Cond.methodLink RX0 95 yX0_lastSecond, Cond.instanceMethod yX0_lastSecond]
def wsX0_depth_r2 : List Cond := [Cond.selects RX0 yX0_lastSecond yX0_lastSecond, Cond.code yX0_lastSecond cX0_lastSecond 1 (some .long), Cond.methodLink RX0 40 yX0_isWithin, Cond.static yX0_isWithin, Cond.code yX0_isWithin cX0_isWithin 6 (some .boolean), Cond.methodLink RX0 70 yX0_heightAt, Cond.instanceMethod yX0_heightAt, Cond.selects RX0 yX0_heightAt yX0_heightAt, Cond.code yX0_heightAt cX0_heightAt 3 (some .long), Cond.methodLink RX0 80 yX0_tableHeight, Cond.instanceMethod yX0_tableHeight, Cond.selects RX0 yX0_tableHeight yX0_tableHeight, Cond.code yX0_tableHeight cX0_tableHeight 8 (some .long), Cond.fieldLink RX0 13 "TideDepths" "turnHeights" "[J", Cond.constantLong RX0 202 (32768), Cond.methodLink RX0 195 yX0_lastNotBehind, Cond.static yX0_lastNotBehind, Cond.code yX0_lastNotBehind cX0_lastNotBehind 5 (some .int), Cond.methodLink RX0 199 yX0_cosinePart, Cond.static yX0_cosinePart, Cond.code yX0_cosinePart cX0_cosinePart 9 (some .long), Cond.constantLong RX0 209 (64), Cond.fieldLink RX0 120 "TideDepths" "COSINE" "[I", Cond.methodLink RX0 204 yJ9_floorDiv_f86c9]
def wsX0_depth_r3 : List Cond := [Cond.static yJ9_floorDiv_f86c9, Cond.initialized RJ9, Cond.code yJ9_floorDiv_f86c9 cJ9_floorDiv_f86c9 6 (some .long), Cond.methodLink RX0 192 yX0_correction, Cond.instanceMethod yX0_correction, Cond.selects RX0 yX0_correction yX0_correction, Cond.code yX0_correction cX0_correction 10 (some .long), Cond.fieldLink RX0 20 "TideDepths" "observedTimes" "[J", Cond.fieldLink RX0 26 "TideDepths" "observations" "I", Cond.fieldLink RX0 23 "TideDepths" "differences" "[J", Cond.constantLong RX0 211 (600), Cond.constantLong RX0 213 (2)]
def wsX0_depth : List Cond := .code yX0_depth cX0_depth 4 (some .long) :: ((wsX0_depth_r1 ++ (wsX0_depth_r2 ++ wsX0_depth_r3)) ++ wsX00 ++ (vx_atS RX0 147 "java/lang/IndexOutOfBoundsException" ["java/lang/RuntimeException", "java/lang/Exception"]).filter goodWord ++ (vx_atS RX0 52 "java/lang/IllegalArgumentException" ["java/lang/RuntimeException", "java/lang/Exception"]).filter goodWord)
def wsX0_firstSailing_r1 : List Cond := [Cond.fieldLink RX0 35 "TideDepths" "places" "I", Cond.fieldLink RX0 29 "TideDepths" "ways" "[J", Cond.fieldLink RX0 32 "TideDepths" "bases" "[J", Cond.methodLink RX0 95 yX0_lastSecond, Cond.instanceMethod yX0_lastSecond, Cond.selects RX0 yX0_lastSecond yX0_lastSecond, Cond.initialized RX0, Cond.code yX0_lastSecond cX0_lastSecond 1 (some .long), Cond.fieldLink RX0 9 "TideDepths" "turnTimes" "[J", Cond.fieldLink RX0 16 "TideDepths" "turns" "I", Cond.constantLong RX0 190 (-1), Cond.methodLink RX0 186 yX0_hasTable, Cond.instanceMethod yX0_hasTable, Cond.selects RX0 yX0_hasTable yX0_hasTable, Cond.code yX0_hasTable cX0_hasTable 1 (some .boolean), Cond.methodLink RX0 117 yX0_secondsFor, Cond.static yX0_secondsFor, Cond.code yX0_secondsFor cX0_secondsFor 4 (some .long), Cond.constantLong RX0 174 (100), Cond.methodLink RX0 134 yX0_dividedUp, Cond.static yX0_dividedUp, Cond.code yX0_dividedUp cX0_dividedUp 4 (some .long), Cond.methodLink RX0 91 yX0_nextSecond, Cond.instanceMethod yX0_nextSecond]
def wsX0_firstSailing_r2 : List Cond := [Cond.selects RX0 yX0_nextSecond yX0_nextSecond, Cond.code yX0_nextSecond cX0_nextSecond 13 (some .long), Cond.methodLink RX0 70 yX0_heightAt, Cond.instanceMethod yX0_heightAt, Cond.selects RX0 yX0_heightAt yX0_heightAt, Cond.code yX0_heightAt cX0_heightAt 3 (some .long), Cond.methodLink RX0 80 yX0_tableHeight, Cond.instanceMethod yX0_tableHeight, Cond.selects RX0 yX0_tableHeight yX0_tableHeight, Cond.code yX0_tableHeight cX0_tableHeight 8 (some .long), Cond.fieldLink RX0 13 "TideDepths" "turnHeights" "[J", Cond.constantLong RX0 202 (32768), Cond.methodLink RX0 195 yX0_lastNotBehind, Cond.static yX0_lastNotBehind, Cond.code yX0_lastNotBehind cX0_lastNotBehind 5 (some .int), Cond.methodLink RX0 199 yX0_cosinePart, Cond.static yX0_cosinePart, Cond.code yX0_cosinePart cX0_cosinePart 9 (some .long), Cond.constantLong RX0 209 (64), Cond.fieldLink RX0 120 "TideDepths" "COSINE" "[I", Cond.methodLink RX0 204 yJ9_floorDiv_f86c9, Cond.static yJ9_floorDiv_f86c9, Cond.initialized RJ9, Cond.code yJ9_floorDiv_f86c9 cJ9_floorDiv_f86c9 6 (some .long)]
def wsX0_firstSailing_r3 : List Cond := [Cond.methodLink RX0 192 yX0_correction, Cond.instanceMethod yX0_correction, Cond.selects RX0 yX0_correction yX0_correction, Cond.code yX0_correction cX0_correction 10 (some .long), Cond.fieldLink RX0 20 "TideDepths" "observedTimes" "[J", Cond.fieldLink RX0 26 "TideDepths" "observations" "I", Cond.fieldLink RX0 23 "TideDepths" "differences" "[J", Cond.constantLong RX0 211 (600), Cond.constantLong RX0 213 (2), Cond.methodLink RX0 221 yX0_stretchEnd, Cond.instanceMethod yX0_stretchEnd, Cond.selects RX0 yX0_stretchEnd yX0_stretchEnd, Cond.code yX0_stretchEnd cX0_stretchEnd 6 (some .long), Cond.methodLink RX0 218 Lib.MathLoose.min_long.x, Cond.static Lib.MathLoose.min_long.x, Cond.initialized "java/lang/Math", Cond.code Lib.MathLoose.min_long.x Lib.MathLoose.min_long.code 4 (some .long), Cond.methodLink RX0 215 yX0_correctionEnd, Cond.instanceMethod yX0_correctionEnd, Cond.selects RX0 yX0_correctionEnd yX0_correctionEnd, Cond.code yX0_correctionEnd cX0_correctionEnd 8 (some .long), Cond.constantLong RX0 38 (20000), Cond.methodLink RX0 224 yX0_changeWithin, Cond.instanceMethod yX0_changeWithin]
def wsX0_firstSailing_r4 : List Cond := [Cond.selects RX0 yX0_changeWithin yX0_changeWithin, Cond.code yX0_changeWithin cX0_changeWithin 15 (some .long)]
def wsX0_firstSailing : List Cond := .code yX0_firstSailing cX0_firstSailing 19 (some .long) :: ((wsX0_firstSailing_r1 ++ (wsX0_firstSailing_r2 ++ (wsX0_firstSailing_r3 ++ wsX0_firstSailing_r4))) ++ wsX00)
def wsX0_lastSailing_r1 : List Cond := [Cond.fieldLink RX0 35 "TideDepths" "places" "I", Cond.fieldLink RX0 29 "TideDepths" "ways" "[J", Cond.fieldLink RX0 32 "TideDepths" "bases" "[J", Cond.methodLink RX0 218 Lib.MathLoose.min_long.x, Cond.static Lib.MathLoose.min_long.x, Cond.initialized "java/lang/Math", Cond.code Lib.MathLoose.min_long.x Lib.MathLoose.min_long.code 4 (some .long), Cond.methodLink RX0 95 yX0_lastSecond, Cond.instanceMethod yX0_lastSecond, Cond.selects RX0 yX0_lastSecond yX0_lastSecond, Cond.initialized RX0, Cond.code yX0_lastSecond cX0_lastSecond 1 (some .long), Cond.fieldLink RX0 9 "TideDepths" "turnTimes" "[J", Cond.fieldLink RX0 16 "TideDepths" "turns" "I", Cond.constantLong RX0 190 (-1), Cond.methodLink RX0 186 yX0_hasTable, Cond.instanceMethod yX0_hasTable, Cond.selects RX0 yX0_hasTable yX0_hasTable, Cond.code yX0_hasTable cX0_hasTable 1 (some .boolean), Cond.methodLink RX0 117 yX0_secondsFor, Cond.static yX0_secondsFor, Cond.code yX0_secondsFor cX0_secondsFor 4 (some .long), Cond.constantLong RX0 174 (100), Cond.methodLink RX0 134 yX0_dividedUp]
def wsX0_lastSailing_r2 : List Cond := [Cond.static yX0_dividedUp, Cond.code yX0_dividedUp cX0_dividedUp 4 (some .long), Cond.methodLink RX0 91 yX0_nextSecond, Cond.instanceMethod yX0_nextSecond, Cond.selects RX0 yX0_nextSecond yX0_nextSecond, Cond.code yX0_nextSecond cX0_nextSecond 13 (some .long), Cond.methodLink RX0 70 yX0_heightAt, Cond.instanceMethod yX0_heightAt, Cond.selects RX0 yX0_heightAt yX0_heightAt, Cond.code yX0_heightAt cX0_heightAt 3 (some .long), Cond.methodLink RX0 80 yX0_tableHeight, Cond.instanceMethod yX0_tableHeight, Cond.selects RX0 yX0_tableHeight yX0_tableHeight, Cond.code yX0_tableHeight cX0_tableHeight 8 (some .long), Cond.fieldLink RX0 13 "TideDepths" "turnHeights" "[J", Cond.constantLong RX0 202 (32768), Cond.methodLink RX0 195 yX0_lastNotBehind, Cond.static yX0_lastNotBehind, Cond.code yX0_lastNotBehind cX0_lastNotBehind 5 (some .int), Cond.methodLink RX0 199 yX0_cosinePart, Cond.static yX0_cosinePart, Cond.code yX0_cosinePart cX0_cosinePart 9 (some .long), Cond.constantLong RX0 209 (64), Cond.fieldLink RX0 120 "TideDepths" "COSINE" "[I"]
def wsX0_lastSailing_r3 : List Cond := [Cond.methodLink RX0 204 yJ9_floorDiv_f86c9, Cond.static yJ9_floorDiv_f86c9, Cond.initialized RJ9, Cond.code yJ9_floorDiv_f86c9 cJ9_floorDiv_f86c9 6 (some .long), Cond.methodLink RX0 192 yX0_correction, Cond.instanceMethod yX0_correction, Cond.selects RX0 yX0_correction yX0_correction, Cond.code yX0_correction cX0_correction 10 (some .long), Cond.fieldLink RX0 20 "TideDepths" "observedTimes" "[J", Cond.fieldLink RX0 26 "TideDepths" "observations" "I", Cond.fieldLink RX0 23 "TideDepths" "differences" "[J", Cond.constantLong RX0 211 (600), Cond.constantLong RX0 213 (2), Cond.methodLink RX0 221 yX0_stretchEnd, Cond.instanceMethod yX0_stretchEnd, Cond.selects RX0 yX0_stretchEnd yX0_stretchEnd, Cond.code yX0_stretchEnd cX0_stretchEnd 6 (some .long), Cond.methodLink RX0 215 yX0_correctionEnd, Cond.instanceMethod yX0_correctionEnd, Cond.selects RX0 yX0_correctionEnd yX0_correctionEnd, Cond.code yX0_correctionEnd cX0_correctionEnd 8 (some .long), Cond.constantLong RX0 38 (20000), Cond.methodLink RX0 224 yX0_changeWithin, Cond.instanceMethod yX0_changeWithin]
def wsX0_lastSailing_r4 : List Cond := [Cond.selects RX0 yX0_changeWithin yX0_changeWithin, Cond.code yX0_changeWithin cX0_changeWithin 15 (some .long)]
def wsX0_lastSailing : List Cond := .code yX0_lastSailing cX0_lastSailing 14 (some .long) :: ((wsX0_lastSailing_r1 ++ (wsX0_lastSailing_r2 ++ (wsX0_lastSailing_r3 ++ wsX0_lastSailing_r4))) ++ wsX00)
def wsX0_sail_r1 : List Cond := [Cond.classLink RX0 48 "java/lang/IllegalArgumentException", Cond.initialized "java/lang/IllegalArgumentException", Cond.classLink RX0 57 "java/lang/IllegalStateException", Cond.initialized "java/lang/IllegalStateException", Cond.classLink RX0 112 "java/lang/ArithmeticException", Cond.initialized "java/lang/ArithmeticException", Cond.constantLong RX0 99 (10000), Cond.fieldLink RX0 35 "TideDepths" "places" "I", Cond.methodLink RX0 65 yX0_isInTable, Cond.instanceMethod yX0_isInTable, Cond.selects RX0 yX0_isInTable yX0_isInTable, Cond.initialized RX0, Cond.code yX0_isInTable cX0_isInTable 3 (some .boolean), Cond.methodLink RX0 186 yX0_hasTable, Cond.instanceMethod yX0_hasTable, Cond.selects RX0 yX0_hasTable yX0_hasTable, Cond.code yX0_hasTable cX0_hasTable 1 (some .boolean), Cond.fieldLink RX0 16 "TideDepths" "turns" "I", Cond.methodLink RX0 163 yX0_firstSecond, Cond.instanceMethod yX0_firstSecond, Cond.selects RX0 yX0_firstSecond yX0_firstSecond, Cond.code yX0_firstSecond cX0_firstSecond 1 (some .long), Cond.fieldLink RX0 9 "TideDepths" "turnTimes" "[J", Cond.constantLong RX0 190 (-1)]
def wsX0_sail_r2 : List Cond := [Cond.methodLink RX0 95 yX0_lastSecond, Cond.instanceMethod yX0_lastSecond, Cond.selects RX0 yX0_lastSecond yX0_lastSecond, Cond.code yX0_lastSecond cX0_lastSecond 1 (some .long), Cond.methodLink RX0 40 yX0_isWithin, Cond.static yX0_isWithin, Cond.code yX0_isWithin cX0_isWithin 6 (some .boolean), Cond.methodLink RX0 44 yX0_isLevel, Cond.static yX0_isLevel, Cond.code yX0_isLevel cX0_isLevel 2 (some .boolean), Cond.constantLong RX0 166 (-100000), Cond.constantLong RX0 168 (100000), Cond.methodLink RX0 105 yX0_squatOf, Cond.static yX0_squatOf, Cond.code yX0_squatOf cX0_squatOf 4 (some .long), Cond.constantLong RX0 179 (1000), Cond.methodLink RX0 176 yX0_squatThousandths, Cond.static yX0_squatThousandths, Cond.code yX0_squatThousandths cX0_squatThousandths 5 (some .long), Cond.constantLong RX0 181 (200), Cond.fieldLink RX0 183 "TideDepths" "SQUAT_ROWS" "[I", Cond.methodLink RX0 134 yX0_dividedUp, Cond.static yX0_dividedUp, Cond.code yX0_dividedUp cX0_dividedUp 4 (some .long)]
def wsX0_sail_r3 : List Cond := [Cond.methodLink RX0 154 yX0_firstSailing, Cond.instanceMethod yX0_firstSailing, Cond.selects RX0 yX0_firstSailing yX0_firstSailing, Cond.code yX0_firstSailing cX0_firstSailing 19 (some .long), Cond.fieldLink RX0 29 "TideDepths" "ways" "[J", Cond.fieldLink RX0 32 "TideDepths" "bases" "[J", Cond.methodLink RX0 117 yX0_secondsFor, Cond.static yX0_secondsFor, Cond.code yX0_secondsFor cX0_secondsFor 4 (some .long), Cond.constantLong RX0 174 (100), Cond.methodLink RX0 91 yX0_nextSecond, Cond.instanceMethod yX0_nextSecond, Cond.selects RX0 yX0_nextSecond yX0_nextSecond, Cond.code yX0_nextSecond cX0_nextSecond 13 (some .long), Cond.methodLink RX0 70 yX0_heightAt, Cond.instanceMethod yX0_heightAt, Cond.selects RX0 yX0_heightAt yX0_heightAt, Cond.code yX0_heightAt cX0_heightAt 3 (some .long), Cond.methodLink RX0 80 yX0_tableHeight, Cond.instanceMethod yX0_tableHeight, Cond.selects RX0 yX0_tableHeight yX0_tableHeight, Cond.code yX0_tableHeight cX0_tableHeight 8 (some .long), Cond.fieldLink RX0 13 "TideDepths" "turnHeights" "[J", Cond.constantLong RX0 202 (32768)]
def wsX0_sail_r4 : List Cond := [Cond.methodLink RX0 195 yX0_lastNotBehind, Cond.static yX0_lastNotBehind, Cond.code yX0_lastNotBehind cX0_lastNotBehind 5 (some .int), Cond.methodLink RX0 199 yX0_cosinePart, Cond.static yX0_cosinePart, Cond.code yX0_cosinePart cX0_cosinePart 9 (some .long), Cond.constantLong RX0 209 (64), Cond.fieldLink RX0 120 "TideDepths" "COSINE" "[I", Cond.methodLink RX0 204 yJ9_floorDiv_f86c9, Cond.static yJ9_floorDiv_f86c9, Cond.initialized RJ9, Cond.code yJ9_floorDiv_f86c9 cJ9_floorDiv_f86c9 6 (some .long), Cond.methodLink RX0 192 yX0_correction, Cond.instanceMethod yX0_correction, Cond.selects RX0 yX0_correction yX0_correction, Cond.code yX0_correction cX0_correction 10 (some .long), Cond.fieldLink RX0 20 "TideDepths" "observedTimes" "[J", Cond.fieldLink RX0 26 "TideDepths" "observations" "I", Cond.fieldLink RX0 23 "TideDepths" "differences" "[J", Cond.constantLong RX0 211 (600), Cond.constantLong RX0 213 (2), Cond.methodLink RX0 221 yX0_stretchEnd, Cond.instanceMethod yX0_stretchEnd, Cond.selects RX0 yX0_stretchEnd yX0_stretchEnd]
def wsX0_sail_r5 : List Cond := [Cond.code yX0_stretchEnd cX0_stretchEnd 6 (some .long), Cond.methodLink RX0 218 Lib.MathLoose.min_long.x, Cond.static Lib.MathLoose.min_long.x, Cond.initialized "java/lang/Math", Cond.code Lib.MathLoose.min_long.x Lib.MathLoose.min_long.code 4 (some .long), Cond.methodLink RX0 215 yX0_correctionEnd, Cond.instanceMethod yX0_correctionEnd, Cond.selects RX0 yX0_correctionEnd yX0_correctionEnd, Cond.code yX0_correctionEnd cX0_correctionEnd 8 (some .long), Cond.constantLong RX0 38 (20000), Cond.methodLink RX0 224 yX0_changeWithin, Cond.instanceMethod yX0_changeWithin, Cond.selects RX0 yX0_changeWithin yX0_changeWithin, Cond.code yX0_changeWithin cX0_changeWithin 15 (some .long), Cond.methodLink RX0 158 yX0_lastSailing, Cond.instanceMethod yX0_lastSailing, Cond.selects RX0 yX0_lastSailing yX0_lastSailing, Cond.code yX0_lastSailing cX0_lastSailing 14 (some .long)]
def wsX0_sail : List Cond := .code yX0_sail cX0_sail 12 (some .int) :: ((wsX0_sail_r1 ++ (wsX0_sail_r2 ++ (wsX0_sail_r3 ++ (wsX0_sail_r4 ++ wsX0_sail_r5)))) ++ wsX00 ++ (vx_atS RX0 52 "java/lang/IllegalArgumentException" ["java/lang/RuntimeException", "java/lang/Exception"]).filter goodWord ++ (vx_atS RX0 61 "java/lang/IllegalStateException" ["java/lang/RuntimeException", "java/lang/Exception"]).filter goodWord ++ (vx_atS RX0 116 "java/lang/ArithmeticException" ["java/lang/RuntimeException", "java/lang/Exception"]).filter goodWord)
def wsX0_read : List Cond := .code yX0_read cX0_read 6 (some .long) :: ([.classLink RX0 143 "java/lang/IndexOutOfBoundsException", .initialized "java/lang/IndexOutOfBoundsException", .fieldLink RX0 16 "TideDepths" "turns" "I", .fieldLink RX0 9 "TideDepths" "turnTimes" "[J", .fieldLink RX0 13 "TideDepths" "turnHeights" "[J", .fieldLink RX0 26 "TideDepths" "observations" "I", .fieldLink RX0 20 "TideDepths" "observedTimes" "[J", .fieldLink RX0 23 "TideDepths" "differences" "[J"] ++ wsX00 ++ (vx_atS RX0 147 "java/lang/IndexOutOfBoundsException" ["java/lang/RuntimeException", "java/lang/Exception"]).filter goodWord)
def wsX0_count : List Cond := .code yX0_count cX0_count 2 (some .int) :: ([.fieldLink RX0 16 "TideDepths" "turns" "I", .fieldLink RX0 26 "TideDepths" "observations" "I", .fieldLink RX0 35 "TideDepths" "places" "I", .methodLink RX0 163 yX0_firstSecond, .instanceMethod yX0_firstSecond, .selects RX0 yX0_firstSecond yX0_firstSecond, .initialized RX0, .code yX0_firstSecond cX0_firstSecond 1 (some .long), .fieldLink RX0 9 "TideDepths" "turnTimes" "[J", .constantLong RX0 190 (-1), .methodLink RX0 186 yX0_hasTable, .instanceMethod yX0_hasTable, .selects RX0 yX0_hasTable yX0_hasTable, .code yX0_hasTable cX0_hasTable 1 (some .boolean), .methodLink RX0 95 yX0_lastSecond, .instanceMethod yX0_lastSecond, .selects RX0 yX0_lastSecond yX0_lastSecond, .code yX0_lastSecond cX0_lastSecond 1 (some .long)] ++ wsX00)
def wsX1_init : List Cond := .code yX1_init cX1_init 1 none :: ([.methodLink RX1 1 objectInit, .instanceMethod objectInit, .code objectInit ⟨#[0xb1]⟩ 1 none, .arrayClass .int, .fieldLink RX1 7 "TideDepthsModel" "turnTime" "[I", .fieldLink RX1 13 "TideDepthsModel" "turnHeight" "[I", .fieldLink RX1 16 "TideDepthsModel" "seenTime" "[I", .arrayClass .long, .fieldLink RX1 19 "TideDepthsModel" "difference" "[J", .fieldLink RX1 23 "TideDepthsModel" "wayTo" "[J", .fieldLink RX1 26 "TideDepthsModel" "baseOf" "[J", .constant RX1 29 (32768), .fieldLink RX1 30 "TideDepthsModel" "cosines" "[I", .fieldLink RX1 33 "TideDepthsModel" "squats" "[I"] ++ wsX10)
def wsX1_thrown : List Cond := .code yX1_thrown cX1_thrown 1 (some .int) :: ([.fieldLink RX1 36 "TideDepthsModel" "thrown" "I"] ++ wsX10)
def wsX1_in : List Cond := .code yX1_in cX1_in 6 (some .boolean) :: ([])
def wsX1_floor : List Cond := .code yX1_floor cX1_floor 6 (some .long) :: ([])
def wsX1_up : List Cond := .code yX1_up cX1_up 4 (some .long) :: ([])
def wsX1_isInTable : List Cond := .code yX1_isInTable cX1_isInTable 3 (some .boolean) :: ([.fieldLink RX1 40 "TideDepthsModel" "turns" "I", .fieldLink RX1 7 "TideDepthsModel" "turnTime" "[I", .methodLink RX1 43 yX1_in, .static yX1_in, .initialized RX1, .code yX1_in cX1_in 6 (some .boolean)] ++ wsX10)
def wsX1_isHeight : List Cond := .code yX1_isHeight cX1_isHeight 2 (some .boolean) :: ([.constantLong RX1 47 (-100000), .constantLong RX1 49 (100000), .methodLink RX1 43 yX1_in, .static yX1_in, .initialized RX1, .code yX1_in cX1_in 6 (some .boolean)])
def wsX1_tableHeight : List Cond := .code yX1_tableHeight cX1_tableHeight 10 (some .long) :: ([.fieldLink RX1 7 "TideDepthsModel" "turnTime" "[I", .fieldLink RX1 13 "TideDepthsModel" "turnHeight" "[I", .constantLong RX1 51 (64), .fieldLink RX1 30 "TideDepthsModel" "cosines" "[I", .constantLong RX1 53 (32768), .methodLink RX1 55 yX1_floor, .static yX1_floor, .initialized RX1, .code yX1_floor cX1_floor 6 (some .long)] ++ wsX10)
def wsX1_heightAt : List Cond := .code yX1_heightAt cX1_heightAt 6 (some .long) :: ([.fieldLink RX1 59 "TideDepthsModel" "observations" "I", .fieldLink RX1 16 "TideDepthsModel" "seenTime" "[I", .fieldLink RX1 19 "TideDepthsModel" "difference" "[J", .constantLong RX1 62 (2), .methodLink RX1 64 yX1_tableHeight, .instanceMethod yX1_tableHeight, .selects RX1 yX1_tableHeight yX1_tableHeight, .initialized RX1, .code yX1_tableHeight cX1_tableHeight 10 (some .long), .fieldLink RX1 7 "TideDepthsModel" "turnTime" "[I", .fieldLink RX1 13 "TideDepthsModel" "turnHeight" "[I", .constantLong RX1 51 (64), .fieldLink RX1 30 "TideDepthsModel" "cosines" "[I", .constantLong RX1 53 (32768), .methodLink RX1 55 yX1_floor, .static yX1_floor, .code yX1_floor cX1_floor 6 (some .long)] ++ wsX10)
def wsX1_turn : List Cond := .code yX1_turn cX1_turn 9 (some .int) :: ([.constantLong RX1 68 (20000), .fieldLink RX1 40 "TideDepthsModel" "turns" "I", .fieldLink RX1 7 "TideDepthsModel" "turnTime" "[I", .fieldLink RX1 36 "TideDepthsModel" "thrown" "I", .fieldLink RX1 13 "TideDepthsModel" "turnHeight" "[I", .methodLink RX1 43 yX1_in, .static yX1_in, .initialized RX1, .code yX1_in cX1_in 6 (some .boolean), .methodLink RX1 70 yX1_isHeight, .static yX1_isHeight, .code yX1_isHeight cX1_isHeight 2 (some .boolean), .constantLong RX1 47 (-100000), .constantLong RX1 49 (100000)] ++ wsX10)
def wsX1_height_r1 : List Cond := [Cond.fieldLink RX1 36 "TideDepthsModel" "thrown" "I", Cond.methodLink RX1 74 yX1_isInTable, Cond.instanceMethod yX1_isInTable, Cond.selects RX1 yX1_isInTable yX1_isInTable, Cond.initialized RX1, Cond.code yX1_isInTable cX1_isInTable 3 (some .boolean), Cond.fieldLink RX1 40 "TideDepthsModel" "turns" "I", Cond.fieldLink RX1 7 "TideDepthsModel" "turnTime" "[I", Cond.methodLink RX1 43 yX1_in, Cond.static yX1_in, Cond.code yX1_in cX1_in 6 (some .boolean), Cond.methodLink RX1 77 yX1_heightAt, Cond.instanceMethod yX1_heightAt, Cond.selects RX1 yX1_heightAt yX1_heightAt, Cond.code yX1_heightAt cX1_heightAt 6 (some .long), Cond.fieldLink RX1 59 "TideDepthsModel" "observations" "I", Cond.fieldLink RX1 16 "TideDepthsModel" "seenTime" "[I", Cond.fieldLink RX1 19 "TideDepthsModel" "difference" "[J", Cond.constantLong RX1 62 (2), Cond.methodLink RX1 64 yX1_tableHeight, Cond.instanceMethod yX1_tableHeight, Cond.selects RX1 yX1_tableHeight yX1_tableHeight, Cond.code yX1_tableHeight cX1_tableHeight 10 (some .long), Cond.fieldLink RX1 13 "TideDepthsModel" "turnHeight" "[I"]
def wsX1_height_r2 : List Cond := [Cond.constantLong RX1 51 (64), Cond.fieldLink RX1 30 "TideDepthsModel" "cosines" "[I", Cond.constantLong RX1 53 (32768), Cond.methodLink RX1 55 yX1_floor, Cond.static yX1_floor, Cond.code yX1_floor cX1_floor 6 (some .long)]
def wsX1_height : List Cond := .code yX1_height cX1_height 3 (some .long) :: ((wsX1_height_r1 ++ wsX1_height_r2) ++ wsX10)
def wsX1_observe_r1 : List Cond := [Cond.fieldLink RX1 59 "TideDepthsModel" "observations" "I", Cond.fieldLink RX1 16 "TideDepthsModel" "seenTime" "[I", Cond.fieldLink RX1 36 "TideDepthsModel" "thrown" "I", Cond.fieldLink RX1 19 "TideDepthsModel" "difference" "[J", Cond.methodLink RX1 74 yX1_isInTable, Cond.instanceMethod yX1_isInTable, Cond.selects RX1 yX1_isInTable yX1_isInTable, Cond.initialized RX1, Cond.code yX1_isInTable cX1_isInTable 3 (some .boolean), Cond.fieldLink RX1 40 "TideDepthsModel" "turns" "I", Cond.fieldLink RX1 7 "TideDepthsModel" "turnTime" "[I", Cond.methodLink RX1 43 yX1_in, Cond.static yX1_in, Cond.code yX1_in cX1_in 6 (some .boolean), Cond.methodLink RX1 70 yX1_isHeight, Cond.static yX1_isHeight, Cond.code yX1_isHeight cX1_isHeight 2 (some .boolean), Cond.constantLong RX1 47 (-100000), Cond.constantLong RX1 49 (100000), Cond.methodLink RX1 64 yX1_tableHeight, Cond.instanceMethod yX1_tableHeight, Cond.selects RX1 yX1_tableHeight yX1_tableHeight, Cond.code yX1_tableHeight cX1_tableHeight 10 (some .long), Cond.fieldLink RX1 13 "TideDepthsModel" "turnHeight" "[I"]
def wsX1_observe_r2 : List Cond := [Cond.constantLong RX1 51 (64), Cond.fieldLink RX1 30 "TideDepthsModel" "cosines" "[I", Cond.constantLong RX1 53 (32768), Cond.methodLink RX1 55 yX1_floor, Cond.static yX1_floor, Cond.code yX1_floor cX1_floor 6 (some .long)]
def wsX1_observe : List Cond := .code yX1_observe cX1_observe 6 (some .int) :: ((wsX1_observe_r1 ++ wsX1_observe_r2) ++ wsX10)
def wsX1_span_r1 : List Cond := [Cond.fieldLink RX1 36 "TideDepthsModel" "thrown" "I", Cond.fieldLink RX1 7 "TideDepthsModel" "turnTime" "[I", Cond.fieldLink RX1 40 "TideDepthsModel" "turns" "I", Cond.methodLink RX1 74 yX1_isInTable, Cond.instanceMethod yX1_isInTable, Cond.selects RX1 yX1_isInTable yX1_isInTable, Cond.initialized RX1, Cond.code yX1_isInTable cX1_isInTable 3 (some .boolean), Cond.methodLink RX1 43 yX1_in, Cond.static yX1_in, Cond.code yX1_in cX1_in 6 (some .boolean), Cond.methodLink RX1 70 yX1_isHeight, Cond.static yX1_isHeight, Cond.code yX1_isHeight cX1_isHeight 2 (some .boolean), Cond.constantLong RX1 47 (-100000), Cond.constantLong RX1 49 (100000), Cond.methodLink RX1 77 yX1_heightAt, Cond.instanceMethod yX1_heightAt, Cond.selects RX1 yX1_heightAt yX1_heightAt, Cond.code yX1_heightAt cX1_heightAt 6 (some .long), Cond.fieldLink RX1 59 "TideDepthsModel" "observations" "I", Cond.fieldLink RX1 16 "TideDepthsModel" "seenTime" "[I", Cond.fieldLink RX1 19 "TideDepthsModel" "difference" "[J", Cond.constantLong RX1 62 (2)]
def wsX1_span_r2 : List Cond := [Cond.methodLink RX1 64 yX1_tableHeight, Cond.instanceMethod yX1_tableHeight, Cond.selects RX1 yX1_tableHeight yX1_tableHeight, Cond.code yX1_tableHeight cX1_tableHeight 10 (some .long), Cond.fieldLink RX1 13 "TideDepthsModel" "turnHeight" "[I", Cond.constantLong RX1 51 (64), Cond.fieldLink RX1 30 "TideDepthsModel" "cosines" "[I", Cond.constantLong RX1 53 (32768), Cond.methodLink RX1 55 yX1_floor, Cond.static yX1_floor, Cond.code yX1_floor cX1_floor 6 (some .long)]
def wsX1_span : List Cond := .code yX1_span cX1_span 15 (some .int) :: ((wsX1_span_r1 ++ wsX1_span_r2) ++ wsX10)
def wsX1_squatOf : List Cond := .code yX1_squatOf cX1_squatOf 8 (some .long) :: ([.constantLong RX1 80 (200), .constantLong RX1 82 (100), .fieldLink RX1 33 "TideDepthsModel" "squats" "[I", .constantLong RX1 84 (1000), .methodLink RX1 86 yX1_up, .static yX1_up, .initialized RX1, .code yX1_up cX1_up 4 (some .long)] ++ wsX10)
def wsX1_squat : List Cond := .code yX1_squat cX1_squat 5 (some .long) :: ([.constantLong RX1 89 (10000), .constantLong RX1 91 (30000), .fieldLink RX1 36 "TideDepthsModel" "thrown" "I", .methodLink RX1 43 yX1_in, .static yX1_in, .initialized RX1, .code yX1_in cX1_in 6 (some .boolean), .methodLink RX1 93 yX1_squatOf, .instanceMethod yX1_squatOf, .selects RX1 yX1_squatOf yX1_squatOf, .code yX1_squatOf cX1_squatOf 8 (some .long), .constantLong RX1 80 (200), .constantLong RX1 82 (100), .fieldLink RX1 33 "TideDepthsModel" "squats" "[I", .constantLong RX1 84 (1000), .methodLink RX1 86 yX1_up, .static yX1_up, .code yX1_up cX1_up 4 (some .long)] ++ wsX10)
def wsX1_passing : List Cond := .code yX1_passing cX1_passing 5 (some .long) :: ([.constantLong RX1 96 (1000000), .constantLong RX1 89 (10000), .fieldLink RX1 36 "TideDepthsModel" "thrown" "I", .constantLong RX1 82 (100), .methodLink RX1 43 yX1_in, .static yX1_in, .initialized RX1, .code yX1_in cX1_in 6 (some .boolean), .methodLink RX1 86 yX1_up, .static yX1_up, .code yX1_up cX1_up 4 (some .long)] ++ wsX10)
def wsX1_cosine : List Cond := .code yX1_cosine cX1_cosine 2 (some .int) :: ([.fieldLink RX1 36 "TideDepthsModel" "thrown" "I", .fieldLink RX1 30 "TideDepthsModel" "cosines" "[I"] ++ wsX10)
def wsX1_draft : List Cond := .code yX1_draft cX1_draft 7 (some .long) :: ([.constantLong RX1 91 (30000), .constantLong RX1 98 (900), .constantLong RX1 100 (1100), .fieldLink RX1 36 "TideDepthsModel" "thrown" "I", .methodLink RX1 43 yX1_in, .static yX1_in, .initialized RX1, .code yX1_in cX1_in 6 (some .boolean), .methodLink RX1 86 yX1_up, .static yX1_up, .code yX1_up cX1_up 4 (some .long)] ++ wsX10)
def wsX1_place : List Cond := .code yX1_place cX1_place 6 (some .int) :: ([.constantLong RX1 96 (1000000), .fieldLink RX1 102 "TideDepthsModel" "places" "I", .fieldLink RX1 23 "TideDepthsModel" "wayTo" "[J", .fieldLink RX1 36 "TideDepthsModel" "thrown" "I", .fieldLink RX1 26 "TideDepthsModel" "baseOf" "[J", .methodLink RX1 43 yX1_in, .static yX1_in, .initialized RX1, .code yX1_in cX1_in 6 (some .boolean), .methodLink RX1 70 yX1_isHeight, .static yX1_isHeight, .code yX1_isHeight cX1_isHeight 2 (some .boolean), .constantLong RX1 47 (-100000), .constantLong RX1 49 (100000)] ++ wsX10)
def wsX1_depth_r1 : List Cond := [Cond.fieldLink RX1 102 "TideDepthsModel" "places" "I", Cond.fieldLink RX1 36 "TideDepthsModel" "thrown" "I", Cond.fieldLink RX1 26 "TideDepthsModel" "baseOf" "[J", Cond.methodLink RX1 74 yX1_isInTable, Cond.instanceMethod yX1_isInTable, Cond.selects RX1 yX1_isInTable yX1_isInTable, Cond.initialized RX1, Cond.code yX1_isInTable cX1_isInTable 3 (some .boolean), Cond.fieldLink RX1 40 "TideDepthsModel" "turns" "I", Cond.fieldLink RX1 7 "TideDepthsModel" "turnTime" "[I", Cond.methodLink RX1 43 yX1_in, Cond.static yX1_in, Cond.code yX1_in cX1_in 6 (some .boolean), Cond.methodLink RX1 77 yX1_heightAt, Cond.instanceMethod yX1_heightAt, Cond.selects RX1 yX1_heightAt yX1_heightAt, Cond.code yX1_heightAt cX1_heightAt 6 (some .long), Cond.fieldLink RX1 59 "TideDepthsModel" "observations" "I", Cond.fieldLink RX1 16 "TideDepthsModel" "seenTime" "[I", Cond.fieldLink RX1 19 "TideDepthsModel" "difference" "[J", Cond.constantLong RX1 62 (2), Cond.methodLink RX1 64 yX1_tableHeight, Cond.instanceMethod yX1_tableHeight, Cond.selects RX1 yX1_tableHeight yX1_tableHeight]
def wsX1_depth_r2 : List Cond := [Cond.code yX1_tableHeight cX1_tableHeight 10 (some .long), Cond.fieldLink RX1 13 "TideDepthsModel" "turnHeight" "[I", Cond.constantLong RX1 51 (64), Cond.fieldLink RX1 30 "TideDepthsModel" "cosines" "[I", Cond.constantLong RX1 53 (32768), Cond.methodLink RX1 55 yX1_floor, Cond.static yX1_floor, Cond.code yX1_floor cX1_floor 6 (some .long)]
def wsX1_depth : List Cond := .code yX1_depth cX1_depth 5 (some .long) :: ((wsX1_depth_r1 ++ wsX1_depth_r2) ++ wsX10)
def wsX1_maySail_r1 : List Cond := [Cond.fieldLink RX1 102 "TideDepthsModel" "places" "I", Cond.constantLong RX1 82 (100), Cond.fieldLink RX1 23 "TideDepthsModel" "wayTo" "[J", Cond.fieldLink RX1 26 "TideDepthsModel" "baseOf" "[J", Cond.methodLink RX1 93 yX1_squatOf, Cond.instanceMethod yX1_squatOf, Cond.selects RX1 yX1_squatOf yX1_squatOf, Cond.initialized RX1, Cond.code yX1_squatOf cX1_squatOf 8 (some .long), Cond.constantLong RX1 80 (200), Cond.fieldLink RX1 33 "TideDepthsModel" "squats" "[I", Cond.constantLong RX1 84 (1000), Cond.methodLink RX1 86 yX1_up, Cond.static yX1_up, Cond.code yX1_up cX1_up 4 (some .long), Cond.methodLink RX1 74 yX1_isInTable, Cond.instanceMethod yX1_isInTable, Cond.selects RX1 yX1_isInTable yX1_isInTable, Cond.code yX1_isInTable cX1_isInTable 3 (some .boolean), Cond.fieldLink RX1 40 "TideDepthsModel" "turns" "I", Cond.fieldLink RX1 7 "TideDepthsModel" "turnTime" "[I", Cond.methodLink RX1 43 yX1_in, Cond.static yX1_in, Cond.code yX1_in cX1_in 6 (some .boolean)]
def wsX1_maySail_r2 : List Cond := [Cond.methodLink RX1 77 yX1_heightAt, Cond.instanceMethod yX1_heightAt, Cond.selects RX1 yX1_heightAt yX1_heightAt, Cond.code yX1_heightAt cX1_heightAt 6 (some .long), Cond.fieldLink RX1 59 "TideDepthsModel" "observations" "I", Cond.fieldLink RX1 16 "TideDepthsModel" "seenTime" "[I", Cond.fieldLink RX1 19 "TideDepthsModel" "difference" "[J", Cond.constantLong RX1 62 (2), Cond.methodLink RX1 64 yX1_tableHeight, Cond.instanceMethod yX1_tableHeight, Cond.selects RX1 yX1_tableHeight yX1_tableHeight, Cond.code yX1_tableHeight cX1_tableHeight 10 (some .long), Cond.fieldLink RX1 13 "TideDepthsModel" "turnHeight" "[I", Cond.constantLong RX1 51 (64), Cond.fieldLink RX1 30 "TideDepthsModel" "cosines" "[I", Cond.constantLong RX1 53 (32768), Cond.methodLink RX1 55 yX1_floor, Cond.static yX1_floor, Cond.code yX1_floor cX1_floor 6 (some .long)]
def wsX1_maySail : List Cond := .code yX1_maySail cX1_maySail 12 (some .boolean) :: ((wsX1_maySail_r1 ++ wsX1_maySail_r2) ++ wsX10)
def wsX1_sail_r1 : List Cond := [Cond.constantLong RX1 89 (10000), Cond.fieldLink RX1 102 "TideDepthsModel" "places" "I", Cond.fieldLink RX1 36 "TideDepthsModel" "thrown" "I", Cond.fieldLink RX1 7 "TideDepthsModel" "turnTime" "[I", Cond.fieldLink RX1 40 "TideDepthsModel" "turns" "I", Cond.methodLink RX1 74 yX1_isInTable, Cond.instanceMethod yX1_isInTable, Cond.selects RX1 yX1_isInTable yX1_isInTable, Cond.initialized RX1, Cond.code yX1_isInTable cX1_isInTable 3 (some .boolean), Cond.methodLink RX1 43 yX1_in, Cond.static yX1_in, Cond.code yX1_in cX1_in 6 (some .boolean), Cond.methodLink RX1 70 yX1_isHeight, Cond.static yX1_isHeight, Cond.code yX1_isHeight cX1_isHeight 2 (some .boolean), Cond.constantLong RX1 47 (-100000), Cond.constantLong RX1 49 (100000), Cond.methodLink RX1 105 yX1_maySail, Cond.instanceMethod yX1_maySail, Cond.selects RX1 yX1_maySail yX1_maySail, Cond.code yX1_maySail cX1_maySail 12 (some .boolean), Cond.constantLong RX1 82 (100), Cond.fieldLink RX1 23 "TideDepthsModel" "wayTo" "[J"]
def wsX1_sail_r2 : List Cond := [Cond.fieldLink RX1 26 "TideDepthsModel" "baseOf" "[J", Cond.methodLink RX1 93 yX1_squatOf, Cond.instanceMethod yX1_squatOf, Cond.selects RX1 yX1_squatOf yX1_squatOf, Cond.code yX1_squatOf cX1_squatOf 8 (some .long), Cond.constantLong RX1 80 (200), Cond.fieldLink RX1 33 "TideDepthsModel" "squats" "[I", Cond.constantLong RX1 84 (1000), Cond.methodLink RX1 86 yX1_up, Cond.static yX1_up, Cond.code yX1_up cX1_up 4 (some .long), Cond.methodLink RX1 77 yX1_heightAt, Cond.instanceMethod yX1_heightAt, Cond.selects RX1 yX1_heightAt yX1_heightAt, Cond.code yX1_heightAt cX1_heightAt 6 (some .long), Cond.fieldLink RX1 59 "TideDepthsModel" "observations" "I", Cond.fieldLink RX1 16 "TideDepthsModel" "seenTime" "[I", Cond.fieldLink RX1 19 "TideDepthsModel" "difference" "[J", Cond.constantLong RX1 62 (2), Cond.methodLink RX1 64 yX1_tableHeight, Cond.instanceMethod yX1_tableHeight, Cond.selects RX1 yX1_tableHeight yX1_tableHeight, Cond.code yX1_tableHeight cX1_tableHeight 10 (some .long), Cond.fieldLink RX1 13 "TideDepthsModel" "turnHeight" "[I"]
def wsX1_sail_r3 : List Cond := [Cond.constantLong RX1 51 (64), Cond.fieldLink RX1 30 "TideDepthsModel" "cosines" "[I", Cond.constantLong RX1 53 (32768), Cond.methodLink RX1 55 yX1_floor, Cond.static yX1_floor, Cond.code yX1_floor cX1_floor 6 (some .long)]
def wsX1_sail : List Cond := .code yX1_sail cX1_sail 11 (some .int) :: ((wsX1_sail_r1 ++ (wsX1_sail_r2 ++ wsX1_sail_r3)) ++ wsX10)
def wsX1_read : List Cond := .code yX1_read cX1_read 5 (some .long) :: ([.fieldLink RX1 40 "TideDepthsModel" "turns" "I", .fieldLink RX1 59 "TideDepthsModel" "observations" "I", .fieldLink RX1 36 "TideDepthsModel" "thrown" "I", .fieldLink RX1 7 "TideDepthsModel" "turnTime" "[I", .fieldLink RX1 13 "TideDepthsModel" "turnHeight" "[I", .fieldLink RX1 16 "TideDepthsModel" "seenTime" "[I", .fieldLink RX1 19 "TideDepthsModel" "difference" "[J"] ++ wsX10)
def wsX1_count : List Cond := .code yX1_count cX1_count 2 (some .int) :: ([.fieldLink RX1 36 "TideDepthsModel" "thrown" "I", .fieldLink RX1 40 "TideDepthsModel" "turns" "I", .fieldLink RX1 59 "TideDepthsModel" "observations" "I", .fieldLink RX1 102 "TideDepthsModel" "places" "I", .fieldLink RX1 7 "TideDepthsModel" "turnTime" "[I"] ++ wsX10)
def wsJx00060_init_a7421 : List Cond := .code yJx00060_init_a7421 cJx00060_init_a7421 2 none :: ([])
def wsJ9_min_f86c9 : List Cond := .code yJ9_min_f86c9 cJ9_min_f86c9 4 (some .long) :: ([])
def wsL_turn_r1 : List Cond := [Cond.classLink RL 13 "java/lang/IllegalArgumentException", Cond.classLink RL 15 "java/lang/IllegalStateException", Cond.methodLink RL 7 yX0_turn, Cond.instanceMethod yX0_turn, Cond.selects RX0 yX0_turn yX0_turn, Cond.initialized RX0, Cond.code yX0_turn cX0_turn 5 (some .int), Cond.classLink RX0 48 "java/lang/IllegalArgumentException", Cond.initialized "java/lang/IllegalArgumentException", Cond.classLink RX0 57 "java/lang/IllegalStateException", Cond.initialized "java/lang/IllegalStateException", Cond.constantLong RX0 38 (20000), Cond.fieldLink RX0 16 "TideDepths" "turns" "I", Cond.fieldLink RX0 9 "TideDepths" "turnTimes" "[J", Cond.fieldLink RX0 13 "TideDepths" "turnHeights" "[J", Cond.methodLink RX0 40 yX0_isWithin, Cond.static yX0_isWithin, Cond.code yX0_isWithin cX0_isWithin 6 (some .boolean), Cond.methodLink RX0 44 yX0_isLevel, Cond.static yX0_isLevel, Cond.code yX0_isLevel cX0_isLevel 2 (some .boolean), Cond.constantLong RX0 166 (-100000), Cond.constantLong RX0 168 (100000), Cond.methodLink RX0 62 yX0_alternates]
def wsL_turn_r2 : List Cond := [Cond.instanceMethod yX0_alternates, Cond.selects RX0 yX0_alternates yX0_alternates, Cond.code yX0_alternates cX0_alternates 6 (some .boolean)]
def wsL_turn : List Cond := .codeWith yL_turn cL_turn 7 (some .int) [(0, 11, 14, 13), (0, 11, 18, 15)] :: ((wsL_turn_r1 ++ wsL_turn_r2) ++ wsX00 ++ (vx_atS RX0 52 "java/lang/IllegalArgumentException" ["java/lang/RuntimeException", "java/lang/Exception"]).filter goodWord ++ (vx_atS RX0 61 "java/lang/IllegalStateException" ["java/lang/RuntimeException", "java/lang/Exception"]).filter goodWord)
def wsL_height_r1 : List Cond := [Cond.classLink RL 13 "java/lang/IllegalArgumentException", Cond.methodLink RL 17 yX0_height, Cond.instanceMethod yX0_height, Cond.selects RX0 yX0_height yX0_height, Cond.initialized RX0, Cond.code yX0_height cX0_height 3 (some .long), Cond.classLink RX0 48 "java/lang/IllegalArgumentException", Cond.initialized "java/lang/IllegalArgumentException", Cond.methodLink RX0 65 yX0_isInTable, Cond.instanceMethod yX0_isInTable, Cond.selects RX0 yX0_isInTable yX0_isInTable, Cond.code yX0_isInTable cX0_isInTable 3 (some .boolean), Cond.methodLink RX0 186 yX0_hasTable, Cond.instanceMethod yX0_hasTable, Cond.selects RX0 yX0_hasTable yX0_hasTable, Cond.code yX0_hasTable cX0_hasTable 1 (some .boolean), Cond.fieldLink RX0 16 "TideDepths" "turns" "I", Cond.methodLink RX0 163 yX0_firstSecond, Cond.instanceMethod yX0_firstSecond, Cond.selects RX0 yX0_firstSecond yX0_firstSecond, Cond.code yX0_firstSecond cX0_firstSecond 1 (some .long), Cond.fieldLink RX0 9 "TideDepths" "turnTimes" "[J", Cond.constantLong RX0 190 (-1), Cond.methodLink RX0 95 yX0_lastSecond]
def wsL_height_r2 : List Cond := [Cond.instanceMethod yX0_lastSecond, Cond.selects RX0 yX0_lastSecond yX0_lastSecond, Cond.code yX0_lastSecond cX0_lastSecond 1 (some .long), Cond.methodLink RX0 40 yX0_isWithin, Cond.static yX0_isWithin, Cond.code yX0_isWithin cX0_isWithin 6 (some .boolean), Cond.methodLink RX0 70 yX0_heightAt, Cond.instanceMethod yX0_heightAt, Cond.selects RX0 yX0_heightAt yX0_heightAt, Cond.code yX0_heightAt cX0_heightAt 3 (some .long), Cond.methodLink RX0 80 yX0_tableHeight, Cond.instanceMethod yX0_tableHeight, Cond.selects RX0 yX0_tableHeight yX0_tableHeight, Cond.code yX0_tableHeight cX0_tableHeight 8 (some .long), Cond.fieldLink RX0 13 "TideDepths" "turnHeights" "[J", Cond.constantLong RX0 202 (32768), Cond.methodLink RX0 195 yX0_lastNotBehind, Cond.static yX0_lastNotBehind, Cond.code yX0_lastNotBehind cX0_lastNotBehind 5 (some .int), Cond.methodLink RX0 199 yX0_cosinePart, Cond.static yX0_cosinePart, Cond.code yX0_cosinePart cX0_cosinePart 9 (some .long), Cond.constantLong RX0 209 (64), Cond.fieldLink RX0 120 "TideDepths" "COSINE" "[I"]
def wsL_height_r3 : List Cond := [Cond.methodLink RX0 204 yJ9_floorDiv_f86c9, Cond.static yJ9_floorDiv_f86c9, Cond.initialized RJ9, Cond.code yJ9_floorDiv_f86c9 cJ9_floorDiv_f86c9 6 (some .long), Cond.methodLink RX0 192 yX0_correction, Cond.instanceMethod yX0_correction, Cond.selects RX0 yX0_correction yX0_correction, Cond.code yX0_correction cX0_correction 10 (some .long), Cond.fieldLink RX0 20 "TideDepths" "observedTimes" "[J", Cond.fieldLink RX0 26 "TideDepths" "observations" "I", Cond.fieldLink RX0 23 "TideDepths" "differences" "[J", Cond.constantLong RX0 211 (600), Cond.constantLong RX0 213 (2)]
def wsL_height : List Cond := .codeWith yL_height cL_height 5 (some .int) [(0, 8, 11, 13)] :: ((wsL_height_r1 ++ (wsL_height_r2 ++ wsL_height_r3)) ++ wsX00 ++ (vx_atS RX0 52 "java/lang/IllegalArgumentException" ["java/lang/RuntimeException", "java/lang/Exception"]).filter goodWord)
def wsL_observe_r1 : List Cond := [Cond.classLink RL 13 "java/lang/IllegalArgumentException", Cond.classLink RL 15 "java/lang/IllegalStateException", Cond.methodLink RL 21 yX0_observe, Cond.instanceMethod yX0_observe, Cond.selects RX0 yX0_observe yX0_observe, Cond.initialized RX0, Cond.code yX0_observe cX0_observe 5 (some .int), Cond.classLink RX0 48 "java/lang/IllegalArgumentException", Cond.initialized "java/lang/IllegalArgumentException", Cond.classLink RX0 57 "java/lang/IllegalStateException", Cond.initialized "java/lang/IllegalStateException", Cond.fieldLink RX0 26 "TideDepths" "observations" "I", Cond.fieldLink RX0 20 "TideDepths" "observedTimes" "[J", Cond.fieldLink RX0 23 "TideDepths" "differences" "[J", Cond.methodLink RX0 65 yX0_isInTable, Cond.instanceMethod yX0_isInTable, Cond.selects RX0 yX0_isInTable yX0_isInTable, Cond.code yX0_isInTable cX0_isInTable 3 (some .boolean), Cond.methodLink RX0 186 yX0_hasTable, Cond.instanceMethod yX0_hasTable, Cond.selects RX0 yX0_hasTable yX0_hasTable, Cond.code yX0_hasTable cX0_hasTable 1 (some .boolean), Cond.fieldLink RX0 16 "TideDepths" "turns" "I", Cond.methodLink RX0 163 yX0_firstSecond]
def wsL_observe_r2 : List Cond := [Cond.instanceMethod yX0_firstSecond, Cond.selects RX0 yX0_firstSecond yX0_firstSecond, Cond.code yX0_firstSecond cX0_firstSecond 1 (some .long), Cond.fieldLink RX0 9 "TideDepths" "turnTimes" "[J", Cond.constantLong RX0 190 (-1), Cond.methodLink RX0 95 yX0_lastSecond, Cond.instanceMethod yX0_lastSecond, Cond.selects RX0 yX0_lastSecond yX0_lastSecond, Cond.code yX0_lastSecond cX0_lastSecond 1 (some .long), Cond.methodLink RX0 40 yX0_isWithin, Cond.static yX0_isWithin, Cond.code yX0_isWithin cX0_isWithin 6 (some .boolean), Cond.methodLink RX0 44 yX0_isLevel, Cond.static yX0_isLevel, Cond.code yX0_isLevel cX0_isLevel 2 (some .boolean), Cond.constantLong RX0 166 (-100000), Cond.constantLong RX0 168 (100000), Cond.methodLink RX0 80 yX0_tableHeight, Cond.instanceMethod yX0_tableHeight, Cond.selects RX0 yX0_tableHeight yX0_tableHeight, Cond.code yX0_tableHeight cX0_tableHeight 8 (some .long), Cond.fieldLink RX0 13 "TideDepths" "turnHeights" "[J", Cond.constantLong RX0 202 (32768), Cond.methodLink RX0 195 yX0_lastNotBehind]
def wsL_observe_r3 : List Cond := [Cond.static yX0_lastNotBehind, Cond.code yX0_lastNotBehind cX0_lastNotBehind 5 (some .int), Cond.methodLink RX0 199 yX0_cosinePart, Cond.static yX0_cosinePart, Cond.code yX0_cosinePart cX0_cosinePart 9 (some .long), Cond.constantLong RX0 209 (64), Cond.fieldLink RX0 120 "TideDepths" "COSINE" "[I", Cond.methodLink RX0 204 yJ9_floorDiv_f86c9, Cond.static yJ9_floorDiv_f86c9, Cond.initialized RJ9, Cond.code yJ9_floorDiv_f86c9 cJ9_floorDiv_f86c9 6 (some .long)]
def wsL_observe : List Cond := .codeWith yL_observe cL_observe 7 (some .int) [(0, 11, 14, 13), (0, 11, 18, 15)] :: ((wsL_observe_r1 ++ (wsL_observe_r2 ++ wsL_observe_r3)) ++ wsX00 ++ (vx_atS RX0 52 "java/lang/IllegalArgumentException" ["java/lang/RuntimeException", "java/lang/Exception"]).filter goodWord ++ (vx_atS RX0 61 "java/lang/IllegalStateException" ["java/lang/RuntimeException", "java/lang/Exception"]).filter goodWord)
def wsL_span_r1 : List Cond := [Cond.classLink RL 13 "java/lang/IllegalArgumentException", Cond.methodLink RL 24 yX0_span, Cond.instanceMethod yX0_span, Cond.selects RX0 yX0_span yX0_span, Cond.initialized RX0, Cond.code yX0_span cX0_span 14 (some .int), Cond.classLink RX0 48 "java/lang/IllegalArgumentException", Cond.initialized "java/lang/IllegalArgumentException", Cond.constantLong RX0 83 (3), Cond.methodLink RX0 65 yX0_isInTable, Cond.instanceMethod yX0_isInTable, Cond.selects RX0 yX0_isInTable yX0_isInTable, Cond.code yX0_isInTable cX0_isInTable 3 (some .boolean), Cond.methodLink RX0 186 yX0_hasTable, Cond.instanceMethod yX0_hasTable, Cond.selects RX0 yX0_hasTable yX0_hasTable, Cond.code yX0_hasTable cX0_hasTable 1 (some .boolean), Cond.fieldLink RX0 16 "TideDepths" "turns" "I", Cond.methodLink RX0 163 yX0_firstSecond, Cond.instanceMethod yX0_firstSecond, Cond.selects RX0 yX0_firstSecond yX0_firstSecond, Cond.code yX0_firstSecond cX0_firstSecond 1 (some .long), Cond.fieldLink RX0 9 "TideDepths" "turnTimes" "[J", Cond.constantLong RX0 190 (-1)]
def wsL_span_r2 : List Cond := [Cond.methodLink RX0 95 yX0_lastSecond, Cond.instanceMethod yX0_lastSecond, Cond.selects RX0 yX0_lastSecond yX0_lastSecond, Cond.code yX0_lastSecond cX0_lastSecond 1 (some .long), Cond.methodLink RX0 40 yX0_isWithin, Cond.static yX0_isWithin, Cond.code yX0_isWithin cX0_isWithin 6 (some .boolean), Cond.methodLink RX0 44 yX0_isLevel, Cond.static yX0_isLevel, Cond.code yX0_isLevel cX0_isLevel 2 (some .boolean), Cond.constantLong RX0 166 (-100000), Cond.constantLong RX0 168 (100000), Cond.methodLink RX0 87 yX0_longestSpan, Cond.instanceMethod yX0_longestSpan, Cond.selects RX0 yX0_longestSpan yX0_longestSpan, Cond.code yX0_longestSpan cX0_longestSpan 16 (some .long), Cond.methodLink RX0 91 yX0_nextSecond, Cond.instanceMethod yX0_nextSecond, Cond.selects RX0 yX0_nextSecond yX0_nextSecond, Cond.code yX0_nextSecond cX0_nextSecond 13 (some .long), Cond.methodLink RX0 70 yX0_heightAt, Cond.instanceMethod yX0_heightAt, Cond.selects RX0 yX0_heightAt yX0_heightAt, Cond.code yX0_heightAt cX0_heightAt 3 (some .long)]
def wsL_span_r3 : List Cond := [Cond.methodLink RX0 80 yX0_tableHeight, Cond.instanceMethod yX0_tableHeight, Cond.selects RX0 yX0_tableHeight yX0_tableHeight, Cond.code yX0_tableHeight cX0_tableHeight 8 (some .long), Cond.fieldLink RX0 13 "TideDepths" "turnHeights" "[J", Cond.constantLong RX0 202 (32768), Cond.methodLink RX0 195 yX0_lastNotBehind, Cond.static yX0_lastNotBehind, Cond.code yX0_lastNotBehind cX0_lastNotBehind 5 (some .int), Cond.methodLink RX0 199 yX0_cosinePart, Cond.static yX0_cosinePart, Cond.code yX0_cosinePart cX0_cosinePart 9 (some .long), Cond.constantLong RX0 209 (64), Cond.fieldLink RX0 120 "TideDepths" "COSINE" "[I", Cond.methodLink RX0 204 yJ9_floorDiv_f86c9, Cond.static yJ9_floorDiv_f86c9, Cond.initialized RJ9, Cond.code yJ9_floorDiv_f86c9 cJ9_floorDiv_f86c9 6 (some .long), Cond.methodLink RX0 192 yX0_correction, Cond.instanceMethod yX0_correction, Cond.selects RX0 yX0_correction yX0_correction, Cond.code yX0_correction cX0_correction 10 (some .long), Cond.fieldLink RX0 20 "TideDepths" "observedTimes" "[J", Cond.fieldLink RX0 26 "TideDepths" "observations" "I"]
def wsL_span_r4 : List Cond := [Cond.fieldLink RX0 23 "TideDepths" "differences" "[J", Cond.constantLong RX0 211 (600), Cond.constantLong RX0 213 (2), Cond.methodLink RX0 221 yX0_stretchEnd, Cond.instanceMethod yX0_stretchEnd, Cond.selects RX0 yX0_stretchEnd yX0_stretchEnd, Cond.code yX0_stretchEnd cX0_stretchEnd 6 (some .long), Cond.methodLink RX0 218 Lib.MathLoose.min_long.x, Cond.static Lib.MathLoose.min_long.x, Cond.initialized "java/lang/Math", Cond.code Lib.MathLoose.min_long.x Lib.MathLoose.min_long.code 4 (some .long), Cond.methodLink RX0 215 yX0_correctionEnd, Cond.instanceMethod yX0_correctionEnd, Cond.selects RX0 yX0_correctionEnd yX0_correctionEnd, Cond.code yX0_correctionEnd cX0_correctionEnd 8 (some .long), Cond.constantLong RX0 38 (20000), Cond.methodLink RX0 224 yX0_changeWithin, Cond.instanceMethod yX0_changeWithin, Cond.selects RX0 yX0_changeWithin yX0_changeWithin, Cond.code yX0_changeWithin cX0_changeWithin 15 (some .long)]
def wsL_span : List Cond := .codeWith yL_span cL_span 10 (some .int) [(0, 15, 18, 13)] :: ((wsL_span_r1 ++ (wsL_span_r2 ++ (wsL_span_r3 ++ wsL_span_r4))) ++ wsX00 ++ (vx_atS RX0 52 "java/lang/IllegalArgumentException" ["java/lang/RuntimeException", "java/lang/Exception"]).filter goodWord)
def wsL_squat_r1 : List Cond := [Cond.classLink RL 13 "java/lang/IllegalArgumentException", Cond.methodLink RL 28 yX0_squat, Cond.instanceMethod yX0_squat, Cond.selects RX0 yX0_squat yX0_squat, Cond.initialized RX0, Cond.code yX0_squat cX0_squat 5 (some .long), Cond.classLink RX0 48 "java/lang/IllegalArgumentException", Cond.initialized "java/lang/IllegalArgumentException", Cond.constantLong RX0 99 (10000), Cond.constantLong RX0 101 (30000), Cond.methodLink RX0 40 yX0_isWithin, Cond.static yX0_isWithin, Cond.code yX0_isWithin cX0_isWithin 6 (some .boolean), Cond.methodLink RX0 105 yX0_squatOf, Cond.static yX0_squatOf, Cond.code yX0_squatOf cX0_squatOf 4 (some .long), Cond.constantLong RX0 179 (1000), Cond.methodLink RX0 176 yX0_squatThousandths, Cond.static yX0_squatThousandths, Cond.code yX0_squatThousandths cX0_squatThousandths 5 (some .long), Cond.constantLong RX0 181 (200), Cond.fieldLink RX0 183 "TideDepths" "SQUAT_ROWS" "[I", Cond.methodLink RX0 134 yX0_dividedUp, Cond.static yX0_dividedUp]
def wsL_squat_r2 : List Cond := [Cond.code yX0_dividedUp cX0_dividedUp 4 (some .long)]
def wsL_squat : List Cond := .codeWith yL_squat cL_squat 7 (some .int) [(0, 10, 13, 13)] :: ((wsL_squat_r1 ++ wsL_squat_r2) ++ (vx_atS RX0 52 "java/lang/IllegalArgumentException" ["java/lang/RuntimeException", "java/lang/Exception"]).filter goodWord)
def wsL_passing : List Cond := .codeWith yL_passing cL_passing 7 (some .int) [(0, 10, 13, 13), (0, 10, 17, 35)] :: ([.classLink RL 13 "java/lang/IllegalArgumentException", .classLink RL 35 "java/lang/ArithmeticException", .methodLink RL 32 yX0_passing, .instanceMethod yX0_passing, .selects RX0 yX0_passing yX0_passing, .initialized RX0, .code yX0_passing cX0_passing 5 (some .long), .classLink RX0 48 "java/lang/IllegalArgumentException", .initialized "java/lang/IllegalArgumentException", .classLink RX0 112 "java/lang/ArithmeticException", .initialized "java/lang/ArithmeticException", .constantLong RX0 108 (1000000), .constantLong RX0 99 (10000), .methodLink RX0 40 yX0_isWithin, .static yX0_isWithin, .code yX0_isWithin cX0_isWithin 6 (some .boolean), .methodLink RX0 117 yX0_secondsFor, .static yX0_secondsFor, .code yX0_secondsFor cX0_secondsFor 4 (some .long), .constantLong RX0 174 (100), .methodLink RX0 134 yX0_dividedUp, .static yX0_dividedUp, .code yX0_dividedUp cX0_dividedUp 4 (some .long)] ++ (vx_atS RX0 52 "java/lang/IllegalArgumentException" ["java/lang/RuntimeException", "java/lang/Exception"]).filter goodWord ++ (vx_atS RX0 116 "java/lang/ArithmeticException" ["java/lang/RuntimeException", "java/lang/Exception"]).filter goodWord)
def wsL_cosine : List Cond := .codeWith yL_cosine cL_cosine 4 (some .int) [(0, 9, 12, 41)] :: ([.methodLink RL 37 yX0_cosine, .instanceMethod yX0_cosine, .selects RX0 yX0_cosine yX0_cosine, .initialized RX0, .code yX0_cosine cX0_cosine 2 (some .int), .fieldLink RX0 120 "TideDepths" "COSINE" "[I", .classLink RX0 124 RJx00060, .instantiable RJx00060 6, .initialized RJx00060] ++ wsJx000600)
def wsL_draft : List Cond := .codeWith yL_draft cL_draft 9 (some .int) [(0, 12, 15, 13)] :: ([.classLink RL 13 "java/lang/IllegalArgumentException", .methodLink RL 43 yX0_draft, .instanceMethod yX0_draft, .selects RX0 yX0_draft yX0_draft, .initialized RX0, .code yX0_draft cX0_draft 7 (some .long), .classLink RX0 48 "java/lang/IllegalArgumentException", .initialized "java/lang/IllegalArgumentException", .constantLong RX0 101 (30000), .methodLink RX0 40 yX0_isWithin, .static yX0_isWithin, .code yX0_isWithin cX0_isWithin 6 (some .boolean), .methodLink RX0 129 yX0_isDensity, .static yX0_isDensity, .code yX0_isDensity cX0_isDensity 2 (some .boolean), .constantLong RX0 170 (900), .constantLong RX0 172 (1100), .methodLink RX0 134 yX0_dividedUp, .static yX0_dividedUp, .code yX0_dividedUp cX0_dividedUp 4 (some .long)] ++ (vx_atS RX0 52 "java/lang/IllegalArgumentException" ["java/lang/RuntimeException", "java/lang/Exception"]).filter goodWord)
def wsL_place : List Cond := .codeWith yL_place cL_place 7 (some .int) [(0, 11, 14, 13), (0, 11, 18, 15)] :: ([.classLink RL 13 "java/lang/IllegalArgumentException", .classLink RL 15 "java/lang/IllegalStateException", .methodLink RL 47 yX0_place, .instanceMethod yX0_place, .selects RX0 yX0_place yX0_place, .initialized RX0, .code yX0_place cX0_place 5 (some .int), .classLink RX0 48 "java/lang/IllegalArgumentException", .initialized "java/lang/IllegalArgumentException", .classLink RX0 57 "java/lang/IllegalStateException", .initialized "java/lang/IllegalStateException", .constantLong RX0 108 (1000000), .fieldLink RX0 35 "TideDepths" "places" "I", .fieldLink RX0 29 "TideDepths" "ways" "[J", .fieldLink RX0 32 "TideDepths" "bases" "[J", .methodLink RX0 40 yX0_isWithin, .static yX0_isWithin, .code yX0_isWithin cX0_isWithin 6 (some .boolean), .methodLink RX0 44 yX0_isLevel, .static yX0_isLevel, .code yX0_isLevel cX0_isLevel 2 (some .boolean), .constantLong RX0 166 (-100000), .constantLong RX0 168 (100000)] ++ wsX00 ++ (vx_atS RX0 52 "java/lang/IllegalArgumentException" ["java/lang/RuntimeException", "java/lang/Exception"]).filter goodWord ++ (vx_atS RX0 61 "java/lang/IllegalStateException" ["java/lang/RuntimeException", "java/lang/Exception"]).filter goodWord)
def wsL_depth_r1 : List Cond := [Cond.classLink RL 54 "java/lang/IndexOutOfBoundsException", Cond.classLink RL 13 "java/lang/IllegalArgumentException", Cond.methodLink RL 50 yX0_depth, Cond.instanceMethod yX0_depth, Cond.selects RX0 yX0_depth yX0_depth, Cond.initialized RX0, Cond.code yX0_depth cX0_depth 4 (some .long), Cond.classLink RX0 143 "java/lang/IndexOutOfBoundsException", Cond.initialized "java/lang/IndexOutOfBoundsException", Cond.classLink RX0 48 "java/lang/IllegalArgumentException", Cond.initialized "java/lang/IllegalArgumentException", Cond.fieldLink RX0 35 "TideDepths" "places" "I", Cond.fieldLink RX0 32 "TideDepths" "bases" "[J", Cond.methodLink RX0 65 yX0_isInTable, Cond.instanceMethod yX0_isInTable, Cond.selects RX0 yX0_isInTable yX0_isInTable, Cond.code yX0_isInTable cX0_isInTable 3 (some .boolean), Cond.methodLink RX0 186 yX0_hasTable, Cond.instanceMethod yX0_hasTable, Cond.selects RX0 yX0_hasTable yX0_hasTable, Cond.code yX0_hasTable cX0_hasTable 1 (some .boolean), Cond.fieldLink RX0 16 "TideDepths" "turns" "I", Cond.methodLink RX0 163 yX0_firstSecond, Cond.instanceMethod yX0_firstSecond]
def wsL_depth_r2 : List Cond := [Cond.selects RX0 yX0_firstSecond yX0_firstSecond, Cond.code yX0_firstSecond cX0_firstSecond 1 (some .long), Cond.fieldLink RX0 9 "TideDepths" "turnTimes" "[J", Cond.constantLong RX0 190 (-1), Cond.methodLink RX0 95 yX0_lastSecond, Cond.instanceMethod yX0_lastSecond, Cond.selects RX0 yX0_lastSecond yX0_lastSecond, Cond.code yX0_lastSecond cX0_lastSecond 1 (some .long), Cond.methodLink RX0 40 yX0_isWithin, Cond.static yX0_isWithin, Cond.code yX0_isWithin cX0_isWithin 6 (some .boolean), Cond.methodLink RX0 70 yX0_heightAt, Cond.instanceMethod yX0_heightAt, Cond.selects RX0 yX0_heightAt yX0_heightAt, Cond.code yX0_heightAt cX0_heightAt 3 (some .long), Cond.methodLink RX0 80 yX0_tableHeight, Cond.instanceMethod yX0_tableHeight, Cond.selects RX0 yX0_tableHeight yX0_tableHeight, Cond.code yX0_tableHeight cX0_tableHeight 8 (some .long), Cond.fieldLink RX0 13 "TideDepths" "turnHeights" "[J", Cond.constantLong RX0 202 (32768), Cond.methodLink RX0 195 yX0_lastNotBehind, Cond.static yX0_lastNotBehind, Cond.code yX0_lastNotBehind cX0_lastNotBehind 5 (some .int)]
def wsL_depth_r3 : List Cond := [Cond.methodLink RX0 199 yX0_cosinePart, Cond.static yX0_cosinePart, Cond.code yX0_cosinePart cX0_cosinePart 9 (some .long), Cond.constantLong RX0 209 (64), Cond.fieldLink RX0 120 "TideDepths" "COSINE" "[I", Cond.methodLink RX0 204 yJ9_floorDiv_f86c9, Cond.static yJ9_floorDiv_f86c9, Cond.initialized RJ9, Cond.code yJ9_floorDiv_f86c9 cJ9_floorDiv_f86c9 6 (some .long), Cond.methodLink RX0 192 yX0_correction, Cond.instanceMethod yX0_correction, Cond.selects RX0 yX0_correction yX0_correction, Cond.code yX0_correction cX0_correction 10 (some .long), Cond.fieldLink RX0 20 "TideDepths" "observedTimes" "[J", Cond.fieldLink RX0 26 "TideDepths" "observations" "I", Cond.fieldLink RX0 23 "TideDepths" "differences" "[J", Cond.constantLong RX0 211 (600), Cond.constantLong RX0 213 (2)]
def wsL_depth : List Cond := .codeWith yL_depth cL_depth 6 (some .int) [(0, 10, 13, 54), (0, 10, 17, 13)] :: ((wsL_depth_r1 ++ (wsL_depth_r2 ++ wsL_depth_r3)) ++ wsX00 ++ (vx_atS RX0 147 "java/lang/IndexOutOfBoundsException" ["java/lang/RuntimeException", "java/lang/Exception"]).filter goodWord ++ (vx_atS RX0 52 "java/lang/IllegalArgumentException" ["java/lang/RuntimeException", "java/lang/Exception"]).filter goodWord)
def wsL_sail_r1 : List Cond := [Cond.classLink RL 13 "java/lang/IllegalArgumentException", Cond.classLink RL 15 "java/lang/IllegalStateException", Cond.classLink RL 35 "java/lang/ArithmeticException", Cond.methodLink RL 56 yX0_sail, Cond.instanceMethod yX0_sail, Cond.selects RX0 yX0_sail yX0_sail, Cond.initialized RX0, Cond.code yX0_sail cX0_sail 12 (some .int), Cond.classLink RX0 48 "java/lang/IllegalArgumentException", Cond.initialized "java/lang/IllegalArgumentException", Cond.classLink RX0 57 "java/lang/IllegalStateException", Cond.initialized "java/lang/IllegalStateException", Cond.classLink RX0 112 "java/lang/ArithmeticException", Cond.initialized "java/lang/ArithmeticException", Cond.constantLong RX0 99 (10000), Cond.fieldLink RX0 35 "TideDepths" "places" "I", Cond.methodLink RX0 65 yX0_isInTable, Cond.instanceMethod yX0_isInTable, Cond.selects RX0 yX0_isInTable yX0_isInTable, Cond.code yX0_isInTable cX0_isInTable 3 (some .boolean), Cond.methodLink RX0 186 yX0_hasTable, Cond.instanceMethod yX0_hasTable, Cond.selects RX0 yX0_hasTable yX0_hasTable, Cond.code yX0_hasTable cX0_hasTable 1 (some .boolean)]
def wsL_sail_r2 : List Cond := [Cond.fieldLink RX0 16 "TideDepths" "turns" "I", Cond.methodLink RX0 163 yX0_firstSecond, Cond.instanceMethod yX0_firstSecond, Cond.selects RX0 yX0_firstSecond yX0_firstSecond, Cond.code yX0_firstSecond cX0_firstSecond 1 (some .long), Cond.fieldLink RX0 9 "TideDepths" "turnTimes" "[J", Cond.constantLong RX0 190 (-1), Cond.methodLink RX0 95 yX0_lastSecond, Cond.instanceMethod yX0_lastSecond, Cond.selects RX0 yX0_lastSecond yX0_lastSecond, Cond.code yX0_lastSecond cX0_lastSecond 1 (some .long), Cond.methodLink RX0 40 yX0_isWithin, Cond.static yX0_isWithin, Cond.code yX0_isWithin cX0_isWithin 6 (some .boolean), Cond.methodLink RX0 44 yX0_isLevel, Cond.static yX0_isLevel, Cond.code yX0_isLevel cX0_isLevel 2 (some .boolean), Cond.constantLong RX0 166 (-100000), Cond.constantLong RX0 168 (100000), Cond.methodLink RX0 105 yX0_squatOf, Cond.static yX0_squatOf, Cond.code yX0_squatOf cX0_squatOf 4 (some .long), Cond.constantLong RX0 179 (1000), Cond.methodLink RX0 176 yX0_squatThousandths]
def wsL_sail_r3 : List Cond := [Cond.static yX0_squatThousandths, Cond.code yX0_squatThousandths cX0_squatThousandths 5 (some .long), Cond.constantLong RX0 181 (200), Cond.fieldLink RX0 183 "TideDepths" "SQUAT_ROWS" "[I", Cond.methodLink RX0 134 yX0_dividedUp, Cond.static yX0_dividedUp, Cond.code yX0_dividedUp cX0_dividedUp 4 (some .long), Cond.methodLink RX0 154 yX0_firstSailing, Cond.instanceMethod yX0_firstSailing, Cond.selects RX0 yX0_firstSailing yX0_firstSailing, Cond.code yX0_firstSailing cX0_firstSailing 19 (some .long), Cond.fieldLink RX0 29 "TideDepths" "ways" "[J", Cond.fieldLink RX0 32 "TideDepths" "bases" "[J", Cond.methodLink RX0 117 yX0_secondsFor, Cond.static yX0_secondsFor, Cond.code yX0_secondsFor cX0_secondsFor 4 (some .long), Cond.constantLong RX0 174 (100), Cond.methodLink RX0 91 yX0_nextSecond, Cond.instanceMethod yX0_nextSecond, Cond.selects RX0 yX0_nextSecond yX0_nextSecond, Cond.code yX0_nextSecond cX0_nextSecond 13 (some .long), Cond.methodLink RX0 70 yX0_heightAt, Cond.instanceMethod yX0_heightAt, Cond.selects RX0 yX0_heightAt yX0_heightAt]
def wsL_sail_r4 : List Cond := [Cond.code yX0_heightAt cX0_heightAt 3 (some .long), Cond.methodLink RX0 80 yX0_tableHeight, Cond.instanceMethod yX0_tableHeight, Cond.selects RX0 yX0_tableHeight yX0_tableHeight, Cond.code yX0_tableHeight cX0_tableHeight 8 (some .long), Cond.fieldLink RX0 13 "TideDepths" "turnHeights" "[J", Cond.constantLong RX0 202 (32768), Cond.methodLink RX0 195 yX0_lastNotBehind, Cond.static yX0_lastNotBehind, Cond.code yX0_lastNotBehind cX0_lastNotBehind 5 (some .int), Cond.methodLink RX0 199 yX0_cosinePart, Cond.static yX0_cosinePart, Cond.code yX0_cosinePart cX0_cosinePart 9 (some .long), Cond.constantLong RX0 209 (64), Cond.fieldLink RX0 120 "TideDepths" "COSINE" "[I", Cond.methodLink RX0 204 yJ9_floorDiv_f86c9, Cond.static yJ9_floorDiv_f86c9, Cond.initialized RJ9, Cond.code yJ9_floorDiv_f86c9 cJ9_floorDiv_f86c9 6 (some .long), Cond.methodLink RX0 192 yX0_correction, Cond.instanceMethod yX0_correction, Cond.selects RX0 yX0_correction yX0_correction, Cond.code yX0_correction cX0_correction 10 (some .long), Cond.fieldLink RX0 20 "TideDepths" "observedTimes" "[J"]
def wsL_sail_r5 : List Cond := [Cond.fieldLink RX0 26 "TideDepths" "observations" "I", Cond.fieldLink RX0 23 "TideDepths" "differences" "[J", Cond.constantLong RX0 211 (600), Cond.constantLong RX0 213 (2), Cond.methodLink RX0 221 yX0_stretchEnd, Cond.instanceMethod yX0_stretchEnd, Cond.selects RX0 yX0_stretchEnd yX0_stretchEnd, Cond.code yX0_stretchEnd cX0_stretchEnd 6 (some .long), Cond.methodLink RX0 218 Lib.MathLoose.min_long.x, Cond.static Lib.MathLoose.min_long.x, Cond.initialized "java/lang/Math", Cond.code Lib.MathLoose.min_long.x Lib.MathLoose.min_long.code 4 (some .long), Cond.methodLink RX0 215 yX0_correctionEnd, Cond.instanceMethod yX0_correctionEnd, Cond.selects RX0 yX0_correctionEnd yX0_correctionEnd, Cond.code yX0_correctionEnd cX0_correctionEnd 8 (some .long), Cond.constantLong RX0 38 (20000), Cond.methodLink RX0 224 yX0_changeWithin, Cond.instanceMethod yX0_changeWithin, Cond.selects RX0 yX0_changeWithin yX0_changeWithin, Cond.code yX0_changeWithin cX0_changeWithin 15 (some .long), Cond.methodLink RX0 158 yX0_lastSailing, Cond.instanceMethod yX0_lastSailing, Cond.selects RX0 yX0_lastSailing yX0_lastSailing]
def wsL_sail_r6 : List Cond := [Cond.code yX0_lastSailing cX0_lastSailing 14 (some .long)]
def wsL_sail : List Cond := .codeWith yL_sail cL_sail 10 (some .int) [(0, 15, 18, 13), (0, 15, 22, 15), (0, 15, 26, 35)] :: ((wsL_sail_r1 ++ (wsL_sail_r2 ++ (wsL_sail_r3 ++ (wsL_sail_r4 ++ (wsL_sail_r5 ++ wsL_sail_r6))))) ++ wsX00 ++ (vx_atS RX0 52 "java/lang/IllegalArgumentException" ["java/lang/RuntimeException", "java/lang/Exception"]).filter goodWord ++ (vx_atS RX0 61 "java/lang/IllegalStateException" ["java/lang/RuntimeException", "java/lang/Exception"]).filter goodWord ++ (vx_atS RX0 116 "java/lang/ArithmeticException" ["java/lang/RuntimeException", "java/lang/Exception"]).filter goodWord)
def wsL_read : List Cond := .codeWith yL_read cL_read 5 (some .int) [(0, 9, 12, 54)] :: ([.classLink RL 54 "java/lang/IndexOutOfBoundsException", .methodLink RL 59 yX0_read, .instanceMethod yX0_read, .selects RX0 yX0_read yX0_read, .initialized RX0, .code yX0_read cX0_read 6 (some .long), .classLink RX0 143 "java/lang/IndexOutOfBoundsException", .initialized "java/lang/IndexOutOfBoundsException", .fieldLink RX0 16 "TideDepths" "turns" "I", .fieldLink RX0 9 "TideDepths" "turnTimes" "[J", .fieldLink RX0 13 "TideDepths" "turnHeights" "[J", .fieldLink RX0 26 "TideDepths" "observations" "I", .fieldLink RX0 20 "TideDepths" "observedTimes" "[J", .fieldLink RX0 23 "TideDepths" "differences" "[J"] ++ wsX00 ++ (vx_atS RX0 147 "java/lang/IndexOutOfBoundsException" ["java/lang/RuntimeException", "java/lang/Exception"]).filter goodWord)
theorem inJ9 : ∀ w ∈ wsJ90, w ∈ lw_tbl := by decide +kernel
theorem inJ0 : ∀ w ∈ wsJ00, w ∈ lw_tbl := by decide +kernel
abbrev vwCl : List vw_C := [(RJx00060, TJx00060, 6), (RX0, TX0, 9), (RX1, TX1, 12)]
end
section
theorem dX0_init_0 : decode cX0_init 0 = .ok (.aload_n 0, 1) := by decide +kernel
theorem dX0_init_1 : decode cX0_init 1 = .ok (.invokespecial 1, 3) := by decide +kernel
theorem dX0_init_4 : decode cX0_init 4 = .ok (.aload_n 0, 1) := by decide +kernel
theorem dX0_init_5 : decode cX0_init 5 = .ok (.bipush 40, 2) := by decide +kernel
theorem dX0_init_7 : decode cX0_init 7 = .ok (.newarray .long, 2) := by decide +kernel
theorem dX0_init_9 : decode cX0_init 9 = .ok (.putfield 9, 3) := by decide +kernel
theorem dX0_init_12 : decode cX0_init 12 = .ok (.aload_n 0, 1) := by decide +kernel
theorem dX0_init_13 : decode cX0_init 13 = .ok (.bipush 40, 2) := by decide +kernel
theorem dX0_init_15 : decode cX0_init 15 = .ok (.newarray .long, 2) := by decide +kernel
theorem dX0_init_17 : decode cX0_init 17 = .ok (.putfield 13, 3) := by decide +kernel
theorem dX0_init_20 : decode cX0_init 20 = .ok (.aload_n 0, 1) := by decide +kernel
theorem dX0_init_21 : decode cX0_init 21 = .ok (.iconst 0, 1) := by decide +kernel
theorem dX0_init_22 : decode cX0_init 22 = .ok (.putfield 16, 3) := by decide +kernel
theorem dX0_init_25 : decode cX0_init 25 = .ok (.aload_n 0, 1) := by decide +kernel
theorem dX0_init_26 : decode cX0_init 26 = .ok (.bipush 16, 2) := by decide +kernel
theorem dX0_init_28 : decode cX0_init 28 = .ok (.newarray .long, 2) := by decide +kernel
theorem dX0_init_30 : decode cX0_init 30 = .ok (.putfield 20, 3) := by decide +kernel
theorem dX0_init_33 : decode cX0_init 33 = .ok (.aload_n 0, 1) := by decide +kernel
theorem dX0_init_34 : decode cX0_init 34 = .ok (.bipush 16, 2) := by decide +kernel
theorem dX0_init_36 : decode cX0_init 36 = .ok (.newarray .long, 2) := by decide +kernel
theorem dX0_init_38 : decode cX0_init 38 = .ok (.putfield 23, 3) := by decide +kernel
theorem dX0_init_41 : decode cX0_init 41 = .ok (.aload_n 0, 1) := by decide +kernel
theorem dX0_init_42 : decode cX0_init 42 = .ok (.iconst 0, 1) := by decide +kernel
theorem dX0_init_43 : decode cX0_init 43 = .ok (.putfield 26, 3) := by decide +kernel
theorem dX0_init_46 : decode cX0_init 46 = .ok (.aload_n 0, 1) := by decide +kernel
theorem dX0_init_47 : decode cX0_init 47 = .ok (.bipush 12, 2) := by decide +kernel
theorem dX0_init_49 : decode cX0_init 49 = .ok (.newarray .long, 2) := by decide +kernel
theorem dX0_init_51 : decode cX0_init 51 = .ok (.putfield 29, 3) := by decide +kernel
theorem dX0_init_54 : decode cX0_init 54 = .ok (.aload_n 0, 1) := by decide +kernel
theorem dX0_init_55 : decode cX0_init 55 = .ok (.bipush 12, 2) := by decide +kernel
theorem dX0_init_57 : decode cX0_init 57 = .ok (.newarray .long, 2) := by decide +kernel
theorem dX0_init_59 : decode cX0_init 59 = .ok (.putfield 32, 3) := by decide +kernel
theorem dX0_init_62 : decode cX0_init 62 = .ok (.aload_n 0, 1) := by decide +kernel
theorem dX0_init_63 : decode cX0_init 63 = .ok (.iconst 0, 1) := by decide +kernel
theorem dX0_init_64 : decode cX0_init 64 = .ok (.putfield 35, 3) := by decide +kernel
theorem dX0_init_67 : decode cX0_init 67 = .ok (.return_, 1) := by decide +kernel
theorem dX0_turn_0 : decode cX0_turn 0 = .ok (.lload_n 1, 1) := by decide +kernel
theorem dX0_turn_1 : decode cX0_turn 1 = .ok (.lconst 0, 1) := by decide +kernel
theorem dX0_turn_2 : decode cX0_turn 2 = .ok (.ldc2_w 38, 3) := by decide +kernel
theorem dX0_turn_5 : decode cX0_turn 5 = .ok (.invokestatic 40, 3) := by decide +kernel
theorem dX0_turn_8 : decode cX0_turn 8 = .ok (.ifCond .eq 10, 3) := by decide +kernel
theorem dX0_turn_11 : decode cX0_turn 11 = .ok (.lload_n 3, 1) := by decide +kernel
theorem dX0_turn_12 : decode cX0_turn 12 = .ok (.invokestatic 44, 3) := by decide +kernel
theorem dX0_turn_15 : decode cX0_turn 15 = .ok (.ifCond .ne 13, 3) := by decide +kernel
theorem dX0_turn_18 : decode cX0_turn 18 = .ok (.new 48, 3) := by decide +kernel
theorem dX0_turn_21 : decode cX0_turn 21 = .ok (.dup, 1) := by decide +kernel
theorem dX0_turn_22 : decode cX0_turn 22 = .ok (.ldc 50, 2) := by decide +kernel
theorem dX0_turn_24 : decode cX0_turn 24 = .ok (.invokespecial 52, 3) := by decide +kernel
theorem dX0_turn_27 : decode cX0_turn 27 = .ok (.athrow, 1) := by decide +kernel
theorem dX0_turn_28 : decode cX0_turn 28 = .ok (.aload_n 0, 1) := by decide +kernel
theorem dX0_turn_29 : decode cX0_turn 29 = .ok (.getfield 16, 3) := by decide +kernel
theorem dX0_turn_32 : decode cX0_turn 32 = .ok (.ifCond .le 29, 3) := by decide +kernel
theorem dX0_turn_35 : decode cX0_turn 35 = .ok (.lload_n 1, 1) := by decide +kernel
theorem dX0_turn_36 : decode cX0_turn 36 = .ok (.aload_n 0, 1) := by decide +kernel
theorem dX0_turn_37 : decode cX0_turn 37 = .ok (.getfield 9, 3) := by decide +kernel
theorem dX0_turn_40 : decode cX0_turn 40 = .ok (.aload_n 0, 1) := by decide +kernel
theorem dX0_turn_41 : decode cX0_turn 41 = .ok (.getfield 16, 3) := by decide +kernel
theorem dX0_turn_44 : decode cX0_turn 44 = .ok (.iconst 1, 1) := by decide +kernel
theorem dX0_turn_45 : decode cX0_turn 45 = .ok (.isub, 1) := by decide +kernel
theorem dX0_turn_46 : decode cX0_turn 46 = .ok (.laload, 1) := by decide +kernel
theorem dX0_turn_47 : decode cX0_turn 47 = .ok (.lcmp, 1) := by decide +kernel
theorem dX0_turn_48 : decode cX0_turn 48 = .ok (.ifCond .gt 13, 3) := by decide +kernel
theorem dX0_turn_51 : decode cX0_turn 51 = .ok (.new 48, 3) := by decide +kernel
theorem dX0_turn_54 : decode cX0_turn 54 = .ok (.dup, 1) := by decide +kernel
theorem dX0_turn_55 : decode cX0_turn 55 = .ok (.ldc 55, 2) := by decide +kernel
theorem dX0_turn_57 : decode cX0_turn 57 = .ok (.invokespecial 52, 3) := by decide +kernel
theorem dX0_turn_60 : decode cX0_turn 60 = .ok (.athrow, 1) := by decide +kernel
theorem dX0_turn_61 : decode cX0_turn 61 = .ok (.aload_n 0, 1) := by decide +kernel
theorem dX0_turn_62 : decode cX0_turn 62 = .ok (.getfield 16, 3) := by decide +kernel
theorem dX0_turn_65 : decode cX0_turn 65 = .ok (.bipush 40, 2) := by decide +kernel
theorem dX0_turn_67 : decode cX0_turn 67 = .ok (.if_icmp .lt 13, 3) := by decide +kernel
theorem dX0_turn_70 : decode cX0_turn 70 = .ok (.new 57, 3) := by decide +kernel
theorem dX0_turn_73 : decode cX0_turn 73 = .ok (.dup, 1) := by decide +kernel
theorem dX0_turn_74 : decode cX0_turn 74 = .ok (.ldc 59, 2) := by decide +kernel
theorem dX0_turn_76 : decode cX0_turn 76 = .ok (.invokespecial 61, 3) := by decide +kernel
theorem dX0_turn_79 : decode cX0_turn 79 = .ok (.athrow, 1) := by decide +kernel
theorem dX0_turn_80 : decode cX0_turn 80 = .ok (.aload_n 0, 1) := by decide +kernel
theorem dX0_turn_81 : decode cX0_turn 81 = .ok (.lload_n 3, 1) := by decide +kernel
theorem dX0_turn_82 : decode cX0_turn 82 = .ok (.invokevirtual 62, 3) := by decide +kernel
theorem dX0_turn_85 : decode cX0_turn 85 = .ok (.ifCond .ne 5, 3) := by decide +kernel
theorem dX0_turn_88 : decode cX0_turn 88 = .ok (.iconst 0, 1) := by decide +kernel
theorem dX0_turn_89 : decode cX0_turn 89 = .ok (.ireturn, 1) := by decide +kernel
theorem dX0_turn_90 : decode cX0_turn 90 = .ok (.aload_n 0, 1) := by decide +kernel
theorem dX0_turn_91 : decode cX0_turn 91 = .ok (.getfield 9, 3) := by decide +kernel
theorem dX0_turn_94 : decode cX0_turn 94 = .ok (.aload_n 0, 1) := by decide +kernel
theorem dX0_turn_95 : decode cX0_turn 95 = .ok (.getfield 16, 3) := by decide +kernel
theorem dX0_turn_98 : decode cX0_turn 98 = .ok (.lload_n 1, 1) := by decide +kernel
theorem dX0_turn_99 : decode cX0_turn 99 = .ok (.lastore, 1) := by decide +kernel
theorem dX0_turn_100 : decode cX0_turn 100 = .ok (.aload_n 0, 1) := by decide +kernel
theorem dX0_turn_101 : decode cX0_turn 101 = .ok (.getfield 13, 3) := by decide +kernel
theorem dX0_turn_104 : decode cX0_turn 104 = .ok (.aload_n 0, 1) := by decide +kernel
theorem dX0_turn_105 : decode cX0_turn 105 = .ok (.getfield 16, 3) := by decide +kernel
theorem dX0_turn_108 : decode cX0_turn 108 = .ok (.lload_n 3, 1) := by decide +kernel
theorem dX0_turn_109 : decode cX0_turn 109 = .ok (.lastore, 1) := by decide +kernel
theorem dX0_turn_110 : decode cX0_turn 110 = .ok (.aload_n 0, 1) := by decide +kernel
theorem dX0_turn_111 : decode cX0_turn 111 = .ok (.dup, 1) := by decide +kernel
theorem dX0_turn_112 : decode cX0_turn 112 = .ok (.getfield 16, 3) := by decide +kernel
theorem dX0_turn_115 : decode cX0_turn 115 = .ok (.iconst 1, 1) := by decide +kernel
theorem dX0_turn_116 : decode cX0_turn 116 = .ok (.iadd, 1) := by decide +kernel
theorem dX0_turn_117 : decode cX0_turn 117 = .ok (.putfield 16, 3) := by decide +kernel
theorem dX0_turn_120 : decode cX0_turn 120 = .ok (.iconst 1, 1) := by decide +kernel
theorem dX0_turn_121 : decode cX0_turn 121 = .ok (.ireturn, 1) := by decide +kernel
theorem dX0_height_0 : decode cX0_height 0 = .ok (.aload_n 0, 1) := by decide +kernel
theorem dX0_height_1 : decode cX0_height 1 = .ok (.lload_n 1, 1) := by decide +kernel
theorem dX0_height_2 : decode cX0_height 2 = .ok (.invokevirtual 65, 3) := by decide +kernel
theorem dX0_height_5 : decode cX0_height 5 = .ok (.ifCond .ne 13, 3) := by decide +kernel
theorem dX0_height_8 : decode cX0_height 8 = .ok (.new 48, 3) := by decide +kernel
theorem dX0_height_11 : decode cX0_height 11 = .ok (.dup, 1) := by decide +kernel
theorem dX0_height_12 : decode cX0_height 12 = .ok (.ldc 68, 2) := by decide +kernel
theorem dX0_height_14 : decode cX0_height 14 = .ok (.invokespecial 52, 3) := by decide +kernel
theorem dX0_height_17 : decode cX0_height 17 = .ok (.athrow, 1) := by decide +kernel
theorem dX0_height_18 : decode cX0_height 18 = .ok (.aload_n 0, 1) := by decide +kernel
theorem dX0_height_19 : decode cX0_height 19 = .ok (.lload_n 1, 1) := by decide +kernel
theorem dX0_height_20 : decode cX0_height 20 = .ok (.invokevirtual 70, 3) := by decide +kernel
theorem dX0_height_23 : decode cX0_height 23 = .ok (.lreturn, 1) := by decide +kernel
theorem dX0_observe_0 : decode cX0_observe 0 = .ok (.aload_n 0, 1) := by decide +kernel
theorem dX0_observe_1 : decode cX0_observe 1 = .ok (.lload_n 1, 1) := by decide +kernel
theorem dX0_observe_2 : decode cX0_observe 2 = .ok (.invokevirtual 65, 3) := by decide +kernel
theorem dX0_observe_5 : decode cX0_observe 5 = .ok (.ifCond .eq 10, 3) := by decide +kernel
theorem dX0_observe_8 : decode cX0_observe 8 = .ok (.lload_n 3, 1) := by decide +kernel
theorem dX0_observe_9 : decode cX0_observe 9 = .ok (.invokestatic 44, 3) := by decide +kernel
theorem dX0_observe_12 : decode cX0_observe 12 = .ok (.ifCond .ne 13, 3) := by decide +kernel
theorem dX0_observe_15 : decode cX0_observe 15 = .ok (.new 48, 3) := by decide +kernel
theorem dX0_observe_18 : decode cX0_observe 18 = .ok (.dup, 1) := by decide +kernel
theorem dX0_observe_19 : decode cX0_observe 19 = .ok (.ldc 74, 2) := by decide +kernel
theorem dX0_observe_21 : decode cX0_observe 21 = .ok (.invokespecial 52, 3) := by decide +kernel
theorem dX0_observe_24 : decode cX0_observe 24 = .ok (.athrow, 1) := by decide +kernel
theorem dX0_observe_25 : decode cX0_observe 25 = .ok (.aload_n 0, 1) := by decide +kernel
theorem dX0_observe_26 : decode cX0_observe 26 = .ok (.getfield 26, 3) := by decide +kernel
theorem dX0_observe_29 : decode cX0_observe 29 = .ok (.ifCond .le 29, 3) := by decide +kernel
theorem dX0_observe_32 : decode cX0_observe 32 = .ok (.lload_n 1, 1) := by decide +kernel
theorem dX0_observe_33 : decode cX0_observe 33 = .ok (.aload_n 0, 1) := by decide +kernel
theorem dX0_observe_34 : decode cX0_observe 34 = .ok (.getfield 20, 3) := by decide +kernel
theorem dX0_observe_37 : decode cX0_observe 37 = .ok (.aload_n 0, 1) := by decide +kernel
theorem dX0_observe_38 : decode cX0_observe 38 = .ok (.getfield 26, 3) := by decide +kernel
theorem dX0_observe_41 : decode cX0_observe 41 = .ok (.iconst 1, 1) := by decide +kernel
theorem dX0_observe_42 : decode cX0_observe 42 = .ok (.isub, 1) := by decide +kernel
theorem dX0_observe_43 : decode cX0_observe 43 = .ok (.laload, 1) := by decide +kernel
theorem dX0_observe_44 : decode cX0_observe 44 = .ok (.lcmp, 1) := by decide +kernel
theorem dX0_observe_45 : decode cX0_observe 45 = .ok (.ifCond .ge 13, 3) := by decide +kernel
theorem dX0_observe_48 : decode cX0_observe 48 = .ok (.new 48, 3) := by decide +kernel
theorem dX0_observe_51 : decode cX0_observe 51 = .ok (.dup, 1) := by decide +kernel
theorem dX0_observe_52 : decode cX0_observe 52 = .ok (.ldc 76, 2) := by decide +kernel
theorem dX0_observe_54 : decode cX0_observe 54 = .ok (.invokespecial 52, 3) := by decide +kernel
theorem dX0_observe_57 : decode cX0_observe 57 = .ok (.athrow, 1) := by decide +kernel
theorem dX0_observe_58 : decode cX0_observe 58 = .ok (.aload_n 0, 1) := by decide +kernel
theorem dX0_observe_59 : decode cX0_observe 59 = .ok (.getfield 26, 3) := by decide +kernel
theorem dX0_observe_62 : decode cX0_observe 62 = .ok (.bipush 16, 2) := by decide +kernel
theorem dX0_observe_64 : decode cX0_observe 64 = .ok (.if_icmp .lt 13, 3) := by decide +kernel
theorem dX0_observe_67 : decode cX0_observe 67 = .ok (.new 57, 3) := by decide +kernel
theorem dX0_observe_70 : decode cX0_observe 70 = .ok (.dup, 1) := by decide +kernel
theorem dX0_observe_71 : decode cX0_observe 71 = .ok (.ldc 78, 2) := by decide +kernel
theorem dX0_observe_73 : decode cX0_observe 73 = .ok (.invokespecial 61, 3) := by decide +kernel
theorem dX0_observe_76 : decode cX0_observe 76 = .ok (.athrow, 1) := by decide +kernel
theorem dX0_observe_77 : decode cX0_observe 77 = .ok (.aload_n 0, 1) := by decide +kernel
theorem dX0_observe_78 : decode cX0_observe 78 = .ok (.getfield 20, 3) := by decide +kernel
theorem dX0_observe_81 : decode cX0_observe 81 = .ok (.aload_n 0, 1) := by decide +kernel
theorem dX0_observe_82 : decode cX0_observe 82 = .ok (.getfield 26, 3) := by decide +kernel
theorem dX0_observe_85 : decode cX0_observe 85 = .ok (.lload_n 1, 1) := by decide +kernel
theorem dX0_observe_86 : decode cX0_observe 86 = .ok (.lastore, 1) := by decide +kernel
theorem dX0_observe_87 : decode cX0_observe 87 = .ok (.aload_n 0, 1) := by decide +kernel
theorem dX0_observe_88 : decode cX0_observe 88 = .ok (.getfield 23, 3) := by decide +kernel
theorem dX0_observe_91 : decode cX0_observe 91 = .ok (.aload_n 0, 1) := by decide +kernel
theorem dX0_observe_92 : decode cX0_observe 92 = .ok (.getfield 26, 3) := by decide +kernel
theorem dX0_observe_95 : decode cX0_observe 95 = .ok (.lload_n 3, 1) := by decide +kernel
theorem dX0_observe_96 : decode cX0_observe 96 = .ok (.aload_n 0, 1) := by decide +kernel
theorem dX0_observe_97 : decode cX0_observe 97 = .ok (.lload_n 1, 1) := by decide +kernel
theorem dX0_observe_98 : decode cX0_observe 98 = .ok (.invokevirtual 80, 3) := by decide +kernel
theorem dX0_observe_101 : decode cX0_observe 101 = .ok (.lsub, 1) := by decide +kernel
theorem dX0_observe_102 : decode cX0_observe 102 = .ok (.lastore, 1) := by decide +kernel
theorem dX0_observe_103 : decode cX0_observe 103 = .ok (.aload_n 0, 1) := by decide +kernel
theorem dX0_observe_104 : decode cX0_observe 104 = .ok (.dup, 1) := by decide +kernel
theorem dX0_observe_105 : decode cX0_observe 105 = .ok (.getfield 26, 3) := by decide +kernel
theorem dX0_observe_108 : decode cX0_observe 108 = .ok (.iconst 1, 1) := by decide +kernel
theorem dX0_observe_109 : decode cX0_observe 109 = .ok (.iadd, 1) := by decide +kernel
theorem dX0_observe_110 : decode cX0_observe 110 = .ok (.putfield 26, 3) := by decide +kernel
theorem dX0_observe_113 : decode cX0_observe 113 = .ok (.aload_n 0, 1) := by decide +kernel
theorem dX0_observe_114 : decode cX0_observe 114 = .ok (.getfield 26, 3) := by decide +kernel
theorem dX0_observe_117 : decode cX0_observe 117 = .ok (.ireturn, 1) := by decide +kernel
theorem dX0_span_0 : decode cX0_span 0 = .ok (.aload_n 0, 1) := by decide +kernel
theorem dX0_span_1 : decode cX0_span 1 = .ok (.lload 5, 2) := by decide +kernel
theorem dX0_span_3 : decode cX0_span 3 = .ok (.invokevirtual 65, 3) := by decide +kernel
theorem dX0_span_6 : decode cX0_span 6 = .ok (.ifCond .eq 30, 3) := by decide +kernel
theorem dX0_span_9 : decode cX0_span 9 = .ok (.lload_n 1, 1) := by decide +kernel
theorem dX0_span_10 : decode cX0_span 10 = .ok (.invokestatic 44, 3) := by decide +kernel
theorem dX0_span_13 : decode cX0_span 13 = .ok (.ifCond .eq 23, 3) := by decide +kernel
theorem dX0_span_16 : decode cX0_span 16 = .ok (.lload_n 3, 1) := by decide +kernel
theorem dX0_span_17 : decode cX0_span 17 = .ok (.invokestatic 44, 3) := by decide +kernel
theorem dX0_span_20 : decode cX0_span 20 = .ok (.ifCond .eq 16, 3) := by decide +kernel
theorem dX0_span_23 : decode cX0_span 23 = .ok (.iload 7, 2) := by decide +kernel
theorem dX0_span_25 : decode cX0_span 25 = .ok (.i2l, 1) := by decide +kernel
theorem dX0_span_26 : decode cX0_span 26 = .ok (.lconst 0, 1) := by decide +kernel
theorem dX0_span_27 : decode cX0_span 27 = .ok (.ldc2_w 83, 3) := by decide +kernel
theorem dX0_span_30 : decode cX0_span 30 = .ok (.invokestatic 40, 3) := by decide +kernel
theorem dX0_span_33 : decode cX0_span 33 = .ok (.ifCond .ne 13, 3) := by decide +kernel
theorem dX0_span_36 : decode cX0_span 36 = .ok (.new 48, 3) := by decide +kernel
theorem dX0_span_39 : decode cX0_span 39 = .ok (.dup, 1) := by decide +kernel
theorem dX0_span_40 : decode cX0_span 40 = .ok (.ldc 85, 2) := by decide +kernel
theorem dX0_span_42 : decode cX0_span 42 = .ok (.invokespecial 52, 3) := by decide +kernel
theorem dX0_span_45 : decode cX0_span 45 = .ok (.athrow, 1) := by decide +kernel
theorem dX0_span_46 : decode cX0_span 46 = .ok (.lload_n 3, 1) := by decide +kernel
theorem dX0_span_47 : decode cX0_span 47 = .ok (.lload_n 1, 1) := by decide +kernel
theorem dX0_span_48 : decode cX0_span 48 = .ok (.lsub, 1) := by decide +kernel
theorem dX0_span_49 : decode cX0_span 49 = .ok (.lstore 8, 2) := by decide +kernel
theorem dX0_span_51 : decode cX0_span 51 = .ok (.iload 7, 2) := by decide +kernel
theorem dX0_span_53 : decode cX0_span 53 = .ok (.iconst 2, 1) := by decide +kernel
theorem dX0_span_54 : decode cX0_span 54 = .ok (.if_icmp .lt 7, 3) := by decide +kernel
theorem dX0_span_57 : decode cX0_span 57 = .ok (.iconst 1, 1) := by decide +kernel
theorem dX0_span_58 : decode cX0_span 58 = .ok (.goto 4, 3) := by decide +kernel
theorem dX0_span_61 : decode cX0_span 61 = .ok (.iconst 0, 1) := by decide +kernel
theorem dX0_span_62 : decode cX0_span 62 = .ok (.istore 10, 2) := by decide +kernel
theorem dX0_span_64 : decode cX0_span 64 = .ok (.iload 10, 2) := by decide +kernel
theorem dX0_span_66 : decode cX0_span 66 = .ok (.ifCond .eq 14, 3) := by decide +kernel
theorem dX0_span_69 : decode cX0_span 69 = .ok (.aload_n 0, 1) := by decide +kernel
theorem dX0_span_70 : decode cX0_span 70 = .ok (.lload 8, 2) := by decide +kernel
theorem dX0_span_72 : decode cX0_span 72 = .ok (.lload 5, 2) := by decide +kernel
theorem dX0_span_74 : decode cX0_span 74 = .ok (.invokevirtual 87, 3) := by decide +kernel
theorem dX0_span_77 : decode cX0_span 77 = .ok (.goto 12, 3) := by decide +kernel
theorem dX0_span_80 : decode cX0_span 80 = .ok (.aload_n 0, 1) := by decide +kernel
theorem dX0_span_81 : decode cX0_span 81 = .ok (.lload 8, 2) := by decide +kernel
theorem dX0_span_83 : decode cX0_span 83 = .ok (.lload 5, 2) := by decide +kernel
theorem dX0_span_85 : decode cX0_span 85 = .ok (.iconst 1, 1) := by decide +kernel
theorem dX0_span_86 : decode cX0_span 86 = .ok (.invokevirtual 91, 3) := by decide +kernel
theorem dX0_span_89 : decode cX0_span 89 = .ok (.lstore 11, 2) := by decide +kernel
theorem dX0_span_91 : decode cX0_span 91 = .ok (.lload 11, 2) := by decide +kernel
theorem dX0_span_93 : decode cX0_span 93 = .ok (.aload_n 0, 1) := by decide +kernel
theorem dX0_span_94 : decode cX0_span 94 = .ok (.invokevirtual 95, 3) := by decide +kernel
theorem dX0_span_97 : decode cX0_span 97 = .ok (.lcmp, 1) := by decide +kernel
theorem dX0_span_98 : decode cX0_span 98 = .ok (.ifCond .le 5, 3) := by decide +kernel
theorem dX0_span_101 : decode cX0_span 101 = .ok (.iconst (-1), 1) := by decide +kernel
theorem dX0_span_102 : decode cX0_span 102 = .ok (.ireturn, 1) := by decide +kernel
theorem dX0_span_103 : decode cX0_span 103 = .ok (.iload 7, 2) := by decide +kernel
theorem dX0_span_105 : decode cX0_span 105 = .ok (.ifCond .eq 9, 3) := by decide +kernel
theorem dX0_span_108 : decode cX0_span 108 = .ok (.iload 7, 2) := by decide +kernel
theorem dX0_span_110 : decode cX0_span 110 = .ok (.iconst 2, 1) := by decide +kernel
theorem dX0_span_111 : decode cX0_span 111 = .ok (.if_icmp .ne 7, 3) := by decide +kernel
theorem dX0_span_114 : decode cX0_span 114 = .ok (.iconst 1, 1) := by decide +kernel
theorem dX0_span_115 : decode cX0_span 115 = .ok (.goto 4, 3) := by decide +kernel
theorem dX0_span_118 : decode cX0_span 118 = .ok (.iconst 0, 1) := by decide +kernel
theorem dX0_span_119 : decode cX0_span 119 = .ok (.istore 13, 2) := by decide +kernel
theorem dX0_span_121 : decode cX0_span 121 = .ok (.iload 13, 2) := by decide +kernel
theorem dX0_span_123 : decode cX0_span 123 = .ok (.ifCond .eq 8, 3) := by decide +kernel
theorem dX0_span_126 : decode cX0_span 126 = .ok (.lload 11, 2) := by decide +kernel
theorem dX0_span_128 : decode cX0_span 128 = .ok (.goto 14, 3) := by decide +kernel
theorem dX0_span_131 : decode cX0_span 131 = .ok (.aload_n 0, 1) := by decide +kernel
theorem dX0_span_132 : decode cX0_span 132 = .ok (.lload 8, 2) := by decide +kernel
theorem dX0_span_134 : decode cX0_span 134 = .ok (.lload 11, 2) := by decide +kernel
theorem dX0_span_136 : decode cX0_span 136 = .ok (.iconst 0, 1) := by decide +kernel
theorem dX0_span_137 : decode cX0_span 137 = .ok (.invokevirtual 91, 3) := by decide +kernel
theorem dX0_span_140 : decode cX0_span 140 = .ok (.lconst 1, 1) := by decide +kernel
theorem dX0_span_141 : decode cX0_span 141 = .ok (.lsub, 1) := by decide +kernel
theorem dX0_span_142 : decode cX0_span 142 = .ok (.l2i, 1) := by decide +kernel
theorem dX0_span_143 : decode cX0_span 143 = .ok (.ireturn, 1) := by decide +kernel
theorem dX0_squat_0 : decode cX0_squat 0 = .ok (.lload_n 1, 1) := by decide +kernel
theorem dX0_squat_1 : decode cX0_squat 1 = .ok (.lconst 0, 1) := by decide +kernel
theorem dX0_squat_2 : decode cX0_squat 2 = .ok (.ldc2_w 99, 3) := by decide +kernel
theorem dX0_squat_5 : decode cX0_squat 5 = .ok (.invokestatic 40, 3) := by decide +kernel
theorem dX0_squat_8 : decode cX0_squat 8 = .ok (.ifCond .eq 14, 3) := by decide +kernel
theorem dX0_squat_11 : decode cX0_squat 11 = .ok (.lload_n 3, 1) := by decide +kernel
theorem dX0_squat_12 : decode cX0_squat 12 = .ok (.lconst 0, 1) := by decide +kernel
theorem dX0_squat_13 : decode cX0_squat 13 = .ok (.ldc2_w 101, 3) := by decide +kernel
theorem dX0_squat_16 : decode cX0_squat 16 = .ok (.invokestatic 40, 3) := by decide +kernel
theorem dX0_squat_19 : decode cX0_squat 19 = .ok (.ifCond .ne 13, 3) := by decide +kernel
theorem dX0_squat_22 : decode cX0_squat 22 = .ok (.new 48, 3) := by decide +kernel
theorem dX0_squat_25 : decode cX0_squat 25 = .ok (.dup, 1) := by decide +kernel
theorem dX0_squat_26 : decode cX0_squat 26 = .ok (.ldc 103, 2) := by decide +kernel
theorem dX0_squat_28 : decode cX0_squat 28 = .ok (.invokespecial 52, 3) := by decide +kernel
theorem dX0_squat_31 : decode cX0_squat 31 = .ok (.athrow, 1) := by decide +kernel
theorem dX0_squat_32 : decode cX0_squat 32 = .ok (.lload_n 1, 1) := by decide +kernel
theorem dX0_squat_33 : decode cX0_squat 33 = .ok (.lload_n 3, 1) := by decide +kernel
theorem dX0_squat_34 : decode cX0_squat 34 = .ok (.invokestatic 105, 3) := by decide +kernel
theorem dX0_squat_37 : decode cX0_squat 37 = .ok (.lreturn, 1) := by decide +kernel
theorem dX0_passing_0 : decode cX0_passing 0 = .ok (.lload_n 1, 1) := by decide +kernel
theorem dX0_passing_1 : decode cX0_passing 1 = .ok (.lconst 0, 1) := by decide +kernel
theorem dX0_passing_2 : decode cX0_passing 2 = .ok (.ldc2_w 108, 3) := by decide +kernel
theorem dX0_passing_5 : decode cX0_passing 5 = .ok (.invokestatic 40, 3) := by decide +kernel
theorem dX0_passing_8 : decode cX0_passing 8 = .ok (.ifCond .eq 14, 3) := by decide +kernel
theorem dX0_passing_11 : decode cX0_passing 11 = .ok (.lload_n 3, 1) := by decide +kernel
theorem dX0_passing_12 : decode cX0_passing 12 = .ok (.lconst 0, 1) := by decide +kernel
theorem dX0_passing_13 : decode cX0_passing 13 = .ok (.ldc2_w 99, 3) := by decide +kernel
theorem dX0_passing_16 : decode cX0_passing 16 = .ok (.invokestatic 40, 3) := by decide +kernel
theorem dX0_passing_19 : decode cX0_passing 19 = .ok (.ifCond .ne 13, 3) := by decide +kernel
theorem dX0_passing_22 : decode cX0_passing 22 = .ok (.new 48, 3) := by decide +kernel
theorem dX0_passing_25 : decode cX0_passing 25 = .ok (.dup, 1) := by decide +kernel
theorem dX0_passing_26 : decode cX0_passing 26 = .ok (.ldc 110, 2) := by decide +kernel
theorem dX0_passing_28 : decode cX0_passing 28 = .ok (.invokespecial 52, 3) := by decide +kernel
theorem dX0_passing_31 : decode cX0_passing 31 = .ok (.athrow, 1) := by decide +kernel
theorem dX0_passing_32 : decode cX0_passing 32 = .ok (.lload_n 3, 1) := by decide +kernel
theorem dX0_passing_33 : decode cX0_passing 33 = .ok (.lconst 0, 1) := by decide +kernel
theorem dX0_passing_34 : decode cX0_passing 34 = .ok (.lcmp, 1) := by decide +kernel
theorem dX0_passing_35 : decode cX0_passing 35 = .ok (.ifCond .ne 13, 3) := by decide +kernel
theorem dX0_passing_38 : decode cX0_passing 38 = .ok (.new 112, 3) := by decide +kernel
theorem dX0_passing_41 : decode cX0_passing 41 = .ok (.dup, 1) := by decide +kernel
theorem dX0_passing_42 : decode cX0_passing 42 = .ok (.ldc 114, 2) := by decide +kernel
theorem dX0_passing_44 : decode cX0_passing 44 = .ok (.invokespecial 116, 3) := by decide +kernel
theorem dX0_passing_47 : decode cX0_passing 47 = .ok (.athrow, 1) := by decide +kernel
theorem dX0_passing_48 : decode cX0_passing 48 = .ok (.lload_n 1, 1) := by decide +kernel
theorem dX0_passing_49 : decode cX0_passing 49 = .ok (.lload_n 3, 1) := by decide +kernel
theorem dX0_passing_50 : decode cX0_passing 50 = .ok (.invokestatic 117, 3) := by decide +kernel
theorem dX0_passing_53 : decode cX0_passing 53 = .ok (.lreturn, 1) := by decide +kernel
theorem dX0_cosine_0 : decode cX0_cosine 0 = .ok (.iload_n 1, 1) := by decide +kernel
theorem dX0_cosine_1 : decode cX0_cosine 1 = .ok (.ifCond .lt 11, 3) := by decide +kernel
theorem dX0_cosine_4 : decode cX0_cosine 4 = .ok (.iload_n 1, 1) := by decide +kernel
theorem dX0_cosine_5 : decode cX0_cosine 5 = .ok (.getstatic 120, 3) := by decide +kernel
theorem dX0_cosine_8 : decode cX0_cosine 8 = .ok (.arraylength, 1) := by decide +kernel
theorem dX0_cosine_9 : decode cX0_cosine 9 = .ok (.if_icmp .lt 13, 3) := by decide +kernel
theorem dX0_cosine_12 : decode cX0_cosine 12 = .ok (.new 124, 3) := by decide +kernel
theorem dX0_cosine_15 : decode cX0_cosine 15 = .ok (.dup, 1) := by decide +kernel
theorem dX0_cosine_16 : decode cX0_cosine 16 = .ok (.ldc 126, 2) := by decide +kernel
theorem dX0_cosine_18 : decode cX0_cosine 18 = .ok (.invokespecial 128, 3) := by decide +kernel
theorem dX0_cosine_21 : decode cX0_cosine 21 = .ok (.athrow, 1) := by decide +kernel
theorem dX0_cosine_22 : decode cX0_cosine 22 = .ok (.getstatic 120, 3) := by decide +kernel
theorem dX0_cosine_25 : decode cX0_cosine 25 = .ok (.iload_n 1, 1) := by decide +kernel
theorem dX0_cosine_26 : decode cX0_cosine 26 = .ok (.iaload, 1) := by decide +kernel
theorem dX0_cosine_27 : decode cX0_cosine 27 = .ok (.ireturn, 1) := by decide +kernel
theorem dX0_draft_0 : decode cX0_draft 0 = .ok (.lload_n 1, 1) := by decide +kernel
theorem dX0_draft_1 : decode cX0_draft 1 = .ok (.lconst 0, 1) := by decide +kernel
theorem dX0_draft_2 : decode cX0_draft 2 = .ok (.ldc2_w 101, 3) := by decide +kernel
theorem dX0_draft_5 : decode cX0_draft 5 = .ok (.invokestatic 40, 3) := by decide +kernel
theorem dX0_draft_8 : decode cX0_draft 8 = .ok (.ifCond .eq 18, 3) := by decide +kernel
theorem dX0_draft_11 : decode cX0_draft 11 = .ok (.lload_n 3, 1) := by decide +kernel
theorem dX0_draft_12 : decode cX0_draft 12 = .ok (.invokestatic 129, 3) := by decide +kernel
theorem dX0_draft_15 : decode cX0_draft 15 = .ok (.ifCond .eq 11, 3) := by decide +kernel
theorem dX0_draft_18 : decode cX0_draft 18 = .ok (.lload 5, 2) := by decide +kernel
theorem dX0_draft_20 : decode cX0_draft 20 = .ok (.invokestatic 129, 3) := by decide +kernel
theorem dX0_draft_23 : decode cX0_draft 23 = .ok (.ifCond .ne 13, 3) := by decide +kernel
theorem dX0_draft_26 : decode cX0_draft 26 = .ok (.new 48, 3) := by decide +kernel
theorem dX0_draft_29 : decode cX0_draft 29 = .ok (.dup, 1) := by decide +kernel
theorem dX0_draft_30 : decode cX0_draft 30 = .ok (.ldc 132, 2) := by decide +kernel
theorem dX0_draft_32 : decode cX0_draft 32 = .ok (.invokespecial 52, 3) := by decide +kernel
theorem dX0_draft_35 : decode cX0_draft 35 = .ok (.athrow, 1) := by decide +kernel
theorem dX0_draft_36 : decode cX0_draft 36 = .ok (.lload_n 1, 1) := by decide +kernel
theorem dX0_draft_37 : decode cX0_draft 37 = .ok (.lload_n 3, 1) := by decide +kernel
theorem dX0_draft_38 : decode cX0_draft 38 = .ok (.lmul, 1) := by decide +kernel
theorem dX0_draft_39 : decode cX0_draft 39 = .ok (.lload 5, 2) := by decide +kernel
theorem dX0_draft_41 : decode cX0_draft 41 = .ok (.invokestatic 134, 3) := by decide +kernel
theorem dX0_draft_44 : decode cX0_draft 44 = .ok (.lreturn, 1) := by decide +kernel
theorem dX0_place_0 : decode cX0_place 0 = .ok (.lload_n 1, 1) := by decide +kernel
theorem dX0_place_1 : decode cX0_place 1 = .ok (.lconst 0, 1) := by decide +kernel
theorem dX0_place_2 : decode cX0_place 2 = .ok (.ldc2_w 108, 3) := by decide +kernel
theorem dX0_place_5 : decode cX0_place 5 = .ok (.invokestatic 40, 3) := by decide +kernel
theorem dX0_place_8 : decode cX0_place 8 = .ok (.ifCond .eq 10, 3) := by decide +kernel
theorem dX0_place_11 : decode cX0_place 11 = .ok (.lload_n 3, 1) := by decide +kernel
theorem dX0_place_12 : decode cX0_place 12 = .ok (.invokestatic 44, 3) := by decide +kernel
theorem dX0_place_15 : decode cX0_place 15 = .ok (.ifCond .ne 13, 3) := by decide +kernel
theorem dX0_place_18 : decode cX0_place 18 = .ok (.new 48, 3) := by decide +kernel
theorem dX0_place_21 : decode cX0_place 21 = .ok (.dup, 1) := by decide +kernel
theorem dX0_place_22 : decode cX0_place 22 = .ok (.ldc 137, 2) := by decide +kernel
theorem dX0_place_24 : decode cX0_place 24 = .ok (.invokespecial 52, 3) := by decide +kernel
theorem dX0_place_27 : decode cX0_place 27 = .ok (.athrow, 1) := by decide +kernel
theorem dX0_place_28 : decode cX0_place 28 = .ok (.aload_n 0, 1) := by decide +kernel
theorem dX0_place_29 : decode cX0_place 29 = .ok (.getfield 35, 3) := by decide +kernel
theorem dX0_place_32 : decode cX0_place 32 = .ok (.ifCond .le 29, 3) := by decide +kernel
theorem dX0_place_35 : decode cX0_place 35 = .ok (.lload_n 1, 1) := by decide +kernel
theorem dX0_place_36 : decode cX0_place 36 = .ok (.aload_n 0, 1) := by decide +kernel
theorem dX0_place_37 : decode cX0_place 37 = .ok (.getfield 29, 3) := by decide +kernel
theorem dX0_place_40 : decode cX0_place 40 = .ok (.aload_n 0, 1) := by decide +kernel
theorem dX0_place_41 : decode cX0_place 41 = .ok (.getfield 35, 3) := by decide +kernel
theorem dX0_place_44 : decode cX0_place 44 = .ok (.iconst 1, 1) := by decide +kernel
theorem dX0_place_45 : decode cX0_place 45 = .ok (.isub, 1) := by decide +kernel
theorem dX0_place_46 : decode cX0_place 46 = .ok (.laload, 1) := by decide +kernel
theorem dX0_place_47 : decode cX0_place 47 = .ok (.lcmp, 1) := by decide +kernel
theorem dX0_place_48 : decode cX0_place 48 = .ok (.ifCond .gt 13, 3) := by decide +kernel
theorem dX0_place_51 : decode cX0_place 51 = .ok (.new 48, 3) := by decide +kernel
theorem dX0_place_54 : decode cX0_place 54 = .ok (.dup, 1) := by decide +kernel
theorem dX0_place_55 : decode cX0_place 55 = .ok (.ldc 139, 2) := by decide +kernel
theorem dX0_place_57 : decode cX0_place 57 = .ok (.invokespecial 52, 3) := by decide +kernel
theorem dX0_place_60 : decode cX0_place 60 = .ok (.athrow, 1) := by decide +kernel
theorem dX0_place_61 : decode cX0_place 61 = .ok (.aload_n 0, 1) := by decide +kernel
theorem dX0_place_62 : decode cX0_place 62 = .ok (.getfield 35, 3) := by decide +kernel
theorem dX0_place_65 : decode cX0_place 65 = .ok (.bipush 12, 2) := by decide +kernel
theorem dX0_place_67 : decode cX0_place 67 = .ok (.if_icmp .lt 13, 3) := by decide +kernel
theorem dX0_place_70 : decode cX0_place 70 = .ok (.new 57, 3) := by decide +kernel
theorem dX0_place_73 : decode cX0_place 73 = .ok (.dup, 1) := by decide +kernel
theorem dX0_place_74 : decode cX0_place 74 = .ok (.ldc 141, 2) := by decide +kernel
theorem dX0_place_76 : decode cX0_place 76 = .ok (.invokespecial 61, 3) := by decide +kernel
theorem dX0_place_79 : decode cX0_place 79 = .ok (.athrow, 1) := by decide +kernel
theorem dX0_place_80 : decode cX0_place 80 = .ok (.aload_n 0, 1) := by decide +kernel
theorem dX0_place_81 : decode cX0_place 81 = .ok (.getfield 29, 3) := by decide +kernel
theorem dX0_place_84 : decode cX0_place 84 = .ok (.aload_n 0, 1) := by decide +kernel
theorem dX0_place_85 : decode cX0_place 85 = .ok (.getfield 35, 3) := by decide +kernel
theorem dX0_place_88 : decode cX0_place 88 = .ok (.lload_n 1, 1) := by decide +kernel
theorem dX0_place_89 : decode cX0_place 89 = .ok (.lastore, 1) := by decide +kernel
theorem dX0_place_90 : decode cX0_place 90 = .ok (.aload_n 0, 1) := by decide +kernel
theorem dX0_place_91 : decode cX0_place 91 = .ok (.getfield 32, 3) := by decide +kernel
theorem dX0_place_94 : decode cX0_place 94 = .ok (.aload_n 0, 1) := by decide +kernel
theorem dX0_place_95 : decode cX0_place 95 = .ok (.getfield 35, 3) := by decide +kernel
theorem dX0_place_98 : decode cX0_place 98 = .ok (.lload_n 3, 1) := by decide +kernel
theorem dX0_place_99 : decode cX0_place 99 = .ok (.lastore, 1) := by decide +kernel
theorem dX0_place_100 : decode cX0_place 100 = .ok (.aload_n 0, 1) := by decide +kernel
theorem dX0_place_101 : decode cX0_place 101 = .ok (.dup, 1) := by decide +kernel
theorem dX0_place_102 : decode cX0_place 102 = .ok (.getfield 35, 3) := by decide +kernel
theorem dX0_place_105 : decode cX0_place 105 = .ok (.iconst 1, 1) := by decide +kernel
theorem dX0_place_106 : decode cX0_place 106 = .ok (.iadd, 1) := by decide +kernel
theorem dX0_place_107 : decode cX0_place 107 = .ok (.putfield 35, 3) := by decide +kernel
theorem dX0_place_110 : decode cX0_place 110 = .ok (.aload_n 0, 1) := by decide +kernel
theorem dX0_place_111 : decode cX0_place 111 = .ok (.getfield 35, 3) := by decide +kernel
theorem dX0_place_114 : decode cX0_place 114 = .ok (.iconst 1, 1) := by decide +kernel
theorem dX0_place_115 : decode cX0_place 115 = .ok (.isub, 1) := by decide +kernel
theorem dX0_place_116 : decode cX0_place 116 = .ok (.ireturn, 1) := by decide +kernel
theorem dX0_depth_0 : decode cX0_depth 0 = .ok (.iload_n 1, 1) := by decide +kernel
theorem dX0_depth_1 : decode cX0_depth 1 = .ok (.ifCond .lt 11, 3) := by decide +kernel
theorem dX0_depth_4 : decode cX0_depth 4 = .ok (.iload_n 1, 1) := by decide +kernel
theorem dX0_depth_5 : decode cX0_depth 5 = .ok (.aload_n 0, 1) := by decide +kernel
theorem dX0_depth_6 : decode cX0_depth 6 = .ok (.getfield 35, 3) := by decide +kernel
theorem dX0_depth_9 : decode cX0_depth 9 = .ok (.if_icmp .lt 13, 3) := by decide +kernel
theorem dX0_depth_12 : decode cX0_depth 12 = .ok (.new 143, 3) := by decide +kernel
theorem dX0_depth_15 : decode cX0_depth 15 = .ok (.dup, 1) := by decide +kernel
theorem dX0_depth_16 : decode cX0_depth 16 = .ok (.ldc 145, 2) := by decide +kernel
theorem dX0_depth_18 : decode cX0_depth 18 = .ok (.invokespecial 147, 3) := by decide +kernel
theorem dX0_depth_21 : decode cX0_depth 21 = .ok (.athrow, 1) := by decide +kernel
theorem dX0_depth_22 : decode cX0_depth 22 = .ok (.aload_n 0, 1) := by decide +kernel
theorem dX0_depth_23 : decode cX0_depth 23 = .ok (.lload_n 2, 1) := by decide +kernel
theorem dX0_depth_24 : decode cX0_depth 24 = .ok (.invokevirtual 65, 3) := by decide +kernel
theorem dX0_depth_27 : decode cX0_depth 27 = .ok (.ifCond .ne 13, 3) := by decide +kernel
theorem dX0_depth_30 : decode cX0_depth 30 = .ok (.new 48, 3) := by decide +kernel
theorem dX0_depth_33 : decode cX0_depth 33 = .ok (.dup, 1) := by decide +kernel
theorem dX0_depth_34 : decode cX0_depth 34 = .ok (.ldc 68, 2) := by decide +kernel
theorem dX0_depth_36 : decode cX0_depth 36 = .ok (.invokespecial 52, 3) := by decide +kernel
theorem dX0_depth_39 : decode cX0_depth 39 = .ok (.athrow, 1) := by decide +kernel
theorem dX0_depth_40 : decode cX0_depth 40 = .ok (.aload_n 0, 1) := by decide +kernel
theorem dX0_depth_41 : decode cX0_depth 41 = .ok (.getfield 32, 3) := by decide +kernel
theorem dX0_depth_44 : decode cX0_depth 44 = .ok (.iload_n 1, 1) := by decide +kernel
theorem dX0_depth_45 : decode cX0_depth 45 = .ok (.laload, 1) := by decide +kernel
theorem dX0_depth_46 : decode cX0_depth 46 = .ok (.aload_n 0, 1) := by decide +kernel
theorem dX0_depth_47 : decode cX0_depth 47 = .ok (.lload_n 2, 1) := by decide +kernel
theorem dX0_depth_48 : decode cX0_depth 48 = .ok (.invokevirtual 70, 3) := by decide +kernel
theorem dX0_depth_51 : decode cX0_depth 51 = .ok (.ladd, 1) := by decide +kernel
theorem dX0_depth_52 : decode cX0_depth 52 = .ok (.lreturn, 1) := by decide +kernel
theorem dX0_sail_0 : decode cX0_sail 0 = .ok (.aload_n 0, 1) := by decide +kernel
theorem dX0_sail_1 : decode cX0_sail 1 = .ok (.lload 5, 2) := by decide +kernel
theorem dX0_sail_3 : decode cX0_sail 3 = .ok (.invokevirtual 65, 3) := by decide +kernel
theorem dX0_sail_6 : decode cX0_sail 6 = .ok (.ifCond .eq 10, 3) := by decide +kernel
theorem dX0_sail_9 : decode cX0_sail 9 = .ok (.lload_n 1, 1) := by decide +kernel
theorem dX0_sail_10 : decode cX0_sail 10 = .ok (.invokestatic 44, 3) := by decide +kernel
theorem dX0_sail_13 : decode cX0_sail 13 = .ok (.ifCond .ne 13, 3) := by decide +kernel
theorem dX0_sail_16 : decode cX0_sail 16 = .ok (.new 48, 3) := by decide +kernel
theorem dX0_sail_19 : decode cX0_sail 19 = .ok (.dup, 1) := by decide +kernel
theorem dX0_sail_20 : decode cX0_sail 20 = .ok (.ldc 148, 2) := by decide +kernel
theorem dX0_sail_22 : decode cX0_sail 22 = .ok (.invokespecial 52, 3) := by decide +kernel
theorem dX0_sail_25 : decode cX0_sail 25 = .ok (.athrow, 1) := by decide +kernel
theorem dX0_sail_26 : decode cX0_sail 26 = .ok (.lload_n 3, 1) := by decide +kernel
theorem dX0_sail_27 : decode cX0_sail 27 = .ok (.lconst 0, 1) := by decide +kernel
theorem dX0_sail_28 : decode cX0_sail 28 = .ok (.ldc2_w 99, 3) := by decide +kernel
theorem dX0_sail_31 : decode cX0_sail 31 = .ok (.invokestatic 40, 3) := by decide +kernel
theorem dX0_sail_34 : decode cX0_sail 34 = .ok (.ifCond .eq 14, 3) := by decide +kernel
theorem dX0_sail_37 : decode cX0_sail 37 = .ok (.iload 7, 2) := by decide +kernel
theorem dX0_sail_39 : decode cX0_sail 39 = .ok (.i2l, 1) := by decide +kernel
theorem dX0_sail_40 : decode cX0_sail 40 = .ok (.lconst 0, 1) := by decide +kernel
theorem dX0_sail_41 : decode cX0_sail 41 = .ok (.lconst 1, 1) := by decide +kernel
theorem dX0_sail_42 : decode cX0_sail 42 = .ok (.invokestatic 40, 3) := by decide +kernel
theorem dX0_sail_45 : decode cX0_sail 45 = .ok (.ifCond .ne 13, 3) := by decide +kernel
theorem dX0_sail_48 : decode cX0_sail 48 = .ok (.new 48, 3) := by decide +kernel
theorem dX0_sail_51 : decode cX0_sail 51 = .ok (.dup, 1) := by decide +kernel
theorem dX0_sail_52 : decode cX0_sail 52 = .ok (.ldc 150, 2) := by decide +kernel
theorem dX0_sail_54 : decode cX0_sail 54 = .ok (.invokespecial 52, 3) := by decide +kernel
theorem dX0_sail_57 : decode cX0_sail 57 = .ok (.athrow, 1) := by decide +kernel
theorem dX0_sail_58 : decode cX0_sail 58 = .ok (.aload_n 0, 1) := by decide +kernel
theorem dX0_sail_59 : decode cX0_sail 59 = .ok (.getfield 35, 3) := by decide +kernel
theorem dX0_sail_62 : decode cX0_sail 62 = .ok (.ifCond .ne 13, 3) := by decide +kernel
theorem dX0_sail_65 : decode cX0_sail 65 = .ok (.new 57, 3) := by decide +kernel
theorem dX0_sail_68 : decode cX0_sail 68 = .ok (.dup, 1) := by decide +kernel
theorem dX0_sail_69 : decode cX0_sail 69 = .ok (.ldc 152, 2) := by decide +kernel
theorem dX0_sail_71 : decode cX0_sail 71 = .ok (.invokespecial 61, 3) := by decide +kernel
theorem dX0_sail_74 : decode cX0_sail 74 = .ok (.athrow, 1) := by decide +kernel
theorem dX0_sail_75 : decode cX0_sail 75 = .ok (.lload_n 3, 1) := by decide +kernel
theorem dX0_sail_76 : decode cX0_sail 76 = .ok (.lconst 0, 1) := by decide +kernel
theorem dX0_sail_77 : decode cX0_sail 77 = .ok (.lcmp, 1) := by decide +kernel
theorem dX0_sail_78 : decode cX0_sail 78 = .ok (.ifCond .ne 13, 3) := by decide +kernel
theorem dX0_sail_81 : decode cX0_sail 81 = .ok (.new 112, 3) := by decide +kernel
theorem dX0_sail_84 : decode cX0_sail 84 = .ok (.dup, 1) := by decide +kernel
theorem dX0_sail_85 : decode cX0_sail 85 = .ok (.ldc 114, 2) := by decide +kernel
theorem dX0_sail_87 : decode cX0_sail 87 = .ok (.invokespecial 116, 3) := by decide +kernel
theorem dX0_sail_90 : decode cX0_sail 90 = .ok (.athrow, 1) := by decide +kernel
theorem dX0_sail_91 : decode cX0_sail 91 = .ok (.lload_n 1, 1) := by decide +kernel
theorem dX0_sail_92 : decode cX0_sail 92 = .ok (.lconst 0, 1) := by decide +kernel
theorem dX0_sail_93 : decode cX0_sail 93 = .ok (.lcmp, 1) := by decide +kernel
theorem dX0_sail_94 : decode cX0_sail 94 = .ok (.ifCond .ge 7, 3) := by decide +kernel
theorem dX0_sail_97 : decode cX0_sail 97 = .ok (.lload_n 1, 1) := by decide +kernel
theorem dX0_sail_98 : decode cX0_sail 98 = .ok (.goto 10, 3) := by decide +kernel
theorem dX0_sail_101 : decode cX0_sail 101 = .ok (.lload_n 1, 1) := by decide +kernel
theorem dX0_sail_102 : decode cX0_sail 102 = .ok (.lload_n 3, 1) := by decide +kernel
theorem dX0_sail_103 : decode cX0_sail 103 = .ok (.lload_n 1, 1) := by decide +kernel
theorem dX0_sail_104 : decode cX0_sail 104 = .ok (.invokestatic 105, 3) := by decide +kernel
theorem dX0_sail_107 : decode cX0_sail 107 = .ok (.ladd, 1) := by decide +kernel
theorem dX0_sail_108 : decode cX0_sail 108 = .ok (.lstore 8, 2) := by decide +kernel
theorem dX0_sail_110 : decode cX0_sail 110 = .ok (.aload_n 0, 1) := by decide +kernel
theorem dX0_sail_111 : decode cX0_sail 111 = .ok (.lload 8, 2) := by decide +kernel
theorem dX0_sail_113 : decode cX0_sail 113 = .ok (.lload_n 3, 1) := by decide +kernel
theorem dX0_sail_114 : decode cX0_sail 114 = .ok (.lload 5, 2) := by decide +kernel
theorem dX0_sail_116 : decode cX0_sail 116 = .ok (.invokevirtual 154, 3) := by decide +kernel
theorem dX0_sail_119 : decode cX0_sail 119 = .ok (.lstore 10, 2) := by decide +kernel
theorem dX0_sail_121 : decode cX0_sail 121 = .ok (.lload 10, 2) := by decide +kernel
theorem dX0_sail_123 : decode cX0_sail 123 = .ok (.aload_n 0, 1) := by decide +kernel
theorem dX0_sail_124 : decode cX0_sail 124 = .ok (.invokevirtual 95, 3) := by decide +kernel
theorem dX0_sail_127 : decode cX0_sail 127 = .ok (.lcmp, 1) := by decide +kernel
theorem dX0_sail_128 : decode cX0_sail 128 = .ok (.ifCond .le 5, 3) := by decide +kernel
theorem dX0_sail_131 : decode cX0_sail 131 = .ok (.iconst (-1), 1) := by decide +kernel
theorem dX0_sail_132 : decode cX0_sail 132 = .ok (.ireturn, 1) := by decide +kernel
theorem dX0_sail_133 : decode cX0_sail 133 = .ok (.iload 7, 2) := by decide +kernel
theorem dX0_sail_135 : decode cX0_sail 135 = .ok (.ifCond .ne 8, 3) := by decide +kernel
theorem dX0_sail_138 : decode cX0_sail 138 = .ok (.lload 10, 2) := by decide +kernel
theorem dX0_sail_140 : decode cX0_sail 140 = .ok (.goto 12, 3) := by decide +kernel
theorem dX0_sail_143 : decode cX0_sail 143 = .ok (.aload_n 0, 1) := by decide +kernel
theorem dX0_sail_144 : decode cX0_sail 144 = .ok (.lload 8, 2) := by decide +kernel
theorem dX0_sail_146 : decode cX0_sail 146 = .ok (.lload_n 3, 1) := by decide +kernel
theorem dX0_sail_147 : decode cX0_sail 147 = .ok (.lload 10, 2) := by decide +kernel
theorem dX0_sail_149 : decode cX0_sail 149 = .ok (.invokevirtual 158, 3) := by decide +kernel
theorem dX0_sail_152 : decode cX0_sail 152 = .ok (.l2i, 1) := by decide +kernel
theorem dX0_sail_153 : decode cX0_sail 153 = .ok (.ireturn, 1) := by decide +kernel
theorem dX0_read_0 : decode cX0_read 0 = .ok (.iload_n 2, 1) := by decide +kernel
theorem dX0_read_1 : decode cX0_read 1 = .ok (.ifCond .eq 8, 3) := by decide +kernel
theorem dX0_read_4 : decode cX0_read 4 = .ok (.iload_n 2, 1) := by decide +kernel
theorem dX0_read_5 : decode cX0_read 5 = .ok (.iconst 1, 1) := by decide +kernel
theorem dX0_read_6 : decode cX0_read 6 = .ok (.if_icmp .ne 7, 3) := by decide +kernel
theorem dX0_read_9 : decode cX0_read 9 = .ok (.iconst 1, 1) := by decide +kernel
theorem dX0_read_10 : decode cX0_read 10 = .ok (.goto 4, 3) := by decide +kernel
theorem dX0_read_13 : decode cX0_read 13 = .ok (.iconst 0, 1) := by decide +kernel
theorem dX0_read_14 : decode cX0_read 14 = .ok (.istore_n 3, 1) := by decide +kernel
theorem dX0_read_15 : decode cX0_read 15 = .ok (.iload_n 3, 1) := by decide +kernel
theorem dX0_read_16 : decode cX0_read 16 = .ok (.ifCond .eq 35, 3) := by decide +kernel
theorem dX0_read_19 : decode cX0_read 19 = .ok (.iload_n 1, 1) := by decide +kernel
theorem dX0_read_20 : decode cX0_read 20 = .ok (.ifCond .lt 31, 3) := by decide +kernel
theorem dX0_read_23 : decode cX0_read 23 = .ok (.iload_n 1, 1) := by decide +kernel
theorem dX0_read_24 : decode cX0_read 24 = .ok (.aload_n 0, 1) := by decide +kernel
theorem dX0_read_25 : decode cX0_read 25 = .ok (.getfield 16, 3) := by decide +kernel
theorem dX0_read_28 : decode cX0_read 28 = .ok (.if_icmp .ge 23, 3) := by decide +kernel
theorem dX0_read_31 : decode cX0_read 31 = .ok (.iload_n 2, 1) := by decide +kernel
theorem dX0_read_32 : decode cX0_read 32 = .ok (.ifCond .ne 12, 3) := by decide +kernel
theorem dX0_read_35 : decode cX0_read 35 = .ok (.aload_n 0, 1) := by decide +kernel
theorem dX0_read_36 : decode cX0_read 36 = .ok (.getfield 9, 3) := by decide +kernel
theorem dX0_read_39 : decode cX0_read 39 = .ok (.iload_n 1, 1) := by decide +kernel
theorem dX0_read_40 : decode cX0_read 40 = .ok (.laload, 1) := by decide +kernel
theorem dX0_read_41 : decode cX0_read 41 = .ok (.goto 9, 3) := by decide +kernel
theorem dX0_read_44 : decode cX0_read 44 = .ok (.aload_n 0, 1) := by decide +kernel
theorem dX0_read_45 : decode cX0_read 45 = .ok (.getfield 13, 3) := by decide +kernel
theorem dX0_read_48 : decode cX0_read 48 = .ok (.iload_n 1, 1) := by decide +kernel
theorem dX0_read_49 : decode cX0_read 49 = .ok (.laload, 1) := by decide +kernel
theorem dX0_read_50 : decode cX0_read 50 = .ok (.lreturn, 1) := by decide +kernel
theorem dX0_read_51 : decode cX0_read 51 = .ok (.iload_n 2, 1) := by decide +kernel
theorem dX0_read_52 : decode cX0_read 52 = .ok (.iconst 2, 1) := by decide +kernel
theorem dX0_read_53 : decode cX0_read 53 = .ok (.if_icmp .eq 8, 3) := by decide +kernel
theorem dX0_read_56 : decode cX0_read 56 = .ok (.iload_n 2, 1) := by decide +kernel
theorem dX0_read_57 : decode cX0_read 57 = .ok (.iconst 3, 1) := by decide +kernel
theorem dX0_read_58 : decode cX0_read 58 = .ok (.if_icmp .ne 7, 3) := by decide +kernel
theorem dX0_read_61 : decode cX0_read 61 = .ok (.iconst 1, 1) := by decide +kernel
theorem dX0_read_62 : decode cX0_read 62 = .ok (.goto 4, 3) := by decide +kernel
theorem dX0_read_65 : decode cX0_read 65 = .ok (.iconst 0, 1) := by decide +kernel
theorem dX0_read_66 : decode cX0_read 66 = .ok (.istore 4, 2) := by decide +kernel
theorem dX0_read_68 : decode cX0_read 68 = .ok (.iload 4, 2) := by decide +kernel
theorem dX0_read_70 : decode cX0_read 70 = .ok (.ifCond .eq 49, 3) := by decide +kernel
theorem dX0_read_73 : decode cX0_read 73 = .ok (.iload_n 1, 1) := by decide +kernel
theorem dX0_read_74 : decode cX0_read 74 = .ok (.bipush 100, 2) := by decide +kernel
theorem dX0_read_76 : decode cX0_read 76 = .ok (.if_icmp .lt 43, 3) := by decide +kernel
theorem dX0_read_79 : decode cX0_read 79 = .ok (.iload_n 1, 1) := by decide +kernel
theorem dX0_read_80 : decode cX0_read 80 = .ok (.bipush 100, 2) := by decide +kernel
theorem dX0_read_82 : decode cX0_read 82 = .ok (.isub, 1) := by decide +kernel
theorem dX0_read_83 : decode cX0_read 83 = .ok (.aload_n 0, 1) := by decide +kernel
theorem dX0_read_84 : decode cX0_read 84 = .ok (.getfield 26, 3) := by decide +kernel
theorem dX0_read_87 : decode cX0_read 87 = .ok (.if_icmp .ge 32, 3) := by decide +kernel
theorem dX0_read_90 : decode cX0_read 90 = .ok (.iload_n 1, 1) := by decide +kernel
theorem dX0_read_91 : decode cX0_read 91 = .ok (.bipush 100, 2) := by decide +kernel
theorem dX0_read_93 : decode cX0_read 93 = .ok (.isub, 1) := by decide +kernel
theorem dX0_read_94 : decode cX0_read 94 = .ok (.istore 5, 2) := by decide +kernel
theorem dX0_read_96 : decode cX0_read 96 = .ok (.iload_n 2, 1) := by decide +kernel
theorem dX0_read_97 : decode cX0_read 97 = .ok (.iconst 2, 1) := by decide +kernel
theorem dX0_read_98 : decode cX0_read 98 = .ok (.if_icmp .ne 13, 3) := by decide +kernel
theorem dX0_read_101 : decode cX0_read 101 = .ok (.aload_n 0, 1) := by decide +kernel
theorem dX0_read_102 : decode cX0_read 102 = .ok (.getfield 20, 3) := by decide +kernel
theorem dX0_read_105 : decode cX0_read 105 = .ok (.iload 5, 2) := by decide +kernel
theorem dX0_read_107 : decode cX0_read 107 = .ok (.laload, 1) := by decide +kernel
theorem dX0_read_108 : decode cX0_read 108 = .ok (.goto 10, 3) := by decide +kernel
theorem dX0_read_111 : decode cX0_read 111 = .ok (.aload_n 0, 1) := by decide +kernel
theorem dX0_read_112 : decode cX0_read 112 = .ok (.getfield 23, 3) := by decide +kernel
theorem dX0_read_115 : decode cX0_read 115 = .ok (.iload 5, 2) := by decide +kernel
theorem dX0_read_117 : decode cX0_read 117 = .ok (.laload, 1) := by decide +kernel
theorem dX0_read_118 : decode cX0_read 118 = .ok (.lreturn, 1) := by decide +kernel
theorem dX0_read_119 : decode cX0_read 119 = .ok (.new 143, 3) := by decide +kernel
theorem dX0_read_122 : decode cX0_read 122 = .ok (.dup, 1) := by decide +kernel
theorem dX0_read_123 : decode cX0_read 123 = .ok (.ldc 161, 2) := by decide +kernel
theorem dX0_read_125 : decode cX0_read 125 = .ok (.invokespecial 147, 3) := by decide +kernel
theorem dX0_read_128 : decode cX0_read 128 = .ok (.athrow, 1) := by decide +kernel
theorem dX0_count_0 : decode cX0_count 0 = .ok (.iload_n 1, 1) := by decide +kernel
theorem dX0_count_1 : decode cX0_count 1 = .ok (.tableswitch 62 0 4 #[35, 40, 45, 50, 56], 35) := by decide +kernel
theorem dX0_count_36 : decode cX0_count 36 = .ok (.aload_n 0, 1) := by decide +kernel
theorem dX0_count_37 : decode cX0_count 37 = .ok (.getfield 16, 3) := by decide +kernel
theorem dX0_count_40 : decode cX0_count 40 = .ok (.ireturn, 1) := by decide +kernel
theorem dX0_count_41 : decode cX0_count 41 = .ok (.aload_n 0, 1) := by decide +kernel
theorem dX0_count_42 : decode cX0_count 42 = .ok (.getfield 26, 3) := by decide +kernel
theorem dX0_count_45 : decode cX0_count 45 = .ok (.ireturn, 1) := by decide +kernel
theorem dX0_count_46 : decode cX0_count 46 = .ok (.aload_n 0, 1) := by decide +kernel
theorem dX0_count_47 : decode cX0_count 47 = .ok (.getfield 35, 3) := by decide +kernel
theorem dX0_count_50 : decode cX0_count 50 = .ok (.ireturn, 1) := by decide +kernel
theorem dX0_count_51 : decode cX0_count 51 = .ok (.aload_n 0, 1) := by decide +kernel
theorem dX0_count_52 : decode cX0_count 52 = .ok (.invokevirtual 163, 3) := by decide +kernel
theorem dX0_count_55 : decode cX0_count 55 = .ok (.l2i, 1) := by decide +kernel
theorem dX0_count_56 : decode cX0_count 56 = .ok (.ireturn, 1) := by decide +kernel
theorem dX0_count_57 : decode cX0_count 57 = .ok (.aload_n 0, 1) := by decide +kernel
theorem dX0_count_58 : decode cX0_count 58 = .ok (.invokevirtual 95, 3) := by decide +kernel
theorem dX0_count_61 : decode cX0_count 61 = .ok (.l2i, 1) := by decide +kernel
theorem dX0_count_62 : decode cX0_count 62 = .ok (.ireturn, 1) := by decide +kernel
theorem dX0_count_63 : decode cX0_count 63 = .ok (.iconst (-1), 1) := by decide +kernel
theorem dX0_count_64 : decode cX0_count 64 = .ok (.ireturn, 1) := by decide +kernel
theorem dX0_isWithin_0 : decode cX0_isWithin 0 = .ok (.lload_n 0, 1) := by decide +kernel
theorem dX0_isWithin_1 : decode cX0_isWithin 1 = .ok (.lload_n 2, 1) := by decide +kernel
theorem dX0_isWithin_2 : decode cX0_isWithin 2 = .ok (.lcmp, 1) := by decide +kernel
theorem dX0_isWithin_3 : decode cX0_isWithin 3 = .ok (.ifCond .lt 14, 3) := by decide +kernel
theorem dX0_isWithin_6 : decode cX0_isWithin 6 = .ok (.lload_n 0, 1) := by decide +kernel
theorem dX0_isWithin_7 : decode cX0_isWithin 7 = .ok (.lload 4, 2) := by decide +kernel
theorem dX0_isWithin_9 : decode cX0_isWithin 9 = .ok (.lcmp, 1) := by decide +kernel
theorem dX0_isWithin_10 : decode cX0_isWithin 10 = .ok (.ifCond .gt 7, 3) := by decide +kernel
theorem dX0_isWithin_13 : decode cX0_isWithin 13 = .ok (.iconst 1, 1) := by decide +kernel
theorem dX0_isWithin_14 : decode cX0_isWithin 14 = .ok (.goto 4, 3) := by decide +kernel
theorem dX0_isWithin_17 : decode cX0_isWithin 17 = .ok (.iconst 0, 1) := by decide +kernel
theorem dX0_isWithin_18 : decode cX0_isWithin 18 = .ok (.ireturn, 1) := by decide +kernel
theorem dX0_isLevel_0 : decode cX0_isLevel 0 = .ok (.lload_n 0, 1) := by decide +kernel
theorem dX0_isLevel_1 : decode cX0_isLevel 1 = .ok (.ldc2_w 166, 3) := by decide +kernel
theorem dX0_isLevel_4 : decode cX0_isLevel 4 = .ok (.ldc2_w 168, 3) := by decide +kernel
theorem dX0_isLevel_7 : decode cX0_isLevel 7 = .ok (.invokestatic 40, 3) := by decide +kernel
theorem dX0_isLevel_10 : decode cX0_isLevel 10 = .ok (.ireturn, 1) := by decide +kernel
theorem dX0_isDensity_0 : decode cX0_isDensity 0 = .ok (.lload_n 0, 1) := by decide +kernel
theorem dX0_isDensity_1 : decode cX0_isDensity 1 = .ok (.ldc2_w 170, 3) := by decide +kernel
theorem dX0_isDensity_4 : decode cX0_isDensity 4 = .ok (.ldc2_w 172, 3) := by decide +kernel
theorem dX0_isDensity_7 : decode cX0_isDensity 7 = .ok (.invokestatic 40, 3) := by decide +kernel
theorem dX0_isDensity_10 : decode cX0_isDensity 10 = .ok (.ireturn, 1) := by decide +kernel
theorem dX0_dividedUp_0 : decode cX0_dividedUp 0 = .ok (.lload_n 2, 1) := by decide +kernel
theorem dX0_dividedUp_1 : decode cX0_dividedUp 1 = .ok (.lconst 0, 1) := by decide +kernel
theorem dX0_dividedUp_2 : decode cX0_dividedUp 2 = .ok (.lcmp, 1) := by decide +kernel
theorem dX0_dividedUp_3 : decode cX0_dividedUp 3 = .ok (.ifCond .gt 5, 3) := by decide +kernel
theorem dX0_dividedUp_6 : decode cX0_dividedUp 6 = .ok (.lconst 0, 1) := by decide +kernel
theorem dX0_dividedUp_7 : decode cX0_dividedUp 7 = .ok (.lreturn, 1) := by decide +kernel
theorem dX0_dividedUp_8 : decode cX0_dividedUp 8 = .ok (.lload_n 0, 1) := by decide +kernel
theorem dX0_dividedUp_9 : decode cX0_dividedUp 9 = .ok (.lload_n 2, 1) := by decide +kernel
theorem dX0_dividedUp_10 : decode cX0_dividedUp 10 = .ok (.ladd, 1) := by decide +kernel
theorem dX0_dividedUp_11 : decode cX0_dividedUp 11 = .ok (.lconst 1, 1) := by decide +kernel
theorem dX0_dividedUp_12 : decode cX0_dividedUp 12 = .ok (.lsub, 1) := by decide +kernel
theorem dX0_dividedUp_13 : decode cX0_dividedUp 13 = .ok (.lload_n 2, 1) := by decide +kernel
theorem dX0_dividedUp_14 : decode cX0_dividedUp 14 = .ok (.ldiv, 1) := by decide +kernel
theorem dX0_dividedUp_15 : decode cX0_dividedUp 15 = .ok (.lreturn, 1) := by decide +kernel
theorem dX0_secondsFor_0 : decode cX0_secondsFor 0 = .ok (.ldc2_w 174, 3) := by decide +kernel
theorem dX0_secondsFor_3 : decode cX0_secondsFor 3 = .ok (.lload_n 0, 1) := by decide +kernel
theorem dX0_secondsFor_4 : decode cX0_secondsFor 4 = .ok (.lmul, 1) := by decide +kernel
theorem dX0_secondsFor_5 : decode cX0_secondsFor 5 = .ok (.lload_n 2, 1) := by decide +kernel
theorem dX0_secondsFor_6 : decode cX0_secondsFor 6 = .ok (.invokestatic 134, 3) := by decide +kernel
theorem dX0_secondsFor_9 : decode cX0_secondsFor 9 = .ok (.lreturn, 1) := by decide +kernel
theorem dX0_squatOf_0 : decode cX0_squatOf 0 = .ok (.lload_n 2, 1) := by decide +kernel
theorem dX0_squatOf_1 : decode cX0_squatOf 1 = .ok (.lload_n 0, 1) := by decide +kernel
theorem dX0_squatOf_2 : decode cX0_squatOf 2 = .ok (.invokestatic 176, 3) := by decide +kernel
theorem dX0_squatOf_5 : decode cX0_squatOf 5 = .ok (.lmul, 1) := by decide +kernel
theorem dX0_squatOf_6 : decode cX0_squatOf 6 = .ok (.ldc2_w 179, 3) := by decide +kernel
theorem dX0_squatOf_9 : decode cX0_squatOf 9 = .ok (.invokestatic 134, 3) := by decide +kernel
theorem dX0_squatOf_12 : decode cX0_squatOf 12 = .ok (.lreturn, 1) := by decide +kernel
theorem dX0_squatThousandths_0 : decode cX0_squatThousandths 0 = .ok (.lload_n 0, 1) := by decide +kernel
theorem dX0_squatThousandths_1 : decode cX0_squatThousandths 1 = .ok (.ldc2_w 181, 3) := by decide +kernel
theorem dX0_squatThousandths_4 : decode cX0_squatThousandths 4 = .ok (.ldiv, 1) := by decide +kernel
theorem dX0_squatThousandths_5 : decode cX0_squatThousandths 5 = .ok (.l2i, 1) := by decide +kernel
theorem dX0_squatThousandths_6 : decode cX0_squatThousandths 6 = .ok (.istore_n 2, 1) := by decide +kernel
theorem dX0_squatThousandths_7 : decode cX0_squatThousandths 7 = .ok (.iload_n 2, 1) := by decide +kernel
theorem dX0_squatThousandths_8 : decode cX0_squatThousandths 8 = .ok (.ifCond .lt 13, 3) := by decide +kernel
theorem dX0_squatThousandths_11 : decode cX0_squatThousandths 11 = .ok (.iload_n 2, 1) := by decide +kernel
theorem dX0_squatThousandths_12 : decode cX0_squatThousandths 12 = .ok (.iconst 1, 1) := by decide +kernel
theorem dX0_squatThousandths_13 : decode cX0_squatThousandths 13 = .ok (.iadd, 1) := by decide +kernel
theorem dX0_squatThousandths_14 : decode cX0_squatThousandths 14 = .ok (.getstatic 183, 3) := by decide +kernel
theorem dX0_squatThousandths_17 : decode cX0_squatThousandths 17 = .ok (.arraylength, 1) := by decide +kernel
theorem dX0_squatThousandths_18 : decode cX0_squatThousandths 18 = .ok (.if_icmp .lt 15, 3) := by decide +kernel
theorem dX0_squatThousandths_21 : decode cX0_squatThousandths 21 = .ok (.getstatic 183, 3) := by decide +kernel
theorem dX0_squatThousandths_24 : decode cX0_squatThousandths 24 = .ok (.getstatic 183, 3) := by decide +kernel
theorem dX0_squatThousandths_27 : decode cX0_squatThousandths 27 = .ok (.arraylength, 1) := by decide +kernel
theorem dX0_squatThousandths_28 : decode cX0_squatThousandths 28 = .ok (.iconst 1, 1) := by decide +kernel
theorem dX0_squatThousandths_29 : decode cX0_squatThousandths 29 = .ok (.isub, 1) := by decide +kernel
theorem dX0_squatThousandths_30 : decode cX0_squatThousandths 30 = .ok (.iaload, 1) := by decide +kernel
theorem dX0_squatThousandths_31 : decode cX0_squatThousandths 31 = .ok (.i2l, 1) := by decide +kernel
theorem dX0_squatThousandths_32 : decode cX0_squatThousandths 32 = .ok (.lreturn, 1) := by decide +kernel
theorem dX0_squatThousandths_33 : decode cX0_squatThousandths 33 = .ok (.getstatic 183, 3) := by decide +kernel
theorem dX0_squatThousandths_36 : decode cX0_squatThousandths 36 = .ok (.iload_n 2, 1) := by decide +kernel
theorem dX0_squatThousandths_37 : decode cX0_squatThousandths 37 = .ok (.iconst 1, 1) := by decide +kernel
theorem dX0_squatThousandths_38 : decode cX0_squatThousandths 38 = .ok (.iadd, 1) := by decide +kernel
theorem dX0_squatThousandths_39 : decode cX0_squatThousandths 39 = .ok (.iaload, 1) := by decide +kernel
theorem dX0_squatThousandths_40 : decode cX0_squatThousandths 40 = .ok (.getstatic 183, 3) := by decide +kernel
theorem dX0_squatThousandths_43 : decode cX0_squatThousandths 43 = .ok (.iload_n 2, 1) := by decide +kernel
theorem dX0_squatThousandths_44 : decode cX0_squatThousandths 44 = .ok (.iaload, 1) := by decide +kernel
theorem dX0_squatThousandths_45 : decode cX0_squatThousandths 45 = .ok (.isub, 1) := by decide +kernel
theorem dX0_squatThousandths_46 : decode cX0_squatThousandths 46 = .ok (.i2l, 1) := by decide +kernel
theorem dX0_squatThousandths_47 : decode cX0_squatThousandths 47 = .ok (.lstore_n 3, 1) := by decide +kernel
theorem dX0_squatThousandths_48 : decode cX0_squatThousandths 48 = .ok (.getstatic 183, 3) := by decide +kernel
theorem dX0_squatThousandths_51 : decode cX0_squatThousandths 51 = .ok (.iload_n 2, 1) := by decide +kernel
theorem dX0_squatThousandths_52 : decode cX0_squatThousandths 52 = .ok (.iaload, 1) := by decide +kernel
theorem dX0_squatThousandths_53 : decode cX0_squatThousandths 53 = .ok (.i2l, 1) := by decide +kernel
theorem dX0_squatThousandths_54 : decode cX0_squatThousandths 54 = .ok (.lload_n 3, 1) := by decide +kernel
theorem dX0_squatThousandths_55 : decode cX0_squatThousandths 55 = .ok (.lload_n 0, 1) := by decide +kernel
theorem dX0_squatThousandths_56 : decode cX0_squatThousandths 56 = .ok (.iload_n 2, 1) := by decide +kernel
theorem dX0_squatThousandths_57 : decode cX0_squatThousandths 57 = .ok (.i2l, 1) := by decide +kernel
theorem dX0_squatThousandths_58 : decode cX0_squatThousandths 58 = .ok (.ldc2_w 181, 3) := by decide +kernel
theorem dX0_squatThousandths_61 : decode cX0_squatThousandths 61 = .ok (.lmul, 1) := by decide +kernel
theorem dX0_squatThousandths_62 : decode cX0_squatThousandths 62 = .ok (.lsub, 1) := by decide +kernel
theorem dX0_squatThousandths_63 : decode cX0_squatThousandths 63 = .ok (.lmul, 1) := by decide +kernel
theorem dX0_squatThousandths_64 : decode cX0_squatThousandths 64 = .ok (.ldc2_w 181, 3) := by decide +kernel
theorem dX0_squatThousandths_67 : decode cX0_squatThousandths 67 = .ok (.ldiv, 1) := by decide +kernel
theorem dX0_squatThousandths_68 : decode cX0_squatThousandths 68 = .ok (.ladd, 1) := by decide +kernel
theorem dX0_squatThousandths_69 : decode cX0_squatThousandths 69 = .ok (.lreturn, 1) := by decide +kernel
theorem dX0_alternates_0 : decode cX0_alternates 0 = .ok (.aload_n 0, 1) := by decide +kernel
theorem dX0_alternates_1 : decode cX0_alternates 1 = .ok (.getfield 16, 3) := by decide +kernel
theorem dX0_alternates_4 : decode cX0_alternates 4 = .ok (.ifCond .ne 5, 3) := by decide +kernel
theorem dX0_alternates_7 : decode cX0_alternates 7 = .ok (.iconst 1, 1) := by decide +kernel
theorem dX0_alternates_8 : decode cX0_alternates 8 = .ok (.ireturn, 1) := by decide +kernel
theorem dX0_alternates_9 : decode cX0_alternates 9 = .ok (.aload_n 0, 1) := by decide +kernel
theorem dX0_alternates_10 : decode cX0_alternates 10 = .ok (.getfield 13, 3) := by decide +kernel
theorem dX0_alternates_13 : decode cX0_alternates 13 = .ok (.aload_n 0, 1) := by decide +kernel
theorem dX0_alternates_14 : decode cX0_alternates 14 = .ok (.getfield 16, 3) := by decide +kernel
theorem dX0_alternates_17 : decode cX0_alternates 17 = .ok (.iconst 1, 1) := by decide +kernel
theorem dX0_alternates_18 : decode cX0_alternates 18 = .ok (.isub, 1) := by decide +kernel
theorem dX0_alternates_19 : decode cX0_alternates 19 = .ok (.laload, 1) := by decide +kernel
theorem dX0_alternates_20 : decode cX0_alternates 20 = .ok (.lstore_n 3, 1) := by decide +kernel
theorem dX0_alternates_21 : decode cX0_alternates 21 = .ok (.aload_n 0, 1) := by decide +kernel
theorem dX0_alternates_22 : decode cX0_alternates 22 = .ok (.getfield 16, 3) := by decide +kernel
theorem dX0_alternates_25 : decode cX0_alternates 25 = .ok (.iconst 1, 1) := by decide +kernel
theorem dX0_alternates_26 : decode cX0_alternates 26 = .ok (.if_icmp .ne 15, 3) := by decide +kernel
theorem dX0_alternates_29 : decode cX0_alternates 29 = .ok (.lload_n 1, 1) := by decide +kernel
theorem dX0_alternates_30 : decode cX0_alternates 30 = .ok (.lload_n 3, 1) := by decide +kernel
theorem dX0_alternates_31 : decode cX0_alternates 31 = .ok (.lcmp, 1) := by decide +kernel
theorem dX0_alternates_32 : decode cX0_alternates 32 = .ok (.ifCond .eq 7, 3) := by decide +kernel
theorem dX0_alternates_35 : decode cX0_alternates 35 = .ok (.iconst 1, 1) := by decide +kernel
theorem dX0_alternates_36 : decode cX0_alternates 36 = .ok (.goto 4, 3) := by decide +kernel
theorem dX0_alternates_39 : decode cX0_alternates 39 = .ok (.iconst 0, 1) := by decide +kernel
theorem dX0_alternates_40 : decode cX0_alternates 40 = .ok (.ireturn, 1) := by decide +kernel
theorem dX0_alternates_41 : decode cX0_alternates 41 = .ok (.lload_n 3, 1) := by decide +kernel
theorem dX0_alternates_42 : decode cX0_alternates 42 = .ok (.aload_n 0, 1) := by decide +kernel
theorem dX0_alternates_43 : decode cX0_alternates 43 = .ok (.getfield 13, 3) := by decide +kernel
theorem dX0_alternates_46 : decode cX0_alternates 46 = .ok (.aload_n 0, 1) := by decide +kernel
theorem dX0_alternates_47 : decode cX0_alternates 47 = .ok (.getfield 16, 3) := by decide +kernel
theorem dX0_alternates_50 : decode cX0_alternates 50 = .ok (.iconst 2, 1) := by decide +kernel
theorem dX0_alternates_51 : decode cX0_alternates 51 = .ok (.isub, 1) := by decide +kernel
theorem dX0_alternates_52 : decode cX0_alternates 52 = .ok (.laload, 1) := by decide +kernel
theorem dX0_alternates_53 : decode cX0_alternates 53 = .ok (.lcmp, 1) := by decide +kernel
theorem dX0_alternates_54 : decode cX0_alternates 54 = .ok (.ifCond .le 7, 3) := by decide +kernel
theorem dX0_alternates_57 : decode cX0_alternates 57 = .ok (.iconst 1, 1) := by decide +kernel
theorem dX0_alternates_58 : decode cX0_alternates 58 = .ok (.goto 4, 3) := by decide +kernel
theorem dX0_alternates_61 : decode cX0_alternates 61 = .ok (.iconst 0, 1) := by decide +kernel
theorem dX0_alternates_62 : decode cX0_alternates 62 = .ok (.istore 5, 2) := by decide +kernel
theorem dX0_alternates_64 : decode cX0_alternates 64 = .ok (.iload 5, 2) := by decide +kernel
theorem dX0_alternates_66 : decode cX0_alternates 66 = .ok (.ifCond .eq 17, 3) := by decide +kernel
theorem dX0_alternates_69 : decode cX0_alternates 69 = .ok (.lload_n 1, 1) := by decide +kernel
theorem dX0_alternates_70 : decode cX0_alternates 70 = .ok (.lload_n 3, 1) := by decide +kernel
theorem dX0_alternates_71 : decode cX0_alternates 71 = .ok (.lcmp, 1) := by decide +kernel
theorem dX0_alternates_72 : decode cX0_alternates 72 = .ok (.ifCond .ge 7, 3) := by decide +kernel
theorem dX0_alternates_75 : decode cX0_alternates 75 = .ok (.iconst 1, 1) := by decide +kernel
theorem dX0_alternates_76 : decode cX0_alternates 76 = .ok (.goto 18, 3) := by decide +kernel
theorem dX0_alternates_79 : decode cX0_alternates 79 = .ok (.iconst 0, 1) := by decide +kernel
theorem dX0_alternates_80 : decode cX0_alternates 80 = .ok (.goto 14, 3) := by decide +kernel
theorem dX0_alternates_83 : decode cX0_alternates 83 = .ok (.lload_n 1, 1) := by decide +kernel
theorem dX0_alternates_84 : decode cX0_alternates 84 = .ok (.lload_n 3, 1) := by decide +kernel
theorem dX0_alternates_85 : decode cX0_alternates 85 = .ok (.lcmp, 1) := by decide +kernel
theorem dX0_alternates_86 : decode cX0_alternates 86 = .ok (.ifCond .le 7, 3) := by decide +kernel
theorem dX0_alternates_89 : decode cX0_alternates 89 = .ok (.iconst 1, 1) := by decide +kernel
theorem dX0_alternates_90 : decode cX0_alternates 90 = .ok (.goto 4, 3) := by decide +kernel
theorem dX0_alternates_93 : decode cX0_alternates 93 = .ok (.iconst 0, 1) := by decide +kernel
theorem dX0_alternates_94 : decode cX0_alternates 94 = .ok (.ireturn, 1) := by decide +kernel
theorem dX0_hasTable_0 : decode cX0_hasTable 0 = .ok (.aload_n 0, 1) := by decide +kernel
theorem dX0_hasTable_1 : decode cX0_hasTable 1 = .ok (.getfield 16, 3) := by decide +kernel
theorem dX0_hasTable_4 : decode cX0_hasTable 4 = .ok (.iconst 2, 1) := by decide +kernel
theorem dX0_hasTable_5 : decode cX0_hasTable 5 = .ok (.if_icmp .lt 7, 3) := by decide +kernel
theorem dX0_hasTable_8 : decode cX0_hasTable 8 = .ok (.iconst 1, 1) := by decide +kernel
theorem dX0_hasTable_9 : decode cX0_hasTable 9 = .ok (.goto 4, 3) := by decide +kernel
theorem dX0_hasTable_12 : decode cX0_hasTable 12 = .ok (.iconst 0, 1) := by decide +kernel
theorem dX0_hasTable_13 : decode cX0_hasTable 13 = .ok (.ireturn, 1) := by decide +kernel
theorem dX0_firstSecond_0 : decode cX0_firstSecond 0 = .ok (.aload_n 0, 1) := by decide +kernel
theorem dX0_firstSecond_1 : decode cX0_firstSecond 1 = .ok (.invokevirtual 186, 3) := by decide +kernel
theorem dX0_firstSecond_4 : decode cX0_firstSecond 4 = .ok (.ifCond .eq 12, 3) := by decide +kernel
theorem dX0_firstSecond_7 : decode cX0_firstSecond 7 = .ok (.aload_n 0, 1) := by decide +kernel
theorem dX0_firstSecond_8 : decode cX0_firstSecond 8 = .ok (.getfield 9, 3) := by decide +kernel
theorem dX0_firstSecond_11 : decode cX0_firstSecond 11 = .ok (.iconst 0, 1) := by decide +kernel
theorem dX0_firstSecond_12 : decode cX0_firstSecond 12 = .ok (.laload, 1) := by decide +kernel
theorem dX0_firstSecond_13 : decode cX0_firstSecond 13 = .ok (.goto 6, 3) := by decide +kernel
theorem dX0_firstSecond_16 : decode cX0_firstSecond 16 = .ok (.ldc2_w 190, 3) := by decide +kernel
theorem dX0_firstSecond_19 : decode cX0_firstSecond 19 = .ok (.lreturn, 1) := by decide +kernel
theorem dX0_lastSecond_0 : decode cX0_lastSecond 0 = .ok (.aload_n 0, 1) := by decide +kernel
theorem dX0_lastSecond_1 : decode cX0_lastSecond 1 = .ok (.invokevirtual 186, 3) := by decide +kernel
theorem dX0_lastSecond_4 : decode cX0_lastSecond 4 = .ok (.ifCond .eq 17, 3) := by decide +kernel
theorem dX0_lastSecond_7 : decode cX0_lastSecond 7 = .ok (.aload_n 0, 1) := by decide +kernel
theorem dX0_lastSecond_8 : decode cX0_lastSecond 8 = .ok (.getfield 9, 3) := by decide +kernel
theorem dX0_lastSecond_11 : decode cX0_lastSecond 11 = .ok (.aload_n 0, 1) := by decide +kernel
theorem dX0_lastSecond_12 : decode cX0_lastSecond 12 = .ok (.getfield 16, 3) := by decide +kernel
theorem dX0_lastSecond_15 : decode cX0_lastSecond 15 = .ok (.iconst 1, 1) := by decide +kernel
theorem dX0_lastSecond_16 : decode cX0_lastSecond 16 = .ok (.isub, 1) := by decide +kernel
theorem dX0_lastSecond_17 : decode cX0_lastSecond 17 = .ok (.laload, 1) := by decide +kernel
theorem dX0_lastSecond_18 : decode cX0_lastSecond 18 = .ok (.goto 6, 3) := by decide +kernel
theorem dX0_lastSecond_21 : decode cX0_lastSecond 21 = .ok (.ldc2_w 190, 3) := by decide +kernel
theorem dX0_lastSecond_24 : decode cX0_lastSecond 24 = .ok (.lreturn, 1) := by decide +kernel
theorem dX0_isInTable_0 : decode cX0_isInTable 0 = .ok (.aload_n 0, 1) := by decide +kernel
theorem dX0_isInTable_1 : decode cX0_isInTable 1 = .ok (.invokevirtual 186, 3) := by decide +kernel
theorem dX0_isInTable_4 : decode cX0_isInTable 4 = .ok (.ifCond .eq 22, 3) := by decide +kernel
theorem dX0_isInTable_7 : decode cX0_isInTable 7 = .ok (.lload_n 1, 1) := by decide +kernel
theorem dX0_isInTable_8 : decode cX0_isInTable 8 = .ok (.aload_n 0, 1) := by decide +kernel
theorem dX0_isInTable_9 : decode cX0_isInTable 9 = .ok (.invokevirtual 163, 3) := by decide +kernel
theorem dX0_isInTable_12 : decode cX0_isInTable 12 = .ok (.aload_n 0, 1) := by decide +kernel
theorem dX0_isInTable_13 : decode cX0_isInTable 13 = .ok (.invokevirtual 95, 3) := by decide +kernel
theorem dX0_isInTable_16 : decode cX0_isInTable 16 = .ok (.invokestatic 40, 3) := by decide +kernel
theorem dX0_isInTable_19 : decode cX0_isInTable 19 = .ok (.ifCond .eq 7, 3) := by decide +kernel
theorem dX0_isInTable_22 : decode cX0_isInTable 22 = .ok (.iconst 1, 1) := by decide +kernel
theorem dX0_isInTable_23 : decode cX0_isInTable 23 = .ok (.goto 4, 3) := by decide +kernel
theorem dX0_isInTable_26 : decode cX0_isInTable 26 = .ok (.iconst 0, 1) := by decide +kernel
theorem dX0_isInTable_27 : decode cX0_isInTable 27 = .ok (.ireturn, 1) := by decide +kernel
theorem dX0_lastNotBehind_0 : decode cX0_lastNotBehind 0 = .ok (.iload_n 3, 1) := by decide +kernel
theorem dX0_lastNotBehind_1 : decode cX0_lastNotBehind 1 = .ok (.iconst 1, 1) := by decide +kernel
theorem dX0_lastNotBehind_2 : decode cX0_lastNotBehind 2 = .ok (.isub, 1) := by decide +kernel
theorem dX0_lastNotBehind_3 : decode cX0_lastNotBehind 3 = .ok (.istore 4, 2) := by decide +kernel
theorem dX0_lastNotBehind_5 : decode cX0_lastNotBehind 5 = .ok (.iload 4, 2) := by decide +kernel
theorem dX0_lastNotBehind_7 : decode cX0_lastNotBehind 7 = .ok (.ifCond .lt 21, 3) := by decide +kernel
theorem dX0_lastNotBehind_10 : decode cX0_lastNotBehind 10 = .ok (.aload_n 2, 1) := by decide +kernel
theorem dX0_lastNotBehind_11 : decode cX0_lastNotBehind 11 = .ok (.iload 4, 2) := by decide +kernel
theorem dX0_lastNotBehind_13 : decode cX0_lastNotBehind 13 = .ok (.laload, 1) := by decide +kernel
theorem dX0_lastNotBehind_14 : decode cX0_lastNotBehind 14 = .ok (.lload_n 0, 1) := by decide +kernel
theorem dX0_lastNotBehind_15 : decode cX0_lastNotBehind 15 = .ok (.lcmp, 1) := by decide +kernel
theorem dX0_lastNotBehind_16 : decode cX0_lastNotBehind 16 = .ok (.ifCond .gt 6, 3) := by decide +kernel
theorem dX0_lastNotBehind_19 : decode cX0_lastNotBehind 19 = .ok (.iload 4, 2) := by decide +kernel
theorem dX0_lastNotBehind_21 : decode cX0_lastNotBehind 21 = .ok (.ireturn, 1) := by decide +kernel
theorem dX0_lastNotBehind_22 : decode cX0_lastNotBehind 22 = .ok (.iinc 4 (-1), 3) := by decide +kernel
theorem dX0_lastNotBehind_25 : decode cX0_lastNotBehind 25 = .ok (.goto (-20), 3) := by decide +kernel
theorem dX0_lastNotBehind_28 : decode cX0_lastNotBehind 28 = .ok (.iconst (-1), 1) := by decide +kernel
theorem dX0_lastNotBehind_29 : decode cX0_lastNotBehind 29 = .ok (.ireturn, 1) := by decide +kernel
theorem dX0_heightAt_0 : decode cX0_heightAt 0 = .ok (.aload_n 0, 1) := by decide +kernel
theorem dX0_heightAt_1 : decode cX0_heightAt 1 = .ok (.lload_n 1, 1) := by decide +kernel
theorem dX0_heightAt_2 : decode cX0_heightAt 2 = .ok (.invokevirtual 80, 3) := by decide +kernel
theorem dX0_heightAt_5 : decode cX0_heightAt 5 = .ok (.aload_n 0, 1) := by decide +kernel
theorem dX0_heightAt_6 : decode cX0_heightAt 6 = .ok (.lload_n 1, 1) := by decide +kernel
theorem dX0_heightAt_7 : decode cX0_heightAt 7 = .ok (.invokevirtual 192, 3) := by decide +kernel
theorem dX0_heightAt_10 : decode cX0_heightAt 10 = .ok (.ladd, 1) := by decide +kernel
theorem dX0_heightAt_11 : decode cX0_heightAt 11 = .ok (.lreturn, 1) := by decide +kernel
theorem dX0_tableHeight_0 : decode cX0_tableHeight 0 = .ok (.lload_n 1, 1) := by decide +kernel
theorem dX0_tableHeight_1 : decode cX0_tableHeight 1 = .ok (.aload_n 0, 1) := by decide +kernel
theorem dX0_tableHeight_2 : decode cX0_tableHeight 2 = .ok (.getfield 9, 3) := by decide +kernel
theorem dX0_tableHeight_5 : decode cX0_tableHeight 5 = .ok (.aload_n 0, 1) := by decide +kernel
theorem dX0_tableHeight_6 : decode cX0_tableHeight 6 = .ok (.getfield 16, 3) := by decide +kernel
theorem dX0_tableHeight_9 : decode cX0_tableHeight 9 = .ok (.invokestatic 195, 3) := by decide +kernel
theorem dX0_tableHeight_12 : decode cX0_tableHeight 12 = .ok (.istore_n 3, 1) := by decide +kernel
theorem dX0_tableHeight_13 : decode cX0_tableHeight 13 = .ok (.iload_n 3, 1) := by decide +kernel
theorem dX0_tableHeight_14 : decode cX0_tableHeight 14 = .ok (.ifCond .ge 5, 3) := by decide +kernel
theorem dX0_tableHeight_17 : decode cX0_tableHeight 17 = .ok (.lconst 0, 1) := by decide +kernel
theorem dX0_tableHeight_18 : decode cX0_tableHeight 18 = .ok (.lreturn, 1) := by decide +kernel
theorem dX0_tableHeight_19 : decode cX0_tableHeight 19 = .ok (.aload_n 0, 1) := by decide +kernel
theorem dX0_tableHeight_20 : decode cX0_tableHeight 20 = .ok (.getfield 13, 3) := by decide +kernel
theorem dX0_tableHeight_23 : decode cX0_tableHeight 23 = .ok (.iload_n 3, 1) := by decide +kernel
theorem dX0_tableHeight_24 : decode cX0_tableHeight 24 = .ok (.laload, 1) := by decide +kernel
theorem dX0_tableHeight_25 : decode cX0_tableHeight 25 = .ok (.lstore 4, 2) := by decide +kernel
theorem dX0_tableHeight_27 : decode cX0_tableHeight 27 = .ok (.iload_n 3, 1) := by decide +kernel
theorem dX0_tableHeight_28 : decode cX0_tableHeight 28 = .ok (.iconst 1, 1) := by decide +kernel
theorem dX0_tableHeight_29 : decode cX0_tableHeight 29 = .ok (.iadd, 1) := by decide +kernel
theorem dX0_tableHeight_30 : decode cX0_tableHeight 30 = .ok (.aload_n 0, 1) := by decide +kernel
theorem dX0_tableHeight_31 : decode cX0_tableHeight 31 = .ok (.getfield 16, 3) := by decide +kernel
theorem dX0_tableHeight_34 : decode cX0_tableHeight 34 = .ok (.if_icmp .lt 6, 3) := by decide +kernel
theorem dX0_tableHeight_37 : decode cX0_tableHeight 37 = .ok (.lload 4, 2) := by decide +kernel
theorem dX0_tableHeight_39 : decode cX0_tableHeight 39 = .ok (.lreturn, 1) := by decide +kernel
theorem dX0_tableHeight_40 : decode cX0_tableHeight 40 = .ok (.lload_n 1, 1) := by decide +kernel
theorem dX0_tableHeight_41 : decode cX0_tableHeight 41 = .ok (.aload_n 0, 1) := by decide +kernel
theorem dX0_tableHeight_42 : decode cX0_tableHeight 42 = .ok (.getfield 9, 3) := by decide +kernel
theorem dX0_tableHeight_45 : decode cX0_tableHeight 45 = .ok (.iload_n 3, 1) := by decide +kernel
theorem dX0_tableHeight_46 : decode cX0_tableHeight 46 = .ok (.laload, 1) := by decide +kernel
theorem dX0_tableHeight_47 : decode cX0_tableHeight 47 = .ok (.lsub, 1) := by decide +kernel
theorem dX0_tableHeight_48 : decode cX0_tableHeight 48 = .ok (.aload_n 0, 1) := by decide +kernel
theorem dX0_tableHeight_49 : decode cX0_tableHeight 49 = .ok (.getfield 9, 3) := by decide +kernel
theorem dX0_tableHeight_52 : decode cX0_tableHeight 52 = .ok (.iload_n 3, 1) := by decide +kernel
theorem dX0_tableHeight_53 : decode cX0_tableHeight 53 = .ok (.iconst 1, 1) := by decide +kernel
theorem dX0_tableHeight_54 : decode cX0_tableHeight 54 = .ok (.iadd, 1) := by decide +kernel
theorem dX0_tableHeight_55 : decode cX0_tableHeight 55 = .ok (.laload, 1) := by decide +kernel
theorem dX0_tableHeight_56 : decode cX0_tableHeight 56 = .ok (.aload_n 0, 1) := by decide +kernel
theorem dX0_tableHeight_57 : decode cX0_tableHeight 57 = .ok (.getfield 9, 3) := by decide +kernel
theorem dX0_tableHeight_60 : decode cX0_tableHeight 60 = .ok (.iload_n 3, 1) := by decide +kernel
theorem dX0_tableHeight_61 : decode cX0_tableHeight 61 = .ok (.laload, 1) := by decide +kernel
theorem dX0_tableHeight_62 : decode cX0_tableHeight 62 = .ok (.lsub, 1) := by decide +kernel
theorem dX0_tableHeight_63 : decode cX0_tableHeight 63 = .ok (.invokestatic 199, 3) := by decide +kernel
theorem dX0_tableHeight_66 : decode cX0_tableHeight 66 = .ok (.lstore 6, 2) := by decide +kernel
theorem dX0_tableHeight_68 : decode cX0_tableHeight 68 = .ok (.lload 4, 2) := by decide +kernel
theorem dX0_tableHeight_70 : decode cX0_tableHeight 70 = .ok (.aload_n 0, 1) := by decide +kernel
theorem dX0_tableHeight_71 : decode cX0_tableHeight 71 = .ok (.getfield 13, 3) := by decide +kernel
theorem dX0_tableHeight_74 : decode cX0_tableHeight 74 = .ok (.iload_n 3, 1) := by decide +kernel
theorem dX0_tableHeight_75 : decode cX0_tableHeight 75 = .ok (.iconst 1, 1) := by decide +kernel
theorem dX0_tableHeight_76 : decode cX0_tableHeight 76 = .ok (.iadd, 1) := by decide +kernel
theorem dX0_tableHeight_77 : decode cX0_tableHeight 77 = .ok (.laload, 1) := by decide +kernel
theorem dX0_tableHeight_78 : decode cX0_tableHeight 78 = .ok (.lload 4, 2) := by decide +kernel
theorem dX0_tableHeight_80 : decode cX0_tableHeight 80 = .ok (.lsub, 1) := by decide +kernel
theorem dX0_tableHeight_81 : decode cX0_tableHeight 81 = .ok (.lload 6, 2) := by decide +kernel
theorem dX0_tableHeight_83 : decode cX0_tableHeight 83 = .ok (.lmul, 1) := by decide +kernel
theorem dX0_tableHeight_84 : decode cX0_tableHeight 84 = .ok (.ldc2_w 202, 3) := by decide +kernel
theorem dX0_tableHeight_87 : decode cX0_tableHeight 87 = .ok (.invokestatic 204, 3) := by decide +kernel
theorem dX0_tableHeight_90 : decode cX0_tableHeight 90 = .ok (.ladd, 1) := by decide +kernel
theorem dX0_tableHeight_91 : decode cX0_tableHeight 91 = .ok (.lreturn, 1) := by decide +kernel
theorem dX0_cosinePart_0 : decode cX0_cosinePart 0 = .ok (.lload_n 2, 1) := by decide +kernel
theorem dX0_cosinePart_1 : decode cX0_cosinePart 1 = .ok (.lconst 0, 1) := by decide +kernel
theorem dX0_cosinePart_2 : decode cX0_cosinePart 2 = .ok (.lcmp, 1) := by decide +kernel
theorem dX0_cosinePart_3 : decode cX0_cosinePart 3 = .ok (.ifCond .gt 7, 3) := by decide +kernel
theorem dX0_cosinePart_6 : decode cX0_cosinePart 6 = .ok (.ldc2_w 202, 3) := by decide +kernel
theorem dX0_cosinePart_9 : decode cX0_cosinePart 9 = .ok (.lreturn, 1) := by decide +kernel
theorem dX0_cosinePart_10 : decode cX0_cosinePart 10 = .ok (.ldc2_w 209, 3) := by decide +kernel
theorem dX0_cosinePart_13 : decode cX0_cosinePart 13 = .ok (.lload_n 0, 1) := by decide +kernel
theorem dX0_cosinePart_14 : decode cX0_cosinePart 14 = .ok (.lmul, 1) := by decide +kernel
theorem dX0_cosinePart_15 : decode cX0_cosinePart 15 = .ok (.lstore 4, 2) := by decide +kernel
theorem dX0_cosinePart_17 : decode cX0_cosinePart 17 = .ok (.lload 4, 2) := by decide +kernel
theorem dX0_cosinePart_19 : decode cX0_cosinePart 19 = .ok (.lload_n 2, 1) := by decide +kernel
theorem dX0_cosinePart_20 : decode cX0_cosinePart 20 = .ok (.ldiv, 1) := by decide +kernel
theorem dX0_cosinePart_21 : decode cX0_cosinePart 21 = .ok (.l2i, 1) := by decide +kernel
theorem dX0_cosinePart_22 : decode cX0_cosinePart 22 = .ok (.istore 6, 2) := by decide +kernel
theorem dX0_cosinePart_24 : decode cX0_cosinePart 24 = .ok (.iload 6, 2) := by decide +kernel
theorem dX0_cosinePart_26 : decode cX0_cosinePart 26 = .ok (.ifCond .lt 14, 3) := by decide +kernel
theorem dX0_cosinePart_29 : decode cX0_cosinePart 29 = .ok (.iload 6, 2) := by decide +kernel
theorem dX0_cosinePart_31 : decode cX0_cosinePart 31 = .ok (.iconst 1, 1) := by decide +kernel
theorem dX0_cosinePart_32 : decode cX0_cosinePart 32 = .ok (.iadd, 1) := by decide +kernel
theorem dX0_cosinePart_33 : decode cX0_cosinePart 33 = .ok (.getstatic 120, 3) := by decide +kernel
theorem dX0_cosinePart_36 : decode cX0_cosinePart 36 = .ok (.arraylength, 1) := by decide +kernel
theorem dX0_cosinePart_37 : decode cX0_cosinePart 37 = .ok (.if_icmp .lt 7, 3) := by decide +kernel
theorem dX0_cosinePart_40 : decode cX0_cosinePart 40 = .ok (.ldc2_w 202, 3) := by decide +kernel
theorem dX0_cosinePart_43 : decode cX0_cosinePart 43 = .ok (.lreturn, 1) := by decide +kernel
theorem dX0_cosinePart_44 : decode cX0_cosinePart 44 = .ok (.getstatic 120, 3) := by decide +kernel
theorem dX0_cosinePart_47 : decode cX0_cosinePart 47 = .ok (.iload 6, 2) := by decide +kernel
theorem dX0_cosinePart_49 : decode cX0_cosinePart 49 = .ok (.iconst 1, 1) := by decide +kernel
theorem dX0_cosinePart_50 : decode cX0_cosinePart 50 = .ok (.iadd, 1) := by decide +kernel
theorem dX0_cosinePart_51 : decode cX0_cosinePart 51 = .ok (.iaload, 1) := by decide +kernel
theorem dX0_cosinePart_52 : decode cX0_cosinePart 52 = .ok (.getstatic 120, 3) := by decide +kernel
theorem dX0_cosinePart_55 : decode cX0_cosinePart 55 = .ok (.iload 6, 2) := by decide +kernel
theorem dX0_cosinePart_57 : decode cX0_cosinePart 57 = .ok (.iaload, 1) := by decide +kernel
theorem dX0_cosinePart_58 : decode cX0_cosinePart 58 = .ok (.isub, 1) := by decide +kernel
theorem dX0_cosinePart_59 : decode cX0_cosinePart 59 = .ok (.i2l, 1) := by decide +kernel
theorem dX0_cosinePart_60 : decode cX0_cosinePart 60 = .ok (.lstore 7, 2) := by decide +kernel
theorem dX0_cosinePart_62 : decode cX0_cosinePart 62 = .ok (.getstatic 120, 3) := by decide +kernel
theorem dX0_cosinePart_65 : decode cX0_cosinePart 65 = .ok (.iload 6, 2) := by decide +kernel
theorem dX0_cosinePart_67 : decode cX0_cosinePart 67 = .ok (.iaload, 1) := by decide +kernel
theorem dX0_cosinePart_68 : decode cX0_cosinePart 68 = .ok (.i2l, 1) := by decide +kernel
theorem dX0_cosinePart_69 : decode cX0_cosinePart 69 = .ok (.lload 7, 2) := by decide +kernel
theorem dX0_cosinePart_71 : decode cX0_cosinePart 71 = .ok (.lload 4, 2) := by decide +kernel
theorem dX0_cosinePart_73 : decode cX0_cosinePart 73 = .ok (.iload 6, 2) := by decide +kernel
theorem dX0_cosinePart_75 : decode cX0_cosinePart 75 = .ok (.i2l, 1) := by decide +kernel
theorem dX0_cosinePart_76 : decode cX0_cosinePart 76 = .ok (.lload_n 2, 1) := by decide +kernel
theorem dX0_cosinePart_77 : decode cX0_cosinePart 77 = .ok (.lmul, 1) := by decide +kernel
theorem dX0_cosinePart_78 : decode cX0_cosinePart 78 = .ok (.lsub, 1) := by decide +kernel
theorem dX0_cosinePart_79 : decode cX0_cosinePart 79 = .ok (.lmul, 1) := by decide +kernel
theorem dX0_cosinePart_80 : decode cX0_cosinePart 80 = .ok (.lload_n 2, 1) := by decide +kernel
theorem dX0_cosinePart_81 : decode cX0_cosinePart 81 = .ok (.ldiv, 1) := by decide +kernel
theorem dX0_cosinePart_82 : decode cX0_cosinePart 82 = .ok (.ladd, 1) := by decide +kernel
theorem dX0_cosinePart_83 : decode cX0_cosinePart 83 = .ok (.lreturn, 1) := by decide +kernel
theorem dX0_correction_0 : decode cX0_correction 0 = .ok (.lload_n 1, 1) := by decide +kernel
theorem dX0_correction_1 : decode cX0_correction 1 = .ok (.aload_n 0, 1) := by decide +kernel
theorem dX0_correction_2 : decode cX0_correction 2 = .ok (.getfield 20, 3) := by decide +kernel
theorem dX0_correction_5 : decode cX0_correction 5 = .ok (.aload_n 0, 1) := by decide +kernel
theorem dX0_correction_6 : decode cX0_correction 6 = .ok (.getfield 26, 3) := by decide +kernel
theorem dX0_correction_9 : decode cX0_correction 9 = .ok (.invokestatic 195, 3) := by decide +kernel
theorem dX0_correction_12 : decode cX0_correction 12 = .ok (.istore_n 3, 1) := by decide +kernel
theorem dX0_correction_13 : decode cX0_correction 13 = .ok (.iload_n 3, 1) := by decide +kernel
theorem dX0_correction_14 : decode cX0_correction 14 = .ok (.ifCond .ge 5, 3) := by decide +kernel
theorem dX0_correction_17 : decode cX0_correction 17 = .ok (.lconst 0, 1) := by decide +kernel
theorem dX0_correction_18 : decode cX0_correction 18 = .ok (.lreturn, 1) := by decide +kernel
theorem dX0_correction_19 : decode cX0_correction 19 = .ok (.aload_n 0, 1) := by decide +kernel
theorem dX0_correction_20 : decode cX0_correction 20 = .ok (.getfield 23, 3) := by decide +kernel
theorem dX0_correction_23 : decode cX0_correction 23 = .ok (.iload_n 3, 1) := by decide +kernel
theorem dX0_correction_24 : decode cX0_correction 24 = .ok (.laload, 1) := by decide +kernel
theorem dX0_correction_25 : decode cX0_correction 25 = .ok (.lstore 4, 2) := by decide +kernel
theorem dX0_correction_27 : decode cX0_correction 27 = .ok (.lload_n 1, 1) := by decide +kernel
theorem dX0_correction_28 : decode cX0_correction 28 = .ok (.aload_n 0, 1) := by decide +kernel
theorem dX0_correction_29 : decode cX0_correction 29 = .ok (.getfield 20, 3) := by decide +kernel
theorem dX0_correction_32 : decode cX0_correction 32 = .ok (.iload_n 3, 1) := by decide +kernel
theorem dX0_correction_33 : decode cX0_correction 33 = .ok (.laload, 1) := by decide +kernel
theorem dX0_correction_34 : decode cX0_correction 34 = .ok (.lsub, 1) := by decide +kernel
theorem dX0_correction_35 : decode cX0_correction 35 = .ok (.ldc2_w 211, 3) := by decide +kernel
theorem dX0_correction_38 : decode cX0_correction 38 = .ok (.ldiv, 1) := by decide +kernel
theorem dX0_correction_39 : decode cX0_correction 39 = .ok (.lstore 6, 2) := by decide +kernel
theorem dX0_correction_41 : decode cX0_correction 41 = .ok (.lconst 0, 1) := by decide +kernel
theorem dX0_correction_42 : decode cX0_correction 42 = .ok (.lstore 8, 2) := by decide +kernel
theorem dX0_correction_44 : decode cX0_correction 44 = .ok (.lload 8, 2) := by decide +kernel
theorem dX0_correction_46 : decode cX0_correction 46 = .ok (.lload 6, 2) := by decide +kernel
theorem dX0_correction_48 : decode cX0_correction 48 = .ok (.lcmp, 1) := by decide +kernel
theorem dX0_correction_49 : decode cX0_correction 49 = .ok (.ifCond .ge 20, 3) := by decide +kernel
theorem dX0_correction_52 : decode cX0_correction 52 = .ok (.lload 4, 2) := by decide +kernel
theorem dX0_correction_54 : decode cX0_correction 54 = .ok (.ldc2_w 213, 3) := by decide +kernel
theorem dX0_correction_57 : decode cX0_correction 57 = .ok (.ldiv, 1) := by decide +kernel
theorem dX0_correction_58 : decode cX0_correction 58 = .ok (.lstore 4, 2) := by decide +kernel
theorem dX0_correction_60 : decode cX0_correction 60 = .ok (.lload 8, 2) := by decide +kernel
theorem dX0_correction_62 : decode cX0_correction 62 = .ok (.lconst 1, 1) := by decide +kernel
theorem dX0_correction_63 : decode cX0_correction 63 = .ok (.ladd, 1) := by decide +kernel
theorem dX0_correction_64 : decode cX0_correction 64 = .ok (.lstore 8, 2) := by decide +kernel
theorem dX0_correction_66 : decode cX0_correction 66 = .ok (.goto (-22), 3) := by decide +kernel
theorem dX0_correction_69 : decode cX0_correction 69 = .ok (.lload 4, 2) := by decide +kernel
theorem dX0_correction_71 : decode cX0_correction 71 = .ok (.lreturn, 1) := by decide +kernel
theorem dX0_stretchEnd_0 : decode cX0_stretchEnd 0 = .ok (.lload_n 1, 1) := by decide +kernel
theorem dX0_stretchEnd_1 : decode cX0_stretchEnd 1 = .ok (.aload_n 0, 1) := by decide +kernel
theorem dX0_stretchEnd_2 : decode cX0_stretchEnd 2 = .ok (.getfield 9, 3) := by decide +kernel
theorem dX0_stretchEnd_5 : decode cX0_stretchEnd 5 = .ok (.aload_n 0, 1) := by decide +kernel
theorem dX0_stretchEnd_6 : decode cX0_stretchEnd 6 = .ok (.getfield 16, 3) := by decide +kernel
theorem dX0_stretchEnd_9 : decode cX0_stretchEnd 9 = .ok (.invokestatic 195, 3) := by decide +kernel
theorem dX0_stretchEnd_12 : decode cX0_stretchEnd 12 = .ok (.istore_n 3, 1) := by decide +kernel
theorem dX0_stretchEnd_13 : decode cX0_stretchEnd 13 = .ok (.iload_n 3, 1) := by decide +kernel
theorem dX0_stretchEnd_14 : decode cX0_stretchEnd 14 = .ok (.iconst 1, 1) := by decide +kernel
theorem dX0_stretchEnd_15 : decode cX0_stretchEnd 15 = .ok (.iadd, 1) := by decide +kernel
theorem dX0_stretchEnd_16 : decode cX0_stretchEnd 16 = .ok (.aload_n 0, 1) := by decide +kernel
theorem dX0_stretchEnd_17 : decode cX0_stretchEnd 17 = .ok (.getfield 16, 3) := by decide +kernel
theorem dX0_stretchEnd_20 : decode cX0_stretchEnd 20 = .ok (.if_icmp .ge 14, 3) := by decide +kernel
theorem dX0_stretchEnd_23 : decode cX0_stretchEnd 23 = .ok (.aload_n 0, 1) := by decide +kernel
theorem dX0_stretchEnd_24 : decode cX0_stretchEnd 24 = .ok (.getfield 9, 3) := by decide +kernel
theorem dX0_stretchEnd_27 : decode cX0_stretchEnd 27 = .ok (.iload_n 3, 1) := by decide +kernel
theorem dX0_stretchEnd_28 : decode cX0_stretchEnd 28 = .ok (.iconst 1, 1) := by decide +kernel
theorem dX0_stretchEnd_29 : decode cX0_stretchEnd 29 = .ok (.iadd, 1) := by decide +kernel
theorem dX0_stretchEnd_30 : decode cX0_stretchEnd 30 = .ok (.laload, 1) := by decide +kernel
theorem dX0_stretchEnd_31 : decode cX0_stretchEnd 31 = .ok (.goto 7, 3) := by decide +kernel
theorem dX0_stretchEnd_34 : decode cX0_stretchEnd 34 = .ok (.aload_n 0, 1) := by decide +kernel
theorem dX0_stretchEnd_35 : decode cX0_stretchEnd 35 = .ok (.invokevirtual 95, 3) := by decide +kernel
theorem dX0_stretchEnd_38 : decode cX0_stretchEnd 38 = .ok (.lstore 4, 2) := by decide +kernel
theorem dX0_stretchEnd_40 : decode cX0_stretchEnd 40 = .ok (.lload 4, 2) := by decide +kernel
theorem dX0_stretchEnd_42 : decode cX0_stretchEnd 42 = .ok (.aload_n 0, 1) := by decide +kernel
theorem dX0_stretchEnd_43 : decode cX0_stretchEnd 43 = .ok (.lload_n 1, 1) := by decide +kernel
theorem dX0_stretchEnd_44 : decode cX0_stretchEnd 44 = .ok (.invokevirtual 215, 3) := by decide +kernel
theorem dX0_stretchEnd_47 : decode cX0_stretchEnd 47 = .ok (.invokestatic 218, 3) := by decide +kernel
theorem dX0_stretchEnd_50 : decode cX0_stretchEnd 50 = .ok (.lreturn, 1) := by decide +kernel
theorem dX0_correctionEnd_0 : decode cX0_correctionEnd 0 = .ok (.ldc2_w 38, 3) := by decide +kernel
theorem dX0_correctionEnd_3 : decode cX0_correctionEnd 3 = .ok (.lstore_n 3, 1) := by decide +kernel
theorem dX0_correctionEnd_4 : decode cX0_correctionEnd 4 = .ok (.lload_n 1, 1) := by decide +kernel
theorem dX0_correctionEnd_5 : decode cX0_correctionEnd 5 = .ok (.aload_n 0, 1) := by decide +kernel
theorem dX0_correctionEnd_6 : decode cX0_correctionEnd 6 = .ok (.getfield 20, 3) := by decide +kernel
theorem dX0_correctionEnd_9 : decode cX0_correctionEnd 9 = .ok (.aload_n 0, 1) := by decide +kernel
theorem dX0_correctionEnd_10 : decode cX0_correctionEnd 10 = .ok (.getfield 26, 3) := by decide +kernel
theorem dX0_correctionEnd_13 : decode cX0_correctionEnd 13 = .ok (.invokestatic 195, 3) := by decide +kernel
theorem dX0_correctionEnd_16 : decode cX0_correctionEnd 16 = .ok (.istore 5, 2) := by decide +kernel
theorem dX0_correctionEnd_18 : decode cX0_correctionEnd 18 = .ok (.iload 5, 2) := by decide +kernel
theorem dX0_correctionEnd_20 : decode cX0_correctionEnd 20 = .ok (.iconst 1, 1) := by decide +kernel
theorem dX0_correctionEnd_21 : decode cX0_correctionEnd 21 = .ok (.iadd, 1) := by decide +kernel
theorem dX0_correctionEnd_22 : decode cX0_correctionEnd 22 = .ok (.aload_n 0, 1) := by decide +kernel
theorem dX0_correctionEnd_23 : decode cX0_correctionEnd 23 = .ok (.getfield 26, 3) := by decide +kernel
theorem dX0_correctionEnd_26 : decode cX0_correctionEnd 26 = .ok (.if_icmp .ge 15, 3) := by decide +kernel
theorem dX0_correctionEnd_29 : decode cX0_correctionEnd 29 = .ok (.aload_n 0, 1) := by decide +kernel
theorem dX0_correctionEnd_30 : decode cX0_correctionEnd 30 = .ok (.getfield 20, 3) := by decide +kernel
theorem dX0_correctionEnd_33 : decode cX0_correctionEnd 33 = .ok (.iload 5, 2) := by decide +kernel
theorem dX0_correctionEnd_35 : decode cX0_correctionEnd 35 = .ok (.iconst 1, 1) := by decide +kernel
theorem dX0_correctionEnd_36 : decode cX0_correctionEnd 36 = .ok (.iadd, 1) := by decide +kernel
theorem dX0_correctionEnd_37 : decode cX0_correctionEnd 37 = .ok (.laload, 1) := by decide +kernel
theorem dX0_correctionEnd_38 : decode cX0_correctionEnd 38 = .ok (.lconst 1, 1) := by decide +kernel
theorem dX0_correctionEnd_39 : decode cX0_correctionEnd 39 = .ok (.lsub, 1) := by decide +kernel
theorem dX0_correctionEnd_40 : decode cX0_correctionEnd 40 = .ok (.lstore_n 3, 1) := by decide +kernel
theorem dX0_correctionEnd_41 : decode cX0_correctionEnd 41 = .ok (.iload 5, 2) := by decide +kernel
theorem dX0_correctionEnd_43 : decode cX0_correctionEnd 43 = .ok (.ifCond .ge 5, 3) := by decide +kernel
theorem dX0_correctionEnd_46 : decode cX0_correctionEnd 46 = .ok (.lload_n 3, 1) := by decide +kernel
theorem dX0_correctionEnd_47 : decode cX0_correctionEnd 47 = .ok (.lreturn, 1) := by decide +kernel
theorem dX0_correctionEnd_48 : decode cX0_correctionEnd 48 = .ok (.lload_n 1, 1) := by decide +kernel
theorem dX0_correctionEnd_49 : decode cX0_correctionEnd 49 = .ok (.aload_n 0, 1) := by decide +kernel
theorem dX0_correctionEnd_50 : decode cX0_correctionEnd 50 = .ok (.getfield 20, 3) := by decide +kernel
theorem dX0_correctionEnd_53 : decode cX0_correctionEnd 53 = .ok (.iload 5, 2) := by decide +kernel
theorem dX0_correctionEnd_55 : decode cX0_correctionEnd 55 = .ok (.laload, 1) := by decide +kernel
theorem dX0_correctionEnd_56 : decode cX0_correctionEnd 56 = .ok (.lsub, 1) := by decide +kernel
theorem dX0_correctionEnd_57 : decode cX0_correctionEnd 57 = .ok (.ldc2_w 211, 3) := by decide +kernel
theorem dX0_correctionEnd_60 : decode cX0_correctionEnd 60 = .ok (.lrem, 1) := by decide +kernel
theorem dX0_correctionEnd_61 : decode cX0_correctionEnd 61 = .ok (.lstore 6, 2) := by decide +kernel
theorem dX0_correctionEnd_63 : decode cX0_correctionEnd 63 = .ok (.lload_n 3, 1) := by decide +kernel
theorem dX0_correctionEnd_64 : decode cX0_correctionEnd 64 = .ok (.lload_n 1, 1) := by decide +kernel
theorem dX0_correctionEnd_65 : decode cX0_correctionEnd 65 = .ok (.ldc2_w 211, 3) := by decide +kernel
theorem dX0_correctionEnd_68 : decode cX0_correctionEnd 68 = .ok (.ladd, 1) := by decide +kernel
theorem dX0_correctionEnd_69 : decode cX0_correctionEnd 69 = .ok (.lconst 1, 1) := by decide +kernel
theorem dX0_correctionEnd_70 : decode cX0_correctionEnd 70 = .ok (.lsub, 1) := by decide +kernel
theorem dX0_correctionEnd_71 : decode cX0_correctionEnd 71 = .ok (.lload 6, 2) := by decide +kernel
theorem dX0_correctionEnd_73 : decode cX0_correctionEnd 73 = .ok (.lsub, 1) := by decide +kernel
theorem dX0_correctionEnd_74 : decode cX0_correctionEnd 74 = .ok (.invokestatic 218, 3) := by decide +kernel
theorem dX0_correctionEnd_77 : decode cX0_correctionEnd 77 = .ok (.lreturn, 1) := by decide +kernel
theorem dX0_nextSecond_0 : decode cX0_nextSecond 0 = .ok (.aload_n 0, 1) := by decide +kernel
theorem dX0_nextSecond_1 : decode cX0_nextSecond 1 = .ok (.invokevirtual 95, 3) := by decide +kernel
theorem dX0_nextSecond_4 : decode cX0_nextSecond 4 = .ok (.lstore 6, 2) := by decide +kernel
theorem dX0_nextSecond_6 : decode cX0_nextSecond 6 = .ok (.lload_n 3, 1) := by decide +kernel
theorem dX0_nextSecond_7 : decode cX0_nextSecond 7 = .ok (.lstore 8, 2) := by decide +kernel
theorem dX0_nextSecond_9 : decode cX0_nextSecond 9 = .ok (.iconst 0, 1) := by decide +kernel
theorem dX0_nextSecond_10 : decode cX0_nextSecond 10 = .ok (.istore 10, 2) := by decide +kernel
theorem dX0_nextSecond_12 : decode cX0_nextSecond 12 = .ok (.iload 10, 2) := by decide +kernel
theorem dX0_nextSecond_14 : decode cX0_nextSecond 14 = .ok (.sipush 20000, 3) := by decide +kernel
theorem dX0_nextSecond_17 : decode cX0_nextSecond 17 = .ok (.if_icmp .gt 88, 3) := by decide +kernel
theorem dX0_nextSecond_20 : decode cX0_nextSecond 20 = .ok (.lload 8, 2) := by decide +kernel
theorem dX0_nextSecond_22 : decode cX0_nextSecond 22 = .ok (.lload 6, 2) := by decide +kernel
theorem dX0_nextSecond_24 : decode cX0_nextSecond 24 = .ok (.lcmp, 1) := by decide +kernel
theorem dX0_nextSecond_25 : decode cX0_nextSecond 25 = .ok (.ifCond .gt 80, 3) := by decide +kernel
theorem dX0_nextSecond_28 : decode cX0_nextSecond 28 = .ok (.aload_n 0, 1) := by decide +kernel
theorem dX0_nextSecond_29 : decode cX0_nextSecond 29 = .ok (.lload 8, 2) := by decide +kernel
theorem dX0_nextSecond_31 : decode cX0_nextSecond 31 = .ok (.invokevirtual 70, 3) := by decide +kernel
theorem dX0_nextSecond_34 : decode cX0_nextSecond 34 = .ok (.lload_n 1, 1) := by decide +kernel
theorem dX0_nextSecond_35 : decode cX0_nextSecond 35 = .ok (.lcmp, 1) := by decide +kernel
theorem dX0_nextSecond_36 : decode cX0_nextSecond 36 = .ok (.ifCond .lt 7, 3) := by decide +kernel
theorem dX0_nextSecond_39 : decode cX0_nextSecond 39 = .ok (.iconst 1, 1) := by decide +kernel
theorem dX0_nextSecond_40 : decode cX0_nextSecond 40 = .ok (.goto 4, 3) := by decide +kernel
theorem dX0_nextSecond_43 : decode cX0_nextSecond 43 = .ok (.iconst 0, 1) := by decide +kernel
theorem dX0_nextSecond_44 : decode cX0_nextSecond 44 = .ok (.iload 5, 2) := by decide +kernel
theorem dX0_nextSecond_46 : decode cX0_nextSecond 46 = .ok (.if_icmp .ne 6, 3) := by decide +kernel
theorem dX0_nextSecond_49 : decode cX0_nextSecond 49 = .ok (.lload 8, 2) := by decide +kernel
theorem dX0_nextSecond_51 : decode cX0_nextSecond 51 = .ok (.lreturn, 1) := by decide +kernel
theorem dX0_nextSecond_52 : decode cX0_nextSecond 52 = .ok (.aload_n 0, 1) := by decide +kernel
theorem dX0_nextSecond_53 : decode cX0_nextSecond 53 = .ok (.lload 8, 2) := by decide +kernel
theorem dX0_nextSecond_55 : decode cX0_nextSecond 55 = .ok (.invokevirtual 221, 3) := by decide +kernel
theorem dX0_nextSecond_58 : decode cX0_nextSecond 58 = .ok (.lstore 11, 2) := by decide +kernel
theorem dX0_nextSecond_60 : decode cX0_nextSecond 60 = .ok (.aload_n 0, 1) := by decide +kernel
theorem dX0_nextSecond_61 : decode cX0_nextSecond 61 = .ok (.lload 11, 2) := by decide +kernel
theorem dX0_nextSecond_63 : decode cX0_nextSecond 63 = .ok (.invokevirtual 70, 3) := by decide +kernel
theorem dX0_nextSecond_66 : decode cX0_nextSecond 66 = .ok (.lload_n 1, 1) := by decide +kernel
theorem dX0_nextSecond_67 : decode cX0_nextSecond 67 = .ok (.lcmp, 1) := by decide +kernel
theorem dX0_nextSecond_68 : decode cX0_nextSecond 68 = .ok (.ifCond .lt 7, 3) := by decide +kernel
theorem dX0_nextSecond_71 : decode cX0_nextSecond 71 = .ok (.iconst 1, 1) := by decide +kernel
theorem dX0_nextSecond_72 : decode cX0_nextSecond 72 = .ok (.goto 4, 3) := by decide +kernel
theorem dX0_nextSecond_75 : decode cX0_nextSecond 75 = .ok (.iconst 0, 1) := by decide +kernel
theorem dX0_nextSecond_76 : decode cX0_nextSecond 76 = .ok (.iload 5, 2) := by decide +kernel
theorem dX0_nextSecond_78 : decode cX0_nextSecond 78 = .ok (.if_icmp .ne 15, 3) := by decide +kernel
theorem dX0_nextSecond_81 : decode cX0_nextSecond 81 = .ok (.aload_n 0, 1) := by decide +kernel
theorem dX0_nextSecond_82 : decode cX0_nextSecond 82 = .ok (.lload_n 1, 1) := by decide +kernel
theorem dX0_nextSecond_83 : decode cX0_nextSecond 83 = .ok (.lload 8, 2) := by decide +kernel
theorem dX0_nextSecond_85 : decode cX0_nextSecond 85 = .ok (.lload 11, 2) := by decide +kernel
theorem dX0_nextSecond_87 : decode cX0_nextSecond 87 = .ok (.iload 5, 2) := by decide +kernel
theorem dX0_nextSecond_89 : decode cX0_nextSecond 89 = .ok (.invokevirtual 224, 3) := by decide +kernel
theorem dX0_nextSecond_92 : decode cX0_nextSecond 92 = .ok (.lreturn, 1) := by decide +kernel
theorem dX0_nextSecond_93 : decode cX0_nextSecond 93 = .ok (.lload 11, 2) := by decide +kernel
theorem dX0_nextSecond_95 : decode cX0_nextSecond 95 = .ok (.lconst 1, 1) := by decide +kernel
theorem dX0_nextSecond_96 : decode cX0_nextSecond 96 = .ok (.ladd, 1) := by decide +kernel
theorem dX0_nextSecond_97 : decode cX0_nextSecond 97 = .ok (.lstore 8, 2) := by decide +kernel
theorem dX0_nextSecond_99 : decode cX0_nextSecond 99 = .ok (.iinc 10 1, 3) := by decide +kernel
theorem dX0_nextSecond_102 : decode cX0_nextSecond 102 = .ok (.goto (-90), 3) := by decide +kernel
theorem dX0_nextSecond_105 : decode cX0_nextSecond 105 = .ok (.lload 6, 2) := by decide +kernel
theorem dX0_nextSecond_107 : decode cX0_nextSecond 107 = .ok (.lconst 1, 1) := by decide +kernel
theorem dX0_nextSecond_108 : decode cX0_nextSecond 108 = .ok (.ladd, 1) := by decide +kernel
theorem dX0_nextSecond_109 : decode cX0_nextSecond 109 = .ok (.lreturn, 1) := by decide +kernel
theorem dX0_changeWithin_0 : decode cX0_changeWithin 0 = .ok (.lload_n 3, 1) := by decide +kernel
theorem dX0_changeWithin_1 : decode cX0_changeWithin 1 = .ok (.lstore 8, 2) := by decide +kernel
theorem dX0_changeWithin_3 : decode cX0_changeWithin 3 = .ok (.lload 5, 2) := by decide +kernel
theorem dX0_changeWithin_5 : decode cX0_changeWithin 5 = .ok (.lstore 10, 2) := by decide +kernel
theorem dX0_changeWithin_7 : decode cX0_changeWithin 7 = .ok (.iconst 0, 1) := by decide +kernel
theorem dX0_changeWithin_8 : decode cX0_changeWithin 8 = .ok (.istore 12, 2) := by decide +kernel
theorem dX0_changeWithin_10 : decode cX0_changeWithin 10 = .ok (.iload 12, 2) := by decide +kernel
theorem dX0_changeWithin_12 : decode cX0_changeWithin 12 = .ok (.sipush 20000, 3) := by decide +kernel
theorem dX0_changeWithin_15 : decode cX0_changeWithin 15 = .ok (.if_icmp .gt 62, 3) := by decide +kernel
theorem dX0_changeWithin_18 : decode cX0_changeWithin 18 = .ok (.lload 10, 2) := by decide +kernel
theorem dX0_changeWithin_20 : decode cX0_changeWithin 20 = .ok (.lload 8, 2) := by decide +kernel
theorem dX0_changeWithin_22 : decode cX0_changeWithin 22 = .ok (.lsub, 1) := by decide +kernel
theorem dX0_changeWithin_23 : decode cX0_changeWithin 23 = .ok (.lconst 1, 1) := by decide +kernel
theorem dX0_changeWithin_24 : decode cX0_changeWithin 24 = .ok (.lcmp, 1) := by decide +kernel
theorem dX0_changeWithin_25 : decode cX0_changeWithin 25 = .ok (.ifCond .le 52, 3) := by decide +kernel
theorem dX0_changeWithin_28 : decode cX0_changeWithin 28 = .ok (.lload 8, 2) := by decide +kernel
theorem dX0_changeWithin_30 : decode cX0_changeWithin 30 = .ok (.lload 10, 2) := by decide +kernel
theorem dX0_changeWithin_32 : decode cX0_changeWithin 32 = .ok (.ladd, 1) := by decide +kernel
theorem dX0_changeWithin_33 : decode cX0_changeWithin 33 = .ok (.ldc2_w 213, 3) := by decide +kernel
theorem dX0_changeWithin_36 : decode cX0_changeWithin 36 = .ok (.ldiv, 1) := by decide +kernel
theorem dX0_changeWithin_37 : decode cX0_changeWithin 37 = .ok (.lstore 13, 2) := by decide +kernel
theorem dX0_changeWithin_39 : decode cX0_changeWithin 39 = .ok (.aload_n 0, 1) := by decide +kernel
theorem dX0_changeWithin_40 : decode cX0_changeWithin 40 = .ok (.lload 13, 2) := by decide +kernel
theorem dX0_changeWithin_42 : decode cX0_changeWithin 42 = .ok (.invokevirtual 70, 3) := by decide +kernel
theorem dX0_changeWithin_45 : decode cX0_changeWithin 45 = .ok (.lload_n 1, 1) := by decide +kernel
theorem dX0_changeWithin_46 : decode cX0_changeWithin 46 = .ok (.lcmp, 1) := by decide +kernel
theorem dX0_changeWithin_47 : decode cX0_changeWithin 47 = .ok (.ifCond .lt 7, 3) := by decide +kernel
theorem dX0_changeWithin_50 : decode cX0_changeWithin 50 = .ok (.iconst 1, 1) := by decide +kernel
theorem dX0_changeWithin_51 : decode cX0_changeWithin 51 = .ok (.goto 4, 3) := by decide +kernel
theorem dX0_changeWithin_54 : decode cX0_changeWithin 54 = .ok (.iconst 0, 1) := by decide +kernel
theorem dX0_changeWithin_55 : decode cX0_changeWithin 55 = .ok (.iload 7, 2) := by decide +kernel
theorem dX0_changeWithin_57 : decode cX0_changeWithin 57 = .ok (.if_icmp .ne 10, 3) := by decide +kernel
theorem dX0_changeWithin_60 : decode cX0_changeWithin 60 = .ok (.lload 13, 2) := by decide +kernel
theorem dX0_changeWithin_62 : decode cX0_changeWithin 62 = .ok (.lstore 10, 2) := by decide +kernel
theorem dX0_changeWithin_64 : decode cX0_changeWithin 64 = .ok (.goto 7, 3) := by decide +kernel
theorem dX0_changeWithin_67 : decode cX0_changeWithin 67 = .ok (.lload 13, 2) := by decide +kernel
theorem dX0_changeWithin_69 : decode cX0_changeWithin 69 = .ok (.lstore 8, 2) := by decide +kernel
theorem dX0_changeWithin_71 : decode cX0_changeWithin 71 = .ok (.iinc 12 1, 3) := by decide +kernel
theorem dX0_changeWithin_74 : decode cX0_changeWithin 74 = .ok (.goto (-64), 3) := by decide +kernel
theorem dX0_changeWithin_77 : decode cX0_changeWithin 77 = .ok (.lload 10, 2) := by decide +kernel
theorem dX0_changeWithin_79 : decode cX0_changeWithin 79 = .ok (.lreturn, 1) := by decide +kernel
theorem dX0_longestSpan_0 : decode cX0_longestSpan 0 = .ok (.aload_n 0, 1) := by decide +kernel
theorem dX0_longestSpan_1 : decode cX0_longestSpan 1 = .ok (.invokevirtual 95, 3) := by decide +kernel
theorem dX0_longestSpan_4 : decode cX0_longestSpan 4 = .ok (.lstore 5, 2) := by decide +kernel
theorem dX0_longestSpan_6 : decode cX0_longestSpan 6 = .ok (.lload 5, 2) := by decide +kernel
theorem dX0_longestSpan_8 : decode cX0_longestSpan 8 = .ok (.lconst 1, 1) := by decide +kernel
theorem dX0_longestSpan_9 : decode cX0_longestSpan 9 = .ok (.ladd, 1) := by decide +kernel
theorem dX0_longestSpan_10 : decode cX0_longestSpan 10 = .ok (.lstore 7, 2) := by decide +kernel
theorem dX0_longestSpan_12 : decode cX0_longestSpan 12 = .ok (.lconst 0, 1) := by decide +kernel
theorem dX0_longestSpan_13 : decode cX0_longestSpan 13 = .ok (.lstore 9, 2) := by decide +kernel
theorem dX0_longestSpan_15 : decode cX0_longestSpan 15 = .ok (.aload_n 0, 1) := by decide +kernel
theorem dX0_longestSpan_16 : decode cX0_longestSpan 16 = .ok (.lload_n 1, 1) := by decide +kernel
theorem dX0_longestSpan_17 : decode cX0_longestSpan 17 = .ok (.lload_n 3, 1) := by decide +kernel
theorem dX0_longestSpan_18 : decode cX0_longestSpan 18 = .ok (.iconst 1, 1) := by decide +kernel
theorem dX0_longestSpan_19 : decode cX0_longestSpan 19 = .ok (.invokevirtual 91, 3) := by decide +kernel
theorem dX0_longestSpan_22 : decode cX0_longestSpan 22 = .ok (.lstore 11, 2) := by decide +kernel
theorem dX0_longestSpan_24 : decode cX0_longestSpan 24 = .ok (.iconst 0, 1) := by decide +kernel
theorem dX0_longestSpan_25 : decode cX0_longestSpan 25 = .ok (.istore 13, 2) := by decide +kernel
theorem dX0_longestSpan_27 : decode cX0_longestSpan 27 = .ok (.iload 13, 2) := by decide +kernel
theorem dX0_longestSpan_29 : decode cX0_longestSpan 29 = .ok (.sipush 20000, 3) := by decide +kernel
theorem dX0_longestSpan_32 : decode cX0_longestSpan 32 = .ok (.if_icmp .gt 59, 3) := by decide +kernel
theorem dX0_longestSpan_35 : decode cX0_longestSpan 35 = .ok (.lload 11, 2) := by decide +kernel
theorem dX0_longestSpan_37 : decode cX0_longestSpan 37 = .ok (.lload 5, 2) := by decide +kernel
theorem dX0_longestSpan_39 : decode cX0_longestSpan 39 = .ok (.lcmp, 1) := by decide +kernel
theorem dX0_longestSpan_40 : decode cX0_longestSpan 40 = .ok (.ifCond .gt 51, 3) := by decide +kernel
theorem dX0_longestSpan_43 : decode cX0_longestSpan 43 = .ok (.aload_n 0, 1) := by decide +kernel
theorem dX0_longestSpan_44 : decode cX0_longestSpan 44 = .ok (.lload_n 1, 1) := by decide +kernel
theorem dX0_longestSpan_45 : decode cX0_longestSpan 45 = .ok (.lload 11, 2) := by decide +kernel
theorem dX0_longestSpan_47 : decode cX0_longestSpan 47 = .ok (.iconst 0, 1) := by decide +kernel
theorem dX0_longestSpan_48 : decode cX0_longestSpan 48 = .ok (.invokevirtual 91, 3) := by decide +kernel
theorem dX0_longestSpan_51 : decode cX0_longestSpan 51 = .ok (.lstore 14, 2) := by decide +kernel
theorem dX0_longestSpan_53 : decode cX0_longestSpan 53 = .ok (.lload 14, 2) := by decide +kernel
theorem dX0_longestSpan_55 : decode cX0_longestSpan 55 = .ok (.lload 11, 2) := by decide +kernel
theorem dX0_longestSpan_57 : decode cX0_longestSpan 57 = .ok (.lsub, 1) := by decide +kernel
theorem dX0_longestSpan_58 : decode cX0_longestSpan 58 = .ok (.lload 9, 2) := by decide +kernel
theorem dX0_longestSpan_60 : decode cX0_longestSpan 60 = .ok (.lcmp, 1) := by decide +kernel
theorem dX0_longestSpan_61 : decode cX0_longestSpan 61 = .ok (.ifCond .le 14, 3) := by decide +kernel
theorem dX0_longestSpan_64 : decode cX0_longestSpan 64 = .ok (.lload 14, 2) := by decide +kernel
theorem dX0_longestSpan_66 : decode cX0_longestSpan 66 = .ok (.lload 11, 2) := by decide +kernel
theorem dX0_longestSpan_68 : decode cX0_longestSpan 68 = .ok (.lsub, 1) := by decide +kernel
theorem dX0_longestSpan_69 : decode cX0_longestSpan 69 = .ok (.lstore 9, 2) := by decide +kernel
theorem dX0_longestSpan_71 : decode cX0_longestSpan 71 = .ok (.lload 11, 2) := by decide +kernel
theorem dX0_longestSpan_73 : decode cX0_longestSpan 73 = .ok (.lstore 7, 2) := by decide +kernel
theorem dX0_longestSpan_75 : decode cX0_longestSpan 75 = .ok (.aload_n 0, 1) := by decide +kernel
theorem dX0_longestSpan_76 : decode cX0_longestSpan 76 = .ok (.lload_n 1, 1) := by decide +kernel
theorem dX0_longestSpan_77 : decode cX0_longestSpan 77 = .ok (.lload 14, 2) := by decide +kernel
theorem dX0_longestSpan_79 : decode cX0_longestSpan 79 = .ok (.iconst 1, 1) := by decide +kernel
theorem dX0_longestSpan_80 : decode cX0_longestSpan 80 = .ok (.invokevirtual 91, 3) := by decide +kernel
theorem dX0_longestSpan_83 : decode cX0_longestSpan 83 = .ok (.lstore 11, 2) := by decide +kernel
theorem dX0_longestSpan_85 : decode cX0_longestSpan 85 = .ok (.iinc 13 1, 3) := by decide +kernel
theorem dX0_longestSpan_88 : decode cX0_longestSpan 88 = .ok (.goto (-61), 3) := by decide +kernel
theorem dX0_longestSpan_91 : decode cX0_longestSpan 91 = .ok (.lload 7, 2) := by decide +kernel
theorem dX0_longestSpan_93 : decode cX0_longestSpan 93 = .ok (.lreturn, 1) := by decide +kernel
theorem dX0_firstSailing_0 : decode cX0_firstSailing 0 = .ok (.aload_n 0, 1) := by decide +kernel
theorem dX0_firstSailing_1 : decode cX0_firstSailing 1 = .ok (.invokevirtual 95, 3) := by decide +kernel
theorem dX0_firstSailing_4 : decode cX0_firstSailing 4 = .ok (.lstore 7, 2) := by decide +kernel
theorem dX0_firstSailing_6 : decode cX0_firstSailing 6 = .ok (.lload 5, 2) := by decide +kernel
theorem dX0_firstSailing_8 : decode cX0_firstSailing 8 = .ok (.lstore 9, 2) := by decide +kernel
theorem dX0_firstSailing_10 : decode cX0_firstSailing 10 = .ok (.iconst 0, 1) := by decide +kernel
theorem dX0_firstSailing_11 : decode cX0_firstSailing 11 = .ok (.istore 11, 2) := by decide +kernel
theorem dX0_firstSailing_13 : decode cX0_firstSailing 13 = .ok (.iload 11, 2) := by decide +kernel
theorem dX0_firstSailing_15 : decode cX0_firstSailing 15 = .ok (.sipush 20000, 3) := by decide +kernel
theorem dX0_firstSailing_18 : decode cX0_firstSailing 18 = .ok (.if_icmp .gt 96, 3) := by decide +kernel
theorem dX0_firstSailing_21 : decode cX0_firstSailing 21 = .ok (.lload 9, 2) := by decide +kernel
theorem dX0_firstSailing_23 : decode cX0_firstSailing 23 = .ok (.lstore 12, 2) := by decide +kernel
theorem dX0_firstSailing_25 : decode cX0_firstSailing 25 = .ok (.iconst 0, 1) := by decide +kernel
theorem dX0_firstSailing_26 : decode cX0_firstSailing 26 = .ok (.istore 14, 2) := by decide +kernel
theorem dX0_firstSailing_28 : decode cX0_firstSailing 28 = .ok (.iload 14, 2) := by decide +kernel
theorem dX0_firstSailing_30 : decode cX0_firstSailing 30 = .ok (.aload_n 0, 1) := by decide +kernel
theorem dX0_firstSailing_31 : decode cX0_firstSailing 31 = .ok (.getfield 35, 3) := by decide +kernel
theorem dX0_firstSailing_34 : decode cX0_firstSailing 34 = .ok (.if_icmp .ge 63, 3) := by decide +kernel
theorem dX0_firstSailing_37 : decode cX0_firstSailing 37 = .ok (.aload_n 0, 1) := by decide +kernel
theorem dX0_firstSailing_38 : decode cX0_firstSailing 38 = .ok (.getfield 29, 3) := by decide +kernel
theorem dX0_firstSailing_41 : decode cX0_firstSailing 41 = .ok (.iload 14, 2) := by decide +kernel
theorem dX0_firstSailing_43 : decode cX0_firstSailing 43 = .ok (.laload, 1) := by decide +kernel
theorem dX0_firstSailing_44 : decode cX0_firstSailing 44 = .ok (.lload_n 3, 1) := by decide +kernel
theorem dX0_firstSailing_45 : decode cX0_firstSailing 45 = .ok (.invokestatic 117, 3) := by decide +kernel
theorem dX0_firstSailing_48 : decode cX0_firstSailing 48 = .ok (.lstore 15, 2) := by decide +kernel
theorem dX0_firstSailing_50 : decode cX0_firstSailing 50 = .ok (.aload_n 0, 1) := by decide +kernel
theorem dX0_firstSailing_51 : decode cX0_firstSailing 51 = .ok (.lload_n 1, 1) := by decide +kernel
theorem dX0_firstSailing_52 : decode cX0_firstSailing 52 = .ok (.aload_n 0, 1) := by decide +kernel
theorem dX0_firstSailing_53 : decode cX0_firstSailing 53 = .ok (.getfield 32, 3) := by decide +kernel
theorem dX0_firstSailing_56 : decode cX0_firstSailing 56 = .ok (.iload 14, 2) := by decide +kernel
theorem dX0_firstSailing_58 : decode cX0_firstSailing 58 = .ok (.laload, 1) := by decide +kernel
theorem dX0_firstSailing_59 : decode cX0_firstSailing 59 = .ok (.lsub, 1) := by decide +kernel
theorem dX0_firstSailing_60 : decode cX0_firstSailing 60 = .ok (.lload 9, 2) := by decide +kernel
theorem dX0_firstSailing_62 : decode cX0_firstSailing 62 = .ok (.lload 15, 2) := by decide +kernel
theorem dX0_firstSailing_64 : decode cX0_firstSailing 64 = .ok (.ladd, 1) := by decide +kernel
theorem dX0_firstSailing_65 : decode cX0_firstSailing 65 = .ok (.iconst 1, 1) := by decide +kernel
theorem dX0_firstSailing_66 : decode cX0_firstSailing 66 = .ok (.invokevirtual 91, 3) := by decide +kernel
theorem dX0_firstSailing_69 : decode cX0_firstSailing 69 = .ok (.lstore 17, 2) := by decide +kernel
theorem dX0_firstSailing_71 : decode cX0_firstSailing 71 = .ok (.lload 17, 2) := by decide +kernel
theorem dX0_firstSailing_73 : decode cX0_firstSailing 73 = .ok (.lload 7, 2) := by decide +kernel
theorem dX0_firstSailing_75 : decode cX0_firstSailing 75 = .ok (.lcmp, 1) := by decide +kernel
theorem dX0_firstSailing_76 : decode cX0_firstSailing 76 = .ok (.ifCond .le 8, 3) := by decide +kernel
theorem dX0_firstSailing_79 : decode cX0_firstSailing 79 = .ok (.lload 7, 2) := by decide +kernel
theorem dX0_firstSailing_81 : decode cX0_firstSailing 81 = .ok (.lconst 1, 1) := by decide +kernel
theorem dX0_firstSailing_82 : decode cX0_firstSailing 82 = .ok (.ladd, 1) := by decide +kernel
theorem dX0_firstSailing_83 : decode cX0_firstSailing 83 = .ok (.lreturn, 1) := by decide +kernel
theorem dX0_firstSailing_84 : decode cX0_firstSailing 84 = .ok (.lload 17, 2) := by decide +kernel
theorem dX0_firstSailing_86 : decode cX0_firstSailing 86 = .ok (.lload 15, 2) := by decide +kernel
theorem dX0_firstSailing_88 : decode cX0_firstSailing 88 = .ok (.lsub, 1) := by decide +kernel
theorem dX0_firstSailing_89 : decode cX0_firstSailing 89 = .ok (.lstore 9, 2) := by decide +kernel
theorem dX0_firstSailing_91 : decode cX0_firstSailing 91 = .ok (.iinc 14 1, 3) := by decide +kernel
theorem dX0_firstSailing_94 : decode cX0_firstSailing 94 = .ok (.goto (-66), 3) := by decide +kernel
theorem dX0_firstSailing_97 : decode cX0_firstSailing 97 = .ok (.lload 9, 2) := by decide +kernel
theorem dX0_firstSailing_99 : decode cX0_firstSailing 99 = .ok (.lload 12, 2) := by decide +kernel
theorem dX0_firstSailing_101 : decode cX0_firstSailing 101 = .ok (.lcmp, 1) := by decide +kernel
theorem dX0_firstSailing_102 : decode cX0_firstSailing 102 = .ok (.ifCond .ne 6, 3) := by decide +kernel
theorem dX0_firstSailing_105 : decode cX0_firstSailing 105 = .ok (.lload 9, 2) := by decide +kernel
theorem dX0_firstSailing_107 : decode cX0_firstSailing 107 = .ok (.lreturn, 1) := by decide +kernel
theorem dX0_firstSailing_108 : decode cX0_firstSailing 108 = .ok (.iinc 11 1, 3) := by decide +kernel
theorem dX0_firstSailing_111 : decode cX0_firstSailing 111 = .ok (.goto (-98), 3) := by decide +kernel
theorem dX0_firstSailing_114 : decode cX0_firstSailing 114 = .ok (.lload 7, 2) := by decide +kernel
theorem dX0_firstSailing_116 : decode cX0_firstSailing 116 = .ok (.lconst 1, 1) := by decide +kernel
theorem dX0_firstSailing_117 : decode cX0_firstSailing 117 = .ok (.ladd, 1) := by decide +kernel
theorem dX0_firstSailing_118 : decode cX0_firstSailing 118 = .ok (.lreturn, 1) := by decide +kernel
theorem dX0_lastSailing_0 : decode cX0_lastSailing 0 = .ok (.aload_n 0, 1) := by decide +kernel
theorem dX0_lastSailing_1 : decode cX0_lastSailing 1 = .ok (.invokevirtual 95, 3) := by decide +kernel
theorem dX0_lastSailing_4 : decode cX0_lastSailing 4 = .ok (.lstore 7, 2) := by decide +kernel
theorem dX0_lastSailing_6 : decode cX0_lastSailing 6 = .ok (.iconst 0, 1) := by decide +kernel
theorem dX0_lastSailing_7 : decode cX0_lastSailing 7 = .ok (.istore 9, 2) := by decide +kernel
theorem dX0_lastSailing_9 : decode cX0_lastSailing 9 = .ok (.iload 9, 2) := by decide +kernel
theorem dX0_lastSailing_11 : decode cX0_lastSailing 11 = .ok (.aload_n 0, 1) := by decide +kernel
theorem dX0_lastSailing_12 : decode cX0_lastSailing 12 = .ok (.getfield 35, 3) := by decide +kernel
theorem dX0_lastSailing_15 : decode cX0_lastSailing 15 = .ok (.if_icmp .ge 57, 3) := by decide +kernel
theorem dX0_lastSailing_18 : decode cX0_lastSailing 18 = .ok (.aload_n 0, 1) := by decide +kernel
theorem dX0_lastSailing_19 : decode cX0_lastSailing 19 = .ok (.getfield 29, 3) := by decide +kernel
theorem dX0_lastSailing_22 : decode cX0_lastSailing 22 = .ok (.iload 9, 2) := by decide +kernel
theorem dX0_lastSailing_24 : decode cX0_lastSailing 24 = .ok (.laload, 1) := by decide +kernel
theorem dX0_lastSailing_25 : decode cX0_lastSailing 25 = .ok (.lload_n 3, 1) := by decide +kernel
theorem dX0_lastSailing_26 : decode cX0_lastSailing 26 = .ok (.invokestatic 117, 3) := by decide +kernel
theorem dX0_lastSailing_29 : decode cX0_lastSailing 29 = .ok (.lstore 10, 2) := by decide +kernel
theorem dX0_lastSailing_31 : decode cX0_lastSailing 31 = .ok (.aload_n 0, 1) := by decide +kernel
theorem dX0_lastSailing_32 : decode cX0_lastSailing 32 = .ok (.lload_n 1, 1) := by decide +kernel
theorem dX0_lastSailing_33 : decode cX0_lastSailing 33 = .ok (.aload_n 0, 1) := by decide +kernel
theorem dX0_lastSailing_34 : decode cX0_lastSailing 34 = .ok (.getfield 32, 3) := by decide +kernel
theorem dX0_lastSailing_37 : decode cX0_lastSailing 37 = .ok (.iload 9, 2) := by decide +kernel
theorem dX0_lastSailing_39 : decode cX0_lastSailing 39 = .ok (.laload, 1) := by decide +kernel
theorem dX0_lastSailing_40 : decode cX0_lastSailing 40 = .ok (.lsub, 1) := by decide +kernel
theorem dX0_lastSailing_41 : decode cX0_lastSailing 41 = .ok (.lload 5, 2) := by decide +kernel
theorem dX0_lastSailing_43 : decode cX0_lastSailing 43 = .ok (.lload 10, 2) := by decide +kernel
theorem dX0_lastSailing_45 : decode cX0_lastSailing 45 = .ok (.ladd, 1) := by decide +kernel
theorem dX0_lastSailing_46 : decode cX0_lastSailing 46 = .ok (.iconst 0, 1) := by decide +kernel
theorem dX0_lastSailing_47 : decode cX0_lastSailing 47 = .ok (.invokevirtual 91, 3) := by decide +kernel
theorem dX0_lastSailing_50 : decode cX0_lastSailing 50 = .ok (.lstore 12, 2) := by decide +kernel
theorem dX0_lastSailing_52 : decode cX0_lastSailing 52 = .ok (.lload 7, 2) := by decide +kernel
theorem dX0_lastSailing_54 : decode cX0_lastSailing 54 = .ok (.lload 12, 2) := by decide +kernel
theorem dX0_lastSailing_56 : decode cX0_lastSailing 56 = .ok (.lconst 1, 1) := by decide +kernel
theorem dX0_lastSailing_57 : decode cX0_lastSailing 57 = .ok (.lsub, 1) := by decide +kernel
theorem dX0_lastSailing_58 : decode cX0_lastSailing 58 = .ok (.lload 10, 2) := by decide +kernel
theorem dX0_lastSailing_60 : decode cX0_lastSailing 60 = .ok (.lsub, 1) := by decide +kernel
theorem dX0_lastSailing_61 : decode cX0_lastSailing 61 = .ok (.invokestatic 218, 3) := by decide +kernel
theorem dX0_lastSailing_64 : decode cX0_lastSailing 64 = .ok (.lstore 7, 2) := by decide +kernel
theorem dX0_lastSailing_66 : decode cX0_lastSailing 66 = .ok (.iinc 9 1, 3) := by decide +kernel
theorem dX0_lastSailing_69 : decode cX0_lastSailing 69 = .ok (.goto (-60), 3) := by decide +kernel
theorem dX0_lastSailing_72 : decode cX0_lastSailing 72 = .ok (.lload 7, 2) := by decide +kernel
theorem dX0_lastSailing_74 : decode cX0_lastSailing 74 = .ok (.lreturn, 1) := by decide +kernel
theorem dJ9_floorDiv_f86c9_0 : decode cJ9_floorDiv_f86c9 0 = .ok (.lload_n 0, 1) := by decide +kernel
theorem dJ9_floorDiv_f86c9_1 : decode cJ9_floorDiv_f86c9 1 = .ok (.lload_n 2, 1) := by decide +kernel
theorem dJ9_floorDiv_f86c9_2 : decode cJ9_floorDiv_f86c9 2 = .ok (.ldiv, 1) := by decide +kernel
theorem dJ9_floorDiv_f86c9_3 : decode cJ9_floorDiv_f86c9 3 = .ok (.lstore 4, 2) := by decide +kernel
theorem dJ9_floorDiv_f86c9_5 : decode cJ9_floorDiv_f86c9 5 = .ok (.lload_n 0, 1) := by decide +kernel
theorem dJ9_floorDiv_f86c9_6 : decode cJ9_floorDiv_f86c9 6 = .ok (.lload_n 2, 1) := by decide +kernel
theorem dJ9_floorDiv_f86c9_7 : decode cJ9_floorDiv_f86c9 7 = .ok (.lxor, 1) := by decide +kernel
theorem dJ9_floorDiv_f86c9_8 : decode cJ9_floorDiv_f86c9 8 = .ok (.lconst 0, 1) := by decide +kernel
theorem dJ9_floorDiv_f86c9_9 : decode cJ9_floorDiv_f86c9 9 = .ok (.lcmp, 1) := by decide +kernel
theorem dJ9_floorDiv_f86c9_10 : decode cJ9_floorDiv_f86c9 10 = .ok (.ifCond .ge 17, 3) := by decide +kernel
theorem dJ9_floorDiv_f86c9_13 : decode cJ9_floorDiv_f86c9 13 = .ok (.lload 4, 2) := by decide +kernel
theorem dJ9_floorDiv_f86c9_15 : decode cJ9_floorDiv_f86c9 15 = .ok (.lload_n 2, 1) := by decide +kernel
theorem dJ9_floorDiv_f86c9_16 : decode cJ9_floorDiv_f86c9 16 = .ok (.lmul, 1) := by decide +kernel
theorem dJ9_floorDiv_f86c9_17 : decode cJ9_floorDiv_f86c9 17 = .ok (.lload_n 0, 1) := by decide +kernel
theorem dJ9_floorDiv_f86c9_18 : decode cJ9_floorDiv_f86c9 18 = .ok (.lcmp, 1) := by decide +kernel
theorem dJ9_floorDiv_f86c9_19 : decode cJ9_floorDiv_f86c9 19 = .ok (.ifCond .eq 8, 3) := by decide +kernel
theorem dJ9_floorDiv_f86c9_22 : decode cJ9_floorDiv_f86c9 22 = .ok (.lload 4, 2) := by decide +kernel
theorem dJ9_floorDiv_f86c9_24 : decode cJ9_floorDiv_f86c9 24 = .ok (.lconst 1, 1) := by decide +kernel
theorem dJ9_floorDiv_f86c9_25 : decode cJ9_floorDiv_f86c9 25 = .ok (.lsub, 1) := by decide +kernel
theorem dJ9_floorDiv_f86c9_26 : decode cJ9_floorDiv_f86c9 26 = .ok (.lreturn, 1) := by decide +kernel
theorem dJ9_floorDiv_f86c9_27 : decode cJ9_floorDiv_f86c9 27 = .ok (.lload 4, 2) := by decide +kernel
theorem dJ9_floorDiv_f86c9_29 : decode cJ9_floorDiv_f86c9 29 = .ok (.lreturn, 1) := by decide +kernel
theorem dJ9_min_f86c9_0 : decode cJ9_min_f86c9 0 = .ok (.lload_n 0, 1) := by decide +kernel
theorem dJ9_min_f86c9_1 : decode cJ9_min_f86c9 1 = .ok (.lload_n 2, 1) := by decide +kernel
theorem dJ9_min_f86c9_2 : decode cJ9_min_f86c9 2 = .ok (.lcmp, 1) := by decide +kernel
theorem dJ9_min_f86c9_3 : decode cJ9_min_f86c9 3 = .ok (.ifCond .gt 7, 3) := by decide +kernel
theorem dJ9_min_f86c9_6 : decode cJ9_min_f86c9 6 = .ok (.lload_n 0, 1) := by decide +kernel
theorem dJ9_min_f86c9_7 : decode cJ9_min_f86c9 7 = .ok (.goto 4, 3) := by decide +kernel
theorem dJ9_min_f86c9_10 : decode cJ9_min_f86c9 10 = .ok (.lload_n 2, 1) := by decide +kernel
theorem dJ9_min_f86c9_11 : decode cJ9_min_f86c9 11 = .ok (.lreturn, 1) := by decide +kernel
end
section
theorem dX1_init_0 : decode cX1_init 0 = .ok (.aload_n 0, 1) := by decide +kernel
theorem dX1_init_1 : decode cX1_init 1 = .ok (.invokespecial 1, 3) := by decide +kernel
theorem dX1_init_4 : decode cX1_init 4 = .ok (.aload_n 0, 1) := by decide +kernel
theorem dX1_init_5 : decode cX1_init 5 = .ok (.bipush 40, 2) := by decide +kernel
theorem dX1_init_7 : decode cX1_init 7 = .ok (.newarray .int, 2) := by decide +kernel
theorem dX1_init_9 : decode cX1_init 9 = .ok (.putfield 7, 3) := by decide +kernel
theorem dX1_init_12 : decode cX1_init 12 = .ok (.aload_n 0, 1) := by decide +kernel
theorem dX1_init_13 : decode cX1_init 13 = .ok (.bipush 40, 2) := by decide +kernel
theorem dX1_init_15 : decode cX1_init 15 = .ok (.newarray .int, 2) := by decide +kernel
theorem dX1_init_17 : decode cX1_init 17 = .ok (.putfield 13, 3) := by decide +kernel
theorem dX1_init_20 : decode cX1_init 20 = .ok (.aload_n 0, 1) := by decide +kernel
theorem dX1_init_21 : decode cX1_init 21 = .ok (.bipush 16, 2) := by decide +kernel
theorem dX1_init_23 : decode cX1_init 23 = .ok (.newarray .int, 2) := by decide +kernel
theorem dX1_init_25 : decode cX1_init 25 = .ok (.putfield 16, 3) := by decide +kernel
theorem dX1_init_28 : decode cX1_init 28 = .ok (.aload_n 0, 1) := by decide +kernel
theorem dX1_init_29 : decode cX1_init 29 = .ok (.bipush 16, 2) := by decide +kernel
theorem dX1_init_31 : decode cX1_init 31 = .ok (.newarray .long, 2) := by decide +kernel
theorem dX1_init_33 : decode cX1_init 33 = .ok (.putfield 19, 3) := by decide +kernel
theorem dX1_init_36 : decode cX1_init 36 = .ok (.aload_n 0, 1) := by decide +kernel
theorem dX1_init_37 : decode cX1_init 37 = .ok (.bipush 12, 2) := by decide +kernel
theorem dX1_init_39 : decode cX1_init 39 = .ok (.newarray .long, 2) := by decide +kernel
theorem dX1_init_41 : decode cX1_init 41 = .ok (.putfield 23, 3) := by decide +kernel
theorem dX1_init_44 : decode cX1_init 44 = .ok (.aload_n 0, 1) := by decide +kernel
theorem dX1_init_45 : decode cX1_init 45 = .ok (.bipush 12, 2) := by decide +kernel
theorem dX1_init_47 : decode cX1_init 47 = .ok (.newarray .long, 2) := by decide +kernel
theorem dX1_init_49 : decode cX1_init 49 = .ok (.putfield 26, 3) := by decide +kernel
theorem dX1_init_52 : decode cX1_init 52 = .ok (.aload_n 0, 1) := by decide +kernel
theorem dX1_init_53 : decode cX1_init 53 = .ok (.bipush 65, 2) := by decide +kernel
theorem dX1_init_55 : decode cX1_init 55 = .ok (.newarray .int, 2) := by decide +kernel
theorem dX1_init_57 : decode cX1_init 57 = .ok (.dup, 1) := by decide +kernel
theorem dX1_init_58 : decode cX1_init 58 = .ok (.iconst 0, 1) := by decide +kernel
theorem dX1_init_59 : decode cX1_init 59 = .ok (.iconst 0, 1) := by decide +kernel
theorem dX1_init_60 : decode cX1_init 60 = .ok (.iastore, 1) := by decide +kernel
theorem dX1_init_61 : decode cX1_init 61 = .ok (.dup, 1) := by decide +kernel
theorem dX1_init_62 : decode cX1_init 62 = .ok (.iconst 1, 1) := by decide +kernel
theorem dX1_init_63 : decode cX1_init 63 = .ok (.bipush 20, 2) := by decide +kernel
theorem dX1_init_65 : decode cX1_init 65 = .ok (.iastore, 1) := by decide +kernel
theorem dX1_init_66 : decode cX1_init 66 = .ok (.dup, 1) := by decide +kernel
theorem dX1_init_67 : decode cX1_init 67 = .ok (.iconst 2, 1) := by decide +kernel
theorem dX1_init_68 : decode cX1_init 68 = .ok (.bipush 79, 2) := by decide +kernel
theorem dX1_init_70 : decode cX1_init 70 = .ok (.iastore, 1) := by decide +kernel
theorem dX1_init_71 : decode cX1_init 71 = .ok (.dup, 1) := by decide +kernel
theorem dX1_init_72 : decode cX1_init 72 = .ok (.iconst 3, 1) := by decide +kernel
theorem dX1_init_73 : decode cX1_init 73 = .ok (.sipush 177, 3) := by decide +kernel
theorem dX1_init_76 : decode cX1_init 76 = .ok (.iastore, 1) := by decide +kernel
theorem dX1_init_77 : decode cX1_init 77 = .ok (.dup, 1) := by decide +kernel
theorem dX1_init_78 : decode cX1_init 78 = .ok (.iconst 4, 1) := by decide +kernel
theorem dX1_init_79 : decode cX1_init 79 = .ok (.sipush 315, 3) := by decide +kernel
theorem dX1_init_82 : decode cX1_init 82 = .ok (.iastore, 1) := by decide +kernel
theorem dX1_init_83 : decode cX1_init 83 = .ok (.dup, 1) := by decide +kernel
theorem dX1_init_84 : decode cX1_init 84 = .ok (.iconst 5, 1) := by decide +kernel
theorem dX1_init_85 : decode cX1_init 85 = .ok (.sipush 491, 3) := by decide +kernel
theorem dX1_init_88 : decode cX1_init 88 = .ok (.iastore, 1) := by decide +kernel
theorem dX1_init_89 : decode cX1_init 89 = .ok (.dup, 1) := by decide +kernel
theorem dX1_init_90 : decode cX1_init 90 = .ok (.bipush 6, 2) := by decide +kernel
theorem dX1_init_92 : decode cX1_init 92 = .ok (.sipush 705, 3) := by decide +kernel
theorem dX1_init_95 : decode cX1_init 95 = .ok (.iastore, 1) := by decide +kernel
theorem dX1_init_96 : decode cX1_init 96 = .ok (.dup, 1) := by decide +kernel
theorem dX1_init_97 : decode cX1_init 97 = .ok (.bipush 7, 2) := by decide +kernel
theorem dX1_init_99 : decode cX1_init 99 = .ok (.sipush 958, 3) := by decide +kernel
theorem dX1_init_102 : decode cX1_init 102 = .ok (.iastore, 1) := by decide +kernel
theorem dX1_init_103 : decode cX1_init 103 = .ok (.dup, 1) := by decide +kernel
theorem dX1_init_104 : decode cX1_init 104 = .ok (.bipush 8, 2) := by decide +kernel
theorem dX1_init_106 : decode cX1_init 106 = .ok (.sipush 1247, 3) := by decide +kernel
theorem dX1_init_109 : decode cX1_init 109 = .ok (.iastore, 1) := by decide +kernel
theorem dX1_init_110 : decode cX1_init 110 = .ok (.dup, 1) := by decide +kernel
theorem dX1_init_111 : decode cX1_init 111 = .ok (.bipush 9, 2) := by decide +kernel
theorem dX1_init_113 : decode cX1_init 113 = .ok (.sipush 1573, 3) := by decide +kernel
theorem dX1_init_116 : decode cX1_init 116 = .ok (.iastore, 1) := by decide +kernel
theorem dX1_init_117 : decode cX1_init 117 = .ok (.dup, 1) := by decide +kernel
theorem dX1_init_118 : decode cX1_init 118 = .ok (.bipush 10, 2) := by decide +kernel
theorem dX1_init_120 : decode cX1_init 120 = .ok (.sipush 1935, 3) := by decide +kernel
theorem dX1_init_123 : decode cX1_init 123 = .ok (.iastore, 1) := by decide +kernel
theorem dX1_init_124 : decode cX1_init 124 = .ok (.dup, 1) := by decide +kernel
theorem dX1_init_125 : decode cX1_init 125 = .ok (.bipush 11, 2) := by decide +kernel
theorem dX1_init_127 : decode cX1_init 127 = .ok (.sipush 2331, 3) := by decide +kernel
theorem dX1_init_130 : decode cX1_init 130 = .ok (.iastore, 1) := by decide +kernel
theorem dX1_init_131 : decode cX1_init 131 = .ok (.dup, 1) := by decide +kernel
theorem dX1_init_132 : decode cX1_init 132 = .ok (.bipush 12, 2) := by decide +kernel
theorem dX1_init_134 : decode cX1_init 134 = .ok (.sipush 2761, 3) := by decide +kernel
theorem dX1_init_137 : decode cX1_init 137 = .ok (.iastore, 1) := by decide +kernel
theorem dX1_init_138 : decode cX1_init 138 = .ok (.dup, 1) := by decide +kernel
theorem dX1_init_139 : decode cX1_init 139 = .ok (.bipush 13, 2) := by decide +kernel
theorem dX1_init_141 : decode cX1_init 141 = .ok (.sipush 3224, 3) := by decide +kernel
theorem dX1_init_144 : decode cX1_init 144 = .ok (.iastore, 1) := by decide +kernel
theorem dX1_init_145 : decode cX1_init 145 = .ok (.dup, 1) := by decide +kernel
theorem dX1_init_146 : decode cX1_init 146 = .ok (.bipush 14, 2) := by decide +kernel
theorem dX1_init_148 : decode cX1_init 148 = .ok (.sipush 3719, 3) := by decide +kernel
theorem dX1_init_151 : decode cX1_init 151 = .ok (.iastore, 1) := by decide +kernel
theorem dX1_init_152 : decode cX1_init 152 = .ok (.dup, 1) := by decide +kernel
theorem dX1_init_153 : decode cX1_init 153 = .ok (.bipush 15, 2) := by decide +kernel
theorem dX1_init_155 : decode cX1_init 155 = .ok (.sipush 4244, 3) := by decide +kernel
theorem dX1_init_158 : decode cX1_init 158 = .ok (.iastore, 1) := by decide +kernel
theorem dX1_init_159 : decode cX1_init 159 = .ok (.dup, 1) := by decide +kernel
theorem dX1_init_160 : decode cX1_init 160 = .ok (.bipush 16, 2) := by decide +kernel
theorem dX1_init_162 : decode cX1_init 162 = .ok (.sipush 4799, 3) := by decide +kernel
theorem dX1_init_165 : decode cX1_init 165 = .ok (.iastore, 1) := by decide +kernel
theorem dX1_init_166 : decode cX1_init 166 = .ok (.dup, 1) := by decide +kernel
theorem dX1_init_167 : decode cX1_init 167 = .ok (.bipush 17, 2) := by decide +kernel
theorem dX1_init_169 : decode cX1_init 169 = .ok (.sipush 5381, 3) := by decide +kernel
theorem dX1_init_172 : decode cX1_init 172 = .ok (.iastore, 1) := by decide +kernel
theorem dX1_init_173 : decode cX1_init 173 = .ok (.dup, 1) := by decide +kernel
theorem dX1_init_174 : decode cX1_init 174 = .ok (.bipush 18, 2) := by decide +kernel
theorem dX1_init_176 : decode cX1_init 176 = .ok (.sipush 5990, 3) := by decide +kernel
theorem dX1_init_179 : decode cX1_init 179 = .ok (.iastore, 1) := by decide +kernel
theorem dX1_init_180 : decode cX1_init 180 = .ok (.dup, 1) := by decide +kernel
theorem dX1_init_181 : decode cX1_init 181 = .ok (.bipush 19, 2) := by decide +kernel
theorem dX1_init_183 : decode cX1_init 183 = .ok (.sipush 6624, 3) := by decide +kernel
theorem dX1_init_186 : decode cX1_init 186 = .ok (.iastore, 1) := by decide +kernel
theorem dX1_init_187 : decode cX1_init 187 = .ok (.dup, 1) := by decide +kernel
theorem dX1_init_188 : decode cX1_init 188 = .ok (.bipush 20, 2) := by decide +kernel
theorem dX1_init_190 : decode cX1_init 190 = .ok (.sipush 7282, 3) := by decide +kernel
theorem dX1_init_193 : decode cX1_init 193 = .ok (.iastore, 1) := by decide +kernel
theorem dX1_init_194 : decode cX1_init 194 = .ok (.dup, 1) := by decide +kernel
theorem dX1_init_195 : decode cX1_init 195 = .ok (.bipush 21, 2) := by decide +kernel
theorem dX1_init_197 : decode cX1_init 197 = .ok (.sipush 7961, 3) := by decide +kernel
theorem dX1_init_200 : decode cX1_init 200 = .ok (.iastore, 1) := by decide +kernel
theorem dX1_init_201 : decode cX1_init 201 = .ok (.dup, 1) := by decide +kernel
theorem dX1_init_202 : decode cX1_init 202 = .ok (.bipush 22, 2) := by decide +kernel
theorem dX1_init_204 : decode cX1_init 204 = .ok (.sipush 8661, 3) := by decide +kernel
theorem dX1_init_207 : decode cX1_init 207 = .ok (.iastore, 1) := by decide +kernel
theorem dX1_init_208 : decode cX1_init 208 = .ok (.dup, 1) := by decide +kernel
theorem dX1_init_209 : decode cX1_init 209 = .ok (.bipush 23, 2) := by decide +kernel
theorem dX1_init_211 : decode cX1_init 211 = .ok (.sipush 9379, 3) := by decide +kernel
theorem dX1_init_214 : decode cX1_init 214 = .ok (.iastore, 1) := by decide +kernel
theorem dX1_init_215 : decode cX1_init 215 = .ok (.dup, 1) := by decide +kernel
theorem dX1_init_216 : decode cX1_init 216 = .ok (.bipush 24, 2) := by decide +kernel
theorem dX1_init_218 : decode cX1_init 218 = .ok (.sipush 10114, 3) := by decide +kernel
theorem dX1_init_221 : decode cX1_init 221 = .ok (.iastore, 1) := by decide +kernel
theorem dX1_init_222 : decode cX1_init 222 = .ok (.dup, 1) := by decide +kernel
theorem dX1_init_223 : decode cX1_init 223 = .ok (.bipush 25, 2) := by decide +kernel
theorem dX1_init_225 : decode cX1_init 225 = .ok (.sipush 10864, 3) := by decide +kernel
theorem dX1_init_228 : decode cX1_init 228 = .ok (.iastore, 1) := by decide +kernel
theorem dX1_init_229 : decode cX1_init 229 = .ok (.dup, 1) := by decide +kernel
theorem dX1_init_230 : decode cX1_init 230 = .ok (.bipush 26, 2) := by decide +kernel
theorem dX1_init_232 : decode cX1_init 232 = .ok (.sipush 11628, 3) := by decide +kernel
theorem dX1_init_235 : decode cX1_init 235 = .ok (.iastore, 1) := by decide +kernel
theorem dX1_init_236 : decode cX1_init 236 = .ok (.dup, 1) := by decide +kernel
theorem dX1_init_237 : decode cX1_init 237 = .ok (.bipush 27, 2) := by decide +kernel
theorem dX1_init_239 : decode cX1_init 239 = .ok (.sipush 12403, 3) := by decide +kernel
theorem dX1_init_242 : decode cX1_init 242 = .ok (.iastore, 1) := by decide +kernel
theorem dX1_init_243 : decode cX1_init 243 = .ok (.dup, 1) := by decide +kernel
theorem dX1_init_244 : decode cX1_init 244 = .ok (.bipush 28, 2) := by decide +kernel
theorem dX1_init_246 : decode cX1_init 246 = .ok (.sipush 13188, 3) := by decide +kernel
theorem dX1_init_249 : decode cX1_init 249 = .ok (.iastore, 1) := by decide +kernel
theorem dX1_init_250 : decode cX1_init 250 = .ok (.dup, 1) := by decide +kernel
theorem dX1_init_251 : decode cX1_init 251 = .ok (.bipush 29, 2) := by decide +kernel
theorem dX1_init_253 : decode cX1_init 253 = .ok (.sipush 13980, 3) := by decide +kernel
theorem dX1_init_256 : decode cX1_init 256 = .ok (.iastore, 1) := by decide +kernel
theorem dX1_init_257 : decode cX1_init 257 = .ok (.dup, 1) := by decide +kernel
theorem dX1_init_258 : decode cX1_init 258 = .ok (.bipush 30, 2) := by decide +kernel
theorem dX1_init_260 : decode cX1_init 260 = .ok (.sipush 14778, 3) := by decide +kernel
theorem dX1_init_263 : decode cX1_init 263 = .ok (.iastore, 1) := by decide +kernel
theorem dX1_init_264 : decode cX1_init 264 = .ok (.dup, 1) := by decide +kernel
theorem dX1_init_265 : decode cX1_init 265 = .ok (.bipush 31, 2) := by decide +kernel
theorem dX1_init_267 : decode cX1_init 267 = .ok (.sipush 15580, 3) := by decide +kernel
theorem dX1_init_270 : decode cX1_init 270 = .ok (.iastore, 1) := by decide +kernel
theorem dX1_init_271 : decode cX1_init 271 = .ok (.dup, 1) := by decide +kernel
theorem dX1_init_272 : decode cX1_init 272 = .ok (.bipush 32, 2) := by decide +kernel
theorem dX1_init_274 : decode cX1_init 274 = .ok (.sipush 16384, 3) := by decide +kernel
theorem dX1_init_277 : decode cX1_init 277 = .ok (.iastore, 1) := by decide +kernel
theorem dX1_init_278 : decode cX1_init 278 = .ok (.dup, 1) := by decide +kernel
theorem dX1_init_279 : decode cX1_init 279 = .ok (.bipush 33, 2) := by decide +kernel
theorem dX1_init_281 : decode cX1_init 281 = .ok (.sipush 17188, 3) := by decide +kernel
theorem dX1_init_284 : decode cX1_init 284 = .ok (.iastore, 1) := by decide +kernel
theorem dX1_init_285 : decode cX1_init 285 = .ok (.dup, 1) := by decide +kernel
theorem dX1_init_286 : decode cX1_init 286 = .ok (.bipush 34, 2) := by decide +kernel
theorem dX1_init_288 : decode cX1_init 288 = .ok (.sipush 17990, 3) := by decide +kernel
theorem dX1_init_291 : decode cX1_init 291 = .ok (.iastore, 1) := by decide +kernel
theorem dX1_init_292 : decode cX1_init 292 = .ok (.dup, 1) := by decide +kernel
theorem dX1_init_293 : decode cX1_init 293 = .ok (.bipush 35, 2) := by decide +kernel
theorem dX1_init_295 : decode cX1_init 295 = .ok (.sipush 18788, 3) := by decide +kernel
theorem dX1_init_298 : decode cX1_init 298 = .ok (.iastore, 1) := by decide +kernel
theorem dX1_init_299 : decode cX1_init 299 = .ok (.dup, 1) := by decide +kernel
theorem dX1_init_300 : decode cX1_init 300 = .ok (.bipush 36, 2) := by decide +kernel
theorem dX1_init_302 : decode cX1_init 302 = .ok (.sipush 19580, 3) := by decide +kernel
theorem dX1_init_305 : decode cX1_init 305 = .ok (.iastore, 1) := by decide +kernel
theorem dX1_init_306 : decode cX1_init 306 = .ok (.dup, 1) := by decide +kernel
theorem dX1_init_307 : decode cX1_init 307 = .ok (.bipush 37, 2) := by decide +kernel
theorem dX1_init_309 : decode cX1_init 309 = .ok (.sipush 20365, 3) := by decide +kernel
theorem dX1_init_312 : decode cX1_init 312 = .ok (.iastore, 1) := by decide +kernel
theorem dX1_init_313 : decode cX1_init 313 = .ok (.dup, 1) := by decide +kernel
theorem dX1_init_314 : decode cX1_init 314 = .ok (.bipush 38, 2) := by decide +kernel
theorem dX1_init_316 : decode cX1_init 316 = .ok (.sipush 21140, 3) := by decide +kernel
theorem dX1_init_319 : decode cX1_init 319 = .ok (.iastore, 1) := by decide +kernel
theorem dX1_init_320 : decode cX1_init 320 = .ok (.dup, 1) := by decide +kernel
theorem dX1_init_321 : decode cX1_init 321 = .ok (.bipush 39, 2) := by decide +kernel
theorem dX1_init_323 : decode cX1_init 323 = .ok (.sipush 21904, 3) := by decide +kernel
theorem dX1_init_326 : decode cX1_init 326 = .ok (.iastore, 1) := by decide +kernel
theorem dX1_init_327 : decode cX1_init 327 = .ok (.dup, 1) := by decide +kernel
theorem dX1_init_328 : decode cX1_init 328 = .ok (.bipush 40, 2) := by decide +kernel
theorem dX1_init_330 : decode cX1_init 330 = .ok (.sipush 22654, 3) := by decide +kernel
theorem dX1_init_333 : decode cX1_init 333 = .ok (.iastore, 1) := by decide +kernel
theorem dX1_init_334 : decode cX1_init 334 = .ok (.dup, 1) := by decide +kernel
theorem dX1_init_335 : decode cX1_init 335 = .ok (.bipush 41, 2) := by decide +kernel
theorem dX1_init_337 : decode cX1_init 337 = .ok (.sipush 23389, 3) := by decide +kernel
theorem dX1_init_340 : decode cX1_init 340 = .ok (.iastore, 1) := by decide +kernel
theorem dX1_init_341 : decode cX1_init 341 = .ok (.dup, 1) := by decide +kernel
theorem dX1_init_342 : decode cX1_init 342 = .ok (.bipush 42, 2) := by decide +kernel
theorem dX1_init_344 : decode cX1_init 344 = .ok (.sipush 24107, 3) := by decide +kernel
theorem dX1_init_347 : decode cX1_init 347 = .ok (.iastore, 1) := by decide +kernel
theorem dX1_init_348 : decode cX1_init 348 = .ok (.dup, 1) := by decide +kernel
theorem dX1_init_349 : decode cX1_init 349 = .ok (.bipush 43, 2) := by decide +kernel
theorem dX1_init_351 : decode cX1_init 351 = .ok (.sipush 24807, 3) := by decide +kernel
theorem dX1_init_354 : decode cX1_init 354 = .ok (.iastore, 1) := by decide +kernel
theorem dX1_init_355 : decode cX1_init 355 = .ok (.dup, 1) := by decide +kernel
theorem dX1_init_356 : decode cX1_init 356 = .ok (.bipush 44, 2) := by decide +kernel
theorem dX1_init_358 : decode cX1_init 358 = .ok (.sipush 25486, 3) := by decide +kernel
theorem dX1_init_361 : decode cX1_init 361 = .ok (.iastore, 1) := by decide +kernel
theorem dX1_init_362 : decode cX1_init 362 = .ok (.dup, 1) := by decide +kernel
theorem dX1_init_363 : decode cX1_init 363 = .ok (.bipush 45, 2) := by decide +kernel
theorem dX1_init_365 : decode cX1_init 365 = .ok (.sipush 26144, 3) := by decide +kernel
theorem dX1_init_368 : decode cX1_init 368 = .ok (.iastore, 1) := by decide +kernel
theorem dX1_init_369 : decode cX1_init 369 = .ok (.dup, 1) := by decide +kernel
theorem dX1_init_370 : decode cX1_init 370 = .ok (.bipush 46, 2) := by decide +kernel
theorem dX1_init_372 : decode cX1_init 372 = .ok (.sipush 26778, 3) := by decide +kernel
theorem dX1_init_375 : decode cX1_init 375 = .ok (.iastore, 1) := by decide +kernel
theorem dX1_init_376 : decode cX1_init 376 = .ok (.dup, 1) := by decide +kernel
theorem dX1_init_377 : decode cX1_init 377 = .ok (.bipush 47, 2) := by decide +kernel
theorem dX1_init_379 : decode cX1_init 379 = .ok (.sipush 27387, 3) := by decide +kernel
theorem dX1_init_382 : decode cX1_init 382 = .ok (.iastore, 1) := by decide +kernel
theorem dX1_init_383 : decode cX1_init 383 = .ok (.dup, 1) := by decide +kernel
theorem dX1_init_384 : decode cX1_init 384 = .ok (.bipush 48, 2) := by decide +kernel
theorem dX1_init_386 : decode cX1_init 386 = .ok (.sipush 27969, 3) := by decide +kernel
theorem dX1_init_389 : decode cX1_init 389 = .ok (.iastore, 1) := by decide +kernel
theorem dX1_init_390 : decode cX1_init 390 = .ok (.dup, 1) := by decide +kernel
theorem dX1_init_391 : decode cX1_init 391 = .ok (.bipush 49, 2) := by decide +kernel
theorem dX1_init_393 : decode cX1_init 393 = .ok (.sipush 28524, 3) := by decide +kernel
theorem dX1_init_396 : decode cX1_init 396 = .ok (.iastore, 1) := by decide +kernel
theorem dX1_init_397 : decode cX1_init 397 = .ok (.dup, 1) := by decide +kernel
theorem dX1_init_398 : decode cX1_init 398 = .ok (.bipush 50, 2) := by decide +kernel
theorem dX1_init_400 : decode cX1_init 400 = .ok (.sipush 29049, 3) := by decide +kernel
theorem dX1_init_403 : decode cX1_init 403 = .ok (.iastore, 1) := by decide +kernel
theorem dX1_init_404 : decode cX1_init 404 = .ok (.dup, 1) := by decide +kernel
theorem dX1_init_405 : decode cX1_init 405 = .ok (.bipush 51, 2) := by decide +kernel
theorem dX1_init_407 : decode cX1_init 407 = .ok (.sipush 29544, 3) := by decide +kernel
theorem dX1_init_410 : decode cX1_init 410 = .ok (.iastore, 1) := by decide +kernel
theorem dX1_init_411 : decode cX1_init 411 = .ok (.dup, 1) := by decide +kernel
theorem dX1_init_412 : decode cX1_init 412 = .ok (.bipush 52, 2) := by decide +kernel
theorem dX1_init_414 : decode cX1_init 414 = .ok (.sipush 30007, 3) := by decide +kernel
theorem dX1_init_417 : decode cX1_init 417 = .ok (.iastore, 1) := by decide +kernel
theorem dX1_init_418 : decode cX1_init 418 = .ok (.dup, 1) := by decide +kernel
theorem dX1_init_419 : decode cX1_init 419 = .ok (.bipush 53, 2) := by decide +kernel
theorem dX1_init_421 : decode cX1_init 421 = .ok (.sipush 30437, 3) := by decide +kernel
theorem dX1_init_424 : decode cX1_init 424 = .ok (.iastore, 1) := by decide +kernel
theorem dX1_init_425 : decode cX1_init 425 = .ok (.dup, 1) := by decide +kernel
theorem dX1_init_426 : decode cX1_init 426 = .ok (.bipush 54, 2) := by decide +kernel
theorem dX1_init_428 : decode cX1_init 428 = .ok (.sipush 30833, 3) := by decide +kernel
theorem dX1_init_431 : decode cX1_init 431 = .ok (.iastore, 1) := by decide +kernel
theorem dX1_init_432 : decode cX1_init 432 = .ok (.dup, 1) := by decide +kernel
theorem dX1_init_433 : decode cX1_init 433 = .ok (.bipush 55, 2) := by decide +kernel
theorem dX1_init_435 : decode cX1_init 435 = .ok (.sipush 31195, 3) := by decide +kernel
theorem dX1_init_438 : decode cX1_init 438 = .ok (.iastore, 1) := by decide +kernel
theorem dX1_init_439 : decode cX1_init 439 = .ok (.dup, 1) := by decide +kernel
theorem dX1_init_440 : decode cX1_init 440 = .ok (.bipush 56, 2) := by decide +kernel
theorem dX1_init_442 : decode cX1_init 442 = .ok (.sipush 31521, 3) := by decide +kernel
theorem dX1_init_445 : decode cX1_init 445 = .ok (.iastore, 1) := by decide +kernel
theorem dX1_init_446 : decode cX1_init 446 = .ok (.dup, 1) := by decide +kernel
theorem dX1_init_447 : decode cX1_init 447 = .ok (.bipush 57, 2) := by decide +kernel
theorem dX1_init_449 : decode cX1_init 449 = .ok (.sipush 31810, 3) := by decide +kernel
theorem dX1_init_452 : decode cX1_init 452 = .ok (.iastore, 1) := by decide +kernel
theorem dX1_init_453 : decode cX1_init 453 = .ok (.dup, 1) := by decide +kernel
theorem dX1_init_454 : decode cX1_init 454 = .ok (.bipush 58, 2) := by decide +kernel
theorem dX1_init_456 : decode cX1_init 456 = .ok (.sipush 32063, 3) := by decide +kernel
theorem dX1_init_459 : decode cX1_init 459 = .ok (.iastore, 1) := by decide +kernel
theorem dX1_init_460 : decode cX1_init 460 = .ok (.dup, 1) := by decide +kernel
theorem dX1_init_461 : decode cX1_init 461 = .ok (.bipush 59, 2) := by decide +kernel
theorem dX1_init_463 : decode cX1_init 463 = .ok (.sipush 32277, 3) := by decide +kernel
theorem dX1_init_466 : decode cX1_init 466 = .ok (.iastore, 1) := by decide +kernel
theorem dX1_init_467 : decode cX1_init 467 = .ok (.dup, 1) := by decide +kernel
theorem dX1_init_468 : decode cX1_init 468 = .ok (.bipush 60, 2) := by decide +kernel
theorem dX1_init_470 : decode cX1_init 470 = .ok (.sipush 32453, 3) := by decide +kernel
theorem dX1_init_473 : decode cX1_init 473 = .ok (.iastore, 1) := by decide +kernel
theorem dX1_init_474 : decode cX1_init 474 = .ok (.dup, 1) := by decide +kernel
theorem dX1_init_475 : decode cX1_init 475 = .ok (.bipush 61, 2) := by decide +kernel
theorem dX1_init_477 : decode cX1_init 477 = .ok (.sipush 32591, 3) := by decide +kernel
theorem dX1_init_480 : decode cX1_init 480 = .ok (.iastore, 1) := by decide +kernel
theorem dX1_init_481 : decode cX1_init 481 = .ok (.dup, 1) := by decide +kernel
theorem dX1_init_482 : decode cX1_init 482 = .ok (.bipush 62, 2) := by decide +kernel
theorem dX1_init_484 : decode cX1_init 484 = .ok (.sipush 32689, 3) := by decide +kernel
theorem dX1_init_487 : decode cX1_init 487 = .ok (.iastore, 1) := by decide +kernel
theorem dX1_init_488 : decode cX1_init 488 = .ok (.dup, 1) := by decide +kernel
theorem dX1_init_489 : decode cX1_init 489 = .ok (.bipush 63, 2) := by decide +kernel
theorem dX1_init_491 : decode cX1_init 491 = .ok (.sipush 32748, 3) := by decide +kernel
theorem dX1_init_494 : decode cX1_init 494 = .ok (.iastore, 1) := by decide +kernel
theorem dX1_init_495 : decode cX1_init 495 = .ok (.dup, 1) := by decide +kernel
theorem dX1_init_496 : decode cX1_init 496 = .ok (.bipush 64, 2) := by decide +kernel
theorem dX1_init_498 : decode cX1_init 498 = .ok (.ldc 29, 2) := by decide +kernel
theorem dX1_init_500 : decode cX1_init 500 = .ok (.iastore, 1) := by decide +kernel
theorem dX1_init_501 : decode cX1_init 501 = .ok (.putfield 30, 3) := by decide +kernel
theorem dX1_init_504 : decode cX1_init 504 = .ok (.aload_n 0, 1) := by decide +kernel
theorem dX1_init_505 : decode cX1_init 505 = .ok (.bipush 7, 2) := by decide +kernel
theorem dX1_init_507 : decode cX1_init 507 = .ok (.newarray .int, 2) := by decide +kernel
theorem dX1_init_509 : decode cX1_init 509 = .ok (.dup, 1) := by decide +kernel
theorem dX1_init_510 : decode cX1_init 510 = .ok (.iconst 0, 1) := by decide +kernel
theorem dX1_init_511 : decode cX1_init 511 = .ok (.iconst 0, 1) := by decide +kernel
theorem dX1_init_512 : decode cX1_init 512 = .ok (.iastore, 1) := by decide +kernel
theorem dX1_init_513 : decode cX1_init 513 = .ok (.dup, 1) := by decide +kernel
theorem dX1_init_514 : decode cX1_init 514 = .ok (.iconst 1, 1) := by decide +kernel
theorem dX1_init_515 : decode cX1_init 515 = .ok (.iconst 3, 1) := by decide +kernel
theorem dX1_init_516 : decode cX1_init 516 = .ok (.iastore, 1) := by decide +kernel
theorem dX1_init_517 : decode cX1_init 517 = .ok (.dup, 1) := by decide +kernel
theorem dX1_init_518 : decode cX1_init 518 = .ok (.iconst 2, 1) := by decide +kernel
theorem dX1_init_519 : decode cX1_init 519 = .ok (.bipush 11, 2) := by decide +kernel
theorem dX1_init_521 : decode cX1_init 521 = .ok (.iastore, 1) := by decide +kernel
theorem dX1_init_522 : decode cX1_init 522 = .ok (.dup, 1) := by decide +kernel
theorem dX1_init_523 : decode cX1_init 523 = .ok (.iconst 3, 1) := by decide +kernel
theorem dX1_init_524 : decode cX1_init 524 = .ok (.bipush 24, 2) := by decide +kernel
theorem dX1_init_526 : decode cX1_init 526 = .ok (.iastore, 1) := by decide +kernel
theorem dX1_init_527 : decode cX1_init 527 = .ok (.dup, 1) := by decide +kernel
theorem dX1_init_528 : decode cX1_init 528 = .ok (.iconst 4, 1) := by decide +kernel
theorem dX1_init_529 : decode cX1_init 529 = .ok (.bipush 43, 2) := by decide +kernel
theorem dX1_init_531 : decode cX1_init 531 = .ok (.iastore, 1) := by decide +kernel
theorem dX1_init_532 : decode cX1_init 532 = .ok (.dup, 1) := by decide +kernel
theorem dX1_init_533 : decode cX1_init 533 = .ok (.iconst 5, 1) := by decide +kernel
theorem dX1_init_534 : decode cX1_init 534 = .ok (.bipush 68, 2) := by decide +kernel
theorem dX1_init_536 : decode cX1_init 536 = .ok (.iastore, 1) := by decide +kernel
theorem dX1_init_537 : decode cX1_init 537 = .ok (.dup, 1) := by decide +kernel
theorem dX1_init_538 : decode cX1_init 538 = .ok (.bipush 6, 2) := by decide +kernel
theorem dX1_init_540 : decode cX1_init 540 = .ok (.bipush 100, 2) := by decide +kernel
theorem dX1_init_542 : decode cX1_init 542 = .ok (.iastore, 1) := by decide +kernel
theorem dX1_init_543 : decode cX1_init 543 = .ok (.putfield 33, 3) := by decide +kernel
theorem dX1_init_546 : decode cX1_init 546 = .ok (.return_, 1) := by decide +kernel
theorem dX1_thrown_0 : decode cX1_thrown 0 = .ok (.aload_n 0, 1) := by decide +kernel
theorem dX1_thrown_1 : decode cX1_thrown 1 = .ok (.getfield 36, 3) := by decide +kernel
theorem dX1_thrown_4 : decode cX1_thrown 4 = .ok (.ireturn, 1) := by decide +kernel
theorem dX1_in_0 : decode cX1_in 0 = .ok (.lload_n 0, 1) := by decide +kernel
theorem dX1_in_1 : decode cX1_in 1 = .ok (.lload_n 2, 1) := by decide +kernel
theorem dX1_in_2 : decode cX1_in 2 = .ok (.lcmp, 1) := by decide +kernel
theorem dX1_in_3 : decode cX1_in 3 = .ok (.ifCond .lt 14, 3) := by decide +kernel
theorem dX1_in_6 : decode cX1_in 6 = .ok (.lload_n 0, 1) := by decide +kernel
theorem dX1_in_7 : decode cX1_in 7 = .ok (.lload 4, 2) := by decide +kernel
theorem dX1_in_9 : decode cX1_in 9 = .ok (.lcmp, 1) := by decide +kernel
theorem dX1_in_10 : decode cX1_in 10 = .ok (.ifCond .gt 7, 3) := by decide +kernel
theorem dX1_in_13 : decode cX1_in 13 = .ok (.iconst 1, 1) := by decide +kernel
theorem dX1_in_14 : decode cX1_in 14 = .ok (.goto 4, 3) := by decide +kernel
theorem dX1_in_17 : decode cX1_in 17 = .ok (.iconst 0, 1) := by decide +kernel
theorem dX1_in_18 : decode cX1_in 18 = .ok (.ireturn, 1) := by decide +kernel
theorem dX1_floor_0 : decode cX1_floor 0 = .ok (.lload_n 0, 1) := by decide +kernel
theorem dX1_floor_1 : decode cX1_floor 1 = .ok (.lload_n 2, 1) := by decide +kernel
theorem dX1_floor_2 : decode cX1_floor 2 = .ok (.ldiv, 1) := by decide +kernel
theorem dX1_floor_3 : decode cX1_floor 3 = .ok (.lstore 4, 2) := by decide +kernel
theorem dX1_floor_5 : decode cX1_floor 5 = .ok (.lload_n 0, 1) := by decide +kernel
theorem dX1_floor_6 : decode cX1_floor 6 = .ok (.lload_n 2, 1) := by decide +kernel
theorem dX1_floor_7 : decode cX1_floor 7 = .ok (.lrem, 1) := by decide +kernel
theorem dX1_floor_8 : decode cX1_floor 8 = .ok (.lconst 0, 1) := by decide +kernel
theorem dX1_floor_9 : decode cX1_floor 9 = .ok (.lcmp, 1) := by decide +kernel
theorem dX1_floor_10 : decode cX1_floor 10 = .ok (.ifCond .ge 10, 3) := by decide +kernel
theorem dX1_floor_13 : decode cX1_floor 13 = .ok (.lload 4, 2) := by decide +kernel
theorem dX1_floor_15 : decode cX1_floor 15 = .ok (.lconst 1, 1) := by decide +kernel
theorem dX1_floor_16 : decode cX1_floor 16 = .ok (.lsub, 1) := by decide +kernel
theorem dX1_floor_17 : decode cX1_floor 17 = .ok (.goto 5, 3) := by decide +kernel
theorem dX1_floor_20 : decode cX1_floor 20 = .ok (.lload 4, 2) := by decide +kernel
theorem dX1_floor_22 : decode cX1_floor 22 = .ok (.lreturn, 1) := by decide +kernel
theorem dX1_up_0 : decode cX1_up 0 = .ok (.lload_n 0, 1) := by decide +kernel
theorem dX1_up_1 : decode cX1_up 1 = .ok (.lload_n 2, 1) := by decide +kernel
theorem dX1_up_2 : decode cX1_up 2 = .ok (.ladd, 1) := by decide +kernel
theorem dX1_up_3 : decode cX1_up 3 = .ok (.lconst 1, 1) := by decide +kernel
theorem dX1_up_4 : decode cX1_up 4 = .ok (.lsub, 1) := by decide +kernel
theorem dX1_up_5 : decode cX1_up 5 = .ok (.lload_n 2, 1) := by decide +kernel
theorem dX1_up_6 : decode cX1_up 6 = .ok (.ldiv, 1) := by decide +kernel
theorem dX1_up_7 : decode cX1_up 7 = .ok (.lreturn, 1) := by decide +kernel
theorem dX1_isInTable_0 : decode cX1_isInTable 0 = .ok (.aload_n 0, 1) := by decide +kernel
theorem dX1_isInTable_1 : decode cX1_isInTable 1 = .ok (.getfield 40, 3) := by decide +kernel
theorem dX1_isInTable_4 : decode cX1_isInTable 4 = .ok (.iconst 1, 1) := by decide +kernel
theorem dX1_isInTable_5 : decode cX1_isInTable 5 = .ok (.if_icmp .le 33, 3) := by decide +kernel
theorem dX1_isInTable_8 : decode cX1_isInTable 8 = .ok (.lload_n 1, 1) := by decide +kernel
theorem dX1_isInTable_9 : decode cX1_isInTable 9 = .ok (.aload_n 0, 1) := by decide +kernel
theorem dX1_isInTable_10 : decode cX1_isInTable 10 = .ok (.getfield 7, 3) := by decide +kernel
theorem dX1_isInTable_13 : decode cX1_isInTable 13 = .ok (.iconst 0, 1) := by decide +kernel
theorem dX1_isInTable_14 : decode cX1_isInTable 14 = .ok (.iaload, 1) := by decide +kernel
theorem dX1_isInTable_15 : decode cX1_isInTable 15 = .ok (.i2l, 1) := by decide +kernel
theorem dX1_isInTable_16 : decode cX1_isInTable 16 = .ok (.aload_n 0, 1) := by decide +kernel
theorem dX1_isInTable_17 : decode cX1_isInTable 17 = .ok (.getfield 7, 3) := by decide +kernel
theorem dX1_isInTable_20 : decode cX1_isInTable 20 = .ok (.aload_n 0, 1) := by decide +kernel
theorem dX1_isInTable_21 : decode cX1_isInTable 21 = .ok (.getfield 40, 3) := by decide +kernel
theorem dX1_isInTable_24 : decode cX1_isInTable 24 = .ok (.iconst 1, 1) := by decide +kernel
theorem dX1_isInTable_25 : decode cX1_isInTable 25 = .ok (.isub, 1) := by decide +kernel
theorem dX1_isInTable_26 : decode cX1_isInTable 26 = .ok (.iaload, 1) := by decide +kernel
theorem dX1_isInTable_27 : decode cX1_isInTable 27 = .ok (.i2l, 1) := by decide +kernel
theorem dX1_isInTable_28 : decode cX1_isInTable 28 = .ok (.invokestatic 43, 3) := by decide +kernel
theorem dX1_isInTable_31 : decode cX1_isInTable 31 = .ok (.ifCond .eq 7, 3) := by decide +kernel
theorem dX1_isInTable_34 : decode cX1_isInTable 34 = .ok (.iconst 1, 1) := by decide +kernel
theorem dX1_isInTable_35 : decode cX1_isInTable 35 = .ok (.goto 4, 3) := by decide +kernel
theorem dX1_isInTable_38 : decode cX1_isInTable 38 = .ok (.iconst 0, 1) := by decide +kernel
theorem dX1_isInTable_39 : decode cX1_isInTable 39 = .ok (.ireturn, 1) := by decide +kernel
theorem dX1_isHeight_0 : decode cX1_isHeight 0 = .ok (.lload_n 0, 1) := by decide +kernel
theorem dX1_isHeight_1 : decode cX1_isHeight 1 = .ok (.ldc2_w 47, 3) := by decide +kernel
theorem dX1_isHeight_4 : decode cX1_isHeight 4 = .ok (.ldc2_w 49, 3) := by decide +kernel
theorem dX1_isHeight_7 : decode cX1_isHeight 7 = .ok (.invokestatic 43, 3) := by decide +kernel
theorem dX1_isHeight_10 : decode cX1_isHeight 10 = .ok (.ireturn, 1) := by decide +kernel
theorem dX1_tableHeight_0 : decode cX1_tableHeight 0 = .ok (.iconst 0, 1) := by decide +kernel
theorem dX1_tableHeight_1 : decode cX1_tableHeight 1 = .ok (.istore_n 2, 1) := by decide +kernel
theorem dX1_tableHeight_2 : decode cX1_tableHeight 2 = .ok (.aload_n 0, 1) := by decide +kernel
theorem dX1_tableHeight_3 : decode cX1_tableHeight 3 = .ok (.getfield 7, 3) := by decide +kernel
theorem dX1_tableHeight_6 : decode cX1_tableHeight 6 = .ok (.iload_n 2, 1) := by decide +kernel
theorem dX1_tableHeight_7 : decode cX1_tableHeight 7 = .ok (.iaload, 1) := by decide +kernel
theorem dX1_tableHeight_8 : decode cX1_tableHeight 8 = .ok (.iload_n 1, 1) := by decide +kernel
theorem dX1_tableHeight_9 : decode cX1_tableHeight 9 = .ok (.if_icmp .ge 9, 3) := by decide +kernel
theorem dX1_tableHeight_12 : decode cX1_tableHeight 12 = .ok (.iinc 2 1, 3) := by decide +kernel
theorem dX1_tableHeight_15 : decode cX1_tableHeight 15 = .ok (.goto (-13), 3) := by decide +kernel
theorem dX1_tableHeight_18 : decode cX1_tableHeight 18 = .ok (.aload_n 0, 1) := by decide +kernel
theorem dX1_tableHeight_19 : decode cX1_tableHeight 19 = .ok (.getfield 7, 3) := by decide +kernel
theorem dX1_tableHeight_22 : decode cX1_tableHeight 22 = .ok (.iload_n 2, 1) := by decide +kernel
theorem dX1_tableHeight_23 : decode cX1_tableHeight 23 = .ok (.iaload, 1) := by decide +kernel
theorem dX1_tableHeight_24 : decode cX1_tableHeight 24 = .ok (.iload_n 1, 1) := by decide +kernel
theorem dX1_tableHeight_25 : decode cX1_tableHeight 25 = .ok (.if_icmp .ne 11, 3) := by decide +kernel
theorem dX1_tableHeight_28 : decode cX1_tableHeight 28 = .ok (.aload_n 0, 1) := by decide +kernel
theorem dX1_tableHeight_29 : decode cX1_tableHeight 29 = .ok (.getfield 13, 3) := by decide +kernel
theorem dX1_tableHeight_32 : decode cX1_tableHeight 32 = .ok (.iload_n 2, 1) := by decide +kernel
theorem dX1_tableHeight_33 : decode cX1_tableHeight 33 = .ok (.iaload, 1) := by decide +kernel
theorem dX1_tableHeight_34 : decode cX1_tableHeight 34 = .ok (.i2l, 1) := by decide +kernel
theorem dX1_tableHeight_35 : decode cX1_tableHeight 35 = .ok (.lreturn, 1) := by decide +kernel
theorem dX1_tableHeight_36 : decode cX1_tableHeight 36 = .ok (.aload_n 0, 1) := by decide +kernel
theorem dX1_tableHeight_37 : decode cX1_tableHeight 37 = .ok (.getfield 7, 3) := by decide +kernel
theorem dX1_tableHeight_40 : decode cX1_tableHeight 40 = .ok (.iload_n 2, 1) := by decide +kernel
theorem dX1_tableHeight_41 : decode cX1_tableHeight 41 = .ok (.iaload, 1) := by decide +kernel
theorem dX1_tableHeight_42 : decode cX1_tableHeight 42 = .ok (.aload_n 0, 1) := by decide +kernel
theorem dX1_tableHeight_43 : decode cX1_tableHeight 43 = .ok (.getfield 7, 3) := by decide +kernel
theorem dX1_tableHeight_46 : decode cX1_tableHeight 46 = .ok (.iload_n 2, 1) := by decide +kernel
theorem dX1_tableHeight_47 : decode cX1_tableHeight 47 = .ok (.iconst 1, 1) := by decide +kernel
theorem dX1_tableHeight_48 : decode cX1_tableHeight 48 = .ok (.isub, 1) := by decide +kernel
theorem dX1_tableHeight_49 : decode cX1_tableHeight 49 = .ok (.iaload, 1) := by decide +kernel
theorem dX1_tableHeight_50 : decode cX1_tableHeight 50 = .ok (.isub, 1) := by decide +kernel
theorem dX1_tableHeight_51 : decode cX1_tableHeight 51 = .ok (.i2l, 1) := by decide +kernel
theorem dX1_tableHeight_52 : decode cX1_tableHeight 52 = .ok (.lstore_n 3, 1) := by decide +kernel
theorem dX1_tableHeight_53 : decode cX1_tableHeight 53 = .ok (.ldc2_w 51, 3) := by decide +kernel
theorem dX1_tableHeight_56 : decode cX1_tableHeight 56 = .ok (.iload_n 1, 1) := by decide +kernel
theorem dX1_tableHeight_57 : decode cX1_tableHeight 57 = .ok (.aload_n 0, 1) := by decide +kernel
theorem dX1_tableHeight_58 : decode cX1_tableHeight 58 = .ok (.getfield 7, 3) := by decide +kernel
theorem dX1_tableHeight_61 : decode cX1_tableHeight 61 = .ok (.iload_n 2, 1) := by decide +kernel
theorem dX1_tableHeight_62 : decode cX1_tableHeight 62 = .ok (.iconst 1, 1) := by decide +kernel
theorem dX1_tableHeight_63 : decode cX1_tableHeight 63 = .ok (.isub, 1) := by decide +kernel
theorem dX1_tableHeight_64 : decode cX1_tableHeight 64 = .ok (.iaload, 1) := by decide +kernel
theorem dX1_tableHeight_65 : decode cX1_tableHeight 65 = .ok (.isub, 1) := by decide +kernel
theorem dX1_tableHeight_66 : decode cX1_tableHeight 66 = .ok (.i2l, 1) := by decide +kernel
theorem dX1_tableHeight_67 : decode cX1_tableHeight 67 = .ok (.lmul, 1) := by decide +kernel
theorem dX1_tableHeight_68 : decode cX1_tableHeight 68 = .ok (.lstore 5, 2) := by decide +kernel
theorem dX1_tableHeight_70 : decode cX1_tableHeight 70 = .ok (.lload 5, 2) := by decide +kernel
theorem dX1_tableHeight_72 : decode cX1_tableHeight 72 = .ok (.lload_n 3, 1) := by decide +kernel
theorem dX1_tableHeight_73 : decode cX1_tableHeight 73 = .ok (.ldiv, 1) := by decide +kernel
theorem dX1_tableHeight_74 : decode cX1_tableHeight 74 = .ok (.l2i, 1) := by decide +kernel
theorem dX1_tableHeight_75 : decode cX1_tableHeight 75 = .ok (.istore 7, 2) := by decide +kernel
theorem dX1_tableHeight_77 : decode cX1_tableHeight 77 = .ok (.aload_n 0, 1) := by decide +kernel
theorem dX1_tableHeight_78 : decode cX1_tableHeight 78 = .ok (.getfield 30, 3) := by decide +kernel
theorem dX1_tableHeight_81 : decode cX1_tableHeight 81 = .ok (.iload 7, 2) := by decide +kernel
theorem dX1_tableHeight_83 : decode cX1_tableHeight 83 = .ok (.iaload, 1) := by decide +kernel
theorem dX1_tableHeight_84 : decode cX1_tableHeight 84 = .ok (.i2l, 1) := by decide +kernel
theorem dX1_tableHeight_85 : decode cX1_tableHeight 85 = .ok (.aload_n 0, 1) := by decide +kernel
theorem dX1_tableHeight_86 : decode cX1_tableHeight 86 = .ok (.getfield 30, 3) := by decide +kernel
theorem dX1_tableHeight_89 : decode cX1_tableHeight 89 = .ok (.iload 7, 2) := by decide +kernel
theorem dX1_tableHeight_91 : decode cX1_tableHeight 91 = .ok (.iconst 1, 1) := by decide +kernel
theorem dX1_tableHeight_92 : decode cX1_tableHeight 92 = .ok (.iadd, 1) := by decide +kernel
theorem dX1_tableHeight_93 : decode cX1_tableHeight 93 = .ok (.iaload, 1) := by decide +kernel
theorem dX1_tableHeight_94 : decode cX1_tableHeight 94 = .ok (.aload_n 0, 1) := by decide +kernel
theorem dX1_tableHeight_95 : decode cX1_tableHeight 95 = .ok (.getfield 30, 3) := by decide +kernel
theorem dX1_tableHeight_98 : decode cX1_tableHeight 98 = .ok (.iload 7, 2) := by decide +kernel
theorem dX1_tableHeight_100 : decode cX1_tableHeight 100 = .ok (.iaload, 1) := by decide +kernel
theorem dX1_tableHeight_101 : decode cX1_tableHeight 101 = .ok (.isub, 1) := by decide +kernel
theorem dX1_tableHeight_102 : decode cX1_tableHeight 102 = .ok (.i2l, 1) := by decide +kernel
theorem dX1_tableHeight_103 : decode cX1_tableHeight 103 = .ok (.lload 5, 2) := by decide +kernel
theorem dX1_tableHeight_105 : decode cX1_tableHeight 105 = .ok (.iload 7, 2) := by decide +kernel
theorem dX1_tableHeight_107 : decode cX1_tableHeight 107 = .ok (.i2l, 1) := by decide +kernel
theorem dX1_tableHeight_108 : decode cX1_tableHeight 108 = .ok (.lload_n 3, 1) := by decide +kernel
theorem dX1_tableHeight_109 : decode cX1_tableHeight 109 = .ok (.lmul, 1) := by decide +kernel
theorem dX1_tableHeight_110 : decode cX1_tableHeight 110 = .ok (.lsub, 1) := by decide +kernel
theorem dX1_tableHeight_111 : decode cX1_tableHeight 111 = .ok (.lmul, 1) := by decide +kernel
theorem dX1_tableHeight_112 : decode cX1_tableHeight 112 = .ok (.lload_n 3, 1) := by decide +kernel
theorem dX1_tableHeight_113 : decode cX1_tableHeight 113 = .ok (.ldiv, 1) := by decide +kernel
theorem dX1_tableHeight_114 : decode cX1_tableHeight 114 = .ok (.ladd, 1) := by decide +kernel
theorem dX1_tableHeight_115 : decode cX1_tableHeight 115 = .ok (.lstore 8, 2) := by decide +kernel
theorem dX1_tableHeight_117 : decode cX1_tableHeight 117 = .ok (.aload_n 0, 1) := by decide +kernel
theorem dX1_tableHeight_118 : decode cX1_tableHeight 118 = .ok (.getfield 13, 3) := by decide +kernel
theorem dX1_tableHeight_121 : decode cX1_tableHeight 121 = .ok (.iload_n 2, 1) := by decide +kernel
theorem dX1_tableHeight_122 : decode cX1_tableHeight 122 = .ok (.iconst 1, 1) := by decide +kernel
theorem dX1_tableHeight_123 : decode cX1_tableHeight 123 = .ok (.isub, 1) := by decide +kernel
theorem dX1_tableHeight_124 : decode cX1_tableHeight 124 = .ok (.iaload, 1) := by decide +kernel
theorem dX1_tableHeight_125 : decode cX1_tableHeight 125 = .ok (.i2l, 1) := by decide +kernel
theorem dX1_tableHeight_126 : decode cX1_tableHeight 126 = .ok (.aload_n 0, 1) := by decide +kernel
theorem dX1_tableHeight_127 : decode cX1_tableHeight 127 = .ok (.getfield 13, 3) := by decide +kernel
theorem dX1_tableHeight_130 : decode cX1_tableHeight 130 = .ok (.iload_n 2, 1) := by decide +kernel
theorem dX1_tableHeight_131 : decode cX1_tableHeight 131 = .ok (.iaload, 1) := by decide +kernel
theorem dX1_tableHeight_132 : decode cX1_tableHeight 132 = .ok (.aload_n 0, 1) := by decide +kernel
theorem dX1_tableHeight_133 : decode cX1_tableHeight 133 = .ok (.getfield 13, 3) := by decide +kernel
theorem dX1_tableHeight_136 : decode cX1_tableHeight 136 = .ok (.iload_n 2, 1) := by decide +kernel
theorem dX1_tableHeight_137 : decode cX1_tableHeight 137 = .ok (.iconst 1, 1) := by decide +kernel
theorem dX1_tableHeight_138 : decode cX1_tableHeight 138 = .ok (.isub, 1) := by decide +kernel
theorem dX1_tableHeight_139 : decode cX1_tableHeight 139 = .ok (.iaload, 1) := by decide +kernel
theorem dX1_tableHeight_140 : decode cX1_tableHeight 140 = .ok (.isub, 1) := by decide +kernel
theorem dX1_tableHeight_141 : decode cX1_tableHeight 141 = .ok (.i2l, 1) := by decide +kernel
theorem dX1_tableHeight_142 : decode cX1_tableHeight 142 = .ok (.lload 8, 2) := by decide +kernel
theorem dX1_tableHeight_144 : decode cX1_tableHeight 144 = .ok (.lmul, 1) := by decide +kernel
theorem dX1_tableHeight_145 : decode cX1_tableHeight 145 = .ok (.ldc2_w 53, 3) := by decide +kernel
theorem dX1_tableHeight_148 : decode cX1_tableHeight 148 = .ok (.invokestatic 55, 3) := by decide +kernel
theorem dX1_tableHeight_151 : decode cX1_tableHeight 151 = .ok (.ladd, 1) := by decide +kernel
theorem dX1_tableHeight_152 : decode cX1_tableHeight 152 = .ok (.lreturn, 1) := by decide +kernel
theorem dX1_heightAt_0 : decode cX1_heightAt 0 = .ok (.aload_n 0, 1) := by decide +kernel
theorem dX1_heightAt_1 : decode cX1_heightAt 1 = .ok (.getfield 59, 3) := by decide +kernel
theorem dX1_heightAt_4 : decode cX1_heightAt 4 = .ok (.iconst 1, 1) := by decide +kernel
theorem dX1_heightAt_5 : decode cX1_heightAt 5 = .ok (.isub, 1) := by decide +kernel
theorem dX1_heightAt_6 : decode cX1_heightAt 6 = .ok (.istore_n 2, 1) := by decide +kernel
theorem dX1_heightAt_7 : decode cX1_heightAt 7 = .ok (.iload_n 2, 1) := by decide +kernel
theorem dX1_heightAt_8 : decode cX1_heightAt 8 = .ok (.ifCond .lt 19, 3) := by decide +kernel
theorem dX1_heightAt_11 : decode cX1_heightAt 11 = .ok (.aload_n 0, 1) := by decide +kernel
theorem dX1_heightAt_12 : decode cX1_heightAt 12 = .ok (.getfield 16, 3) := by decide +kernel
theorem dX1_heightAt_15 : decode cX1_heightAt 15 = .ok (.iload_n 2, 1) := by decide +kernel
theorem dX1_heightAt_16 : decode cX1_heightAt 16 = .ok (.iaload, 1) := by decide +kernel
theorem dX1_heightAt_17 : decode cX1_heightAt 17 = .ok (.iload_n 1, 1) := by decide +kernel
theorem dX1_heightAt_18 : decode cX1_heightAt 18 = .ok (.if_icmp .le 9, 3) := by decide +kernel
theorem dX1_heightAt_21 : decode cX1_heightAt 21 = .ok (.iinc 2 (-1), 3) := by decide +kernel
theorem dX1_heightAt_24 : decode cX1_heightAt 24 = .ok (.goto (-17), 3) := by decide +kernel
theorem dX1_heightAt_27 : decode cX1_heightAt 27 = .ok (.iload_n 2, 1) := by decide +kernel
theorem dX1_heightAt_28 : decode cX1_heightAt 28 = .ok (.ifCond .ge 7, 3) := by decide +kernel
theorem dX1_heightAt_31 : decode cX1_heightAt 31 = .ok (.lconst 0, 1) := by decide +kernel
theorem dX1_heightAt_32 : decode cX1_heightAt 32 = .ok (.goto 9, 3) := by decide +kernel
theorem dX1_heightAt_35 : decode cX1_heightAt 35 = .ok (.aload_n 0, 1) := by decide +kernel
theorem dX1_heightAt_36 : decode cX1_heightAt 36 = .ok (.getfield 19, 3) := by decide +kernel
theorem dX1_heightAt_39 : decode cX1_heightAt 39 = .ok (.iload_n 2, 1) := by decide +kernel
theorem dX1_heightAt_40 : decode cX1_heightAt 40 = .ok (.laload, 1) := by decide +kernel
theorem dX1_heightAt_41 : decode cX1_heightAt 41 = .ok (.lstore_n 3, 1) := by decide +kernel
theorem dX1_heightAt_42 : decode cX1_heightAt 42 = .ok (.iload_n 2, 1) := by decide +kernel
theorem dX1_heightAt_43 : decode cX1_heightAt 43 = .ok (.ifCond .ge 7, 3) := by decide +kernel
theorem dX1_heightAt_46 : decode cX1_heightAt 46 = .ok (.iconst 0, 1) := by decide +kernel
theorem dX1_heightAt_47 : decode cX1_heightAt 47 = .ok (.goto 15, 3) := by decide +kernel
theorem dX1_heightAt_50 : decode cX1_heightAt 50 = .ok (.iload_n 1, 1) := by decide +kernel
theorem dX1_heightAt_51 : decode cX1_heightAt 51 = .ok (.aload_n 0, 1) := by decide +kernel
theorem dX1_heightAt_52 : decode cX1_heightAt 52 = .ok (.getfield 16, 3) := by decide +kernel
theorem dX1_heightAt_55 : decode cX1_heightAt 55 = .ok (.iload_n 2, 1) := by decide +kernel
theorem dX1_heightAt_56 : decode cX1_heightAt 56 = .ok (.iaload, 1) := by decide +kernel
theorem dX1_heightAt_57 : decode cX1_heightAt 57 = .ok (.isub, 1) := by decide +kernel
theorem dX1_heightAt_58 : decode cX1_heightAt 58 = .ok (.sipush 600, 3) := by decide +kernel
theorem dX1_heightAt_61 : decode cX1_heightAt 61 = .ok (.idiv, 1) := by decide +kernel
theorem dX1_heightAt_62 : decode cX1_heightAt 62 = .ok (.istore 5, 2) := by decide +kernel
theorem dX1_heightAt_64 : decode cX1_heightAt 64 = .ok (.iload 5, 2) := by decide +kernel
theorem dX1_heightAt_66 : decode cX1_heightAt 66 = .ok (.ifCond .le 15, 3) := by decide +kernel
theorem dX1_heightAt_69 : decode cX1_heightAt 69 = .ok (.lload_n 3, 1) := by decide +kernel
theorem dX1_heightAt_70 : decode cX1_heightAt 70 = .ok (.ldc2_w 62, 3) := by decide +kernel
theorem dX1_heightAt_73 : decode cX1_heightAt 73 = .ok (.ldiv, 1) := by decide +kernel
theorem dX1_heightAt_74 : decode cX1_heightAt 74 = .ok (.lstore_n 3, 1) := by decide +kernel
theorem dX1_heightAt_75 : decode cX1_heightAt 75 = .ok (.iinc 5 (-1), 3) := by decide +kernel
theorem dX1_heightAt_78 : decode cX1_heightAt 78 = .ok (.goto (-14), 3) := by decide +kernel
theorem dX1_heightAt_81 : decode cX1_heightAt 81 = .ok (.aload_n 0, 1) := by decide +kernel
theorem dX1_heightAt_82 : decode cX1_heightAt 82 = .ok (.iload_n 1, 1) := by decide +kernel
theorem dX1_heightAt_83 : decode cX1_heightAt 83 = .ok (.invokevirtual 64, 3) := by decide +kernel
theorem dX1_heightAt_86 : decode cX1_heightAt 86 = .ok (.lload_n 3, 1) := by decide +kernel
theorem dX1_heightAt_87 : decode cX1_heightAt 87 = .ok (.ladd, 1) := by decide +kernel
theorem dX1_heightAt_88 : decode cX1_heightAt 88 = .ok (.lreturn, 1) := by decide +kernel
theorem dX1_turn_0 : decode cX1_turn 0 = .ok (.lload_n 1, 1) := by decide +kernel
theorem dX1_turn_1 : decode cX1_turn 1 = .ok (.lconst 0, 1) := by decide +kernel
theorem dX1_turn_2 : decode cX1_turn 2 = .ok (.ldc2_w 68, 3) := by decide +kernel
theorem dX1_turn_5 : decode cX1_turn 5 = .ok (.invokestatic 43, 3) := by decide +kernel
theorem dX1_turn_8 : decode cX1_turn 8 = .ok (.ifCond .eq 49, 3) := by decide +kernel
theorem dX1_turn_11 : decode cX1_turn 11 = .ok (.lload_n 3, 1) := by decide +kernel
theorem dX1_turn_12 : decode cX1_turn 12 = .ok (.invokestatic 70, 3) := by decide +kernel
theorem dX1_turn_15 : decode cX1_turn 15 = .ok (.ifCond .eq 42, 3) := by decide +kernel
theorem dX1_turn_18 : decode cX1_turn 18 = .ok (.aload_n 0, 1) := by decide +kernel
theorem dX1_turn_19 : decode cX1_turn 19 = .ok (.getfield 40, 3) := by decide +kernel
theorem dX1_turn_22 : decode cX1_turn 22 = .ok (.ifCond .eq 31, 3) := by decide +kernel
theorem dX1_turn_25 : decode cX1_turn 25 = .ok (.lload_n 1, 1) := by decide +kernel
theorem dX1_turn_26 : decode cX1_turn 26 = .ok (.aload_n 0, 1) := by decide +kernel
theorem dX1_turn_27 : decode cX1_turn 27 = .ok (.getfield 7, 3) := by decide +kernel
theorem dX1_turn_30 : decode cX1_turn 30 = .ok (.aload_n 0, 1) := by decide +kernel
theorem dX1_turn_31 : decode cX1_turn 31 = .ok (.getfield 40, 3) := by decide +kernel
theorem dX1_turn_34 : decode cX1_turn 34 = .ok (.ifCond .le 12, 3) := by decide +kernel
theorem dX1_turn_37 : decode cX1_turn 37 = .ok (.aload_n 0, 1) := by decide +kernel
theorem dX1_turn_38 : decode cX1_turn 38 = .ok (.getfield 40, 3) := by decide +kernel
theorem dX1_turn_41 : decode cX1_turn 41 = .ok (.iconst 1, 1) := by decide +kernel
theorem dX1_turn_42 : decode cX1_turn 42 = .ok (.isub, 1) := by decide +kernel
theorem dX1_turn_43 : decode cX1_turn 43 = .ok (.goto 4, 3) := by decide +kernel
theorem dX1_turn_46 : decode cX1_turn 46 = .ok (.iconst 0, 1) := by decide +kernel
theorem dX1_turn_47 : decode cX1_turn 47 = .ok (.iaload, 1) := by decide +kernel
theorem dX1_turn_48 : decode cX1_turn 48 = .ok (.i2l, 1) := by decide +kernel
theorem dX1_turn_49 : decode cX1_turn 49 = .ok (.lcmp, 1) := by decide +kernel
theorem dX1_turn_50 : decode cX1_turn 50 = .ok (.ifCond .le 7, 3) := by decide +kernel
theorem dX1_turn_53 : decode cX1_turn 53 = .ok (.iconst 1, 1) := by decide +kernel
theorem dX1_turn_54 : decode cX1_turn 54 = .ok (.goto 4, 3) := by decide +kernel
theorem dX1_turn_57 : decode cX1_turn 57 = .ok (.iconst 0, 1) := by decide +kernel
theorem dX1_turn_58 : decode cX1_turn 58 = .ok (.istore 5, 2) := by decide +kernel
theorem dX1_turn_60 : decode cX1_turn 60 = .ok (.aload_n 0, 1) := by decide +kernel
theorem dX1_turn_61 : decode cX1_turn 61 = .ok (.iload 5, 2) := by decide +kernel
theorem dX1_turn_63 : decode cX1_turn 63 = .ok (.ifCond .ne 7, 3) := by decide +kernel
theorem dX1_turn_66 : decode cX1_turn 66 = .ok (.iconst 1, 1) := by decide +kernel
theorem dX1_turn_67 : decode cX1_turn 67 = .ok (.goto 17, 3) := by decide +kernel
theorem dX1_turn_70 : decode cX1_turn 70 = .ok (.aload_n 0, 1) := by decide +kernel
theorem dX1_turn_71 : decode cX1_turn 71 = .ok (.getfield 40, 3) := by decide +kernel
theorem dX1_turn_74 : decode cX1_turn 74 = .ok (.bipush 40, 2) := by decide +kernel
theorem dX1_turn_76 : decode cX1_turn 76 = .ok (.if_icmp .ne 7, 3) := by decide +kernel
theorem dX1_turn_79 : decode cX1_turn 79 = .ok (.iconst 2, 1) := by decide +kernel
theorem dX1_turn_80 : decode cX1_turn 80 = .ok (.goto 4, 3) := by decide +kernel
theorem dX1_turn_83 : decode cX1_turn 83 = .ok (.iconst 0, 1) := by decide +kernel
theorem dX1_turn_84 : decode cX1_turn 84 = .ok (.putfield 36, 3) := by decide +kernel
theorem dX1_turn_87 : decode cX1_turn 87 = .ok (.aload_n 0, 1) := by decide +kernel
theorem dX1_turn_88 : decode cX1_turn 88 = .ok (.getfield 36, 3) := by decide +kernel
theorem dX1_turn_91 : decode cX1_turn 91 = .ok (.ifCond .le 5, 3) := by decide +kernel
theorem dX1_turn_94 : decode cX1_turn 94 = .ok (.iconst 0, 1) := by decide +kernel
theorem dX1_turn_95 : decode cX1_turn 95 = .ok (.ireturn, 1) := by decide +kernel
theorem dX1_turn_96 : decode cX1_turn 96 = .ok (.aload_n 0, 1) := by decide +kernel
theorem dX1_turn_97 : decode cX1_turn 97 = .ok (.getfield 40, 3) := by decide +kernel
theorem dX1_turn_100 : decode cX1_turn 100 = .ok (.ifCond .le 126, 3) := by decide +kernel
theorem dX1_turn_103 : decode cX1_turn 103 = .ok (.aload_n 0, 1) := by decide +kernel
theorem dX1_turn_104 : decode cX1_turn 104 = .ok (.getfield 13, 3) := by decide +kernel
theorem dX1_turn_107 : decode cX1_turn 107 = .ok (.aload_n 0, 1) := by decide +kernel
theorem dX1_turn_108 : decode cX1_turn 108 = .ok (.getfield 40, 3) := by decide +kernel
theorem dX1_turn_111 : decode cX1_turn 111 = .ok (.iconst 1, 1) := by decide +kernel
theorem dX1_turn_112 : decode cX1_turn 112 = .ok (.isub, 1) := by decide +kernel
theorem dX1_turn_113 : decode cX1_turn 113 = .ok (.iaload, 1) := by decide +kernel
theorem dX1_turn_114 : decode cX1_turn 114 = .ok (.istore 6, 2) := by decide +kernel
theorem dX1_turn_116 : decode cX1_turn 116 = .ok (.aload_n 0, 1) := by decide +kernel
theorem dX1_turn_117 : decode cX1_turn 117 = .ok (.getfield 40, 3) := by decide +kernel
theorem dX1_turn_120 : decode cX1_turn 120 = .ok (.iconst 1, 1) := by decide +kernel
theorem dX1_turn_121 : decode cX1_turn 121 = .ok (.if_icmp .le 35, 3) := by decide +kernel
theorem dX1_turn_124 : decode cX1_turn 124 = .ok (.iload 6, 2) := by decide +kernel
theorem dX1_turn_126 : decode cX1_turn 126 = .ok (.aload_n 0, 1) := by decide +kernel
theorem dX1_turn_127 : decode cX1_turn 127 = .ok (.getfield 13, 3) := by decide +kernel
theorem dX1_turn_130 : decode cX1_turn 130 = .ok (.aload_n 0, 1) := by decide +kernel
theorem dX1_turn_131 : decode cX1_turn 131 = .ok (.getfield 40, 3) := by decide +kernel
theorem dX1_turn_134 : decode cX1_turn 134 = .ok (.iconst 1, 1) := by decide +kernel
theorem dX1_turn_135 : decode cX1_turn 135 = .ok (.if_icmp .le 12, 3) := by decide +kernel
theorem dX1_turn_138 : decode cX1_turn 138 = .ok (.aload_n 0, 1) := by decide +kernel
theorem dX1_turn_139 : decode cX1_turn 139 = .ok (.getfield 40, 3) := by decide +kernel
theorem dX1_turn_142 : decode cX1_turn 142 = .ok (.iconst 2, 1) := by decide +kernel
theorem dX1_turn_143 : decode cX1_turn 143 = .ok (.isub, 1) := by decide +kernel
theorem dX1_turn_144 : decode cX1_turn 144 = .ok (.goto 4, 3) := by decide +kernel
theorem dX1_turn_147 : decode cX1_turn 147 = .ok (.iconst 0, 1) := by decide +kernel
theorem dX1_turn_148 : decode cX1_turn 148 = .ok (.iaload, 1) := by decide +kernel
theorem dX1_turn_149 : decode cX1_turn 149 = .ok (.if_icmp .le 7, 3) := by decide +kernel
theorem dX1_turn_152 : decode cX1_turn 152 = .ok (.iconst 1, 1) := by decide +kernel
theorem dX1_turn_153 : decode cX1_turn 153 = .ok (.goto 4, 3) := by decide +kernel
theorem dX1_turn_156 : decode cX1_turn 156 = .ok (.iconst 0, 1) := by decide +kernel
theorem dX1_turn_157 : decode cX1_turn 157 = .ok (.istore 7, 2) := by decide +kernel
theorem dX1_turn_159 : decode cX1_turn 159 = .ok (.aload_n 0, 1) := by decide +kernel
theorem dX1_turn_160 : decode cX1_turn 160 = .ok (.getfield 40, 3) := by decide +kernel
theorem dX1_turn_163 : decode cX1_turn 163 = .ok (.iconst 1, 1) := by decide +kernel
theorem dX1_turn_164 : decode cX1_turn 164 = .ok (.if_icmp .ne 19, 3) := by decide +kernel
theorem dX1_turn_167 : decode cX1_turn 167 = .ok (.lload_n 3, 1) := by decide +kernel
theorem dX1_turn_168 : decode cX1_turn 168 = .ok (.iload 6, 2) := by decide +kernel
theorem dX1_turn_170 : decode cX1_turn 170 = .ok (.i2l, 1) := by decide +kernel
theorem dX1_turn_171 : decode cX1_turn 171 = .ok (.lcmp, 1) := by decide +kernel
theorem dX1_turn_172 : decode cX1_turn 172 = .ok (.ifCond .eq 7, 3) := by decide +kernel
theorem dX1_turn_175 : decode cX1_turn 175 = .ok (.iconst 1, 1) := by decide +kernel
theorem dX1_turn_176 : decode cX1_turn 176 = .ok (.goto 41, 3) := by decide +kernel
theorem dX1_turn_179 : decode cX1_turn 179 = .ok (.iconst 0, 1) := by decide +kernel
theorem dX1_turn_180 : decode cX1_turn 180 = .ok (.goto 37, 3) := by decide +kernel
theorem dX1_turn_183 : decode cX1_turn 183 = .ok (.iload 7, 2) := by decide +kernel
theorem dX1_turn_185 : decode cX1_turn 185 = .ok (.ifCond .eq 19, 3) := by decide +kernel
theorem dX1_turn_188 : decode cX1_turn 188 = .ok (.lload_n 3, 1) := by decide +kernel
theorem dX1_turn_189 : decode cX1_turn 189 = .ok (.iload 6, 2) := by decide +kernel
theorem dX1_turn_191 : decode cX1_turn 191 = .ok (.i2l, 1) := by decide +kernel
theorem dX1_turn_192 : decode cX1_turn 192 = .ok (.lcmp, 1) := by decide +kernel
theorem dX1_turn_193 : decode cX1_turn 193 = .ok (.ifCond .ge 7, 3) := by decide +kernel
theorem dX1_turn_196 : decode cX1_turn 196 = .ok (.iconst 1, 1) := by decide +kernel
theorem dX1_turn_197 : decode cX1_turn 197 = .ok (.goto 20, 3) := by decide +kernel
theorem dX1_turn_200 : decode cX1_turn 200 = .ok (.iconst 0, 1) := by decide +kernel
theorem dX1_turn_201 : decode cX1_turn 201 = .ok (.goto 16, 3) := by decide +kernel
theorem dX1_turn_204 : decode cX1_turn 204 = .ok (.lload_n 3, 1) := by decide +kernel
theorem dX1_turn_205 : decode cX1_turn 205 = .ok (.iload 6, 2) := by decide +kernel
theorem dX1_turn_207 : decode cX1_turn 207 = .ok (.i2l, 1) := by decide +kernel
theorem dX1_turn_208 : decode cX1_turn 208 = .ok (.lcmp, 1) := by decide +kernel
theorem dX1_turn_209 : decode cX1_turn 209 = .ok (.ifCond .le 7, 3) := by decide +kernel
theorem dX1_turn_212 : decode cX1_turn 212 = .ok (.iconst 1, 1) := by decide +kernel
theorem dX1_turn_213 : decode cX1_turn 213 = .ok (.goto 4, 3) := by decide +kernel
theorem dX1_turn_216 : decode cX1_turn 216 = .ok (.iconst 0, 1) := by decide +kernel
theorem dX1_turn_217 : decode cX1_turn 217 = .ok (.istore 8, 2) := by decide +kernel
theorem dX1_turn_219 : decode cX1_turn 219 = .ok (.iload 8, 2) := by decide +kernel
theorem dX1_turn_221 : decode cX1_turn 221 = .ok (.ifCond .ne 5, 3) := by decide +kernel
theorem dX1_turn_224 : decode cX1_turn 224 = .ok (.iconst 0, 1) := by decide +kernel
theorem dX1_turn_225 : decode cX1_turn 225 = .ok (.ireturn, 1) := by decide +kernel
theorem dX1_turn_226 : decode cX1_turn 226 = .ok (.aload_n 0, 1) := by decide +kernel
theorem dX1_turn_227 : decode cX1_turn 227 = .ok (.getfield 7, 3) := by decide +kernel
theorem dX1_turn_230 : decode cX1_turn 230 = .ok (.aload_n 0, 1) := by decide +kernel
theorem dX1_turn_231 : decode cX1_turn 231 = .ok (.getfield 40, 3) := by decide +kernel
theorem dX1_turn_234 : decode cX1_turn 234 = .ok (.lload_n 1, 1) := by decide +kernel
theorem dX1_turn_235 : decode cX1_turn 235 = .ok (.l2i, 1) := by decide +kernel
theorem dX1_turn_236 : decode cX1_turn 236 = .ok (.iastore, 1) := by decide +kernel
theorem dX1_turn_237 : decode cX1_turn 237 = .ok (.aload_n 0, 1) := by decide +kernel
theorem dX1_turn_238 : decode cX1_turn 238 = .ok (.getfield 13, 3) := by decide +kernel
theorem dX1_turn_241 : decode cX1_turn 241 = .ok (.aload_n 0, 1) := by decide +kernel
theorem dX1_turn_242 : decode cX1_turn 242 = .ok (.getfield 40, 3) := by decide +kernel
theorem dX1_turn_245 : decode cX1_turn 245 = .ok (.lload_n 3, 1) := by decide +kernel
theorem dX1_turn_246 : decode cX1_turn 246 = .ok (.l2i, 1) := by decide +kernel
theorem dX1_turn_247 : decode cX1_turn 247 = .ok (.iastore, 1) := by decide +kernel
theorem dX1_turn_248 : decode cX1_turn 248 = .ok (.aload_n 0, 1) := by decide +kernel
theorem dX1_turn_249 : decode cX1_turn 249 = .ok (.dup, 1) := by decide +kernel
theorem dX1_turn_250 : decode cX1_turn 250 = .ok (.getfield 40, 3) := by decide +kernel
theorem dX1_turn_253 : decode cX1_turn 253 = .ok (.iconst 1, 1) := by decide +kernel
theorem dX1_turn_254 : decode cX1_turn 254 = .ok (.iadd, 1) := by decide +kernel
theorem dX1_turn_255 : decode cX1_turn 255 = .ok (.putfield 40, 3) := by decide +kernel
theorem dX1_turn_258 : decode cX1_turn 258 = .ok (.iconst 1, 1) := by decide +kernel
theorem dX1_turn_259 : decode cX1_turn 259 = .ok (.ireturn, 1) := by decide +kernel
theorem dX1_height_0 : decode cX1_height 0 = .ok (.aload_n 0, 1) := by decide +kernel
theorem dX1_height_1 : decode cX1_height 1 = .ok (.aload_n 0, 1) := by decide +kernel
theorem dX1_height_2 : decode cX1_height 2 = .ok (.lload_n 1, 1) := by decide +kernel
theorem dX1_height_3 : decode cX1_height 3 = .ok (.invokevirtual 74, 3) := by decide +kernel
theorem dX1_height_6 : decode cX1_height 6 = .ok (.ifCond .eq 7, 3) := by decide +kernel
theorem dX1_height_9 : decode cX1_height 9 = .ok (.iconst 0, 1) := by decide +kernel
theorem dX1_height_10 : decode cX1_height 10 = .ok (.goto 4, 3) := by decide +kernel
theorem dX1_height_13 : decode cX1_height 13 = .ok (.iconst 1, 1) := by decide +kernel
theorem dX1_height_14 : decode cX1_height 14 = .ok (.putfield 36, 3) := by decide +kernel
theorem dX1_height_17 : decode cX1_height 17 = .ok (.aload_n 0, 1) := by decide +kernel
theorem dX1_height_18 : decode cX1_height 18 = .ok (.getfield 36, 3) := by decide +kernel
theorem dX1_height_21 : decode cX1_height 21 = .ok (.ifCond .le 7, 3) := by decide +kernel
theorem dX1_height_24 : decode cX1_height 24 = .ok (.lconst 0, 1) := by decide +kernel
theorem dX1_height_25 : decode cX1_height 25 = .ok (.goto 9, 3) := by decide +kernel
theorem dX1_height_28 : decode cX1_height 28 = .ok (.aload_n 0, 1) := by decide +kernel
theorem dX1_height_29 : decode cX1_height 29 = .ok (.lload_n 1, 1) := by decide +kernel
theorem dX1_height_30 : decode cX1_height 30 = .ok (.l2i, 1) := by decide +kernel
theorem dX1_height_31 : decode cX1_height 31 = .ok (.invokevirtual 77, 3) := by decide +kernel
theorem dX1_height_34 : decode cX1_height 34 = .ok (.lreturn, 1) := by decide +kernel
theorem dX1_observe_0 : decode cX1_observe 0 = .ok (.aload_n 0, 1) := by decide +kernel
theorem dX1_observe_1 : decode cX1_observe 1 = .ok (.lload_n 1, 1) := by decide +kernel
theorem dX1_observe_2 : decode cX1_observe 2 = .ok (.invokevirtual 74, 3) := by decide +kernel
theorem dX1_observe_5 : decode cX1_observe 5 = .ok (.ifCond .eq 49, 3) := by decide +kernel
theorem dX1_observe_8 : decode cX1_observe 8 = .ok (.aload_n 0, 1) := by decide +kernel
theorem dX1_observe_9 : decode cX1_observe 9 = .ok (.getfield 59, 3) := by decide +kernel
theorem dX1_observe_12 : decode cX1_observe 12 = .ok (.ifCond .eq 31, 3) := by decide +kernel
theorem dX1_observe_15 : decode cX1_observe 15 = .ok (.lload_n 1, 1) := by decide +kernel
theorem dX1_observe_16 : decode cX1_observe 16 = .ok (.aload_n 0, 1) := by decide +kernel
theorem dX1_observe_17 : decode cX1_observe 17 = .ok (.getfield 16, 3) := by decide +kernel
theorem dX1_observe_20 : decode cX1_observe 20 = .ok (.aload_n 0, 1) := by decide +kernel
theorem dX1_observe_21 : decode cX1_observe 21 = .ok (.getfield 59, 3) := by decide +kernel
theorem dX1_observe_24 : decode cX1_observe 24 = .ok (.ifCond .le 12, 3) := by decide +kernel
theorem dX1_observe_27 : decode cX1_observe 27 = .ok (.aload_n 0, 1) := by decide +kernel
theorem dX1_observe_28 : decode cX1_observe 28 = .ok (.getfield 59, 3) := by decide +kernel
theorem dX1_observe_31 : decode cX1_observe 31 = .ok (.iconst 1, 1) := by decide +kernel
theorem dX1_observe_32 : decode cX1_observe 32 = .ok (.isub, 1) := by decide +kernel
theorem dX1_observe_33 : decode cX1_observe 33 = .ok (.goto 4, 3) := by decide +kernel
theorem dX1_observe_36 : decode cX1_observe 36 = .ok (.iconst 0, 1) := by decide +kernel
theorem dX1_observe_37 : decode cX1_observe 37 = .ok (.iaload, 1) := by decide +kernel
theorem dX1_observe_38 : decode cX1_observe 38 = .ok (.i2l, 1) := by decide +kernel
theorem dX1_observe_39 : decode cX1_observe 39 = .ok (.lcmp, 1) := by decide +kernel
theorem dX1_observe_40 : decode cX1_observe 40 = .ok (.ifCond .lt 14, 3) := by decide +kernel
theorem dX1_observe_43 : decode cX1_observe 43 = .ok (.lload_n 3, 1) := by decide +kernel
theorem dX1_observe_44 : decode cX1_observe 44 = .ok (.invokestatic 70, 3) := by decide +kernel
theorem dX1_observe_47 : decode cX1_observe 47 = .ok (.ifCond .eq 7, 3) := by decide +kernel
theorem dX1_observe_50 : decode cX1_observe 50 = .ok (.iconst 1, 1) := by decide +kernel
theorem dX1_observe_51 : decode cX1_observe 51 = .ok (.goto 4, 3) := by decide +kernel
theorem dX1_observe_54 : decode cX1_observe 54 = .ok (.iconst 0, 1) := by decide +kernel
theorem dX1_observe_55 : decode cX1_observe 55 = .ok (.istore 5, 2) := by decide +kernel
theorem dX1_observe_57 : decode cX1_observe 57 = .ok (.aload_n 0, 1) := by decide +kernel
theorem dX1_observe_58 : decode cX1_observe 58 = .ok (.iload 5, 2) := by decide +kernel
theorem dX1_observe_60 : decode cX1_observe 60 = .ok (.ifCond .ne 7, 3) := by decide +kernel
theorem dX1_observe_63 : decode cX1_observe 63 = .ok (.iconst 1, 1) := by decide +kernel
theorem dX1_observe_64 : decode cX1_observe 64 = .ok (.goto 17, 3) := by decide +kernel
theorem dX1_observe_67 : decode cX1_observe 67 = .ok (.aload_n 0, 1) := by decide +kernel
theorem dX1_observe_68 : decode cX1_observe 68 = .ok (.getfield 59, 3) := by decide +kernel
theorem dX1_observe_71 : decode cX1_observe 71 = .ok (.bipush 16, 2) := by decide +kernel
theorem dX1_observe_73 : decode cX1_observe 73 = .ok (.if_icmp .ne 7, 3) := by decide +kernel
theorem dX1_observe_76 : decode cX1_observe 76 = .ok (.iconst 2, 1) := by decide +kernel
theorem dX1_observe_77 : decode cX1_observe 77 = .ok (.goto 4, 3) := by decide +kernel
theorem dX1_observe_80 : decode cX1_observe 80 = .ok (.iconst 0, 1) := by decide +kernel
theorem dX1_observe_81 : decode cX1_observe 81 = .ok (.putfield 36, 3) := by decide +kernel
theorem dX1_observe_84 : decode cX1_observe 84 = .ok (.aload_n 0, 1) := by decide +kernel
theorem dX1_observe_85 : decode cX1_observe 85 = .ok (.getfield 36, 3) := by decide +kernel
theorem dX1_observe_88 : decode cX1_observe 88 = .ok (.ifCond .le 5, 3) := by decide +kernel
theorem dX1_observe_91 : decode cX1_observe 91 = .ok (.iconst 0, 1) := by decide +kernel
theorem dX1_observe_92 : decode cX1_observe 92 = .ok (.ireturn, 1) := by decide +kernel
theorem dX1_observe_93 : decode cX1_observe 93 = .ok (.aload_n 0, 1) := by decide +kernel
theorem dX1_observe_94 : decode cX1_observe 94 = .ok (.getfield 16, 3) := by decide +kernel
theorem dX1_observe_97 : decode cX1_observe 97 = .ok (.aload_n 0, 1) := by decide +kernel
theorem dX1_observe_98 : decode cX1_observe 98 = .ok (.getfield 59, 3) := by decide +kernel
theorem dX1_observe_101 : decode cX1_observe 101 = .ok (.lload_n 1, 1) := by decide +kernel
theorem dX1_observe_102 : decode cX1_observe 102 = .ok (.l2i, 1) := by decide +kernel
theorem dX1_observe_103 : decode cX1_observe 103 = .ok (.iastore, 1) := by decide +kernel
theorem dX1_observe_104 : decode cX1_observe 104 = .ok (.aload_n 0, 1) := by decide +kernel
theorem dX1_observe_105 : decode cX1_observe 105 = .ok (.getfield 19, 3) := by decide +kernel
theorem dX1_observe_108 : decode cX1_observe 108 = .ok (.aload_n 0, 1) := by decide +kernel
theorem dX1_observe_109 : decode cX1_observe 109 = .ok (.getfield 59, 3) := by decide +kernel
theorem dX1_observe_112 : decode cX1_observe 112 = .ok (.lload_n 3, 1) := by decide +kernel
theorem dX1_observe_113 : decode cX1_observe 113 = .ok (.aload_n 0, 1) := by decide +kernel
theorem dX1_observe_114 : decode cX1_observe 114 = .ok (.lload_n 1, 1) := by decide +kernel
theorem dX1_observe_115 : decode cX1_observe 115 = .ok (.l2i, 1) := by decide +kernel
theorem dX1_observe_116 : decode cX1_observe 116 = .ok (.invokevirtual 64, 3) := by decide +kernel
theorem dX1_observe_119 : decode cX1_observe 119 = .ok (.lsub, 1) := by decide +kernel
theorem dX1_observe_120 : decode cX1_observe 120 = .ok (.lastore, 1) := by decide +kernel
theorem dX1_observe_121 : decode cX1_observe 121 = .ok (.aload_n 0, 1) := by decide +kernel
theorem dX1_observe_122 : decode cX1_observe 122 = .ok (.dup, 1) := by decide +kernel
theorem dX1_observe_123 : decode cX1_observe 123 = .ok (.getfield 59, 3) := by decide +kernel
theorem dX1_observe_126 : decode cX1_observe 126 = .ok (.iconst 1, 1) := by decide +kernel
theorem dX1_observe_127 : decode cX1_observe 127 = .ok (.iadd, 1) := by decide +kernel
theorem dX1_observe_128 : decode cX1_observe 128 = .ok (.putfield 59, 3) := by decide +kernel
theorem dX1_observe_131 : decode cX1_observe 131 = .ok (.aload_n 0, 1) := by decide +kernel
theorem dX1_observe_132 : decode cX1_observe 132 = .ok (.getfield 59, 3) := by decide +kernel
theorem dX1_observe_135 : decode cX1_observe 135 = .ok (.ireturn, 1) := by decide +kernel
theorem dX1_span_0 : decode cX1_span 0 = .ok (.aload_n 0, 1) := by decide +kernel
theorem dX1_span_1 : decode cX1_span 1 = .ok (.aload_n 0, 1) := by decide +kernel
theorem dX1_span_2 : decode cX1_span 2 = .ok (.lload 5, 2) := by decide +kernel
theorem dX1_span_4 : decode cX1_span 4 = .ok (.invokevirtual 74, 3) := by decide +kernel
theorem dX1_span_7 : decode cX1_span 7 = .ok (.ifCond .eq 32, 3) := by decide +kernel
theorem dX1_span_10 : decode cX1_span 10 = .ok (.lload_n 1, 1) := by decide +kernel
theorem dX1_span_11 : decode cX1_span 11 = .ok (.invokestatic 70, 3) := by decide +kernel
theorem dX1_span_14 : decode cX1_span 14 = .ok (.ifCond .eq 25, 3) := by decide +kernel
theorem dX1_span_17 : decode cX1_span 17 = .ok (.lload_n 3, 1) := by decide +kernel
theorem dX1_span_18 : decode cX1_span 18 = .ok (.invokestatic 70, 3) := by decide +kernel
theorem dX1_span_21 : decode cX1_span 21 = .ok (.ifCond .eq 18, 3) := by decide +kernel
theorem dX1_span_24 : decode cX1_span 24 = .ok (.iload 7, 2) := by decide +kernel
theorem dX1_span_26 : decode cX1_span 26 = .ok (.ifCond .lt 13, 3) := by decide +kernel
theorem dX1_span_29 : decode cX1_span 29 = .ok (.iload 7, 2) := by decide +kernel
theorem dX1_span_31 : decode cX1_span 31 = .ok (.iconst 4, 1) := by decide +kernel
theorem dX1_span_32 : decode cX1_span 32 = .ok (.if_icmp .ge 7, 3) := by decide +kernel
theorem dX1_span_35 : decode cX1_span 35 = .ok (.iconst 0, 1) := by decide +kernel
theorem dX1_span_36 : decode cX1_span 36 = .ok (.goto 4, 3) := by decide +kernel
theorem dX1_span_39 : decode cX1_span 39 = .ok (.iconst 1, 1) := by decide +kernel
theorem dX1_span_40 : decode cX1_span 40 = .ok (.putfield 36, 3) := by decide +kernel
theorem dX1_span_43 : decode cX1_span 43 = .ok (.aload_n 0, 1) := by decide +kernel
theorem dX1_span_44 : decode cX1_span 44 = .ok (.getfield 36, 3) := by decide +kernel
theorem dX1_span_47 : decode cX1_span 47 = .ok (.ifCond .le 5, 3) := by decide +kernel
theorem dX1_span_50 : decode cX1_span 50 = .ok (.iconst 0, 1) := by decide +kernel
theorem dX1_span_51 : decode cX1_span 51 = .ok (.ireturn, 1) := by decide +kernel
theorem dX1_span_52 : decode cX1_span 52 = .ok (.iconst (-1), 1) := by decide +kernel
theorem dX1_span_53 : decode cX1_span 53 = .ok (.istore 8, 2) := by decide +kernel
theorem dX1_span_55 : decode cX1_span 55 = .ok (.iconst 0, 1) := by decide +kernel
theorem dX1_span_56 : decode cX1_span 56 = .ok (.istore 9, 2) := by decide +kernel
theorem dX1_span_58 : decode cX1_span 58 = .ok (.iconst (-1), 1) := by decide +kernel
theorem dX1_span_59 : decode cX1_span 59 = .ok (.istore 10, 2) := by decide +kernel
theorem dX1_span_61 : decode cX1_span 61 = .ok (.iconst 0, 1) := by decide +kernel
theorem dX1_span_62 : decode cX1_span 62 = .ok (.istore 11, 2) := by decide +kernel
theorem dX1_span_64 : decode cX1_span 64 = .ok (.iconst (-1), 1) := by decide +kernel
theorem dX1_span_65 : decode cX1_span 65 = .ok (.istore 12, 2) := by decide +kernel
theorem dX1_span_67 : decode cX1_span 67 = .ok (.lload 5, 2) := by decide +kernel
theorem dX1_span_69 : decode cX1_span 69 = .ok (.l2i, 1) := by decide +kernel
theorem dX1_span_70 : decode cX1_span 70 = .ok (.istore 13, 2) := by decide +kernel
theorem dX1_span_72 : decode cX1_span 72 = .ok (.iload 13, 2) := by decide +kernel
theorem dX1_span_74 : decode cX1_span 74 = .ok (.aload_n 0, 1) := by decide +kernel
theorem dX1_span_75 : decode cX1_span 75 = .ok (.getfield 7, 3) := by decide +kernel
theorem dX1_span_78 : decode cX1_span 78 = .ok (.aload_n 0, 1) := by decide +kernel
theorem dX1_span_79 : decode cX1_span 79 = .ok (.getfield 40, 3) := by decide +kernel
theorem dX1_span_82 : decode cX1_span 82 = .ok (.iconst 1, 1) := by decide +kernel
theorem dX1_span_83 : decode cX1_span 83 = .ok (.isub, 1) := by decide +kernel
theorem dX1_span_84 : decode cX1_span 84 = .ok (.iaload, 1) := by decide +kernel
theorem dX1_span_85 : decode cX1_span 85 = .ok (.if_icmp .gt 126, 3) := by decide +kernel
theorem dX1_span_88 : decode cX1_span 88 = .ok (.lload_n 1, 1) := by decide +kernel
theorem dX1_span_89 : decode cX1_span 89 = .ok (.aload_n 0, 1) := by decide +kernel
theorem dX1_span_90 : decode cX1_span 90 = .ok (.iload 13, 2) := by decide +kernel
theorem dX1_span_92 : decode cX1_span 92 = .ok (.invokevirtual 77, 3) := by decide +kernel
theorem dX1_span_95 : decode cX1_span 95 = .ok (.ladd, 1) := by decide +kernel
theorem dX1_span_96 : decode cX1_span 96 = .ok (.lload_n 3, 1) := by decide +kernel
theorem dX1_span_97 : decode cX1_span 97 = .ok (.lcmp, 1) := by decide +kernel
theorem dX1_span_98 : decode cX1_span 98 = .ok (.ifCond .lt 7, 3) := by decide +kernel
theorem dX1_span_101 : decode cX1_span 101 = .ok (.iconst 1, 1) := by decide +kernel
theorem dX1_span_102 : decode cX1_span 102 = .ok (.goto 4, 3) := by decide +kernel
theorem dX1_span_105 : decode cX1_span 105 = .ok (.iconst 0, 1) := by decide +kernel
theorem dX1_span_106 : decode cX1_span 106 = .ok (.istore 14, 2) := by decide +kernel
theorem dX1_span_108 : decode cX1_span 108 = .ok (.iload 14, 2) := by decide +kernel
theorem dX1_span_110 : decode cX1_span 110 = .ok (.ifCond .eq 10, 3) := by decide +kernel
theorem dX1_span_113 : decode cX1_span 113 = .ok (.iload 11, 2) := by decide +kernel
theorem dX1_span_115 : decode cX1_span 115 = .ok (.iconst 1, 1) := by decide +kernel
theorem dX1_span_116 : decode cX1_span 116 = .ok (.iadd, 1) := by decide +kernel
theorem dX1_span_117 : decode cX1_span 117 = .ok (.goto 4, 3) := by decide +kernel
theorem dX1_span_120 : decode cX1_span 120 = .ok (.iconst 0, 1) := by decide +kernel
theorem dX1_span_121 : decode cX1_span 121 = .ok (.istore 11, 2) := by decide +kernel
theorem dX1_span_123 : decode cX1_span 123 = .ok (.iload 14, 2) := by decide +kernel
theorem dX1_span_125 : decode cX1_span 125 = .ok (.ifCond .eq 13, 3) := by decide +kernel
theorem dX1_span_128 : decode cX1_span 128 = .ok (.iload 8, 2) := by decide +kernel
theorem dX1_span_130 : decode cX1_span 130 = .ok (.ifCond .ge 8, 3) := by decide +kernel
theorem dX1_span_133 : decode cX1_span 133 = .ok (.iload 13, 2) := by decide +kernel
theorem dX1_span_135 : decode cX1_span 135 = .ok (.goto 5, 3) := by decide +kernel
theorem dX1_span_138 : decode cX1_span 138 = .ok (.iload 8, 2) := by decide +kernel
theorem dX1_span_140 : decode cX1_span 140 = .ok (.istore 8, 2) := by decide +kernel
theorem dX1_span_142 : decode cX1_span 142 = .ok (.iload 14, 2) := by decide +kernel
theorem dX1_span_144 : decode cX1_span 144 = .ok (.ifCond .eq 20, 3) := by decide +kernel
theorem dX1_span_147 : decode cX1_span 147 = .ok (.iload 8, 2) := by decide +kernel
theorem dX1_span_149 : decode cX1_span 149 = .ok (.iload 13, 2) := by decide +kernel
theorem dX1_span_151 : decode cX1_span 151 = .ok (.iload 11, 2) := by decide +kernel
theorem dX1_span_153 : decode cX1_span 153 = .ok (.isub, 1) := by decide +kernel
theorem dX1_span_154 : decode cX1_span 154 = .ok (.iconst 1, 1) := by decide +kernel
theorem dX1_span_155 : decode cX1_span 155 = .ok (.iadd, 1) := by decide +kernel
theorem dX1_span_156 : decode cX1_span 156 = .ok (.if_icmp .ne 8, 3) := by decide +kernel
theorem dX1_span_159 : decode cX1_span 159 = .ok (.iload 13, 2) := by decide +kernel
theorem dX1_span_161 : decode cX1_span 161 = .ok (.goto 5, 3) := by decide +kernel
theorem dX1_span_164 : decode cX1_span 164 = .ok (.iload 12, 2) := by decide +kernel
theorem dX1_span_166 : decode cX1_span 166 = .ok (.istore 12, 2) := by decide +kernel
theorem dX1_span_168 : decode cX1_span 168 = .ok (.iload 11, 2) := by decide +kernel
theorem dX1_span_170 : decode cX1_span 170 = .ok (.iload 9, 2) := by decide +kernel
theorem dX1_span_172 : decode cX1_span 172 = .ok (.if_icmp .le 13, 3) := by decide +kernel
theorem dX1_span_175 : decode cX1_span 175 = .ok (.iload 13, 2) := by decide +kernel
theorem dX1_span_177 : decode cX1_span 177 = .ok (.iload 11, 2) := by decide +kernel
theorem dX1_span_179 : decode cX1_span 179 = .ok (.isub, 1) := by decide +kernel
theorem dX1_span_180 : decode cX1_span 180 = .ok (.iconst 1, 1) := by decide +kernel
theorem dX1_span_181 : decode cX1_span 181 = .ok (.iadd, 1) := by decide +kernel
theorem dX1_span_182 : decode cX1_span 182 = .ok (.goto 5, 3) := by decide +kernel
theorem dX1_span_185 : decode cX1_span 185 = .ok (.iload 10, 2) := by decide +kernel
theorem dX1_span_187 : decode cX1_span 187 = .ok (.istore 10, 2) := by decide +kernel
theorem dX1_span_189 : decode cX1_span 189 = .ok (.iload 11, 2) := by decide +kernel
theorem dX1_span_191 : decode cX1_span 191 = .ok (.iload 9, 2) := by decide +kernel
theorem dX1_span_193 : decode cX1_span 193 = .ok (.if_icmp .le 8, 3) := by decide +kernel
theorem dX1_span_196 : decode cX1_span 196 = .ok (.iload 11, 2) := by decide +kernel
theorem dX1_span_198 : decode cX1_span 198 = .ok (.goto 5, 3) := by decide +kernel
theorem dX1_span_201 : decode cX1_span 201 = .ok (.iload 9, 2) := by decide +kernel
theorem dX1_span_203 : decode cX1_span 203 = .ok (.istore 9, 2) := by decide +kernel
theorem dX1_span_205 : decode cX1_span 205 = .ok (.iinc 13 1, 3) := by decide +kernel
theorem dX1_span_208 : decode cX1_span 208 = .ok (.goto (-136), 3) := by decide +kernel
theorem dX1_span_211 : decode cX1_span 211 = .ok (.iload 7, 2) := by decide +kernel
theorem dX1_span_213 : decode cX1_span 213 = .ok (.ifCond .ne 8, 3) := by decide +kernel
theorem dX1_span_216 : decode cX1_span 216 = .ok (.iload 8, 2) := by decide +kernel
theorem dX1_span_218 : decode cX1_span 218 = .ok (.goto 41, 3) := by decide +kernel
theorem dX1_span_221 : decode cX1_span 221 = .ok (.iload 7, 2) := by decide +kernel
theorem dX1_span_223 : decode cX1_span 223 = .ok (.iconst 1, 1) := by decide +kernel
theorem dX1_span_224 : decode cX1_span 224 = .ok (.if_icmp .ne 8, 3) := by decide +kernel
theorem dX1_span_227 : decode cX1_span 227 = .ok (.iload 12, 2) := by decide +kernel
theorem dX1_span_229 : decode cX1_span 229 = .ok (.goto 30, 3) := by decide +kernel
theorem dX1_span_232 : decode cX1_span 232 = .ok (.iload 10, 2) := by decide +kernel
theorem dX1_span_234 : decode cX1_span 234 = .ok (.ifCond .ge 7, 3) := by decide +kernel
theorem dX1_span_237 : decode cX1_span 237 = .ok (.iconst (-1), 1) := by decide +kernel
theorem dX1_span_238 : decode cX1_span 238 = .ok (.goto 21, 3) := by decide +kernel
theorem dX1_span_241 : decode cX1_span 241 = .ok (.iload 7, 2) := by decide +kernel
theorem dX1_span_243 : decode cX1_span 243 = .ok (.iconst 2, 1) := by decide +kernel
theorem dX1_span_244 : decode cX1_span 244 = .ok (.if_icmp .ne 8, 3) := by decide +kernel
theorem dX1_span_247 : decode cX1_span 247 = .ok (.iload 10, 2) := by decide +kernel
theorem dX1_span_249 : decode cX1_span 249 = .ok (.goto 10, 3) := by decide +kernel
theorem dX1_span_252 : decode cX1_span 252 = .ok (.iload 10, 2) := by decide +kernel
theorem dX1_span_254 : decode cX1_span 254 = .ok (.iload 9, 2) := by decide +kernel
theorem dX1_span_256 : decode cX1_span 256 = .ok (.iadd, 1) := by decide +kernel
theorem dX1_span_257 : decode cX1_span 257 = .ok (.iconst 1, 1) := by decide +kernel
theorem dX1_span_258 : decode cX1_span 258 = .ok (.isub, 1) := by decide +kernel
theorem dX1_span_259 : decode cX1_span 259 = .ok (.ireturn, 1) := by decide +kernel
theorem dX1_squatOf_0 : decode cX1_squatOf 0 = .ok (.lload_n 1, 1) := by decide +kernel
theorem dX1_squatOf_1 : decode cX1_squatOf 1 = .ok (.ldc2_w 80, 3) := by decide +kernel
theorem dX1_squatOf_4 : decode cX1_squatOf 4 = .ok (.ldiv, 1) := by decide +kernel
theorem dX1_squatOf_5 : decode cX1_squatOf 5 = .ok (.l2i, 1) := by decide +kernel
theorem dX1_squatOf_6 : decode cX1_squatOf 6 = .ok (.istore 5, 2) := by decide +kernel
theorem dX1_squatOf_8 : decode cX1_squatOf 8 = .ok (.iload 5, 2) := by decide +kernel
theorem dX1_squatOf_10 : decode cX1_squatOf 10 = .ok (.iconst 5, 1) := by decide +kernel
theorem dX1_squatOf_11 : decode cX1_squatOf 11 = .ok (.if_icmp .le 9, 3) := by decide +kernel
theorem dX1_squatOf_14 : decode cX1_squatOf 14 = .ok (.ldc2_w 82, 3) := by decide +kernel
theorem dX1_squatOf_17 : decode cX1_squatOf 17 = .ok (.goto 40, 3) := by decide +kernel
theorem dX1_squatOf_20 : decode cX1_squatOf 20 = .ok (.aload_n 0, 1) := by decide +kernel
theorem dX1_squatOf_21 : decode cX1_squatOf 21 = .ok (.getfield 33, 3) := by decide +kernel
theorem dX1_squatOf_24 : decode cX1_squatOf 24 = .ok (.iload 5, 2) := by decide +kernel
theorem dX1_squatOf_26 : decode cX1_squatOf 26 = .ok (.iaload, 1) := by decide +kernel
theorem dX1_squatOf_27 : decode cX1_squatOf 27 = .ok (.i2l, 1) := by decide +kernel
theorem dX1_squatOf_28 : decode cX1_squatOf 28 = .ok (.aload_n 0, 1) := by decide +kernel
theorem dX1_squatOf_29 : decode cX1_squatOf 29 = .ok (.getfield 33, 3) := by decide +kernel
theorem dX1_squatOf_32 : decode cX1_squatOf 32 = .ok (.iload 5, 2) := by decide +kernel
theorem dX1_squatOf_34 : decode cX1_squatOf 34 = .ok (.iconst 1, 1) := by decide +kernel
theorem dX1_squatOf_35 : decode cX1_squatOf 35 = .ok (.iadd, 1) := by decide +kernel
theorem dX1_squatOf_36 : decode cX1_squatOf 36 = .ok (.iaload, 1) := by decide +kernel
theorem dX1_squatOf_37 : decode cX1_squatOf 37 = .ok (.aload_n 0, 1) := by decide +kernel
theorem dX1_squatOf_38 : decode cX1_squatOf 38 = .ok (.getfield 33, 3) := by decide +kernel
theorem dX1_squatOf_41 : decode cX1_squatOf 41 = .ok (.iload 5, 2) := by decide +kernel
theorem dX1_squatOf_43 : decode cX1_squatOf 43 = .ok (.iaload, 1) := by decide +kernel
theorem dX1_squatOf_44 : decode cX1_squatOf 44 = .ok (.isub, 1) := by decide +kernel
theorem dX1_squatOf_45 : decode cX1_squatOf 45 = .ok (.i2l, 1) := by decide +kernel
theorem dX1_squatOf_46 : decode cX1_squatOf 46 = .ok (.lload_n 1, 1) := by decide +kernel
theorem dX1_squatOf_47 : decode cX1_squatOf 47 = .ok (.ldc2_w 80, 3) := by decide +kernel
theorem dX1_squatOf_50 : decode cX1_squatOf 50 = .ok (.lrem, 1) := by decide +kernel
theorem dX1_squatOf_51 : decode cX1_squatOf 51 = .ok (.lmul, 1) := by decide +kernel
theorem dX1_squatOf_52 : decode cX1_squatOf 52 = .ok (.ldc2_w 80, 3) := by decide +kernel
theorem dX1_squatOf_55 : decode cX1_squatOf 55 = .ok (.ldiv, 1) := by decide +kernel
theorem dX1_squatOf_56 : decode cX1_squatOf 56 = .ok (.ladd, 1) := by decide +kernel
theorem dX1_squatOf_57 : decode cX1_squatOf 57 = .ok (.lstore 6, 2) := by decide +kernel
theorem dX1_squatOf_59 : decode cX1_squatOf 59 = .ok (.lload_n 3, 1) := by decide +kernel
theorem dX1_squatOf_60 : decode cX1_squatOf 60 = .ok (.lload 6, 2) := by decide +kernel
theorem dX1_squatOf_62 : decode cX1_squatOf 62 = .ok (.lmul, 1) := by decide +kernel
theorem dX1_squatOf_63 : decode cX1_squatOf 63 = .ok (.ldc2_w 84, 3) := by decide +kernel
theorem dX1_squatOf_66 : decode cX1_squatOf 66 = .ok (.invokestatic 86, 3) := by decide +kernel
theorem dX1_squatOf_69 : decode cX1_squatOf 69 = .ok (.lreturn, 1) := by decide +kernel
theorem dX1_squat_0 : decode cX1_squat 0 = .ok (.aload_n 0, 1) := by decide +kernel
theorem dX1_squat_1 : decode cX1_squat 1 = .ok (.lload_n 1, 1) := by decide +kernel
theorem dX1_squat_2 : decode cX1_squat 2 = .ok (.lconst 0, 1) := by decide +kernel
theorem dX1_squat_3 : decode cX1_squat 3 = .ok (.ldc2_w 89, 3) := by decide +kernel
theorem dX1_squat_6 : decode cX1_squat 6 = .ok (.invokestatic 43, 3) := by decide +kernel
theorem dX1_squat_9 : decode cX1_squat 9 = .ok (.ifCond .eq 18, 3) := by decide +kernel
theorem dX1_squat_12 : decode cX1_squat 12 = .ok (.lload_n 3, 1) := by decide +kernel
theorem dX1_squat_13 : decode cX1_squat 13 = .ok (.lconst 0, 1) := by decide +kernel
theorem dX1_squat_14 : decode cX1_squat 14 = .ok (.ldc2_w 91, 3) := by decide +kernel
theorem dX1_squat_17 : decode cX1_squat 17 = .ok (.invokestatic 43, 3) := by decide +kernel
theorem dX1_squat_20 : decode cX1_squat 20 = .ok (.ifCond .eq 7, 3) := by decide +kernel
theorem dX1_squat_23 : decode cX1_squat 23 = .ok (.iconst 0, 1) := by decide +kernel
theorem dX1_squat_24 : decode cX1_squat 24 = .ok (.goto 4, 3) := by decide +kernel
theorem dX1_squat_27 : decode cX1_squat 27 = .ok (.iconst 1, 1) := by decide +kernel
theorem dX1_squat_28 : decode cX1_squat 28 = .ok (.putfield 36, 3) := by decide +kernel
theorem dX1_squat_31 : decode cX1_squat 31 = .ok (.aload_n 0, 1) := by decide +kernel
theorem dX1_squat_32 : decode cX1_squat 32 = .ok (.getfield 36, 3) := by decide +kernel
theorem dX1_squat_35 : decode cX1_squat 35 = .ok (.ifCond .le 7, 3) := by decide +kernel
theorem dX1_squat_38 : decode cX1_squat 38 = .ok (.lconst 0, 1) := by decide +kernel
theorem dX1_squat_39 : decode cX1_squat 39 = .ok (.goto 9, 3) := by decide +kernel
theorem dX1_squat_42 : decode cX1_squat 42 = .ok (.aload_n 0, 1) := by decide +kernel
theorem dX1_squat_43 : decode cX1_squat 43 = .ok (.lload_n 1, 1) := by decide +kernel
theorem dX1_squat_44 : decode cX1_squat 44 = .ok (.lload_n 3, 1) := by decide +kernel
theorem dX1_squat_45 : decode cX1_squat 45 = .ok (.invokevirtual 93, 3) := by decide +kernel
theorem dX1_squat_48 : decode cX1_squat 48 = .ok (.lreturn, 1) := by decide +kernel
theorem dX1_passing_0 : decode cX1_passing 0 = .ok (.aload_n 0, 1) := by decide +kernel
theorem dX1_passing_1 : decode cX1_passing 1 = .ok (.lload_n 1, 1) := by decide +kernel
theorem dX1_passing_2 : decode cX1_passing 2 = .ok (.lconst 0, 1) := by decide +kernel
theorem dX1_passing_3 : decode cX1_passing 3 = .ok (.ldc2_w 96, 3) := by decide +kernel
theorem dX1_passing_6 : decode cX1_passing 6 = .ok (.invokestatic 43, 3) := by decide +kernel
theorem dX1_passing_9 : decode cX1_passing 9 = .ok (.ifCond .eq 14, 3) := by decide +kernel
theorem dX1_passing_12 : decode cX1_passing 12 = .ok (.lload_n 3, 1) := by decide +kernel
theorem dX1_passing_13 : decode cX1_passing 13 = .ok (.lconst 0, 1) := by decide +kernel
theorem dX1_passing_14 : decode cX1_passing 14 = .ok (.ldc2_w 89, 3) := by decide +kernel
theorem dX1_passing_17 : decode cX1_passing 17 = .ok (.invokestatic 43, 3) := by decide +kernel
theorem dX1_passing_20 : decode cX1_passing 20 = .ok (.ifCond .ne 7, 3) := by decide +kernel
theorem dX1_passing_23 : decode cX1_passing 23 = .ok (.iconst 1, 1) := by decide +kernel
theorem dX1_passing_24 : decode cX1_passing 24 = .ok (.goto 14, 3) := by decide +kernel
theorem dX1_passing_27 : decode cX1_passing 27 = .ok (.lload_n 3, 1) := by decide +kernel
theorem dX1_passing_28 : decode cX1_passing 28 = .ok (.lconst 0, 1) := by decide +kernel
theorem dX1_passing_29 : decode cX1_passing 29 = .ok (.lcmp, 1) := by decide +kernel
theorem dX1_passing_30 : decode cX1_passing 30 = .ok (.ifCond .ne 7, 3) := by decide +kernel
theorem dX1_passing_33 : decode cX1_passing 33 = .ok (.iconst 2, 1) := by decide +kernel
theorem dX1_passing_34 : decode cX1_passing 34 = .ok (.goto 4, 3) := by decide +kernel
theorem dX1_passing_37 : decode cX1_passing 37 = .ok (.iconst 0, 1) := by decide +kernel
theorem dX1_passing_38 : decode cX1_passing 38 = .ok (.putfield 36, 3) := by decide +kernel
theorem dX1_passing_41 : decode cX1_passing 41 = .ok (.aload_n 0, 1) := by decide +kernel
theorem dX1_passing_42 : decode cX1_passing 42 = .ok (.getfield 36, 3) := by decide +kernel
theorem dX1_passing_45 : decode cX1_passing 45 = .ok (.ifCond .le 7, 3) := by decide +kernel
theorem dX1_passing_48 : decode cX1_passing 48 = .ok (.lconst 0, 1) := by decide +kernel
theorem dX1_passing_49 : decode cX1_passing 49 = .ok (.goto 12, 3) := by decide +kernel
theorem dX1_passing_52 : decode cX1_passing 52 = .ok (.ldc2_w 82, 3) := by decide +kernel
theorem dX1_passing_55 : decode cX1_passing 55 = .ok (.lload_n 1, 1) := by decide +kernel
theorem dX1_passing_56 : decode cX1_passing 56 = .ok (.lmul, 1) := by decide +kernel
theorem dX1_passing_57 : decode cX1_passing 57 = .ok (.lload_n 3, 1) := by decide +kernel
theorem dX1_passing_58 : decode cX1_passing 58 = .ok (.invokestatic 86, 3) := by decide +kernel
theorem dX1_passing_61 : decode cX1_passing 61 = .ok (.lreturn, 1) := by decide +kernel
theorem dX1_cosine_0 : decode cX1_cosine 0 = .ok (.aload_n 0, 1) := by decide +kernel
theorem dX1_cosine_1 : decode cX1_cosine 1 = .ok (.iload_n 1, 1) := by decide +kernel
theorem dX1_cosine_2 : decode cX1_cosine 2 = .ok (.ifCond .lt 13, 3) := by decide +kernel
theorem dX1_cosine_5 : decode cX1_cosine 5 = .ok (.iload_n 1, 1) := by decide +kernel
theorem dX1_cosine_6 : decode cX1_cosine 6 = .ok (.bipush 65, 2) := by decide +kernel
theorem dX1_cosine_8 : decode cX1_cosine 8 = .ok (.if_icmp .ge 7, 3) := by decide +kernel
theorem dX1_cosine_11 : decode cX1_cosine 11 = .ok (.iconst 0, 1) := by decide +kernel
theorem dX1_cosine_12 : decode cX1_cosine 12 = .ok (.goto 4, 3) := by decide +kernel
theorem dX1_cosine_15 : decode cX1_cosine 15 = .ok (.iconst 1, 1) := by decide +kernel
theorem dX1_cosine_16 : decode cX1_cosine 16 = .ok (.putfield 36, 3) := by decide +kernel
theorem dX1_cosine_19 : decode cX1_cosine 19 = .ok (.aload_n 0, 1) := by decide +kernel
theorem dX1_cosine_20 : decode cX1_cosine 20 = .ok (.getfield 36, 3) := by decide +kernel
theorem dX1_cosine_23 : decode cX1_cosine 23 = .ok (.ifCond .le 7, 3) := by decide +kernel
theorem dX1_cosine_26 : decode cX1_cosine 26 = .ok (.iconst 0, 1) := by decide +kernel
theorem dX1_cosine_27 : decode cX1_cosine 27 = .ok (.goto 9, 3) := by decide +kernel
theorem dX1_cosine_30 : decode cX1_cosine 30 = .ok (.aload_n 0, 1) := by decide +kernel
theorem dX1_cosine_31 : decode cX1_cosine 31 = .ok (.getfield 30, 3) := by decide +kernel
theorem dX1_cosine_34 : decode cX1_cosine 34 = .ok (.iload_n 1, 1) := by decide +kernel
theorem dX1_cosine_35 : decode cX1_cosine 35 = .ok (.iaload, 1) := by decide +kernel
theorem dX1_cosine_36 : decode cX1_cosine 36 = .ok (.ireturn, 1) := by decide +kernel
theorem dX1_draft_0 : decode cX1_draft 0 = .ok (.aload_n 0, 1) := by decide +kernel
theorem dX1_draft_1 : decode cX1_draft 1 = .ok (.lload_n 1, 1) := by decide +kernel
theorem dX1_draft_2 : decode cX1_draft 2 = .ok (.lconst 0, 1) := by decide +kernel
theorem dX1_draft_3 : decode cX1_draft 3 = .ok (.ldc2_w 91, 3) := by decide +kernel
theorem dX1_draft_6 : decode cX1_draft 6 = .ok (.invokestatic 43, 3) := by decide +kernel
theorem dX1_draft_9 : decode cX1_draft 9 = .ok (.ifCond .eq 34, 3) := by decide +kernel
theorem dX1_draft_12 : decode cX1_draft 12 = .ok (.lload_n 3, 1) := by decide +kernel
theorem dX1_draft_13 : decode cX1_draft 13 = .ok (.ldc2_w 98, 3) := by decide +kernel
theorem dX1_draft_16 : decode cX1_draft 16 = .ok (.ldc2_w 100, 3) := by decide +kernel
theorem dX1_draft_19 : decode cX1_draft 19 = .ok (.invokestatic 43, 3) := by decide +kernel
theorem dX1_draft_22 : decode cX1_draft 22 = .ok (.ifCond .eq 21, 3) := by decide +kernel
theorem dX1_draft_25 : decode cX1_draft 25 = .ok (.lload 5, 2) := by decide +kernel
theorem dX1_draft_27 : decode cX1_draft 27 = .ok (.ldc2_w 98, 3) := by decide +kernel
theorem dX1_draft_30 : decode cX1_draft 30 = .ok (.ldc2_w 100, 3) := by decide +kernel
theorem dX1_draft_33 : decode cX1_draft 33 = .ok (.invokestatic 43, 3) := by decide +kernel
theorem dX1_draft_36 : decode cX1_draft 36 = .ok (.ifCond .eq 7, 3) := by decide +kernel
theorem dX1_draft_39 : decode cX1_draft 39 = .ok (.iconst 0, 1) := by decide +kernel
theorem dX1_draft_40 : decode cX1_draft 40 = .ok (.goto 4, 3) := by decide +kernel
theorem dX1_draft_43 : decode cX1_draft 43 = .ok (.iconst 1, 1) := by decide +kernel
theorem dX1_draft_44 : decode cX1_draft 44 = .ok (.putfield 36, 3) := by decide +kernel
theorem dX1_draft_47 : decode cX1_draft 47 = .ok (.aload_n 0, 1) := by decide +kernel
theorem dX1_draft_48 : decode cX1_draft 48 = .ok (.getfield 36, 3) := by decide +kernel
theorem dX1_draft_51 : decode cX1_draft 51 = .ok (.ifCond .le 7, 3) := by decide +kernel
theorem dX1_draft_54 : decode cX1_draft 54 = .ok (.lconst 0, 1) := by decide +kernel
theorem dX1_draft_55 : decode cX1_draft 55 = .ok (.goto 11, 3) := by decide +kernel
theorem dX1_draft_58 : decode cX1_draft 58 = .ok (.lload_n 1, 1) := by decide +kernel
theorem dX1_draft_59 : decode cX1_draft 59 = .ok (.lload_n 3, 1) := by decide +kernel
theorem dX1_draft_60 : decode cX1_draft 60 = .ok (.lmul, 1) := by decide +kernel
theorem dX1_draft_61 : decode cX1_draft 61 = .ok (.lload 5, 2) := by decide +kernel
theorem dX1_draft_63 : decode cX1_draft 63 = .ok (.invokestatic 86, 3) := by decide +kernel
theorem dX1_draft_66 : decode cX1_draft 66 = .ok (.lreturn, 1) := by decide +kernel
theorem dX1_place_0 : decode cX1_place 0 = .ok (.lload_n 1, 1) := by decide +kernel
theorem dX1_place_1 : decode cX1_place 1 = .ok (.lconst 0, 1) := by decide +kernel
theorem dX1_place_2 : decode cX1_place 2 = .ok (.ldc2_w 96, 3) := by decide +kernel
theorem dX1_place_5 : decode cX1_place 5 = .ok (.invokestatic 43, 3) := by decide +kernel
theorem dX1_place_8 : decode cX1_place 8 = .ok (.ifCond .eq 48, 3) := by decide +kernel
theorem dX1_place_11 : decode cX1_place 11 = .ok (.aload_n 0, 1) := by decide +kernel
theorem dX1_place_12 : decode cX1_place 12 = .ok (.getfield 102, 3) := by decide +kernel
theorem dX1_place_15 : decode cX1_place 15 = .ok (.ifCond .eq 30, 3) := by decide +kernel
theorem dX1_place_18 : decode cX1_place 18 = .ok (.lload_n 1, 1) := by decide +kernel
theorem dX1_place_19 : decode cX1_place 19 = .ok (.aload_n 0, 1) := by decide +kernel
theorem dX1_place_20 : decode cX1_place 20 = .ok (.getfield 23, 3) := by decide +kernel
theorem dX1_place_23 : decode cX1_place 23 = .ok (.aload_n 0, 1) := by decide +kernel
theorem dX1_place_24 : decode cX1_place 24 = .ok (.getfield 102, 3) := by decide +kernel
theorem dX1_place_27 : decode cX1_place 27 = .ok (.ifCond .le 12, 3) := by decide +kernel
theorem dX1_place_30 : decode cX1_place 30 = .ok (.aload_n 0, 1) := by decide +kernel
theorem dX1_place_31 : decode cX1_place 31 = .ok (.getfield 102, 3) := by decide +kernel
theorem dX1_place_34 : decode cX1_place 34 = .ok (.iconst 1, 1) := by decide +kernel
theorem dX1_place_35 : decode cX1_place 35 = .ok (.isub, 1) := by decide +kernel
theorem dX1_place_36 : decode cX1_place 36 = .ok (.goto 4, 3) := by decide +kernel
theorem dX1_place_39 : decode cX1_place 39 = .ok (.iconst 0, 1) := by decide +kernel
theorem dX1_place_40 : decode cX1_place 40 = .ok (.laload, 1) := by decide +kernel
theorem dX1_place_41 : decode cX1_place 41 = .ok (.lcmp, 1) := by decide +kernel
theorem dX1_place_42 : decode cX1_place 42 = .ok (.ifCond .le 14, 3) := by decide +kernel
theorem dX1_place_45 : decode cX1_place 45 = .ok (.lload_n 3, 1) := by decide +kernel
theorem dX1_place_46 : decode cX1_place 46 = .ok (.invokestatic 70, 3) := by decide +kernel
theorem dX1_place_49 : decode cX1_place 49 = .ok (.ifCond .eq 7, 3) := by decide +kernel
theorem dX1_place_52 : decode cX1_place 52 = .ok (.iconst 1, 1) := by decide +kernel
theorem dX1_place_53 : decode cX1_place 53 = .ok (.goto 4, 3) := by decide +kernel
theorem dX1_place_56 : decode cX1_place 56 = .ok (.iconst 0, 1) := by decide +kernel
theorem dX1_place_57 : decode cX1_place 57 = .ok (.istore 5, 2) := by decide +kernel
theorem dX1_place_59 : decode cX1_place 59 = .ok (.aload_n 0, 1) := by decide +kernel
theorem dX1_place_60 : decode cX1_place 60 = .ok (.iload 5, 2) := by decide +kernel
theorem dX1_place_62 : decode cX1_place 62 = .ok (.ifCond .ne 7, 3) := by decide +kernel
theorem dX1_place_65 : decode cX1_place 65 = .ok (.iconst 1, 1) := by decide +kernel
theorem dX1_place_66 : decode cX1_place 66 = .ok (.goto 17, 3) := by decide +kernel
theorem dX1_place_69 : decode cX1_place 69 = .ok (.aload_n 0, 1) := by decide +kernel
theorem dX1_place_70 : decode cX1_place 70 = .ok (.getfield 102, 3) := by decide +kernel
theorem dX1_place_73 : decode cX1_place 73 = .ok (.bipush 12, 2) := by decide +kernel
theorem dX1_place_75 : decode cX1_place 75 = .ok (.if_icmp .ne 7, 3) := by decide +kernel
theorem dX1_place_78 : decode cX1_place 78 = .ok (.iconst 2, 1) := by decide +kernel
theorem dX1_place_79 : decode cX1_place 79 = .ok (.goto 4, 3) := by decide +kernel
theorem dX1_place_82 : decode cX1_place 82 = .ok (.iconst 0, 1) := by decide +kernel
theorem dX1_place_83 : decode cX1_place 83 = .ok (.putfield 36, 3) := by decide +kernel
theorem dX1_place_86 : decode cX1_place 86 = .ok (.aload_n 0, 1) := by decide +kernel
theorem dX1_place_87 : decode cX1_place 87 = .ok (.getfield 36, 3) := by decide +kernel
theorem dX1_place_90 : decode cX1_place 90 = .ok (.ifCond .le 5, 3) := by decide +kernel
theorem dX1_place_93 : decode cX1_place 93 = .ok (.iconst 0, 1) := by decide +kernel
theorem dX1_place_94 : decode cX1_place 94 = .ok (.ireturn, 1) := by decide +kernel
theorem dX1_place_95 : decode cX1_place 95 = .ok (.aload_n 0, 1) := by decide +kernel
theorem dX1_place_96 : decode cX1_place 96 = .ok (.getfield 23, 3) := by decide +kernel
theorem dX1_place_99 : decode cX1_place 99 = .ok (.aload_n 0, 1) := by decide +kernel
theorem dX1_place_100 : decode cX1_place 100 = .ok (.getfield 102, 3) := by decide +kernel
theorem dX1_place_103 : decode cX1_place 103 = .ok (.lload_n 1, 1) := by decide +kernel
theorem dX1_place_104 : decode cX1_place 104 = .ok (.lastore, 1) := by decide +kernel
theorem dX1_place_105 : decode cX1_place 105 = .ok (.aload_n 0, 1) := by decide +kernel
theorem dX1_place_106 : decode cX1_place 106 = .ok (.getfield 26, 3) := by decide +kernel
theorem dX1_place_109 : decode cX1_place 109 = .ok (.aload_n 0, 1) := by decide +kernel
theorem dX1_place_110 : decode cX1_place 110 = .ok (.getfield 102, 3) := by decide +kernel
theorem dX1_place_113 : decode cX1_place 113 = .ok (.lload_n 3, 1) := by decide +kernel
theorem dX1_place_114 : decode cX1_place 114 = .ok (.lastore, 1) := by decide +kernel
theorem dX1_place_115 : decode cX1_place 115 = .ok (.aload_n 0, 1) := by decide +kernel
theorem dX1_place_116 : decode cX1_place 116 = .ok (.dup, 1) := by decide +kernel
theorem dX1_place_117 : decode cX1_place 117 = .ok (.getfield 102, 3) := by decide +kernel
theorem dX1_place_120 : decode cX1_place 120 = .ok (.iconst 1, 1) := by decide +kernel
theorem dX1_place_121 : decode cX1_place 121 = .ok (.iadd, 1) := by decide +kernel
theorem dX1_place_122 : decode cX1_place 122 = .ok (.putfield 102, 3) := by decide +kernel
theorem dX1_place_125 : decode cX1_place 125 = .ok (.aload_n 0, 1) := by decide +kernel
theorem dX1_place_126 : decode cX1_place 126 = .ok (.getfield 102, 3) := by decide +kernel
theorem dX1_place_129 : decode cX1_place 129 = .ok (.iconst 1, 1) := by decide +kernel
theorem dX1_place_130 : decode cX1_place 130 = .ok (.isub, 1) := by decide +kernel
theorem dX1_place_131 : decode cX1_place 131 = .ok (.ireturn, 1) := by decide +kernel
theorem dX1_depth_0 : decode cX1_depth 0 = .ok (.iload_n 1, 1) := by decide +kernel
theorem dX1_depth_1 : decode cX1_depth 1 = .ok (.ifCond .lt 15, 3) := by decide +kernel
theorem dX1_depth_4 : decode cX1_depth 4 = .ok (.iload_n 1, 1) := by decide +kernel
theorem dX1_depth_5 : decode cX1_depth 5 = .ok (.aload_n 0, 1) := by decide +kernel
theorem dX1_depth_6 : decode cX1_depth 6 = .ok (.getfield 102, 3) := by decide +kernel
theorem dX1_depth_9 : decode cX1_depth 9 = .ok (.if_icmp .ge 7, 3) := by decide +kernel
theorem dX1_depth_12 : decode cX1_depth 12 = .ok (.iconst 1, 1) := by decide +kernel
theorem dX1_depth_13 : decode cX1_depth 13 = .ok (.goto 4, 3) := by decide +kernel
theorem dX1_depth_16 : decode cX1_depth 16 = .ok (.iconst 0, 1) := by decide +kernel
theorem dX1_depth_17 : decode cX1_depth 17 = .ok (.istore 4, 2) := by decide +kernel
theorem dX1_depth_19 : decode cX1_depth 19 = .ok (.aload_n 0, 1) := by decide +kernel
theorem dX1_depth_20 : decode cX1_depth 20 = .ok (.iload 4, 2) := by decide +kernel
theorem dX1_depth_22 : decode cX1_depth 22 = .ok (.ifCond .ne 7, 3) := by decide +kernel
theorem dX1_depth_25 : decode cX1_depth 25 = .ok (.iconst 1, 1) := by decide +kernel
theorem dX1_depth_26 : decode cX1_depth 26 = .ok (.goto 16, 3) := by decide +kernel
theorem dX1_depth_29 : decode cX1_depth 29 = .ok (.aload_n 0, 1) := by decide +kernel
theorem dX1_depth_30 : decode cX1_depth 30 = .ok (.lload_n 2, 1) := by decide +kernel
theorem dX1_depth_31 : decode cX1_depth 31 = .ok (.invokevirtual 74, 3) := by decide +kernel
theorem dX1_depth_34 : decode cX1_depth 34 = .ok (.ifCond .ne 7, 3) := by decide +kernel
theorem dX1_depth_37 : decode cX1_depth 37 = .ok (.iconst 2, 1) := by decide +kernel
theorem dX1_depth_38 : decode cX1_depth 38 = .ok (.goto 4, 3) := by decide +kernel
theorem dX1_depth_41 : decode cX1_depth 41 = .ok (.iconst 0, 1) := by decide +kernel
theorem dX1_depth_42 : decode cX1_depth 42 = .ok (.putfield 36, 3) := by decide +kernel
theorem dX1_depth_45 : decode cX1_depth 45 = .ok (.aload_n 0, 1) := by decide +kernel
theorem dX1_depth_46 : decode cX1_depth 46 = .ok (.getfield 36, 3) := by decide +kernel
theorem dX1_depth_49 : decode cX1_depth 49 = .ok (.ifCond .le 7, 3) := by decide +kernel
theorem dX1_depth_52 : decode cX1_depth 52 = .ok (.lconst 0, 1) := by decide +kernel
theorem dX1_depth_53 : decode cX1_depth 53 = .ok (.goto 16, 3) := by decide +kernel
theorem dX1_depth_56 : decode cX1_depth 56 = .ok (.aload_n 0, 1) := by decide +kernel
theorem dX1_depth_57 : decode cX1_depth 57 = .ok (.getfield 26, 3) := by decide +kernel
theorem dX1_depth_60 : decode cX1_depth 60 = .ok (.iload_n 1, 1) := by decide +kernel
theorem dX1_depth_61 : decode cX1_depth 61 = .ok (.laload, 1) := by decide +kernel
theorem dX1_depth_62 : decode cX1_depth 62 = .ok (.aload_n 0, 1) := by decide +kernel
theorem dX1_depth_63 : decode cX1_depth 63 = .ok (.lload_n 2, 1) := by decide +kernel
theorem dX1_depth_64 : decode cX1_depth 64 = .ok (.l2i, 1) := by decide +kernel
theorem dX1_depth_65 : decode cX1_depth 65 = .ok (.invokevirtual 77, 3) := by decide +kernel
theorem dX1_depth_68 : decode cX1_depth 68 = .ok (.ladd, 1) := by decide +kernel
theorem dX1_depth_69 : decode cX1_depth 69 = .ok (.lreturn, 1) := by decide +kernel
theorem dX1_maySail_0 : decode cX1_maySail 0 = .ok (.lload_n 2, 1) := by decide +kernel
theorem dX1_maySail_1 : decode cX1_maySail 1 = .ok (.lconst 0, 1) := by decide +kernel
theorem dX1_maySail_2 : decode cX1_maySail 2 = .ok (.lcmp, 1) := by decide +kernel
theorem dX1_maySail_3 : decode cX1_maySail 3 = .ok (.ifCond .ge 7, 3) := by decide +kernel
theorem dX1_maySail_6 : decode cX1_maySail 6 = .ok (.lload_n 2, 1) := by decide +kernel
theorem dX1_maySail_7 : decode cX1_maySail 7 = .ok (.goto 12, 3) := by decide +kernel
theorem dX1_maySail_10 : decode cX1_maySail 10 = .ok (.lload_n 2, 1) := by decide +kernel
theorem dX1_maySail_11 : decode cX1_maySail 11 = .ok (.aload_n 0, 1) := by decide +kernel
theorem dX1_maySail_12 : decode cX1_maySail 12 = .ok (.lload 4, 2) := by decide +kernel
theorem dX1_maySail_14 : decode cX1_maySail 14 = .ok (.lload_n 2, 1) := by decide +kernel
theorem dX1_maySail_15 : decode cX1_maySail 15 = .ok (.invokevirtual 93, 3) := by decide +kernel
theorem dX1_maySail_18 : decode cX1_maySail 18 = .ok (.ladd, 1) := by decide +kernel
theorem dX1_maySail_19 : decode cX1_maySail 19 = .ok (.lstore 6, 2) := by decide +kernel
theorem dX1_maySail_21 : decode cX1_maySail 21 = .ok (.iconst 1, 1) := by decide +kernel
theorem dX1_maySail_22 : decode cX1_maySail 22 = .ok (.istore 8, 2) := by decide +kernel
theorem dX1_maySail_24 : decode cX1_maySail 24 = .ok (.iconst 0, 1) := by decide +kernel
theorem dX1_maySail_25 : decode cX1_maySail 25 = .ok (.istore 9, 2) := by decide +kernel
theorem dX1_maySail_27 : decode cX1_maySail 27 = .ok (.iload 9, 2) := by decide +kernel
theorem dX1_maySail_29 : decode cX1_maySail 29 = .ok (.aload_n 0, 1) := by decide +kernel
theorem dX1_maySail_30 : decode cX1_maySail 30 = .ok (.getfield 102, 3) := by decide +kernel
theorem dX1_maySail_33 : decode cX1_maySail 33 = .ok (.if_icmp .ge 85, 3) := by decide +kernel
theorem dX1_maySail_36 : decode cX1_maySail 36 = .ok (.iload 8, 2) := by decide +kernel
theorem dX1_maySail_38 : decode cX1_maySail 38 = .ok (.ifCond .eq 80, 3) := by decide +kernel
theorem dX1_maySail_41 : decode cX1_maySail 41 = .ok (.iload_n 1, 1) := by decide +kernel
theorem dX1_maySail_42 : decode cX1_maySail 42 = .ok (.i2l, 1) := by decide +kernel
theorem dX1_maySail_43 : decode cX1_maySail 43 = .ok (.ldc2_w 82, 3) := by decide +kernel
theorem dX1_maySail_46 : decode cX1_maySail 46 = .ok (.aload_n 0, 1) := by decide +kernel
theorem dX1_maySail_47 : decode cX1_maySail 47 = .ok (.getfield 23, 3) := by decide +kernel
theorem dX1_maySail_50 : decode cX1_maySail 50 = .ok (.iload 9, 2) := by decide +kernel
theorem dX1_maySail_52 : decode cX1_maySail 52 = .ok (.laload, 1) := by decide +kernel
theorem dX1_maySail_53 : decode cX1_maySail 53 = .ok (.lmul, 1) := by decide +kernel
theorem dX1_maySail_54 : decode cX1_maySail 54 = .ok (.lload 4, 2) := by decide +kernel
theorem dX1_maySail_56 : decode cX1_maySail 56 = .ok (.invokestatic 86, 3) := by decide +kernel
theorem dX1_maySail_59 : decode cX1_maySail 59 = .ok (.ladd, 1) := by decide +kernel
theorem dX1_maySail_60 : decode cX1_maySail 60 = .ok (.lstore 10, 2) := by decide +kernel
theorem dX1_maySail_62 : decode cX1_maySail 62 = .ok (.aload_n 0, 1) := by decide +kernel
theorem dX1_maySail_63 : decode cX1_maySail 63 = .ok (.lload 10, 2) := by decide +kernel
theorem dX1_maySail_65 : decode cX1_maySail 65 = .ok (.invokevirtual 74, 3) := by decide +kernel
theorem dX1_maySail_68 : decode cX1_maySail 68 = .ok (.ifCond .eq 41, 3) := by decide +kernel
theorem dX1_maySail_71 : decode cX1_maySail 71 = .ok (.aload_n 0, 1) := by decide +kernel
theorem dX1_maySail_72 : decode cX1_maySail 72 = .ok (.getfield 26, 3) := by decide +kernel
theorem dX1_maySail_75 : decode cX1_maySail 75 = .ok (.iload 9, 2) := by decide +kernel
theorem dX1_maySail_77 : decode cX1_maySail 77 = .ok (.laload, 1) := by decide +kernel
theorem dX1_maySail_78 : decode cX1_maySail 78 = .ok (.aload_n 0, 1) := by decide +kernel
theorem dX1_maySail_79 : decode cX1_maySail 79 = .ok (.aload_n 0, 1) := by decide +kernel
theorem dX1_maySail_80 : decode cX1_maySail 80 = .ok (.lload 10, 2) := by decide +kernel
theorem dX1_maySail_82 : decode cX1_maySail 82 = .ok (.invokevirtual 74, 3) := by decide +kernel
theorem dX1_maySail_85 : decode cX1_maySail 85 = .ok (.ifCond .eq 9, 3) := by decide +kernel
theorem dX1_maySail_88 : decode cX1_maySail 88 = .ok (.lload 10, 2) := by decide +kernel
theorem dX1_maySail_90 : decode cX1_maySail 90 = .ok (.l2i, 1) := by decide +kernel
theorem dX1_maySail_91 : decode cX1_maySail 91 = .ok (.goto 4, 3) := by decide +kernel
theorem dX1_maySail_94 : decode cX1_maySail 94 = .ok (.iload_n 1, 1) := by decide +kernel
theorem dX1_maySail_95 : decode cX1_maySail 95 = .ok (.invokevirtual 77, 3) := by decide +kernel
theorem dX1_maySail_98 : decode cX1_maySail 98 = .ok (.ladd, 1) := by decide +kernel
theorem dX1_maySail_99 : decode cX1_maySail 99 = .ok (.lload 6, 2) := by decide +kernel
theorem dX1_maySail_101 : decode cX1_maySail 101 = .ok (.lcmp, 1) := by decide +kernel
theorem dX1_maySail_102 : decode cX1_maySail 102 = .ok (.ifCond .lt 7, 3) := by decide +kernel
theorem dX1_maySail_105 : decode cX1_maySail 105 = .ok (.iconst 1, 1) := by decide +kernel
theorem dX1_maySail_106 : decode cX1_maySail 106 = .ok (.goto 4, 3) := by decide +kernel
theorem dX1_maySail_109 : decode cX1_maySail 109 = .ok (.iconst 0, 1) := by decide +kernel
theorem dX1_maySail_110 : decode cX1_maySail 110 = .ok (.istore 8, 2) := by decide +kernel
theorem dX1_maySail_112 : decode cX1_maySail 112 = .ok (.iinc 9 1, 3) := by decide +kernel
theorem dX1_maySail_115 : decode cX1_maySail 115 = .ok (.goto (-88), 3) := by decide +kernel
theorem dX1_maySail_118 : decode cX1_maySail 118 = .ok (.iload 8, 2) := by decide +kernel
theorem dX1_maySail_120 : decode cX1_maySail 120 = .ok (.ireturn, 1) := by decide +kernel
theorem dX1_sail_0 : decode cX1_sail 0 = .ok (.aload_n 0, 1) := by decide +kernel
theorem dX1_sail_1 : decode cX1_sail 1 = .ok (.lload 5, 2) := by decide +kernel
theorem dX1_sail_3 : decode cX1_sail 3 = .ok (.invokevirtual 74, 3) := by decide +kernel
theorem dX1_sail_6 : decode cX1_sail 6 = .ok (.ifCond .eq 36, 3) := by decide +kernel
theorem dX1_sail_9 : decode cX1_sail 9 = .ok (.lload_n 1, 1) := by decide +kernel
theorem dX1_sail_10 : decode cX1_sail 10 = .ok (.invokestatic 70, 3) := by decide +kernel
theorem dX1_sail_13 : decode cX1_sail 13 = .ok (.ifCond .eq 29, 3) := by decide +kernel
theorem dX1_sail_16 : decode cX1_sail 16 = .ok (.lload_n 3, 1) := by decide +kernel
theorem dX1_sail_17 : decode cX1_sail 17 = .ok (.lconst 0, 1) := by decide +kernel
theorem dX1_sail_18 : decode cX1_sail 18 = .ok (.ldc2_w 89, 3) := by decide +kernel
theorem dX1_sail_21 : decode cX1_sail 21 = .ok (.invokestatic 43, 3) := by decide +kernel
theorem dX1_sail_24 : decode cX1_sail 24 = .ok (.ifCond .eq 18, 3) := by decide +kernel
theorem dX1_sail_27 : decode cX1_sail 27 = .ok (.iload 7, 2) := by decide +kernel
theorem dX1_sail_29 : decode cX1_sail 29 = .ok (.ifCond .lt 13, 3) := by decide +kernel
theorem dX1_sail_32 : decode cX1_sail 32 = .ok (.iload 7, 2) := by decide +kernel
theorem dX1_sail_34 : decode cX1_sail 34 = .ok (.iconst 2, 1) := by decide +kernel
theorem dX1_sail_35 : decode cX1_sail 35 = .ok (.if_icmp .ge 7, 3) := by decide +kernel
theorem dX1_sail_38 : decode cX1_sail 38 = .ok (.iconst 1, 1) := by decide +kernel
theorem dX1_sail_39 : decode cX1_sail 39 = .ok (.goto 4, 3) := by decide +kernel
theorem dX1_sail_42 : decode cX1_sail 42 = .ok (.iconst 0, 1) := by decide +kernel
theorem dX1_sail_43 : decode cX1_sail 43 = .ok (.istore 8, 2) := by decide +kernel
theorem dX1_sail_45 : decode cX1_sail 45 = .ok (.aload_n 0, 1) := by decide +kernel
theorem dX1_sail_46 : decode cX1_sail 46 = .ok (.iload 8, 2) := by decide +kernel
theorem dX1_sail_48 : decode cX1_sail 48 = .ok (.ifCond .ne 7, 3) := by decide +kernel
theorem dX1_sail_51 : decode cX1_sail 51 = .ok (.iconst 1, 1) := by decide +kernel
theorem dX1_sail_52 : decode cX1_sail 52 = .ok (.goto 25, 3) := by decide +kernel
theorem dX1_sail_55 : decode cX1_sail 55 = .ok (.aload_n 0, 1) := by decide +kernel
theorem dX1_sail_56 : decode cX1_sail 56 = .ok (.getfield 102, 3) := by decide +kernel
theorem dX1_sail_59 : decode cX1_sail 59 = .ok (.ifCond .ne 7, 3) := by decide +kernel
theorem dX1_sail_62 : decode cX1_sail 62 = .ok (.iconst 2, 1) := by decide +kernel
theorem dX1_sail_63 : decode cX1_sail 63 = .ok (.goto 14, 3) := by decide +kernel
theorem dX1_sail_66 : decode cX1_sail 66 = .ok (.lload_n 3, 1) := by decide +kernel
theorem dX1_sail_67 : decode cX1_sail 67 = .ok (.lconst 0, 1) := by decide +kernel
theorem dX1_sail_68 : decode cX1_sail 68 = .ok (.lcmp, 1) := by decide +kernel
theorem dX1_sail_69 : decode cX1_sail 69 = .ok (.ifCond .ne 7, 3) := by decide +kernel
theorem dX1_sail_72 : decode cX1_sail 72 = .ok (.iconst 3, 1) := by decide +kernel
theorem dX1_sail_73 : decode cX1_sail 73 = .ok (.goto 4, 3) := by decide +kernel
theorem dX1_sail_76 : decode cX1_sail 76 = .ok (.iconst 0, 1) := by decide +kernel
theorem dX1_sail_77 : decode cX1_sail 77 = .ok (.putfield 36, 3) := by decide +kernel
theorem dX1_sail_80 : decode cX1_sail 80 = .ok (.aload_n 0, 1) := by decide +kernel
theorem dX1_sail_81 : decode cX1_sail 81 = .ok (.getfield 36, 3) := by decide +kernel
theorem dX1_sail_84 : decode cX1_sail 84 = .ok (.ifCond .le 5, 3) := by decide +kernel
theorem dX1_sail_87 : decode cX1_sail 87 = .ok (.iconst 0, 1) := by decide +kernel
theorem dX1_sail_88 : decode cX1_sail 88 = .ok (.ireturn, 1) := by decide +kernel
theorem dX1_sail_89 : decode cX1_sail 89 = .ok (.lload 5, 2) := by decide +kernel
theorem dX1_sail_91 : decode cX1_sail 91 = .ok (.l2i, 1) := by decide +kernel
theorem dX1_sail_92 : decode cX1_sail 92 = .ok (.istore 9, 2) := by decide +kernel
theorem dX1_sail_94 : decode cX1_sail 94 = .ok (.aload_n 0, 1) := by decide +kernel
theorem dX1_sail_95 : decode cX1_sail 95 = .ok (.getfield 7, 3) := by decide +kernel
theorem dX1_sail_98 : decode cX1_sail 98 = .ok (.aload_n 0, 1) := by decide +kernel
theorem dX1_sail_99 : decode cX1_sail 99 = .ok (.getfield 40, 3) := by decide +kernel
theorem dX1_sail_102 : decode cX1_sail 102 = .ok (.iconst 1, 1) := by decide +kernel
theorem dX1_sail_103 : decode cX1_sail 103 = .ok (.isub, 1) := by decide +kernel
theorem dX1_sail_104 : decode cX1_sail 104 = .ok (.iaload, 1) := by decide +kernel
theorem dX1_sail_105 : decode cX1_sail 105 = .ok (.istore 10, 2) := by decide +kernel
theorem dX1_sail_107 : decode cX1_sail 107 = .ok (.iload 9, 2) := by decide +kernel
theorem dX1_sail_109 : decode cX1_sail 109 = .ok (.iload 10, 2) := by decide +kernel
theorem dX1_sail_111 : decode cX1_sail 111 = .ok (.if_icmp .gt 20, 3) := by decide +kernel
theorem dX1_sail_114 : decode cX1_sail 114 = .ok (.aload_n 0, 1) := by decide +kernel
theorem dX1_sail_115 : decode cX1_sail 115 = .ok (.iload 9, 2) := by decide +kernel
theorem dX1_sail_117 : decode cX1_sail 117 = .ok (.lload_n 1, 1) := by decide +kernel
theorem dX1_sail_118 : decode cX1_sail 118 = .ok (.lload_n 3, 1) := by decide +kernel
theorem dX1_sail_119 : decode cX1_sail 119 = .ok (.invokevirtual 105, 3) := by decide +kernel
theorem dX1_sail_122 : decode cX1_sail 122 = .ok (.ifCond .ne 9, 3) := by decide +kernel
theorem dX1_sail_125 : decode cX1_sail 125 = .ok (.iinc 9 1, 3) := by decide +kernel
theorem dX1_sail_128 : decode cX1_sail 128 = .ok (.goto (-21), 3) := by decide +kernel
theorem dX1_sail_131 : decode cX1_sail 131 = .ok (.iload 9, 2) := by decide +kernel
theorem dX1_sail_133 : decode cX1_sail 133 = .ok (.iload 10, 2) := by decide +kernel
theorem dX1_sail_135 : decode cX1_sail 135 = .ok (.if_icmp .le 5, 3) := by decide +kernel
theorem dX1_sail_138 : decode cX1_sail 138 = .ok (.iconst (-1), 1) := by decide +kernel
theorem dX1_sail_139 : decode cX1_sail 139 = .ok (.ireturn, 1) := by decide +kernel
theorem dX1_sail_140 : decode cX1_sail 140 = .ok (.iload 7, 2) := by decide +kernel
theorem dX1_sail_142 : decode cX1_sail 142 = .ok (.ifCond .ne 6, 3) := by decide +kernel
theorem dX1_sail_145 : decode cX1_sail 145 = .ok (.iload 9, 2) := by decide +kernel
theorem dX1_sail_147 : decode cX1_sail 147 = .ok (.ireturn, 1) := by decide +kernel
theorem dX1_sail_148 : decode cX1_sail 148 = .ok (.iload 9, 2) := by decide +kernel
theorem dX1_sail_150 : decode cX1_sail 150 = .ok (.iload 10, 2) := by decide +kernel
theorem dX1_sail_152 : decode cX1_sail 152 = .ok (.if_icmp .ge 22, 3) := by decide +kernel
theorem dX1_sail_155 : decode cX1_sail 155 = .ok (.aload_n 0, 1) := by decide +kernel
theorem dX1_sail_156 : decode cX1_sail 156 = .ok (.iload 9, 2) := by decide +kernel
theorem dX1_sail_158 : decode cX1_sail 158 = .ok (.iconst 1, 1) := by decide +kernel
theorem dX1_sail_159 : decode cX1_sail 159 = .ok (.iadd, 1) := by decide +kernel
theorem dX1_sail_160 : decode cX1_sail 160 = .ok (.lload_n 1, 1) := by decide +kernel
theorem dX1_sail_161 : decode cX1_sail 161 = .ok (.lload_n 3, 1) := by decide +kernel
theorem dX1_sail_162 : decode cX1_sail 162 = .ok (.invokevirtual 105, 3) := by decide +kernel
theorem dX1_sail_165 : decode cX1_sail 165 = .ok (.ifCond .eq 9, 3) := by decide +kernel
theorem dX1_sail_168 : decode cX1_sail 168 = .ok (.iinc 9 1, 3) := by decide +kernel
theorem dX1_sail_171 : decode cX1_sail 171 = .ok (.goto (-23), 3) := by decide +kernel
theorem dX1_sail_174 : decode cX1_sail 174 = .ok (.iload 9, 2) := by decide +kernel
theorem dX1_sail_176 : decode cX1_sail 176 = .ok (.ireturn, 1) := by decide +kernel
theorem dX1_read_0 : decode cX1_read 0 = .ok (.iload_n 1, 1) := by decide +kernel
theorem dX1_read_1 : decode cX1_read 1 = .ok (.ifCond .lt 24, 3) := by decide +kernel
theorem dX1_read_4 : decode cX1_read 4 = .ok (.iload_n 1, 1) := by decide +kernel
theorem dX1_read_5 : decode cX1_read 5 = .ok (.aload_n 0, 1) := by decide +kernel
theorem dX1_read_6 : decode cX1_read 6 = .ok (.getfield 40, 3) := by decide +kernel
theorem dX1_read_9 : decode cX1_read 9 = .ok (.if_icmp .ge 16, 3) := by decide +kernel
theorem dX1_read_12 : decode cX1_read 12 = .ok (.iload_n 2, 1) := by decide +kernel
theorem dX1_read_13 : decode cX1_read 13 = .ok (.ifCond .eq 8, 3) := by decide +kernel
theorem dX1_read_16 : decode cX1_read 16 = .ok (.iload_n 2, 1) := by decide +kernel
theorem dX1_read_17 : decode cX1_read 17 = .ok (.iconst 1, 1) := by decide +kernel
theorem dX1_read_18 : decode cX1_read 18 = .ok (.if_icmp .ne 7, 3) := by decide +kernel
theorem dX1_read_21 : decode cX1_read 21 = .ok (.iconst 1, 1) := by decide +kernel
theorem dX1_read_22 : decode cX1_read 22 = .ok (.goto 4, 3) := by decide +kernel
theorem dX1_read_25 : decode cX1_read 25 = .ok (.iconst 0, 1) := by decide +kernel
theorem dX1_read_26 : decode cX1_read 26 = .ok (.istore_n 3, 1) := by decide +kernel
theorem dX1_read_27 : decode cX1_read 27 = .ok (.iload_n 1, 1) := by decide +kernel
theorem dX1_read_28 : decode cX1_read 28 = .ok (.bipush 100, 2) := by decide +kernel
theorem dX1_read_30 : decode cX1_read 30 = .ok (.if_icmp .lt 28, 3) := by decide +kernel
theorem dX1_read_33 : decode cX1_read 33 = .ok (.iload_n 1, 1) := by decide +kernel
theorem dX1_read_34 : decode cX1_read 34 = .ok (.bipush 100, 2) := by decide +kernel
theorem dX1_read_36 : decode cX1_read 36 = .ok (.isub, 1) := by decide +kernel
theorem dX1_read_37 : decode cX1_read 37 = .ok (.aload_n 0, 1) := by decide +kernel
theorem dX1_read_38 : decode cX1_read 38 = .ok (.getfield 59, 3) := by decide +kernel
theorem dX1_read_41 : decode cX1_read 41 = .ok (.if_icmp .ge 17, 3) := by decide +kernel
theorem dX1_read_44 : decode cX1_read 44 = .ok (.iload_n 2, 1) := by decide +kernel
theorem dX1_read_45 : decode cX1_read 45 = .ok (.iconst 2, 1) := by decide +kernel
theorem dX1_read_46 : decode cX1_read 46 = .ok (.if_icmp .eq 8, 3) := by decide +kernel
theorem dX1_read_49 : decode cX1_read 49 = .ok (.iload_n 2, 1) := by decide +kernel
theorem dX1_read_50 : decode cX1_read 50 = .ok (.iconst 3, 1) := by decide +kernel
theorem dX1_read_51 : decode cX1_read 51 = .ok (.if_icmp .ne 7, 3) := by decide +kernel
theorem dX1_read_54 : decode cX1_read 54 = .ok (.iconst 1, 1) := by decide +kernel
theorem dX1_read_55 : decode cX1_read 55 = .ok (.goto 4, 3) := by decide +kernel
theorem dX1_read_58 : decode cX1_read 58 = .ok (.iconst 0, 1) := by decide +kernel
theorem dX1_read_59 : decode cX1_read 59 = .ok (.istore 4, 2) := by decide +kernel
theorem dX1_read_61 : decode cX1_read 61 = .ok (.aload_n 0, 1) := by decide +kernel
theorem dX1_read_62 : decode cX1_read 62 = .ok (.iload_n 3, 1) := by decide +kernel
theorem dX1_read_63 : decode cX1_read 63 = .ok (.ifCond .ne 8, 3) := by decide +kernel
theorem dX1_read_66 : decode cX1_read 66 = .ok (.iload 4, 2) := by decide +kernel
theorem dX1_read_68 : decode cX1_read 68 = .ok (.ifCond .eq 7, 3) := by decide +kernel
theorem dX1_read_71 : decode cX1_read 71 = .ok (.iconst 0, 1) := by decide +kernel
theorem dX1_read_72 : decode cX1_read 72 = .ok (.goto 4, 3) := by decide +kernel
theorem dX1_read_75 : decode cX1_read 75 = .ok (.iconst 1, 1) := by decide +kernel
theorem dX1_read_76 : decode cX1_read 76 = .ok (.putfield 36, 3) := by decide +kernel
theorem dX1_read_79 : decode cX1_read 79 = .ok (.aload_n 0, 1) := by decide +kernel
theorem dX1_read_80 : decode cX1_read 80 = .ok (.getfield 36, 3) := by decide +kernel
theorem dX1_read_83 : decode cX1_read 83 = .ok (.ifCond .le 5, 3) := by decide +kernel
theorem dX1_read_86 : decode cX1_read 86 = .ok (.lconst 0, 1) := by decide +kernel
theorem dX1_read_87 : decode cX1_read 87 = .ok (.lreturn, 1) := by decide +kernel
theorem dX1_read_88 : decode cX1_read 88 = .ok (.iload_n 2, 1) := by decide +kernel
theorem dX1_read_89 : decode cX1_read 89 = .ok (.ifCond .ne 13, 3) := by decide +kernel
theorem dX1_read_92 : decode cX1_read 92 = .ok (.aload_n 0, 1) := by decide +kernel
theorem dX1_read_93 : decode cX1_read 93 = .ok (.getfield 7, 3) := by decide +kernel
theorem dX1_read_96 : decode cX1_read 96 = .ok (.iload_n 1, 1) := by decide +kernel
theorem dX1_read_97 : decode cX1_read 97 = .ok (.iaload, 1) := by decide +kernel
theorem dX1_read_98 : decode cX1_read 98 = .ok (.i2l, 1) := by decide +kernel
theorem dX1_read_99 : decode cX1_read 99 = .ok (.goto 45, 3) := by decide +kernel
theorem dX1_read_102 : decode cX1_read 102 = .ok (.iload_n 2, 1) := by decide +kernel
theorem dX1_read_103 : decode cX1_read 103 = .ok (.iconst 1, 1) := by decide +kernel
theorem dX1_read_104 : decode cX1_read 104 = .ok (.if_icmp .ne 13, 3) := by decide +kernel
theorem dX1_read_107 : decode cX1_read 107 = .ok (.aload_n 0, 1) := by decide +kernel
theorem dX1_read_108 : decode cX1_read 108 = .ok (.getfield 13, 3) := by decide +kernel
theorem dX1_read_111 : decode cX1_read 111 = .ok (.iload_n 1, 1) := by decide +kernel
theorem dX1_read_112 : decode cX1_read 112 = .ok (.iaload, 1) := by decide +kernel
theorem dX1_read_113 : decode cX1_read 113 = .ok (.i2l, 1) := by decide +kernel
theorem dX1_read_114 : decode cX1_read 114 = .ok (.goto 30, 3) := by decide +kernel
theorem dX1_read_117 : decode cX1_read 117 = .ok (.iload_n 2, 1) := by decide +kernel
theorem dX1_read_118 : decode cX1_read 118 = .ok (.iconst 2, 1) := by decide +kernel
theorem dX1_read_119 : decode cX1_read 119 = .ok (.if_icmp .ne 16, 3) := by decide +kernel
theorem dX1_read_122 : decode cX1_read 122 = .ok (.aload_n 0, 1) := by decide +kernel
theorem dX1_read_123 : decode cX1_read 123 = .ok (.getfield 16, 3) := by decide +kernel
theorem dX1_read_126 : decode cX1_read 126 = .ok (.iload_n 1, 1) := by decide +kernel
theorem dX1_read_127 : decode cX1_read 127 = .ok (.bipush 100, 2) := by decide +kernel
theorem dX1_read_129 : decode cX1_read 129 = .ok (.isub, 1) := by decide +kernel
theorem dX1_read_130 : decode cX1_read 130 = .ok (.iaload, 1) := by decide +kernel
theorem dX1_read_131 : decode cX1_read 131 = .ok (.i2l, 1) := by decide +kernel
theorem dX1_read_132 : decode cX1_read 132 = .ok (.goto 12, 3) := by decide +kernel
theorem dX1_read_135 : decode cX1_read 135 = .ok (.aload_n 0, 1) := by decide +kernel
theorem dX1_read_136 : decode cX1_read 136 = .ok (.getfield 19, 3) := by decide +kernel
theorem dX1_read_139 : decode cX1_read 139 = .ok (.iload_n 1, 1) := by decide +kernel
theorem dX1_read_140 : decode cX1_read 140 = .ok (.bipush 100, 2) := by decide +kernel
theorem dX1_read_142 : decode cX1_read 142 = .ok (.isub, 1) := by decide +kernel
theorem dX1_read_143 : decode cX1_read 143 = .ok (.laload, 1) := by decide +kernel
theorem dX1_read_144 : decode cX1_read 144 = .ok (.lreturn, 1) := by decide +kernel
theorem dX1_count_0 : decode cX1_count 0 = .ok (.aload_n 0, 1) := by decide +kernel
theorem dX1_count_1 : decode cX1_count 1 = .ok (.iconst 0, 1) := by decide +kernel
theorem dX1_count_2 : decode cX1_count 2 = .ok (.putfield 36, 3) := by decide +kernel
theorem dX1_count_5 : decode cX1_count 5 = .ok (.iload_n 1, 1) := by decide +kernel
theorem dX1_count_6 : decode cX1_count 6 = .ok (.tableswitch 92 0 4 #[34, 39, 44, 49, 68], 34) := by decide +kernel
theorem dX1_count_40 : decode cX1_count 40 = .ok (.aload_n 0, 1) := by decide +kernel
theorem dX1_count_41 : decode cX1_count 41 = .ok (.getfield 40, 3) := by decide +kernel
theorem dX1_count_44 : decode cX1_count 44 = .ok (.ireturn, 1) := by decide +kernel
theorem dX1_count_45 : decode cX1_count 45 = .ok (.aload_n 0, 1) := by decide +kernel
theorem dX1_count_46 : decode cX1_count 46 = .ok (.getfield 59, 3) := by decide +kernel
theorem dX1_count_49 : decode cX1_count 49 = .ok (.ireturn, 1) := by decide +kernel
theorem dX1_count_50 : decode cX1_count 50 = .ok (.aload_n 0, 1) := by decide +kernel
theorem dX1_count_51 : decode cX1_count 51 = .ok (.getfield 102, 3) := by decide +kernel
theorem dX1_count_54 : decode cX1_count 54 = .ok (.ireturn, 1) := by decide +kernel
theorem dX1_count_55 : decode cX1_count 55 = .ok (.aload_n 0, 1) := by decide +kernel
theorem dX1_count_56 : decode cX1_count 56 = .ok (.getfield 40, 3) := by decide +kernel
theorem dX1_count_59 : decode cX1_count 59 = .ok (.iconst 1, 1) := by decide +kernel
theorem dX1_count_60 : decode cX1_count 60 = .ok (.if_icmp .le 12, 3) := by decide +kernel
theorem dX1_count_63 : decode cX1_count 63 = .ok (.aload_n 0, 1) := by decide +kernel
theorem dX1_count_64 : decode cX1_count 64 = .ok (.getfield 7, 3) := by decide +kernel
theorem dX1_count_67 : decode cX1_count 67 = .ok (.iconst 0, 1) := by decide +kernel
theorem dX1_count_68 : decode cX1_count 68 = .ok (.iaload, 1) := by decide +kernel
theorem dX1_count_69 : decode cX1_count 69 = .ok (.goto 4, 3) := by decide +kernel
theorem dX1_count_72 : decode cX1_count 72 = .ok (.iconst (-1), 1) := by decide +kernel
theorem dX1_count_73 : decode cX1_count 73 = .ok (.ireturn, 1) := by decide +kernel
theorem dX1_count_74 : decode cX1_count 74 = .ok (.aload_n 0, 1) := by decide +kernel
theorem dX1_count_75 : decode cX1_count 75 = .ok (.getfield 40, 3) := by decide +kernel
theorem dX1_count_78 : decode cX1_count 78 = .ok (.iconst 1, 1) := by decide +kernel
theorem dX1_count_79 : decode cX1_count 79 = .ok (.if_icmp .le 17, 3) := by decide +kernel
theorem dX1_count_82 : decode cX1_count 82 = .ok (.aload_n 0, 1) := by decide +kernel
theorem dX1_count_83 : decode cX1_count 83 = .ok (.getfield 7, 3) := by decide +kernel
theorem dX1_count_86 : decode cX1_count 86 = .ok (.aload_n 0, 1) := by decide +kernel
theorem dX1_count_87 : decode cX1_count 87 = .ok (.getfield 40, 3) := by decide +kernel
theorem dX1_count_90 : decode cX1_count 90 = .ok (.iconst 1, 1) := by decide +kernel
theorem dX1_count_91 : decode cX1_count 91 = .ok (.isub, 1) := by decide +kernel
theorem dX1_count_92 : decode cX1_count 92 = .ok (.iaload, 1) := by decide +kernel
theorem dX1_count_93 : decode cX1_count 93 = .ok (.goto 4, 3) := by decide +kernel
theorem dX1_count_96 : decode cX1_count 96 = .ok (.iconst (-1), 1) := by decide +kernel
theorem dX1_count_97 : decode cX1_count 97 = .ok (.ireturn, 1) := by decide +kernel
theorem dX1_count_98 : decode cX1_count 98 = .ok (.iconst (-1), 1) := by decide +kernel
theorem dX1_count_99 : decode cX1_count 99 = .ok (.ireturn, 1) := by decide +kernel
end
section
theorem dJx00060_init_a7421_0 : decode cJx00060_init_a7421 0 = .ok (.aload_n 0, 1) := by decide +kernel
theorem dJx00060_init_a7421_1 : decode cJx00060_init_a7421 1 = .ok (.aload_n 1, 1) := by decide +kernel
theorem dJx00060_init_a7421_2 : decode cJx00060_init_a7421 2 = .ok (.invokespecial 7, 3) := by decide +kernel
theorem dJx00060_init_a7421_5 : decode cJx00060_init_a7421 5 = .ok (.return_, 1) := by decide +kernel
theorem dL_turn_0 : decode cL_turn 0 = .ok (.aload 5, 2) := by decide +kernel
theorem dL_turn_2 : decode cL_turn 2 = .ok (.iconst 0, 1) := by decide +kernel
theorem dL_turn_3 : decode cL_turn 3 = .ok (.aload_n 0, 1) := by decide +kernel
theorem dL_turn_4 : decode cL_turn 4 = .ok (.lload_n 1, 1) := by decide +kernel
theorem dL_turn_5 : decode cL_turn 5 = .ok (.lload_n 3, 1) := by decide +kernel
theorem dL_turn_6 : decode cL_turn 6 = .ok (.invokevirtual 7, 3) := by decide +kernel
theorem dL_turn_9 : decode cL_turn 9 = .ok (.i2l, 1) := by decide +kernel
theorem dL_turn_10 : decode cL_turn 10 = .ok (.lastore, 1) := by decide +kernel
theorem dL_turn_11 : decode cL_turn 11 = .ok (.goto 11, 3) := by decide +kernel
theorem dL_turn_14 : decode cL_turn 14 = .ok (.astore 6, 2) := by decide +kernel
theorem dL_turn_16 : decode cL_turn 16 = .ok (.iconst 1, 1) := by decide +kernel
theorem dL_turn_17 : decode cL_turn 17 = .ok (.ireturn, 1) := by decide +kernel
theorem dL_turn_18 : decode cL_turn 18 = .ok (.astore 6, 2) := by decide +kernel
theorem dL_turn_20 : decode cL_turn 20 = .ok (.iconst 2, 1) := by decide +kernel
theorem dL_turn_21 : decode cL_turn 21 = .ok (.ireturn, 1) := by decide +kernel
theorem dL_turn_22 : decode cL_turn 22 = .ok (.iconst 0, 1) := by decide +kernel
theorem dL_turn_23 : decode cL_turn 23 = .ok (.ireturn, 1) := by decide +kernel
theorem dL_height_0 : decode cL_height 0 = .ok (.aload_n 3, 1) := by decide +kernel
theorem dL_height_1 : decode cL_height 1 = .ok (.iconst 0, 1) := by decide +kernel
theorem dL_height_2 : decode cL_height 2 = .ok (.aload_n 0, 1) := by decide +kernel
theorem dL_height_3 : decode cL_height 3 = .ok (.lload_n 1, 1) := by decide +kernel
theorem dL_height_4 : decode cL_height 4 = .ok (.invokevirtual 17, 3) := by decide +kernel
theorem dL_height_7 : decode cL_height 7 = .ok (.lastore, 1) := by decide +kernel
theorem dL_height_8 : decode cL_height 8 = .ok (.goto 7, 3) := by decide +kernel
theorem dL_height_11 : decode cL_height 11 = .ok (.astore 4, 2) := by decide +kernel
theorem dL_height_13 : decode cL_height 13 = .ok (.iconst 1, 1) := by decide +kernel
theorem dL_height_14 : decode cL_height 14 = .ok (.ireturn, 1) := by decide +kernel
theorem dL_height_15 : decode cL_height 15 = .ok (.iconst 0, 1) := by decide +kernel
theorem dL_height_16 : decode cL_height 16 = .ok (.ireturn, 1) := by decide +kernel
theorem dL_observe_0 : decode cL_observe 0 = .ok (.aload 5, 2) := by decide +kernel
theorem dL_observe_2 : decode cL_observe 2 = .ok (.iconst 0, 1) := by decide +kernel
theorem dL_observe_3 : decode cL_observe 3 = .ok (.aload_n 0, 1) := by decide +kernel
theorem dL_observe_4 : decode cL_observe 4 = .ok (.lload_n 1, 1) := by decide +kernel
theorem dL_observe_5 : decode cL_observe 5 = .ok (.lload_n 3, 1) := by decide +kernel
theorem dL_observe_6 : decode cL_observe 6 = .ok (.invokevirtual 21, 3) := by decide +kernel
theorem dL_observe_9 : decode cL_observe 9 = .ok (.i2l, 1) := by decide +kernel
theorem dL_observe_10 : decode cL_observe 10 = .ok (.lastore, 1) := by decide +kernel
theorem dL_observe_11 : decode cL_observe 11 = .ok (.goto 11, 3) := by decide +kernel
theorem dL_observe_14 : decode cL_observe 14 = .ok (.astore 6, 2) := by decide +kernel
theorem dL_observe_16 : decode cL_observe 16 = .ok (.iconst 1, 1) := by decide +kernel
theorem dL_observe_17 : decode cL_observe 17 = .ok (.ireturn, 1) := by decide +kernel
theorem dL_observe_18 : decode cL_observe 18 = .ok (.astore 6, 2) := by decide +kernel
theorem dL_observe_20 : decode cL_observe 20 = .ok (.iconst 2, 1) := by decide +kernel
theorem dL_observe_21 : decode cL_observe 21 = .ok (.ireturn, 1) := by decide +kernel
theorem dL_observe_22 : decode cL_observe 22 = .ok (.iconst 0, 1) := by decide +kernel
theorem dL_observe_23 : decode cL_observe 23 = .ok (.ireturn, 1) := by decide +kernel
theorem dL_span_0 : decode cL_span 0 = .ok (.aload 8, 2) := by decide +kernel
theorem dL_span_2 : decode cL_span 2 = .ok (.iconst 0, 1) := by decide +kernel
theorem dL_span_3 : decode cL_span 3 = .ok (.aload_n 0, 1) := by decide +kernel
theorem dL_span_4 : decode cL_span 4 = .ok (.lload_n 1, 1) := by decide +kernel
theorem dL_span_5 : decode cL_span 5 = .ok (.lload_n 3, 1) := by decide +kernel
theorem dL_span_6 : decode cL_span 6 = .ok (.lload 5, 2) := by decide +kernel
theorem dL_span_8 : decode cL_span 8 = .ok (.iload 7, 2) := by decide +kernel
theorem dL_span_10 : decode cL_span 10 = .ok (.invokevirtual 24, 3) := by decide +kernel
theorem dL_span_13 : decode cL_span 13 = .ok (.i2l, 1) := by decide +kernel
theorem dL_span_14 : decode cL_span 14 = .ok (.lastore, 1) := by decide +kernel
theorem dL_span_15 : decode cL_span 15 = .ok (.goto 7, 3) := by decide +kernel
theorem dL_span_18 : decode cL_span 18 = .ok (.astore 9, 2) := by decide +kernel
theorem dL_span_20 : decode cL_span 20 = .ok (.iconst 1, 1) := by decide +kernel
theorem dL_span_21 : decode cL_span 21 = .ok (.ireturn, 1) := by decide +kernel
theorem dL_span_22 : decode cL_span 22 = .ok (.iconst 0, 1) := by decide +kernel
theorem dL_span_23 : decode cL_span 23 = .ok (.ireturn, 1) := by decide +kernel
theorem dL_squat_0 : decode cL_squat 0 = .ok (.aload 5, 2) := by decide +kernel
theorem dL_squat_2 : decode cL_squat 2 = .ok (.iconst 0, 1) := by decide +kernel
theorem dL_squat_3 : decode cL_squat 3 = .ok (.aload_n 0, 1) := by decide +kernel
theorem dL_squat_4 : decode cL_squat 4 = .ok (.lload_n 1, 1) := by decide +kernel
theorem dL_squat_5 : decode cL_squat 5 = .ok (.lload_n 3, 1) := by decide +kernel
theorem dL_squat_6 : decode cL_squat 6 = .ok (.invokevirtual 28, 3) := by decide +kernel
theorem dL_squat_9 : decode cL_squat 9 = .ok (.lastore, 1) := by decide +kernel
theorem dL_squat_10 : decode cL_squat 10 = .ok (.goto 7, 3) := by decide +kernel
theorem dL_squat_13 : decode cL_squat 13 = .ok (.astore 6, 2) := by decide +kernel
theorem dL_squat_15 : decode cL_squat 15 = .ok (.iconst 1, 1) := by decide +kernel
theorem dL_squat_16 : decode cL_squat 16 = .ok (.ireturn, 1) := by decide +kernel
theorem dL_squat_17 : decode cL_squat 17 = .ok (.iconst 0, 1) := by decide +kernel
theorem dL_squat_18 : decode cL_squat 18 = .ok (.ireturn, 1) := by decide +kernel
theorem dL_passing_0 : decode cL_passing 0 = .ok (.aload 5, 2) := by decide +kernel
theorem dL_passing_2 : decode cL_passing 2 = .ok (.iconst 0, 1) := by decide +kernel
theorem dL_passing_3 : decode cL_passing 3 = .ok (.aload_n 0, 1) := by decide +kernel
theorem dL_passing_4 : decode cL_passing 4 = .ok (.lload_n 1, 1) := by decide +kernel
theorem dL_passing_5 : decode cL_passing 5 = .ok (.lload_n 3, 1) := by decide +kernel
theorem dL_passing_6 : decode cL_passing 6 = .ok (.invokevirtual 32, 3) := by decide +kernel
theorem dL_passing_9 : decode cL_passing 9 = .ok (.lastore, 1) := by decide +kernel
theorem dL_passing_10 : decode cL_passing 10 = .ok (.goto 11, 3) := by decide +kernel
theorem dL_passing_13 : decode cL_passing 13 = .ok (.astore 6, 2) := by decide +kernel
theorem dL_passing_15 : decode cL_passing 15 = .ok (.iconst 1, 1) := by decide +kernel
theorem dL_passing_16 : decode cL_passing 16 = .ok (.ireturn, 1) := by decide +kernel
theorem dL_passing_17 : decode cL_passing 17 = .ok (.astore 6, 2) := by decide +kernel
theorem dL_passing_19 : decode cL_passing 19 = .ok (.iconst 2, 1) := by decide +kernel
theorem dL_passing_20 : decode cL_passing 20 = .ok (.ireturn, 1) := by decide +kernel
theorem dL_passing_21 : decode cL_passing 21 = .ok (.iconst 0, 1) := by decide +kernel
theorem dL_passing_22 : decode cL_passing 22 = .ok (.ireturn, 1) := by decide +kernel
theorem dL_cosine_0 : decode cL_cosine 0 = .ok (.aload_n 2, 1) := by decide +kernel
theorem dL_cosine_1 : decode cL_cosine 1 = .ok (.iconst 0, 1) := by decide +kernel
theorem dL_cosine_2 : decode cL_cosine 2 = .ok (.aload_n 0, 1) := by decide +kernel
theorem dL_cosine_3 : decode cL_cosine 3 = .ok (.iload_n 1, 1) := by decide +kernel
theorem dL_cosine_4 : decode cL_cosine 4 = .ok (.invokevirtual 37, 3) := by decide +kernel
theorem dL_cosine_7 : decode cL_cosine 7 = .ok (.i2l, 1) := by decide +kernel
theorem dL_cosine_8 : decode cL_cosine 8 = .ok (.lastore, 1) := by decide +kernel
theorem dL_cosine_9 : decode cL_cosine 9 = .ok (.goto 6, 3) := by decide +kernel
theorem dL_cosine_12 : decode cL_cosine 12 = .ok (.astore_n 3, 1) := by decide +kernel
theorem dL_cosine_13 : decode cL_cosine 13 = .ok (.iconst 1, 1) := by decide +kernel
theorem dL_cosine_14 : decode cL_cosine 14 = .ok (.ireturn, 1) := by decide +kernel
theorem dL_cosine_15 : decode cL_cosine 15 = .ok (.iconst 0, 1) := by decide +kernel
theorem dL_cosine_16 : decode cL_cosine 16 = .ok (.ireturn, 1) := by decide +kernel
theorem dL_draft_0 : decode cL_draft 0 = .ok (.aload 7, 2) := by decide +kernel
theorem dL_draft_2 : decode cL_draft 2 = .ok (.iconst 0, 1) := by decide +kernel
theorem dL_draft_3 : decode cL_draft 3 = .ok (.aload_n 0, 1) := by decide +kernel
theorem dL_draft_4 : decode cL_draft 4 = .ok (.lload_n 1, 1) := by decide +kernel
theorem dL_draft_5 : decode cL_draft 5 = .ok (.lload_n 3, 1) := by decide +kernel
theorem dL_draft_6 : decode cL_draft 6 = .ok (.lload 5, 2) := by decide +kernel
theorem dL_draft_8 : decode cL_draft 8 = .ok (.invokevirtual 43, 3) := by decide +kernel
theorem dL_draft_11 : decode cL_draft 11 = .ok (.lastore, 1) := by decide +kernel
theorem dL_draft_12 : decode cL_draft 12 = .ok (.goto 7, 3) := by decide +kernel
theorem dL_draft_15 : decode cL_draft 15 = .ok (.astore 8, 2) := by decide +kernel
theorem dL_draft_17 : decode cL_draft 17 = .ok (.iconst 1, 1) := by decide +kernel
theorem dL_draft_18 : decode cL_draft 18 = .ok (.ireturn, 1) := by decide +kernel
theorem dL_draft_19 : decode cL_draft 19 = .ok (.iconst 0, 1) := by decide +kernel
theorem dL_draft_20 : decode cL_draft 20 = .ok (.ireturn, 1) := by decide +kernel
theorem dL_place_0 : decode cL_place 0 = .ok (.aload 5, 2) := by decide +kernel
theorem dL_place_2 : decode cL_place 2 = .ok (.iconst 0, 1) := by decide +kernel
theorem dL_place_3 : decode cL_place 3 = .ok (.aload_n 0, 1) := by decide +kernel
theorem dL_place_4 : decode cL_place 4 = .ok (.lload_n 1, 1) := by decide +kernel
theorem dL_place_5 : decode cL_place 5 = .ok (.lload_n 3, 1) := by decide +kernel
theorem dL_place_6 : decode cL_place 6 = .ok (.invokevirtual 47, 3) := by decide +kernel
theorem dL_place_9 : decode cL_place 9 = .ok (.i2l, 1) := by decide +kernel
theorem dL_place_10 : decode cL_place 10 = .ok (.lastore, 1) := by decide +kernel
theorem dL_place_11 : decode cL_place 11 = .ok (.goto 11, 3) := by decide +kernel
theorem dL_place_14 : decode cL_place 14 = .ok (.astore 6, 2) := by decide +kernel
theorem dL_place_16 : decode cL_place 16 = .ok (.iconst 1, 1) := by decide +kernel
theorem dL_place_17 : decode cL_place 17 = .ok (.ireturn, 1) := by decide +kernel
theorem dL_place_18 : decode cL_place 18 = .ok (.astore 6, 2) := by decide +kernel
theorem dL_place_20 : decode cL_place 20 = .ok (.iconst 2, 1) := by decide +kernel
theorem dL_place_21 : decode cL_place 21 = .ok (.ireturn, 1) := by decide +kernel
theorem dL_place_22 : decode cL_place 22 = .ok (.iconst 0, 1) := by decide +kernel
theorem dL_place_23 : decode cL_place 23 = .ok (.ireturn, 1) := by decide +kernel
theorem dL_depth_0 : decode cL_depth 0 = .ok (.aload 4, 2) := by decide +kernel
theorem dL_depth_2 : decode cL_depth 2 = .ok (.iconst 0, 1) := by decide +kernel
theorem dL_depth_3 : decode cL_depth 3 = .ok (.aload_n 0, 1) := by decide +kernel
theorem dL_depth_4 : decode cL_depth 4 = .ok (.iload_n 1, 1) := by decide +kernel
theorem dL_depth_5 : decode cL_depth 5 = .ok (.lload_n 2, 1) := by decide +kernel
theorem dL_depth_6 : decode cL_depth 6 = .ok (.invokevirtual 50, 3) := by decide +kernel
theorem dL_depth_9 : decode cL_depth 9 = .ok (.lastore, 1) := by decide +kernel
theorem dL_depth_10 : decode cL_depth 10 = .ok (.goto 11, 3) := by decide +kernel
theorem dL_depth_13 : decode cL_depth 13 = .ok (.astore 5, 2) := by decide +kernel
theorem dL_depth_15 : decode cL_depth 15 = .ok (.iconst 1, 1) := by decide +kernel
theorem dL_depth_16 : decode cL_depth 16 = .ok (.ireturn, 1) := by decide +kernel
theorem dL_depth_17 : decode cL_depth 17 = .ok (.astore 5, 2) := by decide +kernel
theorem dL_depth_19 : decode cL_depth 19 = .ok (.iconst 2, 1) := by decide +kernel
theorem dL_depth_20 : decode cL_depth 20 = .ok (.ireturn, 1) := by decide +kernel
theorem dL_depth_21 : decode cL_depth 21 = .ok (.iconst 0, 1) := by decide +kernel
theorem dL_depth_22 : decode cL_depth 22 = .ok (.ireturn, 1) := by decide +kernel
theorem dL_sail_0 : decode cL_sail 0 = .ok (.aload 8, 2) := by decide +kernel
theorem dL_sail_2 : decode cL_sail 2 = .ok (.iconst 0, 1) := by decide +kernel
theorem dL_sail_3 : decode cL_sail 3 = .ok (.aload_n 0, 1) := by decide +kernel
theorem dL_sail_4 : decode cL_sail 4 = .ok (.lload_n 1, 1) := by decide +kernel
theorem dL_sail_5 : decode cL_sail 5 = .ok (.lload_n 3, 1) := by decide +kernel
theorem dL_sail_6 : decode cL_sail 6 = .ok (.lload 5, 2) := by decide +kernel
theorem dL_sail_8 : decode cL_sail 8 = .ok (.iload 7, 2) := by decide +kernel
theorem dL_sail_10 : decode cL_sail 10 = .ok (.invokevirtual 56, 3) := by decide +kernel
theorem dL_sail_13 : decode cL_sail 13 = .ok (.i2l, 1) := by decide +kernel
theorem dL_sail_14 : decode cL_sail 14 = .ok (.lastore, 1) := by decide +kernel
theorem dL_sail_15 : decode cL_sail 15 = .ok (.goto 15, 3) := by decide +kernel
theorem dL_sail_18 : decode cL_sail 18 = .ok (.astore 9, 2) := by decide +kernel
theorem dL_sail_20 : decode cL_sail 20 = .ok (.iconst 1, 1) := by decide +kernel
theorem dL_sail_21 : decode cL_sail 21 = .ok (.ireturn, 1) := by decide +kernel
theorem dL_sail_22 : decode cL_sail 22 = .ok (.astore 9, 2) := by decide +kernel
theorem dL_sail_24 : decode cL_sail 24 = .ok (.iconst 2, 1) := by decide +kernel
theorem dL_sail_25 : decode cL_sail 25 = .ok (.ireturn, 1) := by decide +kernel
theorem dL_sail_26 : decode cL_sail 26 = .ok (.astore 9, 2) := by decide +kernel
theorem dL_sail_28 : decode cL_sail 28 = .ok (.iconst 3, 1) := by decide +kernel
theorem dL_sail_29 : decode cL_sail 29 = .ok (.ireturn, 1) := by decide +kernel
theorem dL_sail_30 : decode cL_sail 30 = .ok (.iconst 0, 1) := by decide +kernel
theorem dL_sail_31 : decode cL_sail 31 = .ok (.ireturn, 1) := by decide +kernel
theorem dL_read_0 : decode cL_read 0 = .ok (.aload_n 3, 1) := by decide +kernel
theorem dL_read_1 : decode cL_read 1 = .ok (.iconst 0, 1) := by decide +kernel
theorem dL_read_2 : decode cL_read 2 = .ok (.aload_n 0, 1) := by decide +kernel
theorem dL_read_3 : decode cL_read 3 = .ok (.iload_n 1, 1) := by decide +kernel
theorem dL_read_4 : decode cL_read 4 = .ok (.iload_n 2, 1) := by decide +kernel
theorem dL_read_5 : decode cL_read 5 = .ok (.invokevirtual 59, 3) := by decide +kernel
theorem dL_read_8 : decode cL_read 8 = .ok (.lastore, 1) := by decide +kernel
theorem dL_read_9 : decode cL_read 9 = .ok (.goto 7, 3) := by decide +kernel
theorem dL_read_12 : decode cL_read 12 = .ok (.astore 4, 2) := by decide +kernel
theorem dL_read_14 : decode cL_read 14 = .ok (.iconst 1, 1) := by decide +kernel
theorem dL_read_15 : decode cL_read 15 = .ok (.ireturn, 1) := by decide +kernel
theorem dL_read_16 : decode cL_read 16 = .ok (.iconst 0, 1) := by decide +kernel
theorem dL_read_17 : decode cL_read 17 = .ok (.ireturn, 1) := by decide +kernel
end
section
set_option maxRecDepth 20000 in
theorem ggX0_turn_X0_isWithin : GoodIn wsX0_turn wsX0_isWithin := goodIn_r _ [12] (by decide +kernel) (by decide +kernel)
set_option maxRecDepth 20000 in
theorem gX0_turn_X0_isWithin : GoodIn wsX0_turn (va_wsS RX0 40 yX0_isWithin wsX0_isWithin) := goodIn_app (goodIn_of _ (by decide +kernel)) ggX0_turn_X0_isWithin
set_option maxRecDepth 20000 in
theorem ggX0_turn_X0_isLevel : GoodIn wsX0_turn wsX0_isLevel := goodIn_r _ [15, 16, 17, 9, 10, 11, 12] (by decide +kernel) (by decide +kernel)
set_option maxRecDepth 20000 in
theorem gX0_turn_X0_isLevel : GoodIn wsX0_turn (va_wsS RX0 44 yX0_isLevel wsX0_isLevel) := goodIn_app (goodIn_of _ (by decide +kernel)) ggX0_turn_X0_isLevel
set_option maxRecDepth 20000 in
theorem ggX0_turn_X0_alternates : GoodIn wsX0_turn wsX0_alternates := goodIn_r _ [21, 6, 8, 22, 23, 24, 25, 26, 27, 28, 29, 30] (by decide +kernel) (by decide +kernel)
set_option maxRecDepth 20000 in
theorem gX0_turn_X0_alternates : GoodIn wsX0_turn (wsV RX0 62 RX0 yX0_alternates wsX0_alternates) := goodIn_app (goodIn_of _ (by decide +kernel)) ggX0_turn_X0_alternates
set_option maxRecDepth 20000 in
theorem ggX0_height_X0_isInTable : GoodIn wsX0_height wsX0_isInTable := goodIn_r _ [7, 8, 9, 10, 6, 11, 12, 13, 14, 15, 16, 17, 18, 19, 20, 21, 22, 23, 24, 25, 57, 58, 59, 60, 61, 62, 63, 64, 65] (by decide +kernel) (by decide +kernel)
set_option maxRecDepth 20000 in
theorem gX0_height_X0_isInTable : GoodIn wsX0_height (wsV RX0 65 RX0 yX0_isInTable wsX0_isInTable) := goodIn_app (goodIn_of _ (by decide +kernel)) ggX0_height_X0_isInTable
set_option maxRecDepth 20000 in
theorem ggX0_height_X0_heightAt : GoodIn wsX0_height wsX0_heightAt := goodIn_r _ [29, 30, 31, 32, 6, 33, 17, 12, 34, 35, 36, 37, 38, 39, 40, 41, 42, 43, 44, 45, 46, 47, 48, 49, 50, 51, 52, 53, 54, 55, 56, 57, 58, 59, 60, 61, 62, 63, 64, 65] (by decide +kernel) (by decide +kernel)
set_option maxRecDepth 20000 in
theorem gX0_height_X0_heightAt : GoodIn wsX0_height (wsV RX0 70 RX0 yX0_heightAt wsX0_heightAt) := goodIn_app (goodIn_of _ (by decide +kernel)) ggX0_height_X0_heightAt
set_option maxRecDepth 20000 in
theorem ggX0_observe_X0_isInTable : GoodIn wsX0_observe wsX0_isInTable := goodIn_r _ [12, 13, 14, 15, 11, 16, 17, 18, 19, 20, 21, 22, 23, 24, 25, 26, 27, 28, 29, 30, 54, 55, 56, 57, 58, 59, 60, 61, 62] (by decide +kernel) (by decide +kernel)
set_option maxRecDepth 20000 in
theorem gX0_observe_X0_isInTable : GoodIn wsX0_observe (wsV RX0 65 RX0 yX0_isInTable wsX0_isInTable) := goodIn_app (goodIn_of _ (by decide +kernel)) ggX0_observe_X0_isInTable
set_option maxRecDepth 20000 in
theorem ggX0_observe_X0_isLevel : GoodIn wsX0_observe wsX0_isLevel := goodIn_r _ [33, 34, 35, 28, 29, 11, 30] (by decide +kernel) (by decide +kernel)
set_option maxRecDepth 20000 in
theorem gX0_observe_X0_isLevel : GoodIn wsX0_observe (va_wsS RX0 44 yX0_isLevel wsX0_isLevel) := goodIn_app (goodIn_of _ (by decide +kernel)) ggX0_observe_X0_isLevel
set_option maxRecDepth 20000 in
theorem ggX0_observe_X0_tableHeight : GoodIn wsX0_observe wsX0_tableHeight := goodIn_r _ [39, 22, 17, 40, 41, 42, 43, 11, 44, 45, 46, 47, 48, 49, 50, 51, 52, 53, 54, 55, 56, 57, 58, 59, 60, 61, 62] (by decide +kernel) (by decide +kernel)
set_option maxRecDepth 20000 in
theorem gX0_observe_X0_tableHeight : GoodIn wsX0_observe (wsV RX0 80 RX0 yX0_tableHeight wsX0_tableHeight) := goodIn_app (goodIn_of _ (by decide +kernel)) ggX0_observe_X0_tableHeight
set_option maxRecDepth 20000 in
theorem ggX0_span_X0_isInTable : GoodIn wsX0_span wsX0_isInTable := goodIn_r _ [8, 9, 10, 11, 7, 12, 13, 14, 15, 16, 17, 18, 19, 20, 21, 22, 23, 24, 25, 26, 88, 89, 90, 91, 92, 93, 94, 95, 96] (by decide +kernel) (by decide +kernel)
set_option maxRecDepth 20000 in
theorem gX0_span_X0_isInTable : GoodIn wsX0_span (wsV RX0 65 RX0 yX0_isInTable wsX0_isInTable) := goodIn_app (goodIn_of _ (by decide +kernel)) ggX0_span_X0_isInTable
set_option maxRecDepth 20000 in
theorem ggX0_span_X0_isLevel : GoodIn wsX0_span wsX0_isLevel := goodIn_r _ [29, 30, 31, 24, 25, 7, 26] (by decide +kernel) (by decide +kernel)
set_option maxRecDepth 20000 in
theorem gX0_span_X0_isLevel : GoodIn wsX0_span (va_wsS RX0 44 yX0_isLevel wsX0_isLevel) := goodIn_app (goodIn_of _ (by decide +kernel)) ggX0_span_X0_isLevel
set_option maxRecDepth 20000 in
theorem ggX0_span_X0_isWithin : GoodIn wsX0_span wsX0_isWithin := goodIn_r _ [26] (by decide +kernel) (by decide +kernel)
set_option maxRecDepth 20000 in
theorem gX0_span_X0_isWithin : GoodIn wsX0_span (va_wsS RX0 40 yX0_isWithin wsX0_isWithin) := goodIn_app (goodIn_of _ (by decide +kernel)) ggX0_span_X0_isWithin
set_option maxRecDepth 20000 in
theorem ggX0_span_X0_longestSpan : GoodIn wsX0_span wsX0_longestSpan := goodIn_r _ [35, 20, 21, 22, 7, 23, 18, 13, 19, 9, 10, 11, 12, 36, 37, 38, 39, 40, 41, 42, 43, 44, 45, 46, 47, 48, 49, 50, 51, 52, 53, 54, 55, 56, 57, 58, 59, 60, 61, 62, 63, 64, 65, 66, 67, 68, 69, 70, 71, 72, 73, 74, 75, 76, 77, 78, 79, 80, 81, 82, 83, 84, 85, 86, 87, 88, 89, 90, 91, 92, 93, 94, 95, 96] (by decide +kernel) (by decide +kernel)
set_option maxRecDepth 20000 in
theorem gX0_span_X0_longestSpan : GoodIn wsX0_span (wsV RX0 87 RX0 yX0_longestSpan wsX0_longestSpan) := goodIn_app (goodIn_of _ (by decide +kernel)) ggX0_span_X0_longestSpan
set_option maxRecDepth 20000 in
theorem ggX0_span_X0_nextSecond : GoodIn wsX0_span wsX0_nextSecond := goodIn_r _ [39, 20, 21, 22, 7, 23, 18, 13, 19, 9, 10, 11, 12, 40, 41, 42, 43, 44, 45, 46, 47, 48, 49, 50, 51, 52, 53, 54, 55, 56, 57, 58, 59, 60, 61, 62, 63, 64, 65, 66, 67, 68, 69, 70, 71, 72, 73, 74, 75, 76, 77, 78, 79, 80, 81, 82, 83, 84, 85, 86, 87, 88, 89, 90, 91, 92, 93, 94, 95, 96] (by decide +kernel) (by decide +kernel)
set_option maxRecDepth 20000 in
theorem gX0_span_X0_nextSecond : GoodIn wsX0_span (wsV RX0 91 RX0 yX0_nextSecond wsX0_nextSecond) := goodIn_app (goodIn_of _ (by decide +kernel)) ggX0_span_X0_nextSecond
set_option maxRecDepth 20000 in
theorem ggX0_span_X0_lastSecond : GoodIn wsX0_span wsX0_lastSecond := goodIn_r _ [23, 18, 13, 19, 9, 10, 11, 7, 12, 88, 89, 90, 91, 92, 93, 94, 95, 96] (by decide +kernel) (by decide +kernel)
set_option maxRecDepth 20000 in
theorem gX0_span_X0_lastSecond : GoodIn wsX0_span (wsV RX0 95 RX0 yX0_lastSecond wsX0_lastSecond) := goodIn_app (goodIn_of _ (by decide +kernel)) ggX0_span_X0_lastSecond
set_option maxRecDepth 20000 in
theorem ggX0_squat_X0_isWithin : GoodIn wsX0_squat wsX0_isWithin := goodIn_r _ [8] (by decide +kernel) (by decide +kernel)
set_option maxRecDepth 20000 in
theorem gX0_squat_X0_isWithin : GoodIn wsX0_squat (va_wsS RX0 40 yX0_isWithin wsX0_isWithin) := goodIn_app (goodIn_of _ (by decide +kernel)) ggX0_squat_X0_isWithin
set_option maxRecDepth 20000 in
theorem ggX0_squat_X0_squatOf : GoodIn wsX0_squat wsX0_squatOf := goodIn_r _ [11, 12, 13, 14, 7, 15, 16, 17, 18, 19, 20] (by decide +kernel) (by decide +kernel)
set_option maxRecDepth 20000 in
theorem gX0_squat_X0_squatOf : GoodIn wsX0_squat (va_wsS RX0 105 yX0_squatOf wsX0_squatOf) := goodIn_app (goodIn_of _ (by decide +kernel)) ggX0_squat_X0_squatOf
set_option maxRecDepth 20000 in
theorem ggX0_passing_X0_isWithin : GoodIn wsX0_passing wsX0_isWithin := goodIn_r _ [10] (by decide +kernel) (by decide +kernel)
set_option maxRecDepth 20000 in
theorem gX0_passing_X0_isWithin : GoodIn wsX0_passing (va_wsS RX0 40 yX0_isWithin wsX0_isWithin) := goodIn_app (goodIn_of _ (by decide +kernel)) ggX0_passing_X0_isWithin
set_option maxRecDepth 20000 in
theorem ggX0_passing_X0_secondsFor : GoodIn wsX0_passing wsX0_secondsFor := goodIn_r _ [13, 14, 15, 16, 9, 17] (by decide +kernel) (by decide +kernel)
set_option maxRecDepth 20000 in
theorem gX0_passing_X0_secondsFor : GoodIn wsX0_passing (va_wsS RX0 117 yX0_secondsFor wsX0_secondsFor) := goodIn_app (goodIn_of _ (by decide +kernel)) ggX0_passing_X0_secondsFor
set_option maxRecDepth 20000 in
theorem ggX0_draft_X0_isWithin : GoodIn wsX0_draft wsX0_isWithin := goodIn_r _ [7] (by decide +kernel) (by decide +kernel)
set_option maxRecDepth 20000 in
theorem gX0_draft_X0_isWithin : GoodIn wsX0_draft (va_wsS RX0 40 yX0_isWithin wsX0_isWithin) := goodIn_app (goodIn_of _ (by decide +kernel)) ggX0_draft_X0_isWithin
set_option maxRecDepth 20000 in
theorem ggX0_draft_X0_isDensity : GoodIn wsX0_draft wsX0_isDensity := goodIn_r _ [10, 11, 12, 4, 5, 6, 7] (by decide +kernel) (by decide +kernel)
set_option maxRecDepth 20000 in
theorem gX0_draft_X0_isDensity : GoodIn wsX0_draft (va_wsS RX0 129 yX0_isDensity wsX0_isDensity) := goodIn_app (goodIn_of _ (by decide +kernel)) ggX0_draft_X0_isDensity
set_option maxRecDepth 20000 in
theorem ggX0_draft_X0_dividedUp : GoodIn wsX0_draft wsX0_dividedUp := goodIn_r _ [15] (by decide +kernel) (by decide +kernel)
set_option maxRecDepth 20000 in
theorem gX0_draft_X0_dividedUp : GoodIn wsX0_draft (va_wsS RX0 134 yX0_dividedUp wsX0_dividedUp) := goodIn_app (goodIn_of _ (by decide +kernel)) ggX0_draft_X0_dividedUp
set_option maxRecDepth 20000 in
theorem ggX0_place_X0_isWithin : GoodIn wsX0_place wsX0_isWithin := goodIn_r _ [12] (by decide +kernel) (by decide +kernel)
set_option maxRecDepth 20000 in
theorem gX0_place_X0_isWithin : GoodIn wsX0_place (va_wsS RX0 40 yX0_isWithin wsX0_isWithin) := goodIn_app (goodIn_of _ (by decide +kernel)) ggX0_place_X0_isWithin
set_option maxRecDepth 20000 in
theorem ggX0_place_X0_isLevel : GoodIn wsX0_place wsX0_isLevel := goodIn_r _ [15, 16, 17, 9, 10, 11, 12] (by decide +kernel) (by decide +kernel)
set_option maxRecDepth 20000 in
theorem gX0_place_X0_isLevel : GoodIn wsX0_place (va_wsS RX0 44 yX0_isLevel wsX0_isLevel) := goodIn_app (goodIn_of _ (by decide +kernel)) ggX0_place_X0_isLevel
set_option maxRecDepth 20000 in
theorem ggX0_depth_X0_isInTable : GoodIn wsX0_depth wsX0_isInTable := goodIn_r _ [11, 12, 13, 14, 10, 15, 16, 17, 18, 19, 20, 21, 22, 23, 24, 25, 26, 27, 28, 29, 61, 62, 63, 64, 65, 66, 67, 68, 69] (by decide +kernel) (by decide +kernel)
set_option maxRecDepth 20000 in
theorem gX0_depth_X0_isInTable : GoodIn wsX0_depth (wsV RX0 65 RX0 yX0_isInTable wsX0_isInTable) := goodIn_app (goodIn_of _ (by decide +kernel)) ggX0_depth_X0_isInTable
set_option maxRecDepth 20000 in
theorem ggX0_depth_X0_heightAt : GoodIn wsX0_depth wsX0_heightAt := goodIn_r _ [33, 34, 35, 36, 10, 37, 21, 16, 38, 39, 40, 41, 42, 43, 44, 45, 46, 47, 48, 49, 50, 51, 52, 53, 54, 55, 56, 57, 58, 59, 60, 61, 62, 63, 64, 65, 66, 67, 68, 69] (by decide +kernel) (by decide +kernel)
set_option maxRecDepth 20000 in
theorem gX0_depth_X0_heightAt : GoodIn wsX0_depth (wsV RX0 70 RX0 yX0_heightAt wsX0_heightAt) := goodIn_app (goodIn_of _ (by decide +kernel)) ggX0_depth_X0_heightAt
set_option maxRecDepth 20000 in
theorem ggX0_sail_X0_isInTable : GoodIn wsX0_sail wsX0_isInTable := goodIn_r _ [13, 14, 15, 16, 12, 17, 18, 19, 20, 21, 22, 23, 24, 25, 26, 27, 28, 29, 30, 31, 115, 116, 117, 118, 119, 120, 121, 122, 123] (by decide +kernel) (by decide +kernel)
set_option maxRecDepth 20000 in
theorem gX0_sail_X0_isInTable : GoodIn wsX0_sail (wsV RX0 65 RX0 yX0_isInTable wsX0_isInTable) := goodIn_app (goodIn_of _ (by decide +kernel)) ggX0_sail_X0_isInTable
set_option maxRecDepth 20000 in
theorem ggX0_sail_X0_isLevel : GoodIn wsX0_sail wsX0_isLevel := goodIn_r _ [34, 35, 36, 29, 30, 12, 31] (by decide +kernel) (by decide +kernel)
set_option maxRecDepth 20000 in
theorem gX0_sail_X0_isLevel : GoodIn wsX0_sail (va_wsS RX0 44 yX0_isLevel wsX0_isLevel) := goodIn_app (goodIn_of _ (by decide +kernel)) ggX0_sail_X0_isLevel
set_option maxRecDepth 20000 in
theorem ggX0_sail_X0_isWithin : GoodIn wsX0_sail wsX0_isWithin := goodIn_r _ [31] (by decide +kernel) (by decide +kernel)
set_option maxRecDepth 20000 in
theorem gX0_sail_X0_isWithin : GoodIn wsX0_sail (va_wsS RX0 40 yX0_isWithin wsX0_isWithin) := goodIn_app (goodIn_of _ (by decide +kernel)) ggX0_sail_X0_isWithin
set_option maxRecDepth 20000 in
theorem ggX0_sail_X0_squatOf : GoodIn wsX0_sail wsX0_squatOf := goodIn_r _ [39, 40, 41, 42, 12, 43, 44, 45, 46, 47, 48] (by decide +kernel) (by decide +kernel)
set_option maxRecDepth 20000 in
theorem gX0_sail_X0_squatOf : GoodIn wsX0_sail (va_wsS RX0 105 yX0_squatOf wsX0_squatOf) := goodIn_app (goodIn_of _ (by decide +kernel)) ggX0_sail_X0_squatOf
set_option maxRecDepth 20000 in
theorem ggX0_sail_X0_firstSailing : GoodIn wsX0_sail wsX0_firstSailing := goodIn_r _ [52, 8, 53, 54, 25, 26, 27, 12, 28, 23, 18, 24, 14, 15, 16, 17, 55, 56, 57, 58, 46, 47, 48, 59, 60, 61, 62, 63, 64, 65, 66, 67, 68, 69, 70, 71, 72, 73, 74, 75, 76, 77, 78, 79, 80, 81, 82, 83, 84, 85, 86, 87, 88, 89, 90, 91, 92, 93, 94, 95, 96, 97, 98, 99, 100, 101, 102, 103, 104, 105, 106, 107, 108, 109, 110, 115, 116, 117, 118, 119, 120, 121, 122, 123] (by decide +kernel) (by decide +kernel)
set_option maxRecDepth 20000 in
theorem gX0_sail_X0_firstSailing : GoodIn wsX0_sail (wsV RX0 154 RX0 yX0_firstSailing wsX0_firstSailing) := goodIn_app (goodIn_of _ (by decide +kernel)) ggX0_sail_X0_firstSailing
set_option maxRecDepth 20000 in
theorem ggX0_sail_X0_lastSecond : GoodIn wsX0_sail wsX0_lastSecond := goodIn_r _ [28, 23, 18, 24, 14, 15, 16, 12, 17, 115, 116, 117, 118, 119, 120, 121, 122, 123] (by decide +kernel) (by decide +kernel)
set_option maxRecDepth 20000 in
theorem gX0_sail_X0_lastSecond : GoodIn wsX0_sail (wsV RX0 95 RX0 yX0_lastSecond wsX0_lastSecond) := goodIn_app (goodIn_of _ (by decide +kernel)) ggX0_sail_X0_lastSecond
set_option maxRecDepth 20000 in
theorem ggX0_sail_X0_lastSailing : GoodIn wsX0_sail wsX0_lastSailing := goodIn_r _ [114, 8, 53, 54, 98, 99, 100, 101, 25, 26, 27, 12, 28, 23, 18, 24, 14, 15, 16, 17, 55, 56, 57, 58, 46, 47, 48, 59, 60, 61, 62, 63, 64, 65, 66, 67, 68, 69, 70, 71, 72, 73, 74, 75, 76, 77, 78, 79, 80, 81, 82, 83, 84, 85, 86, 87, 88, 89, 90, 91, 92, 93, 94, 95, 96, 97, 102, 103, 104, 105, 106, 107, 108, 109, 110, 115, 116, 117, 118, 119, 120, 121, 122, 123] (by decide +kernel) (by decide +kernel)
set_option maxRecDepth 20000 in
theorem gX0_sail_X0_lastSailing : GoodIn wsX0_sail (wsV RX0 158 RX0 yX0_lastSailing wsX0_lastSailing) := goodIn_app (goodIn_of _ (by decide +kernel)) ggX0_sail_X0_lastSailing
set_option maxRecDepth 20000 in
theorem ggX0_count_X0_firstSecond : GoodIn wsX0_count wsX0_firstSecond := goodIn_r _ [8, 9, 10, 11, 12, 13, 7, 14, 1, 19, 20, 21, 22, 23, 24, 25, 26, 27] (by decide +kernel) (by decide +kernel)
set_option maxRecDepth 20000 in
theorem gX0_count_X0_firstSecond : GoodIn wsX0_count (wsV RX0 163 RX0 yX0_firstSecond wsX0_firstSecond) := goodIn_app (goodIn_of _ (by decide +kernel)) ggX0_count_X0_firstSecond
set_option maxRecDepth 20000 in
theorem ggX0_count_X0_lastSecond : GoodIn wsX0_count wsX0_lastSecond := goodIn_r _ [18, 9, 1, 10, 11, 12, 13, 7, 14, 19, 20, 21, 22, 23, 24, 25, 26, 27] (by decide +kernel) (by decide +kernel)
set_option maxRecDepth 20000 in
theorem gX0_count_X0_lastSecond : GoodIn wsX0_count (wsV RX0 95 RX0 yX0_lastSecond wsX0_lastSecond) := goodIn_app (goodIn_of _ (by decide +kernel)) ggX0_count_X0_lastSecond
set_option maxRecDepth 20000 in
theorem ggX0_isLevel_X0_isWithin : GoodIn wsX0_isLevel wsX0_isWithin := goodIn_r _ [6] (by decide +kernel) (by decide +kernel)
set_option maxRecDepth 20000 in
theorem gX0_isLevel_X0_isWithin : GoodIn wsX0_isLevel (va_wsS RX0 40 yX0_isWithin wsX0_isWithin) := goodIn_app (goodIn_of _ (by decide +kernel)) ggX0_isLevel_X0_isWithin
set_option maxRecDepth 20000 in
theorem ggX0_isDensity_X0_isWithin : GoodIn wsX0_isDensity wsX0_isWithin := goodIn_r _ [6] (by decide +kernel) (by decide +kernel)
set_option maxRecDepth 20000 in
theorem gX0_isDensity_X0_isWithin : GoodIn wsX0_isDensity (va_wsS RX0 40 yX0_isWithin wsX0_isWithin) := goodIn_app (goodIn_of _ (by decide +kernel)) ggX0_isDensity_X0_isWithin
set_option maxRecDepth 20000 in
theorem ggX0_secondsFor_X0_dividedUp : GoodIn wsX0_secondsFor wsX0_dividedUp := goodIn_r _ [5] (by decide +kernel) (by decide +kernel)
set_option maxRecDepth 20000 in
theorem gX0_secondsFor_X0_dividedUp : GoodIn wsX0_secondsFor (va_wsS RX0 134 yX0_dividedUp wsX0_dividedUp) := goodIn_app (goodIn_of _ (by decide +kernel)) ggX0_secondsFor_X0_dividedUp
set_option maxRecDepth 20000 in
theorem ggX0_squatOf_X0_squatThousandths : GoodIn wsX0_squatOf wsX0_squatThousandths := goodIn_r _ [5, 6, 7] (by decide +kernel) (by decide +kernel)
set_option maxRecDepth 20000 in
theorem gX0_squatOf_X0_squatThousandths : GoodIn wsX0_squatOf (va_wsS RX0 176 yX0_squatThousandths wsX0_squatThousandths) := goodIn_app (goodIn_of _ (by decide +kernel)) ggX0_squatOf_X0_squatThousandths
set_option maxRecDepth 20000 in
theorem ggX0_squatOf_X0_dividedUp : GoodIn wsX0_squatOf wsX0_dividedUp := goodIn_r _ [10] (by decide +kernel) (by decide +kernel)
set_option maxRecDepth 20000 in
theorem gX0_squatOf_X0_dividedUp : GoodIn wsX0_squatOf (va_wsS RX0 134 yX0_dividedUp wsX0_dividedUp) := goodIn_app (goodIn_of _ (by decide +kernel)) ggX0_squatOf_X0_dividedUp
set_option maxRecDepth 20000 in
theorem ggX0_firstSecond_X0_hasTable : GoodIn wsX0_firstSecond wsX0_hasTable := goodIn_r _ [7, 8, 9, 10, 11, 12, 13, 14, 15, 16, 17] (by decide +kernel) (by decide +kernel)
set_option maxRecDepth 20000 in
theorem gX0_firstSecond_X0_hasTable : GoodIn wsX0_firstSecond (wsV RX0 186 RX0 yX0_hasTable wsX0_hasTable) := goodIn_app (goodIn_of _ (by decide +kernel)) ggX0_firstSecond_X0_hasTable
set_option maxRecDepth 20000 in
theorem ggX0_lastSecond_X0_hasTable : GoodIn wsX0_lastSecond wsX0_hasTable := goodIn_r _ [8, 2, 9, 10, 11, 12, 13, 14, 15, 16, 17] (by decide +kernel) (by decide +kernel)
set_option maxRecDepth 20000 in
theorem gX0_lastSecond_X0_hasTable : GoodIn wsX0_lastSecond (wsV RX0 186 RX0 yX0_hasTable wsX0_hasTable) := goodIn_app (goodIn_of _ (by decide +kernel)) ggX0_lastSecond_X0_hasTable
set_option maxRecDepth 20000 in
theorem ggX0_isInTable_X0_hasTable : GoodIn wsX0_isInTable wsX0_hasTable := goodIn_r _ [5, 6, 20, 21, 22, 23, 24, 25, 26, 27, 28] (by decide +kernel) (by decide +kernel)
set_option maxRecDepth 20000 in
theorem gX0_isInTable_X0_hasTable : GoodIn wsX0_isInTable (wsV RX0 186 RX0 yX0_hasTable wsX0_hasTable) := goodIn_app (goodIn_of _ (by decide +kernel)) ggX0_isInTable_X0_hasTable
set_option maxRecDepth 20000 in
theorem ggX0_isInTable_X0_firstSecond : GoodIn wsX0_isInTable wsX0_firstSecond := goodIn_r _ [10, 11, 12, 1, 2, 3, 4, 5, 6, 20, 21, 22, 23, 24, 25, 26, 27, 28] (by decide +kernel) (by decide +kernel)
set_option maxRecDepth 20000 in
theorem gX0_isInTable_X0_firstSecond : GoodIn wsX0_isInTable (wsV RX0 163 RX0 yX0_firstSecond wsX0_firstSecond) := goodIn_app (goodIn_of _ (by decide +kernel)) ggX0_isInTable_X0_firstSecond
set_option maxRecDepth 20000 in
theorem ggX0_isInTable_X0_lastSecond : GoodIn wsX0_isInTable wsX0_lastSecond := goodIn_r _ [16, 11, 6, 12, 1, 2, 3, 4, 5, 20, 21, 22, 23, 24, 25, 26, 27, 28] (by decide +kernel) (by decide +kernel)
set_option maxRecDepth 20000 in
theorem gX0_isInTable_X0_lastSecond : GoodIn wsX0_isInTable (wsV RX0 95 RX0 yX0_lastSecond wsX0_lastSecond) := goodIn_app (goodIn_of _ (by decide +kernel)) ggX0_isInTable_X0_lastSecond
set_option maxRecDepth 20000 in
theorem ggX0_isInTable_X0_isWithin : GoodIn wsX0_isInTable wsX0_isWithin := goodIn_r _ [19] (by decide +kernel) (by decide +kernel)
set_option maxRecDepth 20000 in
theorem gX0_isInTable_X0_isWithin : GoodIn wsX0_isInTable (va_wsS RX0 40 yX0_isWithin wsX0_isWithin) := goodIn_app (goodIn_of _ (by decide +kernel)) ggX0_isInTable_X0_isWithin
set_option maxRecDepth 20000 in
theorem ggX0_heightAt_X0_tableHeight : GoodIn wsX0_heightAt wsX0_tableHeight := goodIn_r _ [5, 6, 7, 8, 9, 10, 11, 4, 12, 13, 14, 15, 16, 17, 18, 19, 20, 21, 31, 32, 33, 34, 35, 36, 37, 38, 39] (by decide +kernel) (by decide +kernel)
set_option maxRecDepth 20000 in
theorem gX0_heightAt_X0_tableHeight : GoodIn wsX0_heightAt (wsV RX0 80 RX0 yX0_tableHeight wsX0_tableHeight) := goodIn_app (goodIn_of _ (by decide +kernel)) ggX0_heightAt_X0_tableHeight
set_option maxRecDepth 20000 in
theorem ggX0_heightAt_X0_correction : GoodIn wsX0_heightAt wsX0_correction := goodIn_r _ [25, 26, 27, 28, 29, 30, 10, 11, 4, 12, 31, 32, 33, 34, 35, 36, 37, 38, 39] (by decide +kernel) (by decide +kernel)
set_option maxRecDepth 20000 in
theorem gX0_heightAt_X0_correction : GoodIn wsX0_heightAt (wsV RX0 192 RX0 yX0_correction wsX0_correction) := goodIn_app (goodIn_of _ (by decide +kernel)) ggX0_heightAt_X0_correction
set_option maxRecDepth 20000 in
theorem ggX0_tableHeight_X0_lastNotBehind : GoodIn wsX0_tableHeight wsX0_lastNotBehind := goodIn_r _ [8] (by decide +kernel) (by decide +kernel)
set_option maxRecDepth 20000 in
theorem gX0_tableHeight_X0_lastNotBehind : GoodIn wsX0_tableHeight (va_wsS RX0 195 yX0_lastNotBehind wsX0_lastNotBehind) := goodIn_app (goodIn_of _ (by decide +kernel)) ggX0_tableHeight_X0_lastNotBehind
set_option maxRecDepth 20000 in
theorem ggX0_tableHeight_X0_cosinePart : GoodIn wsX0_tableHeight wsX0_cosinePart := goodIn_r _ [11, 4, 12, 13] (by decide +kernel) (by decide +kernel)
set_option maxRecDepth 20000 in
theorem gX0_tableHeight_X0_cosinePart : GoodIn wsX0_tableHeight (va_wsS RX0 199 yX0_cosinePart wsX0_cosinePart) := goodIn_app (goodIn_of _ (by decide +kernel)) ggX0_tableHeight_X0_cosinePart
set_option maxRecDepth 20000 in
theorem ggX0_tableHeight_J9_floorDiv_f86c9 : GoodIn wsX0_tableHeight wsJ9_floorDiv_f86c9 := goodIn_r _ [17] (by decide +kernel) (by decide +kernel)
set_option maxRecDepth 20000 in
theorem gX0_tableHeight_J9_floorDiv_f86c9 : GoodIn wsX0_tableHeight (va_wsS RX0 204 yJ9_floorDiv_f86c9 wsJ9_floorDiv_f86c9) := goodIn_app (goodIn_of _ (by decide +kernel)) ggX0_tableHeight_J9_floorDiv_f86c9
set_option maxRecDepth 20000 in
theorem ggX0_correction_X0_lastNotBehind : GoodIn wsX0_correction wsX0_lastNotBehind := goodIn_r _ [9] (by decide +kernel) (by decide +kernel)
set_option maxRecDepth 20000 in
theorem gX0_correction_X0_lastNotBehind : GoodIn wsX0_correction (va_wsS RX0 195 yX0_lastNotBehind wsX0_lastNotBehind) := goodIn_app (goodIn_of _ (by decide +kernel)) ggX0_correction_X0_lastNotBehind
set_option maxRecDepth 20000 in
theorem ggX0_stretchEnd_X0_lastNotBehind : GoodIn wsX0_stretchEnd wsX0_lastNotBehind := goodIn_r _ [10] (by decide +kernel) (by decide +kernel)
set_option maxRecDepth 20000 in
theorem gX0_stretchEnd_X0_lastNotBehind : GoodIn wsX0_stretchEnd (va_wsS RX0 195 yX0_lastNotBehind wsX0_lastNotBehind) := goodIn_app (goodIn_of _ (by decide +kernel)) ggX0_stretchEnd_X0_lastNotBehind
set_option maxRecDepth 20000 in
theorem ggX0_stretchEnd_X0_lastSecond : GoodIn wsX0_stretchEnd wsX0_lastSecond := goodIn_r _ [14, 1, 2, 15, 16, 17, 18, 9, 19, 28, 29, 30, 31, 32, 33, 34, 35, 36] (by decide +kernel) (by decide +kernel)
set_option maxRecDepth 20000 in
theorem gX0_stretchEnd_X0_lastSecond : GoodIn wsX0_stretchEnd (wsV RX0 95 RX0 yX0_lastSecond wsX0_lastSecond) := goodIn_app (goodIn_of _ (by decide +kernel)) ggX0_stretchEnd_X0_lastSecond
set_option maxRecDepth 20000 in
theorem ggX0_stretchEnd_X0_correctionEnd : GoodIn wsX0_stretchEnd wsX0_correctionEnd := goodIn_r _ [23, 24, 25, 26, 27, 3, 4, 5, 6, 7, 8, 9, 10, 28, 29, 30, 31, 32, 33, 34, 35, 36] (by decide +kernel) (by decide +kernel)
set_option maxRecDepth 20000 in
theorem gX0_stretchEnd_X0_correctionEnd : GoodIn wsX0_stretchEnd (wsV RX0 215 RX0 yX0_correctionEnd wsX0_correctionEnd) := goodIn_app (goodIn_of _ (by decide +kernel)) ggX0_stretchEnd_X0_correctionEnd
set_option maxRecDepth 20000 in
theorem ggX0_correctionEnd_X0_lastNotBehind : GoodIn wsX0_correctionEnd wsX0_lastNotBehind := goodIn_r _ [12] (by decide +kernel) (by decide +kernel)
set_option maxRecDepth 20000 in
theorem gX0_correctionEnd_X0_lastNotBehind : GoodIn wsX0_correctionEnd (va_wsS RX0 195 yX0_lastNotBehind wsX0_lastNotBehind) := goodIn_app (goodIn_of _ (by decide +kernel)) ggX0_correctionEnd_X0_lastNotBehind
set_option maxRecDepth 20000 in
theorem ggX0_nextSecond_X0_lastSecond : GoodIn wsX0_nextSecond wsX0_lastSecond := goodIn_r _ [5, 6, 7, 8, 9, 10, 11, 4, 12, 61, 62, 63, 64, 65, 66, 67, 68, 69] (by decide +kernel) (by decide +kernel)
set_option maxRecDepth 20000 in
theorem gX0_nextSecond_X0_lastSecond : GoodIn wsX0_nextSecond (wsV RX0 95 RX0 yX0_lastSecond wsX0_lastSecond) := goodIn_app (goodIn_of _ (by decide +kernel)) ggX0_nextSecond_X0_lastSecond
set_option maxRecDepth 20000 in
theorem ggX0_nextSecond_X0_heightAt : GoodIn wsX0_nextSecond wsX0_heightAt := goodIn_r _ [16, 17, 18, 19, 4, 20, 6, 7, 21, 22, 23, 24, 25, 26, 27, 28, 29, 30, 31, 32, 33, 34, 35, 36, 37, 38, 39, 40, 41, 42, 43, 61, 62, 63, 64, 65, 66, 67, 68, 69] (by decide +kernel) (by decide +kernel)
set_option maxRecDepth 20000 in
theorem gX0_nextSecond_X0_heightAt : GoodIn wsX0_nextSecond (wsV RX0 70 RX0 yX0_heightAt wsX0_heightAt) := goodIn_app (goodIn_of _ (by decide +kernel)) ggX0_nextSecond_X0_heightAt
set_option maxRecDepth 20000 in
theorem ggX0_nextSecond_X0_stretchEnd : GoodIn wsX0_nextSecond wsX0_stretchEnd := goodIn_r _ [47, 6, 7, 48, 49, 50, 51, 23, 24, 4, 25, 1, 2, 3, 5, 8, 9, 10, 11, 12, 52, 53, 54, 55, 56, 39, 40, 42, 61, 62, 63, 64, 65, 66, 67, 68, 69] (by decide +kernel) (by decide +kernel)
set_option maxRecDepth 20000 in
theorem gX0_nextSecond_X0_stretchEnd : GoodIn wsX0_nextSecond (wsV RX0 221 RX0 yX0_stretchEnd wsX0_stretchEnd) := goodIn_app (goodIn_of _ (by decide +kernel)) ggX0_nextSecond_X0_stretchEnd
set_option maxRecDepth 20000 in
theorem ggX0_nextSecond_X0_changeWithin : GoodIn wsX0_nextSecond wsX0_changeWithin := goodIn_r _ [60, 43, 13, 14, 15, 4, 16, 17, 18, 19, 20, 6, 7, 21, 22, 23, 24, 25, 26, 27, 28, 29, 30, 31, 32, 33, 34, 35, 36, 37, 38, 39, 40, 41, 42, 61, 62, 63, 64, 65, 66, 67, 68, 69] (by decide +kernel) (by decide +kernel)
set_option maxRecDepth 20000 in
theorem gX0_nextSecond_X0_changeWithin : GoodIn wsX0_nextSecond (wsV RX0 224 RX0 yX0_changeWithin wsX0_changeWithin) := goodIn_app (goodIn_of _ (by decide +kernel)) ggX0_nextSecond_X0_changeWithin
set_option maxRecDepth 20000 in
theorem ggX0_changeWithin_X0_heightAt : GoodIn wsX0_changeWithin wsX0_heightAt := goodIn_r _ [6, 7, 8, 9, 5, 10, 11, 12, 13, 14, 15, 16, 17, 18, 19, 20, 21, 22, 23, 24, 25, 26, 27, 28, 29, 30, 31, 32, 33, 34, 1, 35, 36, 37, 38, 39, 40, 41, 42, 43] (by decide +kernel) (by decide +kernel)
set_option maxRecDepth 20000 in
theorem gX0_changeWithin_X0_heightAt : GoodIn wsX0_changeWithin (wsV RX0 70 RX0 yX0_heightAt wsX0_heightAt) := goodIn_app (goodIn_of _ (by decide +kernel)) ggX0_changeWithin_X0_heightAt
set_option maxRecDepth 20000 in
theorem ggX0_longestSpan_X0_lastSecond : GoodIn wsX0_longestSpan wsX0_lastSecond := goodIn_r _ [5, 6, 7, 8, 9, 10, 11, 4, 12, 65, 66, 67, 68, 69, 70, 71, 72, 73] (by decide +kernel) (by decide +kernel)
set_option maxRecDepth 20000 in
theorem gX0_longestSpan_X0_lastSecond : GoodIn wsX0_longestSpan (wsV RX0 95 RX0 yX0_lastSecond wsX0_lastSecond) := goodIn_app (goodIn_of _ (by decide +kernel)) ggX0_longestSpan_X0_lastSecond
set_option maxRecDepth 20000 in
theorem ggX0_longestSpan_X0_nextSecond : GoodIn wsX0_longestSpan wsX0_nextSecond := goodIn_r _ [16, 1, 2, 3, 4, 5, 6, 7, 8, 9, 10, 11, 12, 17, 18, 19, 20, 21, 22, 23, 24, 25, 26, 27, 28, 29, 30, 31, 32, 33, 34, 35, 36, 37, 38, 39, 40, 41, 42, 43, 44, 45, 46, 47, 48, 49, 50, 51, 52, 53, 54, 55, 56, 57, 58, 59, 60, 61, 62, 63, 64, 65, 66, 67, 68, 69, 70, 71, 72, 73] (by decide +kernel) (by decide +kernel)
set_option maxRecDepth 20000 in
theorem gX0_longestSpan_X0_nextSecond : GoodIn wsX0_longestSpan (wsV RX0 91 RX0 yX0_nextSecond wsX0_nextSecond) := goodIn_app (goodIn_of _ (by decide +kernel)) ggX0_longestSpan_X0_nextSecond
set_option maxRecDepth 20000 in
theorem ggX0_firstSailing_X0_lastSecond : GoodIn wsX0_firstSailing wsX0_lastSecond := goodIn_r _ [8, 9, 10, 11, 12, 13, 14, 7, 15, 75, 76, 77, 78, 79, 80, 81, 82, 83] (by decide +kernel) (by decide +kernel)
set_option maxRecDepth 20000 in
theorem gX0_firstSailing_X0_lastSecond : GoodIn wsX0_firstSailing (wsV RX0 95 RX0 yX0_lastSecond wsX0_lastSecond) := goodIn_app (goodIn_of _ (by decide +kernel)) ggX0_firstSailing_X0_lastSecond
set_option maxRecDepth 20000 in
theorem ggX0_firstSailing_X0_secondsFor : GoodIn wsX0_firstSailing wsX0_secondsFor := goodIn_r _ [18, 19, 20, 21, 7, 22] (by decide +kernel) (by decide +kernel)
set_option maxRecDepth 20000 in
theorem gX0_firstSailing_X0_secondsFor : GoodIn wsX0_firstSailing (va_wsS RX0 117 yX0_secondsFor wsX0_secondsFor) := goodIn_app (goodIn_of _ (by decide +kernel)) ggX0_firstSailing_X0_secondsFor
set_option maxRecDepth 20000 in
theorem ggX0_firstSailing_X0_nextSecond : GoodIn wsX0_firstSailing wsX0_nextSecond := goodIn_r _ [26, 4, 5, 6, 7, 8, 9, 10, 11, 12, 13, 14, 15, 27, 28, 29, 30, 31, 32, 33, 34, 35, 36, 37, 38, 39, 40, 41, 42, 43, 44, 45, 46, 47, 48, 49, 50, 51, 52, 53, 54, 55, 56, 57, 58, 59, 60, 61, 62, 63, 64, 65, 66, 67, 68, 69, 70, 71, 72, 73, 74, 75, 76, 77, 78, 79, 80, 81, 82, 83] (by decide +kernel) (by decide +kernel)
set_option maxRecDepth 20000 in
theorem gX0_firstSailing_X0_nextSecond : GoodIn wsX0_firstSailing (wsV RX0 91 RX0 yX0_nextSecond wsX0_nextSecond) := goodIn_app (goodIn_of _ (by decide +kernel)) ggX0_firstSailing_X0_nextSecond
set_option maxRecDepth 20000 in
theorem ggX0_lastSailing_X0_lastSecond : GoodIn wsX0_lastSailing wsX0_lastSecond := goodIn_r _ [12, 13, 14, 15, 16, 17, 18, 11, 19, 75, 76, 77, 78, 79, 80, 81, 82, 83] (by decide +kernel) (by decide +kernel)
set_option maxRecDepth 20000 in
theorem gX0_lastSailing_X0_lastSecond : GoodIn wsX0_lastSailing (wsV RX0 95 RX0 yX0_lastSecond wsX0_lastSecond) := goodIn_app (goodIn_of _ (by decide +kernel)) ggX0_lastSailing_X0_lastSecond
set_option maxRecDepth 20000 in
theorem ggX0_lastSailing_X0_secondsFor : GoodIn wsX0_lastSailing wsX0_secondsFor := goodIn_r _ [22, 23, 24, 25, 11, 26] (by decide +kernel) (by decide +kernel)
set_option maxRecDepth 20000 in
theorem gX0_lastSailing_X0_secondsFor : GoodIn wsX0_lastSailing (va_wsS RX0 117 yX0_secondsFor wsX0_secondsFor) := goodIn_app (goodIn_of _ (by decide +kernel)) ggX0_lastSailing_X0_secondsFor
set_option maxRecDepth 20000 in
theorem ggX0_lastSailing_X0_nextSecond : GoodIn wsX0_lastSailing wsX0_nextSecond := goodIn_r _ [30, 8, 9, 10, 11, 12, 13, 14, 15, 16, 17, 18, 19, 31, 32, 33, 34, 35, 36, 37, 38, 39, 40, 41, 42, 43, 44, 45, 46, 47, 48, 49, 50, 51, 52, 53, 54, 55, 56, 57, 58, 59, 60, 61, 62, 63, 64, 65, 4, 5, 6, 7, 66, 67, 68, 69, 70, 71, 72, 73, 74, 75, 76, 77, 78, 79, 80, 81, 82, 83] (by decide +kernel) (by decide +kernel)
set_option maxRecDepth 20000 in
theorem gX0_lastSailing_X0_nextSecond : GoodIn wsX0_lastSailing (wsV RX0 91 RX0 yX0_nextSecond wsX0_nextSecond) := goodIn_app (goodIn_of _ (by decide +kernel)) ggX0_lastSailing_X0_nextSecond
end
section
set_option maxRecDepth 20000 in
theorem ggX1_isInTable_X1_in : GoodIn wsX1_isInTable wsX1_in := goodIn_r _ [6] (by decide +kernel) (by decide +kernel)
set_option maxRecDepth 20000 in
theorem gX1_isInTable_X1_in : GoodIn wsX1_isInTable (va_wsS RX1 43 yX1_in wsX1_in) := goodIn_app (goodIn_of _ (by decide +kernel)) ggX1_isInTable_X1_in
set_option maxRecDepth 20000 in
theorem ggX1_isHeight_X1_in : GoodIn wsX1_isHeight wsX1_in := goodIn_r _ [6] (by decide +kernel) (by decide +kernel)
set_option maxRecDepth 20000 in
theorem gX1_isHeight_X1_in : GoodIn wsX1_isHeight (va_wsS RX1 43 yX1_in wsX1_in) := goodIn_app (goodIn_of _ (by decide +kernel)) ggX1_isHeight_X1_in
set_option maxRecDepth 20000 in
theorem ggX1_tableHeight_X1_floor : GoodIn wsX1_tableHeight wsX1_floor := goodIn_r _ [9] (by decide +kernel) (by decide +kernel)
set_option maxRecDepth 20000 in
theorem gX1_tableHeight_X1_floor : GoodIn wsX1_tableHeight (va_wsS RX1 55 yX1_floor wsX1_floor) := goodIn_app (goodIn_of _ (by decide +kernel)) ggX1_tableHeight_X1_floor
set_option maxRecDepth 20000 in
theorem ggX1_heightAt_X1_tableHeight : GoodIn wsX1_heightAt wsX1_tableHeight := goodIn_r _ [9, 10, 11, 12, 13, 14, 15, 16, 8, 17, 18, 19, 20, 21, 22, 23, 24, 25, 26, 27, 28, 29] (by decide +kernel) (by decide +kernel)
set_option maxRecDepth 20000 in
theorem gX1_heightAt_X1_tableHeight : GoodIn wsX1_heightAt (wsV RX1 64 RX1 yX1_tableHeight wsX1_tableHeight) := goodIn_app (goodIn_of _ (by decide +kernel)) ggX1_heightAt_X1_tableHeight
set_option maxRecDepth 20000 in
theorem ggX1_turn_X1_in : GoodIn wsX1_turn wsX1_in := goodIn_r _ [9] (by decide +kernel) (by decide +kernel)
set_option maxRecDepth 20000 in
theorem gX1_turn_X1_in : GoodIn wsX1_turn (va_wsS RX1 43 yX1_in wsX1_in) := goodIn_app (goodIn_of _ (by decide +kernel)) ggX1_turn_X1_in
set_option maxRecDepth 20000 in
theorem ggX1_turn_X1_isHeight : GoodIn wsX1_turn wsX1_isHeight := goodIn_r _ [12, 13, 14, 6, 7, 8, 9] (by decide +kernel) (by decide +kernel)
set_option maxRecDepth 20000 in
theorem gX1_turn_X1_isHeight : GoodIn wsX1_turn (va_wsS RX1 70 yX1_isHeight wsX1_isHeight) := goodIn_app (goodIn_of _ (by decide +kernel)) ggX1_turn_X1_isHeight
set_option maxRecDepth 20000 in
theorem ggX1_height_X1_isInTable : GoodIn wsX1_height wsX1_isInTable := goodIn_r _ [6, 7, 8, 9, 10, 5, 11, 31, 32, 33, 34, 35, 36, 37, 38, 39, 40, 41, 42] (by decide +kernel) (by decide +kernel)
set_option maxRecDepth 20000 in
theorem gX1_height_X1_isInTable : GoodIn wsX1_height (wsV RX1 74 RX1 yX1_isInTable wsX1_isInTable) := goodIn_app (goodIn_of _ (by decide +kernel)) ggX1_height_X1_isInTable
set_option maxRecDepth 20000 in
theorem ggX1_height_X1_heightAt : GoodIn wsX1_height wsX1_heightAt := goodIn_r _ [15, 16, 17, 18, 19, 20, 21, 22, 5, 23, 8, 24, 25, 26, 27, 28, 29, 30, 31, 32, 33, 34, 35, 36, 37, 38, 39, 40, 41, 42] (by decide +kernel) (by decide +kernel)
set_option maxRecDepth 20000 in
theorem gX1_height_X1_heightAt : GoodIn wsX1_height (wsV RX1 77 RX1 yX1_heightAt wsX1_heightAt) := goodIn_app (goodIn_of _ (by decide +kernel)) ggX1_height_X1_heightAt
set_option maxRecDepth 20000 in
theorem ggX1_observe_X1_isInTable : GoodIn wsX1_observe wsX1_isInTable := goodIn_r _ [9, 10, 11, 12, 13, 8, 14, 31, 32, 33, 34, 35, 36, 37, 38, 39, 40, 41, 42] (by decide +kernel) (by decide +kernel)
set_option maxRecDepth 20000 in
theorem gX1_observe_X1_isInTable : GoodIn wsX1_observe (wsV RX1 74 RX1 yX1_isInTable wsX1_isInTable) := goodIn_app (goodIn_of _ (by decide +kernel)) ggX1_observe_X1_isInTable
set_option maxRecDepth 20000 in
theorem ggX1_observe_X1_isHeight : GoodIn wsX1_observe wsX1_isHeight := goodIn_r _ [17, 18, 19, 12, 13, 8, 14] (by decide +kernel) (by decide +kernel)
set_option maxRecDepth 20000 in
theorem gX1_observe_X1_isHeight : GoodIn wsX1_observe (va_wsS RX1 70 yX1_isHeight wsX1_isHeight) := goodIn_app (goodIn_of _ (by decide +kernel)) ggX1_observe_X1_isHeight
set_option maxRecDepth 20000 in
theorem ggX1_observe_X1_tableHeight : GoodIn wsX1_observe wsX1_tableHeight := goodIn_r _ [23, 11, 24, 25, 26, 27, 28, 29, 8, 30, 31, 32, 33, 34, 35, 36, 37, 38, 39, 40, 41, 42] (by decide +kernel) (by decide +kernel)
set_option maxRecDepth 20000 in
theorem gX1_observe_X1_tableHeight : GoodIn wsX1_observe (wsV RX1 64 RX1 yX1_tableHeight wsX1_tableHeight) := goodIn_app (goodIn_of _ (by decide +kernel)) ggX1_observe_X1_tableHeight
set_option maxRecDepth 20000 in
theorem ggX1_span_X1_isInTable : GoodIn wsX1_span wsX1_isInTable := goodIn_r _ [8, 3, 2, 9, 10, 7, 11, 36, 37, 38, 39, 40, 41, 42, 43, 44, 45, 46, 47] (by decide +kernel) (by decide +kernel)
set_option maxRecDepth 20000 in
theorem gX1_span_X1_isInTable : GoodIn wsX1_span (wsV RX1 74 RX1 yX1_isInTable wsX1_isInTable) := goodIn_app (goodIn_of _ (by decide +kernel)) ggX1_span_X1_isInTable
set_option maxRecDepth 20000 in
theorem ggX1_span_X1_isHeight : GoodIn wsX1_span wsX1_isHeight := goodIn_r _ [14, 15, 16, 9, 10, 7, 11] (by decide +kernel) (by decide +kernel)
set_option maxRecDepth 20000 in
theorem gX1_span_X1_isHeight : GoodIn wsX1_span (va_wsS RX1 70 yX1_isHeight wsX1_isHeight) := goodIn_app (goodIn_of _ (by decide +kernel)) ggX1_span_X1_isHeight
set_option maxRecDepth 20000 in
theorem ggX1_span_X1_heightAt : GoodIn wsX1_span wsX1_heightAt := goodIn_r _ [20, 21, 22, 23, 24, 25, 26, 27, 7, 28, 2, 29, 30, 31, 32, 33, 34, 35, 36, 37, 38, 39, 40, 41, 42, 43, 44, 45, 46, 47] (by decide +kernel) (by decide +kernel)
set_option maxRecDepth 20000 in
theorem gX1_span_X1_heightAt : GoodIn wsX1_span (wsV RX1 77 RX1 yX1_heightAt wsX1_heightAt) := goodIn_app (goodIn_of _ (by decide +kernel)) ggX1_span_X1_heightAt
set_option maxRecDepth 20000 in
theorem ggX1_squatOf_X1_up : GoodIn wsX1_squatOf wsX1_up := goodIn_r _ [8] (by decide +kernel) (by decide +kernel)
set_option maxRecDepth 20000 in
theorem gX1_squatOf_X1_up : GoodIn wsX1_squatOf (va_wsS RX1 86 yX1_up wsX1_up) := goodIn_app (goodIn_of _ (by decide +kernel)) ggX1_squatOf_X1_up
set_option maxRecDepth 20000 in
theorem ggX1_squat_X1_in : GoodIn wsX1_squat wsX1_in := goodIn_r _ [7] (by decide +kernel) (by decide +kernel)
set_option maxRecDepth 20000 in
theorem gX1_squat_X1_in : GoodIn wsX1_squat (va_wsS RX1 43 yX1_in wsX1_in) := goodIn_app (goodIn_of _ (by decide +kernel)) ggX1_squat_X1_in
set_option maxRecDepth 20000 in
theorem ggX1_squat_X1_squatOf : GoodIn wsX1_squat wsX1_squatOf := goodIn_r _ [11, 12, 13, 14, 15, 16, 17, 6, 18, 19, 20, 21, 22, 23, 24, 25, 26, 27, 28, 29, 30] (by decide +kernel) (by decide +kernel)
set_option maxRecDepth 20000 in
theorem gX1_squat_X1_squatOf : GoodIn wsX1_squat (wsV RX1 93 RX1 yX1_squatOf wsX1_squatOf) := goodIn_app (goodIn_of _ (by decide +kernel)) ggX1_squat_X1_squatOf
set_option maxRecDepth 20000 in
theorem ggX1_passing_X1_in : GoodIn wsX1_passing wsX1_in := goodIn_r _ [8] (by decide +kernel) (by decide +kernel)
set_option maxRecDepth 20000 in
theorem gX1_passing_X1_in : GoodIn wsX1_passing (va_wsS RX1 43 yX1_in wsX1_in) := goodIn_app (goodIn_of _ (by decide +kernel)) ggX1_passing_X1_in
set_option maxRecDepth 20000 in
theorem ggX1_passing_X1_up : GoodIn wsX1_passing wsX1_up := goodIn_r _ [11] (by decide +kernel) (by decide +kernel)
set_option maxRecDepth 20000 in
theorem gX1_passing_X1_up : GoodIn wsX1_passing (va_wsS RX1 86 yX1_up wsX1_up) := goodIn_app (goodIn_of _ (by decide +kernel)) ggX1_passing_X1_up
set_option maxRecDepth 20000 in
theorem ggX1_draft_X1_in : GoodIn wsX1_draft wsX1_in := goodIn_r _ [8] (by decide +kernel) (by decide +kernel)
set_option maxRecDepth 20000 in
theorem gX1_draft_X1_in : GoodIn wsX1_draft (va_wsS RX1 43 yX1_in wsX1_in) := goodIn_app (goodIn_of _ (by decide +kernel)) ggX1_draft_X1_in
set_option maxRecDepth 20000 in
theorem ggX1_draft_X1_up : GoodIn wsX1_draft wsX1_up := goodIn_r _ [11] (by decide +kernel) (by decide +kernel)
set_option maxRecDepth 20000 in
theorem gX1_draft_X1_up : GoodIn wsX1_draft (va_wsS RX1 86 yX1_up wsX1_up) := goodIn_app (goodIn_of _ (by decide +kernel)) ggX1_draft_X1_up
set_option maxRecDepth 20000 in
theorem ggX1_place_X1_in : GoodIn wsX1_place wsX1_in := goodIn_r _ [9] (by decide +kernel) (by decide +kernel)
set_option maxRecDepth 20000 in
theorem gX1_place_X1_in : GoodIn wsX1_place (va_wsS RX1 43 yX1_in wsX1_in) := goodIn_app (goodIn_of _ (by decide +kernel)) ggX1_place_X1_in
set_option maxRecDepth 20000 in
theorem ggX1_place_X1_isHeight : GoodIn wsX1_place wsX1_isHeight := goodIn_r _ [12, 13, 14, 6, 7, 8, 9] (by decide +kernel) (by decide +kernel)
set_option maxRecDepth 20000 in
theorem gX1_place_X1_isHeight : GoodIn wsX1_place (va_wsS RX1 70 yX1_isHeight wsX1_isHeight) := goodIn_app (goodIn_of _ (by decide +kernel)) ggX1_place_X1_isHeight
set_option maxRecDepth 20000 in
theorem ggX1_depth_X1_isInTable : GoodIn wsX1_depth wsX1_isInTable := goodIn_r _ [8, 9, 10, 11, 12, 7, 13, 33, 34, 35, 36, 37, 38, 39, 40, 41, 42, 43, 44] (by decide +kernel) (by decide +kernel)
set_option maxRecDepth 20000 in
theorem gX1_depth_X1_isInTable : GoodIn wsX1_depth (wsV RX1 74 RX1 yX1_isInTable wsX1_isInTable) := goodIn_app (goodIn_of _ (by decide +kernel)) ggX1_depth_X1_isInTable
set_option maxRecDepth 20000 in
theorem ggX1_depth_X1_heightAt : GoodIn wsX1_depth wsX1_heightAt := goodIn_r _ [17, 18, 19, 20, 21, 22, 23, 24, 7, 25, 10, 26, 27, 28, 29, 30, 31, 32, 33, 34, 35, 36, 37, 38, 39, 40, 41, 42, 43, 44] (by decide +kernel) (by decide +kernel)
set_option maxRecDepth 20000 in
theorem gX1_depth_X1_heightAt : GoodIn wsX1_depth (wsV RX1 77 RX1 yX1_heightAt wsX1_heightAt) := goodIn_app (goodIn_of _ (by decide +kernel)) ggX1_depth_X1_heightAt
set_option maxRecDepth 20000 in
theorem ggX1_maySail_X1_squatOf : GoodIn wsX1_maySail wsX1_squatOf := goodIn_r _ [9, 10, 2, 11, 12, 13, 14, 8, 15, 44, 45, 46, 47, 48, 49, 50, 51, 52, 53, 54, 55] (by decide +kernel) (by decide +kernel)
set_option maxRecDepth 20000 in
theorem gX1_maySail_X1_squatOf : GoodIn wsX1_maySail (wsV RX1 93 RX1 yX1_squatOf wsX1_squatOf) := goodIn_app (goodIn_of _ (by decide +kernel)) ggX1_maySail_X1_squatOf
set_option maxRecDepth 20000 in
theorem ggX1_maySail_X1_up : GoodIn wsX1_maySail wsX1_up := goodIn_r _ [15] (by decide +kernel) (by decide +kernel)
set_option maxRecDepth 20000 in
theorem gX1_maySail_X1_up : GoodIn wsX1_maySail (va_wsS RX1 86 yX1_up wsX1_up) := goodIn_app (goodIn_of _ (by decide +kernel)) ggX1_maySail_X1_up
set_option maxRecDepth 20000 in
theorem ggX1_maySail_X1_isInTable : GoodIn wsX1_maySail wsX1_isInTable := goodIn_r _ [19, 20, 21, 22, 23, 8, 24, 44, 45, 46, 47, 48, 49, 50, 51, 52, 53, 54, 55] (by decide +kernel) (by decide +kernel)
set_option maxRecDepth 20000 in
theorem gX1_maySail_X1_isInTable : GoodIn wsX1_maySail (wsV RX1 74 RX1 yX1_isInTable wsX1_isInTable) := goodIn_app (goodIn_of _ (by decide +kernel)) ggX1_maySail_X1_isInTable
set_option maxRecDepth 20000 in
theorem ggX1_maySail_X1_heightAt : GoodIn wsX1_maySail wsX1_heightAt := goodIn_r _ [28, 29, 30, 31, 32, 33, 34, 35, 8, 36, 21, 37, 38, 39, 40, 41, 42, 43, 44, 45, 46, 47, 48, 49, 50, 51, 52, 53, 54, 55] (by decide +kernel) (by decide +kernel)
set_option maxRecDepth 20000 in
theorem gX1_maySail_X1_heightAt : GoodIn wsX1_maySail (wsV RX1 77 RX1 yX1_heightAt wsX1_heightAt) := goodIn_app (goodIn_of _ (by decide +kernel)) ggX1_maySail_X1_heightAt
set_option maxRecDepth 20000 in
theorem ggX1_sail_X1_isInTable : GoodIn wsX1_sail wsX1_isInTable := goodIn_r _ [10, 5, 4, 11, 12, 9, 13, 55, 56, 57, 58, 59, 60, 61, 62, 63, 64, 65, 66] (by decide +kernel) (by decide +kernel)
set_option maxRecDepth 20000 in
theorem gX1_sail_X1_isInTable : GoodIn wsX1_sail (wsV RX1 74 RX1 yX1_isInTable wsX1_isInTable) := goodIn_app (goodIn_of _ (by decide +kernel)) ggX1_sail_X1_isInTable
set_option maxRecDepth 20000 in
theorem ggX1_sail_X1_isHeight : GoodIn wsX1_sail wsX1_isHeight := goodIn_r _ [16, 17, 18, 11, 12, 9, 13] (by decide +kernel) (by decide +kernel)
set_option maxRecDepth 20000 in
theorem gX1_sail_X1_isHeight : GoodIn wsX1_sail (va_wsS RX1 70 yX1_isHeight wsX1_isHeight) := goodIn_app (goodIn_of _ (by decide +kernel)) ggX1_sail_X1_isHeight
set_option maxRecDepth 20000 in
theorem ggX1_sail_X1_in : GoodIn wsX1_sail wsX1_in := goodIn_r _ [13] (by decide +kernel) (by decide +kernel)
set_option maxRecDepth 20000 in
theorem gX1_sail_X1_in : GoodIn wsX1_sail (va_wsS RX1 43 yX1_in wsX1_in) := goodIn_app (goodIn_of _ (by decide +kernel)) ggX1_sail_X1_in
set_option maxRecDepth 20000 in
theorem ggX1_sail_X1_maySail : GoodIn wsX1_sail wsX1_maySail := goodIn_r _ [22, 2, 23, 24, 25, 26, 27, 28, 9, 29, 30, 31, 32, 33, 34, 35, 6, 7, 8, 10, 5, 4, 11, 12, 13, 36, 37, 38, 39, 40, 41, 42, 43, 44, 45, 46, 47, 48, 49, 50, 51, 52, 53, 54, 55, 56, 57, 58, 59, 60, 61, 62, 63, 64, 65, 66] (by decide +kernel) (by decide +kernel)
set_option maxRecDepth 20000 in
theorem gX1_sail_X1_maySail : GoodIn wsX1_sail (wsV RX1 105 RX1 yX1_maySail wsX1_maySail) := goodIn_app (goodIn_of _ (by decide +kernel)) ggX1_sail_X1_maySail
end
section
set_option maxRecDepth 20000 in
theorem ggL_turn_X0_turn : GoodIn wsL_turn wsX0_turn := goodIn_ca (goodIn_ca (goodIn_r _ [7, 8, 9, 10, 11, 12, 13, 14, 15, 16, 17, 6, 18, 19, 20, 21, 22, 23, 24, 25, 26, 27, 28, 29, 30, 31, 32, 33, 34, 35, 36] (by decide +kernel) (by decide +kernel)) (goodIn_sub (fun _ h => List.mem_cons_of_mem _ (List.mem_append_left _ (List.mem_append_right _ h))) (by decide +kernel))) (goodIn_sub (fun _ h => List.mem_cons_of_mem _ (List.mem_append_right _ h)) (by decide +kernel))
set_option maxRecDepth 20000 in
theorem gL_turn_X0_turn : GoodIn wsL_turn (wsV RL 7 RX0 yX0_turn wsX0_turn) := goodIn_app (goodIn_of _ (by decide +kernel)) ggL_turn_X0_turn
set_option maxRecDepth 20000 in
theorem ggL_height_X0_height : GoodIn wsL_height wsX0_height := goodIn_ca (goodIn_r _ [6, 7, 8, 9, 10, 11, 5, 12, 13, 14, 15, 16, 17, 18, 19, 20, 21, 22, 23, 24, 25, 26, 27, 28, 29, 30, 31, 32, 33, 34, 35, 36, 37, 38, 39, 40, 41, 42, 43, 44, 45, 46, 47, 48, 49, 50, 51, 52, 53, 54, 55, 56, 57, 58, 59, 60, 61, 62, 63, 64, 65, 66, 67, 68, 69, 70] (by decide +kernel) (by decide +kernel)) (goodIn_sub (fun _ h => List.mem_cons_of_mem _ (List.mem_append_right _ h)) (by decide +kernel))
set_option maxRecDepth 20000 in
theorem gL_height_X0_height : GoodIn wsL_height (wsV RL 17 RX0 yX0_height wsX0_height) := goodIn_app (goodIn_of _ (by decide +kernel)) ggL_height_X0_height
set_option maxRecDepth 20000 in
theorem ggL_observe_X0_observe : GoodIn wsL_observe wsX0_observe := goodIn_ca (goodIn_ca (goodIn_r _ [7, 8, 9, 10, 11, 12, 13, 14, 15, 16, 17, 6, 18, 19, 20, 21, 22, 23, 24, 25, 26, 27, 28, 29, 30, 31, 32, 33, 34, 35, 36, 37, 38, 39, 40, 41, 42, 43, 44, 45, 46, 47, 48, 49, 50, 51, 52, 53, 54, 55, 56, 57, 58, 59, 60, 61, 62, 63, 64, 65, 66, 67, 68] (by decide +kernel) (by decide +kernel)) (goodIn_sub (fun _ h => List.mem_cons_of_mem _ (List.mem_append_left _ (List.mem_append_right _ h))) (by decide +kernel))) (goodIn_sub (fun _ h => List.mem_cons_of_mem _ (List.mem_append_right _ h)) (by decide +kernel))
set_option maxRecDepth 20000 in
theorem gL_observe_X0_observe : GoodIn wsL_observe (wsV RL 21 RX0 yX0_observe wsX0_observe) := goodIn_app (goodIn_of _ (by decide +kernel)) ggL_observe_X0_observe
set_option maxRecDepth 20000 in
theorem ggL_span_X0_span : GoodIn wsL_span wsX0_span := goodIn_ca (goodIn_r _ [6, 7, 8, 9, 10, 11, 12, 5, 13, 14, 15, 16, 17, 18, 19, 20, 21, 22, 23, 24, 25, 26, 27, 28, 29, 30, 31, 32, 33, 34, 35, 36, 37, 38, 39, 40, 41, 42, 43, 44, 45, 46, 47, 48, 49, 50, 51, 52, 53, 54, 55, 56, 57, 58, 59, 60, 61, 62, 63, 64, 65, 66, 67, 68, 69, 70, 71, 72, 73, 74, 75, 76, 77, 78, 79, 80, 81, 82, 83, 84, 85, 86, 87, 88, 89, 90, 91, 92, 93, 94, 95, 96, 97, 98, 99, 100, 101] (by decide +kernel) (by decide +kernel)) (goodIn_sub (fun _ h => List.mem_cons_of_mem _ (List.mem_append_right _ h)) (by decide +kernel))
set_option maxRecDepth 20000 in
theorem gL_span_X0_span : GoodIn wsL_span (wsV RL 24 RX0 yX0_span wsX0_span) := goodIn_app (goodIn_of _ (by decide +kernel)) ggL_span_X0_span
set_option maxRecDepth 20000 in
theorem ggL_squat_X0_squat : GoodIn wsL_squat wsX0_squat := goodIn_ca (goodIn_r _ [6, 7, 8, 9, 10, 11, 12, 5, 13, 14, 15, 16, 17, 18, 19, 20, 21, 22, 23, 24, 25] (by decide +kernel) (by decide +kernel)) (goodIn_sub (fun _ h => List.mem_cons_of_mem _ (List.mem_append_right _ h)) (by decide +kernel))
set_option maxRecDepth 20000 in
theorem gL_squat_X0_squat : GoodIn wsL_squat (wsV RL 28 RX0 yX0_squat wsX0_squat) := goodIn_app (goodIn_of _ (by decide +kernel)) ggL_squat_X0_squat
set_option maxRecDepth 20000 in
theorem ggL_passing_X0_passing : GoodIn wsL_passing wsX0_passing := goodIn_ca (goodIn_ca (goodIn_r _ [7, 8, 9, 10, 11, 12, 13, 14, 15, 6, 16, 17, 18, 19, 20, 21, 22, 23] (by decide +kernel) (by decide +kernel)) (goodIn_sub (fun _ h => List.mem_cons_of_mem _ (List.mem_append_left _ (List.mem_append_right _ h))) (by decide +kernel))) (goodIn_sub (fun _ h => List.mem_cons_of_mem _ (List.mem_append_right _ h)) (by decide +kernel))
set_option maxRecDepth 20000 in
theorem gL_passing_X0_passing : GoodIn wsL_passing (wsV RL 32 RX0 yX0_passing wsX0_passing) := goodIn_app (goodIn_of _ (by decide +kernel)) ggL_passing_X0_passing
set_option maxRecDepth 20000 in
theorem ggL_cosine_X0_cosine : GoodIn wsL_cosine wsX0_cosine := goodIn_r _ [5, 6, 7, 8, 9, 10, 11, 12, 13, 14, 15] (by decide +kernel) (by decide +kernel)
set_option maxRecDepth 20000 in
theorem gL_cosine_X0_cosine : GoodIn wsL_cosine (wsV RL 37 RX0 yX0_cosine wsX0_cosine) := goodIn_app (goodIn_of _ (by decide +kernel)) ggL_cosine_X0_cosine
set_option maxRecDepth 20000 in
theorem ggL_draft_X0_draft : GoodIn wsL_draft wsX0_draft := goodIn_ca (goodIn_r _ [6, 7, 8, 9, 10, 11, 5, 12, 13, 14, 15, 16, 17, 18, 19, 20] (by decide +kernel) (by decide +kernel)) (goodIn_sub (fun _ h => List.mem_cons_of_mem _ (List.mem_append_right _ h)) (by decide +kernel))
set_option maxRecDepth 20000 in
theorem gL_draft_X0_draft : GoodIn wsL_draft (wsV RL 43 RX0 yX0_draft wsX0_draft) := goodIn_app (goodIn_of _ (by decide +kernel)) ggL_draft_X0_draft
set_option maxRecDepth 20000 in
theorem ggL_place_X0_place : GoodIn wsL_place wsX0_place := goodIn_ca (goodIn_ca (goodIn_r _ [7, 8, 9, 10, 11, 12, 13, 14, 15, 16, 17, 6, 18, 19, 20, 21, 22, 23, 24, 25, 26, 27, 28, 29, 30, 31, 32] (by decide +kernel) (by decide +kernel)) (goodIn_sub (fun _ h => List.mem_cons_of_mem _ (List.mem_append_left _ (List.mem_append_right _ h))) (by decide +kernel))) (goodIn_sub (fun _ h => List.mem_cons_of_mem _ (List.mem_append_right _ h)) (by decide +kernel))
set_option maxRecDepth 20000 in
theorem gL_place_X0_place : GoodIn wsL_place (wsV RL 47 RX0 yX0_place wsX0_place) := goodIn_app (goodIn_of _ (by decide +kernel)) ggL_place_X0_place
set_option maxRecDepth 20000 in
theorem ggL_depth_X0_depth : GoodIn wsL_depth wsX0_depth := goodIn_ca (goodIn_ca (goodIn_r _ [7, 8, 9, 10, 11, 12, 13, 14, 15, 16, 6, 17, 18, 19, 20, 21, 22, 23, 24, 25, 26, 27, 28, 29, 30, 31, 32, 33, 34, 35, 36, 37, 38, 39, 40, 41, 42, 43, 44, 45, 46, 47, 48, 49, 50, 51, 52, 53, 54, 55, 56, 57, 58, 59, 60, 61, 62, 63, 64, 65, 66, 67, 68, 69, 70, 71, 72, 73, 74, 75] (by decide +kernel) (by decide +kernel)) (goodIn_sub (fun _ h => List.mem_cons_of_mem _ (List.mem_append_left _ (List.mem_append_right _ h))) (by decide +kernel))) (goodIn_sub (fun _ h => List.mem_cons_of_mem _ (List.mem_append_right _ h)) (by decide +kernel))
set_option maxRecDepth 20000 in
theorem gL_depth_X0_depth : GoodIn wsL_depth (wsV RL 50 RX0 yX0_depth wsX0_depth) := goodIn_app (goodIn_of _ (by decide +kernel)) ggL_depth_X0_depth
set_option maxRecDepth 20000 in
theorem ggL_sail_X0_sail : GoodIn wsL_sail wsX0_sail := goodIn_ca (goodIn_ca (goodIn_ca (goodIn_r _ [8, 9, 10, 11, 12, 13, 14, 15, 16, 17, 18, 19, 7, 20, 21, 22, 23, 24, 25, 26, 27, 28, 29, 30, 31, 32, 33, 34, 35, 36, 37, 38, 39, 40, 41, 42, 43, 44, 45, 46, 47, 48, 49, 50, 51, 52, 53, 54, 55, 56, 57, 58, 59, 60, 61, 62, 63, 64, 65, 66, 67, 68, 69, 70, 71, 72, 73, 74, 75, 76, 77, 78, 79, 80, 81, 82, 83, 84, 85, 86, 87, 88, 89, 90, 91, 92, 93, 94, 95, 96, 97, 98, 99, 100, 101, 102, 103, 104, 105, 106, 107, 108, 109, 110, 111, 112, 113, 114, 115, 116, 117, 118, 119, 120, 121, 122, 123, 124, 125, 126, 127, 128, 129, 130] (by decide +kernel) (by decide +kernel)) (goodIn_sub (fun _ h => List.mem_cons_of_mem _ (List.mem_append_left _ (List.mem_append_left _ (List.mem_append_right _ h)))) (by decide +kernel))) (goodIn_sub (fun _ h => List.mem_cons_of_mem _ (List.mem_append_left _ (List.mem_append_right _ h))) (by decide +kernel))) (goodIn_sub (fun _ h => List.mem_cons_of_mem _ (List.mem_append_right _ h)) (by decide +kernel))
set_option maxRecDepth 20000 in
theorem gL_sail_X0_sail : GoodIn wsL_sail (wsV RL 56 RX0 yX0_sail wsX0_sail) := goodIn_app (goodIn_of _ (by decide +kernel)) ggL_sail_X0_sail
set_option maxRecDepth 20000 in
theorem ggL_read_X0_read : GoodIn wsL_read wsX0_read := goodIn_ca (goodIn_r _ [6, 7, 8, 9, 10, 11, 12, 13, 14, 15, 16, 17, 18, 19, 20, 21, 22, 23] (by decide +kernel) (by decide +kernel)) (goodIn_sub (fun _ h => List.mem_cons_of_mem _ (List.mem_append_right _ h)) (by decide +kernel))
set_option maxRecDepth 20000 in
theorem gL_read_X0_read : GoodIn wsL_read (wsV RL 59 RX0 yX0_read wsX0_read) := goodIn_app (goodIn_of _ (by decide +kernel)) ggL_read_X0_read
end
section
/-! OUR WORDS: the class's cells, the reference's cells, the static tables, and rows for calls of methods that write nothing -/
def cosL : List Int32 := [0, 20, 79, 177, 315, 491, 705, 958, 1247, 1573, 1935, 2331, 2761, 3224, 3719, 4244, 4799, 5381, 5990, 6624, 7282, 7961, 8661, 9379, 10114, 10864, 11628, 12403, 13188, 13980, 14778, 15580, 16384, 17188, 17990, 18788, 19580, 20365, 21140, 21904, 22654, 23389, 24107, 24807, 25486, 26144, 26778, 27387, 27969, 28524, 29049, 29544, 30007, 30437, 30833, 31195, 31521, 31810, 32063, 32277, 32453, 32591, 32689, 32748, 32768]
def cosT (j : Nat) : Int32 := cosL.getD j 0
def sqL : List Int32 := [0, 3, 11, 24, 43, 68, 100]
def sqT (j : Nat) : Int32 := sqL.getD j 0
abbrev cls2 : List vw_C := [(RX0, TX0, 9), (RX1, TX1, 12)]
/-- what the class's cells hold: times and heights of the turns, their number; of the observations; of the places -/
abbrev XS : Type := (Nat → Int64) × (Nat → Int64) × Int32 × (Nat → Int64) × (Nat → Int64) × Int32 × (Nat → Int64) × (Nat → Int64) × Int32
abbrev xTT (u : XS) : Nat → Int64 := u.1
abbrev xTH (u : XS) : Nat → Int64 := u.2.1
abbrev xNT (u : XS) : Int32 := u.2.2.1
abbrev xOT (u : XS) : Nat → Int64 := u.2.2.2.1
abbrev xOD (u : XS) : Nat → Int64 := u.2.2.2.2.1
abbrev xNO (u : XS) : Int32 := u.2.2.2.2.2.1
abbrev xPW (u : XS) : Nat → Int64 := u.2.2.2.2.2.2.1
abbrev xPB (u : XS) : Nat → Int64 := u.2.2.2.2.2.2.2.1
abbrev xNP (u : XS) : Int32 := u.2.2.2.2.2.2.2.2
abbrev x0W (cJ : ClassId) (h0 a1 a2 a3 a4 a5 a6 : Nat) (u : XS) : va_W := [(h0, .inr (0, [.ref a1, .ref a2, .int (xNT u), .ref a3, .ref a4, .int (xNO u), .ref a5, .ref a6, .int (xNP u)])), (a1, .inl (cJ, 40, .inr (.inl (xTT u)))), (a2, .inl (cJ, 40, .inr (.inl (xTH u)))), (a3, .inl (cJ, 16, .inr (.inl (xOT u)))), (a4, .inl (cJ, 16, .inr (.inl (xOD u)))), (a5, .inl (cJ, 12, .inr (.inl (xPW u)))), (a6, .inl (cJ, 12, .inr (.inl (xPB u))))]
/-- the static tables -/
def SW (A : Nat → Prop) (tC tS : Nat) (U : State) (H : Heap) : Prop := va_Z "TideDepths" "COSINE" "[I" (.ref tC) A U H ∧ va_T .int tC 65 (fun j => .int (cosT j)) A U H ∧ va_Z "TideDepths" "SQUAT_ROWS" "[I" (.ref tS) A U H ∧ va_T .int tS 7 (fun j => .int (sqT j)) A U H
theorem SW.moved {A : Nat → Prop} {tC tS : Nat} {u U : State} {H : Heap} (hvm : u.vm.Alike U.vm) (h : SW A tC tS u H) : SW A tC tS U H := ⟨va_Z.moved hvm h.1, va_T.moved hvm h.2.1, va_Z.moved hvm h.2.2.1, va_T.moved hvm h.2.2.2⟩
theorem SW.kept {A : Nat → Prop} {tC tS : Nat} {U : State} {H H1 : Heap} (h : SW A tC tS U H) (hq : ∀ a : Nat, a < H.size → ¬ A a → H1[a]? = H[a]?) : SW A tC tS U H1 := ⟨va_Z.kept h.1 hq, va_T.kept h.2.1 hq, va_Z.kept h.2.2.1 hq, va_T.kept h.2.2.2 hq⟩
theorem SW.narrow {A B : Nat → Prop} {tC tS : Nat} {U : State} {H : Heap} (h : SW A tC tS U H) (hAB : ∀ q, B q → A q) : SW B tC tS U H := ⟨va_Z.narrow h.1 hAB, va_T.narrow h.2.1 hAB, va_Z.narrow h.2.2.1 hAB, va_T.narrow h.2.2.2 hAB⟩
abbrev nA : Nat → Prop := fun _ => False
theorem nS {H : Heap} : va_S nA H H [] := va_S.rf
/-- the class's world in the heap H -/
def XW (D : va_G) (cJ : ClassId) (h0 a1 a2 a3 a4 a5 a6 tC tS : Nat) (u : XS) (U : State) (H : Heap) : Prop := va_P D cls2 (x0W cJ h0 a1 a2 a3 a4 a5 a6 u) H ∧ va_K D cls2 [(cJ, .long)] U ∧ SW nA tC tS U H
theorem XW.moved {D : va_G} {cJ : ClassId} {h0 a1 a2 a3 a4 a5 a6 tC tS : Nat} {x : XS} {u U : State} {H : Heap} (hvm : u.vm.Alike U.vm) (h : XW D cJ h0 a1 a2 a3 a4 a5 a6 tC tS x u H) : XW D cJ h0 a1 a2 a3 a4 a5 a6 tC tS x U H := ⟨h.1, va_K.moved hvm h.2.1, SW.moved hvm h.2.2⟩
/-- what the reference's cells hold -/
abbrev YS : Type := Int32 × Int32 × Int32 × Int32 × (Nat → Int32) × (Nat → Int32) × (Nat → Int32) × (Nat → Int64) × (Nat → Int64) × (Nat → Int64) × (Nat → Int32) × (Nat → Int32)
abbrev yTH (y : YS) : Int32 := y.1
abbrev yNT (y : YS) : Int32 := y.2.1
abbrev yNO (y : YS) : Int32 := y.2.2.1
abbrev yNP (y : YS) : Int32 := y.2.2.2.1
abbrev yT (y : YS) : Nat → Int32 := y.2.2.2.2.1
abbrev yH (y : YS) : Nat → Int32 := y.2.2.2.2.2.1
abbrev yO (y : YS) : Nat → Int32 := y.2.2.2.2.2.2.1
abbrev yD (y : YS) : Nat → Int64 := y.2.2.2.2.2.2.2.1
abbrev yW (y : YS) : Nat → Int64 := y.2.2.2.2.2.2.2.2.1
abbrev yB (y : YS) : Nat → Int64 := y.2.2.2.2.2.2.2.2.2.1
abbrev yC (y : YS) : Nat → Int32 := y.2.2.2.2.2.2.2.2.2.2.1
abbrev yQ (y : YS) : Nat → Int32 := y.2.2.2.2.2.2.2.2.2.2.2
abbrev x1W (cI cJ : ClassId) (k0 b1 b2 b3 b4 b5 b6 b7 b8 : Nat) (y : YS) : va_W := [(k0, .inr (1, [.int (yTH y), .int (yNT y), .int (yNO y), .int (yNP y), .ref b1, .ref b2, .ref b3, .ref b4, .ref b5, .ref b6, .ref b7, .ref b8])), (b1, .inl (cI, 40, .inl (yT y))), (b2, .inl (cI, 40, .inl (yH y))), (b3, .inl (cI, 16, .inl (yO y))), (b4, .inl (cJ, 16, .inr (.inl (yD y)))), (b5, .inl (cJ, 12, .inr (.inl (yW y)))), (b6, .inl (cJ, 12, .inr (.inl (yB y)))), (b7, .inl (cI, 65, .inl (yC y))), (b8, .inl (cI, 7, .inl (yQ y)))]
/-- the reference's world -/
def YW (D : va_G) (cI cJ : ClassId) (k0 b1 b2 b3 b4 b5 b6 b7 b8 : Nat) (y : YS) (U : State) (H : Heap) : Prop := va_P D cls2 (x1W cI cJ k0 b1 b2 b3 b4 b5 b6 b7 b8 y) H ∧ va_K D cls2 [(cI, .int), (cJ, .long)] U
theorem YW.moved {D : va_G} {cI cJ : ClassId} {k0 b1 b2 b3 b4 b5 b6 b7 b8 : Nat} {y : YS} {u U : State} {H : Heap} (hvm : u.vm.Alike U.vm) (h : YW D cI cJ k0 b1 b2 b3 b4 b5 b6 b7 b8 y u H) : YW D cI cJ k0 b1 b2 b3 b4 b5 b6 b7 b8 y U H := ⟨h.1, va_K.moved hvm h.2⟩
theorem bz_nar {r : Int32} (h : r = 0 ∨ r = 1) : narrow .boolean (.int r) = .int r := by
  rcases h with h | h
  · rw [h]; rfl
  · rw [h]; rfl
section OB
variable {p : Program} {l : Launch} {e : Env} {R : Room} {s : State} {m : MethodId} {args : Array Value} {below : List Frame} {meth : Method} {c : Code} {H : Heap} {locs : List Loc} {cells slots : Nat} {Q : State → Prop} {cc : ByteArray} {pc : Nat} {ls : Array Slot} {rest : List Value}
theorem bl_lt (hx : p.tables.exec = Jvm.exec) (hb : c.code = cc) {x y : Int64} {off : Int} {tgt : Nat} (d1 : decode cc pc = .ok (.lcmp, 1)) (d2 : decode cc (pc + 1) = .ok (.ifCond .lt off, 3)) (ht : ((pc + 1 : Nat) : Int) + off = (tgt : Int)) (kt : x < y → W p l e R s m args below meth c H locs cells slots Q (F0 m tgt ls rest)) (kf : ¬ x < y → W p l e R s m args below meth c H locs cells slots Q (F0 m (pc + 1 + 3) ls rest)) : W p l e R s m args below meth c H locs cells slots Q (F0 m pc ls (.long y :: .long x :: rest)) :=
  W.lcmp hx hb d1 (lv_if_lt hx hb d2 ht (fun h => kt ((lg_cmp_lt x y).mp h)) (fun h => kf (fun z => h ((lg_cmp_lt x y).mpr z))))
theorem bl_ge (hx : p.tables.exec = Jvm.exec) (hb : c.code = cc) {x y : Int64} {off : Int} {tgt : Nat} (d1 : decode cc pc = .ok (.lcmp, 1)) (d2 : decode cc (pc + 1) = .ok (.ifCond .ge off, 3)) (ht : ((pc + 1 : Nat) : Int) + off = (tgt : Int)) (kt : y ≤ x → W p l e R s m args below meth c H locs cells slots Q (F0 m tgt ls rest)) (kf : ¬ y ≤ x → W p l e R s m args below meth c H locs cells slots Q (F0 m (pc + 1 + 3) ls rest)) : W p l e R s m args below meth c H locs cells slots Q (F0 m pc ls (.long y :: .long x :: rest)) :=
  W.lcmp hx hb d1 (lv_if_ge hx hb d2 ht (fun h => kt ((lg_cmp_ge x y).mp h)) (fun h => kf (fun z => h ((lg_cmp_ge x y).mpr z))))
theorem bl_gt (hx : p.tables.exec = Jvm.exec) (hb : c.code = cc) {x y : Int64} {off : Int} {tgt : Nat} (d1 : decode cc pc = .ok (.lcmp, 1)) (d2 : decode cc (pc + 1) = .ok (.ifCond .gt off, 3)) (ht : ((pc + 1 : Nat) : Int) + off = (tgt : Int)) (kt : y < x → W p l e R s m args below meth c H locs cells slots Q (F0 m tgt ls rest)) (kf : ¬ y < x → W p l e R s m args below meth c H locs cells slots Q (F0 m (pc + 1 + 3) ls rest)) : W p l e R s m args below meth c H locs cells slots Q (F0 m pc ls (.long y :: .long x :: rest)) :=
  W.lcmp hx hb d1 (lv_if_gt hx hb d2 ht (fun h => kt ((lg_cmp_gt x y).mp h)) (fun h => kf (fun z => h ((lg_cmp_gt x y).mpr z))))
theorem bl_le (hx : p.tables.exec = Jvm.exec) (hb : c.code = cc) {x y : Int64} {off : Int} {tgt : Nat} (d1 : decode cc pc = .ok (.lcmp, 1)) (d2 : decode cc (pc + 1) = .ok (.ifCond .le off, 3)) (ht : ((pc + 1 : Nat) : Int) + off = (tgt : Int)) (kt : x ≤ y → W p l e R s m args below meth c H locs cells slots Q (F0 m tgt ls rest)) (kf : ¬ x ≤ y → W p l e R s m args below meth c H locs cells slots Q (F0 m (pc + 1 + 3) ls rest)) : W p l e R s m args below meth c H locs cells slots Q (F0 m pc ls (.long y :: .long x :: rest)) :=
  W.lcmp hx hb d1 (lv_if_le hx hb d2 ht (fun h => kt ((lg_cmp_le x y).mp h)) (fun h => kf (fun z => h ((lg_cmp_le x y).mpr z))))
theorem bl_eq (hx : p.tables.exec = Jvm.exec) (hb : c.code = cc) {x y : Int64} {off : Int} {tgt : Nat} (d1 : decode cc pc = .ok (.lcmp, 1)) (d2 : decode cc (pc + 1) = .ok (.ifCond .eq off, 3)) (ht : ((pc + 1 : Nat) : Int) + off = (tgt : Int)) (kt : x = y → W p l e R s m args below meth c H locs cells slots Q (F0 m tgt ls rest)) (kf : ¬ x = y → W p l e R s m args below meth c H locs cells slots Q (F0 m (pc + 1 + 3) ls rest)) : W p l e R s m args below meth c H locs cells slots Q (F0 m pc ls (.long y :: .long x :: rest)) :=
  W.lcmp hx hb d1 (lv_if_eq hx hb d2 ht (fun h => kt ((lg_cmp_eq x y).mp h)) (fun h => kf (fun z => h ((lg_cmp_eq x y).mpr z))))
theorem bl_ne (hx : p.tables.exec = Jvm.exec) (hb : c.code = cc) {x y : Int64} {off : Int} {tgt : Nat} (d1 : decode cc pc = .ok (.lcmp, 1)) (d2 : decode cc (pc + 1) = .ok (.ifCond .ne off, 3)) (ht : ((pc + 1 : Nat) : Int) + off = (tgt : Int)) (kt : ¬ x = y → W p l e R s m args below meth c H locs cells slots Q (F0 m tgt ls rest)) (kf : x = y → W p l e R s m args below meth c H locs cells slots Q (F0 m (pc + 1 + 3) ls rest)) : W p l e R s m args below meth c H locs cells slots Q (F0 m pc ls (.long y :: .long x :: rest)) :=
  W.lcmp hx hb d1 (lv_if_ne hx hb d2 ht (fun h => kt (fun z => h ((lg_cmp_eq x y).mpr z))) (fun h => kf ((lg_cmp_eq x y).mp h)))
variable {y : MethodName} {bytes : ByteArray} {maxL nL n index : Nat} {ret : Option FieldType} {ws : List Cond} {rm : Room} {Ts : List Cond} {own C : String} {b : Addr} {As : List Value} {st0 : List Value} {B : State → Prop}
/-- a static call of a method that writes nothing -/
theorem pc_Sl {post : Int64 → Prop} (S : CallFix p m c cc nL s args Ts own) (hM : Met l y ws rm (va_Pc As B) (vp_Sl post) 0 0 nA) (cw : CallB R s args own index y bytes maxL ret ws rm 0 0 n ∧ (Cond.static y).before args s = true) (hbl : ∀ U V : State, V.heap = U.heap → V.vm = U.vm → B U → B V) (hB : ∀ U : State, U.heap = H → s.vm.Alike U.vm → B U) (hn : As.length = n) (hsize : ls.size = nL) (hstack : st0 = As.reverse ++ rest) (hW : (rest.map fun v => v.category).sum ≤ 8) (hdg : decode cc pc = .ok (.invokestatic index, 3)) (hf : cells + 0 ≤ R.cells ∧ slots + 0 ≤ R.slots)
    (kk : ∀ r : Int64, post r → W p l e R s m args below meth c H locs cells slots Q (F0 m (pc + 3) ls (.long r :: rest))) : W p l e R s m args below meth c H locs cells slots Q (F0 m pc ls st0) :=
  vp_callSl (W.runS S hM cw ⟨fun a U g mk h => ⟨h.1, hbl U _ rfl rfl h.2⟩, fun U hU hWm => ⟨rfl, hB U hU hWm.alike⟩⟩ rfl hn hsize hstack (lv_room hW) hdg hf) kk
theorem pc_Si {post : Int32 → Prop} (S : CallFix p m c cc nL s args Ts own) (hM : Met l y ws rm (va_Pc As B) (vp_Si post) 0 0 nA) (cw : CallB R s args own index y bytes maxL ret ws rm 0 0 n ∧ (Cond.static y).before args s = true) (hbl : ∀ U V : State, V.heap = U.heap → V.vm = U.vm → B U → B V) (hB : ∀ U : State, U.heap = H → s.vm.Alike U.vm → B U) (hn : As.length = n) (hsize : ls.size = nL) (hstack : st0 = As.reverse ++ rest) (hW : (rest.map fun v => v.category).sum ≤ 8) (hdg : decode cc pc = .ok (.invokestatic index, 3)) (hf : cells + 0 ≤ R.cells ∧ slots + 0 ≤ R.slots)
    (kk : ∀ r : Int32, post r → W p l e R s m args below meth c H locs cells slots Q (F0 m (pc + 3) ls (.int r :: rest))) : W p l e R s m args below meth c H locs cells slots Q (F0 m pc ls st0) :=
  vp_callSi (W.runS S hM cw ⟨fun a U g mk h => ⟨h.1, hbl U _ rfl rfl h.2⟩, fun U hU hWm => ⟨rfl, hB U hU hWm.alike⟩⟩ rfl hn hsize hstack (lv_room hW) hdg hf) kk
/-- a call on an object, of a method that writes nothing -/
theorem pc_Vl {post : Int64 → Prop} (S : CallFix p m c cc nL s args Ts own) (hM : Met l y ws rm (va_Pc (.ref b :: As) B) (vp_Sl post) 0 0 nA) (cw : CallW R s args own C index y bytes maxL ret ws rm 0 0 n) (hrc : ∃ cellB : Cell, H[b]? = some cellB ∧ cellB.vm.isStatics = false ∧ s.vm.findClass C = some cellB.cls) (hbl : ∀ U V : State, V.heap = U.heap → V.vm = U.vm → B U → B V) (hB : ∀ U : State, U.heap = H → s.vm.Alike U.vm → B U) (hn : As.length = n) (hsize : ls.size = nL) (hstack : st0 = As.reverse ++ .ref b :: rest) (hW : (rest.map fun v => v.category).sum ≤ 8) (hdg : decode cc pc = .ok (.invokevirtual index, 3)) (hf : cells + 0 ≤ R.cells ∧ slots + 0 ≤ R.slots)
    (kk : ∀ r : Int64, post r → W p l e R s m args below meth c H locs cells slots Q (F0 m (pc + 3) ls (.long r :: rest))) : W p l e R s m args below meth c H locs cells slots Q (F0 m pc ls st0) :=
  vp_callSl (W.runV S hM cw ⟨fun a U g mk h => ⟨h.1, hbl U _ rfl rfl h.2⟩, hrc, fun U hU hWm => ⟨rfl, hB U hU hWm.alike⟩⟩ rfl hn hsize hstack (lv_room hW) hdg hf) kk
theorem pc_Vi {post : Int32 → Prop} (S : CallFix p m c cc nL s args Ts own) (hM : Met l y ws rm (va_Pc (.ref b :: As) B) (vp_Si post) 0 0 nA) (cw : CallW R s args own C index y bytes maxL ret ws rm 0 0 n) (hrc : ∃ cellB : Cell, H[b]? = some cellB ∧ cellB.vm.isStatics = false ∧ s.vm.findClass C = some cellB.cls) (hbl : ∀ U V : State, V.heap = U.heap → V.vm = U.vm → B U → B V) (hB : ∀ U : State, U.heap = H → s.vm.Alike U.vm → B U) (hn : As.length = n) (hsize : ls.size = nL) (hstack : st0 = As.reverse ++ .ref b :: rest) (hW : (rest.map fun v => v.category).sum ≤ 8) (hdg : decode cc pc = .ok (.invokevirtual index, 3)) (hf : cells + 0 ≤ R.cells ∧ slots + 0 ≤ R.slots)
    (kk : ∀ r : Int32, post r → W p l e R s m args below meth c H locs cells slots Q (F0 m (pc + 3) ls (.int r :: rest))) : W p l e R s m args below meth c H locs cells slots Q (F0 m pc ls st0) :=
  vp_callSi (W.runV S hM cw ⟨fun a U g mk h => ⟨h.1, hbl U _ rfl rfl h.2⟩, hrc, fun U hU hWm => ⟨rfl, hB U hU hWm.alike⟩⟩ rfl hn hsize hstack (lv_room hW) hdg hf) kk
end OB
/-- how a world is handed to a callee: it doesn't see the frames; it moves with the machine -/
theorem wX_bl {D : va_G} {cJ : ClassId} {h0 a1 a2 a3 a4 a5 a6 tC tS : Nat} {x : XS} {K : Prop} : ∀ U V : State, V.heap = U.heap → V.vm = U.vm → (XW D cJ h0 a1 a2 a3 a4 a5 a6 tC tS x U U.heap ∧ K) → (XW D cJ h0 a1 a2 a3 a4 a5 a6 tC tS x V V.heap ∧ K) := fun U V e1 e2 h => ⟨by rw [e1]; exact XW.moved (by rw [e2]; exact Vm.Alike.refl _) h.1, h.2⟩
theorem wX_in {D : va_G} {cJ : ClassId} {h0 a1 a2 a3 a4 a5 a6 tC tS : Nat} {x : XS} {K : Prop} {s : State} {H : Heap} (hW : XW D cJ h0 a1 a2 a3 a4 a5 a6 tC tS x s H) (hw : K) : ∀ U : State, U.heap = H → s.vm.Alike U.vm → (XW D cJ h0 a1 a2 a3 a4 a5 a6 tC tS x U U.heap ∧ K) := fun U e1 e2 => ⟨by rw [e1]; exact XW.moved e2 hW, hw⟩
theorem wX_rc {D : va_G} {cJ : ClassId} {h0 a1 a2 a3 a4 a5 a6 tC tS : Nat} {x : XS} {s : State} {H : Heap} (hW : XW D cJ h0 a1 a2 a3 a4 a5 a6 tC tS x s H) : ∃ cellB : Cell, H[h0]? = some cellB ∧ cellB.vm.isStatics = false ∧ s.vm.findClass RX0 = some cellB.cls := va_recv (ci := 0) (q0 := 0) hW.2.1 hW.1 rfl rfl
theorem wY_bl {D : va_G} {cI cJ : ClassId} {k0 b1 b2 b3 b4 b5 b6 b7 b8 : Nat} {y : YS} {K : Prop} : ∀ U V : State, V.heap = U.heap → V.vm = U.vm → (YW D cI cJ k0 b1 b2 b3 b4 b5 b6 b7 b8 y U U.heap ∧ K) → (YW D cI cJ k0 b1 b2 b3 b4 b5 b6 b7 b8 y V V.heap ∧ K) := fun U V e1 e2 h => ⟨by rw [e1]; exact YW.moved (by rw [e2]; exact Vm.Alike.refl _) h.1, h.2⟩
theorem wY_in {D : va_G} {cI cJ : ClassId} {k0 b1 b2 b3 b4 b5 b6 b7 b8 : Nat} {y : YS} {K : Prop} {s : State} {H : Heap} (hW : YW D cI cJ k0 b1 b2 b3 b4 b5 b6 b7 b8 y s H) (hw : K) : ∀ U : State, U.heap = H → s.vm.Alike U.vm → (YW D cI cJ k0 b1 b2 b3 b4 b5 b6 b7 b8 y U U.heap ∧ K) := fun U e1 e2 => ⟨by rw [e1]; exact YW.moved e2 hW, hw⟩
theorem wY_rc {D : va_G} {cI cJ : ClassId} {k0 b1 b2 b3 b4 b5 b6 b7 b8 : Nat} {y : YS} {s : State} {H : Heap} (hW : YW D cI cJ k0 b1 b2 b3 b4 b5 b6 b7 b8 y s H) : ∃ cellB : Cell, H[k0]? = some cellB ∧ cellB.vm.isStatics = false ∧ s.vm.findClass RX1 = some cellB.cls := va_recv (ci := 1) (q0 := 0) hW.2 hW.1 rfl rfl
theorem wK_bl {K : Prop} : ∀ U V : State, V.heap = U.heap → V.vm = U.vm → (fun _ : State => K) U → (fun _ : State => K) V := fun _ _ _ _ h => h
theorem wS_bl {tC tS : Nat} {K : Prop} : ∀ U V : State, V.heap = U.heap → V.vm = U.vm → (SW nA tC tS U U.heap ∧ K) → (SW nA tC tS V V.heap ∧ K) := fun U V e1 e2 h => ⟨by rw [e1]; exact SW.moved (by rw [e2]; exact Vm.Alike.refl _) h.1, h.2⟩
theorem wS_in {tC tS : Nat} {K : Prop} {s : State} {H : Heap} (hW : SW nA tC tS s H) (hw : K) : ∀ U : State, U.heap = H → s.vm.Alike U.vm → (SW nA tC tS U U.heap ∧ K) := fun U e1 e2 => ⟨by rw [e1]; exact SW.moved e2 hW, hw⟩
/-- one row of longs -/
def AW (D : va_G) (cJ : ClassId) (a n : Nat) (f : Nat → Int64) (U : State) (H : Heap) : Prop := va_P D cls2 [(a, .inl (cJ, n, .inr (.inl f)))] H ∧ va_K D cls2 [(cJ, .long)] U
theorem wA_bl {D : va_G} {cJ : ClassId} {a n : Nat} {f : Nat → Int64} {K : Prop} : ∀ U V : State, V.heap = U.heap → V.vm = U.vm → (AW D cJ a n f U U.heap ∧ K) → (AW D cJ a n f V V.heap ∧ K) := fun U V e1 e2 h => ⟨⟨by rw [e1]; exact h.1.1, va_K.moved (by rw [e2]; exact Vm.Alike.refl _) h.1.2⟩, h.2⟩
theorem wA_in {D : va_G} {cJ : ClassId} {a n : Nat} {f : Nat → Int64} {K : Prop} {s : State} {H : Heap} (hW : AW D cJ a n f s H) (hw : K) : ∀ U : State, U.heap = H → s.vm.Alike U.vm → (AW D cJ a n f U U.heap ∧ K) := fun U e1 e2 => ⟨⟨by rw [e1]; exact hW.1, va_K.moved e2 hW.2⟩, hw⟩
theorem i32_ne {v k : Int32} (h : ¬ v = k) : v.toInt ≠ k.toInt := fun e => h (Int32.toInt_inj.mp e)
theorem tsw_4 {v : Int32} (h0 : ¬ v = 0) (h1 : ¬ v = 1) (h2 : ¬ v = 2) (h3 : ¬ v = 3) (h4 : ¬ v = 4) : v.toInt < 0 ∨ 4 < v.toInt := by
  have e0 := i32_ne h0
  have e1 := i32_ne h1
  have e2 := i32_ne h2
  have e3 := i32_ne h3
  have e4 := i32_ne h4
  rw [show (0 : Int32).toInt = 0 by decide] at e0
  rw [show (1 : Int32).toInt = 1 by decide] at e1
  rw [show (2 : Int32).toInt = 2 by decide] at e2
  rw [show (3 : Int32).toInt = 3 by decide] at e3
  rw [show (4 : Int32).toInt = 4 by decide] at e4
  omega
end
section
def wX0_isWithin (post : Int32 → Prop) (v0 : Int64) (v2 : Int64) (v4 : Int64) : Prop := ((v0 < v2 → (post 0)) ∧ (¬ v0 < v2 → ((v4 < v0 → (post 0)) ∧ (¬ v4 < v0 → (post 1)))))

set_option maxHeartbeats 4000000 in
set_option maxRecDepth 100000 in
theorem mX0_isWithin (l : Launch) (v0 : Int64) (v2 : Int64) (v4 : Int64) (post : Int32 → Prop) : Met l yX0_isWithin wsX0_isWithin ({ frames := 0, cells := 0, slots := 0, locals := 0 } : Room) (va_Pc [.long v0, .long v2, .long v4] (fun _ => wX0_isWithin post v0 v2 v4)) (vp_Si (fun r => (r = 0 ∨ r = 1) ∧ post r)) 0 0 nA := by
  refine Met.ofW (cc := cX0_isWithin) (maxL := 6) (ret := (some .boolean)) (by decide +kernel) rfl ?_
  intro p e s m args below meth c s₁ B hml hv
  obtain ⟨rfl, hw⟩ := hv
  have hx := B.exec
  have hb := B.bytes
  have hr := B.returns
  have hts := atoms_spec (ws := wsX0_isWithin) B.pre
  have hown : s.vm.findClass RX0 = some m.cls := findClass_of_methodNamed B.named
  have hlocks := B.notSynchronized
  have hl := lv_entry ([.long v0, .long v2, .long v4]) (n := 6) (Nat.le_of_ble_eq_true rfl)
  rw [lg_entry_eq]
  generalize (lg_sl ([.long v0, .long v2, .long v4]) ++ List.replicate (6 - (lg_sl ([.long v0, .long v2, .long v4])).length) Slot.unset).toArray = ls at hl ⊢
  have hl : lv_has ls 6 [(0, .long v0), (2, .long v2), (4, .long v4)] := hl
  unfold wX0_isWithin at hw
  refine lv_lload_n hx hb dX0_isWithin_0 rfl (lv_at hl 0 rfl) ?_
  refine lv_lload_n hx hb dX0_isWithin_1 rfl (lv_at hl 1 rfl) ?_
  refine bl_lt (tgt := 17) hx hb dX0_isWithin_2 dX0_isWithin_3 (by decide) (fun c1 => ?_) (fun c1 => ?_)
  · have hw := hw.1 c1
    refine lv_iconst (v := 0) hx hb dX0_isWithin_17 (by decide) ?_
    exact W.zret (v := 0) hx hb hr (bz_nar (Or.inl rfl)) (fun t ht hWm => ⟨_, rfl, ⟨(Or.inl rfl), hw⟩, ht⟩) t_nil dX0_isWithin_18
  · have hw := hw.2 c1
    refine lv_lload_n hx hb dX0_isWithin_6 rfl (lv_at hl 0 rfl) ?_
    refine lv_lload hx hb dX0_isWithin_7 (lv_at hl 2 rfl) ?_
    refine bl_gt (tgt := 17) hx hb dX0_isWithin_9 dX0_isWithin_10 (by decide) (fun c2 => ?_) (fun c2 => ?_)
    · have hw := hw.1 c2
      refine lv_iconst (v := 0) hx hb dX0_isWithin_17 (by decide) ?_
      exact W.zret (v := 0) hx hb hr (bz_nar (Or.inl rfl)) (fun t ht hWm => ⟨_, rfl, ⟨(Or.inl rfl), hw⟩, ht⟩) t_nil dX0_isWithin_18
    · have hw := hw.2 c2
      refine lv_iconst (v := 1) hx hb dX0_isWithin_13 (by decide) ?_
      refine lv_goto (tgt := 18) hx hb dX0_isWithin_14 (by decide) ?_
      exact W.zret (v := 1) hx hb hr (bz_nar (Or.inr rfl)) (fun t ht hWm => ⟨_, rfl, ⟨(Or.inr rfl), hw⟩, ht⟩) t_nil dX0_isWithin_18

def wX0_isLevel (post : Int32 → Prop) (v0 : Int64) : Prop := (wX0_isWithin (fun r1 => (post r1)) v0 (-100000) 100000)

set_option maxHeartbeats 4000000 in
set_option maxRecDepth 100000 in
theorem mX0_isLevel (l : Launch) (v0 : Int64) (post : Int32 → Prop) : Met l yX0_isLevel wsX0_isLevel ({ frames := 1, cells := 0, slots := 0, locals := 25 } : Room) (va_Pc [.long v0] (fun _ => wX0_isLevel post v0)) (vp_Si (fun r => (r = 0 ∨ r = 1) ∧ post r)) 0 0 nA := by
  refine Met.ofW (cc := cX0_isLevel) (maxL := 2) (ret := (some .boolean)) (by decide +kernel) rfl ?_
  intro p e s m args below meth c s₁ B hml hv
  obtain ⟨rfl, hw⟩ := hv
  have hx := B.exec
  have hb := B.bytes
  have hr := B.returns
  have hts := atoms_spec (ws := wsX0_isLevel) B.pre
  have hown : s.vm.findClass RX0 = some m.cls := findClass_of_methodNamed B.named
  have hlocks := B.notSynchronized
  have hl := lv_entry ([.long v0]) (n := 2) (Nat.le_of_ble_eq_true rfl)
  rw [lg_entry_eq]
  generalize (lg_sl ([.long v0]) ++ List.replicate (2 - (lg_sl ([.long v0])).length) Slot.unset).toArray = ls at hl ⊢
  have hl : lv_has ls 2 [(0, .long v0)] := hl
  unfold wX0_isLevel at hw
  refine lv_lload_n hx hb dX0_isLevel_0 rfl (lv_at hl 0 rfl) ?_
  refine lv_ldc2 (v := (-100000)) hx hb hown (hts (.constantLong RX0 166 (-100000)) (by decide +kernel)) dX0_isLevel_1 ?_
  refine lv_ldc2 (v := 100000) hx hb hown (hts (.constantLong RX0 168 (100000)) (by decide +kernel)) dX0_isLevel_4 ?_
  refine pc_Si (As := [.long v0, .long (-100000), .long 100000]) (rest := []) ⟨hx, hb, hml, hown, hts⟩ (mX0_isWithin l v0 (-100000) 100000 _) (va_cwS 3 hts gX0_isLevel_X0_isWithin rfl rfl rfl (by decide +kernel) ⟨Nat.le_of_ble_eq_true rfl, Nat.le_of_ble_eq_true rfl⟩) wK_bl (fun _ _ _ => hw) rfl hl.1 rfl (Nat.le_of_ble_eq_true rfl) dX0_isLevel_7 ⟨Nat.le_of_ble_eq_true rfl, Nat.le_of_ble_eq_true rfl⟩ (fun r1 hw => ?_)
  obtain ⟨z_r1, hw⟩ := hw
  exact W.zret (v := r1) hx hb hr (bz_nar z_r1) (fun t ht hWm => ⟨_, rfl, ⟨z_r1, hw⟩, ht⟩) t_nil dX0_isLevel_10

def wX0_isDensity (post : Int32 → Prop) (v0 : Int64) : Prop := (wX0_isWithin (fun r1 => (post r1)) v0 900 1100)

set_option maxHeartbeats 4000000 in
set_option maxRecDepth 100000 in
theorem mX0_isDensity (l : Launch) (v0 : Int64) (post : Int32 → Prop) : Met l yX0_isDensity wsX0_isDensity ({ frames := 1, cells := 0, slots := 0, locals := 25 } : Room) (va_Pc [.long v0] (fun _ => wX0_isDensity post v0)) (vp_Si (fun r => (r = 0 ∨ r = 1) ∧ post r)) 0 0 nA := by
  refine Met.ofW (cc := cX0_isDensity) (maxL := 2) (ret := (some .boolean)) (by decide +kernel) rfl ?_
  intro p e s m args below meth c s₁ B hml hv
  obtain ⟨rfl, hw⟩ := hv
  have hx := B.exec
  have hb := B.bytes
  have hr := B.returns
  have hts := atoms_spec (ws := wsX0_isDensity) B.pre
  have hown : s.vm.findClass RX0 = some m.cls := findClass_of_methodNamed B.named
  have hlocks := B.notSynchronized
  have hl := lv_entry ([.long v0]) (n := 2) (Nat.le_of_ble_eq_true rfl)
  rw [lg_entry_eq]
  generalize (lg_sl ([.long v0]) ++ List.replicate (2 - (lg_sl ([.long v0])).length) Slot.unset).toArray = ls at hl ⊢
  have hl : lv_has ls 2 [(0, .long v0)] := hl
  unfold wX0_isDensity at hw
  refine lv_lload_n hx hb dX0_isDensity_0 rfl (lv_at hl 0 rfl) ?_
  refine lv_ldc2 (v := 900) hx hb hown (hts (.constantLong RX0 170 (900)) (by decide +kernel)) dX0_isDensity_1 ?_
  refine lv_ldc2 (v := 1100) hx hb hown (hts (.constantLong RX0 172 (1100)) (by decide +kernel)) dX0_isDensity_4 ?_
  refine pc_Si (As := [.long v0, .long 900, .long 1100]) (rest := []) ⟨hx, hb, hml, hown, hts⟩ (mX0_isWithin l v0 900 1100 _) (va_cwS 3 hts gX0_isDensity_X0_isWithin rfl rfl rfl (by decide +kernel) ⟨Nat.le_of_ble_eq_true rfl, Nat.le_of_ble_eq_true rfl⟩) wK_bl (fun _ _ _ => hw) rfl hl.1 rfl (Nat.le_of_ble_eq_true rfl) dX0_isDensity_7 ⟨Nat.le_of_ble_eq_true rfl, Nat.le_of_ble_eq_true rfl⟩ (fun r1 hw => ?_)
  obtain ⟨z_r1, hw⟩ := hw
  exact W.zret (v := r1) hx hb hr (bz_nar z_r1) (fun t ht hWm => ⟨_, rfl, ⟨z_r1, hw⟩, ht⟩) t_nil dX0_isDensity_10

def wX0_dividedUp (post : Int64 → Prop) (v0 : Int64) (v2 : Int64) : Prop := ((0 < v2 → (¬ v2 = 0 ∧ (post (((v0 + v2) - 1) / v2)))) ∧ (¬ 0 < v2 → (post 0)))

set_option maxHeartbeats 4000000 in
set_option maxRecDepth 100000 in
theorem mX0_dividedUp (l : Launch) (v0 : Int64) (v2 : Int64) (post : Int64 → Prop) : Met l yX0_dividedUp wsX0_dividedUp ({ frames := 0, cells := 0, slots := 0, locals := 0 } : Room) (va_Pc [.long v0, .long v2] (fun _ => wX0_dividedUp post v0 v2)) (vp_Sl post) 0 0 nA := by
  refine Met.ofW (cc := cX0_dividedUp) (maxL := 4) (ret := (some .long)) (by decide +kernel) rfl ?_
  intro p e s m args below meth c s₁ B hml hv
  obtain ⟨rfl, hw⟩ := hv
  have hx := B.exec
  have hb := B.bytes
  have hr := B.returns
  have hts := atoms_spec (ws := wsX0_dividedUp) B.pre
  have hown : s.vm.findClass RX0 = some m.cls := findClass_of_methodNamed B.named
  have hlocks := B.notSynchronized
  have hl := lv_entry ([.long v0, .long v2]) (n := 4) (Nat.le_of_ble_eq_true rfl)
  rw [lg_entry_eq]
  generalize (lg_sl ([.long v0, .long v2]) ++ List.replicate (4 - (lg_sl ([.long v0, .long v2])).length) Slot.unset).toArray = ls at hl ⊢
  have hl : lv_has ls 4 [(0, .long v0), (2, .long v2)] := hl
  unfold wX0_dividedUp at hw
  refine lv_lload_n hx hb dX0_dividedUp_0 rfl (lv_at hl 1 rfl) ?_
  refine lv_lconst (v := 0) hx hb dX0_dividedUp_1 (by decide) ?_
  refine bl_gt (tgt := 8) hx hb dX0_dividedUp_2 dX0_dividedUp_3 (by decide) (fun c1 => ?_) (fun c1 => ?_)
  · have hw := hw.1 c1
    refine lv_lload_n hx hb dX0_dividedUp_8 rfl (lv_at hl 0 rfl) ?_
    refine lv_lload_n hx hb dX0_dividedUp_9 rfl (lv_at hl 1 rfl) ?_
    refine lv_ladd hx hb dX0_dividedUp_10 ?_
    refine lv_lconst (v := 1) hx hb dX0_dividedUp_11 (by decide) ?_
    refine lv_lsub hx hb dX0_dividedUp_12 ?_
    refine lv_lload_n hx hb dX0_dividedUp_13 rfl (lv_at hl 1 rfl) ?_
    obtain ⟨h2, hw⟩ := hw
    refine lv_ldiv hx hb dX0_dividedUp_14 h2 ?_
    exact W.lret (v := (((v0 + v2) - 1) / v2)) hx hb hr (fun t ht hWm => ⟨_, rfl, hw, ht⟩) t_nil dX0_dividedUp_15
  · have hw := hw.2 c1
    refine lv_lconst (v := 0) hx hb dX0_dividedUp_6 (by decide) ?_
    exact W.lret (v := 0) hx hb hr (fun t ht hWm => ⟨_, rfl, hw, ht⟩) t_nil dX0_dividedUp_7

def wX0_secondsFor (post : Int64 → Prop) (v0 : Int64) (v2 : Int64) : Prop := (wX0_dividedUp (fun r1 => (post r1)) (100 * v0) v2)

set_option maxHeartbeats 4000000 in
set_option maxRecDepth 100000 in
theorem mX0_secondsFor (l : Launch) (v0 : Int64) (v2 : Int64) (post : Int64 → Prop) : Met l yX0_secondsFor wsX0_secondsFor ({ frames := 1, cells := 0, slots := 0, locals := 23 } : Room) (va_Pc [.long v0, .long v2] (fun _ => wX0_secondsFor post v0 v2)) (vp_Sl post) 0 0 nA := by
  refine Met.ofW (cc := cX0_secondsFor) (maxL := 4) (ret := (some .long)) (by decide +kernel) rfl ?_
  intro p e s m args below meth c s₁ B hml hv
  obtain ⟨rfl, hw⟩ := hv
  have hx := B.exec
  have hb := B.bytes
  have hr := B.returns
  have hts := atoms_spec (ws := wsX0_secondsFor) B.pre
  have hown : s.vm.findClass RX0 = some m.cls := findClass_of_methodNamed B.named
  have hlocks := B.notSynchronized
  have hl := lv_entry ([.long v0, .long v2]) (n := 4) (Nat.le_of_ble_eq_true rfl)
  rw [lg_entry_eq]
  generalize (lg_sl ([.long v0, .long v2]) ++ List.replicate (4 - (lg_sl ([.long v0, .long v2])).length) Slot.unset).toArray = ls at hl ⊢
  have hl : lv_has ls 4 [(0, .long v0), (2, .long v2)] := hl
  unfold wX0_secondsFor at hw
  refine lv_ldc2 (v := 100) hx hb hown (hts (.constantLong RX0 174 (100)) (by decide +kernel)) dX0_secondsFor_0 ?_
  refine lv_lload_n hx hb dX0_secondsFor_3 rfl (lv_at hl 0 rfl) ?_
  refine lv_lmul hx hb dX0_secondsFor_4 ?_
  refine lv_lload_n hx hb dX0_secondsFor_5 rfl (lv_at hl 1 rfl) ?_
  refine pc_Sl (As := [.long (100 * v0), .long v2]) (rest := []) ⟨hx, hb, hml, hown, hts⟩ (mX0_dividedUp l (100 * v0) v2 _) (va_cwS 2 hts gX0_secondsFor_X0_dividedUp rfl rfl rfl (by decide +kernel) ⟨Nat.le_of_ble_eq_true rfl, Nat.le_of_ble_eq_true rfl⟩) wK_bl (fun _ _ _ => hw) rfl hl.1 rfl (Nat.le_of_ble_eq_true rfl) dX0_secondsFor_6 ⟨Nat.le_of_ble_eq_true rfl, Nat.le_of_ble_eq_true rfl⟩ (fun r1 hw => ?_)
  exact W.lret (v := r1) hx hb hr (fun t ht hWm => ⟨_, rfl, hw, ht⟩) t_nil dX0_secondsFor_9

def wX0_squatThousandths (post : Int64 → Prop) (v0 : Int64) : Prop := ((((v0 / 200)).toInt32 < 0 → (post ((sqT 6)).toInt64)) ∧ (¬ ((v0 / 200)).toInt32 < 0 → (((((v0 / 200)).toInt32 + 1) < 7 → (vp_in (((v0 / 200)).toInt32 + 1) 7 ∧ (vp_in ((v0 / 200)).toInt32 7 ∧ (vp_in ((v0 / 200)).toInt32 7 ∧ (post (((sqT (((v0 / 200)).toInt32).toNatClampNeg)).toInt64 + (((((sqT ((((v0 / 200)).toInt32 + 1)).toNatClampNeg) - (sqT (((v0 / 200)).toInt32).toNatClampNeg))).toInt64 * (v0 - ((((v0 / 200)).toInt32).toInt64 * 200))) / 200))))))) ∧ (¬ (((v0 / 200)).toInt32 + 1) < 7 → (post ((sqT 6)).toInt64)))))

set_option maxHeartbeats 4000000 in
set_option maxRecDepth 100000 in
theorem mX0_squatThousandths (l : Launch) (tC tS : Nat) (v0 : Int64) (post : Int64 → Prop) : Met l yX0_squatThousandths wsX0_squatThousandths ({ frames := 0, cells := 0, slots := 0, locals := 0 } : Room) (va_Pc [.long v0] (fun U => SW nA tC tS U U.heap ∧ wX0_squatThousandths post v0)) (vp_Sl post) 0 0 nA := by
  refine Met.ofW (cc := cX0_squatThousandths) (maxL := 5) (ret := (some .long)) (by decide +kernel) rfl ?_
  intro p e s m args below meth c s₁ B hml hv
  obtain ⟨rfl, hW, hw⟩ := hv
  have hx := B.exec
  have hb := B.bytes
  have hr := B.returns
  have hts := atoms_spec (ws := wsX0_squatThousandths) B.pre
  have hown : s.vm.findClass RX0 = some m.cls := findClass_of_methodNamed B.named
  have hlocks := B.notSynchronized
  have hl := lv_entry ([.long v0]) (n := 5) (Nat.le_of_ble_eq_true rfl)
  rw [lg_entry_eq]
  generalize (lg_sl ([.long v0]) ++ List.replicate (5 - (lg_sl ([.long v0])).length) Slot.unset).toArray = ls at hl ⊢
  have hl : lv_has ls 5 [(0, .long v0)] := hl
  unfold wX0_squatThousandths at hw
  refine lv_lload_n hx hb dX0_squatThousandths_0 rfl (lv_at hl 0 rfl) ?_
  refine lv_ldc2 (v := 200) hx hb hown (hts (.constantLong RX0 181 (200)) (by decide +kernel)) dX0_squatThousandths_1 ?_
  refine lv_ldiv hx hb dX0_squatThousandths_4 (by decide) ?_
  refine lv_l2i (v := ((v0 / 200)).toInt32) hx hb dX0_squatThousandths_5 rfl ?_
  refine lv_istore_n (lv' := [(2, .int ((v0 / 200)).toInt32), (0, .long v0)]) hx hb dX0_squatThousandths_6 rfl hl (by decide) rfl (fun ls hl => ?_)
  refine lv_iload_n hx hb dX0_squatThousandths_7 rfl (lv_at hl 0 rfl) ?_
  refine lv_if_lt (tgt := 21) hx hb dX0_squatThousandths_8 (by decide) (fun c1 => ?_) (fun c1 => ?_)
  · have hw := hw.1 c1
    refine va_gets hx hb hW.2.2.1 nS hown (hts (.fieldLink RX0 183 "TideDepths" "SQUAT_ROWS" "[I") (by decide +kernel)) (fun _ h9 => h9) dX0_squatThousandths_21 ?_
    refine va_gets hx hb hW.2.2.1 nS hown (hts (.fieldLink RX0 183 "TideDepths" "SQUAT_ROWS" "[I") (by decide +kernel)) (fun _ h9 => h9) dX0_squatThousandths_24 ?_
    refine va_tlen (v := 7) hx hb hW.2.2.2 nS (by decide) dX0_squatThousandths_27 ?_
    refine lv_iconst (v := 1) hx hb dX0_squatThousandths_28 (by decide) ?_
    refine lv_isub hx hb dX0_squatThousandths_29 ?_
    rw [show ((7 : Int32) - 1) = 6 from by decide]
    refine va_ti (v := .int (sqT 6)) hx hb hW.2.2.2 nS (by unfold vp_in; decide) rfl dX0_squatThousandths_30 ?_
    refine lv_i2l (v := ((sqT 6)).toInt64) hx hb dX0_squatThousandths_31 rfl ?_
    exact W.lret (v := ((sqT 6)).toInt64) hx hb hr (fun t ht hWm => ⟨_, rfl, hw, ht⟩) t_nil dX0_squatThousandths_32
  · have hw := hw.2 c1
    refine lv_iload_n hx hb dX0_squatThousandths_11 rfl (lv_at hl 0 rfl) ?_
    refine lv_iconst (v := 1) hx hb dX0_squatThousandths_12 (by decide) ?_
    refine lv_iadd hx hb dX0_squatThousandths_13 ?_
    refine va_gets hx hb hW.2.2.1 nS hown (hts (.fieldLink RX0 183 "TideDepths" "SQUAT_ROWS" "[I") (by decide +kernel)) (fun _ h9 => h9) dX0_squatThousandths_14 ?_
    refine va_tlen (v := 7) hx hb hW.2.2.2 nS (by decide) dX0_squatThousandths_17 ?_
    refine lv_icmp_lt (tgt := 33) hx hb dX0_squatThousandths_18 (by decide) (fun c2 => ?_) (fun c2 => ?_)
    · have hw := hw.1 c2
      refine va_gets hx hb hW.2.2.1 nS hown (hts (.fieldLink RX0 183 "TideDepths" "SQUAT_ROWS" "[I") (by decide +kernel)) (fun _ h9 => h9) dX0_squatThousandths_33 ?_
      refine lv_iload_n hx hb dX0_squatThousandths_36 rfl (lv_at hl 0 rfl) ?_
      refine lv_iconst (v := 1) hx hb dX0_squatThousandths_37 (by decide) ?_
      refine lv_iadd hx hb dX0_squatThousandths_38 ?_
      obtain ⟨h3, hw⟩ := hw
      refine va_ti (v := .int (sqT ((((v0 / 200)).toInt32 + 1)).toNatClampNeg)) hx hb hW.2.2.2 nS h3 rfl dX0_squatThousandths_39 ?_
      refine va_gets hx hb hW.2.2.1 nS hown (hts (.fieldLink RX0 183 "TideDepths" "SQUAT_ROWS" "[I") (by decide +kernel)) (fun _ h9 => h9) dX0_squatThousandths_40 ?_
      refine lv_iload_n hx hb dX0_squatThousandths_43 rfl (lv_at hl 0 rfl) ?_
      obtain ⟨h4, hw⟩ := hw
      refine va_ti (v := .int (sqT (((v0 / 200)).toInt32).toNatClampNeg)) hx hb hW.2.2.2 nS h4 rfl dX0_squatThousandths_44 ?_
      refine lv_isub hx hb dX0_squatThousandths_45 ?_
      refine lv_i2l (v := (((sqT ((((v0 / 200)).toInt32 + 1)).toNatClampNeg) - (sqT (((v0 / 200)).toInt32).toNatClampNeg))).toInt64) hx hb dX0_squatThousandths_46 rfl ?_
      refine lv_lstore_n (lv' := [(3, .long (((sqT ((((v0 / 200)).toInt32 + 1)).toNatClampNeg) - (sqT (((v0 / 200)).toInt32).toNatClampNeg))).toInt64), (2, .int ((v0 / 200)).toInt32), (0, .long v0)]) hx hb dX0_squatThousandths_47 rfl hl (by decide) rfl (fun ls hl => ?_)
      refine va_gets hx hb hW.2.2.1 nS hown (hts (.fieldLink RX0 183 "TideDepths" "SQUAT_ROWS" "[I") (by decide +kernel)) (fun _ h9 => h9) dX0_squatThousandths_48 ?_
      refine lv_iload_n hx hb dX0_squatThousandths_51 rfl (lv_at hl 1 rfl) ?_
      obtain ⟨h5, hw⟩ := hw
      refine va_ti (v := .int (sqT (((v0 / 200)).toInt32).toNatClampNeg)) hx hb hW.2.2.2 nS h5 rfl dX0_squatThousandths_52 ?_
      refine lv_i2l (v := ((sqT (((v0 / 200)).toInt32).toNatClampNeg)).toInt64) hx hb dX0_squatThousandths_53 rfl ?_
      refine lv_lload_n hx hb dX0_squatThousandths_54 rfl (lv_at hl 0 rfl) ?_
      refine lv_lload_n hx hb dX0_squatThousandths_55 rfl (lv_at hl 2 rfl) ?_
      refine lv_iload_n hx hb dX0_squatThousandths_56 rfl (lv_at hl 1 rfl) ?_
      refine lv_i2l (v := (((v0 / 200)).toInt32).toInt64) hx hb dX0_squatThousandths_57 rfl ?_
      refine lv_ldc2 (v := 200) hx hb hown (hts (.constantLong RX0 181 (200)) (by decide +kernel)) dX0_squatThousandths_58 ?_
      refine lv_lmul hx hb dX0_squatThousandths_61 ?_
      refine lv_lsub hx hb dX0_squatThousandths_62 ?_
      refine lv_lmul hx hb dX0_squatThousandths_63 ?_
      refine lv_ldc2 (v := 200) hx hb hown (hts (.constantLong RX0 181 (200)) (by decide +kernel)) dX0_squatThousandths_64 ?_
      refine lv_ldiv hx hb dX0_squatThousandths_67 (by decide) ?_
      refine lv_ladd hx hb dX0_squatThousandths_68 ?_
      exact W.lret (v := (((sqT (((v0 / 200)).toInt32).toNatClampNeg)).toInt64 + (((((sqT ((((v0 / 200)).toInt32 + 1)).toNatClampNeg) - (sqT (((v0 / 200)).toInt32).toNatClampNeg))).toInt64 * (v0 - ((((v0 / 200)).toInt32).toInt64 * 200))) / 200))) hx hb hr (fun t ht hWm => ⟨_, rfl, hw, ht⟩) t_nil dX0_squatThousandths_69
    · have hw := hw.2 c2
      refine va_gets hx hb hW.2.2.1 nS hown (hts (.fieldLink RX0 183 "TideDepths" "SQUAT_ROWS" "[I") (by decide +kernel)) (fun _ h9 => h9) dX0_squatThousandths_21 ?_
      refine va_gets hx hb hW.2.2.1 nS hown (hts (.fieldLink RX0 183 "TideDepths" "SQUAT_ROWS" "[I") (by decide +kernel)) (fun _ h9 => h9) dX0_squatThousandths_24 ?_
      refine va_tlen (v := 7) hx hb hW.2.2.2 nS (by decide) dX0_squatThousandths_27 ?_
      refine lv_iconst (v := 1) hx hb dX0_squatThousandths_28 (by decide) ?_
      refine lv_isub hx hb dX0_squatThousandths_29 ?_
      rw [show ((7 : Int32) - 1) = 6 from by decide]
      refine va_ti (v := .int (sqT 6)) hx hb hW.2.2.2 nS (by unfold vp_in; decide) rfl dX0_squatThousandths_30 ?_
      refine lv_i2l (v := ((sqT 6)).toInt64) hx hb dX0_squatThousandths_31 rfl ?_
      exact W.lret (v := ((sqT 6)).toInt64) hx hb hr (fun t ht hWm => ⟨_, rfl, hw, ht⟩) t_nil dX0_squatThousandths_32

def wX0_squatOf (post : Int64 → Prop) (v0 : Int64) (v2 : Int64) : Prop := (wX0_squatThousandths (fun r1 => (wX0_dividedUp (fun r2 => (post r2)) (v2 * r1) 1000)) v0)

set_option maxHeartbeats 4000000 in
set_option maxRecDepth 100000 in
theorem mX0_squatOf (l : Launch) (tC tS : Nat) (v0 : Int64) (v2 : Int64) (post : Int64 → Prop) : Met l yX0_squatOf wsX0_squatOf ({ frames := 1, cells := 0, slots := 0, locals := 24 } : Room) (va_Pc [.long v0, .long v2] (fun U => SW nA tC tS U U.heap ∧ wX0_squatOf post v0 v2)) (vp_Sl post) 0 0 nA := by
  refine Met.ofW (cc := cX0_squatOf) (maxL := 4) (ret := (some .long)) (by decide +kernel) rfl ?_
  intro p e s m args below meth c s₁ B hml hv
  obtain ⟨rfl, hW, hw⟩ := hv
  have hx := B.exec
  have hb := B.bytes
  have hr := B.returns
  have hts := atoms_spec (ws := wsX0_squatOf) B.pre
  have hown : s.vm.findClass RX0 = some m.cls := findClass_of_methodNamed B.named
  have hlocks := B.notSynchronized
  have hl := lv_entry ([.long v0, .long v2]) (n := 4) (Nat.le_of_ble_eq_true rfl)
  rw [lg_entry_eq]
  generalize (lg_sl ([.long v0, .long v2]) ++ List.replicate (4 - (lg_sl ([.long v0, .long v2])).length) Slot.unset).toArray = ls at hl ⊢
  have hl : lv_has ls 4 [(0, .long v0), (2, .long v2)] := hl
  unfold wX0_squatOf at hw
  refine lv_lload_n hx hb dX0_squatOf_0 rfl (lv_at hl 1 rfl) ?_
  refine lv_lload_n hx hb dX0_squatOf_1 rfl (lv_at hl 0 rfl) ?_
  refine pc_Sl (As := [.long v0]) (rest := [.long v2]) ⟨hx, hb, hml, hown, hts⟩ (mX0_squatThousandths l tC tS v0 _) (va_cwS 1 hts gX0_squatOf_X0_squatThousandths rfl rfl rfl (by decide +kernel) ⟨Nat.le_of_ble_eq_true rfl, Nat.le_of_ble_eq_true rfl⟩) wS_bl (wS_in hW hw) rfl hl.1 rfl (Nat.le_of_ble_eq_true rfl) dX0_squatOf_2 ⟨Nat.le_of_ble_eq_true rfl, Nat.le_of_ble_eq_true rfl⟩ (fun r1 hw => ?_)
  refine lv_lmul hx hb dX0_squatOf_5 ?_
  refine lv_ldc2 (v := 1000) hx hb hown (hts (.constantLong RX0 179 (1000)) (by decide +kernel)) dX0_squatOf_6 ?_
  refine pc_Sl (As := [.long (v2 * r1), .long 1000]) (rest := []) ⟨hx, hb, hml, hown, hts⟩ (mX0_dividedUp l (v2 * r1) 1000 _) (va_cwS 2 hts gX0_squatOf_X0_dividedUp rfl rfl rfl (by decide +kernel) ⟨Nat.le_of_ble_eq_true rfl, Nat.le_of_ble_eq_true rfl⟩) wK_bl (fun _ _ _ => hw) rfl hl.1 rfl (Nat.le_of_ble_eq_true rfl) dX0_squatOf_9 ⟨Nat.le_of_ble_eq_true rfl, Nat.le_of_ble_eq_true rfl⟩ (fun r2 hw => ?_)
  exact W.lret (v := r2) hx hb hr (fun t ht hWm => ⟨_, rfl, hw, ht⟩) t_nil dX0_squatOf_12

def wJ9_floorDiv_f86c9 (post : Int64 → Prop) (v0 : Int64) (v2 : Int64) : Prop := (¬ v2 = 0 ∧ ((0 ≤ (v0 ^^^ v2) → (post (v0 / v2))) ∧ (¬ 0 ≤ (v0 ^^^ v2) → ((((v0 / v2) * v2) = v0 → (post (v0 / v2))) ∧ (¬ ((v0 / v2) * v2) = v0 → (post ((v0 / v2) - 1)))))))

set_option maxHeartbeats 4000000 in
set_option maxRecDepth 100000 in
theorem mJ9_floorDiv_f86c9 (l : Launch) (v0 : Int64) (v2 : Int64) (post : Int64 → Prop) : Met l yJ9_floorDiv_f86c9 wsJ9_floorDiv_f86c9 ({ frames := 0, cells := 0, slots := 0, locals := 0 } : Room) (va_Pc [.long v0, .long v2] (fun _ => wJ9_floorDiv_f86c9 post v0 v2)) (vp_Sl post) 0 0 nA := by
  refine va_MetF (cc := cJ9_floorDiv_f86c9) (maxL := 6) (ret := (some .long)) (by decide +kernel) rfl ?_
  intro p e s m args below meth c s₁ B hml hv
  obtain ⟨rfl, hw⟩ := hv
  have hx := B.exec
  have hb := B.bytes
  have hr := B.returns
  have hts := atoms_spec (ws := wsJ9_floorDiv_f86c9) B.pre
  have hown : s.vm.findClass RJ9 = some m.cls := findClass_of_methodNamed B.named
  have hlocks := B.notSynchronized
  have hl := lv_entry ([.long v0, .long v2]) (n := 6) (Nat.le_of_ble_eq_true rfl)
  rw [lg_entry_eq]
  generalize (lg_sl ([.long v0, .long v2]) ++ List.replicate (6 - (lg_sl ([.long v0, .long v2])).length) Slot.unset).toArray = ls at hl ⊢
  have hl : lv_has ls 6 [(0, .long v0), (2, .long v2)] := hl
  unfold wJ9_floorDiv_f86c9 at hw
  refine lv_lload_n hx hb dJ9_floorDiv_f86c9_0 rfl (lv_at hl 0 rfl) ?_
  refine lv_lload_n hx hb dJ9_floorDiv_f86c9_1 rfl (lv_at hl 1 rfl) ?_
  obtain ⟨h1, hw⟩ := hw
  refine lv_ldiv hx hb dJ9_floorDiv_f86c9_2 h1 ?_
  refine lv_lstore (lv' := [(4, .long (v0 / v2)), (0, .long v0), (2, .long v2)]) hx hb dJ9_floorDiv_f86c9_3 hl (by decide) rfl (fun ls hl => ?_)
  refine lv_lload_n hx hb dJ9_floorDiv_f86c9_5 rfl (lv_at hl 1 rfl) ?_
  refine lv_lload_n hx hb dJ9_floorDiv_f86c9_6 rfl (lv_at hl 2 rfl) ?_
  refine lv_lxor hx hb dJ9_floorDiv_f86c9_7 ?_
  refine lv_lconst (v := 0) hx hb dJ9_floorDiv_f86c9_8 (by decide) ?_
  refine bl_ge (tgt := 27) hx hb dJ9_floorDiv_f86c9_9 dJ9_floorDiv_f86c9_10 (by decide) (fun c2 => ?_) (fun c2 => ?_)
  · have hw := hw.1 c2
    refine lv_lload hx hb dJ9_floorDiv_f86c9_27 (lv_at hl 0 rfl) ?_
    exact W.lret (v := (v0 / v2)) hx hb hr (fun t ht hWm => ⟨_, rfl, hw, ht⟩) t_nil dJ9_floorDiv_f86c9_29
  · have hw := hw.2 c2
    refine lv_lload hx hb dJ9_floorDiv_f86c9_13 (lv_at hl 0 rfl) ?_
    refine lv_lload_n hx hb dJ9_floorDiv_f86c9_15 rfl (lv_at hl 2 rfl) ?_
    refine lv_lmul hx hb dJ9_floorDiv_f86c9_16 ?_
    refine lv_lload_n hx hb dJ9_floorDiv_f86c9_17 rfl (lv_at hl 1 rfl) ?_
    refine bl_eq (tgt := 27) hx hb dJ9_floorDiv_f86c9_18 dJ9_floorDiv_f86c9_19 (by decide) (fun c3 => ?_) (fun c3 => ?_)
    · have hw := hw.1 c3
      refine lv_lload hx hb dJ9_floorDiv_f86c9_27 (lv_at hl 0 rfl) ?_
      exact W.lret (v := (v0 / v2)) hx hb hr (fun t ht hWm => ⟨_, rfl, hw, ht⟩) t_nil dJ9_floorDiv_f86c9_29
    · have hw := hw.2 c3
      refine lv_lload hx hb dJ9_floorDiv_f86c9_22 (lv_at hl 0 rfl) ?_
      refine lv_lconst (v := 1) hx hb dJ9_floorDiv_f86c9_24 (by decide) ?_
      refine lv_lsub hx hb dJ9_floorDiv_f86c9_25 ?_
      exact W.lret (v := ((v0 / v2) - 1)) hx hb hr (fun t ht hWm => ⟨_, rfl, hw, ht⟩) t_nil dJ9_floorDiv_f86c9_26

def wX0_cosinePart (post : Int64 → Prop) (v0 : Int64) (v2 : Int64) : Prop := ((0 < v2 → (¬ v2 = 0 ∧ (((((64 * v0) / v2)).toInt32 < 0 → (post 32768)) ∧ (¬ (((64 * v0) / v2)).toInt32 < 0 → ((((((64 * v0) / v2)).toInt32 + 1) < 65 → (vp_in ((((64 * v0) / v2)).toInt32 + 1) 65 ∧ (vp_in (((64 * v0) / v2)).toInt32 65 ∧ (vp_in (((64 * v0) / v2)).toInt32 65 ∧ (¬ v2 = 0 ∧ (post (((cosT ((((64 * v0) / v2)).toInt32).toNatClampNeg)).toInt64 + (((((cosT (((((64 * v0) / v2)).toInt32 + 1)).toNatClampNeg) - (cosT ((((64 * v0) / v2)).toInt32).toNatClampNeg))).toInt64 * ((64 * v0) - (((((64 * v0) / v2)).toInt32).toInt64 * v2))) / v2)))))))) ∧ (¬ ((((64 * v0) / v2)).toInt32 + 1) < 65 → (post 32768))))))) ∧ (¬ 0 < v2 → (post 32768)))

set_option maxHeartbeats 4000000 in
set_option maxRecDepth 100000 in
theorem mX0_cosinePart (l : Launch) (tC tS : Nat) (v0 : Int64) (v2 : Int64) (post : Int64 → Prop) : Met l yX0_cosinePart wsX0_cosinePart ({ frames := 0, cells := 0, slots := 0, locals := 0 } : Room) (va_Pc [.long v0, .long v2] (fun U => SW nA tC tS U U.heap ∧ wX0_cosinePart post v0 v2)) (vp_Sl post) 0 0 nA := by
  refine Met.ofW (cc := cX0_cosinePart) (maxL := 9) (ret := (some .long)) (by decide +kernel) rfl ?_
  intro p e s m args below meth c s₁ B hml hv
  obtain ⟨rfl, hW, hw⟩ := hv
  have hx := B.exec
  have hb := B.bytes
  have hr := B.returns
  have hts := atoms_spec (ws := wsX0_cosinePart) B.pre
  have hown : s.vm.findClass RX0 = some m.cls := findClass_of_methodNamed B.named
  have hlocks := B.notSynchronized
  have hl := lv_entry ([.long v0, .long v2]) (n := 9) (Nat.le_of_ble_eq_true rfl)
  rw [lg_entry_eq]
  generalize (lg_sl ([.long v0, .long v2]) ++ List.replicate (9 - (lg_sl ([.long v0, .long v2])).length) Slot.unset).toArray = ls at hl ⊢
  have hl : lv_has ls 9 [(0, .long v0), (2, .long v2)] := hl
  unfold wX0_cosinePart at hw
  refine lv_lload_n hx hb dX0_cosinePart_0 rfl (lv_at hl 1 rfl) ?_
  refine lv_lconst (v := 0) hx hb dX0_cosinePart_1 (by decide) ?_
  refine bl_gt (tgt := 10) hx hb dX0_cosinePart_2 dX0_cosinePart_3 (by decide) (fun c1 => ?_) (fun c1 => ?_)
  · have hw := hw.1 c1
    refine lv_ldc2 (v := 64) hx hb hown (hts (.constantLong RX0 209 (64)) (by decide +kernel)) dX0_cosinePart_10 ?_
    refine lv_lload_n hx hb dX0_cosinePart_13 rfl (lv_at hl 0 rfl) ?_
    refine lv_lmul hx hb dX0_cosinePart_14 ?_
    refine lv_lstore (lv' := [(4, .long (64 * v0)), (0, .long v0), (2, .long v2)]) hx hb dX0_cosinePart_15 hl (by decide) rfl (fun ls hl => ?_)
    refine lv_lload hx hb dX0_cosinePart_17 (lv_at hl 0 rfl) ?_
    refine lv_lload_n hx hb dX0_cosinePart_19 rfl (lv_at hl 2 rfl) ?_
    obtain ⟨h2, hw⟩ := hw
    refine lv_ldiv hx hb dX0_cosinePart_20 h2 ?_
    refine lv_l2i (v := (((64 * v0) / v2)).toInt32) hx hb dX0_cosinePart_21 rfl ?_
    refine lv_istore (lv' := [(6, .int (((64 * v0) / v2)).toInt32), (4, .long (64 * v0)), (0, .long v0), (2, .long v2)]) hx hb dX0_cosinePart_22 hl (by decide) rfl (fun ls hl => ?_)
    refine lv_iload hx hb dX0_cosinePart_24 (lv_at hl 0 rfl) ?_
    refine lv_if_lt (tgt := 40) hx hb dX0_cosinePart_26 (by decide) (fun c3 => ?_) (fun c3 => ?_)
    · have hw := hw.1 c3
      refine lv_ldc2 (v := 32768) hx hb hown (hts (.constantLong RX0 202 (32768)) (by decide +kernel)) dX0_cosinePart_40 ?_
      exact W.lret (v := 32768) hx hb hr (fun t ht hWm => ⟨_, rfl, hw, ht⟩) t_nil dX0_cosinePart_43
    · have hw := hw.2 c3
      refine lv_iload hx hb dX0_cosinePart_29 (lv_at hl 0 rfl) ?_
      refine lv_iconst (v := 1) hx hb dX0_cosinePart_31 (by decide) ?_
      refine lv_iadd hx hb dX0_cosinePart_32 ?_
      refine va_gets hx hb hW.1 nS hown (hts (.fieldLink RX0 120 "TideDepths" "COSINE" "[I") (by decide +kernel)) (fun _ h9 => h9) dX0_cosinePart_33 ?_
      refine va_tlen (v := 65) hx hb hW.2.1 nS (by decide) dX0_cosinePart_36 ?_
      refine lv_icmp_lt (tgt := 44) hx hb dX0_cosinePart_37 (by decide) (fun c4 => ?_) (fun c4 => ?_)
      · have hw := hw.1 c4
        refine va_gets hx hb hW.1 nS hown (hts (.fieldLink RX0 120 "TideDepths" "COSINE" "[I") (by decide +kernel)) (fun _ h9 => h9) dX0_cosinePart_44 ?_
        refine lv_iload hx hb dX0_cosinePart_47 (lv_at hl 0 rfl) ?_
        refine lv_iconst (v := 1) hx hb dX0_cosinePart_49 (by decide) ?_
        refine lv_iadd hx hb dX0_cosinePart_50 ?_
        obtain ⟨h5, hw⟩ := hw
        refine va_ti (v := .int (cosT (((((64 * v0) / v2)).toInt32 + 1)).toNatClampNeg)) hx hb hW.2.1 nS h5 rfl dX0_cosinePart_51 ?_
        refine va_gets hx hb hW.1 nS hown (hts (.fieldLink RX0 120 "TideDepths" "COSINE" "[I") (by decide +kernel)) (fun _ h9 => h9) dX0_cosinePart_52 ?_
        refine lv_iload hx hb dX0_cosinePart_55 (lv_at hl 0 rfl) ?_
        obtain ⟨h6, hw⟩ := hw
        refine va_ti (v := .int (cosT ((((64 * v0) / v2)).toInt32).toNatClampNeg)) hx hb hW.2.1 nS h6 rfl dX0_cosinePart_57 ?_
        refine lv_isub hx hb dX0_cosinePart_58 ?_
        refine lv_i2l (v := (((cosT (((((64 * v0) / v2)).toInt32 + 1)).toNatClampNeg) - (cosT ((((64 * v0) / v2)).toInt32).toNatClampNeg))).toInt64) hx hb dX0_cosinePart_59 rfl ?_
        refine lv_lstore (lv' := [(7, .long (((cosT (((((64 * v0) / v2)).toInt32 + 1)).toNatClampNeg) - (cosT ((((64 * v0) / v2)).toInt32).toNatClampNeg))).toInt64), (6, .int (((64 * v0) / v2)).toInt32), (4, .long (64 * v0)), (0, .long v0), (2, .long v2)]) hx hb dX0_cosinePart_60 hl (by decide) rfl (fun ls hl => ?_)
        refine va_gets hx hb hW.1 nS hown (hts (.fieldLink RX0 120 "TideDepths" "COSINE" "[I") (by decide +kernel)) (fun _ h9 => h9) dX0_cosinePart_62 ?_
        refine lv_iload hx hb dX0_cosinePart_65 (lv_at hl 1 rfl) ?_
        obtain ⟨h7, hw⟩ := hw
        refine va_ti (v := .int (cosT ((((64 * v0) / v2)).toInt32).toNatClampNeg)) hx hb hW.2.1 nS h7 rfl dX0_cosinePart_67 ?_
        refine lv_i2l (v := ((cosT ((((64 * v0) / v2)).toInt32).toNatClampNeg)).toInt64) hx hb dX0_cosinePart_68 rfl ?_
        refine lv_lload hx hb dX0_cosinePart_69 (lv_at hl 0 rfl) ?_
        refine lv_lload hx hb dX0_cosinePart_71 (lv_at hl 2 rfl) ?_
        refine lv_iload hx hb dX0_cosinePart_73 (lv_at hl 1 rfl) ?_
        refine lv_i2l (v := ((((64 * v0) / v2)).toInt32).toInt64) hx hb dX0_cosinePart_75 rfl ?_
        refine lv_lload_n hx hb dX0_cosinePart_76 rfl (lv_at hl 4 rfl) ?_
        refine lv_lmul hx hb dX0_cosinePart_77 ?_
        refine lv_lsub hx hb dX0_cosinePart_78 ?_
        refine lv_lmul hx hb dX0_cosinePart_79 ?_
        refine lv_lload_n hx hb dX0_cosinePart_80 rfl (lv_at hl 4 rfl) ?_
        obtain ⟨h8, hw⟩ := hw
        refine lv_ldiv hx hb dX0_cosinePart_81 h8 ?_
        refine lv_ladd hx hb dX0_cosinePart_82 ?_
        exact W.lret (v := (((cosT ((((64 * v0) / v2)).toInt32).toNatClampNeg)).toInt64 + (((((cosT (((((64 * v0) / v2)).toInt32 + 1)).toNatClampNeg) - (cosT ((((64 * v0) / v2)).toInt32).toNatClampNeg))).toInt64 * ((64 * v0) - (((((64 * v0) / v2)).toInt32).toInt64 * v2))) / v2))) hx hb hr (fun t ht hWm => ⟨_, rfl, hw, ht⟩) t_nil dX0_cosinePart_83
      · have hw := hw.2 c4
        refine lv_ldc2 (v := 32768) hx hb hown (hts (.constantLong RX0 202 (32768)) (by decide +kernel)) dX0_cosinePart_40 ?_
        exact W.lret (v := 32768) hx hb hr (fun t ht hWm => ⟨_, rfl, hw, ht⟩) t_nil dX0_cosinePart_43
  · have hw := hw.2 c1
    refine lv_ldc2 (v := 32768) hx hb hown (hts (.constantLong RX0 202 (32768)) (by decide +kernel)) dX0_cosinePart_6 ?_
    exact W.lret (v := 32768) hx hb hr (fun t ht hWm => ⟨_, rfl, hw, ht⟩) t_nil dX0_cosinePart_9

def wX0_lastNotBehind_L5 (post : Int32 → Prop) (N : Nat) (f : Nat → Int64) (v0 : Int64) : Nat → Int32 → Prop
  | 0, _ => False
  | n + 1, v4 => ((v4 < 0 → (post (-1))) ∧ (¬ v4 < 0 → (vp_in v4 N ∧ ((v0 < (f (v4).toNatClampNeg) → (wX0_lastNotBehind_L5 post N f v0 n (v4 + (-1)))) ∧ (¬ v0 < (f (v4).toNatClampNeg) → (post v4))))))
def wX0_lastNotBehind (post : Int32 → Prop) (N : Nat) (f : Nat → Int64) (v0 : Int64) (v3 : Int32) : Prop := (∃ n4 : Nat, wX0_lastNotBehind_L5 post N f v0 n4 (v3 - 1))
set_option maxHeartbeats 4000000 in
set_option maxRecDepth 100000 in
theorem kX0_lastNotBehind_L5 {p : Program} {l : Launch} {e : Env} {s : State} {m : MethodId} {args : Array Value} {below : List Frame} {meth : Method} {c : Code} {D : va_G} {cJ : ClassId} {a N : Nat} {f : Nat → Int64} {post : Int32 → Prop} (hx : p.tables.exec = Jvm.exec) (hb : c.code = cX0_lastNotBehind) (hr : meth.sig.returnType = (some .int)) (hml : c.maxLocals = 5) (hown : s.vm.findClass RX0 = some m.cls) (hlocks : meth.locks = false) (hts : ∀ w ∈ wsX0_lastNotBehind, w.before args s = true) (hW : AW D cJ a N f s s.heap) (v0 : Int64) (v3 : Int32) : ∀ (n : Nat) (v4 : Int32) (ls : Array Slot), lv_has ls 5 [(0, .long v0), (2, .ref a), (3, .int v3), (4, .int v4)] → wX0_lastNotBehind_L5 post N f v0 n v4 → W p l e ({ frames := 0, cells := 0, slots := 0, locals := 0 } : Room) s m args below meth c s.heap [] 0 0 (MQ below (vp_Si post) args s 0 0 nA) (F0 m 5 ls []) := by
  intro n
  induction n with
  | zero =>
    intro v4 ls hl hw
    exact hw.elim
  | succ n ih =>
    intro v4 ls hl hw
    rw [wX0_lastNotBehind_L5] at hw
    refine lv_iload hx hb dX0_lastNotBehind_5 (lv_at hl 3 rfl) ?_
    refine lv_if_lt (tgt := 28) hx hb dX0_lastNotBehind_7 (by decide) (fun c1 => ?_) (fun c1 => ?_)
    · have hw := hw.1 c1
      refine lv_iconst (v := (-1)) hx hb dX0_lastNotBehind_28 (by decide) ?_
      exact W.iret (v := (-1)) hx hb hr (fun t ht hWm => ⟨_, rfl, hw, ht⟩) t_nil dX0_lastNotBehind_29
    · have hw := hw.2 c1
      refine lv_aload_n hx hb dX0_lastNotBehind_10 rfl (lv_at hl 1 rfl) ?_
      refine lv_iload hx hb dX0_lastNotBehind_11 (lv_at hl 3 rfl) ?_
      obtain ⟨h2, hw⟩ := hw
      refine va_lald hx hb hW.2 hW.1 0 0 rfl rfl h2 dX0_lastNotBehind_13 ?_
      refine lv_lload_n hx hb dX0_lastNotBehind_14 rfl (lv_at hl 0 rfl) ?_
      refine bl_gt (tgt := 22) hx hb dX0_lastNotBehind_15 dX0_lastNotBehind_16 (by decide) (fun c3 => ?_) (fun c3 => ?_)
      · have hw := hw.1 c3
        refine lv_iinc (v := (v4 + (-1))) (lv' := [(4, .int (v4 + (-1))), (0, .long v0), (2, .ref a), (3, .int v3)]) hx hb dX0_lastNotBehind_22 hl (k := 3) rfl (by first | rfl | exact congrArg (fun z => v4 + z) (by decide)) (by decide) rfl (fun ls hl => ?_)
        refine lv_goto (tgt := 5) hx hb dX0_lastNotBehind_25 (by decide) ?_
        exact ih (v4 + (-1)) ls (lv_sub hl [1, 2, 3, 0] rfl) hw
      · have hw := hw.2 c3
        refine lv_iload hx hb dX0_lastNotBehind_19 (lv_at hl 3 rfl) ?_
        exact W.iret (v := v4) hx hb hr (fun t ht hWm => ⟨_, rfl, hw, ht⟩) t_nil dX0_lastNotBehind_21
set_option maxHeartbeats 4000000 in
set_option maxRecDepth 100000 in
theorem mX0_lastNotBehind (l : Launch) (D : va_G) (cJ : ClassId) (a N : Nat) (f : Nat → Int64) (v0 : Int64) (v3 : Int32) (post : Int32 → Prop) : Met l yX0_lastNotBehind wsX0_lastNotBehind ({ frames := 0, cells := 0, slots := 0, locals := 0 } : Room) (va_Pc [.long v0, .ref a, .int v3] (fun U => AW D cJ a N f U U.heap ∧ wX0_lastNotBehind post N f v0 v3)) (vp_Si post) 0 0 nA := by
  refine Met.ofW (cc := cX0_lastNotBehind) (maxL := 5) (ret := (some .int)) (by decide +kernel) rfl ?_
  intro p e s m args below meth c s₁ B hml hv
  obtain ⟨rfl, hW, hw⟩ := hv
  have hx := B.exec
  have hb := B.bytes
  have hr := B.returns
  have hts := atoms_spec (ws := wsX0_lastNotBehind) B.pre
  have hown : s.vm.findClass RX0 = some m.cls := findClass_of_methodNamed B.named
  have hlocks := B.notSynchronized
  have hl := lv_entry ([.long v0, .ref a, .int v3]) (n := 5) (Nat.le_of_ble_eq_true rfl)
  rw [lg_entry_eq]
  generalize (lg_sl ([.long v0, .ref a, .int v3]) ++ List.replicate (5 - (lg_sl ([.long v0, .ref a, .int v3])).length) Slot.unset).toArray = ls at hl ⊢
  have hl : lv_has ls 5 [(0, .long v0), (2, .ref a), (3, .int v3)] := hl
  unfold wX0_lastNotBehind at hw
  refine lv_iload_n hx hb dX0_lastNotBehind_0 rfl (lv_at hl 2 rfl) ?_
  refine lv_iconst (v := 1) hx hb dX0_lastNotBehind_1 (by decide) ?_
  refine lv_isub hx hb dX0_lastNotBehind_2 ?_
  refine lv_istore (lv' := [(4, .int (v3 - 1)), (0, .long v0), (2, .ref a), (3, .int v3)]) hx hb dX0_lastNotBehind_3 hl (by decide) rfl (fun ls hl => ?_)
  obtain ⟨n4, hw⟩ := hw
  exact kX0_lastNotBehind_L5 hx hb hr hml hown hlocks hts hW v0 v3 n4 (v3 - 1) ls (lv_sub hl [1, 2, 3, 0] rfl) hw
end
section
def wX0_hasTable (post : Int32 → Prop) (u : XS) : Prop := (((xNT u) < 2 → (post 0)) ∧ (¬ (xNT u) < 2 → (post 1)))

set_option maxHeartbeats 4000000 in
set_option maxRecDepth 100000 in
theorem mX0_hasTable (l : Launch) (D : va_G) (cJ : ClassId) (h0 a1 a2 a3 a4 a5 a6 tC tS : Nat) (u : XS) (post : Int32 → Prop) : Met l yX0_hasTable wsX0_hasTable ({ frames := 0, cells := 0, slots := 0, locals := 0 } : Room) (va_Pc [.ref h0] (fun U => XW D cJ h0 a1 a2 a3 a4 a5 a6 tC tS u U U.heap ∧ wX0_hasTable post u)) (vp_Si (fun r => (r = 0 ∨ r = 1) ∧ post r)) 0 0 nA := by
  refine Met.ofW (cc := cX0_hasTable) (maxL := 1) (ret := (some .boolean)) (by decide +kernel) rfl ?_
  intro p e s m args below meth c s₁ B hml hv
  obtain ⟨rfl, hW, hw⟩ := hv
  have hx := B.exec
  have hb := B.bytes
  have hr := B.returns
  have hts := atoms_spec (ws := wsX0_hasTable) B.pre
  have hown : s.vm.findClass RX0 = some m.cls := findClass_of_methodNamed B.named
  have hlocks := B.notSynchronized
  have hin : ∀ w ∈ u_ws RX0 TX0 9, w ∈ wsX0_hasTable := by decide +kernel
  have hl := lv_entry ([.ref h0]) (n := 1) (Nat.le_of_ble_eq_true rfl)
  rw [lg_entry_eq]
  generalize (lg_sl ([.ref h0]) ++ List.replicate (1 - (lg_sl ([.ref h0])).length) Slot.unset).toArray = ls at hl ⊢
  have hl : lv_has ls 1 [(0, .ref h0)] := hl
  unfold wX0_hasTable at hw
  refine lv_aload_n hx hb dX0_hasTable_0 rfl (lv_at hl 0 rfl) ?_
  refine va_get (D := D) (ci := 0) (v := .int (xNT u)) (C := RX0) (T := TX0) (N := 9) hx hb hts hin hown hW.2.1 hW.1 0 rfl rfl 2 (by decide) (hts (.fieldLink RX0 16 "TideDepths" "turns" "I") (by decide +kernel)) (fun _ h9 => h9) rfl dX0_hasTable_1 ?_
  refine lv_iconst (v := 2) hx hb dX0_hasTable_4 (by decide) ?_
  refine lv_icmp_lt (tgt := 12) hx hb dX0_hasTable_5 (by decide) (fun c1 => ?_) (fun c1 => ?_)
  · have hw := hw.1 c1
    refine lv_iconst (v := 0) hx hb dX0_hasTable_12 (by decide) ?_
    exact W.zret (v := 0) hx hb hr (bz_nar (Or.inl rfl)) (fun t ht hWm => ⟨_, rfl, ⟨(Or.inl rfl), hw⟩, ht⟩) t_nil dX0_hasTable_13
  · have hw := hw.2 c1
    refine lv_iconst (v := 1) hx hb dX0_hasTable_8 (by decide) ?_
    refine lv_goto (tgt := 13) hx hb dX0_hasTable_9 (by decide) ?_
    exact W.zret (v := 1) hx hb hr (bz_nar (Or.inr rfl)) (fun t ht hWm => ⟨_, rfl, ⟨(Or.inr rfl), hw⟩, ht⟩) t_nil dX0_hasTable_13

def wX0_firstSecond (post : Int64 → Prop) (u : XS) : Prop := (wX0_hasTable (fun r1 => ((r1 = 0 → (post (-1))) ∧ (¬ r1 = 0 → (post ((xTT u) 0))))) u)

set_option maxHeartbeats 4000000 in
set_option maxRecDepth 100000 in
theorem mX0_firstSecond (l : Launch) (D : va_G) (cJ : ClassId) (h0 a1 a2 a3 a4 a5 a6 tC tS : Nat) (u : XS) (post : Int64 → Prop) : Met l yX0_firstSecond wsX0_firstSecond ({ frames := 1, cells := 0, slots := 0, locals := 20 } : Room) (va_Pc [.ref h0] (fun U => XW D cJ h0 a1 a2 a3 a4 a5 a6 tC tS u U U.heap ∧ wX0_firstSecond post u)) (vp_Sl post) 0 0 nA := by
  refine Met.ofW (cc := cX0_firstSecond) (maxL := 1) (ret := (some .long)) (by decide +kernel) rfl ?_
  intro p e s m args below meth c s₁ B hml hv
  obtain ⟨rfl, hW, hw⟩ := hv
  have hx := B.exec
  have hb := B.bytes
  have hr := B.returns
  have hts := atoms_spec (ws := wsX0_firstSecond) B.pre
  have hown : s.vm.findClass RX0 = some m.cls := findClass_of_methodNamed B.named
  have hlocks := B.notSynchronized
  have hin : ∀ w ∈ u_ws RX0 TX0 9, w ∈ wsX0_firstSecond := by decide +kernel
  have hl := lv_entry ([.ref h0]) (n := 1) (Nat.le_of_ble_eq_true rfl)
  rw [lg_entry_eq]
  generalize (lg_sl ([.ref h0]) ++ List.replicate (1 - (lg_sl ([.ref h0])).length) Slot.unset).toArray = ls at hl ⊢
  have hl : lv_has ls 1 [(0, .ref h0)] := hl
  unfold wX0_firstSecond at hw
  refine lv_aload_n hx hb dX0_firstSecond_0 rfl (lv_at hl 0 rfl) ?_
  refine pc_Vi (As := []) (rest := []) ⟨hx, hb, hml, hown, hts⟩ (mX0_hasTable l D cJ h0 a1 a2 a3 a4 a5 a6 tC tS u _) (cwV 0 hts gX0_firstSecond_X0_hasTable rfl rfl rfl (by decide +kernel) ⟨Nat.le_of_ble_eq_true rfl, Nat.le_of_ble_eq_true rfl⟩) (wX_rc hW) wX_bl (wX_in hW hw) rfl hl.1 rfl (Nat.le_of_ble_eq_true rfl) dX0_firstSecond_1 ⟨Nat.le_of_ble_eq_true rfl, Nat.le_of_ble_eq_true rfl⟩ (fun r1 hw => ?_)
  obtain ⟨z_r1, hw⟩ := hw
  refine lv_if_eq (tgt := 16) hx hb dX0_firstSecond_4 (by decide) (fun c2 => ?_) (fun c2 => ?_)
  · have hw := hw.1 c2
    refine lv_ldc2 (v := (-1)) hx hb hown (hts (.constantLong RX0 190 (-1)) (by decide +kernel)) dX0_firstSecond_16 ?_
    exact W.lret (v := (-1)) hx hb hr (fun t ht hWm => ⟨_, rfl, hw, ht⟩) t_nil dX0_firstSecond_19
  · have hw := hw.2 c2
    refine lv_aload_n hx hb dX0_firstSecond_7 rfl (lv_at hl 0 rfl) ?_
    refine va_get (D := D) (ci := 0) (v := .ref a1) (C := RX0) (T := TX0) (N := 9) hx hb hts hin hown hW.2.1 hW.1 0 rfl rfl 0 (by decide) (hts (.fieldLink RX0 9 "TideDepths" "turnTimes" "[J") (by decide +kernel)) (fun _ h9 => h9) rfl dX0_firstSecond_8 ?_
    refine lv_iconst (v := 0) hx hb dX0_firstSecond_11 (by decide) ?_
    refine va_lald hx hb hW.2.1 hW.1 1 0 rfl rfl (by unfold vp_in; decide) dX0_firstSecond_12 ?_
    rw [show Int32.toNatClampNeg 0 = 0 from by decide]
    refine lv_goto (tgt := 19) hx hb dX0_firstSecond_13 (by decide) ?_
    exact W.lret (v := ((xTT u) 0)) hx hb hr (fun t ht hWm => ⟨_, rfl, hw, ht⟩) t_nil dX0_firstSecond_19

def wX0_lastSecond (post : Int64 → Prop) (u : XS) : Prop := (wX0_hasTable (fun r1 => ((r1 = 0 → (post (-1))) ∧ (¬ r1 = 0 → (vp_in ((xNT u) - 1) 40 ∧ (post ((xTT u) (((xNT u) - 1)).toNatClampNeg)))))) u)

set_option maxHeartbeats 4000000 in
set_option maxRecDepth 100000 in
theorem mX0_lastSecond (l : Launch) (D : va_G) (cJ : ClassId) (h0 a1 a2 a3 a4 a5 a6 tC tS : Nat) (u : XS) (post : Int64 → Prop) : Met l yX0_lastSecond wsX0_lastSecond ({ frames := 1, cells := 0, slots := 0, locals := 20 } : Room) (va_Pc [.ref h0] (fun U => XW D cJ h0 a1 a2 a3 a4 a5 a6 tC tS u U U.heap ∧ wX0_lastSecond post u)) (vp_Sl post) 0 0 nA := by
  refine Met.ofW (cc := cX0_lastSecond) (maxL := 1) (ret := (some .long)) (by decide +kernel) rfl ?_
  intro p e s m args below meth c s₁ B hml hv
  obtain ⟨rfl, hW, hw⟩ := hv
  have hx := B.exec
  have hb := B.bytes
  have hr := B.returns
  have hts := atoms_spec (ws := wsX0_lastSecond) B.pre
  have hown : s.vm.findClass RX0 = some m.cls := findClass_of_methodNamed B.named
  have hlocks := B.notSynchronized
  have hin : ∀ w ∈ u_ws RX0 TX0 9, w ∈ wsX0_lastSecond := by decide +kernel
  have hl := lv_entry ([.ref h0]) (n := 1) (Nat.le_of_ble_eq_true rfl)
  rw [lg_entry_eq]
  generalize (lg_sl ([.ref h0]) ++ List.replicate (1 - (lg_sl ([.ref h0])).length) Slot.unset).toArray = ls at hl ⊢
  have hl : lv_has ls 1 [(0, .ref h0)] := hl
  unfold wX0_lastSecond at hw
  refine lv_aload_n hx hb dX0_lastSecond_0 rfl (lv_at hl 0 rfl) ?_
  refine pc_Vi (As := []) (rest := []) ⟨hx, hb, hml, hown, hts⟩ (mX0_hasTable l D cJ h0 a1 a2 a3 a4 a5 a6 tC tS u _) (cwV 0 hts gX0_lastSecond_X0_hasTable rfl rfl rfl (by decide +kernel) ⟨Nat.le_of_ble_eq_true rfl, Nat.le_of_ble_eq_true rfl⟩) (wX_rc hW) wX_bl (wX_in hW hw) rfl hl.1 rfl (Nat.le_of_ble_eq_true rfl) dX0_lastSecond_1 ⟨Nat.le_of_ble_eq_true rfl, Nat.le_of_ble_eq_true rfl⟩ (fun r1 hw => ?_)
  obtain ⟨z_r1, hw⟩ := hw
  refine lv_if_eq (tgt := 21) hx hb dX0_lastSecond_4 (by decide) (fun c2 => ?_) (fun c2 => ?_)
  · have hw := hw.1 c2
    refine lv_ldc2 (v := (-1)) hx hb hown (hts (.constantLong RX0 190 (-1)) (by decide +kernel)) dX0_lastSecond_21 ?_
    exact W.lret (v := (-1)) hx hb hr (fun t ht hWm => ⟨_, rfl, hw, ht⟩) t_nil dX0_lastSecond_24
  · have hw := hw.2 c2
    refine lv_aload_n hx hb dX0_lastSecond_7 rfl (lv_at hl 0 rfl) ?_
    refine va_get (D := D) (ci := 0) (v := .ref a1) (C := RX0) (T := TX0) (N := 9) hx hb hts hin hown hW.2.1 hW.1 0 rfl rfl 0 (by decide) (hts (.fieldLink RX0 9 "TideDepths" "turnTimes" "[J") (by decide +kernel)) (fun _ h9 => h9) rfl dX0_lastSecond_8 ?_
    refine lv_aload_n hx hb dX0_lastSecond_11 rfl (lv_at hl 0 rfl) ?_
    refine va_get (D := D) (ci := 0) (v := .int (xNT u)) (C := RX0) (T := TX0) (N := 9) hx hb hts hin hown hW.2.1 hW.1 0 rfl rfl 2 (by decide) (hts (.fieldLink RX0 16 "TideDepths" "turns" "I") (by decide +kernel)) (fun _ h9 => h9) rfl dX0_lastSecond_12 ?_
    refine lv_iconst (v := 1) hx hb dX0_lastSecond_15 (by decide) ?_
    refine lv_isub hx hb dX0_lastSecond_16 ?_
    obtain ⟨h3, hw⟩ := hw
    refine va_lald hx hb hW.2.1 hW.1 1 0 rfl rfl h3 dX0_lastSecond_17 ?_
    refine lv_goto (tgt := 24) hx hb dX0_lastSecond_18 (by decide) ?_
    exact W.lret (v := ((xTT u) (((xNT u) - 1)).toNatClampNeg)) hx hb hr (fun t ht hWm => ⟨_, rfl, hw, ht⟩) t_nil dX0_lastSecond_24

def wX0_isInTable (post : Int32 → Prop) (u : XS) (v1 : Int64) : Prop := (wX0_hasTable (fun r1 => ((r1 = 0 → (post 0)) ∧ (¬ r1 = 0 → (wX0_firstSecond (fun r3 => (wX0_lastSecond (fun r4 => (wX0_isWithin (fun r5 => ((r5 = 0 → (post 0)) ∧ (¬ r5 = 0 → (post 1)))) v1 r3 r4)) u)) u)))) u)

set_option maxHeartbeats 4000000 in
set_option maxRecDepth 100000 in
theorem mX0_isInTable (l : Launch) (D : va_G) (cJ : ClassId) (h0 a1 a2 a3 a4 a5 a6 tC tS : Nat) (u : XS) (v1 : Int64) (post : Int32 → Prop) : Met l yX0_isInTable wsX0_isInTable ({ frames := 2, cells := 0, slots := 0, locals := 40 } : Room) (va_Pc [.ref h0, .long v1] (fun U => XW D cJ h0 a1 a2 a3 a4 a5 a6 tC tS u U U.heap ∧ wX0_isInTable post u v1)) (vp_Si (fun r => (r = 0 ∨ r = 1) ∧ post r)) 0 0 nA := by
  refine Met.ofW (cc := cX0_isInTable) (maxL := 3) (ret := (some .boolean)) (by decide +kernel) rfl ?_
  intro p e s m args below meth c s₁ B hml hv
  obtain ⟨rfl, hW, hw⟩ := hv
  have hx := B.exec
  have hb := B.bytes
  have hr := B.returns
  have hts := atoms_spec (ws := wsX0_isInTable) B.pre
  have hown : s.vm.findClass RX0 = some m.cls := findClass_of_methodNamed B.named
  have hlocks := B.notSynchronized
  have hin : ∀ w ∈ u_ws RX0 TX0 9, w ∈ wsX0_isInTable := by decide +kernel
  have hl := lv_entry ([.ref h0, .long v1]) (n := 3) (Nat.le_of_ble_eq_true rfl)
  rw [lg_entry_eq]
  generalize (lg_sl ([.ref h0, .long v1]) ++ List.replicate (3 - (lg_sl ([.ref h0, .long v1])).length) Slot.unset).toArray = ls at hl ⊢
  have hl : lv_has ls 3 [(0, .ref h0), (1, .long v1)] := hl
  unfold wX0_isInTable at hw
  refine lv_aload_n hx hb dX0_isInTable_0 rfl (lv_at hl 0 rfl) ?_
  refine pc_Vi (As := []) (rest := []) ⟨hx, hb, hml, hown, hts⟩ (mX0_hasTable l D cJ h0 a1 a2 a3 a4 a5 a6 tC tS u _) (cwV 0 hts gX0_isInTable_X0_hasTable rfl rfl rfl (by decide +kernel) ⟨Nat.le_of_ble_eq_true rfl, Nat.le_of_ble_eq_true rfl⟩) (wX_rc hW) wX_bl (wX_in hW hw) rfl hl.1 rfl (Nat.le_of_ble_eq_true rfl) dX0_isInTable_1 ⟨Nat.le_of_ble_eq_true rfl, Nat.le_of_ble_eq_true rfl⟩ (fun r1 hw => ?_)
  obtain ⟨z_r1, hw⟩ := hw
  refine lv_if_eq (tgt := 26) hx hb dX0_isInTable_4 (by decide) (fun c2 => ?_) (fun c2 => ?_)
  · have hw := hw.1 c2
    refine lv_iconst (v := 0) hx hb dX0_isInTable_26 (by decide) ?_
    exact W.zret (v := 0) hx hb hr (bz_nar (Or.inl rfl)) (fun t ht hWm => ⟨_, rfl, ⟨(Or.inl rfl), hw⟩, ht⟩) t_nil dX0_isInTable_27
  · have hw := hw.2 c2
    refine lv_lload_n hx hb dX0_isInTable_7 rfl (lv_at hl 1 rfl) ?_
    refine lv_aload_n hx hb dX0_isInTable_8 rfl (lv_at hl 0 rfl) ?_
    refine pc_Vl (As := []) (rest := [.long v1]) ⟨hx, hb, hml, hown, hts⟩ (mX0_firstSecond l D cJ h0 a1 a2 a3 a4 a5 a6 tC tS u _) (cwV 0 hts gX0_isInTable_X0_firstSecond rfl rfl rfl (by decide +kernel) ⟨Nat.le_of_ble_eq_true rfl, Nat.le_of_ble_eq_true rfl⟩) (wX_rc hW) wX_bl (wX_in hW hw) rfl hl.1 rfl (Nat.le_of_ble_eq_true rfl) dX0_isInTable_9 ⟨Nat.le_of_ble_eq_true rfl, Nat.le_of_ble_eq_true rfl⟩ (fun r3 hw => ?_)
    refine lv_aload_n hx hb dX0_isInTable_12 rfl (lv_at hl 0 rfl) ?_
    refine pc_Vl (As := []) (rest := [.long r3, .long v1]) ⟨hx, hb, hml, hown, hts⟩ (mX0_lastSecond l D cJ h0 a1 a2 a3 a4 a5 a6 tC tS u _) (cwV 0 hts gX0_isInTable_X0_lastSecond rfl rfl rfl (by decide +kernel) ⟨Nat.le_of_ble_eq_true rfl, Nat.le_of_ble_eq_true rfl⟩) (wX_rc hW) wX_bl (wX_in hW hw) rfl hl.1 rfl (Nat.le_of_ble_eq_true rfl) dX0_isInTable_13 ⟨Nat.le_of_ble_eq_true rfl, Nat.le_of_ble_eq_true rfl⟩ (fun r4 hw => ?_)
    refine pc_Si (As := [.long v1, .long r3, .long r4]) (rest := []) ⟨hx, hb, hml, hown, hts⟩ (mX0_isWithin l v1 r3 r4 _) (va_cwS 3 hts gX0_isInTable_X0_isWithin rfl rfl rfl (by decide +kernel) ⟨Nat.le_of_ble_eq_true rfl, Nat.le_of_ble_eq_true rfl⟩) wK_bl (fun _ _ _ => hw) rfl hl.1 rfl (Nat.le_of_ble_eq_true rfl) dX0_isInTable_16 ⟨Nat.le_of_ble_eq_true rfl, Nat.le_of_ble_eq_true rfl⟩ (fun r5 hw => ?_)
    obtain ⟨z_r5, hw⟩ := hw
    refine lv_if_eq (tgt := 26) hx hb dX0_isInTable_19 (by decide) (fun c6 => ?_) (fun c6 => ?_)
    · have hw := hw.1 c6
      refine lv_iconst (v := 0) hx hb dX0_isInTable_26 (by decide) ?_
      exact W.zret (v := 0) hx hb hr (bz_nar (Or.inl rfl)) (fun t ht hWm => ⟨_, rfl, ⟨(Or.inl rfl), hw⟩, ht⟩) t_nil dX0_isInTable_27
    · have hw := hw.2 c6
      refine lv_iconst (v := 1) hx hb dX0_isInTable_22 (by decide) ?_
      refine lv_goto (tgt := 27) hx hb dX0_isInTable_23 (by decide) ?_
      exact W.zret (v := 1) hx hb hr (bz_nar (Or.inr rfl)) (fun t ht hWm => ⟨_, rfl, ⟨(Or.inr rfl), hw⟩, ht⟩) t_nil dX0_isInTable_27

def wX0_alternates (post : Int32 → Prop) (u : XS) (v1 : Int64) : Prop := (((xNT u) = 0 → (post 1)) ∧ (¬ (xNT u) = 0 → (vp_in ((xNT u) - 1) 40 ∧ (((xNT u) = 1 → ((v1 = ((xTH u) (((xNT u) - 1)).toNatClampNeg) → (post 0)) ∧ (¬ v1 = ((xTH u) (((xNT u) - 1)).toNatClampNeg) → (post 1)))) ∧ (¬ (xNT u) = 1 → (vp_in ((xNT u) - 2) 40 ∧ ((((xTH u) (((xNT u) - 1)).toNatClampNeg) ≤ ((xTH u) (((xNT u) - 2)).toNatClampNeg) → ((v1 ≤ ((xTH u) (((xNT u) - 1)).toNatClampNeg) → (post 0)) ∧ (¬ v1 ≤ ((xTH u) (((xNT u) - 1)).toNatClampNeg) → (post 1)))) ∧ (¬ ((xTH u) (((xNT u) - 1)).toNatClampNeg) ≤ ((xTH u) (((xNT u) - 2)).toNatClampNeg) → ((((xTH u) (((xNT u) - 1)).toNatClampNeg) ≤ v1 → (post 0)) ∧ (¬ ((xTH u) (((xNT u) - 1)).toNatClampNeg) ≤ v1 → (post 1)))))))))))

set_option maxHeartbeats 4000000 in
set_option maxRecDepth 100000 in
theorem mX0_alternates (l : Launch) (D : va_G) (cJ : ClassId) (h0 a1 a2 a3 a4 a5 a6 tC tS : Nat) (u : XS) (v1 : Int64) (post : Int32 → Prop) : Met l yX0_alternates wsX0_alternates ({ frames := 0, cells := 0, slots := 0, locals := 0 } : Room) (va_Pc [.ref h0, .long v1] (fun U => XW D cJ h0 a1 a2 a3 a4 a5 a6 tC tS u U U.heap ∧ wX0_alternates post u v1)) (vp_Si (fun r => (r = 0 ∨ r = 1) ∧ post r)) 0 0 nA := by
  refine Met.ofW (cc := cX0_alternates) (maxL := 6) (ret := (some .boolean)) (by decide +kernel) rfl ?_
  intro p e s m args below meth c s₁ B hml hv
  obtain ⟨rfl, hW, hw⟩ := hv
  have hx := B.exec
  have hb := B.bytes
  have hr := B.returns
  have hts := atoms_spec (ws := wsX0_alternates) B.pre
  have hown : s.vm.findClass RX0 = some m.cls := findClass_of_methodNamed B.named
  have hlocks := B.notSynchronized
  have hin : ∀ w ∈ u_ws RX0 TX0 9, w ∈ wsX0_alternates := by decide +kernel
  have hl := lv_entry ([.ref h0, .long v1]) (n := 6) (Nat.le_of_ble_eq_true rfl)
  rw [lg_entry_eq]
  generalize (lg_sl ([.ref h0, .long v1]) ++ List.replicate (6 - (lg_sl ([.ref h0, .long v1])).length) Slot.unset).toArray = ls at hl ⊢
  have hl : lv_has ls 6 [(0, .ref h0), (1, .long v1)] := hl
  unfold wX0_alternates at hw
  refine lv_aload_n hx hb dX0_alternates_0 rfl (lv_at hl 0 rfl) ?_
  refine va_get (D := D) (ci := 0) (v := .int (xNT u)) (C := RX0) (T := TX0) (N := 9) hx hb hts hin hown hW.2.1 hW.1 0 rfl rfl 2 (by decide) (hts (.fieldLink RX0 16 "TideDepths" "turns" "I") (by decide +kernel)) (fun _ h9 => h9) rfl dX0_alternates_1 ?_
  refine lv_if_ne (tgt := 9) hx hb dX0_alternates_4 (by decide) (fun c1 => ?_) (fun c1 => ?_)
  · have hw := hw.2 c1
    refine lv_aload_n hx hb dX0_alternates_9 rfl (lv_at hl 0 rfl) ?_
    refine va_get (D := D) (ci := 0) (v := .ref a2) (C := RX0) (T := TX0) (N := 9) hx hb hts hin hown hW.2.1 hW.1 0 rfl rfl 1 (by decide) (hts (.fieldLink RX0 13 "TideDepths" "turnHeights" "[J") (by decide +kernel)) (fun _ h9 => h9) rfl dX0_alternates_10 ?_
    refine lv_aload_n hx hb dX0_alternates_13 rfl (lv_at hl 0 rfl) ?_
    refine va_get (D := D) (ci := 0) (v := .int (xNT u)) (C := RX0) (T := TX0) (N := 9) hx hb hts hin hown hW.2.1 hW.1 0 rfl rfl 2 (by decide) (hts (.fieldLink RX0 16 "TideDepths" "turns" "I") (by decide +kernel)) (fun _ h9 => h9) rfl dX0_alternates_14 ?_
    refine lv_iconst (v := 1) hx hb dX0_alternates_17 (by decide) ?_
    refine lv_isub hx hb dX0_alternates_18 ?_
    obtain ⟨h2, hw⟩ := hw
    refine va_lald hx hb hW.2.1 hW.1 2 0 rfl rfl h2 dX0_alternates_19 ?_
    refine lv_lstore_n (lv' := [(3, .long ((xTH u) (((xNT u) - 1)).toNatClampNeg)), (0, .ref h0), (1, .long v1)]) hx hb dX0_alternates_20 rfl hl (by decide) rfl (fun ls hl => ?_)
    refine lv_aload_n hx hb dX0_alternates_21 rfl (lv_at hl 1 rfl) ?_
    refine va_get (D := D) (ci := 0) (v := .int (xNT u)) (C := RX0) (T := TX0) (N := 9) hx hb hts hin hown hW.2.1 hW.1 0 rfl rfl 2 (by decide) (hts (.fieldLink RX0 16 "TideDepths" "turns" "I") (by decide +kernel)) (fun _ h9 => h9) rfl dX0_alternates_22 ?_
    refine lv_iconst (v := 1) hx hb dX0_alternates_25 (by decide) ?_
    refine lv_icmp_ne (tgt := 41) hx hb dX0_alternates_26 (by decide) (fun c3 => ?_) (fun c3 => ?_)
    · have hw := hw.2 c3
      refine lv_lload_n hx hb dX0_alternates_41 rfl (lv_at hl 0 rfl) ?_
      refine lv_aload_n hx hb dX0_alternates_42 rfl (lv_at hl 1 rfl) ?_
      refine va_get (D := D) (ci := 0) (v := .ref a2) (C := RX0) (T := TX0) (N := 9) hx hb hts hin hown hW.2.1 hW.1 0 rfl rfl 1 (by decide) (hts (.fieldLink RX0 13 "TideDepths" "turnHeights" "[J") (by decide +kernel)) (fun _ h9 => h9) rfl dX0_alternates_43 ?_
      refine lv_aload_n hx hb dX0_alternates_46 rfl (lv_at hl 1 rfl) ?_
      refine va_get (D := D) (ci := 0) (v := .int (xNT u)) (C := RX0) (T := TX0) (N := 9) hx hb hts hin hown hW.2.1 hW.1 0 rfl rfl 2 (by decide) (hts (.fieldLink RX0 16 "TideDepths" "turns" "I") (by decide +kernel)) (fun _ h9 => h9) rfl dX0_alternates_47 ?_
      refine lv_iconst (v := 2) hx hb dX0_alternates_50 (by decide) ?_
      refine lv_isub hx hb dX0_alternates_51 ?_
      obtain ⟨h4, hw⟩ := hw
      refine va_lald hx hb hW.2.1 hW.1 2 0 rfl rfl h4 dX0_alternates_52 ?_
      refine bl_le (tgt := 61) hx hb dX0_alternates_53 dX0_alternates_54 (by decide) (fun c5 => ?_) (fun c5 => ?_)
      · have hw := hw.1 c5
        refine lv_iconst (v := 0) hx hb dX0_alternates_61 (by decide) ?_
        refine lv_istore (lv' := [(5, .int 0), (3, .long ((xTH u) (((xNT u) - 1)).toNatClampNeg)), (0, .ref h0), (1, .long v1)]) hx hb dX0_alternates_62 hl (by decide) rfl (fun ls hl => ?_)
        refine lv_iload hx hb dX0_alternates_64 (lv_at hl 0 rfl) ?_
        refine lv_if_eq (tgt := 83) hx hb dX0_alternates_66 (by decide) (fun c6 => ?_) (fun c6 => ?_)
        ·
          refine lv_lload_n hx hb dX0_alternates_83 rfl (lv_at hl 3 rfl) ?_
          refine lv_lload_n hx hb dX0_alternates_84 rfl (lv_at hl 1 rfl) ?_
          refine bl_le (tgt := 93) hx hb dX0_alternates_85 dX0_alternates_86 (by decide) (fun c7 => ?_) (fun c7 => ?_)
          · have hw := hw.1 c7
            refine lv_iconst (v := 0) hx hb dX0_alternates_93 (by decide) ?_
            exact W.zret (v := 0) hx hb hr (bz_nar (Or.inl rfl)) (fun t ht hWm => ⟨_, rfl, ⟨(Or.inl rfl), hw⟩, ht⟩) t_nil dX0_alternates_94
          · have hw := hw.2 c7
            refine lv_iconst (v := 1) hx hb dX0_alternates_89 (by decide) ?_
            refine lv_goto (tgt := 94) hx hb dX0_alternates_90 (by decide) ?_
            exact W.zret (v := 1) hx hb hr (bz_nar (Or.inr rfl)) (fun t ht hWm => ⟨_, rfl, ⟨(Or.inr rfl), hw⟩, ht⟩) t_nil dX0_alternates_94
        · exact absurd (by decide) c6
      · have hw := hw.2 c5
        refine lv_iconst (v := 1) hx hb dX0_alternates_57 (by decide) ?_
        refine lv_goto (tgt := 62) hx hb dX0_alternates_58 (by decide) ?_
        refine lv_istore (lv' := [(5, .int 1), (3, .long ((xTH u) (((xNT u) - 1)).toNatClampNeg)), (0, .ref h0), (1, .long v1)]) hx hb dX0_alternates_62 hl (by decide) rfl (fun ls hl => ?_)
        refine lv_iload hx hb dX0_alternates_64 (lv_at hl 0 rfl) ?_
        refine lv_if_eq (tgt := 83) hx hb dX0_alternates_66 (by decide) (fun c8 => ?_) (fun c8 => ?_)
        · exact absurd c8 (by decide)
        ·
          refine lv_lload_n hx hb dX0_alternates_69 rfl (lv_at hl 3 rfl) ?_
          refine lv_lload_n hx hb dX0_alternates_70 rfl (lv_at hl 1 rfl) ?_
          refine bl_ge (tgt := 79) hx hb dX0_alternates_71 dX0_alternates_72 (by decide) (fun c9 => ?_) (fun c9 => ?_)
          · have hw := hw.1 c9
            refine lv_iconst (v := 0) hx hb dX0_alternates_79 (by decide) ?_
            refine lv_goto (tgt := 94) hx hb dX0_alternates_80 (by decide) ?_
            exact W.zret (v := 0) hx hb hr (bz_nar (Or.inl rfl)) (fun t ht hWm => ⟨_, rfl, ⟨(Or.inl rfl), hw⟩, ht⟩) t_nil dX0_alternates_94
          · have hw := hw.2 c9
            refine lv_iconst (v := 1) hx hb dX0_alternates_75 (by decide) ?_
            refine lv_goto (tgt := 94) hx hb dX0_alternates_76 (by decide) ?_
            exact W.zret (v := 1) hx hb hr (bz_nar (Or.inr rfl)) (fun t ht hWm => ⟨_, rfl, ⟨(Or.inr rfl), hw⟩, ht⟩) t_nil dX0_alternates_94
    · have hw := hw.1 c3
      refine lv_lload_n hx hb dX0_alternates_29 rfl (lv_at hl 2 rfl) ?_
      refine lv_lload_n hx hb dX0_alternates_30 rfl (lv_at hl 0 rfl) ?_
      refine bl_eq (tgt := 39) hx hb dX0_alternates_31 dX0_alternates_32 (by decide) (fun c10 => ?_) (fun c10 => ?_)
      · have hw := hw.1 c10
        refine lv_iconst (v := 0) hx hb dX0_alternates_39 (by decide) ?_
        exact W.zret (v := 0) hx hb hr (bz_nar (Or.inl rfl)) (fun t ht hWm => ⟨_, rfl, ⟨(Or.inl rfl), hw⟩, ht⟩) t_nil dX0_alternates_40
      · have hw := hw.2 c10
        refine lv_iconst (v := 1) hx hb dX0_alternates_35 (by decide) ?_
        refine lv_goto (tgt := 40) hx hb dX0_alternates_36 (by decide) ?_
        exact W.zret (v := 1) hx hb hr (bz_nar (Or.inr rfl)) (fun t ht hWm => ⟨_, rfl, ⟨(Or.inr rfl), hw⟩, ht⟩) t_nil dX0_alternates_40
  · have hw := hw.1 c1
    refine lv_iconst (v := 1) hx hb dX0_alternates_7 (by decide) ?_
    exact W.zret (v := 1) hx hb hr (bz_nar (Or.inr rfl)) (fun t ht hWm => ⟨_, rfl, ⟨(Or.inr rfl), hw⟩, ht⟩) t_nil dX0_alternates_8

def wX0_tableHeight (post : Int64 → Prop) (u : XS) (v1 : Int64) : Prop := (wX0_lastNotBehind (fun r1 => ((0 ≤ r1 → (vp_in r1 40 ∧ (((r1 + 1) < (xNT u) → (vp_in r1 40 ∧ (vp_in (r1 + 1) 40 ∧ (vp_in r1 40 ∧ (wX0_cosinePart (fun r8 => (vp_in (r1 + 1) 40 ∧ (wJ9_floorDiv_f86c9 (fun r10 => (post (((xTH u) (r1).toNatClampNeg) + r10))) ((((xTH u) ((r1 + 1)).toNatClampNeg) - ((xTH u) (r1).toNatClampNeg)) * r8) 32768))) (v1 - ((xTT u) (r1).toNatClampNeg)) (((xTT u) ((r1 + 1)).toNatClampNeg) - ((xTT u) (r1).toNatClampNeg))))))) ∧ (¬ (r1 + 1) < (xNT u) → (post ((xTH u) (r1).toNatClampNeg)))))) ∧ (¬ 0 ≤ r1 → (post 0)))) 40 (xTT u) v1 (xNT u))

set_option maxHeartbeats 4000000 in
set_option maxRecDepth 100000 in
theorem mX0_tableHeight (l : Launch) (D : va_G) (cJ : ClassId) (h0 a1 a2 a3 a4 a5 a6 tC tS : Nat) (u : XS) (v1 : Int64) (post : Int64 → Prop) : Met l yX0_tableHeight wsX0_tableHeight ({ frames := 1, cells := 0, slots := 0, locals := 28 } : Room) (va_Pc [.ref h0, .long v1] (fun U => XW D cJ h0 a1 a2 a3 a4 a5 a6 tC tS u U U.heap ∧ wX0_tableHeight post u v1)) (vp_Sl post) 0 0 nA := by
  refine Met.ofW (cc := cX0_tableHeight) (maxL := 8) (ret := (some .long)) (by decide +kernel) rfl ?_
  intro p e s m args below meth c s₁ B hml hv
  obtain ⟨rfl, hW, hw⟩ := hv
  have hx := B.exec
  have hb := B.bytes
  have hr := B.returns
  have hts := atoms_spec (ws := wsX0_tableHeight) B.pre
  have hown : s.vm.findClass RX0 = some m.cls := findClass_of_methodNamed B.named
  have hlocks := B.notSynchronized
  have hin : ∀ w ∈ u_ws RX0 TX0 9, w ∈ wsX0_tableHeight := by decide +kernel
  have hl := lv_entry ([.ref h0, .long v1]) (n := 8) (Nat.le_of_ble_eq_true rfl)
  rw [lg_entry_eq]
  generalize (lg_sl ([.ref h0, .long v1]) ++ List.replicate (8 - (lg_sl ([.ref h0, .long v1])).length) Slot.unset).toArray = ls at hl ⊢
  have hl : lv_has ls 8 [(0, .ref h0), (1, .long v1)] := hl
  unfold wX0_tableHeight at hw
  refine lv_lload_n hx hb dX0_tableHeight_0 rfl (lv_at hl 1 rfl) ?_
  refine lv_aload_n hx hb dX0_tableHeight_1 rfl (lv_at hl 0 rfl) ?_
  refine va_get (D := D) (ci := 0) (v := .ref a1) (C := RX0) (T := TX0) (N := 9) hx hb hts hin hown hW.2.1 hW.1 0 rfl rfl 0 (by decide) (hts (.fieldLink RX0 9 "TideDepths" "turnTimes" "[J") (by decide +kernel)) (fun _ h9 => h9) rfl dX0_tableHeight_2 ?_
  refine lv_aload_n hx hb dX0_tableHeight_5 rfl (lv_at hl 0 rfl) ?_
  refine va_get (D := D) (ci := 0) (v := .int (xNT u)) (C := RX0) (T := TX0) (N := 9) hx hb hts hin hown hW.2.1 hW.1 0 rfl rfl 2 (by decide) (hts (.fieldLink RX0 16 "TideDepths" "turns" "I") (by decide +kernel)) (fun _ h9 => h9) rfl dX0_tableHeight_6 ?_
  refine pc_Si (As := [.long v1, .ref a1, .int (xNT u)]) (rest := []) ⟨hx, hb, hml, hown, hts⟩ (mX0_lastNotBehind l D cJ a1 40 (xTT u) v1 (xNT u) _) (va_cwS 3 hts gX0_tableHeight_X0_lastNotBehind rfl rfl rfl (by decide +kernel) ⟨Nat.le_of_ble_eq_true rfl, Nat.le_of_ble_eq_true rfl⟩) wA_bl (wA_in ⟨hW.1.sub [1] rfl, hW.2.1⟩ hw) rfl hl.1 rfl (Nat.le_of_ble_eq_true rfl) dX0_tableHeight_9 ⟨Nat.le_of_ble_eq_true rfl, Nat.le_of_ble_eq_true rfl⟩ (fun r1 hw => ?_)
  refine lv_istore_n (lv' := [(3, .int r1), (0, .ref h0), (1, .long v1)]) hx hb dX0_tableHeight_12 rfl hl (by decide) rfl (fun ls hl => ?_)
  refine lv_iload_n hx hb dX0_tableHeight_13 rfl (lv_at hl 0 rfl) ?_
  refine lv_if_ge (tgt := 19) hx hb dX0_tableHeight_14 (by decide) (fun c2 => ?_) (fun c2 => ?_)
  · have hw := hw.1 c2
    refine lv_aload_n hx hb dX0_tableHeight_19 rfl (lv_at hl 1 rfl) ?_
    refine va_get (D := D) (ci := 0) (v := .ref a2) (C := RX0) (T := TX0) (N := 9) hx hb hts hin hown hW.2.1 hW.1 0 rfl rfl 1 (by decide) (hts (.fieldLink RX0 13 "TideDepths" "turnHeights" "[J") (by decide +kernel)) (fun _ h9 => h9) rfl dX0_tableHeight_20 ?_
    refine lv_iload_n hx hb dX0_tableHeight_23 rfl (lv_at hl 0 rfl) ?_
    obtain ⟨h3, hw⟩ := hw
    refine va_lald hx hb hW.2.1 hW.1 2 0 rfl rfl h3 dX0_tableHeight_24 ?_
    refine lv_lstore (lv' := [(4, .long ((xTH u) (r1).toNatClampNeg)), (3, .int r1), (0, .ref h0), (1, .long v1)]) hx hb dX0_tableHeight_25 hl (by decide) rfl (fun ls hl => ?_)
    refine lv_iload_n hx hb dX0_tableHeight_27 rfl (lv_at hl 1 rfl) ?_
    refine lv_iconst (v := 1) hx hb dX0_tableHeight_28 (by decide) ?_
    refine lv_iadd hx hb dX0_tableHeight_29 ?_
    refine lv_aload_n hx hb dX0_tableHeight_30 rfl (lv_at hl 2 rfl) ?_
    refine va_get (D := D) (ci := 0) (v := .int (xNT u)) (C := RX0) (T := TX0) (N := 9) hx hb hts hin hown hW.2.1 hW.1 0 rfl rfl 2 (by decide) (hts (.fieldLink RX0 16 "TideDepths" "turns" "I") (by decide +kernel)) (fun _ h9 => h9) rfl dX0_tableHeight_31 ?_
    refine lv_icmp_lt (tgt := 40) hx hb dX0_tableHeight_34 (by decide) (fun c4 => ?_) (fun c4 => ?_)
    · have hw := hw.1 c4
      refine lv_lload_n hx hb dX0_tableHeight_40 rfl (lv_at hl 3 rfl) ?_
      refine lv_aload_n hx hb dX0_tableHeight_41 rfl (lv_at hl 2 rfl) ?_
      refine va_get (D := D) (ci := 0) (v := .ref a1) (C := RX0) (T := TX0) (N := 9) hx hb hts hin hown hW.2.1 hW.1 0 rfl rfl 0 (by decide) (hts (.fieldLink RX0 9 "TideDepths" "turnTimes" "[J") (by decide +kernel)) (fun _ h9 => h9) rfl dX0_tableHeight_42 ?_
      refine lv_iload_n hx hb dX0_tableHeight_45 rfl (lv_at hl 1 rfl) ?_
      obtain ⟨h5, hw⟩ := hw
      refine va_lald hx hb hW.2.1 hW.1 1 0 rfl rfl h5 dX0_tableHeight_46 ?_
      refine lv_lsub hx hb dX0_tableHeight_47 ?_
      refine lv_aload_n hx hb dX0_tableHeight_48 rfl (lv_at hl 2 rfl) ?_
      refine va_get (D := D) (ci := 0) (v := .ref a1) (C := RX0) (T := TX0) (N := 9) hx hb hts hin hown hW.2.1 hW.1 0 rfl rfl 0 (by decide) (hts (.fieldLink RX0 9 "TideDepths" "turnTimes" "[J") (by decide +kernel)) (fun _ h9 => h9) rfl dX0_tableHeight_49 ?_
      refine lv_iload_n hx hb dX0_tableHeight_52 rfl (lv_at hl 1 rfl) ?_
      refine lv_iconst (v := 1) hx hb dX0_tableHeight_53 (by decide) ?_
      refine lv_iadd hx hb dX0_tableHeight_54 ?_
      obtain ⟨h6, hw⟩ := hw
      refine va_lald hx hb hW.2.1 hW.1 1 0 rfl rfl h6 dX0_tableHeight_55 ?_
      refine lv_aload_n hx hb dX0_tableHeight_56 rfl (lv_at hl 2 rfl) ?_
      refine va_get (D := D) (ci := 0) (v := .ref a1) (C := RX0) (T := TX0) (N := 9) hx hb hts hin hown hW.2.1 hW.1 0 rfl rfl 0 (by decide) (hts (.fieldLink RX0 9 "TideDepths" "turnTimes" "[J") (by decide +kernel)) (fun _ h9 => h9) rfl dX0_tableHeight_57 ?_
      refine lv_iload_n hx hb dX0_tableHeight_60 rfl (lv_at hl 1 rfl) ?_
      obtain ⟨h7, hw⟩ := hw
      refine va_lald hx hb hW.2.1 hW.1 1 0 rfl rfl h7 dX0_tableHeight_61 ?_
      refine lv_lsub hx hb dX0_tableHeight_62 ?_
      refine pc_Sl (As := [.long (v1 - ((xTT u) (r1).toNatClampNeg)), .long (((xTT u) ((r1 + 1)).toNatClampNeg) - ((xTT u) (r1).toNatClampNeg))]) (rest := []) ⟨hx, hb, hml, hown, hts⟩ (mX0_cosinePart l tC tS (v1 - ((xTT u) (r1).toNatClampNeg)) (((xTT u) ((r1 + 1)).toNatClampNeg) - ((xTT u) (r1).toNatClampNeg)) _) (va_cwS 2 hts gX0_tableHeight_X0_cosinePart rfl rfl rfl (by decide +kernel) ⟨Nat.le_of_ble_eq_true rfl, Nat.le_of_ble_eq_true rfl⟩) wS_bl (wS_in hW.2.2 hw) rfl hl.1 rfl (Nat.le_of_ble_eq_true rfl) dX0_tableHeight_63 ⟨Nat.le_of_ble_eq_true rfl, Nat.le_of_ble_eq_true rfl⟩ (fun r8 hw => ?_)
      refine lv_lstore (lv' := [(6, .long r8), (4, .long ((xTH u) (r1).toNatClampNeg)), (3, .int r1), (0, .ref h0), (1, .long v1)]) hx hb dX0_tableHeight_66 hl (by decide) rfl (fun ls hl => ?_)
      refine lv_lload hx hb dX0_tableHeight_68 (lv_at hl 1 rfl) ?_
      refine lv_aload_n hx hb dX0_tableHeight_70 rfl (lv_at hl 3 rfl) ?_
      refine va_get (D := D) (ci := 0) (v := .ref a2) (C := RX0) (T := TX0) (N := 9) hx hb hts hin hown hW.2.1 hW.1 0 rfl rfl 1 (by decide) (hts (.fieldLink RX0 13 "TideDepths" "turnHeights" "[J") (by decide +kernel)) (fun _ h9 => h9) rfl dX0_tableHeight_71 ?_
      refine lv_iload_n hx hb dX0_tableHeight_74 rfl (lv_at hl 2 rfl) ?_
      refine lv_iconst (v := 1) hx hb dX0_tableHeight_75 (by decide) ?_
      refine lv_iadd hx hb dX0_tableHeight_76 ?_
      obtain ⟨h9, hw⟩ := hw
      refine va_lald hx hb hW.2.1 hW.1 2 0 rfl rfl h9 dX0_tableHeight_77 ?_
      refine lv_lload hx hb dX0_tableHeight_78 (lv_at hl 1 rfl) ?_
      refine lv_lsub hx hb dX0_tableHeight_80 ?_
      refine lv_lload hx hb dX0_tableHeight_81 (lv_at hl 0 rfl) ?_
      refine lv_lmul hx hb dX0_tableHeight_83 ?_
      refine lv_ldc2 (v := 32768) hx hb hown (hts (.constantLong RX0 202 (32768)) (by decide +kernel)) dX0_tableHeight_84 ?_
      refine pc_Sl (As := [.long ((((xTH u) ((r1 + 1)).toNatClampNeg) - ((xTH u) (r1).toNatClampNeg)) * r8), .long 32768]) (rest := [.long ((xTH u) (r1).toNatClampNeg)]) ⟨hx, hb, hml, hown, hts⟩ (mJ9_floorDiv_f86c9 l ((((xTH u) ((r1 + 1)).toNatClampNeg) - ((xTH u) (r1).toNatClampNeg)) * r8) 32768 _) (va_cwS 2 hts gX0_tableHeight_J9_floorDiv_f86c9 rfl rfl rfl (by decide +kernel) ⟨Nat.le_of_ble_eq_true rfl, Nat.le_of_ble_eq_true rfl⟩) wK_bl (fun _ _ _ => hw) rfl hl.1 rfl (Nat.le_of_ble_eq_true rfl) dX0_tableHeight_87 ⟨Nat.le_of_ble_eq_true rfl, Nat.le_of_ble_eq_true rfl⟩ (fun r10 hw => ?_)
      refine lv_ladd hx hb dX0_tableHeight_90 ?_
      exact W.lret (v := (((xTH u) (r1).toNatClampNeg) + r10)) hx hb hr (fun t ht hWm => ⟨_, rfl, hw, ht⟩) t_nil dX0_tableHeight_91
    · have hw := hw.2 c4
      refine lv_lload hx hb dX0_tableHeight_37 (lv_at hl 0 rfl) ?_
      exact W.lret (v := ((xTH u) (r1).toNatClampNeg)) hx hb hr (fun t ht hWm => ⟨_, rfl, hw, ht⟩) t_nil dX0_tableHeight_39
  · have hw := hw.2 c2
    refine lv_lconst (v := 0) hx hb dX0_tableHeight_17 (by decide) ?_
    exact W.lret (v := 0) hx hb hr (fun t ht hWm => ⟨_, rfl, hw, ht⟩) t_nil dX0_tableHeight_18

def wX0_correction_L44 (post : Int64 → Prop) (u : XS) (v6 : Int64) : Nat → Int64 → Int64 → Prop
  | 0, _, _ => False
  | n + 1, v4, v8 => ((v6 ≤ v8 → (post v4)) ∧ (¬ v6 ≤ v8 → (wX0_correction_L44 post u v6 n (v4 / 2) (v8 + 1))))
def wX0_correction (post : Int64 → Prop) (u : XS) (v1 : Int64) : Prop := (wX0_lastNotBehind (fun r1 => ((0 ≤ r1 → (vp_in r1 16 ∧ (vp_in r1 16 ∧ (∃ n6 : Nat, wX0_correction_L44 post u ((v1 - ((xOT u) (r1).toNatClampNeg)) / 600) n6 ((xOD u) (r1).toNatClampNeg) 0)))) ∧ (¬ 0 ≤ r1 → (post 0)))) 16 (xOT u) v1 (xNO u))
set_option maxHeartbeats 4000000 in
set_option maxRecDepth 100000 in
theorem kX0_correction_L44 {p : Program} {l : Launch} {e : Env} {s : State} {m : MethodId} {args : Array Value} {below : List Frame} {meth : Method} {c : Code} {D : va_G} {cJ : ClassId} {h0 a1 a2 a3 a4 a5 a6 tC tS : Nat} {u : XS} {post : Int64 → Prop} (hx : p.tables.exec = Jvm.exec) (hb : c.code = cX0_correction) (hr : meth.sig.returnType = (some .long)) (hml : c.maxLocals = 10) (hown : s.vm.findClass RX0 = some m.cls) (hlocks : meth.locks = false) (hts : ∀ w ∈ wsX0_correction, w.before args s = true) (hin : ∀ w ∈ u_ws RX0 TX0 9, w ∈ wsX0_correction) (hW : XW D cJ h0 a1 a2 a3 a4 a5 a6 tC tS u s s.heap) (v1 : Int64) (v3 : Int32) (v6 : Int64) : ∀ (n : Nat) (v4 : Int64) (v8 : Int64) (ls : Array Slot), lv_has ls 10 [(0, .ref h0), (1, .long v1), (3, .int v3), (4, .long v4), (6, .long v6), (8, .long v8)] → wX0_correction_L44 post u v6 n v4 v8 → W p l e ({ frames := 1, cells := 0, slots := 0, locals := 24 } : Room) s m args below meth c s.heap [] 0 0 (MQ below (vp_Sl post) args s 0 0 nA) (F0 m 44 ls []) := by
  intro n
  induction n with
  | zero =>
    intro v4 v8 ls hl hw
    exact hw.elim
  | succ n ih =>
    intro v4 v8 ls hl hw
    rw [wX0_correction_L44] at hw
    refine lv_lload hx hb dX0_correction_44 (lv_at hl 5 rfl) ?_
    refine lv_lload hx hb dX0_correction_46 (lv_at hl 4 rfl) ?_
    refine bl_ge (tgt := 69) hx hb dX0_correction_48 dX0_correction_49 (by decide) (fun c5 => ?_) (fun c5 => ?_)
    · have hw := hw.1 c5
      refine lv_lload hx hb dX0_correction_69 (lv_at hl 3 rfl) ?_
      exact W.lret (v := v4) hx hb hr (fun t ht hWm => ⟨_, rfl, hw, ht⟩) t_nil dX0_correction_71
    · have hw := hw.2 c5
      refine lv_lload hx hb dX0_correction_52 (lv_at hl 3 rfl) ?_
      refine lv_ldc2 (v := 2) hx hb hown (hts (.constantLong RX0 213 (2)) (by decide +kernel)) dX0_correction_54 ?_
      refine lv_ldiv hx hb dX0_correction_57 (by decide) ?_
      refine lv_lstore (lv' := [(4, .long (v4 / 2)), (0, .ref h0), (1, .long v1), (3, .int v3), (6, .long v6), (8, .long v8)]) hx hb dX0_correction_58 hl (by decide) rfl (fun ls hl => ?_)
      refine lv_lload hx hb dX0_correction_60 (lv_at hl 5 rfl) ?_
      refine lv_lconst (v := 1) hx hb dX0_correction_62 (by decide) ?_
      refine lv_ladd hx hb dX0_correction_63 ?_
      refine lv_lstore (lv' := [(8, .long (v8 + 1)), (4, .long (v4 / 2)), (0, .ref h0), (1, .long v1), (3, .int v3), (6, .long v6)]) hx hb dX0_correction_64 hl (by decide) rfl (fun ls hl => ?_)
      refine lv_goto (tgt := 44) hx hb dX0_correction_66 (by decide) ?_
      exact ih (v4 / 2) (v8 + 1) ls (lv_sub hl [2, 3, 4, 1, 5, 0] rfl) hw
set_option maxHeartbeats 4000000 in
set_option maxRecDepth 100000 in
theorem mX0_correction (l : Launch) (D : va_G) (cJ : ClassId) (h0 a1 a2 a3 a4 a5 a6 tC tS : Nat) (u : XS) (v1 : Int64) (post : Int64 → Prop) : Met l yX0_correction wsX0_correction ({ frames := 1, cells := 0, slots := 0, locals := 24 } : Room) (va_Pc [.ref h0, .long v1] (fun U => XW D cJ h0 a1 a2 a3 a4 a5 a6 tC tS u U U.heap ∧ wX0_correction post u v1)) (vp_Sl post) 0 0 nA := by
  refine Met.ofW (cc := cX0_correction) (maxL := 10) (ret := (some .long)) (by decide +kernel) rfl ?_
  intro p e s m args below meth c s₁ B hml hv
  obtain ⟨rfl, hW, hw⟩ := hv
  have hx := B.exec
  have hb := B.bytes
  have hr := B.returns
  have hts := atoms_spec (ws := wsX0_correction) B.pre
  have hown : s.vm.findClass RX0 = some m.cls := findClass_of_methodNamed B.named
  have hlocks := B.notSynchronized
  have hin : ∀ w ∈ u_ws RX0 TX0 9, w ∈ wsX0_correction := by decide +kernel
  have hl := lv_entry ([.ref h0, .long v1]) (n := 10) (Nat.le_of_ble_eq_true rfl)
  rw [lg_entry_eq]
  generalize (lg_sl ([.ref h0, .long v1]) ++ List.replicate (10 - (lg_sl ([.ref h0, .long v1])).length) Slot.unset).toArray = ls at hl ⊢
  have hl : lv_has ls 10 [(0, .ref h0), (1, .long v1)] := hl
  unfold wX0_correction at hw
  refine lv_lload_n hx hb dX0_correction_0 rfl (lv_at hl 1 rfl) ?_
  refine lv_aload_n hx hb dX0_correction_1 rfl (lv_at hl 0 rfl) ?_
  refine va_get (D := D) (ci := 0) (v := .ref a3) (C := RX0) (T := TX0) (N := 9) hx hb hts hin hown hW.2.1 hW.1 0 rfl rfl 3 (by decide) (hts (.fieldLink RX0 20 "TideDepths" "observedTimes" "[J") (by decide +kernel)) (fun _ h9 => h9) rfl dX0_correction_2 ?_
  refine lv_aload_n hx hb dX0_correction_5 rfl (lv_at hl 0 rfl) ?_
  refine va_get (D := D) (ci := 0) (v := .int (xNO u)) (C := RX0) (T := TX0) (N := 9) hx hb hts hin hown hW.2.1 hW.1 0 rfl rfl 5 (by decide) (hts (.fieldLink RX0 26 "TideDepths" "observations" "I") (by decide +kernel)) (fun _ h9 => h9) rfl dX0_correction_6 ?_
  refine pc_Si (As := [.long v1, .ref a3, .int (xNO u)]) (rest := []) ⟨hx, hb, hml, hown, hts⟩ (mX0_lastNotBehind l D cJ a3 16 (xOT u) v1 (xNO u) _) (va_cwS 3 hts gX0_correction_X0_lastNotBehind rfl rfl rfl (by decide +kernel) ⟨Nat.le_of_ble_eq_true rfl, Nat.le_of_ble_eq_true rfl⟩) wA_bl (wA_in ⟨hW.1.sub [3] rfl, hW.2.1⟩ hw) rfl hl.1 rfl (Nat.le_of_ble_eq_true rfl) dX0_correction_9 ⟨Nat.le_of_ble_eq_true rfl, Nat.le_of_ble_eq_true rfl⟩ (fun r1 hw => ?_)
  refine lv_istore_n (lv' := [(3, .int r1), (0, .ref h0), (1, .long v1)]) hx hb dX0_correction_12 rfl hl (by decide) rfl (fun ls hl => ?_)
  refine lv_iload_n hx hb dX0_correction_13 rfl (lv_at hl 0 rfl) ?_
  refine lv_if_ge (tgt := 19) hx hb dX0_correction_14 (by decide) (fun c2 => ?_) (fun c2 => ?_)
  · have hw := hw.1 c2
    refine lv_aload_n hx hb dX0_correction_19 rfl (lv_at hl 1 rfl) ?_
    refine va_get (D := D) (ci := 0) (v := .ref a4) (C := RX0) (T := TX0) (N := 9) hx hb hts hin hown hW.2.1 hW.1 0 rfl rfl 4 (by decide) (hts (.fieldLink RX0 23 "TideDepths" "differences" "[J") (by decide +kernel)) (fun _ h9 => h9) rfl dX0_correction_20 ?_
    refine lv_iload_n hx hb dX0_correction_23 rfl (lv_at hl 0 rfl) ?_
    obtain ⟨h3, hw⟩ := hw
    refine va_lald hx hb hW.2.1 hW.1 4 0 rfl rfl h3 dX0_correction_24 ?_
    refine lv_lstore (lv' := [(4, .long ((xOD u) (r1).toNatClampNeg)), (3, .int r1), (0, .ref h0), (1, .long v1)]) hx hb dX0_correction_25 hl (by decide) rfl (fun ls hl => ?_)
    refine lv_lload_n hx hb dX0_correction_27 rfl (lv_at hl 3 rfl) ?_
    refine lv_aload_n hx hb dX0_correction_28 rfl (lv_at hl 2 rfl) ?_
    refine va_get (D := D) (ci := 0) (v := .ref a3) (C := RX0) (T := TX0) (N := 9) hx hb hts hin hown hW.2.1 hW.1 0 rfl rfl 3 (by decide) (hts (.fieldLink RX0 20 "TideDepths" "observedTimes" "[J") (by decide +kernel)) (fun _ h9 => h9) rfl dX0_correction_29 ?_
    refine lv_iload_n hx hb dX0_correction_32 rfl (lv_at hl 1 rfl) ?_
    obtain ⟨h4, hw⟩ := hw
    refine va_lald hx hb hW.2.1 hW.1 3 0 rfl rfl h4 dX0_correction_33 ?_
    refine lv_lsub hx hb dX0_correction_34 ?_
    refine lv_ldc2 (v := 600) hx hb hown (hts (.constantLong RX0 211 (600)) (by decide +kernel)) dX0_correction_35 ?_
    refine lv_ldiv hx hb dX0_correction_38 (by decide) ?_
    refine lv_lstore (lv' := [(6, .long ((v1 - ((xOT u) (r1).toNatClampNeg)) / 600)), (4, .long ((xOD u) (r1).toNatClampNeg)), (3, .int r1), (0, .ref h0), (1, .long v1)]) hx hb dX0_correction_39 hl (by decide) rfl (fun ls hl => ?_)
    refine lv_lconst (v := 0) hx hb dX0_correction_41 (by decide) ?_
    refine lv_lstore (lv' := [(8, .long 0), (6, .long ((v1 - ((xOT u) (r1).toNatClampNeg)) / 600)), (4, .long ((xOD u) (r1).toNatClampNeg)), (3, .int r1), (0, .ref h0), (1, .long v1)]) hx hb dX0_correction_42 hl (by decide) rfl (fun ls hl => ?_)
    obtain ⟨n6, hw⟩ := hw
    exact kX0_correction_L44 hx hb hr hml hown hlocks hts hin hW v1 r1 ((v1 - ((xOT u) (r1).toNatClampNeg)) / 600) n6 ((xOD u) (r1).toNatClampNeg) 0 ls (lv_sub hl [4, 5, 3, 2, 1, 0] rfl) hw
  · have hw := hw.2 c2
    refine lv_lconst (v := 0) hx hb dX0_correction_17 (by decide) ?_
    exact W.lret (v := 0) hx hb hr (fun t ht hWm => ⟨_, rfl, hw, ht⟩) t_nil dX0_correction_18

def wX0_heightAt (post : Int64 → Prop) (u : XS) (v1 : Int64) : Prop := (wX0_tableHeight (fun r1 => (wX0_correction (fun r2 => (post (r1 + r2))) u v1)) u v1)

set_option maxHeartbeats 4000000 in
set_option maxRecDepth 100000 in
theorem mX0_heightAt (l : Launch) (D : va_G) (cJ : ClassId) (h0 a1 a2 a3 a4 a5 a6 tC tS : Nat) (u : XS) (v1 : Int64) (post : Int64 → Prop) : Met l yX0_heightAt wsX0_heightAt ({ frames := 2, cells := 0, slots := 0, locals := 55 } : Room) (va_Pc [.ref h0, .long v1] (fun U => XW D cJ h0 a1 a2 a3 a4 a5 a6 tC tS u U U.heap ∧ wX0_heightAt post u v1)) (vp_Sl post) 0 0 nA := by
  refine Met.ofW (cc := cX0_heightAt) (maxL := 3) (ret := (some .long)) (by decide +kernel) rfl ?_
  intro p e s m args below meth c s₁ B hml hv
  obtain ⟨rfl, hW, hw⟩ := hv
  have hx := B.exec
  have hb := B.bytes
  have hr := B.returns
  have hts := atoms_spec (ws := wsX0_heightAt) B.pre
  have hown : s.vm.findClass RX0 = some m.cls := findClass_of_methodNamed B.named
  have hlocks := B.notSynchronized
  have hin : ∀ w ∈ u_ws RX0 TX0 9, w ∈ wsX0_heightAt := by decide +kernel
  have hl := lv_entry ([.ref h0, .long v1]) (n := 3) (Nat.le_of_ble_eq_true rfl)
  rw [lg_entry_eq]
  generalize (lg_sl ([.ref h0, .long v1]) ++ List.replicate (3 - (lg_sl ([.ref h0, .long v1])).length) Slot.unset).toArray = ls at hl ⊢
  have hl : lv_has ls 3 [(0, .ref h0), (1, .long v1)] := hl
  unfold wX0_heightAt at hw
  refine lv_aload_n hx hb dX0_heightAt_0 rfl (lv_at hl 0 rfl) ?_
  refine lv_lload_n hx hb dX0_heightAt_1 rfl (lv_at hl 1 rfl) ?_
  refine pc_Vl (As := [.long v1]) (rest := []) ⟨hx, hb, hml, hown, hts⟩ (mX0_tableHeight l D cJ h0 a1 a2 a3 a4 a5 a6 tC tS u v1 _) (cwV 1 hts gX0_heightAt_X0_tableHeight rfl rfl rfl (by decide +kernel) ⟨Nat.le_of_ble_eq_true rfl, Nat.le_of_ble_eq_true rfl⟩) (wX_rc hW) wX_bl (wX_in hW hw) rfl hl.1 rfl (Nat.le_of_ble_eq_true rfl) dX0_heightAt_2 ⟨Nat.le_of_ble_eq_true rfl, Nat.le_of_ble_eq_true rfl⟩ (fun r1 hw => ?_)
  refine lv_aload_n hx hb dX0_heightAt_5 rfl (lv_at hl 0 rfl) ?_
  refine lv_lload_n hx hb dX0_heightAt_6 rfl (lv_at hl 1 rfl) ?_
  refine pc_Vl (As := [.long v1]) (rest := [.long r1]) ⟨hx, hb, hml, hown, hts⟩ (mX0_correction l D cJ h0 a1 a2 a3 a4 a5 a6 tC tS u v1 _) (cwV 1 hts gX0_heightAt_X0_correction rfl rfl rfl (by decide +kernel) ⟨Nat.le_of_ble_eq_true rfl, Nat.le_of_ble_eq_true rfl⟩) (wX_rc hW) wX_bl (wX_in hW hw) rfl hl.1 rfl (Nat.le_of_ble_eq_true rfl) dX0_heightAt_7 ⟨Nat.le_of_ble_eq_true rfl, Nat.le_of_ble_eq_true rfl⟩ (fun r2 hw => ?_)
  refine lv_ladd hx hb dX0_heightAt_10 ?_
  exact W.lret (v := (r1 + r2)) hx hb hr (fun t ht hWm => ⟨_, rfl, hw, ht⟩) t_nil dX0_heightAt_11

def wX0_correctionEnd (post : Int64 → Prop) (u : XS) (v1 : Int64) : Prop := (wX0_lastNotBehind (fun r1 => (((xNO u) ≤ (r1 + 1) → ((0 ≤ r1 → (vp_in r1 16 ∧ (post (if (((v1 + 600) - 1) - ((v1 - ((xOT u) (r1).toNatClampNeg)) - (v1 - ((xOT u) (r1).toNatClampNeg)) / 600 * 600)) < 20000 then (((v1 + 600) - 1) - ((v1 - ((xOT u) (r1).toNatClampNeg)) - (v1 - ((xOT u) (r1).toNatClampNeg)) / 600 * 600)) else 20000)))) ∧ (¬ 0 ≤ r1 → (post 20000)))) ∧ (¬ (xNO u) ≤ (r1 + 1) → (vp_in (r1 + 1) 16 ∧ ((0 ≤ r1 → (vp_in r1 16 ∧ (post (if (((v1 + 600) - 1) - ((v1 - ((xOT u) (r1).toNatClampNeg)) - (v1 - ((xOT u) (r1).toNatClampNeg)) / 600 * 600)) < (((xOT u) ((r1 + 1)).toNatClampNeg) - 1) then (((v1 + 600) - 1) - ((v1 - ((xOT u) (r1).toNatClampNeg)) - (v1 - ((xOT u) (r1).toNatClampNeg)) / 600 * 600)) else (((xOT u) ((r1 + 1)).toNatClampNeg) - 1))))) ∧ (¬ 0 ≤ r1 → (post (((xOT u) ((r1 + 1)).toNatClampNeg) - 1)))))))) 16 (xOT u) v1 (xNO u))

set_option maxHeartbeats 4000000 in
set_option maxRecDepth 100000 in
theorem mX0_correctionEnd (l : Launch) (D : va_G) (cJ : ClassId) (h0 a1 a2 a3 a4 a5 a6 tC tS : Nat) (u : XS) (v1 : Int64) (post : Int64 → Prop) : Met l yX0_correctionEnd wsX0_correctionEnd ({ frames := 1, cells := 0, slots := 0, locals := 24 } : Room) (va_Pc [.ref h0, .long v1] (fun U => XW D cJ h0 a1 a2 a3 a4 a5 a6 tC tS u U U.heap ∧ wX0_correctionEnd post u v1)) (vp_Sl post) 0 0 nA := by
  refine Met.ofW (cc := cX0_correctionEnd) (maxL := 8) (ret := (some .long)) (by decide +kernel) rfl ?_
  intro p e s m args below meth c s₁ B hml hv
  obtain ⟨rfl, hW, hw⟩ := hv
  have hx := B.exec
  have hb := B.bytes
  have hr := B.returns
  have hts := atoms_spec (ws := wsX0_correctionEnd) B.pre
  have hown : s.vm.findClass RX0 = some m.cls := findClass_of_methodNamed B.named
  have hlocks := B.notSynchronized
  have hin : ∀ w ∈ u_ws RX0 TX0 9, w ∈ wsX0_correctionEnd := by decide +kernel
  have hl := lv_entry ([.ref h0, .long v1]) (n := 8) (Nat.le_of_ble_eq_true rfl)
  rw [lg_entry_eq]
  generalize (lg_sl ([.ref h0, .long v1]) ++ List.replicate (8 - (lg_sl ([.ref h0, .long v1])).length) Slot.unset).toArray = ls at hl ⊢
  have hl : lv_has ls 8 [(0, .ref h0), (1, .long v1)] := hl
  unfold wX0_correctionEnd at hw
  refine lv_ldc2 (v := 20000) hx hb hown (hts (.constantLong RX0 38 (20000)) (by decide +kernel)) dX0_correctionEnd_0 ?_
  refine lv_lstore_n (lv' := [(3, .long 20000), (0, .ref h0), (1, .long v1)]) hx hb dX0_correctionEnd_3 rfl hl (by decide) rfl (fun ls hl => ?_)
  refine lv_lload_n hx hb dX0_correctionEnd_4 rfl (lv_at hl 2 rfl) ?_
  refine lv_aload_n hx hb dX0_correctionEnd_5 rfl (lv_at hl 1 rfl) ?_
  refine va_get (D := D) (ci := 0) (v := .ref a3) (C := RX0) (T := TX0) (N := 9) hx hb hts hin hown hW.2.1 hW.1 0 rfl rfl 3 (by decide) (hts (.fieldLink RX0 20 "TideDepths" "observedTimes" "[J") (by decide +kernel)) (fun _ h9 => h9) rfl dX0_correctionEnd_6 ?_
  refine lv_aload_n hx hb dX0_correctionEnd_9 rfl (lv_at hl 1 rfl) ?_
  refine va_get (D := D) (ci := 0) (v := .int (xNO u)) (C := RX0) (T := TX0) (N := 9) hx hb hts hin hown hW.2.1 hW.1 0 rfl rfl 5 (by decide) (hts (.fieldLink RX0 26 "TideDepths" "observations" "I") (by decide +kernel)) (fun _ h9 => h9) rfl dX0_correctionEnd_10 ?_
  refine pc_Si (As := [.long v1, .ref a3, .int (xNO u)]) (rest := []) ⟨hx, hb, hml, hown, hts⟩ (mX0_lastNotBehind l D cJ a3 16 (xOT u) v1 (xNO u) _) (va_cwS 3 hts gX0_correctionEnd_X0_lastNotBehind rfl rfl rfl (by decide +kernel) ⟨Nat.le_of_ble_eq_true rfl, Nat.le_of_ble_eq_true rfl⟩) wA_bl (wA_in ⟨hW.1.sub [3] rfl, hW.2.1⟩ hw) rfl hl.1 rfl (Nat.le_of_ble_eq_true rfl) dX0_correctionEnd_13 ⟨Nat.le_of_ble_eq_true rfl, Nat.le_of_ble_eq_true rfl⟩ (fun r1 hw => ?_)
  refine lv_istore (lv' := [(5, .int r1), (3, .long 20000), (0, .ref h0), (1, .long v1)]) hx hb dX0_correctionEnd_16 hl (by decide) rfl (fun ls hl => ?_)
  refine lv_iload hx hb dX0_correctionEnd_18 (lv_at hl 0 rfl) ?_
  refine lv_iconst (v := 1) hx hb dX0_correctionEnd_20 (by decide) ?_
  refine lv_iadd hx hb dX0_correctionEnd_21 ?_
  refine lv_aload_n hx hb dX0_correctionEnd_22 rfl (lv_at hl 2 rfl) ?_
  refine va_get (D := D) (ci := 0) (v := .int (xNO u)) (C := RX0) (T := TX0) (N := 9) hx hb hts hin hown hW.2.1 hW.1 0 rfl rfl 5 (by decide) (hts (.fieldLink RX0 26 "TideDepths" "observations" "I") (by decide +kernel)) (fun _ h9 => h9) rfl dX0_correctionEnd_23 ?_
  refine lv_icmp_ge (tgt := 41) hx hb dX0_correctionEnd_26 (by decide) (fun c2 => ?_) (fun c2 => ?_)
  · have hw := hw.1 c2
    refine lv_iload hx hb dX0_correctionEnd_41 (lv_at hl 0 rfl) ?_
    refine lv_if_ge (tgt := 48) hx hb dX0_correctionEnd_43 (by decide) (fun c3 => ?_) (fun c3 => ?_)
    · have hw := hw.1 c3
      refine lv_lload_n hx hb dX0_correctionEnd_48 rfl (lv_at hl 3 rfl) ?_
      refine lv_aload_n hx hb dX0_correctionEnd_49 rfl (lv_at hl 2 rfl) ?_
      refine va_get (D := D) (ci := 0) (v := .ref a3) (C := RX0) (T := TX0) (N := 9) hx hb hts hin hown hW.2.1 hW.1 0 rfl rfl 3 (by decide) (hts (.fieldLink RX0 20 "TideDepths" "observedTimes" "[J") (by decide +kernel)) (fun _ h9 => h9) rfl dX0_correctionEnd_50 ?_
      refine lv_iload hx hb dX0_correctionEnd_53 (lv_at hl 0 rfl) ?_
      obtain ⟨h4, hw⟩ := hw
      refine va_lald hx hb hW.2.1 hW.1 3 0 rfl rfl h4 dX0_correctionEnd_55 ?_
      refine lv_lsub hx hb dX0_correctionEnd_56 ?_
      refine lv_ldc2 (v := 600) hx hb hown (hts (.constantLong RX0 211 (600)) (by decide +kernel)) dX0_correctionEnd_57 ?_
      refine lv_lrem hx hb dX0_correctionEnd_60 (by decide) ?_
      refine lv_lstore (lv' := [(6, .long ((v1 - ((xOT u) (r1).toNatClampNeg)) - (v1 - ((xOT u) (r1).toNatClampNeg)) / 600 * 600)), (5, .int r1), (3, .long 20000), (0, .ref h0), (1, .long v1)]) hx hb dX0_correctionEnd_61 hl (by decide) rfl (fun ls hl => ?_)
      refine lv_lload_n hx hb dX0_correctionEnd_63 rfl (lv_at hl 2 rfl) ?_
      refine lv_lload_n hx hb dX0_correctionEnd_64 rfl (lv_at hl 4 rfl) ?_
      refine lv_ldc2 (v := 600) hx hb hown (hts (.constantLong RX0 211 (600)) (by decide +kernel)) dX0_correctionEnd_65 ?_
      refine lv_ladd hx hb dX0_correctionEnd_68 ?_
      refine lv_lconst (v := 1) hx hb dX0_correctionEnd_69 (by decide) ?_
      refine lv_lsub hx hb dX0_correctionEnd_70 ?_
      refine lv_lload hx hb dX0_correctionEnd_71 (lv_at hl 0 rfl) ?_
      refine lv_lsub hx hb dX0_correctionEnd_73 ?_
      refine va_mmin_long hx hb (hml.trans hl.1.symm) hown (hts (.methodLink RX0 218 Lib.MathLoose.min_long.x) (by decide +kernel)) (hts (.static Lib.MathLoose.min_long.x) (by decide +kernel)) (hts (.initialized "java/lang/Math") (by decide +kernel)) (hts (.code Lib.MathLoose.min_long.x Lib.MathLoose.min_long.code 4 (some .long)) (by decide +kernel)) (Nat.le_of_ble_eq_true rfl) (Nat.le_of_ble_eq_true rfl) (Nat.le_of_ble_eq_true rfl) (Nat.le_of_ble_eq_true rfl) dX0_correctionEnd_74 ?_
      exact W.lret (v := (if (((v1 + 600) - 1) - ((v1 - ((xOT u) (r1).toNatClampNeg)) - (v1 - ((xOT u) (r1).toNatClampNeg)) / 600 * 600)) < 20000 then (((v1 + 600) - 1) - ((v1 - ((xOT u) (r1).toNatClampNeg)) - (v1 - ((xOT u) (r1).toNatClampNeg)) / 600 * 600)) else 20000)) hx hb hr (fun t ht hWm => ⟨_, rfl, hw, ht⟩) t_nil dX0_correctionEnd_77
    · have hw := hw.2 c3
      refine lv_lload_n hx hb dX0_correctionEnd_46 rfl (lv_at hl 1 rfl) ?_
      exact W.lret (v := 20000) hx hb hr (fun t ht hWm => ⟨_, rfl, hw, ht⟩) t_nil dX0_correctionEnd_47
  · have hw := hw.2 c2
    refine lv_aload_n hx hb dX0_correctionEnd_29 rfl (lv_at hl 2 rfl) ?_
    refine va_get (D := D) (ci := 0) (v := .ref a3) (C := RX0) (T := TX0) (N := 9) hx hb hts hin hown hW.2.1 hW.1 0 rfl rfl 3 (by decide) (hts (.fieldLink RX0 20 "TideDepths" "observedTimes" "[J") (by decide +kernel)) (fun _ h9 => h9) rfl dX0_correctionEnd_30 ?_
    refine lv_iload hx hb dX0_correctionEnd_33 (lv_at hl 0 rfl) ?_
    refine lv_iconst (v := 1) hx hb dX0_correctionEnd_35 (by decide) ?_
    refine lv_iadd hx hb dX0_correctionEnd_36 ?_
    obtain ⟨h5, hw⟩ := hw
    refine va_lald hx hb hW.2.1 hW.1 3 0 rfl rfl h5 dX0_correctionEnd_37 ?_
    refine lv_lconst (v := 1) hx hb dX0_correctionEnd_38 (by decide) ?_
    refine lv_lsub hx hb dX0_correctionEnd_39 ?_
    refine lv_lstore_n (lv' := [(3, .long (((xOT u) ((r1 + 1)).toNatClampNeg) - 1)), (5, .int r1), (0, .ref h0), (1, .long v1)]) hx hb dX0_correctionEnd_40 rfl hl (by decide) rfl (fun ls hl => ?_)
    refine lv_iload hx hb dX0_correctionEnd_41 (lv_at hl 1 rfl) ?_
    refine lv_if_ge (tgt := 48) hx hb dX0_correctionEnd_43 (by decide) (fun c6 => ?_) (fun c6 => ?_)
    · have hw := hw.1 c6
      refine lv_lload_n hx hb dX0_correctionEnd_48 rfl (lv_at hl 3 rfl) ?_
      refine lv_aload_n hx hb dX0_correctionEnd_49 rfl (lv_at hl 2 rfl) ?_
      refine va_get (D := D) (ci := 0) (v := .ref a3) (C := RX0) (T := TX0) (N := 9) hx hb hts hin hown hW.2.1 hW.1 0 rfl rfl 3 (by decide) (hts (.fieldLink RX0 20 "TideDepths" "observedTimes" "[J") (by decide +kernel)) (fun _ h9 => h9) rfl dX0_correctionEnd_50 ?_
      refine lv_iload hx hb dX0_correctionEnd_53 (lv_at hl 1 rfl) ?_
      obtain ⟨h7, hw⟩ := hw
      refine va_lald hx hb hW.2.1 hW.1 3 0 rfl rfl h7 dX0_correctionEnd_55 ?_
      refine lv_lsub hx hb dX0_correctionEnd_56 ?_
      refine lv_ldc2 (v := 600) hx hb hown (hts (.constantLong RX0 211 (600)) (by decide +kernel)) dX0_correctionEnd_57 ?_
      refine lv_lrem hx hb dX0_correctionEnd_60 (by decide) ?_
      refine lv_lstore (lv' := [(6, .long ((v1 - ((xOT u) (r1).toNatClampNeg)) - (v1 - ((xOT u) (r1).toNatClampNeg)) / 600 * 600)), (3, .long (((xOT u) ((r1 + 1)).toNatClampNeg) - 1)), (5, .int r1), (0, .ref h0), (1, .long v1)]) hx hb dX0_correctionEnd_61 hl (by decide) rfl (fun ls hl => ?_)
      refine lv_lload_n hx hb dX0_correctionEnd_63 rfl (lv_at hl 1 rfl) ?_
      refine lv_lload_n hx hb dX0_correctionEnd_64 rfl (lv_at hl 4 rfl) ?_
      refine lv_ldc2 (v := 600) hx hb hown (hts (.constantLong RX0 211 (600)) (by decide +kernel)) dX0_correctionEnd_65 ?_
      refine lv_ladd hx hb dX0_correctionEnd_68 ?_
      refine lv_lconst (v := 1) hx hb dX0_correctionEnd_69 (by decide) ?_
      refine lv_lsub hx hb dX0_correctionEnd_70 ?_
      refine lv_lload hx hb dX0_correctionEnd_71 (lv_at hl 0 rfl) ?_
      refine lv_lsub hx hb dX0_correctionEnd_73 ?_
      refine va_mmin_long hx hb (hml.trans hl.1.symm) hown (hts (.methodLink RX0 218 Lib.MathLoose.min_long.x) (by decide +kernel)) (hts (.static Lib.MathLoose.min_long.x) (by decide +kernel)) (hts (.initialized "java/lang/Math") (by decide +kernel)) (hts (.code Lib.MathLoose.min_long.x Lib.MathLoose.min_long.code 4 (some .long)) (by decide +kernel)) (Nat.le_of_ble_eq_true rfl) (Nat.le_of_ble_eq_true rfl) (Nat.le_of_ble_eq_true rfl) (Nat.le_of_ble_eq_true rfl) dX0_correctionEnd_74 ?_
      exact W.lret (v := (if (((v1 + 600) - 1) - ((v1 - ((xOT u) (r1).toNatClampNeg)) - (v1 - ((xOT u) (r1).toNatClampNeg)) / 600 * 600)) < (((xOT u) ((r1 + 1)).toNatClampNeg) - 1) then (((v1 + 600) - 1) - ((v1 - ((xOT u) (r1).toNatClampNeg)) - (v1 - ((xOT u) (r1).toNatClampNeg)) / 600 * 600)) else (((xOT u) ((r1 + 1)).toNatClampNeg) - 1))) hx hb hr (fun t ht hWm => ⟨_, rfl, hw, ht⟩) t_nil dX0_correctionEnd_77
    · have hw := hw.2 c6
      refine lv_lload_n hx hb dX0_correctionEnd_46 rfl (lv_at hl 0 rfl) ?_
      exact W.lret (v := (((xOT u) ((r1 + 1)).toNatClampNeg) - 1)) hx hb hr (fun t ht hWm => ⟨_, rfl, hw, ht⟩) t_nil dX0_correctionEnd_47

def wX0_stretchEnd (post : Int64 → Prop) (u : XS) (v1 : Int64) : Prop := (wX0_lastNotBehind (fun r1 => (((xNT u) ≤ (r1 + 1) → (wX0_lastSecond (fun r3 => (wX0_correctionEnd (fun r4 => (post (if r4 < r3 then r4 else r3))) u v1)) u)) ∧ (¬ (xNT u) ≤ (r1 + 1) → (vp_in (r1 + 1) 40 ∧ (wX0_correctionEnd (fun r6 => (post (if r6 < ((xTT u) ((r1 + 1)).toNatClampNeg) then r6 else ((xTT u) ((r1 + 1)).toNatClampNeg)))) u v1))))) 40 (xTT u) v1 (xNT u))

set_option maxHeartbeats 4000000 in
set_option maxRecDepth 100000 in
theorem mX0_stretchEnd (l : Launch) (D : va_G) (cJ : ClassId) (h0 a1 a2 a3 a4 a5 a6 tC tS : Nat) (u : XS) (v1 : Int64) (post : Int64 → Prop) : Met l yX0_stretchEnd wsX0_stretchEnd ({ frames := 2, cells := 0, slots := 0, locals := 51 } : Room) (va_Pc [.ref h0, .long v1] (fun U => XW D cJ h0 a1 a2 a3 a4 a5 a6 tC tS u U U.heap ∧ wX0_stretchEnd post u v1)) (vp_Sl post) 0 0 nA := by
  refine Met.ofW (cc := cX0_stretchEnd) (maxL := 6) (ret := (some .long)) (by decide +kernel) rfl ?_
  intro p e s m args below meth c s₁ B hml hv
  obtain ⟨rfl, hW, hw⟩ := hv
  have hx := B.exec
  have hb := B.bytes
  have hr := B.returns
  have hts := atoms_spec (ws := wsX0_stretchEnd) B.pre
  have hown : s.vm.findClass RX0 = some m.cls := findClass_of_methodNamed B.named
  have hlocks := B.notSynchronized
  have hin : ∀ w ∈ u_ws RX0 TX0 9, w ∈ wsX0_stretchEnd := by decide +kernel
  have hl := lv_entry ([.ref h0, .long v1]) (n := 6) (Nat.le_of_ble_eq_true rfl)
  rw [lg_entry_eq]
  generalize (lg_sl ([.ref h0, .long v1]) ++ List.replicate (6 - (lg_sl ([.ref h0, .long v1])).length) Slot.unset).toArray = ls at hl ⊢
  have hl : lv_has ls 6 [(0, .ref h0), (1, .long v1)] := hl
  unfold wX0_stretchEnd at hw
  refine lv_lload_n hx hb dX0_stretchEnd_0 rfl (lv_at hl 1 rfl) ?_
  refine lv_aload_n hx hb dX0_stretchEnd_1 rfl (lv_at hl 0 rfl) ?_
  refine va_get (D := D) (ci := 0) (v := .ref a1) (C := RX0) (T := TX0) (N := 9) hx hb hts hin hown hW.2.1 hW.1 0 rfl rfl 0 (by decide) (hts (.fieldLink RX0 9 "TideDepths" "turnTimes" "[J") (by decide +kernel)) (fun _ h9 => h9) rfl dX0_stretchEnd_2 ?_
  refine lv_aload_n hx hb dX0_stretchEnd_5 rfl (lv_at hl 0 rfl) ?_
  refine va_get (D := D) (ci := 0) (v := .int (xNT u)) (C := RX0) (T := TX0) (N := 9) hx hb hts hin hown hW.2.1 hW.1 0 rfl rfl 2 (by decide) (hts (.fieldLink RX0 16 "TideDepths" "turns" "I") (by decide +kernel)) (fun _ h9 => h9) rfl dX0_stretchEnd_6 ?_
  refine pc_Si (As := [.long v1, .ref a1, .int (xNT u)]) (rest := []) ⟨hx, hb, hml, hown, hts⟩ (mX0_lastNotBehind l D cJ a1 40 (xTT u) v1 (xNT u) _) (va_cwS 3 hts gX0_stretchEnd_X0_lastNotBehind rfl rfl rfl (by decide +kernel) ⟨Nat.le_of_ble_eq_true rfl, Nat.le_of_ble_eq_true rfl⟩) wA_bl (wA_in ⟨hW.1.sub [1] rfl, hW.2.1⟩ hw) rfl hl.1 rfl (Nat.le_of_ble_eq_true rfl) dX0_stretchEnd_9 ⟨Nat.le_of_ble_eq_true rfl, Nat.le_of_ble_eq_true rfl⟩ (fun r1 hw => ?_)
  refine lv_istore_n (lv' := [(3, .int r1), (0, .ref h0), (1, .long v1)]) hx hb dX0_stretchEnd_12 rfl hl (by decide) rfl (fun ls hl => ?_)
  refine lv_iload_n hx hb dX0_stretchEnd_13 rfl (lv_at hl 0 rfl) ?_
  refine lv_iconst (v := 1) hx hb dX0_stretchEnd_14 (by decide) ?_
  refine lv_iadd hx hb dX0_stretchEnd_15 ?_
  refine lv_aload_n hx hb dX0_stretchEnd_16 rfl (lv_at hl 1 rfl) ?_
  refine va_get (D := D) (ci := 0) (v := .int (xNT u)) (C := RX0) (T := TX0) (N := 9) hx hb hts hin hown hW.2.1 hW.1 0 rfl rfl 2 (by decide) (hts (.fieldLink RX0 16 "TideDepths" "turns" "I") (by decide +kernel)) (fun _ h9 => h9) rfl dX0_stretchEnd_17 ?_
  refine lv_icmp_ge (tgt := 34) hx hb dX0_stretchEnd_20 (by decide) (fun c2 => ?_) (fun c2 => ?_)
  · have hw := hw.1 c2
    refine lv_aload_n hx hb dX0_stretchEnd_34 rfl (lv_at hl 1 rfl) ?_
    refine pc_Vl (As := []) (rest := []) ⟨hx, hb, hml, hown, hts⟩ (mX0_lastSecond l D cJ h0 a1 a2 a3 a4 a5 a6 tC tS u _) (cwV 0 hts gX0_stretchEnd_X0_lastSecond rfl rfl rfl (by decide +kernel) ⟨Nat.le_of_ble_eq_true rfl, Nat.le_of_ble_eq_true rfl⟩) (wX_rc hW) wX_bl (wX_in hW hw) rfl hl.1 rfl (Nat.le_of_ble_eq_true rfl) dX0_stretchEnd_35 ⟨Nat.le_of_ble_eq_true rfl, Nat.le_of_ble_eq_true rfl⟩ (fun r3 hw => ?_)
    refine lv_lstore (lv' := [(4, .long r3), (3, .int r1), (0, .ref h0), (1, .long v1)]) hx hb dX0_stretchEnd_38 hl (by decide) rfl (fun ls hl => ?_)
    refine lv_lload hx hb dX0_stretchEnd_40 (lv_at hl 0 rfl) ?_
    refine lv_aload_n hx hb dX0_stretchEnd_42 rfl (lv_at hl 2 rfl) ?_
    refine lv_lload_n hx hb dX0_stretchEnd_43 rfl (lv_at hl 3 rfl) ?_
    refine pc_Vl (As := [.long v1]) (rest := [.long r3]) ⟨hx, hb, hml, hown, hts⟩ (mX0_correctionEnd l D cJ h0 a1 a2 a3 a4 a5 a6 tC tS u v1 _) (cwV 1 hts gX0_stretchEnd_X0_correctionEnd rfl rfl rfl (by decide +kernel) ⟨Nat.le_of_ble_eq_true rfl, Nat.le_of_ble_eq_true rfl⟩) (wX_rc hW) wX_bl (wX_in hW hw) rfl hl.1 rfl (Nat.le_of_ble_eq_true rfl) dX0_stretchEnd_44 ⟨Nat.le_of_ble_eq_true rfl, Nat.le_of_ble_eq_true rfl⟩ (fun r4 hw => ?_)
    refine va_mmin_long hx hb (hml.trans hl.1.symm) hown (hts (.methodLink RX0 218 Lib.MathLoose.min_long.x) (by decide +kernel)) (hts (.static Lib.MathLoose.min_long.x) (by decide +kernel)) (hts (.initialized "java/lang/Math") (by decide +kernel)) (hts (.code Lib.MathLoose.min_long.x Lib.MathLoose.min_long.code 4 (some .long)) (by decide +kernel)) (Nat.le_of_ble_eq_true rfl) (Nat.le_of_ble_eq_true rfl) (Nat.le_of_ble_eq_true rfl) (Nat.le_of_ble_eq_true rfl) dX0_stretchEnd_47 ?_
    exact W.lret (v := (if r4 < r3 then r4 else r3)) hx hb hr (fun t ht hWm => ⟨_, rfl, hw, ht⟩) t_nil dX0_stretchEnd_50
  · have hw := hw.2 c2
    refine lv_aload_n hx hb dX0_stretchEnd_23 rfl (lv_at hl 1 rfl) ?_
    refine va_get (D := D) (ci := 0) (v := .ref a1) (C := RX0) (T := TX0) (N := 9) hx hb hts hin hown hW.2.1 hW.1 0 rfl rfl 0 (by decide) (hts (.fieldLink RX0 9 "TideDepths" "turnTimes" "[J") (by decide +kernel)) (fun _ h9 => h9) rfl dX0_stretchEnd_24 ?_
    refine lv_iload_n hx hb dX0_stretchEnd_27 rfl (lv_at hl 0 rfl) ?_
    refine lv_iconst (v := 1) hx hb dX0_stretchEnd_28 (by decide) ?_
    refine lv_iadd hx hb dX0_stretchEnd_29 ?_
    obtain ⟨h5, hw⟩ := hw
    refine va_lald hx hb hW.2.1 hW.1 1 0 rfl rfl h5 dX0_stretchEnd_30 ?_
    refine lv_goto (tgt := 38) hx hb dX0_stretchEnd_31 (by decide) ?_
    refine lv_lstore (lv' := [(4, .long ((xTT u) ((r1 + 1)).toNatClampNeg)), (3, .int r1), (0, .ref h0), (1, .long v1)]) hx hb dX0_stretchEnd_38 hl (by decide) rfl (fun ls hl => ?_)
    refine lv_lload hx hb dX0_stretchEnd_40 (lv_at hl 0 rfl) ?_
    refine lv_aload_n hx hb dX0_stretchEnd_42 rfl (lv_at hl 2 rfl) ?_
    refine lv_lload_n hx hb dX0_stretchEnd_43 rfl (lv_at hl 3 rfl) ?_
    refine pc_Vl (As := [.long v1]) (rest := [.long ((xTT u) ((r1 + 1)).toNatClampNeg)]) ⟨hx, hb, hml, hown, hts⟩ (mX0_correctionEnd l D cJ h0 a1 a2 a3 a4 a5 a6 tC tS u v1 _) (cwV 1 hts gX0_stretchEnd_X0_correctionEnd rfl rfl rfl (by decide +kernel) ⟨Nat.le_of_ble_eq_true rfl, Nat.le_of_ble_eq_true rfl⟩) (wX_rc hW) wX_bl (wX_in hW hw) rfl hl.1 rfl (Nat.le_of_ble_eq_true rfl) dX0_stretchEnd_44 ⟨Nat.le_of_ble_eq_true rfl, Nat.le_of_ble_eq_true rfl⟩ (fun r6 hw => ?_)
    refine va_mmin_long hx hb (hml.trans hl.1.symm) hown (hts (.methodLink RX0 218 Lib.MathLoose.min_long.x) (by decide +kernel)) (hts (.static Lib.MathLoose.min_long.x) (by decide +kernel)) (hts (.initialized "java/lang/Math") (by decide +kernel)) (hts (.code Lib.MathLoose.min_long.x Lib.MathLoose.min_long.code 4 (some .long)) (by decide +kernel)) (Nat.le_of_ble_eq_true rfl) (Nat.le_of_ble_eq_true rfl) (Nat.le_of_ble_eq_true rfl) (Nat.le_of_ble_eq_true rfl) dX0_stretchEnd_47 ?_
    exact W.lret (v := (if r6 < ((xTT u) ((r1 + 1)).toNatClampNeg) then r6 else ((xTT u) ((r1 + 1)).toNatClampNeg))) hx hb hr (fun t ht hWm => ⟨_, rfl, hw, ht⟩) t_nil dX0_stretchEnd_50
end
section
def wX0_changeWithin_L10 (post : Int64 → Prop) (u : XS) (v1 : Int64) (v7 : Int32) : Nat → Int64 → Int64 → Int32 → Prop
  | 0, _, _, _ => False
  | n + 1, v8, v10, v12 => ((20000 < v12 → (post v10)) ∧ (¬ 20000 < v12 → (((v10 - v8) ≤ 1 → (post v10)) ∧ (¬ (v10 - v8) ≤ 1 → (wX0_heightAt (fun r3 => ((r3 < v1 → ((0 = v7 → (wX0_changeWithin_L10 post u v1 v7 n v8 ((v8 + v10) / 2) (v12 + 1))) ∧ (¬ 0 = v7 → (wX0_changeWithin_L10 post u v1 v7 n ((v8 + v10) / 2) v10 (v12 + 1))))) ∧ (¬ r3 < v1 → ((1 = v7 → (wX0_changeWithin_L10 post u v1 v7 n v8 ((v8 + v10) / 2) (v12 + 1))) ∧ (¬ 1 = v7 → (wX0_changeWithin_L10 post u v1 v7 n ((v8 + v10) / 2) v10 (v12 + 1))))))) u ((v8 + v10) / 2))))))
def wX0_changeWithin (post : Int64 → Prop) (u : XS) (v1 : Int64) (v3 : Int64) (v5 : Int64) (v7 : Int32) : Prop := (∃ n7 : Nat, wX0_changeWithin_L10 post u v1 v7 n7 v3 v5 0)
set_option maxHeartbeats 4000000 in
set_option maxRecDepth 100000 in
theorem kX0_changeWithin_L10 {p : Program} {l : Launch} {e : Env} {s : State} {m : MethodId} {args : Array Value} {below : List Frame} {meth : Method} {c : Code} {D : va_G} {cJ : ClassId} {h0 a1 a2 a3 a4 a5 a6 tC tS : Nat} {u : XS} {post : Int64 → Prop} (hx : p.tables.exec = Jvm.exec) (hb : c.code = cX0_changeWithin) (hr : meth.sig.returnType = (some .long)) (hml : c.maxLocals = 15) (hown : s.vm.findClass RX0 = some m.cls) (hlocks : meth.locks = false) (hts : ∀ w ∈ wsX0_changeWithin, w.before args s = true) (hin : ∀ w ∈ u_ws RX0 TX0 9, w ∈ wsX0_changeWithin) (hW : XW D cJ h0 a1 a2 a3 a4 a5 a6 tC tS u s s.heap) (v1 : Int64) (v3 : Int64) (v5 : Int64) (v7 : Int32) : ∀ (n : Nat) (v8 : Int64) (v10 : Int64) (v12 : Int32) (ls : Array Slot), lv_has ls 15 [(0, .ref h0), (1, .long v1), (3, .long v3), (5, .long v5), (7, .int v7), (8, .long v8), (10, .long v10), (12, .int v12)] → wX0_changeWithin_L10 post u v1 v7 n v8 v10 v12 → W p l e ({ frames := 3, cells := 0, slots := 0, locals := 77 } : Room) s m args below meth c s.heap [] 0 0 (MQ below (vp_Sl post) args s 0 0 nA) (F0 m 10 ls []) := by
  intro n
  induction n with
  | zero =>
    intro v8 v10 v12 ls hl hw
    exact hw.elim
  | succ n ih =>
    intro v8 v10 v12 ls hl hw
    rw [wX0_changeWithin_L10] at hw
    refine lv_iload hx hb dX0_changeWithin_10 (lv_at hl 7 rfl) ?_
    refine lv_sipush (v := 20000) hx hb dX0_changeWithin_12 (by decide) ?_
    refine lv_icmp_gt (tgt := 77) hx hb dX0_changeWithin_15 (by decide) (fun c1 => ?_) (fun c1 => ?_)
    · have hw := hw.1 c1
      refine lv_lload hx hb dX0_changeWithin_77 (lv_at hl 6 rfl) ?_
      exact W.lret (v := v10) hx hb hr (fun t ht hWm => ⟨_, rfl, hw, ht⟩) t_nil dX0_changeWithin_79
    · have hw := hw.2 c1
      refine lv_lload hx hb dX0_changeWithin_18 (lv_at hl 6 rfl) ?_
      refine lv_lload hx hb dX0_changeWithin_20 (lv_at hl 5 rfl) ?_
      refine lv_lsub hx hb dX0_changeWithin_22 ?_
      refine lv_lconst (v := 1) hx hb dX0_changeWithin_23 (by decide) ?_
      refine bl_le (tgt := 77) hx hb dX0_changeWithin_24 dX0_changeWithin_25 (by decide) (fun c2 => ?_) (fun c2 => ?_)
      · have hw := hw.1 c2
        refine lv_lload hx hb dX0_changeWithin_77 (lv_at hl 6 rfl) ?_
        exact W.lret (v := v10) hx hb hr (fun t ht hWm => ⟨_, rfl, hw, ht⟩) t_nil dX0_changeWithin_79
      · have hw := hw.2 c2
        refine lv_lload hx hb dX0_changeWithin_28 (lv_at hl 5 rfl) ?_
        refine lv_lload hx hb dX0_changeWithin_30 (lv_at hl 6 rfl) ?_
        refine lv_ladd hx hb dX0_changeWithin_32 ?_
        refine lv_ldc2 (v := 2) hx hb hown (hts (.constantLong RX0 213 (2)) (by decide +kernel)) dX0_changeWithin_33 ?_
        refine lv_ldiv hx hb dX0_changeWithin_36 (by decide) ?_
        refine lv_lstore (lv' := [(13, .long ((v8 + v10) / 2)), (0, .ref h0), (1, .long v1), (3, .long v3), (5, .long v5), (7, .int v7), (8, .long v8), (10, .long v10), (12, .int v12)]) hx hb dX0_changeWithin_37 hl (by decide) rfl (fun ls hl => ?_)
        refine lv_aload_n hx hb dX0_changeWithin_39 rfl (lv_at hl 1 rfl) ?_
        refine lv_lload hx hb dX0_changeWithin_40 (lv_at hl 0 rfl) ?_
        refine pc_Vl (As := [.long ((v8 + v10) / 2)]) (rest := []) ⟨hx, hb, hml, hown, hts⟩ (mX0_heightAt l D cJ h0 a1 a2 a3 a4 a5 a6 tC tS u ((v8 + v10) / 2) _) (cwV 1 hts gX0_changeWithin_X0_heightAt rfl rfl rfl (by decide +kernel) ⟨Nat.le_of_ble_eq_true rfl, Nat.le_of_ble_eq_true rfl⟩) (wX_rc hW) wX_bl (wX_in hW hw) rfl hl.1 rfl (Nat.le_of_ble_eq_true rfl) dX0_changeWithin_42 ⟨Nat.le_of_ble_eq_true rfl, Nat.le_of_ble_eq_true rfl⟩ (fun r3 hw => ?_)
        refine lv_lload_n hx hb dX0_changeWithin_45 rfl (lv_at hl 2 rfl) ?_
        refine bl_lt (tgt := 54) hx hb dX0_changeWithin_46 dX0_changeWithin_47 (by decide) (fun c4 => ?_) (fun c4 => ?_)
        · have hw := hw.1 c4
          refine lv_iconst (v := 0) hx hb dX0_changeWithin_54 (by decide) ?_
          refine lv_iload hx hb dX0_changeWithin_55 (lv_at hl 5 rfl) ?_
          refine lv_icmp_ne (tgt := 67) hx hb dX0_changeWithin_57 (by decide) (fun c5 => ?_) (fun c5 => ?_)
          · have hw := hw.2 c5
            refine lv_lload hx hb dX0_changeWithin_67 (lv_at hl 0 rfl) ?_
            refine lv_lstore (lv' := [(8, .long ((v8 + v10) / 2)), (13, .long ((v8 + v10) / 2)), (0, .ref h0), (1, .long v1), (3, .long v3), (5, .long v5), (7, .int v7), (10, .long v10), (12, .int v12)]) hx hb dX0_changeWithin_69 hl (by decide) rfl (fun ls hl => ?_)
            refine lv_iinc (v := (v12 + 1)) (lv' := [(12, .int (v12 + 1)), (8, .long ((v8 + v10) / 2)), (13, .long ((v8 + v10) / 2)), (0, .ref h0), (1, .long v1), (3, .long v3), (5, .long v5), (7, .int v7), (10, .long v10)]) hx hb dX0_changeWithin_71 hl (k := 8) rfl (by first | rfl | exact congrArg (fun z => v12 + z) (by decide)) (by decide) rfl (fun ls hl => ?_)
            refine lv_goto (tgt := 10) hx hb dX0_changeWithin_74 (by decide) ?_
            exact ih ((v8 + v10) / 2) v10 (v12 + 1) ls (lv_sub hl [3, 4, 5, 6, 7, 1, 8, 0] rfl) hw
          · have hw := hw.1 c5
            refine lv_lload hx hb dX0_changeWithin_60 (lv_at hl 0 rfl) ?_
            refine lv_lstore (lv' := [(10, .long ((v8 + v10) / 2)), (13, .long ((v8 + v10) / 2)), (0, .ref h0), (1, .long v1), (3, .long v3), (5, .long v5), (7, .int v7), (8, .long v8), (12, .int v12)]) hx hb dX0_changeWithin_62 hl (by decide) rfl (fun ls hl => ?_)
            refine lv_goto (tgt := 71) hx hb dX0_changeWithin_64 (by decide) ?_
            refine lv_iinc (v := (v12 + 1)) (lv' := [(12, .int (v12 + 1)), (10, .long ((v8 + v10) / 2)), (13, .long ((v8 + v10) / 2)), (0, .ref h0), (1, .long v1), (3, .long v3), (5, .long v5), (7, .int v7), (8, .long v8)]) hx hb dX0_changeWithin_71 hl (k := 8) rfl (by first | rfl | exact congrArg (fun z => v12 + z) (by decide)) (by decide) rfl (fun ls hl => ?_)
            refine lv_goto (tgt := 10) hx hb dX0_changeWithin_74 (by decide) ?_
            exact ih v8 ((v8 + v10) / 2) (v12 + 1) ls (lv_sub hl [3, 4, 5, 6, 7, 8, 1, 0] rfl) hw
        · have hw := hw.2 c4
          refine lv_iconst (v := 1) hx hb dX0_changeWithin_50 (by decide) ?_
          refine lv_goto (tgt := 55) hx hb dX0_changeWithin_51 (by decide) ?_
          refine lv_iload hx hb dX0_changeWithin_55 (lv_at hl 5 rfl) ?_
          refine lv_icmp_ne (tgt := 67) hx hb dX0_changeWithin_57 (by decide) (fun c6 => ?_) (fun c6 => ?_)
          · have hw := hw.2 c6
            refine lv_lload hx hb dX0_changeWithin_67 (lv_at hl 0 rfl) ?_
            refine lv_lstore (lv' := [(8, .long ((v8 + v10) / 2)), (13, .long ((v8 + v10) / 2)), (0, .ref h0), (1, .long v1), (3, .long v3), (5, .long v5), (7, .int v7), (10, .long v10), (12, .int v12)]) hx hb dX0_changeWithin_69 hl (by decide) rfl (fun ls hl => ?_)
            refine lv_iinc (v := (v12 + 1)) (lv' := [(12, .int (v12 + 1)), (8, .long ((v8 + v10) / 2)), (13, .long ((v8 + v10) / 2)), (0, .ref h0), (1, .long v1), (3, .long v3), (5, .long v5), (7, .int v7), (10, .long v10)]) hx hb dX0_changeWithin_71 hl (k := 8) rfl (by first | rfl | exact congrArg (fun z => v12 + z) (by decide)) (by decide) rfl (fun ls hl => ?_)
            refine lv_goto (tgt := 10) hx hb dX0_changeWithin_74 (by decide) ?_
            exact ih ((v8 + v10) / 2) v10 (v12 + 1) ls (lv_sub hl [3, 4, 5, 6, 7, 1, 8, 0] rfl) hw
          · have hw := hw.1 c6
            refine lv_lload hx hb dX0_changeWithin_60 (lv_at hl 0 rfl) ?_
            refine lv_lstore (lv' := [(10, .long ((v8 + v10) / 2)), (13, .long ((v8 + v10) / 2)), (0, .ref h0), (1, .long v1), (3, .long v3), (5, .long v5), (7, .int v7), (8, .long v8), (12, .int v12)]) hx hb dX0_changeWithin_62 hl (by decide) rfl (fun ls hl => ?_)
            refine lv_goto (tgt := 71) hx hb dX0_changeWithin_64 (by decide) ?_
            refine lv_iinc (v := (v12 + 1)) (lv' := [(12, .int (v12 + 1)), (10, .long ((v8 + v10) / 2)), (13, .long ((v8 + v10) / 2)), (0, .ref h0), (1, .long v1), (3, .long v3), (5, .long v5), (7, .int v7), (8, .long v8)]) hx hb dX0_changeWithin_71 hl (k := 8) rfl (by first | rfl | exact congrArg (fun z => v12 + z) (by decide)) (by decide) rfl (fun ls hl => ?_)
            refine lv_goto (tgt := 10) hx hb dX0_changeWithin_74 (by decide) ?_
            exact ih v8 ((v8 + v10) / 2) (v12 + 1) ls (lv_sub hl [3, 4, 5, 6, 7, 8, 1, 0] rfl) hw
set_option maxHeartbeats 4000000 in
set_option maxRecDepth 100000 in
theorem mX0_changeWithin (l : Launch) (D : va_G) (cJ : ClassId) (h0 a1 a2 a3 a4 a5 a6 tC tS : Nat) (u : XS) (v1 : Int64) (v3 : Int64) (v5 : Int64) (v7 : Int32) (post : Int64 → Prop) : Met l yX0_changeWithin wsX0_changeWithin ({ frames := 3, cells := 0, slots := 0, locals := 77 } : Room) (va_Pc [.ref h0, .long v1, .long v3, .long v5, .int v7] (fun U => XW D cJ h0 a1 a2 a3 a4 a5 a6 tC tS u U U.heap ∧ wX0_changeWithin post u v1 v3 v5 v7)) (vp_Sl post) 0 0 nA := by
  refine Met.ofW (cc := cX0_changeWithin) (maxL := 15) (ret := (some .long)) (by decide +kernel) rfl ?_
  intro p e s m args below meth c s₁ B hml hv
  obtain ⟨rfl, hW, hw⟩ := hv
  have hx := B.exec
  have hb := B.bytes
  have hr := B.returns
  have hts := atoms_spec (ws := wsX0_changeWithin) B.pre
  have hown : s.vm.findClass RX0 = some m.cls := findClass_of_methodNamed B.named
  have hlocks := B.notSynchronized
  have hin : ∀ w ∈ u_ws RX0 TX0 9, w ∈ wsX0_changeWithin := by decide +kernel
  have hl := lv_entry ([.ref h0, .long v1, .long v3, .long v5, .int v7]) (n := 15) (Nat.le_of_ble_eq_true rfl)
  rw [lg_entry_eq]
  generalize (lg_sl ([.ref h0, .long v1, .long v3, .long v5, .int v7]) ++ List.replicate (15 - (lg_sl ([.ref h0, .long v1, .long v3, .long v5, .int v7])).length) Slot.unset).toArray = ls at hl ⊢
  have hl : lv_has ls 15 [(0, .ref h0), (1, .long v1), (3, .long v3), (5, .long v5), (7, .int v7)] := hl
  unfold wX0_changeWithin at hw
  refine lv_lload_n hx hb dX0_changeWithin_0 rfl (lv_at hl 2 rfl) ?_
  refine lv_lstore (lv' := [(8, .long v3), (0, .ref h0), (1, .long v1), (3, .long v3), (5, .long v5), (7, .int v7)]) hx hb dX0_changeWithin_1 hl (by decide) rfl (fun ls hl => ?_)
  refine lv_lload hx hb dX0_changeWithin_3 (lv_at hl 4 rfl) ?_
  refine lv_lstore (lv' := [(10, .long v5), (8, .long v3), (0, .ref h0), (1, .long v1), (3, .long v3), (5, .long v5), (7, .int v7)]) hx hb dX0_changeWithin_5 hl (by decide) rfl (fun ls hl => ?_)
  refine lv_iconst (v := 0) hx hb dX0_changeWithin_7 (by decide) ?_
  refine lv_istore (lv' := [(12, .int 0), (10, .long v5), (8, .long v3), (0, .ref h0), (1, .long v1), (3, .long v3), (5, .long v5), (7, .int v7)]) hx hb dX0_changeWithin_8 hl (by decide) rfl (fun ls hl => ?_)
  obtain ⟨n7, hw⟩ := hw
  exact kX0_changeWithin_L10 hx hb hr hml hown hlocks hts hin hW v1 v3 v5 v7 n7 v3 v5 0 ls (lv_sub hl [3, 4, 5, 6, 7, 2, 1, 0] rfl) hw

def wX0_nextSecond_L12 (post : Int64 → Prop) (u : XS) (v1 : Int64) (v5 : Int32) (v6 : Int64) : Nat → Int64 → Int32 → Prop
  | 0, _, _ => False
  | n + 1, v8, v10 => ((20000 < v10 → (post (v6 + 1))) ∧ (¬ 20000 < v10 → ((v6 < v8 → (post (v6 + 1))) ∧ (¬ v6 < v8 → (wX0_heightAt (fun r4 => ((r4 < v1 → ((0 = v5 → (post v8)) ∧ (¬ 0 = v5 → (wX0_stretchEnd (fun r7 => (wX0_heightAt (fun r8 => ((r8 < v1 → (wX0_nextSecond_L12 post u v1 v5 v6 n (r7 + 1) (v10 + 1))) ∧ (¬ r8 < v1 → ((1 = v5 → (wX0_changeWithin (fun r12 => (post r12)) u v1 v8 r7 v5)) ∧ (¬ 1 = v5 → (wX0_nextSecond_L12 post u v1 v5 v6 n (r7 + 1) (v10 + 1))))))) u r7)) u v8)))) ∧ (¬ r4 < v1 → ((1 = v5 → (post v8)) ∧ (¬ 1 = v5 → (wX0_stretchEnd (fun r14 => (wX0_heightAt (fun r15 => ((r15 < v1 → ((0 = v5 → (wX0_changeWithin (fun r18 => (post r18)) u v1 v8 r14 v5)) ∧ (¬ 0 = v5 → (wX0_nextSecond_L12 post u v1 v5 v6 n (r14 + 1) (v10 + 1))))) ∧ (¬ r15 < v1 → (wX0_nextSecond_L12 post u v1 v5 v6 n (r14 + 1) (v10 + 1))))) u r14)) u v8)))))) u v8)))))
def wX0_nextSecond (post : Int64 → Prop) (u : XS) (v1 : Int64) (v3 : Int64) (v5 : Int32) : Prop := (wX0_lastSecond (fun r1 => (∃ n20 : Nat, wX0_nextSecond_L12 post u v1 v5 r1 n20 v3 0)) u)
set_option maxHeartbeats 4000000 in
set_option maxRecDepth 100000 in
theorem kX0_nextSecond_L12 {p : Program} {l : Launch} {e : Env} {s : State} {m : MethodId} {args : Array Value} {below : List Frame} {meth : Method} {c : Code} {D : va_G} {cJ : ClassId} {h0 a1 a2 a3 a4 a5 a6 tC tS : Nat} {u : XS} {post : Int64 → Prop} (hx : p.tables.exec = Jvm.exec) (hb : c.code = cX0_nextSecond) (hr : meth.sig.returnType = (some .long)) (hml : c.maxLocals = 13) (hown : s.vm.findClass RX0 = some m.cls) (hlocks : meth.locks = false) (hts : ∀ w ∈ wsX0_nextSecond, w.before args s = true) (hin : ∀ w ∈ u_ws RX0 TX0 9, w ∈ wsX0_nextSecond) (hW : XW D cJ h0 a1 a2 a3 a4 a5 a6 tC tS u s s.heap) (v1 : Int64) (v3 : Int64) (v5 : Int32) (v6 : Int64) : ∀ (n : Nat) (v8 : Int64) (v10 : Int32) (ls : Array Slot), lv_has ls 13 [(0, .ref h0), (1, .long v1), (3, .long v3), (5, .int v5), (6, .long v6), (8, .long v8), (10, .int v10)] → wX0_nextSecond_L12 post u v1 v5 v6 n v8 v10 → W p l e ({ frames := 4, cells := 0, slots := 0, locals := 111 } : Room) s m args below meth c s.heap [] 0 0 (MQ below (vp_Sl post) args s 0 0 nA) (F0 m 12 ls []) := by
  intro n
  induction n with
  | zero =>
    intro v8 v10 ls hl hw
    exact hw.elim
  | succ n ih =>
    intro v8 v10 ls hl hw
    rw [wX0_nextSecond_L12] at hw
    refine lv_iload hx hb dX0_nextSecond_12 (lv_at hl 6 rfl) ?_
    refine lv_sipush (v := 20000) hx hb dX0_nextSecond_14 (by decide) ?_
    refine lv_icmp_gt (tgt := 105) hx hb dX0_nextSecond_17 (by decide) (fun c2 => ?_) (fun c2 => ?_)
    · have hw := hw.1 c2
      refine lv_lload hx hb dX0_nextSecond_105 (lv_at hl 4 rfl) ?_
      refine lv_lconst (v := 1) hx hb dX0_nextSecond_107 (by decide) ?_
      refine lv_ladd hx hb dX0_nextSecond_108 ?_
      exact W.lret (v := (v6 + 1)) hx hb hr (fun t ht hWm => ⟨_, rfl, hw, ht⟩) t_nil dX0_nextSecond_109
    · have hw := hw.2 c2
      refine lv_lload hx hb dX0_nextSecond_20 (lv_at hl 5 rfl) ?_
      refine lv_lload hx hb dX0_nextSecond_22 (lv_at hl 4 rfl) ?_
      refine bl_gt (tgt := 105) hx hb dX0_nextSecond_24 dX0_nextSecond_25 (by decide) (fun c3 => ?_) (fun c3 => ?_)
      · have hw := hw.1 c3
        refine lv_lload hx hb dX0_nextSecond_105 (lv_at hl 4 rfl) ?_
        refine lv_lconst (v := 1) hx hb dX0_nextSecond_107 (by decide) ?_
        refine lv_ladd hx hb dX0_nextSecond_108 ?_
        exact W.lret (v := (v6 + 1)) hx hb hr (fun t ht hWm => ⟨_, rfl, hw, ht⟩) t_nil dX0_nextSecond_109
      · have hw := hw.2 c3
        refine lv_aload_n hx hb dX0_nextSecond_28 rfl (lv_at hl 0 rfl) ?_
        refine lv_lload hx hb dX0_nextSecond_29 (lv_at hl 5 rfl) ?_
        refine pc_Vl (As := [.long v8]) (rest := []) ⟨hx, hb, hml, hown, hts⟩ (mX0_heightAt l D cJ h0 a1 a2 a3 a4 a5 a6 tC tS u v8 _) (cwV 1 hts gX0_nextSecond_X0_heightAt rfl rfl rfl (by decide +kernel) ⟨Nat.le_of_ble_eq_true rfl, Nat.le_of_ble_eq_true rfl⟩) (wX_rc hW) wX_bl (wX_in hW hw) rfl hl.1 rfl (Nat.le_of_ble_eq_true rfl) dX0_nextSecond_31 ⟨Nat.le_of_ble_eq_true rfl, Nat.le_of_ble_eq_true rfl⟩ (fun r4 hw => ?_)
        refine lv_lload_n hx hb dX0_nextSecond_34 rfl (lv_at hl 1 rfl) ?_
        refine bl_lt (tgt := 43) hx hb dX0_nextSecond_35 dX0_nextSecond_36 (by decide) (fun c5 => ?_) (fun c5 => ?_)
        · have hw := hw.1 c5
          refine lv_iconst (v := 0) hx hb dX0_nextSecond_43 (by decide) ?_
          refine lv_iload hx hb dX0_nextSecond_44 (lv_at hl 3 rfl) ?_
          refine lv_icmp_ne (tgt := 52) hx hb dX0_nextSecond_46 (by decide) (fun c6 => ?_) (fun c6 => ?_)
          · have hw := hw.2 c6
            refine lv_aload_n hx hb dX0_nextSecond_52 rfl (lv_at hl 0 rfl) ?_
            refine lv_lload hx hb dX0_nextSecond_53 (lv_at hl 5 rfl) ?_
            refine pc_Vl (As := [.long v8]) (rest := []) ⟨hx, hb, hml, hown, hts⟩ (mX0_stretchEnd l D cJ h0 a1 a2 a3 a4 a5 a6 tC tS u v8 _) (cwV 1 hts gX0_nextSecond_X0_stretchEnd rfl rfl rfl (by decide +kernel) ⟨Nat.le_of_ble_eq_true rfl, Nat.le_of_ble_eq_true rfl⟩) (wX_rc hW) wX_bl (wX_in hW hw) rfl hl.1 rfl (Nat.le_of_ble_eq_true rfl) dX0_nextSecond_55 ⟨Nat.le_of_ble_eq_true rfl, Nat.le_of_ble_eq_true rfl⟩ (fun r7 hw => ?_)
            refine lv_lstore (lv' := [(11, .long r7), (0, .ref h0), (1, .long v1), (3, .long v3), (5, .int v5), (6, .long v6), (8, .long v8), (10, .int v10)]) hx hb dX0_nextSecond_58 hl (by decide) rfl (fun ls hl => ?_)
            refine lv_aload_n hx hb dX0_nextSecond_60 rfl (lv_at hl 1 rfl) ?_
            refine lv_lload hx hb dX0_nextSecond_61 (lv_at hl 0 rfl) ?_
            refine pc_Vl (As := [.long r7]) (rest := []) ⟨hx, hb, hml, hown, hts⟩ (mX0_heightAt l D cJ h0 a1 a2 a3 a4 a5 a6 tC tS u r7 _) (cwV 1 hts gX0_nextSecond_X0_heightAt rfl rfl rfl (by decide +kernel) ⟨Nat.le_of_ble_eq_true rfl, Nat.le_of_ble_eq_true rfl⟩) (wX_rc hW) wX_bl (wX_in hW hw) rfl hl.1 rfl (Nat.le_of_ble_eq_true rfl) dX0_nextSecond_63 ⟨Nat.le_of_ble_eq_true rfl, Nat.le_of_ble_eq_true rfl⟩ (fun r8 hw => ?_)
            refine lv_lload_n hx hb dX0_nextSecond_66 rfl (lv_at hl 2 rfl) ?_
            refine bl_lt (tgt := 75) hx hb dX0_nextSecond_67 dX0_nextSecond_68 (by decide) (fun c9 => ?_) (fun c9 => ?_)
            · have hw := hw.1 c9
              refine lv_iconst (v := 0) hx hb dX0_nextSecond_75 (by decide) ?_
              refine lv_iload hx hb dX0_nextSecond_76 (lv_at hl 4 rfl) ?_
              refine lv_icmp_ne (tgt := 93) hx hb dX0_nextSecond_78 (by decide) (fun c10 => ?_) (fun c10 => ?_)
              ·
                refine lv_lload hx hb dX0_nextSecond_93 (lv_at hl 0 rfl) ?_
                refine lv_lconst (v := 1) hx hb dX0_nextSecond_95 (by decide) ?_
                refine lv_ladd hx hb dX0_nextSecond_96 ?_
                refine lv_lstore (lv' := [(8, .long (r7 + 1)), (11, .long r7), (0, .ref h0), (1, .long v1), (3, .long v3), (5, .int v5), (6, .long v6), (10, .int v10)]) hx hb dX0_nextSecond_97 hl (by decide) rfl (fun ls hl => ?_)
                refine lv_iinc (v := (v10 + 1)) (lv' := [(10, .int (v10 + 1)), (8, .long (r7 + 1)), (11, .long r7), (0, .ref h0), (1, .long v1), (3, .long v3), (5, .int v5), (6, .long v6)]) hx hb dX0_nextSecond_99 hl (k := 7) rfl (by first | rfl | exact congrArg (fun z => v10 + z) (by decide)) (by decide) rfl (fun ls hl => ?_)
                refine lv_goto (tgt := 12) hx hb dX0_nextSecond_102 (by decide) ?_
                exact ih (r7 + 1) (v10 + 1) ls (lv_sub hl [3, 4, 5, 6, 7, 1, 0] rfl) hw
              · exact absurd c10 c6
            · have hw := hw.2 c9
              refine lv_iconst (v := 1) hx hb dX0_nextSecond_71 (by decide) ?_
              refine lv_goto (tgt := 76) hx hb dX0_nextSecond_72 (by decide) ?_
              refine lv_iload hx hb dX0_nextSecond_76 (lv_at hl 4 rfl) ?_
              refine lv_icmp_ne (tgt := 93) hx hb dX0_nextSecond_78 (by decide) (fun c11 => ?_) (fun c11 => ?_)
              · have hw := hw.2 c11
                refine lv_lload hx hb dX0_nextSecond_93 (lv_at hl 0 rfl) ?_
                refine lv_lconst (v := 1) hx hb dX0_nextSecond_95 (by decide) ?_
                refine lv_ladd hx hb dX0_nextSecond_96 ?_
                refine lv_lstore (lv' := [(8, .long (r7 + 1)), (11, .long r7), (0, .ref h0), (1, .long v1), (3, .long v3), (5, .int v5), (6, .long v6), (10, .int v10)]) hx hb dX0_nextSecond_97 hl (by decide) rfl (fun ls hl => ?_)
                refine lv_iinc (v := (v10 + 1)) (lv' := [(10, .int (v10 + 1)), (8, .long (r7 + 1)), (11, .long r7), (0, .ref h0), (1, .long v1), (3, .long v3), (5, .int v5), (6, .long v6)]) hx hb dX0_nextSecond_99 hl (k := 7) rfl (by first | rfl | exact congrArg (fun z => v10 + z) (by decide)) (by decide) rfl (fun ls hl => ?_)
                refine lv_goto (tgt := 12) hx hb dX0_nextSecond_102 (by decide) ?_
                exact ih (r7 + 1) (v10 + 1) ls (lv_sub hl [3, 4, 5, 6, 7, 1, 0] rfl) hw
              · have hw := hw.1 c11
                refine lv_aload_n hx hb dX0_nextSecond_81 rfl (lv_at hl 1 rfl) ?_
                refine lv_lload_n hx hb dX0_nextSecond_82 rfl (lv_at hl 2 rfl) ?_
                refine lv_lload hx hb dX0_nextSecond_83 (lv_at hl 6 rfl) ?_
                refine lv_lload hx hb dX0_nextSecond_85 (lv_at hl 0 rfl) ?_
                refine lv_iload hx hb dX0_nextSecond_87 (lv_at hl 4 rfl) ?_
                refine pc_Vl (As := [.long v1, .long v8, .long r7, .int v5]) (rest := []) ⟨hx, hb, hml, hown, hts⟩ (mX0_changeWithin l D cJ h0 a1 a2 a3 a4 a5 a6 tC tS u v1 v8 r7 v5 _) (cwV 4 hts gX0_nextSecond_X0_changeWithin rfl rfl rfl (by decide +kernel) ⟨Nat.le_of_ble_eq_true rfl, Nat.le_of_ble_eq_true rfl⟩) (wX_rc hW) wX_bl (wX_in hW hw) rfl hl.1 rfl (Nat.le_of_ble_eq_true rfl) dX0_nextSecond_89 ⟨Nat.le_of_ble_eq_true rfl, Nat.le_of_ble_eq_true rfl⟩ (fun r12 hw => ?_)
                exact W.lret (v := r12) hx hb hr (fun t ht hWm => ⟨_, rfl, hw, ht⟩) t_nil dX0_nextSecond_92
          · have hw := hw.1 c6
            refine lv_lload hx hb dX0_nextSecond_49 (lv_at hl 5 rfl) ?_
            exact W.lret (v := v8) hx hb hr (fun t ht hWm => ⟨_, rfl, hw, ht⟩) t_nil dX0_nextSecond_51
        · have hw := hw.2 c5
          refine lv_iconst (v := 1) hx hb dX0_nextSecond_39 (by decide) ?_
          refine lv_goto (tgt := 44) hx hb dX0_nextSecond_40 (by decide) ?_
          refine lv_iload hx hb dX0_nextSecond_44 (lv_at hl 3 rfl) ?_
          refine lv_icmp_ne (tgt := 52) hx hb dX0_nextSecond_46 (by decide) (fun c13 => ?_) (fun c13 => ?_)
          · have hw := hw.2 c13
            refine lv_aload_n hx hb dX0_nextSecond_52 rfl (lv_at hl 0 rfl) ?_
            refine lv_lload hx hb dX0_nextSecond_53 (lv_at hl 5 rfl) ?_
            refine pc_Vl (As := [.long v8]) (rest := []) ⟨hx, hb, hml, hown, hts⟩ (mX0_stretchEnd l D cJ h0 a1 a2 a3 a4 a5 a6 tC tS u v8 _) (cwV 1 hts gX0_nextSecond_X0_stretchEnd rfl rfl rfl (by decide +kernel) ⟨Nat.le_of_ble_eq_true rfl, Nat.le_of_ble_eq_true rfl⟩) (wX_rc hW) wX_bl (wX_in hW hw) rfl hl.1 rfl (Nat.le_of_ble_eq_true rfl) dX0_nextSecond_55 ⟨Nat.le_of_ble_eq_true rfl, Nat.le_of_ble_eq_true rfl⟩ (fun r14 hw => ?_)
            refine lv_lstore (lv' := [(11, .long r14), (0, .ref h0), (1, .long v1), (3, .long v3), (5, .int v5), (6, .long v6), (8, .long v8), (10, .int v10)]) hx hb dX0_nextSecond_58 hl (by decide) rfl (fun ls hl => ?_)
            refine lv_aload_n hx hb dX0_nextSecond_60 rfl (lv_at hl 1 rfl) ?_
            refine lv_lload hx hb dX0_nextSecond_61 (lv_at hl 0 rfl) ?_
            refine pc_Vl (As := [.long r14]) (rest := []) ⟨hx, hb, hml, hown, hts⟩ (mX0_heightAt l D cJ h0 a1 a2 a3 a4 a5 a6 tC tS u r14 _) (cwV 1 hts gX0_nextSecond_X0_heightAt rfl rfl rfl (by decide +kernel) ⟨Nat.le_of_ble_eq_true rfl, Nat.le_of_ble_eq_true rfl⟩) (wX_rc hW) wX_bl (wX_in hW hw) rfl hl.1 rfl (Nat.le_of_ble_eq_true rfl) dX0_nextSecond_63 ⟨Nat.le_of_ble_eq_true rfl, Nat.le_of_ble_eq_true rfl⟩ (fun r15 hw => ?_)
            refine lv_lload_n hx hb dX0_nextSecond_66 rfl (lv_at hl 2 rfl) ?_
            refine bl_lt (tgt := 75) hx hb dX0_nextSecond_67 dX0_nextSecond_68 (by decide) (fun c16 => ?_) (fun c16 => ?_)
            · have hw := hw.1 c16
              refine lv_iconst (v := 0) hx hb dX0_nextSecond_75 (by decide) ?_
              refine lv_iload hx hb dX0_nextSecond_76 (lv_at hl 4 rfl) ?_
              refine lv_icmp_ne (tgt := 93) hx hb dX0_nextSecond_78 (by decide) (fun c17 => ?_) (fun c17 => ?_)
              · have hw := hw.2 c17
                refine lv_lload hx hb dX0_nextSecond_93 (lv_at hl 0 rfl) ?_
                refine lv_lconst (v := 1) hx hb dX0_nextSecond_95 (by decide) ?_
                refine lv_ladd hx hb dX0_nextSecond_96 ?_
                refine lv_lstore (lv' := [(8, .long (r14 + 1)), (11, .long r14), (0, .ref h0), (1, .long v1), (3, .long v3), (5, .int v5), (6, .long v6), (10, .int v10)]) hx hb dX0_nextSecond_97 hl (by decide) rfl (fun ls hl => ?_)
                refine lv_iinc (v := (v10 + 1)) (lv' := [(10, .int (v10 + 1)), (8, .long (r14 + 1)), (11, .long r14), (0, .ref h0), (1, .long v1), (3, .long v3), (5, .int v5), (6, .long v6)]) hx hb dX0_nextSecond_99 hl (k := 7) rfl (by first | rfl | exact congrArg (fun z => v10 + z) (by decide)) (by decide) rfl (fun ls hl => ?_)
                refine lv_goto (tgt := 12) hx hb dX0_nextSecond_102 (by decide) ?_
                exact ih (r14 + 1) (v10 + 1) ls (lv_sub hl [3, 4, 5, 6, 7, 1, 0] rfl) hw
              · have hw := hw.1 c17
                refine lv_aload_n hx hb dX0_nextSecond_81 rfl (lv_at hl 1 rfl) ?_
                refine lv_lload_n hx hb dX0_nextSecond_82 rfl (lv_at hl 2 rfl) ?_
                refine lv_lload hx hb dX0_nextSecond_83 (lv_at hl 6 rfl) ?_
                refine lv_lload hx hb dX0_nextSecond_85 (lv_at hl 0 rfl) ?_
                refine lv_iload hx hb dX0_nextSecond_87 (lv_at hl 4 rfl) ?_
                refine pc_Vl (As := [.long v1, .long v8, .long r14, .int v5]) (rest := []) ⟨hx, hb, hml, hown, hts⟩ (mX0_changeWithin l D cJ h0 a1 a2 a3 a4 a5 a6 tC tS u v1 v8 r14 v5 _) (cwV 4 hts gX0_nextSecond_X0_changeWithin rfl rfl rfl (by decide +kernel) ⟨Nat.le_of_ble_eq_true rfl, Nat.le_of_ble_eq_true rfl⟩) (wX_rc hW) wX_bl (wX_in hW hw) rfl hl.1 rfl (Nat.le_of_ble_eq_true rfl) dX0_nextSecond_89 ⟨Nat.le_of_ble_eq_true rfl, Nat.le_of_ble_eq_true rfl⟩ (fun r18 hw => ?_)
                exact W.lret (v := r18) hx hb hr (fun t ht hWm => ⟨_, rfl, hw, ht⟩) t_nil dX0_nextSecond_92
            · have hw := hw.2 c16
              refine lv_iconst (v := 1) hx hb dX0_nextSecond_71 (by decide) ?_
              refine lv_goto (tgt := 76) hx hb dX0_nextSecond_72 (by decide) ?_
              refine lv_iload hx hb dX0_nextSecond_76 (lv_at hl 4 rfl) ?_
              refine lv_icmp_ne (tgt := 93) hx hb dX0_nextSecond_78 (by decide) (fun c19 => ?_) (fun c19 => ?_)
              ·
                refine lv_lload hx hb dX0_nextSecond_93 (lv_at hl 0 rfl) ?_
                refine lv_lconst (v := 1) hx hb dX0_nextSecond_95 (by decide) ?_
                refine lv_ladd hx hb dX0_nextSecond_96 ?_
                refine lv_lstore (lv' := [(8, .long (r14 + 1)), (11, .long r14), (0, .ref h0), (1, .long v1), (3, .long v3), (5, .int v5), (6, .long v6), (10, .int v10)]) hx hb dX0_nextSecond_97 hl (by decide) rfl (fun ls hl => ?_)
                refine lv_iinc (v := (v10 + 1)) (lv' := [(10, .int (v10 + 1)), (8, .long (r14 + 1)), (11, .long r14), (0, .ref h0), (1, .long v1), (3, .long v3), (5, .int v5), (6, .long v6)]) hx hb dX0_nextSecond_99 hl (k := 7) rfl (by first | rfl | exact congrArg (fun z => v10 + z) (by decide)) (by decide) rfl (fun ls hl => ?_)
                refine lv_goto (tgt := 12) hx hb dX0_nextSecond_102 (by decide) ?_
                exact ih (r14 + 1) (v10 + 1) ls (lv_sub hl [3, 4, 5, 6, 7, 1, 0] rfl) hw
              · exact absurd c19 c13
          · have hw := hw.1 c13
            refine lv_lload hx hb dX0_nextSecond_49 (lv_at hl 5 rfl) ?_
            exact W.lret (v := v8) hx hb hr (fun t ht hWm => ⟨_, rfl, hw, ht⟩) t_nil dX0_nextSecond_51
set_option maxHeartbeats 4000000 in
set_option maxRecDepth 100000 in
theorem mX0_nextSecond (l : Launch) (D : va_G) (cJ : ClassId) (h0 a1 a2 a3 a4 a5 a6 tC tS : Nat) (u : XS) (v1 : Int64) (v3 : Int64) (v5 : Int32) (post : Int64 → Prop) : Met l yX0_nextSecond wsX0_nextSecond ({ frames := 4, cells := 0, slots := 0, locals := 111 } : Room) (va_Pc [.ref h0, .long v1, .long v3, .int v5] (fun U => XW D cJ h0 a1 a2 a3 a4 a5 a6 tC tS u U U.heap ∧ wX0_nextSecond post u v1 v3 v5)) (vp_Sl post) 0 0 nA := by
  refine Met.ofW (cc := cX0_nextSecond) (maxL := 13) (ret := (some .long)) (by decide +kernel) rfl ?_
  intro p e s m args below meth c s₁ B hml hv
  obtain ⟨rfl, hW, hw⟩ := hv
  have hx := B.exec
  have hb := B.bytes
  have hr := B.returns
  have hts := atoms_spec (ws := wsX0_nextSecond) B.pre
  have hown : s.vm.findClass RX0 = some m.cls := findClass_of_methodNamed B.named
  have hlocks := B.notSynchronized
  have hin : ∀ w ∈ u_ws RX0 TX0 9, w ∈ wsX0_nextSecond := by decide +kernel
  have hl := lv_entry ([.ref h0, .long v1, .long v3, .int v5]) (n := 13) (Nat.le_of_ble_eq_true rfl)
  rw [lg_entry_eq]
  generalize (lg_sl ([.ref h0, .long v1, .long v3, .int v5]) ++ List.replicate (13 - (lg_sl ([.ref h0, .long v1, .long v3, .int v5])).length) Slot.unset).toArray = ls at hl ⊢
  have hl : lv_has ls 13 [(0, .ref h0), (1, .long v1), (3, .long v3), (5, .int v5)] := hl
  unfold wX0_nextSecond at hw
  refine lv_aload_n hx hb dX0_nextSecond_0 rfl (lv_at hl 0 rfl) ?_
  refine pc_Vl (As := []) (rest := []) ⟨hx, hb, hml, hown, hts⟩ (mX0_lastSecond l D cJ h0 a1 a2 a3 a4 a5 a6 tC tS u _) (cwV 0 hts gX0_nextSecond_X0_lastSecond rfl rfl rfl (by decide +kernel) ⟨Nat.le_of_ble_eq_true rfl, Nat.le_of_ble_eq_true rfl⟩) (wX_rc hW) wX_bl (wX_in hW hw) rfl hl.1 rfl (Nat.le_of_ble_eq_true rfl) dX0_nextSecond_1 ⟨Nat.le_of_ble_eq_true rfl, Nat.le_of_ble_eq_true rfl⟩ (fun r1 hw => ?_)
  refine lv_lstore (lv' := [(6, .long r1), (0, .ref h0), (1, .long v1), (3, .long v3), (5, .int v5)]) hx hb dX0_nextSecond_4 hl (by decide) rfl (fun ls hl => ?_)
  refine lv_lload_n hx hb dX0_nextSecond_6 rfl (lv_at hl 3 rfl) ?_
  refine lv_lstore (lv' := [(8, .long v3), (6, .long r1), (0, .ref h0), (1, .long v1), (3, .long v3), (5, .int v5)]) hx hb dX0_nextSecond_7 hl (by decide) rfl (fun ls hl => ?_)
  refine lv_iconst (v := 0) hx hb dX0_nextSecond_9 (by decide) ?_
  refine lv_istore (lv' := [(10, .int 0), (8, .long v3), (6, .long r1), (0, .ref h0), (1, .long v1), (3, .long v3), (5, .int v5)]) hx hb dX0_nextSecond_10 hl (by decide) rfl (fun ls hl => ?_)
  obtain ⟨n20, hw⟩ := hw
  exact kX0_nextSecond_L12 hx hb hr hml hown hlocks hts hin hW v1 v3 v5 r1 n20 v3 0 ls (lv_sub hl [3, 4, 5, 6, 2, 1, 0] rfl) hw

def wX0_longestSpan_L27 (post : Int64 → Prop) (u : XS) (v1 : Int64) (v5 : Int64) : Nat → Int64 → Int64 → Int64 → Int32 → Prop
  | 0, _, _, _, _ => False
  | n + 1, v7, v9, v11, v13 => ((20000 < v13 → (post v7)) ∧ (¬ 20000 < v13 → ((v5 < v11 → (post v7)) ∧ (¬ v5 < v11 → (wX0_nextSecond (fun r5 => (((r5 - v11) ≤ v9 → (wX0_nextSecond (fun r7 => (wX0_longestSpan_L27 post u v1 v5 n v7 v9 r7 (v13 + 1))) u v1 r5 1)) ∧ (¬ (r5 - v11) ≤ v9 → (wX0_nextSecond (fun r8 => (wX0_longestSpan_L27 post u v1 v5 n v11 (r5 - v11) r8 (v13 + 1))) u v1 r5 1)))) u v1 v11 0)))))
def wX0_longestSpan (post : Int64 → Prop) (u : XS) (v1 : Int64) (v3 : Int64) : Prop := (wX0_lastSecond (fun r1 => (wX0_nextSecond (fun r2 => (∃ n9 : Nat, wX0_longestSpan_L27 post u v1 r1 n9 (r1 + 1) 0 r2 0)) u v1 v3 1)) u)
set_option maxHeartbeats 4000000 in
set_option maxRecDepth 100000 in
theorem kX0_longestSpan_L27 {p : Program} {l : Launch} {e : Env} {s : State} {m : MethodId} {args : Array Value} {below : List Frame} {meth : Method} {c : Code} {D : va_G} {cJ : ClassId} {h0 a1 a2 a3 a4 a5 a6 tC tS : Nat} {u : XS} {post : Int64 → Prop} (hx : p.tables.exec = Jvm.exec) (hb : c.code = cX0_longestSpan) (hr : meth.sig.returnType = (some .long)) (hml : c.maxLocals = 16) (hown : s.vm.findClass RX0 = some m.cls) (hlocks : meth.locks = false) (hts : ∀ w ∈ wsX0_longestSpan, w.before args s = true) (hin : ∀ w ∈ u_ws RX0 TX0 9, w ∈ wsX0_longestSpan) (hW : XW D cJ h0 a1 a2 a3 a4 a5 a6 tC tS u s s.heap) (v1 : Int64) (v3 : Int64) (v5 : Int64) : ∀ (n : Nat) (v7 : Int64) (v9 : Int64) (v11 : Int64) (v13 : Int32) (ls : Array Slot), lv_has ls 16 [(0, .ref h0), (1, .long v1), (3, .long v3), (5, .long v5), (7, .long v7), (9, .long v9), (11, .long v11), (13, .int v13)] → wX0_longestSpan_L27 post u v1 v5 n v7 v9 v11 v13 → W p l e ({ frames := 5, cells := 0, slots := 0, locals := 143 } : Room) s m args below meth c s.heap [] 0 0 (MQ below (vp_Sl post) args s 0 0 nA) (F0 m 27 ls []) := by
  intro n
  induction n with
  | zero =>
    intro v7 v9 v11 v13 ls hl hw
    exact hw.elim
  | succ n ih =>
    intro v7 v9 v11 v13 ls hl hw
    rw [wX0_longestSpan_L27] at hw
    refine lv_iload hx hb dX0_longestSpan_27 (lv_at hl 7 rfl) ?_
    refine lv_sipush (v := 20000) hx hb dX0_longestSpan_29 (by decide) ?_
    refine lv_icmp_gt (tgt := 91) hx hb dX0_longestSpan_32 (by decide) (fun c3 => ?_) (fun c3 => ?_)
    · have hw := hw.1 c3
      refine lv_lload hx hb dX0_longestSpan_91 (lv_at hl 4 rfl) ?_
      exact W.lret (v := v7) hx hb hr (fun t ht hWm => ⟨_, rfl, hw, ht⟩) t_nil dX0_longestSpan_93
    · have hw := hw.2 c3
      refine lv_lload hx hb dX0_longestSpan_35 (lv_at hl 6 rfl) ?_
      refine lv_lload hx hb dX0_longestSpan_37 (lv_at hl 3 rfl) ?_
      refine bl_gt (tgt := 91) hx hb dX0_longestSpan_39 dX0_longestSpan_40 (by decide) (fun c4 => ?_) (fun c4 => ?_)
      · have hw := hw.1 c4
        refine lv_lload hx hb dX0_longestSpan_91 (lv_at hl 4 rfl) ?_
        exact W.lret (v := v7) hx hb hr (fun t ht hWm => ⟨_, rfl, hw, ht⟩) t_nil dX0_longestSpan_93
      · have hw := hw.2 c4
        refine lv_aload_n hx hb dX0_longestSpan_43 rfl (lv_at hl 0 rfl) ?_
        refine lv_lload_n hx hb dX0_longestSpan_44 rfl (lv_at hl 1 rfl) ?_
        refine lv_lload hx hb dX0_longestSpan_45 (lv_at hl 6 rfl) ?_
        refine lv_iconst (v := 0) hx hb dX0_longestSpan_47 (by decide) ?_
        refine pc_Vl (As := [.long v1, .long v11, .int 0]) (rest := []) ⟨hx, hb, hml, hown, hts⟩ (mX0_nextSecond l D cJ h0 a1 a2 a3 a4 a5 a6 tC tS u v1 v11 0 _) (cwV 3 hts gX0_longestSpan_X0_nextSecond rfl rfl rfl (by decide +kernel) ⟨Nat.le_of_ble_eq_true rfl, Nat.le_of_ble_eq_true rfl⟩) (wX_rc hW) wX_bl (wX_in hW hw) rfl hl.1 rfl (Nat.le_of_ble_eq_true rfl) dX0_longestSpan_48 ⟨Nat.le_of_ble_eq_true rfl, Nat.le_of_ble_eq_true rfl⟩ (fun r5 hw => ?_)
        refine lv_lstore (lv' := [(14, .long r5), (0, .ref h0), (1, .long v1), (3, .long v3), (5, .long v5), (7, .long v7), (9, .long v9), (11, .long v11), (13, .int v13)]) hx hb dX0_longestSpan_51 hl (by decide) rfl (fun ls hl => ?_)
        refine lv_lload hx hb dX0_longestSpan_53 (lv_at hl 0 rfl) ?_
        refine lv_lload hx hb dX0_longestSpan_55 (lv_at hl 7 rfl) ?_
        refine lv_lsub hx hb dX0_longestSpan_57 ?_
        refine lv_lload hx hb dX0_longestSpan_58 (lv_at hl 6 rfl) ?_
        refine bl_le (tgt := 75) hx hb dX0_longestSpan_60 dX0_longestSpan_61 (by decide) (fun c6 => ?_) (fun c6 => ?_)
        · have hw := hw.1 c6
          refine lv_aload_n hx hb dX0_longestSpan_75 rfl (lv_at hl 1 rfl) ?_
          refine lv_lload_n hx hb dX0_longestSpan_76 rfl (lv_at hl 2 rfl) ?_
          refine lv_lload hx hb dX0_longestSpan_77 (lv_at hl 0 rfl) ?_
          refine lv_iconst (v := 1) hx hb dX0_longestSpan_79 (by decide) ?_
          refine pc_Vl (As := [.long v1, .long r5, .int 1]) (rest := []) ⟨hx, hb, hml, hown, hts⟩ (mX0_nextSecond l D cJ h0 a1 a2 a3 a4 a5 a6 tC tS u v1 r5 1 _) (cwV 3 hts gX0_longestSpan_X0_nextSecond rfl rfl rfl (by decide +kernel) ⟨Nat.le_of_ble_eq_true rfl, Nat.le_of_ble_eq_true rfl⟩) (wX_rc hW) wX_bl (wX_in hW hw) rfl hl.1 rfl (Nat.le_of_ble_eq_true rfl) dX0_longestSpan_80 ⟨Nat.le_of_ble_eq_true rfl, Nat.le_of_ble_eq_true rfl⟩ (fun r7 hw => ?_)
          refine lv_lstore (lv' := [(11, .long r7), (14, .long r5), (0, .ref h0), (1, .long v1), (3, .long v3), (5, .long v5), (7, .long v7), (9, .long v9), (13, .int v13)]) hx hb dX0_longestSpan_83 hl (by decide) rfl (fun ls hl => ?_)
          refine lv_iinc (v := (v13 + 1)) (lv' := [(13, .int (v13 + 1)), (11, .long r7), (14, .long r5), (0, .ref h0), (1, .long v1), (3, .long v3), (5, .long v5), (7, .long v7), (9, .long v9)]) hx hb dX0_longestSpan_85 hl (k := 8) rfl (by first | rfl | exact congrArg (fun z => v13 + z) (by decide)) (by decide) rfl (fun ls hl => ?_)
          refine lv_goto (tgt := 27) hx hb dX0_longestSpan_88 (by decide) ?_
          exact ih v7 v9 r7 (v13 + 1) ls (lv_sub hl [3, 4, 5, 6, 7, 8, 1, 0] rfl) hw
        · have hw := hw.2 c6
          refine lv_lload hx hb dX0_longestSpan_64 (lv_at hl 0 rfl) ?_
          refine lv_lload hx hb dX0_longestSpan_66 (lv_at hl 7 rfl) ?_
          refine lv_lsub hx hb dX0_longestSpan_68 ?_
          refine lv_lstore (lv' := [(9, .long (r5 - v11)), (14, .long r5), (0, .ref h0), (1, .long v1), (3, .long v3), (5, .long v5), (7, .long v7), (11, .long v11), (13, .int v13)]) hx hb dX0_longestSpan_69 hl (by decide) rfl (fun ls hl => ?_)
          refine lv_lload hx hb dX0_longestSpan_71 (lv_at hl 7 rfl) ?_
          refine lv_lstore (lv' := [(7, .long v11), (9, .long (r5 - v11)), (14, .long r5), (0, .ref h0), (1, .long v1), (3, .long v3), (5, .long v5), (11, .long v11), (13, .int v13)]) hx hb dX0_longestSpan_73 hl (by decide) rfl (fun ls hl => ?_)
          refine lv_aload_n hx hb dX0_longestSpan_75 rfl (lv_at hl 3 rfl) ?_
          refine lv_lload_n hx hb dX0_longestSpan_76 rfl (lv_at hl 4 rfl) ?_
          refine lv_lload hx hb dX0_longestSpan_77 (lv_at hl 2 rfl) ?_
          refine lv_iconst (v := 1) hx hb dX0_longestSpan_79 (by decide) ?_
          refine pc_Vl (As := [.long v1, .long r5, .int 1]) (rest := []) ⟨hx, hb, hml, hown, hts⟩ (mX0_nextSecond l D cJ h0 a1 a2 a3 a4 a5 a6 tC tS u v1 r5 1 _) (cwV 3 hts gX0_longestSpan_X0_nextSecond rfl rfl rfl (by decide +kernel) ⟨Nat.le_of_ble_eq_true rfl, Nat.le_of_ble_eq_true rfl⟩) (wX_rc hW) wX_bl (wX_in hW hw) rfl hl.1 rfl (Nat.le_of_ble_eq_true rfl) dX0_longestSpan_80 ⟨Nat.le_of_ble_eq_true rfl, Nat.le_of_ble_eq_true rfl⟩ (fun r8 hw => ?_)
          refine lv_lstore (lv' := [(11, .long r8), (7, .long v11), (9, .long (r5 - v11)), (14, .long r5), (0, .ref h0), (1, .long v1), (3, .long v3), (5, .long v5), (13, .int v13)]) hx hb dX0_longestSpan_83 hl (by decide) rfl (fun ls hl => ?_)
          refine lv_iinc (v := (v13 + 1)) (lv' := [(13, .int (v13 + 1)), (11, .long r8), (7, .long v11), (9, .long (r5 - v11)), (14, .long r5), (0, .ref h0), (1, .long v1), (3, .long v3), (5, .long v5)]) hx hb dX0_longestSpan_85 hl (k := 8) rfl (by first | rfl | exact congrArg (fun z => v13 + z) (by decide)) (by decide) rfl (fun ls hl => ?_)
          refine lv_goto (tgt := 27) hx hb dX0_longestSpan_88 (by decide) ?_
          exact ih v11 (r5 - v11) r8 (v13 + 1) ls (lv_sub hl [5, 6, 7, 8, 2, 3, 1, 0] rfl) hw
set_option maxHeartbeats 4000000 in
set_option maxRecDepth 100000 in
theorem mX0_longestSpan (l : Launch) (D : va_G) (cJ : ClassId) (h0 a1 a2 a3 a4 a5 a6 tC tS : Nat) (u : XS) (v1 : Int64) (v3 : Int64) (post : Int64 → Prop) : Met l yX0_longestSpan wsX0_longestSpan ({ frames := 5, cells := 0, slots := 0, locals := 143 } : Room) (va_Pc [.ref h0, .long v1, .long v3] (fun U => XW D cJ h0 a1 a2 a3 a4 a5 a6 tC tS u U U.heap ∧ wX0_longestSpan post u v1 v3)) (vp_Sl post) 0 0 nA := by
  refine Met.ofW (cc := cX0_longestSpan) (maxL := 16) (ret := (some .long)) (by decide +kernel) rfl ?_
  intro p e s m args below meth c s₁ B hml hv
  obtain ⟨rfl, hW, hw⟩ := hv
  have hx := B.exec
  have hb := B.bytes
  have hr := B.returns
  have hts := atoms_spec (ws := wsX0_longestSpan) B.pre
  have hown : s.vm.findClass RX0 = some m.cls := findClass_of_methodNamed B.named
  have hlocks := B.notSynchronized
  have hin : ∀ w ∈ u_ws RX0 TX0 9, w ∈ wsX0_longestSpan := by decide +kernel
  have hl := lv_entry ([.ref h0, .long v1, .long v3]) (n := 16) (Nat.le_of_ble_eq_true rfl)
  rw [lg_entry_eq]
  generalize (lg_sl ([.ref h0, .long v1, .long v3]) ++ List.replicate (16 - (lg_sl ([.ref h0, .long v1, .long v3])).length) Slot.unset).toArray = ls at hl ⊢
  have hl : lv_has ls 16 [(0, .ref h0), (1, .long v1), (3, .long v3)] := hl
  unfold wX0_longestSpan at hw
  refine lv_aload_n hx hb dX0_longestSpan_0 rfl (lv_at hl 0 rfl) ?_
  refine pc_Vl (As := []) (rest := []) ⟨hx, hb, hml, hown, hts⟩ (mX0_lastSecond l D cJ h0 a1 a2 a3 a4 a5 a6 tC tS u _) (cwV 0 hts gX0_longestSpan_X0_lastSecond rfl rfl rfl (by decide +kernel) ⟨Nat.le_of_ble_eq_true rfl, Nat.le_of_ble_eq_true rfl⟩) (wX_rc hW) wX_bl (wX_in hW hw) rfl hl.1 rfl (Nat.le_of_ble_eq_true rfl) dX0_longestSpan_1 ⟨Nat.le_of_ble_eq_true rfl, Nat.le_of_ble_eq_true rfl⟩ (fun r1 hw => ?_)
  refine lv_lstore (lv' := [(5, .long r1), (0, .ref h0), (1, .long v1), (3, .long v3)]) hx hb dX0_longestSpan_4 hl (by decide) rfl (fun ls hl => ?_)
  refine lv_lload hx hb dX0_longestSpan_6 (lv_at hl 0 rfl) ?_
  refine lv_lconst (v := 1) hx hb dX0_longestSpan_8 (by decide) ?_
  refine lv_ladd hx hb dX0_longestSpan_9 ?_
  refine lv_lstore (lv' := [(7, .long (r1 + 1)), (5, .long r1), (0, .ref h0), (1, .long v1), (3, .long v3)]) hx hb dX0_longestSpan_10 hl (by decide) rfl (fun ls hl => ?_)
  refine lv_lconst (v := 0) hx hb dX0_longestSpan_12 (by decide) ?_
  refine lv_lstore (lv' := [(9, .long 0), (7, .long (r1 + 1)), (5, .long r1), (0, .ref h0), (1, .long v1), (3, .long v3)]) hx hb dX0_longestSpan_13 hl (by decide) rfl (fun ls hl => ?_)
  refine lv_aload_n hx hb dX0_longestSpan_15 rfl (lv_at hl 3 rfl) ?_
  refine lv_lload_n hx hb dX0_longestSpan_16 rfl (lv_at hl 4 rfl) ?_
  refine lv_lload_n hx hb dX0_longestSpan_17 rfl (lv_at hl 5 rfl) ?_
  refine lv_iconst (v := 1) hx hb dX0_longestSpan_18 (by decide) ?_
  refine pc_Vl (As := [.long v1, .long v3, .int 1]) (rest := []) ⟨hx, hb, hml, hown, hts⟩ (mX0_nextSecond l D cJ h0 a1 a2 a3 a4 a5 a6 tC tS u v1 v3 1 _) (cwV 3 hts gX0_longestSpan_X0_nextSecond rfl rfl rfl (by decide +kernel) ⟨Nat.le_of_ble_eq_true rfl, Nat.le_of_ble_eq_true rfl⟩) (wX_rc hW) wX_bl (wX_in hW hw) rfl hl.1 rfl (Nat.le_of_ble_eq_true rfl) dX0_longestSpan_19 ⟨Nat.le_of_ble_eq_true rfl, Nat.le_of_ble_eq_true rfl⟩ (fun r2 hw => ?_)
  refine lv_lstore (lv' := [(11, .long r2), (9, .long 0), (7, .long (r1 + 1)), (5, .long r1), (0, .ref h0), (1, .long v1), (3, .long v3)]) hx hb dX0_longestSpan_22 hl (by decide) rfl (fun ls hl => ?_)
  refine lv_iconst (v := 0) hx hb dX0_longestSpan_24 (by decide) ?_
  refine lv_istore (lv' := [(13, .int 0), (11, .long r2), (9, .long 0), (7, .long (r1 + 1)), (5, .long r1), (0, .ref h0), (1, .long v1), (3, .long v3)]) hx hb dX0_longestSpan_25 hl (by decide) rfl (fun ls hl => ?_)
  obtain ⟨n9, hw⟩ := hw
  exact kX0_longestSpan_L27 hx hb hr hml hown hlocks hts hin hW v1 v3 r1 n9 (r1 + 1) 0 r2 0 ls (lv_sub hl [5, 6, 7, 4, 3, 2, 1, 0] rfl) hw

def wX0_firstSailing_L28 (post : Int64 → Prop) (u : XS) (ex : Int64 → Int32 → Prop) (v1 : Int64) (v3 : Int64) (v7 : Int64) : Nat → Int64 → Int32 → Prop
  | 0, _, _ => False
  | n + 1, v9, v14 => (((xNP u) ≤ v14 → (ex v9 v14)) ∧ (¬ (xNP u) ≤ v14 → (vp_in v14 12 ∧ (wX0_secondsFor (fun r5 => (vp_in v14 12 ∧ (wX0_nextSecond (fun r7 => ((r7 ≤ v7 → (wX0_firstSailing_L28 post u ex v1 v3 v7 n (r7 - r5) (v14 + 1))) ∧ (¬ r7 ≤ v7 → (post (v7 + 1))))) u (v1 - ((xPB u) (v14).toNatClampNeg)) (v9 + r5) 1))) ((xPW u) (v14).toNatClampNeg) v3))))
def wX0_firstSailing_L13 (post : Int64 → Prop) (u : XS) (v1 : Int64) (v3 : Int64) (v7 : Int64) : Nat → Int64 → Int32 → Prop
  | 0, _, _ => False
  | n + 1, v9, v11 => ((20000 < v11 → (post (v7 + 1))) ∧ (¬ 20000 < v11 → (∃ n9 : Nat, wX0_firstSailing_L28 post u (fun (x10 : Int64) (x11 : Int32) => ((x10 = v9 → (post x10)) ∧ (¬ x10 = v9 → (wX0_firstSailing_L13 post u v1 v3 v7 n x10 (v11 + 1))))) v1 v3 v7 n9 v9 0)))
def wX0_firstSailing (post : Int64 → Prop) (u : XS) (v1 : Int64) (v3 : Int64) (v5 : Int64) : Prop := (wX0_lastSecond (fun r1 => (∃ n13 : Nat, wX0_firstSailing_L13 post u v1 v3 r1 n13 v5 0)) u)
set_option maxHeartbeats 4000000 in
set_option maxRecDepth 100000 in
theorem kX0_firstSailing_L28 {p : Program} {l : Launch} {e : Env} {s : State} {m : MethodId} {args : Array Value} {below : List Frame} {meth : Method} {c : Code} {D : va_G} {cJ : ClassId} {h0 a1 a2 a3 a4 a5 a6 tC tS : Nat} {u : XS} {post : Int64 → Prop} (hx : p.tables.exec = Jvm.exec) (hb : c.code = cX0_firstSailing) (hr : meth.sig.returnType = (some .long)) (hml : c.maxLocals = 19) (hown : s.vm.findClass RX0 = some m.cls) (hlocks : meth.locks = false) (hts : ∀ w ∈ wsX0_firstSailing, w.before args s = true) (hin : ∀ w ∈ u_ws RX0 TX0 9, w ∈ wsX0_firstSailing) (hW : XW D cJ h0 a1 a2 a3 a4 a5 a6 tC tS u s s.heap) {ex : Int64 → Int32 → Prop} (v1 : Int64) (v3 : Int64) (v5 : Int64) (v7 : Int64) (v11 : Int32) (v12 : Int64) (hex : ∀ (v9 : Int64) (v14 : Int32) (ls : Array Slot), lv_has ls 19 [(0, .ref h0), (1, .long v1), (3, .long v3), (5, .long v5), (7, .long v7), (9, .long v9), (11, .int v11), (12, .long v12), (14, .int v14)] → ex v9 v14 → W p l e ({ frames := 5, cells := 0, slots := 0, locals := 143 } : Room) s m args below meth c s.heap [] 0 0 (MQ below (vp_Sl post) args s 0 0 nA) (F0 m 97 ls [])) : ∀ (n : Nat) (v9 : Int64) (v14 : Int32) (ls : Array Slot), lv_has ls 19 [(0, .ref h0), (1, .long v1), (3, .long v3), (5, .long v5), (7, .long v7), (9, .long v9), (11, .int v11), (12, .long v12), (14, .int v14)] → wX0_firstSailing_L28 post u ex v1 v3 v7 n v9 v14 → W p l e ({ frames := 5, cells := 0, slots := 0, locals := 143 } : Room) s m args below meth c s.heap [] 0 0 (MQ below (vp_Sl post) args s 0 0 nA) (F0 m 28 ls []) := by
  intro n
  induction n with
  | zero =>
    intro v9 v14 ls hl hw
    exact hw.elim
  | succ n ih =>
    intro v9 v14 ls hl hw
    rw [wX0_firstSailing_L28] at hw
    refine lv_iload hx hb dX0_firstSailing_28 (lv_at hl 8 rfl) ?_
    refine lv_aload_n hx hb dX0_firstSailing_30 rfl (lv_at hl 0 rfl) ?_
    refine va_get (D := D) (ci := 0) (v := .int (xNP u)) (C := RX0) (T := TX0) (N := 9) hx hb hts hin hown hW.2.1 hW.1 0 rfl rfl 8 (by decide) (hts (.fieldLink RX0 35 "TideDepths" "places" "I") (by decide +kernel)) (fun _ h9 => h9) rfl dX0_firstSailing_31 ?_
    refine lv_icmp_ge (tgt := 97) hx hb dX0_firstSailing_34 (by decide) (fun c3 => ?_) (fun c3 => ?_)
    · have hw := hw.1 c3
      exact hex v9 v14 ls (lv_sub hl [0, 1, 2, 3, 4, 5, 6, 7, 8] rfl) hw
    · have hw := hw.2 c3
      refine lv_aload_n hx hb dX0_firstSailing_37 rfl (lv_at hl 0 rfl) ?_
      refine va_get (D := D) (ci := 0) (v := .ref a5) (C := RX0) (T := TX0) (N := 9) hx hb hts hin hown hW.2.1 hW.1 0 rfl rfl 6 (by decide) (hts (.fieldLink RX0 29 "TideDepths" "ways" "[J") (by decide +kernel)) (fun _ h9 => h9) rfl dX0_firstSailing_38 ?_
      refine lv_iload hx hb dX0_firstSailing_41 (lv_at hl 8 rfl) ?_
      obtain ⟨h4, hw⟩ := hw
      refine va_lald hx hb hW.2.1 hW.1 5 0 rfl rfl h4 dX0_firstSailing_43 ?_
      refine lv_lload_n hx hb dX0_firstSailing_44 rfl (lv_at hl 2 rfl) ?_
      refine pc_Sl (As := [.long ((xPW u) (v14).toNatClampNeg), .long v3]) (rest := []) ⟨hx, hb, hml, hown, hts⟩ (mX0_secondsFor l ((xPW u) (v14).toNatClampNeg) v3 _) (va_cwS 2 hts gX0_firstSailing_X0_secondsFor rfl rfl rfl (by decide +kernel) ⟨Nat.le_of_ble_eq_true rfl, Nat.le_of_ble_eq_true rfl⟩) wK_bl (fun _ _ _ => hw) rfl hl.1 rfl (Nat.le_of_ble_eq_true rfl) dX0_firstSailing_45 ⟨Nat.le_of_ble_eq_true rfl, Nat.le_of_ble_eq_true rfl⟩ (fun r5 hw => ?_)
      refine lv_lstore (lv' := [(15, .long r5), (0, .ref h0), (1, .long v1), (3, .long v3), (5, .long v5), (7, .long v7), (9, .long v9), (11, .int v11), (12, .long v12), (14, .int v14)]) hx hb dX0_firstSailing_48 hl (by decide) rfl (fun ls hl => ?_)
      refine lv_aload_n hx hb dX0_firstSailing_50 rfl (lv_at hl 1 rfl) ?_
      refine lv_lload_n hx hb dX0_firstSailing_51 rfl (lv_at hl 2 rfl) ?_
      refine lv_aload_n hx hb dX0_firstSailing_52 rfl (lv_at hl 1 rfl) ?_
      refine va_get (D := D) (ci := 0) (v := .ref a6) (C := RX0) (T := TX0) (N := 9) hx hb hts hin hown hW.2.1 hW.1 0 rfl rfl 7 (by decide) (hts (.fieldLink RX0 32 "TideDepths" "bases" "[J") (by decide +kernel)) (fun _ h9 => h9) rfl dX0_firstSailing_53 ?_
      refine lv_iload hx hb dX0_firstSailing_56 (lv_at hl 9 rfl) ?_
      obtain ⟨h6, hw⟩ := hw
      refine va_lald hx hb hW.2.1 hW.1 6 0 rfl rfl h6 dX0_firstSailing_58 ?_
      refine lv_lsub hx hb dX0_firstSailing_59 ?_
      refine lv_lload hx hb dX0_firstSailing_60 (lv_at hl 6 rfl) ?_
      refine lv_lload hx hb dX0_firstSailing_62 (lv_at hl 0 rfl) ?_
      refine lv_ladd hx hb dX0_firstSailing_64 ?_
      refine lv_iconst (v := 1) hx hb dX0_firstSailing_65 (by decide) ?_
      refine pc_Vl (As := [.long (v1 - ((xPB u) (v14).toNatClampNeg)), .long (v9 + r5), .int 1]) (rest := []) ⟨hx, hb, hml, hown, hts⟩ (mX0_nextSecond l D cJ h0 a1 a2 a3 a4 a5 a6 tC tS u (v1 - ((xPB u) (v14).toNatClampNeg)) (v9 + r5) 1 _) (cwV 3 hts gX0_firstSailing_X0_nextSecond rfl rfl rfl (by decide +kernel) ⟨Nat.le_of_ble_eq_true rfl, Nat.le_of_ble_eq_true rfl⟩) (wX_rc hW) wX_bl (wX_in hW hw) rfl hl.1 rfl (Nat.le_of_ble_eq_true rfl) dX0_firstSailing_66 ⟨Nat.le_of_ble_eq_true rfl, Nat.le_of_ble_eq_true rfl⟩ (fun r7 hw => ?_)
      refine lv_lstore (lv' := [(17, .long r7), (15, .long r5), (0, .ref h0), (1, .long v1), (3, .long v3), (5, .long v5), (7, .long v7), (9, .long v9), (11, .int v11), (12, .long v12), (14, .int v14)]) hx hb dX0_firstSailing_69 hl (by decide) rfl (fun ls hl => ?_)
      refine lv_lload hx hb dX0_firstSailing_71 (lv_at hl 0 rfl) ?_
      refine lv_lload hx hb dX0_firstSailing_73 (lv_at hl 6 rfl) ?_
      refine bl_le (tgt := 84) hx hb dX0_firstSailing_75 dX0_firstSailing_76 (by decide) (fun c8 => ?_) (fun c8 => ?_)
      · have hw := hw.1 c8
        refine lv_lload hx hb dX0_firstSailing_84 (lv_at hl 0 rfl) ?_
        refine lv_lload hx hb dX0_firstSailing_86 (lv_at hl 1 rfl) ?_
        refine lv_lsub hx hb dX0_firstSailing_88 ?_
        refine lv_lstore (lv' := [(9, .long (r7 - r5)), (17, .long r7), (15, .long r5), (0, .ref h0), (1, .long v1), (3, .long v3), (5, .long v5), (7, .long v7), (11, .int v11), (12, .long v12), (14, .int v14)]) hx hb dX0_firstSailing_89 hl (by decide) rfl (fun ls hl => ?_)
        refine lv_iinc (v := (v14 + 1)) (lv' := [(14, .int (v14 + 1)), (9, .long (r7 - r5)), (17, .long r7), (15, .long r5), (0, .ref h0), (1, .long v1), (3, .long v3), (5, .long v5), (7, .long v7), (11, .int v11), (12, .long v12)]) hx hb dX0_firstSailing_91 hl (k := 10) rfl (by first | rfl | exact congrArg (fun z => v14 + z) (by decide)) (by decide) rfl (fun ls hl => ?_)
        refine lv_goto (tgt := 28) hx hb dX0_firstSailing_94 (by decide) ?_
        exact ih (r7 - r5) (v14 + 1) ls (lv_sub hl [4, 5, 6, 7, 8, 1, 9, 10, 0] rfl) hw
      · have hw := hw.2 c8
        refine lv_lload hx hb dX0_firstSailing_79 (lv_at hl 6 rfl) ?_
        refine lv_lconst (v := 1) hx hb dX0_firstSailing_81 (by decide) ?_
        refine lv_ladd hx hb dX0_firstSailing_82 ?_
        exact W.lret (v := (v7 + 1)) hx hb hr (fun t ht hWm => ⟨_, rfl, hw, ht⟩) t_nil dX0_firstSailing_83
set_option maxHeartbeats 4000000 in
set_option maxRecDepth 100000 in
theorem kX0_firstSailing_L13 {p : Program} {l : Launch} {e : Env} {s : State} {m : MethodId} {args : Array Value} {below : List Frame} {meth : Method} {c : Code} {D : va_G} {cJ : ClassId} {h0 a1 a2 a3 a4 a5 a6 tC tS : Nat} {u : XS} {post : Int64 → Prop} (hx : p.tables.exec = Jvm.exec) (hb : c.code = cX0_firstSailing) (hr : meth.sig.returnType = (some .long)) (hml : c.maxLocals = 19) (hown : s.vm.findClass RX0 = some m.cls) (hlocks : meth.locks = false) (hts : ∀ w ∈ wsX0_firstSailing, w.before args s = true) (hin : ∀ w ∈ u_ws RX0 TX0 9, w ∈ wsX0_firstSailing) (hW : XW D cJ h0 a1 a2 a3 a4 a5 a6 tC tS u s s.heap) (v1 : Int64) (v3 : Int64) (v5 : Int64) (v7 : Int64) : ∀ (n : Nat) (v9 : Int64) (v11 : Int32) (ls : Array Slot), lv_has ls 19 [(0, .ref h0), (1, .long v1), (3, .long v3), (5, .long v5), (7, .long v7), (9, .long v9), (11, .int v11)] → wX0_firstSailing_L13 post u v1 v3 v7 n v9 v11 → W p l e ({ frames := 5, cells := 0, slots := 0, locals := 143 } : Room) s m args below meth c s.heap [] 0 0 (MQ below (vp_Sl post) args s 0 0 nA) (F0 m 13 ls []) := by
  intro n
  induction n with
  | zero =>
    intro v9 v11 ls hl hw
    exact hw.elim
  | succ n ih =>
    intro v9 v11 ls hl hw
    rw [wX0_firstSailing_L13] at hw
    refine lv_iload hx hb dX0_firstSailing_13 (lv_at hl 6 rfl) ?_
    refine lv_sipush (v := 20000) hx hb dX0_firstSailing_15 (by decide) ?_
    refine lv_icmp_gt (tgt := 114) hx hb dX0_firstSailing_18 (by decide) (fun c2 => ?_) (fun c2 => ?_)
    · have hw := hw.1 c2
      refine lv_lload hx hb dX0_firstSailing_114 (lv_at hl 4 rfl) ?_
      refine lv_lconst (v := 1) hx hb dX0_firstSailing_116 (by decide) ?_
      refine lv_ladd hx hb dX0_firstSailing_117 ?_
      exact W.lret (v := (v7 + 1)) hx hb hr (fun t ht hWm => ⟨_, rfl, hw, ht⟩) t_nil dX0_firstSailing_118
    · have hw := hw.2 c2
      refine lv_lload hx hb dX0_firstSailing_21 (lv_at hl 5 rfl) ?_
      refine lv_lstore (lv' := [(12, .long v9), (0, .ref h0), (1, .long v1), (3, .long v3), (5, .long v5), (7, .long v7), (9, .long v9), (11, .int v11)]) hx hb dX0_firstSailing_23 hl (by decide) rfl (fun ls hl => ?_)
      refine lv_iconst (v := 0) hx hb dX0_firstSailing_25 (by decide) ?_
      refine lv_istore (lv' := [(14, .int 0), (12, .long v9), (0, .ref h0), (1, .long v1), (3, .long v3), (5, .long v5), (7, .long v7), (9, .long v9), (11, .int v11)]) hx hb dX0_firstSailing_26 hl (by decide) rfl (fun ls hl => ?_)
      obtain ⟨n9, hw⟩ := hw
      refine kX0_firstSailing_L28 hx hb hr hml hown hlocks hts hin hW v1 v3 v5 v7 v11 v9 (fun x10 x11 ls hl hw => ?_) n9 v9 0 ls (lv_sub hl [2, 3, 4, 5, 6, 7, 8, 1, 0] rfl) hw
      refine lv_lload hx hb dX0_firstSailing_97 (lv_at hl 5 rfl) ?_
      refine lv_lload hx hb dX0_firstSailing_99 (lv_at hl 7 rfl) ?_
      refine bl_ne (tgt := 108) hx hb dX0_firstSailing_101 dX0_firstSailing_102 (by decide) (fun c12 => ?_) (fun c12 => ?_)
      · have hw := hw.2 c12
        refine lv_iinc (v := (v11 + 1)) (lv' := [(11, .int (v11 + 1)), (0, .ref h0), (1, .long v1), (3, .long v3), (5, .long v5), (7, .long v7), (9, .long x10), (12, .long v9), (14, .int x11)]) hx hb dX0_firstSailing_108 hl (k := 6) rfl (by first | rfl | exact congrArg (fun z => v11 + z) (by decide)) (by decide) rfl (fun ls hl => ?_)
        refine lv_goto (tgt := 13) hx hb dX0_firstSailing_111 (by decide) ?_
        exact ih x10 (v11 + 1) ls (lv_sub hl [1, 2, 3, 4, 5, 6, 0] rfl) hw
      · have hw := hw.1 c12
        refine lv_lload hx hb dX0_firstSailing_105 (lv_at hl 5 rfl) ?_
        exact W.lret (v := x10) hx hb hr (fun t ht hWm => ⟨_, rfl, hw, ht⟩) t_nil dX0_firstSailing_107
set_option maxHeartbeats 4000000 in
set_option maxRecDepth 100000 in
theorem mX0_firstSailing (l : Launch) (D : va_G) (cJ : ClassId) (h0 a1 a2 a3 a4 a5 a6 tC tS : Nat) (u : XS) (v1 : Int64) (v3 : Int64) (v5 : Int64) (post : Int64 → Prop) : Met l yX0_firstSailing wsX0_firstSailing ({ frames := 5, cells := 0, slots := 0, locals := 143 } : Room) (va_Pc [.ref h0, .long v1, .long v3, .long v5] (fun U => XW D cJ h0 a1 a2 a3 a4 a5 a6 tC tS u U U.heap ∧ wX0_firstSailing post u v1 v3 v5)) (vp_Sl post) 0 0 nA := by
  refine Met.ofW (cc := cX0_firstSailing) (maxL := 19) (ret := (some .long)) (by decide +kernel) rfl ?_
  intro p e s m args below meth c s₁ B hml hv
  obtain ⟨rfl, hW, hw⟩ := hv
  have hx := B.exec
  have hb := B.bytes
  have hr := B.returns
  have hts := atoms_spec (ws := wsX0_firstSailing) B.pre
  have hown : s.vm.findClass RX0 = some m.cls := findClass_of_methodNamed B.named
  have hlocks := B.notSynchronized
  have hin : ∀ w ∈ u_ws RX0 TX0 9, w ∈ wsX0_firstSailing := by decide +kernel
  have hl := lv_entry ([.ref h0, .long v1, .long v3, .long v5]) (n := 19) (Nat.le_of_ble_eq_true rfl)
  rw [lg_entry_eq]
  generalize (lg_sl ([.ref h0, .long v1, .long v3, .long v5]) ++ List.replicate (19 - (lg_sl ([.ref h0, .long v1, .long v3, .long v5])).length) Slot.unset).toArray = ls at hl ⊢
  have hl : lv_has ls 19 [(0, .ref h0), (1, .long v1), (3, .long v3), (5, .long v5)] := hl
  unfold wX0_firstSailing at hw
  refine lv_aload_n hx hb dX0_firstSailing_0 rfl (lv_at hl 0 rfl) ?_
  refine pc_Vl (As := []) (rest := []) ⟨hx, hb, hml, hown, hts⟩ (mX0_lastSecond l D cJ h0 a1 a2 a3 a4 a5 a6 tC tS u _) (cwV 0 hts gX0_firstSailing_X0_lastSecond rfl rfl rfl (by decide +kernel) ⟨Nat.le_of_ble_eq_true rfl, Nat.le_of_ble_eq_true rfl⟩) (wX_rc hW) wX_bl (wX_in hW hw) rfl hl.1 rfl (Nat.le_of_ble_eq_true rfl) dX0_firstSailing_1 ⟨Nat.le_of_ble_eq_true rfl, Nat.le_of_ble_eq_true rfl⟩ (fun r1 hw => ?_)
  refine lv_lstore (lv' := [(7, .long r1), (0, .ref h0), (1, .long v1), (3, .long v3), (5, .long v5)]) hx hb dX0_firstSailing_4 hl (by decide) rfl (fun ls hl => ?_)
  refine lv_lload hx hb dX0_firstSailing_6 (lv_at hl 4 rfl) ?_
  refine lv_lstore (lv' := [(9, .long v5), (7, .long r1), (0, .ref h0), (1, .long v1), (3, .long v3), (5, .long v5)]) hx hb dX0_firstSailing_8 hl (by decide) rfl (fun ls hl => ?_)
  refine lv_iconst (v := 0) hx hb dX0_firstSailing_10 (by decide) ?_
  refine lv_istore (lv' := [(11, .int 0), (9, .long v5), (7, .long r1), (0, .ref h0), (1, .long v1), (3, .long v3), (5, .long v5)]) hx hb dX0_firstSailing_11 hl (by decide) rfl (fun ls hl => ?_)
  obtain ⟨n13, hw⟩ := hw
  exact kX0_firstSailing_L13 hx hb hr hml hown hlocks hts hin hW v1 v3 v5 r1 n13 v5 0 ls (lv_sub hl [3, 4, 5, 6, 2, 1, 0] rfl) hw

def wX0_lastSailing_L9 (post : Int64 → Prop) (u : XS) (v1 : Int64) (v3 : Int64) (v5 : Int64) : Nat → Int64 → Int32 → Prop
  | 0, _, _ => False
  | n + 1, v7, v9 => (((xNP u) ≤ v9 → (post v7)) ∧ (¬ (xNP u) ≤ v9 → (vp_in v9 12 ∧ (wX0_secondsFor (fun r4 => (vp_in v9 12 ∧ (wX0_nextSecond (fun r6 => (wX0_lastSailing_L9 post u v1 v3 v5 n (if ((r6 - 1) - r4) < v7 then ((r6 - 1) - r4) else v7) (v9 + 1))) u (v1 - ((xPB u) (v9).toNatClampNeg)) (v5 + r4) 0))) ((xPW u) (v9).toNatClampNeg) v3))))
def wX0_lastSailing (post : Int64 → Prop) (u : XS) (v1 : Int64) (v3 : Int64) (v5 : Int64) : Prop := (wX0_lastSecond (fun r1 => (∃ n7 : Nat, wX0_lastSailing_L9 post u v1 v3 v5 n7 r1 0)) u)
set_option maxHeartbeats 4000000 in
set_option maxRecDepth 100000 in
theorem kX0_lastSailing_L9 {p : Program} {l : Launch} {e : Env} {s : State} {m : MethodId} {args : Array Value} {below : List Frame} {meth : Method} {c : Code} {D : va_G} {cJ : ClassId} {h0 a1 a2 a3 a4 a5 a6 tC tS : Nat} {u : XS} {post : Int64 → Prop} (hx : p.tables.exec = Jvm.exec) (hb : c.code = cX0_lastSailing) (hr : meth.sig.returnType = (some .long)) (hml : c.maxLocals = 14) (hown : s.vm.findClass RX0 = some m.cls) (hlocks : meth.locks = false) (hts : ∀ w ∈ wsX0_lastSailing, w.before args s = true) (hin : ∀ w ∈ u_ws RX0 TX0 9, w ∈ wsX0_lastSailing) (hW : XW D cJ h0 a1 a2 a3 a4 a5 a6 tC tS u s s.heap) (v1 : Int64) (v3 : Int64) (v5 : Int64) : ∀ (n : Nat) (v7 : Int64) (v9 : Int32) (ls : Array Slot), lv_has ls 14 [(0, .ref h0), (1, .long v1), (3, .long v3), (5, .long v5), (7, .long v7), (9, .int v9)] → wX0_lastSailing_L9 post u v1 v3 v5 n v7 v9 → W p l e ({ frames := 5, cells := 0, slots := 0, locals := 143 } : Room) s m args below meth c s.heap [] 0 0 (MQ below (vp_Sl post) args s 0 0 nA) (F0 m 9 ls []) := by
  intro n
  induction n with
  | zero =>
    intro v7 v9 ls hl hw
    exact hw.elim
  | succ n ih =>
    intro v7 v9 ls hl hw
    rw [wX0_lastSailing_L9] at hw
    refine lv_iload hx hb dX0_lastSailing_9 (lv_at hl 5 rfl) ?_
    refine lv_aload_n hx hb dX0_lastSailing_11 rfl (lv_at hl 0 rfl) ?_
    refine va_get (D := D) (ci := 0) (v := .int (xNP u)) (C := RX0) (T := TX0) (N := 9) hx hb hts hin hown hW.2.1 hW.1 0 rfl rfl 8 (by decide) (hts (.fieldLink RX0 35 "TideDepths" "places" "I") (by decide +kernel)) (fun _ h9 => h9) rfl dX0_lastSailing_12 ?_
    refine lv_icmp_ge (tgt := 72) hx hb dX0_lastSailing_15 (by decide) (fun c2 => ?_) (fun c2 => ?_)
    · have hw := hw.1 c2
      refine lv_lload hx hb dX0_lastSailing_72 (lv_at hl 4 rfl) ?_
      exact W.lret (v := v7) hx hb hr (fun t ht hWm => ⟨_, rfl, hw, ht⟩) t_nil dX0_lastSailing_74
    · have hw := hw.2 c2
      refine lv_aload_n hx hb dX0_lastSailing_18 rfl (lv_at hl 0 rfl) ?_
      refine va_get (D := D) (ci := 0) (v := .ref a5) (C := RX0) (T := TX0) (N := 9) hx hb hts hin hown hW.2.1 hW.1 0 rfl rfl 6 (by decide) (hts (.fieldLink RX0 29 "TideDepths" "ways" "[J") (by decide +kernel)) (fun _ h9 => h9) rfl dX0_lastSailing_19 ?_
      refine lv_iload hx hb dX0_lastSailing_22 (lv_at hl 5 rfl) ?_
      obtain ⟨h3, hw⟩ := hw
      refine va_lald hx hb hW.2.1 hW.1 5 0 rfl rfl h3 dX0_lastSailing_24 ?_
      refine lv_lload_n hx hb dX0_lastSailing_25 rfl (lv_at hl 2 rfl) ?_
      refine pc_Sl (As := [.long ((xPW u) (v9).toNatClampNeg), .long v3]) (rest := []) ⟨hx, hb, hml, hown, hts⟩ (mX0_secondsFor l ((xPW u) (v9).toNatClampNeg) v3 _) (va_cwS 2 hts gX0_lastSailing_X0_secondsFor rfl rfl rfl (by decide +kernel) ⟨Nat.le_of_ble_eq_true rfl, Nat.le_of_ble_eq_true rfl⟩) wK_bl (fun _ _ _ => hw) rfl hl.1 rfl (Nat.le_of_ble_eq_true rfl) dX0_lastSailing_26 ⟨Nat.le_of_ble_eq_true rfl, Nat.le_of_ble_eq_true rfl⟩ (fun r4 hw => ?_)
      refine lv_lstore (lv' := [(10, .long r4), (0, .ref h0), (1, .long v1), (3, .long v3), (5, .long v5), (7, .long v7), (9, .int v9)]) hx hb dX0_lastSailing_29 hl (by decide) rfl (fun ls hl => ?_)
      refine lv_aload_n hx hb dX0_lastSailing_31 rfl (lv_at hl 1 rfl) ?_
      refine lv_lload_n hx hb dX0_lastSailing_32 rfl (lv_at hl 2 rfl) ?_
      refine lv_aload_n hx hb dX0_lastSailing_33 rfl (lv_at hl 1 rfl) ?_
      refine va_get (D := D) (ci := 0) (v := .ref a6) (C := RX0) (T := TX0) (N := 9) hx hb hts hin hown hW.2.1 hW.1 0 rfl rfl 7 (by decide) (hts (.fieldLink RX0 32 "TideDepths" "bases" "[J") (by decide +kernel)) (fun _ h9 => h9) rfl dX0_lastSailing_34 ?_
      refine lv_iload hx hb dX0_lastSailing_37 (lv_at hl 6 rfl) ?_
      obtain ⟨h5, hw⟩ := hw
      refine va_lald hx hb hW.2.1 hW.1 6 0 rfl rfl h5 dX0_lastSailing_39 ?_
      refine lv_lsub hx hb dX0_lastSailing_40 ?_
      refine lv_lload hx hb dX0_lastSailing_41 (lv_at hl 4 rfl) ?_
      refine lv_lload hx hb dX0_lastSailing_43 (lv_at hl 0 rfl) ?_
      refine lv_ladd hx hb dX0_lastSailing_45 ?_
      refine lv_iconst (v := 0) hx hb dX0_lastSailing_46 (by decide) ?_
      refine pc_Vl (As := [.long (v1 - ((xPB u) (v9).toNatClampNeg)), .long (v5 + r4), .int 0]) (rest := []) ⟨hx, hb, hml, hown, hts⟩ (mX0_nextSecond l D cJ h0 a1 a2 a3 a4 a5 a6 tC tS u (v1 - ((xPB u) (v9).toNatClampNeg)) (v5 + r4) 0 _) (cwV 3 hts gX0_lastSailing_X0_nextSecond rfl rfl rfl (by decide +kernel) ⟨Nat.le_of_ble_eq_true rfl, Nat.le_of_ble_eq_true rfl⟩) (wX_rc hW) wX_bl (wX_in hW hw) rfl hl.1 rfl (Nat.le_of_ble_eq_true rfl) dX0_lastSailing_47 ⟨Nat.le_of_ble_eq_true rfl, Nat.le_of_ble_eq_true rfl⟩ (fun r6 hw => ?_)
      refine lv_lstore (lv' := [(12, .long r6), (10, .long r4), (0, .ref h0), (1, .long v1), (3, .long v3), (5, .long v5), (7, .long v7), (9, .int v9)]) hx hb dX0_lastSailing_50 hl (by decide) rfl (fun ls hl => ?_)
      refine lv_lload hx hb dX0_lastSailing_52 (lv_at hl 6 rfl) ?_
      refine lv_lload hx hb dX0_lastSailing_54 (lv_at hl 0 rfl) ?_
      refine lv_lconst (v := 1) hx hb dX0_lastSailing_56 (by decide) ?_
      refine lv_lsub hx hb dX0_lastSailing_57 ?_
      refine lv_lload hx hb dX0_lastSailing_58 (lv_at hl 1 rfl) ?_
      refine lv_lsub hx hb dX0_lastSailing_60 ?_
      refine va_mmin_long hx hb (hml.trans hl.1.symm) hown (hts (.methodLink RX0 218 Lib.MathLoose.min_long.x) (by decide +kernel)) (hts (.static Lib.MathLoose.min_long.x) (by decide +kernel)) (hts (.initialized "java/lang/Math") (by decide +kernel)) (hts (.code Lib.MathLoose.min_long.x Lib.MathLoose.min_long.code 4 (some .long)) (by decide +kernel)) (Nat.le_of_ble_eq_true rfl) (Nat.le_of_ble_eq_true rfl) (Nat.le_of_ble_eq_true rfl) (Nat.le_of_ble_eq_true rfl) dX0_lastSailing_61 ?_
      refine lv_lstore (lv' := [(7, .long (if ((r6 - 1) - r4) < v7 then ((r6 - 1) - r4) else v7)), (12, .long r6), (10, .long r4), (0, .ref h0), (1, .long v1), (3, .long v3), (5, .long v5), (9, .int v9)]) hx hb dX0_lastSailing_64 hl (by decide) rfl (fun ls hl => ?_)
      refine lv_iinc (v := (v9 + 1)) (lv' := [(9, .int (v9 + 1)), (7, .long (if ((r6 - 1) - r4) < v7 then ((r6 - 1) - r4) else v7)), (12, .long r6), (10, .long r4), (0, .ref h0), (1, .long v1), (3, .long v3), (5, .long v5)]) hx hb dX0_lastSailing_66 hl (k := 7) rfl (by first | rfl | exact congrArg (fun z => v9 + z) (by decide)) (by decide) rfl (fun ls hl => ?_)
      refine lv_goto (tgt := 9) hx hb dX0_lastSailing_69 (by decide) ?_
      exact ih (if ((r6 - 1) - r4) < v7 then ((r6 - 1) - r4) else v7) (v9 + 1) ls (lv_sub hl [4, 5, 6, 7, 1, 0] rfl) hw
set_option maxHeartbeats 4000000 in
set_option maxRecDepth 100000 in
theorem mX0_lastSailing (l : Launch) (D : va_G) (cJ : ClassId) (h0 a1 a2 a3 a4 a5 a6 tC tS : Nat) (u : XS) (v1 : Int64) (v3 : Int64) (v5 : Int64) (post : Int64 → Prop) : Met l yX0_lastSailing wsX0_lastSailing ({ frames := 5, cells := 0, slots := 0, locals := 143 } : Room) (va_Pc [.ref h0, .long v1, .long v3, .long v5] (fun U => XW D cJ h0 a1 a2 a3 a4 a5 a6 tC tS u U U.heap ∧ wX0_lastSailing post u v1 v3 v5)) (vp_Sl post) 0 0 nA := by
  refine Met.ofW (cc := cX0_lastSailing) (maxL := 14) (ret := (some .long)) (by decide +kernel) rfl ?_
  intro p e s m args below meth c s₁ B hml hv
  obtain ⟨rfl, hW, hw⟩ := hv
  have hx := B.exec
  have hb := B.bytes
  have hr := B.returns
  have hts := atoms_spec (ws := wsX0_lastSailing) B.pre
  have hown : s.vm.findClass RX0 = some m.cls := findClass_of_methodNamed B.named
  have hlocks := B.notSynchronized
  have hin : ∀ w ∈ u_ws RX0 TX0 9, w ∈ wsX0_lastSailing := by decide +kernel
  have hl := lv_entry ([.ref h0, .long v1, .long v3, .long v5]) (n := 14) (Nat.le_of_ble_eq_true rfl)
  rw [lg_entry_eq]
  generalize (lg_sl ([.ref h0, .long v1, .long v3, .long v5]) ++ List.replicate (14 - (lg_sl ([.ref h0, .long v1, .long v3, .long v5])).length) Slot.unset).toArray = ls at hl ⊢
  have hl : lv_has ls 14 [(0, .ref h0), (1, .long v1), (3, .long v3), (5, .long v5)] := hl
  unfold wX0_lastSailing at hw
  refine lv_aload_n hx hb dX0_lastSailing_0 rfl (lv_at hl 0 rfl) ?_
  refine pc_Vl (As := []) (rest := []) ⟨hx, hb, hml, hown, hts⟩ (mX0_lastSecond l D cJ h0 a1 a2 a3 a4 a5 a6 tC tS u _) (cwV 0 hts gX0_lastSailing_X0_lastSecond rfl rfl rfl (by decide +kernel) ⟨Nat.le_of_ble_eq_true rfl, Nat.le_of_ble_eq_true rfl⟩) (wX_rc hW) wX_bl (wX_in hW hw) rfl hl.1 rfl (Nat.le_of_ble_eq_true rfl) dX0_lastSailing_1 ⟨Nat.le_of_ble_eq_true rfl, Nat.le_of_ble_eq_true rfl⟩ (fun r1 hw => ?_)
  refine lv_lstore (lv' := [(7, .long r1), (0, .ref h0), (1, .long v1), (3, .long v3), (5, .long v5)]) hx hb dX0_lastSailing_4 hl (by decide) rfl (fun ls hl => ?_)
  refine lv_iconst (v := 0) hx hb dX0_lastSailing_6 (by decide) ?_
  refine lv_istore (lv' := [(9, .int 0), (7, .long r1), (0, .ref h0), (1, .long v1), (3, .long v3), (5, .long v5)]) hx hb dX0_lastSailing_7 hl (by decide) rfl (fun ls hl => ?_)
  obtain ⟨n7, hw⟩ := hw
  exact kX0_lastSailing_L9 hx hb hr hml hown hlocks hts hin hW v1 v3 v5 n7 r1 0 ls (lv_sub hl [2, 3, 4, 5, 1, 0] rfl) hw

def wX0_count (post : Int32 → Prop) (u : XS) (v1 : Int32) : Prop := ((v1 = 0 → (post (xNT u))) ∧ (¬ v1 = 0 → ((v1 = 1 → (post (xNO u))) ∧ (¬ v1 = 1 → ((v1 = 2 → (post (xNP u))) ∧ (¬ v1 = 2 → ((v1 = 3 → (wX0_firstSecond (fun r2 => (post (r2).toInt32)) u)) ∧ (¬ v1 = 3 → ((v1 = 4 → (wX0_lastSecond (fun r3 => (post (r3).toInt32)) u)) ∧ (¬ v1 = 4 → (post (-1))))))))))))

set_option maxHeartbeats 4000000 in
set_option maxRecDepth 100000 in
theorem mX0_count (l : Launch) (D : va_G) (cJ : ClassId) (h0 a1 a2 a3 a4 a5 a6 tC tS : Nat) (u : XS) (v1 : Int32) (post : Int32 → Prop) : Met l yX0_count wsX0_count ({ frames := 2, cells := 0, slots := 0, locals := 40 } : Room) (va_Pc [.ref h0, .int v1] (fun U => XW D cJ h0 a1 a2 a3 a4 a5 a6 tC tS u U U.heap ∧ wX0_count post u v1)) (vp_Si post) 0 0 nA := by
  refine Met.ofW (cc := cX0_count) (maxL := 2) (ret := (some .int)) (by decide +kernel) rfl ?_
  intro p e s m args below meth c s₁ B hml hv
  obtain ⟨rfl, hW, hw⟩ := hv
  have hx := B.exec
  have hb := B.bytes
  have hr := B.returns
  have hts := atoms_spec (ws := wsX0_count) B.pre
  have hown : s.vm.findClass RX0 = some m.cls := findClass_of_methodNamed B.named
  have hlocks := B.notSynchronized
  have hin : ∀ w ∈ u_ws RX0 TX0 9, w ∈ wsX0_count := by decide +kernel
  have hl := lv_entry ([.ref h0, .int v1]) (n := 2) (Nat.le_of_ble_eq_true rfl)
  rw [lg_entry_eq]
  generalize (lg_sl ([.ref h0, .int v1]) ++ List.replicate (2 - (lg_sl ([.ref h0, .int v1])).length) Slot.unset).toArray = ls at hl ⊢
  have hl : lv_has ls 2 [(0, .ref h0), (1, .int v1)] := hl
  unfold wX0_count at hw
  refine lv_iload_n hx hb dX0_count_0 rfl (lv_at hl 1 rfl) ?_
  by_cases c1_0 : v1 = 0
  · have hw := hw.1 c1_0
    refine lv_tableIn (tgt := 36) hx hb dX0_count_1 (by rw [c1_0]; decide) (by rw [c1_0]; decide) (by rw [c1_0]; rfl) (by decide) ?_
    refine lv_aload_n hx hb dX0_count_36 rfl (lv_at hl 0 rfl) ?_
    refine va_get (D := D) (ci := 0) (v := .int (xNT u)) (C := RX0) (T := TX0) (N := 9) hx hb hts hin hown hW.2.1 hW.1 0 rfl rfl 2 (by decide) (hts (.fieldLink RX0 16 "TideDepths" "turns" "I") (by decide +kernel)) (fun _ h9 => h9) rfl dX0_count_37 ?_
    exact W.iret (v := (xNT u)) hx hb hr (fun t ht hWm => ⟨_, rfl, hw, ht⟩) t_nil dX0_count_40
  have hw := hw.2 c1_0
  by_cases c1_1 : v1 = 1
  · have hw := hw.1 c1_1
    refine lv_tableIn (tgt := 41) hx hb dX0_count_1 (by rw [c1_1]; decide) (by rw [c1_1]; decide) (by rw [c1_1]; rfl) (by decide) ?_
    refine lv_aload_n hx hb dX0_count_41 rfl (lv_at hl 0 rfl) ?_
    refine va_get (D := D) (ci := 0) (v := .int (xNO u)) (C := RX0) (T := TX0) (N := 9) hx hb hts hin hown hW.2.1 hW.1 0 rfl rfl 5 (by decide) (hts (.fieldLink RX0 26 "TideDepths" "observations" "I") (by decide +kernel)) (fun _ h9 => h9) rfl dX0_count_42 ?_
    exact W.iret (v := (xNO u)) hx hb hr (fun t ht hWm => ⟨_, rfl, hw, ht⟩) t_nil dX0_count_45
  have hw := hw.2 c1_1
  by_cases c1_2 : v1 = 2
  · have hw := hw.1 c1_2
    refine lv_tableIn (tgt := 46) hx hb dX0_count_1 (by rw [c1_2]; decide) (by rw [c1_2]; decide) (by rw [c1_2]; rfl) (by decide) ?_
    refine lv_aload_n hx hb dX0_count_46 rfl (lv_at hl 0 rfl) ?_
    refine va_get (D := D) (ci := 0) (v := .int (xNP u)) (C := RX0) (T := TX0) (N := 9) hx hb hts hin hown hW.2.1 hW.1 0 rfl rfl 8 (by decide) (hts (.fieldLink RX0 35 "TideDepths" "places" "I") (by decide +kernel)) (fun _ h9 => h9) rfl dX0_count_47 ?_
    exact W.iret (v := (xNP u)) hx hb hr (fun t ht hWm => ⟨_, rfl, hw, ht⟩) t_nil dX0_count_50
  have hw := hw.2 c1_2
  by_cases c1_3 : v1 = 3
  · have hw := hw.1 c1_3
    refine lv_tableIn (tgt := 51) hx hb dX0_count_1 (by rw [c1_3]; decide) (by rw [c1_3]; decide) (by rw [c1_3]; rfl) (by decide) ?_
    refine lv_aload_n hx hb dX0_count_51 rfl (lv_at hl 0 rfl) ?_
    refine pc_Vl (As := []) (rest := []) ⟨hx, hb, hml, hown, hts⟩ (mX0_firstSecond l D cJ h0 a1 a2 a3 a4 a5 a6 tC tS u _) (cwV 0 hts gX0_count_X0_firstSecond rfl rfl rfl (by decide +kernel) ⟨Nat.le_of_ble_eq_true rfl, Nat.le_of_ble_eq_true rfl⟩) (wX_rc hW) wX_bl (wX_in hW hw) rfl hl.1 rfl (Nat.le_of_ble_eq_true rfl) dX0_count_52 ⟨Nat.le_of_ble_eq_true rfl, Nat.le_of_ble_eq_true rfl⟩ (fun r2 hw => ?_)
    refine lv_l2i (v := (r2).toInt32) hx hb dX0_count_55 rfl ?_
    exact W.iret (v := (r2).toInt32) hx hb hr (fun t ht hWm => ⟨_, rfl, hw, ht⟩) t_nil dX0_count_56
  have hw := hw.2 c1_3
  by_cases c1_4 : v1 = 4
  · have hw := hw.1 c1_4
    refine lv_tableIn (tgt := 57) hx hb dX0_count_1 (by rw [c1_4]; decide) (by rw [c1_4]; decide) (by rw [c1_4]; rfl) (by decide) ?_
    refine lv_aload_n hx hb dX0_count_57 rfl (lv_at hl 0 rfl) ?_
    refine pc_Vl (As := []) (rest := []) ⟨hx, hb, hml, hown, hts⟩ (mX0_lastSecond l D cJ h0 a1 a2 a3 a4 a5 a6 tC tS u _) (cwV 0 hts gX0_count_X0_lastSecond rfl rfl rfl (by decide +kernel) ⟨Nat.le_of_ble_eq_true rfl, Nat.le_of_ble_eq_true rfl⟩) (wX_rc hW) wX_bl (wX_in hW hw) rfl hl.1 rfl (Nat.le_of_ble_eq_true rfl) dX0_count_58 ⟨Nat.le_of_ble_eq_true rfl, Nat.le_of_ble_eq_true rfl⟩ (fun r3 hw => ?_)
    refine lv_l2i (v := (r3).toInt32) hx hb dX0_count_61 rfl ?_
    exact W.iret (v := (r3).toInt32) hx hb hr (fun t ht hWm => ⟨_, rfl, hw, ht⟩) t_nil dX0_count_62
  have hw := hw.2 c1_4
  refine lv_tableOut (tgt := 63) hx hb dX0_count_1 (tsw_4 c1_0 c1_1 c1_2 c1_3 c1_4) (by decide) ?_
  refine lv_iconst (v := (-1)) hx hb dX0_count_63 (by decide) ?_
  exact W.iret (v := (-1)) hx hb hr (fun t ht hWm => ⟨_, rfl, hw, ht⟩) t_nil dX0_count_64
end
section
/-! methods that write, or throw: their worlds -/
def exN (k : Nat) : String := match k with
  | 0 => "java/lang/IllegalArgumentException"
  | 1 => "java/lang/IllegalStateException"
  | 2 => "java/lang/ArithmeticException"
  | 3 => "java/lang/IndexOutOfBoundsException"
  | _ => "java/lang/ArrayIndexOutOfBoundsException"
/-- the texts of the class's throws, by their entries -/
def txL : List (Nat × String) := [(50, "no such time or height"), (55, "not behind the last turn"), (59, "no room for a turn"), (68, "outside the table"), (74, "outside the table, or no such height"), (76, "ahead of the latest observation"), (78, "no room for an observation"), (85, "outside the table, or no such base, need or side"), (103, "no such speed or draft"), (110, "no such way or speed"), (114, "speed 0"), (126, "no such number of the cosine"), (132, "no such draft or density"), (137, "no such way or base"), (139, "not above the last place's way"), (141, "no room for a place"), (145, "no such place"), (148, "outside the table, or no such need"), (150, "no such speed or side"), (152, "no places"), (161, "nothing such to read")]
/-- words of a throw that the machine's warming is not known to keep by themselves -/
def tbW : List Cond := [.declares (Bundle.initS "java/lang/RuntimeException"), .declares (Bundle.initS "java/lang/Exception"), .declares (Bundle.initS "java/lang/Throwable"), .declares (Bundle.initS "java/lang/IndexOutOfBoundsException"), .castable "java/lang/IllegalArgumentException" "java/lang/IllegalArgumentException", .castable "java/lang/IllegalStateException" "java/lang/IllegalStateException", .castable "java/lang/ArithmeticException" "java/lang/ArithmeticException", .castable "java/lang/IndexOutOfBoundsException" "java/lang/IndexOutOfBoundsException", .castable "java/lang/ArrayIndexOutOfBoundsException" "java/lang/ArrayIndexOutOfBoundsException"]
theorem tbW_ot : ∀ w ∈ tbW, w.onTables = true := by decide +kernel
def TXs (U : State) : Prop := ∀ q ∈ txL, ∃ sa : Nat, vk_R RX0 q.1 q.2 sa U
def TB (U : State) : Prop := ∀ w ∈ tbW, va_Nw w U
def ZQ (A : Nat → Prop) (U : State) (H : Heap) : Prop := vx_Zq Bundle.tN "UNASSIGNED_STACK" Bundle.steD A U H ∧ vx_Zq Bundle.tN "SUPPRESSED_SENTINEL" Bundle.listD A U H
/-- what a throw needs of the start -/
def TE (A : Nat → Prop) (U : State) (H : Heap) : Prop := ZQ A U H ∧ TXs U ∧ TB U
theorem TXs.warm {s U : State} (hW : s.WarmedH U.vm) (h : TXs s) : TXs U := fun q hq => (h q hq).imp fun _ hv => vk_R.warm hW hv
theorem TXs.same {s U : State} (hv : U.vm = s.vm) (h : TXs s) : TXs U := fun q hq => (h q hq).imp fun _ h9 => vk_R.same hv h9
theorem TB.warm {s U : State} (hW : s.WarmedH U.vm) (h : TB s) : TB U := by
  intro w hw
  have h9 := h w hw
  simp only [tbW, List.mem_cons, List.not_mem_nil, or_false] at hw
  rcases hw with rfl | rfl | rfl | rfl | rfl | rfl | rfl | rfl | rfl
  · exact va_Nw.warmD hW h9
  · exact va_Nw.warmD hW h9
  · exact va_Nw.warmD hW h9
  · exact va_Nw.warmD hW h9
  · exact va_Nw.warmC hW h9
  · exact va_Nw.warmC hW h9
  · exact va_Nw.warmC hW h9
  · exact va_Nw.warmC hW h9
  · exact va_Nw.warmC hW h9
theorem TB.same {s U : State} (hv : U.vm = s.vm) (h : TB s) : TB U := fun w hw => va_Nw.same (tbW_ot w hw) hv.symm (h w hw)
theorem ZQ.moved {A : Nat → Prop} {u U : State} {H : Heap} (hvm : u.vm.Alike U.vm) (h : ZQ A u H) : ZQ A U H := ⟨vx_Zq.moved hvm h.1, vx_Zq.moved hvm h.2⟩
theorem ZQ.kept {A : Nat → Prop} {U : State} {H H1 : Heap} (h : ZQ A U H) (hq : ∀ a : Nat, a < H.size → ¬ A a → H1[a]? = H[a]?) : ZQ A U H1 := ⟨vx_Zq.kept h.1 hq, vx_Zq.kept h.2 hq⟩
theorem ZQ.narrow {A B : Nat → Prop} {U : State} {H : Heap} (h : ZQ A U H) (hAB : ∀ q, B q → A q) : ZQ B U H := ⟨vx_Zq.narrow h.1 hAB, vx_Zq.narrow h.2 hAB⟩
theorem TE.warm {A : Nat → Prop} {s U : State} {H : Heap} (hW : s.WarmedH U.vm) (h : TE A s H) : TE A U H := ⟨h.1.moved hW.alike, h.2.1.warm hW, h.2.2.warm hW⟩
theorem TE.same {A : Nat → Prop} {s U : State} {H : Heap} (hv : U.vm = s.vm) (h : TE A s H) : TE A U H := ⟨h.1.moved (by rw [hv]; exact Vm.Alike.refl _), h.2.1.same hv, h.2.2.same hv⟩
/-- the class's world at a writing method's entry -/
def XE (D : va_G) (cJ : ClassId) (h0 a1 a2 a3 a4 a5 a6 tC tS sz : Nat) (u : XS) (U : State) : Prop := U.heap.size = sz ∧ va_P D cls2 (x0W cJ h0 a1 a2 a3 a4 a5 a6 u) U.heap ∧ va_K D cls2 [(cJ, .long)] U ∧ va_D (fun _ => True) (x0W cJ h0 a1 a2 a3 a4 a5 a6 u) ∧ SW (va_A (x0W cJ h0 a1 a2 a3 a4 a5 a6 u) sz) tC tS U U.heap ∧ TE (va_A (x0W cJ h0 a1 a2 a3 a4 a5 a6 u) sz) U U.heap
/-- .. and behind it -/
abbrev XT (D : va_G) (cJ : ClassId) (h0 a1 a2 a3 a4 a5 a6 : Nat) (A : Nat → Prop) (u : XS) (t : State) : Prop := va_P D cls2 (x0W cJ h0 a1 a2 a3 a4 a5 a6 u) t.heap ∧ va_K D cls2 [(cJ, .long)] t ∧ va_D A (x0W cJ h0 a1 a2 a3 a4 a5 a6 u)
def YE (D : va_G) (cI cJ : ClassId) (k0 b1 b2 b3 b4 b5 b6 b7 b8 sz : Nat) (y : YS) (U : State) : Prop := U.heap.size = sz ∧ va_P D cls2 (x1W cI cJ k0 b1 b2 b3 b4 b5 b6 b7 b8 y) U.heap ∧ va_K D cls2 [(cI, .int), (cJ, .long)] U ∧ va_D (fun _ => True) (x1W cI cJ k0 b1 b2 b3 b4 b5 b6 b7 b8 y)
abbrev YT (D : va_G) (cI cJ : ClassId) (k0 b1 b2 b3 b4 b5 b6 b7 b8 : Nat) (A : Nat → Prop) (y : YS) (t : State) : Prop := va_P D cls2 (x1W cI cJ k0 b1 b2 b3 b4 b5 b6 b7 b8 y) t.heap ∧ va_K D cls2 [(cI, .int), (cJ, .long)] t ∧ va_D A (x1W cI cJ k0 b1 b2 b3 b4 b5 b6 b7 b8 y)
/-- the words of cosine, its throw among them -/
def wsX0_cosineX : List Cond := .code yX0_cosine cX0_cosine 2 (some .int) :: ([.fieldLink RX0 120 "TideDepths" "COSINE" "[I", .classLink RX0 124 "java/lang/ArrayIndexOutOfBoundsException", .initialized "java/lang/ArrayIndexOutOfBoundsException"] ++ (vx_atS RX0 128 "java/lang/ArrayIndexOutOfBoundsException" ["java/lang/IndexOutOfBoundsException", "java/lang/RuntimeException", "java/lang/Exception"]).filter goodWord)
/-- 'throw new E("text")' in the class, its cells as they were -/
theorem x0_throw {p : Program} {l : Launch} {e : Env} {R : Room} {s : State} {m : MethodId} {args : Array Value} {below : List Frame} {meth : Method} {c : Code} {cc : ByteArray} {pc : Nat} {ls : Array Slot} {rest : List Value} {D : va_G} {cJ : ClassId} {h0 a1 a2 a3 a4 a5 a6 : Nat} {u : XS} {A : Nat → Prop} {Qc : Array Value → State → Outcome → State → Prop} {thr : Nat → Prop} {cls text : String} {names : List String} {ik is ic k : Nat}
    (hx : p.tables.exec = Jvm.exec) (hb : c.code = cc) (hst : l.stackTraces = false) (hown : s.vm.findClass RX0 = some m.cls) (hcls : Bundle.fit cls = true) (hnames : ∀ n ∈ names, Bundle.fit n = true) (hk : (Cond.classLink RX0 ik cls).before args s = true) (hini : (Cond.initialized cls).before args s = true) (htx : (is, text) ∈ txL) (hT : TE A s s.heap)
    (h1 : ∀ w ∈ (vx_atS RX0 ic cls names).filter goodWord, w.before args s = true) (h2 : ∀ w ∈ (vx_atS RX0 ic cls names).filter (fun w => !goodWord w), w ∈ tbW) (hgood : ∀ w ∈ Cond.classLink RX0 ik cls :: Cond.initialized cls :: vx_atS RX0 ic cls names, vx_ot w = true) (hsize : ls.size = c.maxLocals)
    (d0 : decode cc pc = .ok (.new ik, 3)) (d3 : decode cc (pc + 3) = .ok (.dup, 1)) (d4 : decode cc (pc + 4) = .ok (.ldc is, 2)) (d6 : decode cc (pc + 6) = .ok (.invokespecial ic, 3)) (d9 : decode cc (pc + 9) = .ok (.athrow, 1)) (hout : ∀ x ∈ c.exceptionTable.toList, False)
    (hRf : names.length + 3 < R.frames) (hRl : (rest.map fun v => v.category).sum + (13 * (names.length + 1) + 43) ≤ R.locals) (hRc : 0 + 1 ≤ R.cells) (hRs : 0 + 6 ≤ R.slots) (hlocks : meth.locks = false)
    (hP : va_P D cls2 (x0W cJ h0 a1 a2 a3 a4 a5 a6 u) s.heap) (hK : va_K D cls2 [(cJ, .long)] s) (hD : va_D A (x0W cJ h0 a1 a2 a3 a4 a5 a6 u)) (hE : cls = exN k) (hw : thr k) :
    W p l e R s m args below meth c s.heap [] 0 0 (vx_MQ below Qc (vx_X thr (fun E9 k9 t9 => E9 = exN k9 ∧ XT D cJ h0 a1 a2 a3 a4 a5 a6 A u t9) A) args s 1 6 A) (F0 m pc ls rest) := by
  obtain ⟨⟨hU, hN⟩, hX, hB⟩ := hT
  obtain ⟨sa, hstr⟩ := hX _ htx
  refine vx_throwS (A := A) (sa := sa) (text := text) (names := names) hx hb hst hown hcls hnames hk hini hstr (vx_hat h1 h2 (fun w hw => va_Nw.use (tbW_ot w hw) (hB w hw))) hgood hU hN va_S.rf hsize d0 d3 d4 d6 d9 (fun x h => (hout x h).elim) hRf hRl hRc hRs hlocks ?_ t_nil (Nat.le_refl _) (Nat.le_refl _)
  intro t hvm hsz hq
  exact ⟨k, hw, ⟨hE, hP.kept (fun k x hx => hq x.1 ((hP k x hx).lt)), va_K.moved hvm hK, hD⟩, hsz, fun q h _ => hq q h⟩
end
section
def wX0_turn (post : Int32 → XS → Prop) (thr : Nat → Prop) (u : XS) (v1 : Int64) (v3 : Int64) : Prop := (wX0_isWithin (fun r1 => ((r1 = 0 → (thr 0)) ∧ (¬ r1 = 0 → (wX0_isLevel (fun r3 => ((r3 = 0 → (thr 0)) ∧ (¬ r3 = 0 → (((xNT u) ≤ 0 → (((xNT u) < 40 → (wX0_alternates (fun r7 => ((r7 = 0 → (post 0 u)) ∧ (¬ r7 = 0 → (vp_in (xNT u) 40 ∧ (vp_in (xNT u) 40 ∧ (post 1 ((vp_updL (xTT u) ((xNT u)).toNatClampNeg v1), (vp_updL (xTH u) ((xNT u)).toNatClampNeg v3), ((xNT u) + 1), (xOT u), (xOD u), (xNO u), (xPW u), (xPB u), (xNP u)))))))) u v3)) ∧ (¬ (xNT u) < 40 → (thr 1)))) ∧ (¬ (xNT u) ≤ 0 → (vp_in ((xNT u) - 1) 40 ∧ ((((xTT u) (((xNT u) - 1)).toNatClampNeg) < v1 → (((xNT u) < 40 → (wX0_alternates (fun r14 => ((r14 = 0 → (post 0 u)) ∧ (¬ r14 = 0 → (vp_in (xNT u) 40 ∧ (vp_in (xNT u) 40 ∧ (post 1 ((vp_updL (xTT u) ((xNT u)).toNatClampNeg v1), (vp_updL (xTH u) ((xNT u)).toNatClampNeg v3), ((xNT u) + 1), (xOT u), (xOD u), (xNO u), (xPW u), (xPB u), (xNP u)))))))) u v3)) ∧ (¬ (xNT u) < 40 → (thr 1)))) ∧ (¬ ((xTT u) (((xNT u) - 1)).toNatClampNeg) < v1 → (thr 0))))))))) v3)))) v1 0 20000)

set_option maxHeartbeats 4000000 in
set_option maxRecDepth 100000 in
theorem mX0_turn (l : Launch) (hst : l.stackTraces = false) (D : va_G) (cJ : ClassId) (h0 a1 a2 a3 a4 a5 a6 tC tS sz : Nat) (u : XS) (v1 : Int64) (v3 : Int64) (post : Int32 → XS → Prop) (thr : Nat → Prop) : vx_Met l yX0_turn wsX0_turn ({ frames := 6, cells := 1, slots := 6, locals := 90 } : Room) (va_Pc [.ref h0, .long v1, .long v3] (fun U => XE D cJ h0 a1 a2 a3 a4 a5 a6 tC tS sz u U ∧ wX0_turn post thr u v1 v3)) (va_Qi post (fun u9 t9 => XT D cJ h0 a1 a2 a3 a4 a5 a6 (va_A (x0W cJ h0 a1 a2 a3 a4 a5 a6 u) sz) u9 t9) (va_A (x0W cJ h0 a1 a2 a3 a4 a5 a6 u) sz)) (vx_X thr (fun E9 k9 t9 => E9 = exN k9 ∧ XT D cJ h0 a1 a2 a3 a4 a5 a6 (va_A (x0W cJ h0 a1 a2 a3 a4 a5 a6 u) sz) u t9) (va_A (x0W cJ h0 a1 a2 a3 a4 a5 a6 u) sz)) 1 6 (va_A (x0W cJ h0 a1 a2 a3 a4 a5 a6 u) sz) := by
  refine vx_ofW (cc := cX0_turn) (maxL := 5) (ret := (some .int)) (by decide +kernel) rfl ?_
  intro p e s m args below meth c s₁ B hml hout hv
  obtain ⟨rfl, ⟨hsz, hP, hK, hD0, hZ, hT⟩, hw⟩ := hv
  have hx := B.exec
  have hb := B.bytes
  have hr := B.returns
  have hts := atoms_spec (ws := wsX0_turn) B.pre
  have hown : s.vm.findClass RX0 = some m.cls := findClass_of_methodNamed B.named
  have hlocks := B.notSynchronized
  have hin : ∀ w ∈ u_ws RX0 TX0 9, w ∈ wsX0_turn := by decide +kernel
  subst hsz
  have hD := hD0.self (sz := s.heap.size)
  generalize hAe : va_A (x0W cJ h0 a1 a2 a3 a4 a5 a6 u) s.heap.size = A at hD hZ hT ⊢
  have hS : va_S A s.heap s.heap [] := va_S.rf
  have hW : XW D cJ h0 a1 a2 a3 a4 a5 a6 tC tS u s s.heap := ⟨hP, hK, hZ.narrow (fun _ h => h.elim)⟩
  have hl := lv_entry ([.ref h0, .long v1, .long v3]) (n := 5) (Nat.le_of_ble_eq_true rfl)
  rw [lg_entry_eq]
  generalize (lg_sl ([.ref h0, .long v1, .long v3]) ++ List.replicate (5 - (lg_sl ([.ref h0, .long v1, .long v3])).length) Slot.unset).toArray = ls at hl ⊢
  have hl : lv_has ls 5 [(0, .ref h0), (1, .long v1), (3, .long v3)] := hl
  unfold wX0_turn at hw
  refine lv_lload_n hx hb dX0_turn_0 rfl (lv_at hl 1 rfl) ?_
  refine lv_lconst (v := 0) hx hb dX0_turn_1 (by decide) ?_
  refine lv_ldc2 (v := 20000) hx hb hown (hts (.constantLong RX0 38 (20000)) (by decide +kernel)) dX0_turn_2 ?_
  refine pc_Si (As := [.long v1, .long 0, .long 20000]) (rest := []) ⟨hx, hb, hml, hown, hts⟩ (mX0_isWithin l v1 0 20000 _) (va_cwS 3 hts gX0_turn_X0_isWithin rfl rfl rfl (by decide +kernel) ⟨Nat.le_of_ble_eq_true rfl, Nat.le_of_ble_eq_true rfl⟩) wK_bl (fun _ _ _ => hw) rfl hl.1 rfl (Nat.le_of_ble_eq_true rfl) dX0_turn_5 ⟨Nat.le_of_ble_eq_true rfl, Nat.le_of_ble_eq_true rfl⟩ (fun r1 hw => ?_)
  obtain ⟨z_r1, hw⟩ := hw
  refine lv_if_eq (tgt := 18) hx hb dX0_turn_8 (by decide) (fun c2 => ?_) (fun c2 => ?_)
  · have hw := hw.1 c2
    exact x0_throw (k := 0) (names := ["java/lang/RuntimeException", "java/lang/Exception"]) (text := "no such time or height") hx hb hst hown (by decide +kernel) (by decide +kernel) (hts (.classLink RX0 48 "java/lang/IllegalArgumentException") (by decide +kernel)) (hts (.initialized "java/lang/IllegalArgumentException") (by decide +kernel)) (by decide +kernel) hT (fun w h => hts w (by unfold wsX0_turn; exact List.mem_cons_of_mem _ (List.mem_append_left _ (List.mem_append_right _ h)))) (by decide +kernel) (by decide +kernel) (hl.1.trans hml.symm) dX0_turn_18 dX0_turn_21 dX0_turn_22 dX0_turn_24 dX0_turn_27 hout (Nat.le_of_ble_eq_true rfl) (Nat.le_of_ble_eq_true rfl) (Nat.le_of_ble_eq_true rfl) (Nat.le_of_ble_eq_true rfl) hlocks hP hK hD rfl hw
  · have hw := hw.2 c2
    refine lv_lload_n hx hb dX0_turn_11 rfl (lv_at hl 2 rfl) ?_
    refine pc_Si (As := [.long v3]) (rest := []) ⟨hx, hb, hml, hown, hts⟩ (mX0_isLevel l v3 _) (va_cwS 1 hts gX0_turn_X0_isLevel rfl rfl rfl (by decide +kernel) ⟨Nat.le_of_ble_eq_true rfl, Nat.le_of_ble_eq_true rfl⟩) wK_bl (fun _ _ _ => hw) rfl hl.1 rfl (Nat.le_of_ble_eq_true rfl) dX0_turn_12 ⟨Nat.le_of_ble_eq_true rfl, Nat.le_of_ble_eq_true rfl⟩ (fun r3 hw => ?_)
    obtain ⟨z_r3, hw⟩ := hw
    refine lv_if_ne (tgt := 28) hx hb dX0_turn_15 (by decide) (fun c4 => ?_) (fun c4 => ?_)
    · have hw := hw.2 c4
      refine lv_aload_n hx hb dX0_turn_28 rfl (lv_at hl 0 rfl) ?_
      refine va_get (D := D) (ci := 0) (v := .int (xNT u)) (C := RX0) (T := TX0) (N := 9) hx hb hts hin hown hK hP 0 rfl rfl 2 (by decide) (hts (.fieldLink RX0 16 "TideDepths" "turns" "I") (by decide +kernel)) (fun _ h9 => h9) rfl dX0_turn_29 ?_
      refine lv_if_le (tgt := 61) hx hb dX0_turn_32 (by decide) (fun c5 => ?_) (fun c5 => ?_)
      · have hw := hw.1 c5
        refine lv_aload_n hx hb dX0_turn_61 rfl (lv_at hl 0 rfl) ?_
        refine va_get (D := D) (ci := 0) (v := .int (xNT u)) (C := RX0) (T := TX0) (N := 9) hx hb hts hin hown hK hP 0 rfl rfl 2 (by decide) (hts (.fieldLink RX0 16 "TideDepths" "turns" "I") (by decide +kernel)) (fun _ h9 => h9) rfl dX0_turn_62 ?_
        refine lv_bipush (v := 40) hx hb dX0_turn_65 (by decide) ?_
        refine lv_icmp_lt (tgt := 80) hx hb dX0_turn_67 (by decide) (fun c6 => ?_) (fun c6 => ?_)
        · have hw := hw.1 c6
          refine lv_aload_n hx hb dX0_turn_80 rfl (lv_at hl 0 rfl) ?_
          refine lv_lload_n hx hb dX0_turn_81 rfl (lv_at hl 2 rfl) ?_
          refine pc_Vi (As := [.long v3]) (rest := []) ⟨hx, hb, hml, hown, hts⟩ (mX0_alternates l D cJ h0 a1 a2 a3 a4 a5 a6 tC tS u v3 _) (cwV 1 hts gX0_turn_X0_alternates rfl rfl rfl (by decide +kernel) ⟨Nat.le_of_ble_eq_true rfl, Nat.le_of_ble_eq_true rfl⟩) (wX_rc hW) wX_bl (wX_in hW hw) rfl hl.1 rfl (Nat.le_of_ble_eq_true rfl) dX0_turn_82 ⟨Nat.le_of_ble_eq_true rfl, Nat.le_of_ble_eq_true rfl⟩ (fun r7 hw => ?_)
          obtain ⟨z_r7, hw⟩ := hw
          refine lv_if_ne (tgt := 90) hx hb dX0_turn_85 (by decide) (fun c8 => ?_) (fun c8 => ?_)
          · have hw := hw.2 c8
            refine lv_aload_n hx hb dX0_turn_90 rfl (lv_at hl 0 rfl) ?_
            refine va_get (D := D) (ci := 0) (v := .ref a1) (C := RX0) (T := TX0) (N := 9) hx hb hts hin hown hK hP 0 rfl rfl 0 (by decide) (hts (.fieldLink RX0 9 "TideDepths" "turnTimes" "[J") (by decide +kernel)) (fun _ h9 => h9) rfl dX0_turn_91 ?_
            refine lv_aload_n hx hb dX0_turn_94 rfl (lv_at hl 0 rfl) ?_
            refine va_get (D := D) (ci := 0) (v := .int (xNT u)) (C := RX0) (T := TX0) (N := 9) hx hb hts hin hown hK hP 0 rfl rfl 2 (by decide) (hts (.fieldLink RX0 16 "TideDepths" "turns" "I") (by decide +kernel)) (fun _ h9 => h9) rfl dX0_turn_95 ?_
            refine lv_lload_n hx hb dX0_turn_98 rfl (lv_at hl 1 rfl) ?_
            obtain ⟨h9, hw⟩ := hw
            refine va_last hx hb hK hP hD hS 1 0 rfl rfl h9 dX0_turn_99 (fun H locs hP hD hS => ?_)
            have hP : va_P D cls2 (x0W cJ h0 a1 a2 a3 a4 a5 a6 ((vp_updL (xTT u) ((xNT u)).toNatClampNeg v1), (xTH u), (xNT u), (xOT u), (xOD u), (xNO u), (xPW u), (xPB u), (xNP u))) H := hP
            have hD : va_D A (x0W cJ h0 a1 a2 a3 a4 a5 a6 ((vp_updL (xTT u) ((xNT u)).toNatClampNeg v1), (xTH u), (xNT u), (xOT u), (xOD u), (xNO u), (xPW u), (xPB u), (xNP u))) := hD
            have hW : XW D cJ h0 a1 a2 a3 a4 a5 a6 tC tS ((vp_updL (xTT u) ((xNT u)).toNatClampNeg v1), (xTH u), (xNT u), (xOT u), (xOD u), (xNO u), (xPW u), (xPB u), (xNP u)) s H := ⟨hP, hK, (SW.kept hZ hS.2.1).narrow (fun _ h => h.elim)⟩
            refine lv_aload_n hx hb dX0_turn_100 rfl (lv_at hl 0 rfl) ?_
            refine va_get (D := D) (ci := 0) (v := .ref a2) (C := RX0) (T := TX0) (N := 9) hx hb hts hin hown hK hP 0 rfl rfl 1 (by decide) (hts (.fieldLink RX0 13 "TideDepths" "turnHeights" "[J") (by decide +kernel)) (fun _ h9 => h9) rfl dX0_turn_101 ?_
            refine lv_aload_n hx hb dX0_turn_104 rfl (lv_at hl 0 rfl) ?_
            refine va_get (D := D) (ci := 0) (v := .int (xNT u)) (C := RX0) (T := TX0) (N := 9) hx hb hts hin hown hK hP 0 rfl rfl 2 (by decide) (hts (.fieldLink RX0 16 "TideDepths" "turns" "I") (by decide +kernel)) (fun _ h9 => h9) rfl dX0_turn_105 ?_
            refine lv_lload_n hx hb dX0_turn_108 rfl (lv_at hl 2 rfl) ?_
            obtain ⟨h10, hw⟩ := hw
            refine va_last hx hb hK hP hD hS 2 0 rfl rfl h10 dX0_turn_109 (fun H locs hP hD hS => ?_)
            have hP : va_P D cls2 (x0W cJ h0 a1 a2 a3 a4 a5 a6 ((vp_updL (xTT u) ((xNT u)).toNatClampNeg v1), (vp_updL (xTH u) ((xNT u)).toNatClampNeg v3), (xNT u), (xOT u), (xOD u), (xNO u), (xPW u), (xPB u), (xNP u))) H := hP
            have hD : va_D A (x0W cJ h0 a1 a2 a3 a4 a5 a6 ((vp_updL (xTT u) ((xNT u)).toNatClampNeg v1), (vp_updL (xTH u) ((xNT u)).toNatClampNeg v3), (xNT u), (xOT u), (xOD u), (xNO u), (xPW u), (xPB u), (xNP u))) := hD
            have hW : XW D cJ h0 a1 a2 a3 a4 a5 a6 tC tS ((vp_updL (xTT u) ((xNT u)).toNatClampNeg v1), (vp_updL (xTH u) ((xNT u)).toNatClampNeg v3), (xNT u), (xOT u), (xOD u), (xNO u), (xPW u), (xPB u), (xNP u)) s H := ⟨hP, hK, (SW.kept hZ hS.2.1).narrow (fun _ h => h.elim)⟩
            refine lv_aload_n hx hb dX0_turn_110 rfl (lv_at hl 0 rfl) ?_
            refine lv_dup hx hb dX0_turn_111 rfl ?_
            refine va_get (D := D) (ci := 0) (v := .int (xNT u)) (C := RX0) (T := TX0) (N := 9) hx hb hts hin hown hK hP 0 rfl rfl 2 (by decide) (hts (.fieldLink RX0 16 "TideDepths" "turns" "I") (by decide +kernel)) (fun _ h9 => h9) rfl dX0_turn_112 ?_
            refine lv_iconst (v := 1) hx hb dX0_turn_115 (by decide) ?_
            refine lv_iadd hx hb dX0_turn_116 ?_
            refine va_put (D := D) (ci := 0) (v := .int ((xNT u) + 1)) (ty := .int) (C := RX0) (T := TX0) (N := 9) hx hb hts hin tyX0 tyX0_ok nmX0 hown hK hP hD hS 0 rfl rfl 2 (by decide) (hts (.fieldLink RX0 16 "TideDepths" "turns" "I") (by decide +kernel)) (fun _ h9 => h9) rfl (by decide +kernel) rfl rfl (Nat.le_of_ble_eq_true rfl) dX0_turn_117 (fun H locs hP hD hS => ?_)
            have hP : va_P D cls2 (x0W cJ h0 a1 a2 a3 a4 a5 a6 ((vp_updL (xTT u) ((xNT u)).toNatClampNeg v1), (vp_updL (xTH u) ((xNT u)).toNatClampNeg v3), ((xNT u) + 1), (xOT u), (xOD u), (xNO u), (xPW u), (xPB u), (xNP u))) H := hP
            have hD : va_D A (x0W cJ h0 a1 a2 a3 a4 a5 a6 ((vp_updL (xTT u) ((xNT u)).toNatClampNeg v1), (vp_updL (xTH u) ((xNT u)).toNatClampNeg v3), ((xNT u) + 1), (xOT u), (xOD u), (xNO u), (xPW u), (xPB u), (xNP u))) := hD
            have hW : XW D cJ h0 a1 a2 a3 a4 a5 a6 tC tS ((vp_updL (xTT u) ((xNT u)).toNatClampNeg v1), (vp_updL (xTH u) ((xNT u)).toNatClampNeg v3), ((xNT u) + 1), (xOT u), (xOD u), (xNO u), (xPW u), (xPB u), (xNP u)) s H := ⟨hP, hK, (SW.kept hZ hS.2.1).narrow (fun _ h => h.elim)⟩
            refine lv_iconst (v := 1) hx hb dX0_turn_120 (by decide) ?_
            refine W.widen (k := 1) (n := 6) (Nat.le_of_ble_eq_true rfl) (Nat.le_of_ble_eq_true rfl) ?_
            exact vx_ret (W.iret (v := 1) hx hb hr (fun t ht hWm => ⟨⟨1, ((vp_updL (xTT u) ((xNT u)).toNatClampNeg v1), (vp_updL (xTH u) ((xNT u)).toNatClampNeg v3), ((xNT u) + 1), (xOT u), (xOD u), (xNO u), (xPW u), (xPB u), (xNP u)), rfl, hw, by rw [ht]; exact hP, va_K.moved hWm.alike hK, hD⟩, hS.F ht⟩) hS.2.2 dX0_turn_121)
          · have hw := hw.1 c8
            refine lv_iconst (v := 0) hx hb dX0_turn_88 (by decide) ?_
            refine W.widen (k := 1) (n := 6) (Nat.le_of_ble_eq_true rfl) (Nat.le_of_ble_eq_true rfl) ?_
            exact vx_ret (W.iret (v := 0) hx hb hr (fun t ht hWm => ⟨⟨0, u, rfl, hw, by rw [ht]; exact hP, va_K.moved hWm.alike hK, hD⟩, hS.F ht⟩) hS.2.2 dX0_turn_89)
        · have hw := hw.2 c6
          exact x0_throw (k := 1) (names := ["java/lang/RuntimeException", "java/lang/Exception"]) (text := "no room for a turn") hx hb hst hown (by decide +kernel) (by decide +kernel) (hts (.classLink RX0 57 "java/lang/IllegalStateException") (by decide +kernel)) (hts (.initialized "java/lang/IllegalStateException") (by decide +kernel)) (by decide +kernel) hT (fun w h => hts w (by unfold wsX0_turn; exact List.mem_cons_of_mem _ (List.mem_append_right _ h))) (by decide +kernel) (by decide +kernel) (hl.1.trans hml.symm) dX0_turn_70 dX0_turn_73 dX0_turn_74 dX0_turn_76 dX0_turn_79 hout (Nat.le_of_ble_eq_true rfl) (Nat.le_of_ble_eq_true rfl) (Nat.le_of_ble_eq_true rfl) (Nat.le_of_ble_eq_true rfl) hlocks hP hK hD rfl hw
      · have hw := hw.2 c5
        refine lv_lload_n hx hb dX0_turn_35 rfl (lv_at hl 1 rfl) ?_
        refine lv_aload_n hx hb dX0_turn_36 rfl (lv_at hl 0 rfl) ?_
        refine va_get (D := D) (ci := 0) (v := .ref a1) (C := RX0) (T := TX0) (N := 9) hx hb hts hin hown hK hP 0 rfl rfl 0 (by decide) (hts (.fieldLink RX0 9 "TideDepths" "turnTimes" "[J") (by decide +kernel)) (fun _ h9 => h9) rfl dX0_turn_37 ?_
        refine lv_aload_n hx hb dX0_turn_40 rfl (lv_at hl 0 rfl) ?_
        refine va_get (D := D) (ci := 0) (v := .int (xNT u)) (C := RX0) (T := TX0) (N := 9) hx hb hts hin hown hK hP 0 rfl rfl 2 (by decide) (hts (.fieldLink RX0 16 "TideDepths" "turns" "I") (by decide +kernel)) (fun _ h9 => h9) rfl dX0_turn_41 ?_
        refine lv_iconst (v := 1) hx hb dX0_turn_44 (by decide) ?_
        refine lv_isub hx hb dX0_turn_45 ?_
        obtain ⟨h11, hw⟩ := hw
        refine va_lald hx hb hK hP 1 0 rfl rfl h11 dX0_turn_46 ?_
        refine bl_gt (tgt := 61) hx hb dX0_turn_47 dX0_turn_48 (by decide) (fun c12 => ?_) (fun c12 => ?_)
        · have hw := hw.1 c12
          refine lv_aload_n hx hb dX0_turn_61 rfl (lv_at hl 0 rfl) ?_
          refine va_get (D := D) (ci := 0) (v := .int (xNT u)) (C := RX0) (T := TX0) (N := 9) hx hb hts hin hown hK hP 0 rfl rfl 2 (by decide) (hts (.fieldLink RX0 16 "TideDepths" "turns" "I") (by decide +kernel)) (fun _ h9 => h9) rfl dX0_turn_62 ?_
          refine lv_bipush (v := 40) hx hb dX0_turn_65 (by decide) ?_
          refine lv_icmp_lt (tgt := 80) hx hb dX0_turn_67 (by decide) (fun c13 => ?_) (fun c13 => ?_)
          · have hw := hw.1 c13
            refine lv_aload_n hx hb dX0_turn_80 rfl (lv_at hl 0 rfl) ?_
            refine lv_lload_n hx hb dX0_turn_81 rfl (lv_at hl 2 rfl) ?_
            refine pc_Vi (As := [.long v3]) (rest := []) ⟨hx, hb, hml, hown, hts⟩ (mX0_alternates l D cJ h0 a1 a2 a3 a4 a5 a6 tC tS u v3 _) (cwV 1 hts gX0_turn_X0_alternates rfl rfl rfl (by decide +kernel) ⟨Nat.le_of_ble_eq_true rfl, Nat.le_of_ble_eq_true rfl⟩) (wX_rc hW) wX_bl (wX_in hW hw) rfl hl.1 rfl (Nat.le_of_ble_eq_true rfl) dX0_turn_82 ⟨Nat.le_of_ble_eq_true rfl, Nat.le_of_ble_eq_true rfl⟩ (fun r14 hw => ?_)
            obtain ⟨z_r14, hw⟩ := hw
            refine lv_if_ne (tgt := 90) hx hb dX0_turn_85 (by decide) (fun c15 => ?_) (fun c15 => ?_)
            · have hw := hw.2 c15
              refine lv_aload_n hx hb dX0_turn_90 rfl (lv_at hl 0 rfl) ?_
              refine va_get (D := D) (ci := 0) (v := .ref a1) (C := RX0) (T := TX0) (N := 9) hx hb hts hin hown hK hP 0 rfl rfl 0 (by decide) (hts (.fieldLink RX0 9 "TideDepths" "turnTimes" "[J") (by decide +kernel)) (fun _ h9 => h9) rfl dX0_turn_91 ?_
              refine lv_aload_n hx hb dX0_turn_94 rfl (lv_at hl 0 rfl) ?_
              refine va_get (D := D) (ci := 0) (v := .int (xNT u)) (C := RX0) (T := TX0) (N := 9) hx hb hts hin hown hK hP 0 rfl rfl 2 (by decide) (hts (.fieldLink RX0 16 "TideDepths" "turns" "I") (by decide +kernel)) (fun _ h9 => h9) rfl dX0_turn_95 ?_
              refine lv_lload_n hx hb dX0_turn_98 rfl (lv_at hl 1 rfl) ?_
              obtain ⟨h16, hw⟩ := hw
              refine va_last hx hb hK hP hD hS 1 0 rfl rfl h16 dX0_turn_99 (fun H locs hP hD hS => ?_)
              have hP : va_P D cls2 (x0W cJ h0 a1 a2 a3 a4 a5 a6 ((vp_updL (xTT u) ((xNT u)).toNatClampNeg v1), (xTH u), (xNT u), (xOT u), (xOD u), (xNO u), (xPW u), (xPB u), (xNP u))) H := hP
              have hD : va_D A (x0W cJ h0 a1 a2 a3 a4 a5 a6 ((vp_updL (xTT u) ((xNT u)).toNatClampNeg v1), (xTH u), (xNT u), (xOT u), (xOD u), (xNO u), (xPW u), (xPB u), (xNP u))) := hD
              have hW : XW D cJ h0 a1 a2 a3 a4 a5 a6 tC tS ((vp_updL (xTT u) ((xNT u)).toNatClampNeg v1), (xTH u), (xNT u), (xOT u), (xOD u), (xNO u), (xPW u), (xPB u), (xNP u)) s H := ⟨hP, hK, (SW.kept hZ hS.2.1).narrow (fun _ h => h.elim)⟩
              refine lv_aload_n hx hb dX0_turn_100 rfl (lv_at hl 0 rfl) ?_
              refine va_get (D := D) (ci := 0) (v := .ref a2) (C := RX0) (T := TX0) (N := 9) hx hb hts hin hown hK hP 0 rfl rfl 1 (by decide) (hts (.fieldLink RX0 13 "TideDepths" "turnHeights" "[J") (by decide +kernel)) (fun _ h9 => h9) rfl dX0_turn_101 ?_
              refine lv_aload_n hx hb dX0_turn_104 rfl (lv_at hl 0 rfl) ?_
              refine va_get (D := D) (ci := 0) (v := .int (xNT u)) (C := RX0) (T := TX0) (N := 9) hx hb hts hin hown hK hP 0 rfl rfl 2 (by decide) (hts (.fieldLink RX0 16 "TideDepths" "turns" "I") (by decide +kernel)) (fun _ h9 => h9) rfl dX0_turn_105 ?_
              refine lv_lload_n hx hb dX0_turn_108 rfl (lv_at hl 2 rfl) ?_
              obtain ⟨h17, hw⟩ := hw
              refine va_last hx hb hK hP hD hS 2 0 rfl rfl h17 dX0_turn_109 (fun H locs hP hD hS => ?_)
              have hP : va_P D cls2 (x0W cJ h0 a1 a2 a3 a4 a5 a6 ((vp_updL (xTT u) ((xNT u)).toNatClampNeg v1), (vp_updL (xTH u) ((xNT u)).toNatClampNeg v3), (xNT u), (xOT u), (xOD u), (xNO u), (xPW u), (xPB u), (xNP u))) H := hP
              have hD : va_D A (x0W cJ h0 a1 a2 a3 a4 a5 a6 ((vp_updL (xTT u) ((xNT u)).toNatClampNeg v1), (vp_updL (xTH u) ((xNT u)).toNatClampNeg v3), (xNT u), (xOT u), (xOD u), (xNO u), (xPW u), (xPB u), (xNP u))) := hD
              have hW : XW D cJ h0 a1 a2 a3 a4 a5 a6 tC tS ((vp_updL (xTT u) ((xNT u)).toNatClampNeg v1), (vp_updL (xTH u) ((xNT u)).toNatClampNeg v3), (xNT u), (xOT u), (xOD u), (xNO u), (xPW u), (xPB u), (xNP u)) s H := ⟨hP, hK, (SW.kept hZ hS.2.1).narrow (fun _ h => h.elim)⟩
              refine lv_aload_n hx hb dX0_turn_110 rfl (lv_at hl 0 rfl) ?_
              refine lv_dup hx hb dX0_turn_111 rfl ?_
              refine va_get (D := D) (ci := 0) (v := .int (xNT u)) (C := RX0) (T := TX0) (N := 9) hx hb hts hin hown hK hP 0 rfl rfl 2 (by decide) (hts (.fieldLink RX0 16 "TideDepths" "turns" "I") (by decide +kernel)) (fun _ h9 => h9) rfl dX0_turn_112 ?_
              refine lv_iconst (v := 1) hx hb dX0_turn_115 (by decide) ?_
              refine lv_iadd hx hb dX0_turn_116 ?_
              refine va_put (D := D) (ci := 0) (v := .int ((xNT u) + 1)) (ty := .int) (C := RX0) (T := TX0) (N := 9) hx hb hts hin tyX0 tyX0_ok nmX0 hown hK hP hD hS 0 rfl rfl 2 (by decide) (hts (.fieldLink RX0 16 "TideDepths" "turns" "I") (by decide +kernel)) (fun _ h9 => h9) rfl (by decide +kernel) rfl rfl (Nat.le_of_ble_eq_true rfl) dX0_turn_117 (fun H locs hP hD hS => ?_)
              have hP : va_P D cls2 (x0W cJ h0 a1 a2 a3 a4 a5 a6 ((vp_updL (xTT u) ((xNT u)).toNatClampNeg v1), (vp_updL (xTH u) ((xNT u)).toNatClampNeg v3), ((xNT u) + 1), (xOT u), (xOD u), (xNO u), (xPW u), (xPB u), (xNP u))) H := hP
              have hD : va_D A (x0W cJ h0 a1 a2 a3 a4 a5 a6 ((vp_updL (xTT u) ((xNT u)).toNatClampNeg v1), (vp_updL (xTH u) ((xNT u)).toNatClampNeg v3), ((xNT u) + 1), (xOT u), (xOD u), (xNO u), (xPW u), (xPB u), (xNP u))) := hD
              have hW : XW D cJ h0 a1 a2 a3 a4 a5 a6 tC tS ((vp_updL (xTT u) ((xNT u)).toNatClampNeg v1), (vp_updL (xTH u) ((xNT u)).toNatClampNeg v3), ((xNT u) + 1), (xOT u), (xOD u), (xNO u), (xPW u), (xPB u), (xNP u)) s H := ⟨hP, hK, (SW.kept hZ hS.2.1).narrow (fun _ h => h.elim)⟩
              refine lv_iconst (v := 1) hx hb dX0_turn_120 (by decide) ?_
              refine W.widen (k := 1) (n := 6) (Nat.le_of_ble_eq_true rfl) (Nat.le_of_ble_eq_true rfl) ?_
              exact vx_ret (W.iret (v := 1) hx hb hr (fun t ht hWm => ⟨⟨1, ((vp_updL (xTT u) ((xNT u)).toNatClampNeg v1), (vp_updL (xTH u) ((xNT u)).toNatClampNeg v3), ((xNT u) + 1), (xOT u), (xOD u), (xNO u), (xPW u), (xPB u), (xNP u)), rfl, hw, by rw [ht]; exact hP, va_K.moved hWm.alike hK, hD⟩, hS.F ht⟩) hS.2.2 dX0_turn_121)
            · have hw := hw.1 c15
              refine lv_iconst (v := 0) hx hb dX0_turn_88 (by decide) ?_
              refine W.widen (k := 1) (n := 6) (Nat.le_of_ble_eq_true rfl) (Nat.le_of_ble_eq_true rfl) ?_
              exact vx_ret (W.iret (v := 0) hx hb hr (fun t ht hWm => ⟨⟨0, u, rfl, hw, by rw [ht]; exact hP, va_K.moved hWm.alike hK, hD⟩, hS.F ht⟩) hS.2.2 dX0_turn_89)
          · have hw := hw.2 c13
            exact x0_throw (k := 1) (names := ["java/lang/RuntimeException", "java/lang/Exception"]) (text := "no room for a turn") hx hb hst hown (by decide +kernel) (by decide +kernel) (hts (.classLink RX0 57 "java/lang/IllegalStateException") (by decide +kernel)) (hts (.initialized "java/lang/IllegalStateException") (by decide +kernel)) (by decide +kernel) hT (fun w h => hts w (by unfold wsX0_turn; exact List.mem_cons_of_mem _ (List.mem_append_right _ h))) (by decide +kernel) (by decide +kernel) (hl.1.trans hml.symm) dX0_turn_70 dX0_turn_73 dX0_turn_74 dX0_turn_76 dX0_turn_79 hout (Nat.le_of_ble_eq_true rfl) (Nat.le_of_ble_eq_true rfl) (Nat.le_of_ble_eq_true rfl) (Nat.le_of_ble_eq_true rfl) hlocks hP hK hD rfl hw
        · have hw := hw.2 c12
          exact x0_throw (k := 0) (names := ["java/lang/RuntimeException", "java/lang/Exception"]) (text := "not behind the last turn") hx hb hst hown (by decide +kernel) (by decide +kernel) (hts (.classLink RX0 48 "java/lang/IllegalArgumentException") (by decide +kernel)) (hts (.initialized "java/lang/IllegalArgumentException") (by decide +kernel)) (by decide +kernel) hT (fun w h => hts w (by unfold wsX0_turn; exact List.mem_cons_of_mem _ (List.mem_append_left _ (List.mem_append_right _ h)))) (by decide +kernel) (by decide +kernel) (hl.1.trans hml.symm) dX0_turn_51 dX0_turn_54 dX0_turn_55 dX0_turn_57 dX0_turn_60 hout (Nat.le_of_ble_eq_true rfl) (Nat.le_of_ble_eq_true rfl) (Nat.le_of_ble_eq_true rfl) (Nat.le_of_ble_eq_true rfl) hlocks hP hK hD rfl hw
    · have hw := hw.1 c4
      exact x0_throw (k := 0) (names := ["java/lang/RuntimeException", "java/lang/Exception"]) (text := "no such time or height") hx hb hst hown (by decide +kernel) (by decide +kernel) (hts (.classLink RX0 48 "java/lang/IllegalArgumentException") (by decide +kernel)) (hts (.initialized "java/lang/IllegalArgumentException") (by decide +kernel)) (by decide +kernel) hT (fun w h => hts w (by unfold wsX0_turn; exact List.mem_cons_of_mem _ (List.mem_append_left _ (List.mem_append_right _ h)))) (by decide +kernel) (by decide +kernel) (hl.1.trans hml.symm) dX0_turn_18 dX0_turn_21 dX0_turn_22 dX0_turn_24 dX0_turn_27 hout (Nat.le_of_ble_eq_true rfl) (Nat.le_of_ble_eq_true rfl) (Nat.le_of_ble_eq_true rfl) (Nat.le_of_ble_eq_true rfl) hlocks hP hK hD rfl hw

def wX0_height (post : Int64 → XS → Prop) (thr : Nat → Prop) (u : XS) (v1 : Int64) : Prop := (wX0_isInTable (fun r1 => ((r1 = 0 → (thr 0)) ∧ (¬ r1 = 0 → (wX0_heightAt (fun r3 => (post r3 u)) u v1)))) u v1)

set_option maxHeartbeats 4000000 in
set_option maxRecDepth 100000 in
theorem mX0_height (l : Launch) (hst : l.stackTraces = false) (D : va_G) (cJ : ClassId) (h0 a1 a2 a3 a4 a5 a6 tC tS sz : Nat) (u : XS) (v1 : Int64) (post : Int64 → XS → Prop) (thr : Nat → Prop) : vx_Met l yX0_height wsX0_height ({ frames := 6, cells := 1, slots := 6, locals := 90 } : Room) (va_Pc [.ref h0, .long v1] (fun U => XE D cJ h0 a1 a2 a3 a4 a5 a6 tC tS sz u U ∧ wX0_height post thr u v1)) (va_Ql post (fun u9 t9 => XT D cJ h0 a1 a2 a3 a4 a5 a6 (va_A (x0W cJ h0 a1 a2 a3 a4 a5 a6 u) sz) u9 t9) (va_A (x0W cJ h0 a1 a2 a3 a4 a5 a6 u) sz)) (vx_X thr (fun E9 k9 t9 => E9 = exN k9 ∧ XT D cJ h0 a1 a2 a3 a4 a5 a6 (va_A (x0W cJ h0 a1 a2 a3 a4 a5 a6 u) sz) u t9) (va_A (x0W cJ h0 a1 a2 a3 a4 a5 a6 u) sz)) 1 6 (va_A (x0W cJ h0 a1 a2 a3 a4 a5 a6 u) sz) := by
  refine vx_ofW (cc := cX0_height) (maxL := 3) (ret := (some .long)) (by decide +kernel) rfl ?_
  intro p e s m args below meth c s₁ B hml hout hv
  obtain ⟨rfl, ⟨hsz, hP, hK, hD0, hZ, hT⟩, hw⟩ := hv
  have hx := B.exec
  have hb := B.bytes
  have hr := B.returns
  have hts := atoms_spec (ws := wsX0_height) B.pre
  have hown : s.vm.findClass RX0 = some m.cls := findClass_of_methodNamed B.named
  have hlocks := B.notSynchronized
  have hin := ()
  subst hsz
  have hD := hD0.self (sz := s.heap.size)
  generalize hAe : va_A (x0W cJ h0 a1 a2 a3 a4 a5 a6 u) s.heap.size = A at hD hZ hT ⊢
  have hS : va_S A s.heap s.heap [] := va_S.rf
  have hW : XW D cJ h0 a1 a2 a3 a4 a5 a6 tC tS u s s.heap := ⟨hP, hK, hZ.narrow (fun _ h => h.elim)⟩
  have hl := lv_entry ([.ref h0, .long v1]) (n := 3) (Nat.le_of_ble_eq_true rfl)
  rw [lg_entry_eq]
  generalize (lg_sl ([.ref h0, .long v1]) ++ List.replicate (3 - (lg_sl ([.ref h0, .long v1])).length) Slot.unset).toArray = ls at hl ⊢
  have hl : lv_has ls 3 [(0, .ref h0), (1, .long v1)] := hl
  unfold wX0_height at hw
  refine lv_aload_n hx hb dX0_height_0 rfl (lv_at hl 0 rfl) ?_
  refine lv_lload_n hx hb dX0_height_1 rfl (lv_at hl 1 rfl) ?_
  refine pc_Vi (As := [.long v1]) (rest := []) ⟨hx, hb, hml, hown, hts⟩ (mX0_isInTable l D cJ h0 a1 a2 a3 a4 a5 a6 tC tS u v1 _) (cwV 1 hts gX0_height_X0_isInTable rfl rfl rfl (by decide +kernel) ⟨Nat.le_of_ble_eq_true rfl, Nat.le_of_ble_eq_true rfl⟩) (wX_rc hW) wX_bl (wX_in hW hw) rfl hl.1 rfl (Nat.le_of_ble_eq_true rfl) dX0_height_2 ⟨Nat.le_of_ble_eq_true rfl, Nat.le_of_ble_eq_true rfl⟩ (fun r1 hw => ?_)
  obtain ⟨z_r1, hw⟩ := hw
  refine lv_if_ne (tgt := 18) hx hb dX0_height_5 (by decide) (fun c2 => ?_) (fun c2 => ?_)
  · have hw := hw.2 c2
    refine lv_aload_n hx hb dX0_height_18 rfl (lv_at hl 0 rfl) ?_
    refine lv_lload_n hx hb dX0_height_19 rfl (lv_at hl 1 rfl) ?_
    refine pc_Vl (As := [.long v1]) (rest := []) ⟨hx, hb, hml, hown, hts⟩ (mX0_heightAt l D cJ h0 a1 a2 a3 a4 a5 a6 tC tS u v1 _) (cwV 1 hts gX0_height_X0_heightAt rfl rfl rfl (by decide +kernel) ⟨Nat.le_of_ble_eq_true rfl, Nat.le_of_ble_eq_true rfl⟩) (wX_rc hW) wX_bl (wX_in hW hw) rfl hl.1 rfl (Nat.le_of_ble_eq_true rfl) dX0_height_20 ⟨Nat.le_of_ble_eq_true rfl, Nat.le_of_ble_eq_true rfl⟩ (fun r3 hw => ?_)
    refine W.widen (k := 1) (n := 6) (Nat.le_of_ble_eq_true rfl) (Nat.le_of_ble_eq_true rfl) ?_
    exact vx_ret (W.lret (v := r3) hx hb hr (fun t ht hWm => ⟨⟨r3, u, rfl, hw, by rw [ht]; exact hP, va_K.moved hWm.alike hK, hD⟩, hS.F ht⟩) hS.2.2 dX0_height_23)
  · have hw := hw.1 c2
    exact x0_throw (k := 0) (names := ["java/lang/RuntimeException", "java/lang/Exception"]) (text := "outside the table") hx hb hst hown (by decide +kernel) (by decide +kernel) (hts (.classLink RX0 48 "java/lang/IllegalArgumentException") (by decide +kernel)) (hts (.initialized "java/lang/IllegalArgumentException") (by decide +kernel)) (by decide +kernel) hT (fun w h => hts w (by unfold wsX0_height; exact List.mem_cons_of_mem _ (List.mem_append_right _ h))) (by decide +kernel) (by decide +kernel) (hl.1.trans hml.symm) dX0_height_8 dX0_height_11 dX0_height_12 dX0_height_14 dX0_height_17 hout (Nat.le_of_ble_eq_true rfl) (Nat.le_of_ble_eq_true rfl) (Nat.le_of_ble_eq_true rfl) (Nat.le_of_ble_eq_true rfl) hlocks hP hK hD rfl hw

def wX0_observe (post : Int32 → XS → Prop) (thr : Nat → Prop) (u : XS) (v1 : Int64) (v3 : Int64) : Prop := (wX0_isInTable (fun r1 => ((r1 = 0 → (thr 0)) ∧ (¬ r1 = 0 → (wX0_isLevel (fun r3 => ((r3 = 0 → (thr 0)) ∧ (¬ r3 = 0 → (((xNO u) ≤ 0 → (((xNO u) < 16 → (vp_in (xNO u) 16 ∧ (wX0_tableHeight (fun r8 => (vp_in (xNO u) 16 ∧ (post ((xNO u) + 1) ((xTT u), (xTH u), (xNT u), (vp_updL (xOT u) ((xNO u)).toNatClampNeg v1), (vp_updL (xOD u) ((xNO u)).toNatClampNeg (v3 - r8)), ((xNO u) + 1), (xPW u), (xPB u), (xNP u))))) ((xTT u), (xTH u), (xNT u), (vp_updL (xOT u) ((xNO u)).toNatClampNeg v1), (xOD u), (xNO u), (xPW u), (xPB u), (xNP u)) v1))) ∧ (¬ (xNO u) < 16 → (thr 1)))) ∧ (¬ (xNO u) ≤ 0 → (vp_in ((xNO u) - 1) 16 ∧ ((((xOT u) (((xNO u) - 1)).toNatClampNeg) ≤ v1 → (((xNO u) < 16 → (vp_in (xNO u) 16 ∧ (wX0_tableHeight (fun r14 => (vp_in (xNO u) 16 ∧ (post ((xNO u) + 1) ((xTT u), (xTH u), (xNT u), (vp_updL (xOT u) ((xNO u)).toNatClampNeg v1), (vp_updL (xOD u) ((xNO u)).toNatClampNeg (v3 - r14)), ((xNO u) + 1), (xPW u), (xPB u), (xNP u))))) ((xTT u), (xTH u), (xNT u), (vp_updL (xOT u) ((xNO u)).toNatClampNeg v1), (xOD u), (xNO u), (xPW u), (xPB u), (xNP u)) v1))) ∧ (¬ (xNO u) < 16 → (thr 1)))) ∧ (¬ ((xOT u) (((xNO u) - 1)).toNatClampNeg) ≤ v1 → (thr 0))))))))) v3)))) u v1)

set_option maxHeartbeats 4000000 in
set_option maxRecDepth 100000 in
theorem mX0_observe (l : Launch) (hst : l.stackTraces = false) (D : va_G) (cJ : ClassId) (h0 a1 a2 a3 a4 a5 a6 tC tS sz : Nat) (u : XS) (v1 : Int64) (v3 : Int64) (post : Int32 → XS → Prop) (thr : Nat → Prop) : vx_Met l yX0_observe wsX0_observe ({ frames := 6, cells := 1, slots := 6, locals := 90 } : Room) (va_Pc [.ref h0, .long v1, .long v3] (fun U => XE D cJ h0 a1 a2 a3 a4 a5 a6 tC tS sz u U ∧ wX0_observe post thr u v1 v3)) (va_Qi post (fun u9 t9 => XT D cJ h0 a1 a2 a3 a4 a5 a6 (va_A (x0W cJ h0 a1 a2 a3 a4 a5 a6 u) sz) u9 t9) (va_A (x0W cJ h0 a1 a2 a3 a4 a5 a6 u) sz)) (vx_X thr (fun E9 k9 t9 => E9 = exN k9 ∧ XT D cJ h0 a1 a2 a3 a4 a5 a6 (va_A (x0W cJ h0 a1 a2 a3 a4 a5 a6 u) sz) u t9) (va_A (x0W cJ h0 a1 a2 a3 a4 a5 a6 u) sz)) 1 6 (va_A (x0W cJ h0 a1 a2 a3 a4 a5 a6 u) sz) := by
  refine vx_ofW (cc := cX0_observe) (maxL := 5) (ret := (some .int)) (by decide +kernel) rfl ?_
  intro p e s m args below meth c s₁ B hml hout hv
  obtain ⟨rfl, ⟨hsz, hP, hK, hD0, hZ, hT⟩, hw⟩ := hv
  have hx := B.exec
  have hb := B.bytes
  have hr := B.returns
  have hts := atoms_spec (ws := wsX0_observe) B.pre
  have hown : s.vm.findClass RX0 = some m.cls := findClass_of_methodNamed B.named
  have hlocks := B.notSynchronized
  have hin : ∀ w ∈ u_ws RX0 TX0 9, w ∈ wsX0_observe := by decide +kernel
  subst hsz
  have hD := hD0.self (sz := s.heap.size)
  generalize hAe : va_A (x0W cJ h0 a1 a2 a3 a4 a5 a6 u) s.heap.size = A at hD hZ hT ⊢
  have hS : va_S A s.heap s.heap [] := va_S.rf
  have hW : XW D cJ h0 a1 a2 a3 a4 a5 a6 tC tS u s s.heap := ⟨hP, hK, hZ.narrow (fun _ h => h.elim)⟩
  have hl := lv_entry ([.ref h0, .long v1, .long v3]) (n := 5) (Nat.le_of_ble_eq_true rfl)
  rw [lg_entry_eq]
  generalize (lg_sl ([.ref h0, .long v1, .long v3]) ++ List.replicate (5 - (lg_sl ([.ref h0, .long v1, .long v3])).length) Slot.unset).toArray = ls at hl ⊢
  have hl : lv_has ls 5 [(0, .ref h0), (1, .long v1), (3, .long v3)] := hl
  unfold wX0_observe at hw
  refine lv_aload_n hx hb dX0_observe_0 rfl (lv_at hl 0 rfl) ?_
  refine lv_lload_n hx hb dX0_observe_1 rfl (lv_at hl 1 rfl) ?_
  refine pc_Vi (As := [.long v1]) (rest := []) ⟨hx, hb, hml, hown, hts⟩ (mX0_isInTable l D cJ h0 a1 a2 a3 a4 a5 a6 tC tS u v1 _) (cwV 1 hts gX0_observe_X0_isInTable rfl rfl rfl (by decide +kernel) ⟨Nat.le_of_ble_eq_true rfl, Nat.le_of_ble_eq_true rfl⟩) (wX_rc hW) wX_bl (wX_in hW hw) rfl hl.1 rfl (Nat.le_of_ble_eq_true rfl) dX0_observe_2 ⟨Nat.le_of_ble_eq_true rfl, Nat.le_of_ble_eq_true rfl⟩ (fun r1 hw => ?_)
  obtain ⟨z_r1, hw⟩ := hw
  refine lv_if_eq (tgt := 15) hx hb dX0_observe_5 (by decide) (fun c2 => ?_) (fun c2 => ?_)
  · have hw := hw.1 c2
    exact x0_throw (k := 0) (names := ["java/lang/RuntimeException", "java/lang/Exception"]) (text := "outside the table, or no such height") hx hb hst hown (by decide +kernel) (by decide +kernel) (hts (.classLink RX0 48 "java/lang/IllegalArgumentException") (by decide +kernel)) (hts (.initialized "java/lang/IllegalArgumentException") (by decide +kernel)) (by decide +kernel) hT (fun w h => hts w (by unfold wsX0_observe; exact List.mem_cons_of_mem _ (List.mem_append_left _ (List.mem_append_right _ h)))) (by decide +kernel) (by decide +kernel) (hl.1.trans hml.symm) dX0_observe_15 dX0_observe_18 dX0_observe_19 dX0_observe_21 dX0_observe_24 hout (Nat.le_of_ble_eq_true rfl) (Nat.le_of_ble_eq_true rfl) (Nat.le_of_ble_eq_true rfl) (Nat.le_of_ble_eq_true rfl) hlocks hP hK hD rfl hw
  · have hw := hw.2 c2
    refine lv_lload_n hx hb dX0_observe_8 rfl (lv_at hl 2 rfl) ?_
    refine pc_Si (As := [.long v3]) (rest := []) ⟨hx, hb, hml, hown, hts⟩ (mX0_isLevel l v3 _) (va_cwS 1 hts gX0_observe_X0_isLevel rfl rfl rfl (by decide +kernel) ⟨Nat.le_of_ble_eq_true rfl, Nat.le_of_ble_eq_true rfl⟩) wK_bl (fun _ _ _ => hw) rfl hl.1 rfl (Nat.le_of_ble_eq_true rfl) dX0_observe_9 ⟨Nat.le_of_ble_eq_true rfl, Nat.le_of_ble_eq_true rfl⟩ (fun r3 hw => ?_)
    obtain ⟨z_r3, hw⟩ := hw
    refine lv_if_ne (tgt := 25) hx hb dX0_observe_12 (by decide) (fun c4 => ?_) (fun c4 => ?_)
    · have hw := hw.2 c4
      refine lv_aload_n hx hb dX0_observe_25 rfl (lv_at hl 0 rfl) ?_
      refine va_get (D := D) (ci := 0) (v := .int (xNO u)) (C := RX0) (T := TX0) (N := 9) hx hb hts hin hown hK hP 0 rfl rfl 5 (by decide) (hts (.fieldLink RX0 26 "TideDepths" "observations" "I") (by decide +kernel)) (fun _ h9 => h9) rfl dX0_observe_26 ?_
      refine lv_if_le (tgt := 58) hx hb dX0_observe_29 (by decide) (fun c5 => ?_) (fun c5 => ?_)
      · have hw := hw.1 c5
        refine lv_aload_n hx hb dX0_observe_58 rfl (lv_at hl 0 rfl) ?_
        refine va_get (D := D) (ci := 0) (v := .int (xNO u)) (C := RX0) (T := TX0) (N := 9) hx hb hts hin hown hK hP 0 rfl rfl 5 (by decide) (hts (.fieldLink RX0 26 "TideDepths" "observations" "I") (by decide +kernel)) (fun _ h9 => h9) rfl dX0_observe_59 ?_
        refine lv_bipush (v := 16) hx hb dX0_observe_62 (by decide) ?_
        refine lv_icmp_lt (tgt := 77) hx hb dX0_observe_64 (by decide) (fun c6 => ?_) (fun c6 => ?_)
        · have hw := hw.1 c6
          refine lv_aload_n hx hb dX0_observe_77 rfl (lv_at hl 0 rfl) ?_
          refine va_get (D := D) (ci := 0) (v := .ref a3) (C := RX0) (T := TX0) (N := 9) hx hb hts hin hown hK hP 0 rfl rfl 3 (by decide) (hts (.fieldLink RX0 20 "TideDepths" "observedTimes" "[J") (by decide +kernel)) (fun _ h9 => h9) rfl dX0_observe_78 ?_
          refine lv_aload_n hx hb dX0_observe_81 rfl (lv_at hl 0 rfl) ?_
          refine va_get (D := D) (ci := 0) (v := .int (xNO u)) (C := RX0) (T := TX0) (N := 9) hx hb hts hin hown hK hP 0 rfl rfl 5 (by decide) (hts (.fieldLink RX0 26 "TideDepths" "observations" "I") (by decide +kernel)) (fun _ h9 => h9) rfl dX0_observe_82 ?_
          refine lv_lload_n hx hb dX0_observe_85 rfl (lv_at hl 1 rfl) ?_
          obtain ⟨h7, hw⟩ := hw
          refine va_last hx hb hK hP hD hS 3 0 rfl rfl h7 dX0_observe_86 (fun H locs hP hD hS => ?_)
          have hP : va_P D cls2 (x0W cJ h0 a1 a2 a3 a4 a5 a6 ((xTT u), (xTH u), (xNT u), (vp_updL (xOT u) ((xNO u)).toNatClampNeg v1), (xOD u), (xNO u), (xPW u), (xPB u), (xNP u))) H := hP
          have hD : va_D A (x0W cJ h0 a1 a2 a3 a4 a5 a6 ((xTT u), (xTH u), (xNT u), (vp_updL (xOT u) ((xNO u)).toNatClampNeg v1), (xOD u), (xNO u), (xPW u), (xPB u), (xNP u))) := hD
          have hW : XW D cJ h0 a1 a2 a3 a4 a5 a6 tC tS ((xTT u), (xTH u), (xNT u), (vp_updL (xOT u) ((xNO u)).toNatClampNeg v1), (xOD u), (xNO u), (xPW u), (xPB u), (xNP u)) s H := ⟨hP, hK, (SW.kept hZ hS.2.1).narrow (fun _ h => h.elim)⟩
          refine lv_aload_n hx hb dX0_observe_87 rfl (lv_at hl 0 rfl) ?_
          refine va_get (D := D) (ci := 0) (v := .ref a4) (C := RX0) (T := TX0) (N := 9) hx hb hts hin hown hK hP 0 rfl rfl 4 (by decide) (hts (.fieldLink RX0 23 "TideDepths" "differences" "[J") (by decide +kernel)) (fun _ h9 => h9) rfl dX0_observe_88 ?_
          refine lv_aload_n hx hb dX0_observe_91 rfl (lv_at hl 0 rfl) ?_
          refine va_get (D := D) (ci := 0) (v := .int (xNO u)) (C := RX0) (T := TX0) (N := 9) hx hb hts hin hown hK hP 0 rfl rfl 5 (by decide) (hts (.fieldLink RX0 26 "TideDepths" "observations" "I") (by decide +kernel)) (fun _ h9 => h9) rfl dX0_observe_92 ?_
          refine lv_lload_n hx hb dX0_observe_95 rfl (lv_at hl 2 rfl) ?_
          refine lv_aload_n hx hb dX0_observe_96 rfl (lv_at hl 0 rfl) ?_
          refine lv_lload_n hx hb dX0_observe_97 rfl (lv_at hl 1 rfl) ?_
          refine pc_Vl (As := [.long v1]) (rest := [.long v3, .int (xNO u), .ref a4]) ⟨hx, hb, hml, hown, hts⟩ (mX0_tableHeight l D cJ h0 a1 a2 a3 a4 a5 a6 tC tS ((xTT u), (xTH u), (xNT u), (vp_updL (xOT u) ((xNO u)).toNatClampNeg v1), (xOD u), (xNO u), (xPW u), (xPB u), (xNP u)) v1 _) (cwV 1 hts gX0_observe_X0_tableHeight rfl rfl rfl (by decide +kernel) ⟨Nat.le_of_ble_eq_true rfl, Nat.le_of_ble_eq_true rfl⟩) (wX_rc hW) wX_bl (wX_in hW hw) rfl hl.1 rfl (Nat.le_of_ble_eq_true rfl) dX0_observe_98 ⟨Nat.le_of_ble_eq_true rfl, Nat.le_of_ble_eq_true rfl⟩ (fun r8 hw => ?_)
          refine lv_lsub hx hb dX0_observe_101 ?_
          obtain ⟨h9, hw⟩ := hw
          refine va_last hx hb hK hP hD hS 4 0 rfl rfl h9 dX0_observe_102 (fun H locs hP hD hS => ?_)
          have hP : va_P D cls2 (x0W cJ h0 a1 a2 a3 a4 a5 a6 ((xTT u), (xTH u), (xNT u), (vp_updL (xOT u) ((xNO u)).toNatClampNeg v1), (vp_updL (xOD u) ((xNO u)).toNatClampNeg (v3 - r8)), (xNO u), (xPW u), (xPB u), (xNP u))) H := hP
          have hD : va_D A (x0W cJ h0 a1 a2 a3 a4 a5 a6 ((xTT u), (xTH u), (xNT u), (vp_updL (xOT u) ((xNO u)).toNatClampNeg v1), (vp_updL (xOD u) ((xNO u)).toNatClampNeg (v3 - r8)), (xNO u), (xPW u), (xPB u), (xNP u))) := hD
          have hW : XW D cJ h0 a1 a2 a3 a4 a5 a6 tC tS ((xTT u), (xTH u), (xNT u), (vp_updL (xOT u) ((xNO u)).toNatClampNeg v1), (vp_updL (xOD u) ((xNO u)).toNatClampNeg (v3 - r8)), (xNO u), (xPW u), (xPB u), (xNP u)) s H := ⟨hP, hK, (SW.kept hZ hS.2.1).narrow (fun _ h => h.elim)⟩
          refine lv_aload_n hx hb dX0_observe_103 rfl (lv_at hl 0 rfl) ?_
          refine lv_dup hx hb dX0_observe_104 rfl ?_
          refine va_get (D := D) (ci := 0) (v := .int (xNO u)) (C := RX0) (T := TX0) (N := 9) hx hb hts hin hown hK hP 0 rfl rfl 5 (by decide) (hts (.fieldLink RX0 26 "TideDepths" "observations" "I") (by decide +kernel)) (fun _ h9 => h9) rfl dX0_observe_105 ?_
          refine lv_iconst (v := 1) hx hb dX0_observe_108 (by decide) ?_
          refine lv_iadd hx hb dX0_observe_109 ?_
          refine va_put (D := D) (ci := 0) (v := .int ((xNO u) + 1)) (ty := .int) (C := RX0) (T := TX0) (N := 9) hx hb hts hin tyX0 tyX0_ok nmX0 hown hK hP hD hS 0 rfl rfl 5 (by decide) (hts (.fieldLink RX0 26 "TideDepths" "observations" "I") (by decide +kernel)) (fun _ h9 => h9) rfl (by decide +kernel) rfl rfl (Nat.le_of_ble_eq_true rfl) dX0_observe_110 (fun H locs hP hD hS => ?_)
          have hP : va_P D cls2 (x0W cJ h0 a1 a2 a3 a4 a5 a6 ((xTT u), (xTH u), (xNT u), (vp_updL (xOT u) ((xNO u)).toNatClampNeg v1), (vp_updL (xOD u) ((xNO u)).toNatClampNeg (v3 - r8)), ((xNO u) + 1), (xPW u), (xPB u), (xNP u))) H := hP
          have hD : va_D A (x0W cJ h0 a1 a2 a3 a4 a5 a6 ((xTT u), (xTH u), (xNT u), (vp_updL (xOT u) ((xNO u)).toNatClampNeg v1), (vp_updL (xOD u) ((xNO u)).toNatClampNeg (v3 - r8)), ((xNO u) + 1), (xPW u), (xPB u), (xNP u))) := hD
          have hW : XW D cJ h0 a1 a2 a3 a4 a5 a6 tC tS ((xTT u), (xTH u), (xNT u), (vp_updL (xOT u) ((xNO u)).toNatClampNeg v1), (vp_updL (xOD u) ((xNO u)).toNatClampNeg (v3 - r8)), ((xNO u) + 1), (xPW u), (xPB u), (xNP u)) s H := ⟨hP, hK, (SW.kept hZ hS.2.1).narrow (fun _ h => h.elim)⟩
          refine lv_aload_n hx hb dX0_observe_113 rfl (lv_at hl 0 rfl) ?_
          refine va_get (D := D) (ci := 0) (v := .int ((xNO u) + 1)) (C := RX0) (T := TX0) (N := 9) hx hb hts hin hown hK hP 0 rfl rfl 5 (by decide) (hts (.fieldLink RX0 26 "TideDepths" "observations" "I") (by decide +kernel)) (fun _ h9 => h9) rfl dX0_observe_114 ?_
          refine W.widen (k := 1) (n := 6) (Nat.le_of_ble_eq_true rfl) (Nat.le_of_ble_eq_true rfl) ?_
          exact vx_ret (W.iret (v := ((xNO u) + 1)) hx hb hr (fun t ht hWm => ⟨⟨((xNO u) + 1), ((xTT u), (xTH u), (xNT u), (vp_updL (xOT u) ((xNO u)).toNatClampNeg v1), (vp_updL (xOD u) ((xNO u)).toNatClampNeg (v3 - r8)), ((xNO u) + 1), (xPW u), (xPB u), (xNP u)), rfl, hw, by rw [ht]; exact hP, va_K.moved hWm.alike hK, hD⟩, hS.F ht⟩) hS.2.2 dX0_observe_117)
        · have hw := hw.2 c6
          exact x0_throw (k := 1) (names := ["java/lang/RuntimeException", "java/lang/Exception"]) (text := "no room for an observation") hx hb hst hown (by decide +kernel) (by decide +kernel) (hts (.classLink RX0 57 "java/lang/IllegalStateException") (by decide +kernel)) (hts (.initialized "java/lang/IllegalStateException") (by decide +kernel)) (by decide +kernel) hT (fun w h => hts w (by unfold wsX0_observe; exact List.mem_cons_of_mem _ (List.mem_append_right _ h))) (by decide +kernel) (by decide +kernel) (hl.1.trans hml.symm) dX0_observe_67 dX0_observe_70 dX0_observe_71 dX0_observe_73 dX0_observe_76 hout (Nat.le_of_ble_eq_true rfl) (Nat.le_of_ble_eq_true rfl) (Nat.le_of_ble_eq_true rfl) (Nat.le_of_ble_eq_true rfl) hlocks hP hK hD rfl hw
      · have hw := hw.2 c5
        refine lv_lload_n hx hb dX0_observe_32 rfl (lv_at hl 1 rfl) ?_
        refine lv_aload_n hx hb dX0_observe_33 rfl (lv_at hl 0 rfl) ?_
        refine va_get (D := D) (ci := 0) (v := .ref a3) (C := RX0) (T := TX0) (N := 9) hx hb hts hin hown hK hP 0 rfl rfl 3 (by decide) (hts (.fieldLink RX0 20 "TideDepths" "observedTimes" "[J") (by decide +kernel)) (fun _ h9 => h9) rfl dX0_observe_34 ?_
        refine lv_aload_n hx hb dX0_observe_37 rfl (lv_at hl 0 rfl) ?_
        refine va_get (D := D) (ci := 0) (v := .int (xNO u)) (C := RX0) (T := TX0) (N := 9) hx hb hts hin hown hK hP 0 rfl rfl 5 (by decide) (hts (.fieldLink RX0 26 "TideDepths" "observations" "I") (by decide +kernel)) (fun _ h9 => h9) rfl dX0_observe_38 ?_
        refine lv_iconst (v := 1) hx hb dX0_observe_41 (by decide) ?_
        refine lv_isub hx hb dX0_observe_42 ?_
        obtain ⟨h10, hw⟩ := hw
        refine va_lald hx hb hK hP 3 0 rfl rfl h10 dX0_observe_43 ?_
        refine bl_ge (tgt := 58) hx hb dX0_observe_44 dX0_observe_45 (by decide) (fun c11 => ?_) (fun c11 => ?_)
        · have hw := hw.1 c11
          refine lv_aload_n hx hb dX0_observe_58 rfl (lv_at hl 0 rfl) ?_
          refine va_get (D := D) (ci := 0) (v := .int (xNO u)) (C := RX0) (T := TX0) (N := 9) hx hb hts hin hown hK hP 0 rfl rfl 5 (by decide) (hts (.fieldLink RX0 26 "TideDepths" "observations" "I") (by decide +kernel)) (fun _ h9 => h9) rfl dX0_observe_59 ?_
          refine lv_bipush (v := 16) hx hb dX0_observe_62 (by decide) ?_
          refine lv_icmp_lt (tgt := 77) hx hb dX0_observe_64 (by decide) (fun c12 => ?_) (fun c12 => ?_)
          · have hw := hw.1 c12
            refine lv_aload_n hx hb dX0_observe_77 rfl (lv_at hl 0 rfl) ?_
            refine va_get (D := D) (ci := 0) (v := .ref a3) (C := RX0) (T := TX0) (N := 9) hx hb hts hin hown hK hP 0 rfl rfl 3 (by decide) (hts (.fieldLink RX0 20 "TideDepths" "observedTimes" "[J") (by decide +kernel)) (fun _ h9 => h9) rfl dX0_observe_78 ?_
            refine lv_aload_n hx hb dX0_observe_81 rfl (lv_at hl 0 rfl) ?_
            refine va_get (D := D) (ci := 0) (v := .int (xNO u)) (C := RX0) (T := TX0) (N := 9) hx hb hts hin hown hK hP 0 rfl rfl 5 (by decide) (hts (.fieldLink RX0 26 "TideDepths" "observations" "I") (by decide +kernel)) (fun _ h9 => h9) rfl dX0_observe_82 ?_
            refine lv_lload_n hx hb dX0_observe_85 rfl (lv_at hl 1 rfl) ?_
            obtain ⟨h13, hw⟩ := hw
            refine va_last hx hb hK hP hD hS 3 0 rfl rfl h13 dX0_observe_86 (fun H locs hP hD hS => ?_)
            have hP : va_P D cls2 (x0W cJ h0 a1 a2 a3 a4 a5 a6 ((xTT u), (xTH u), (xNT u), (vp_updL (xOT u) ((xNO u)).toNatClampNeg v1), (xOD u), (xNO u), (xPW u), (xPB u), (xNP u))) H := hP
            have hD : va_D A (x0W cJ h0 a1 a2 a3 a4 a5 a6 ((xTT u), (xTH u), (xNT u), (vp_updL (xOT u) ((xNO u)).toNatClampNeg v1), (xOD u), (xNO u), (xPW u), (xPB u), (xNP u))) := hD
            have hW : XW D cJ h0 a1 a2 a3 a4 a5 a6 tC tS ((xTT u), (xTH u), (xNT u), (vp_updL (xOT u) ((xNO u)).toNatClampNeg v1), (xOD u), (xNO u), (xPW u), (xPB u), (xNP u)) s H := ⟨hP, hK, (SW.kept hZ hS.2.1).narrow (fun _ h => h.elim)⟩
            refine lv_aload_n hx hb dX0_observe_87 rfl (lv_at hl 0 rfl) ?_
            refine va_get (D := D) (ci := 0) (v := .ref a4) (C := RX0) (T := TX0) (N := 9) hx hb hts hin hown hK hP 0 rfl rfl 4 (by decide) (hts (.fieldLink RX0 23 "TideDepths" "differences" "[J") (by decide +kernel)) (fun _ h9 => h9) rfl dX0_observe_88 ?_
            refine lv_aload_n hx hb dX0_observe_91 rfl (lv_at hl 0 rfl) ?_
            refine va_get (D := D) (ci := 0) (v := .int (xNO u)) (C := RX0) (T := TX0) (N := 9) hx hb hts hin hown hK hP 0 rfl rfl 5 (by decide) (hts (.fieldLink RX0 26 "TideDepths" "observations" "I") (by decide +kernel)) (fun _ h9 => h9) rfl dX0_observe_92 ?_
            refine lv_lload_n hx hb dX0_observe_95 rfl (lv_at hl 2 rfl) ?_
            refine lv_aload_n hx hb dX0_observe_96 rfl (lv_at hl 0 rfl) ?_
            refine lv_lload_n hx hb dX0_observe_97 rfl (lv_at hl 1 rfl) ?_
            refine pc_Vl (As := [.long v1]) (rest := [.long v3, .int (xNO u), .ref a4]) ⟨hx, hb, hml, hown, hts⟩ (mX0_tableHeight l D cJ h0 a1 a2 a3 a4 a5 a6 tC tS ((xTT u), (xTH u), (xNT u), (vp_updL (xOT u) ((xNO u)).toNatClampNeg v1), (xOD u), (xNO u), (xPW u), (xPB u), (xNP u)) v1 _) (cwV 1 hts gX0_observe_X0_tableHeight rfl rfl rfl (by decide +kernel) ⟨Nat.le_of_ble_eq_true rfl, Nat.le_of_ble_eq_true rfl⟩) (wX_rc hW) wX_bl (wX_in hW hw) rfl hl.1 rfl (Nat.le_of_ble_eq_true rfl) dX0_observe_98 ⟨Nat.le_of_ble_eq_true rfl, Nat.le_of_ble_eq_true rfl⟩ (fun r14 hw => ?_)
            refine lv_lsub hx hb dX0_observe_101 ?_
            obtain ⟨h15, hw⟩ := hw
            refine va_last hx hb hK hP hD hS 4 0 rfl rfl h15 dX0_observe_102 (fun H locs hP hD hS => ?_)
            have hP : va_P D cls2 (x0W cJ h0 a1 a2 a3 a4 a5 a6 ((xTT u), (xTH u), (xNT u), (vp_updL (xOT u) ((xNO u)).toNatClampNeg v1), (vp_updL (xOD u) ((xNO u)).toNatClampNeg (v3 - r14)), (xNO u), (xPW u), (xPB u), (xNP u))) H := hP
            have hD : va_D A (x0W cJ h0 a1 a2 a3 a4 a5 a6 ((xTT u), (xTH u), (xNT u), (vp_updL (xOT u) ((xNO u)).toNatClampNeg v1), (vp_updL (xOD u) ((xNO u)).toNatClampNeg (v3 - r14)), (xNO u), (xPW u), (xPB u), (xNP u))) := hD
            have hW : XW D cJ h0 a1 a2 a3 a4 a5 a6 tC tS ((xTT u), (xTH u), (xNT u), (vp_updL (xOT u) ((xNO u)).toNatClampNeg v1), (vp_updL (xOD u) ((xNO u)).toNatClampNeg (v3 - r14)), (xNO u), (xPW u), (xPB u), (xNP u)) s H := ⟨hP, hK, (SW.kept hZ hS.2.1).narrow (fun _ h => h.elim)⟩
            refine lv_aload_n hx hb dX0_observe_103 rfl (lv_at hl 0 rfl) ?_
            refine lv_dup hx hb dX0_observe_104 rfl ?_
            refine va_get (D := D) (ci := 0) (v := .int (xNO u)) (C := RX0) (T := TX0) (N := 9) hx hb hts hin hown hK hP 0 rfl rfl 5 (by decide) (hts (.fieldLink RX0 26 "TideDepths" "observations" "I") (by decide +kernel)) (fun _ h9 => h9) rfl dX0_observe_105 ?_
            refine lv_iconst (v := 1) hx hb dX0_observe_108 (by decide) ?_
            refine lv_iadd hx hb dX0_observe_109 ?_
            refine va_put (D := D) (ci := 0) (v := .int ((xNO u) + 1)) (ty := .int) (C := RX0) (T := TX0) (N := 9) hx hb hts hin tyX0 tyX0_ok nmX0 hown hK hP hD hS 0 rfl rfl 5 (by decide) (hts (.fieldLink RX0 26 "TideDepths" "observations" "I") (by decide +kernel)) (fun _ h9 => h9) rfl (by decide +kernel) rfl rfl (Nat.le_of_ble_eq_true rfl) dX0_observe_110 (fun H locs hP hD hS => ?_)
            have hP : va_P D cls2 (x0W cJ h0 a1 a2 a3 a4 a5 a6 ((xTT u), (xTH u), (xNT u), (vp_updL (xOT u) ((xNO u)).toNatClampNeg v1), (vp_updL (xOD u) ((xNO u)).toNatClampNeg (v3 - r14)), ((xNO u) + 1), (xPW u), (xPB u), (xNP u))) H := hP
            have hD : va_D A (x0W cJ h0 a1 a2 a3 a4 a5 a6 ((xTT u), (xTH u), (xNT u), (vp_updL (xOT u) ((xNO u)).toNatClampNeg v1), (vp_updL (xOD u) ((xNO u)).toNatClampNeg (v3 - r14)), ((xNO u) + 1), (xPW u), (xPB u), (xNP u))) := hD
            have hW : XW D cJ h0 a1 a2 a3 a4 a5 a6 tC tS ((xTT u), (xTH u), (xNT u), (vp_updL (xOT u) ((xNO u)).toNatClampNeg v1), (vp_updL (xOD u) ((xNO u)).toNatClampNeg (v3 - r14)), ((xNO u) + 1), (xPW u), (xPB u), (xNP u)) s H := ⟨hP, hK, (SW.kept hZ hS.2.1).narrow (fun _ h => h.elim)⟩
            refine lv_aload_n hx hb dX0_observe_113 rfl (lv_at hl 0 rfl) ?_
            refine va_get (D := D) (ci := 0) (v := .int ((xNO u) + 1)) (C := RX0) (T := TX0) (N := 9) hx hb hts hin hown hK hP 0 rfl rfl 5 (by decide) (hts (.fieldLink RX0 26 "TideDepths" "observations" "I") (by decide +kernel)) (fun _ h9 => h9) rfl dX0_observe_114 ?_
            refine W.widen (k := 1) (n := 6) (Nat.le_of_ble_eq_true rfl) (Nat.le_of_ble_eq_true rfl) ?_
            exact vx_ret (W.iret (v := ((xNO u) + 1)) hx hb hr (fun t ht hWm => ⟨⟨((xNO u) + 1), ((xTT u), (xTH u), (xNT u), (vp_updL (xOT u) ((xNO u)).toNatClampNeg v1), (vp_updL (xOD u) ((xNO u)).toNatClampNeg (v3 - r14)), ((xNO u) + 1), (xPW u), (xPB u), (xNP u)), rfl, hw, by rw [ht]; exact hP, va_K.moved hWm.alike hK, hD⟩, hS.F ht⟩) hS.2.2 dX0_observe_117)
          · have hw := hw.2 c12
            exact x0_throw (k := 1) (names := ["java/lang/RuntimeException", "java/lang/Exception"]) (text := "no room for an observation") hx hb hst hown (by decide +kernel) (by decide +kernel) (hts (.classLink RX0 57 "java/lang/IllegalStateException") (by decide +kernel)) (hts (.initialized "java/lang/IllegalStateException") (by decide +kernel)) (by decide +kernel) hT (fun w h => hts w (by unfold wsX0_observe; exact List.mem_cons_of_mem _ (List.mem_append_right _ h))) (by decide +kernel) (by decide +kernel) (hl.1.trans hml.symm) dX0_observe_67 dX0_observe_70 dX0_observe_71 dX0_observe_73 dX0_observe_76 hout (Nat.le_of_ble_eq_true rfl) (Nat.le_of_ble_eq_true rfl) (Nat.le_of_ble_eq_true rfl) (Nat.le_of_ble_eq_true rfl) hlocks hP hK hD rfl hw
        · have hw := hw.2 c11
          exact x0_throw (k := 0) (names := ["java/lang/RuntimeException", "java/lang/Exception"]) (text := "ahead of the latest observation") hx hb hst hown (by decide +kernel) (by decide +kernel) (hts (.classLink RX0 48 "java/lang/IllegalArgumentException") (by decide +kernel)) (hts (.initialized "java/lang/IllegalArgumentException") (by decide +kernel)) (by decide +kernel) hT (fun w h => hts w (by unfold wsX0_observe; exact List.mem_cons_of_mem _ (List.mem_append_left _ (List.mem_append_right _ h)))) (by decide +kernel) (by decide +kernel) (hl.1.trans hml.symm) dX0_observe_48 dX0_observe_51 dX0_observe_52 dX0_observe_54 dX0_observe_57 hout (Nat.le_of_ble_eq_true rfl) (Nat.le_of_ble_eq_true rfl) (Nat.le_of_ble_eq_true rfl) (Nat.le_of_ble_eq_true rfl) hlocks hP hK hD rfl hw
    · have hw := hw.1 c4
      exact x0_throw (k := 0) (names := ["java/lang/RuntimeException", "java/lang/Exception"]) (text := "outside the table, or no such height") hx hb hst hown (by decide +kernel) (by decide +kernel) (hts (.classLink RX0 48 "java/lang/IllegalArgumentException") (by decide +kernel)) (hts (.initialized "java/lang/IllegalArgumentException") (by decide +kernel)) (by decide +kernel) hT (fun w h => hts w (by unfold wsX0_observe; exact List.mem_cons_of_mem _ (List.mem_append_left _ (List.mem_append_right _ h)))) (by decide +kernel) (by decide +kernel) (hl.1.trans hml.symm) dX0_observe_15 dX0_observe_18 dX0_observe_19 dX0_observe_21 dX0_observe_24 hout (Nat.le_of_ble_eq_true rfl) (Nat.le_of_ble_eq_true rfl) (Nat.le_of_ble_eq_true rfl) (Nat.le_of_ble_eq_true rfl) hlocks hP hK hD rfl hw

def wX0_span (post : Int32 → XS → Prop) (thr : Nat → Prop) (u : XS) (v1 : Int64) (v3 : Int64) (v5 : Int64) (v7 : Int32) : Prop := (wX0_isInTable (fun r1 => ((r1 = 0 → (thr 0)) ∧ (¬ r1 = 0 → (wX0_isLevel (fun r3 => ((r3 = 0 → (thr 0)) ∧ (¬ r3 = 0 → (wX0_isLevel (fun r5 => ((r5 = 0 → (thr 0)) ∧ (¬ r5 = 0 → (wX0_isWithin (fun r7 => ((r7 = 0 → (thr 0)) ∧ (¬ r7 = 0 → ((v7 < 2 → (wX0_nextSecond (fun r11 => (wX0_lastSecond (fun r12 => ((r11 ≤ r12 → ((v7 = 0 → (post (r11).toInt32 u)) ∧ (¬ v7 = 0 → ((v7 = 2 → (post (r11).toInt32 u)) ∧ (¬ v7 = 2 → (wX0_nextSecond (fun r18 => (post ((r18 - 1)).toInt32 u)) u (v3 - v1) r11 0)))))) ∧ (¬ r11 ≤ r12 → (post (-1) u)))) u)) u (v3 - v1) v5 1)) ∧ (¬ v7 < 2 → (wX0_longestSpan (fun r21 => (wX0_lastSecond (fun r22 => ((r21 ≤ r22 → ((v7 = 0 → (post (r21).toInt32 u)) ∧ (¬ v7 = 0 → ((v7 = 2 → (post (r21).toInt32 u)) ∧ (¬ v7 = 2 → (wX0_nextSecond (fun r28 => (post ((r28 - 1)).toInt32 u)) u (v3 - v1) r21 0)))))) ∧ (¬ r21 ≤ r22 → (post (-1) u)))) u)) u (v3 - v1) v5)))))) (v7).toInt64 0 3)))) v3)))) v1)))) u v5)

set_option maxHeartbeats 4000000 in
set_option maxRecDepth 100000 in
theorem mX0_span (l : Launch) (hst : l.stackTraces = false) (D : va_G) (cJ : ClassId) (h0 a1 a2 a3 a4 a5 a6 tC tS sz : Nat) (u : XS) (v1 : Int64) (v3 : Int64) (v5 : Int64) (v7 : Int32) (post : Int32 → XS → Prop) (thr : Nat → Prop) : vx_Met l yX0_span wsX0_span ({ frames := 6, cells := 1, slots := 6, locals := 178 } : Room) (va_Pc [.ref h0, .long v1, .long v3, .long v5, .int v7] (fun U => XE D cJ h0 a1 a2 a3 a4 a5 a6 tC tS sz u U ∧ wX0_span post thr u v1 v3 v5 v7)) (va_Qi post (fun u9 t9 => XT D cJ h0 a1 a2 a3 a4 a5 a6 (va_A (x0W cJ h0 a1 a2 a3 a4 a5 a6 u) sz) u9 t9) (va_A (x0W cJ h0 a1 a2 a3 a4 a5 a6 u) sz)) (vx_X thr (fun E9 k9 t9 => E9 = exN k9 ∧ XT D cJ h0 a1 a2 a3 a4 a5 a6 (va_A (x0W cJ h0 a1 a2 a3 a4 a5 a6 u) sz) u t9) (va_A (x0W cJ h0 a1 a2 a3 a4 a5 a6 u) sz)) 1 6 (va_A (x0W cJ h0 a1 a2 a3 a4 a5 a6 u) sz) := by
  refine vx_ofW (cc := cX0_span) (maxL := 14) (ret := (some .int)) (by decide +kernel) rfl ?_
  intro p e s m args below meth c s₁ B hml hout hv
  obtain ⟨rfl, ⟨hsz, hP, hK, hD0, hZ, hT⟩, hw⟩ := hv
  have hx := B.exec
  have hb := B.bytes
  have hr := B.returns
  have hts := atoms_spec (ws := wsX0_span) B.pre
  have hown : s.vm.findClass RX0 = some m.cls := findClass_of_methodNamed B.named
  have hlocks := B.notSynchronized
  have hin := ()
  subst hsz
  have hD := hD0.self (sz := s.heap.size)
  generalize hAe : va_A (x0W cJ h0 a1 a2 a3 a4 a5 a6 u) s.heap.size = A at hD hZ hT ⊢
  have hS : va_S A s.heap s.heap [] := va_S.rf
  have hW : XW D cJ h0 a1 a2 a3 a4 a5 a6 tC tS u s s.heap := ⟨hP, hK, hZ.narrow (fun _ h => h.elim)⟩
  have hl := lv_entry ([.ref h0, .long v1, .long v3, .long v5, .int v7]) (n := 14) (Nat.le_of_ble_eq_true rfl)
  rw [lg_entry_eq]
  generalize (lg_sl ([.ref h0, .long v1, .long v3, .long v5, .int v7]) ++ List.replicate (14 - (lg_sl ([.ref h0, .long v1, .long v3, .long v5, .int v7])).length) Slot.unset).toArray = ls at hl ⊢
  have hl : lv_has ls 14 [(0, .ref h0), (1, .long v1), (3, .long v3), (5, .long v5), (7, .int v7)] := hl
  unfold wX0_span at hw
  refine lv_aload_n hx hb dX0_span_0 rfl (lv_at hl 0 rfl) ?_
  refine lv_lload hx hb dX0_span_1 (lv_at hl 3 rfl) ?_
  refine pc_Vi (As := [.long v5]) (rest := []) ⟨hx, hb, hml, hown, hts⟩ (mX0_isInTable l D cJ h0 a1 a2 a3 a4 a5 a6 tC tS u v5 _) (cwV 1 hts gX0_span_X0_isInTable rfl rfl rfl (by decide +kernel) ⟨Nat.le_of_ble_eq_true rfl, Nat.le_of_ble_eq_true rfl⟩) (wX_rc hW) wX_bl (wX_in hW hw) rfl hl.1 rfl (Nat.le_of_ble_eq_true rfl) dX0_span_3 ⟨Nat.le_of_ble_eq_true rfl, Nat.le_of_ble_eq_true rfl⟩ (fun r1 hw => ?_)
  obtain ⟨z_r1, hw⟩ := hw
  refine lv_if_eq (tgt := 36) hx hb dX0_span_6 (by decide) (fun c2 => ?_) (fun c2 => ?_)
  · have hw := hw.1 c2
    exact x0_throw (k := 0) (names := ["java/lang/RuntimeException", "java/lang/Exception"]) (text := "outside the table, or no such base, need or side") hx hb hst hown (by decide +kernel) (by decide +kernel) (hts (.classLink RX0 48 "java/lang/IllegalArgumentException") (by decide +kernel)) (hts (.initialized "java/lang/IllegalArgumentException") (by decide +kernel)) (by decide +kernel) hT (fun w h => hts w (by unfold wsX0_span; exact List.mem_cons_of_mem _ (List.mem_append_right _ h))) (by decide +kernel) (by decide +kernel) (hl.1.trans hml.symm) dX0_span_36 dX0_span_39 dX0_span_40 dX0_span_42 dX0_span_45 hout (Nat.le_of_ble_eq_true rfl) (Nat.le_of_ble_eq_true rfl) (Nat.le_of_ble_eq_true rfl) (Nat.le_of_ble_eq_true rfl) hlocks hP hK hD rfl hw
  · have hw := hw.2 c2
    refine lv_lload_n hx hb dX0_span_9 rfl (lv_at hl 1 rfl) ?_
    refine pc_Si (As := [.long v1]) (rest := []) ⟨hx, hb, hml, hown, hts⟩ (mX0_isLevel l v1 _) (va_cwS 1 hts gX0_span_X0_isLevel rfl rfl rfl (by decide +kernel) ⟨Nat.le_of_ble_eq_true rfl, Nat.le_of_ble_eq_true rfl⟩) wK_bl (fun _ _ _ => hw) rfl hl.1 rfl (Nat.le_of_ble_eq_true rfl) dX0_span_10 ⟨Nat.le_of_ble_eq_true rfl, Nat.le_of_ble_eq_true rfl⟩ (fun r3 hw => ?_)
    obtain ⟨z_r3, hw⟩ := hw
    refine lv_if_eq (tgt := 36) hx hb dX0_span_13 (by decide) (fun c4 => ?_) (fun c4 => ?_)
    · have hw := hw.1 c4
      exact x0_throw (k := 0) (names := ["java/lang/RuntimeException", "java/lang/Exception"]) (text := "outside the table, or no such base, need or side") hx hb hst hown (by decide +kernel) (by decide +kernel) (hts (.classLink RX0 48 "java/lang/IllegalArgumentException") (by decide +kernel)) (hts (.initialized "java/lang/IllegalArgumentException") (by decide +kernel)) (by decide +kernel) hT (fun w h => hts w (by unfold wsX0_span; exact List.mem_cons_of_mem _ (List.mem_append_right _ h))) (by decide +kernel) (by decide +kernel) (hl.1.trans hml.symm) dX0_span_36 dX0_span_39 dX0_span_40 dX0_span_42 dX0_span_45 hout (Nat.le_of_ble_eq_true rfl) (Nat.le_of_ble_eq_true rfl) (Nat.le_of_ble_eq_true rfl) (Nat.le_of_ble_eq_true rfl) hlocks hP hK hD rfl hw
    · have hw := hw.2 c4
      refine lv_lload_n hx hb dX0_span_16 rfl (lv_at hl 2 rfl) ?_
      refine pc_Si (As := [.long v3]) (rest := []) ⟨hx, hb, hml, hown, hts⟩ (mX0_isLevel l v3 _) (va_cwS 1 hts gX0_span_X0_isLevel rfl rfl rfl (by decide +kernel) ⟨Nat.le_of_ble_eq_true rfl, Nat.le_of_ble_eq_true rfl⟩) wK_bl (fun _ _ _ => hw) rfl hl.1 rfl (Nat.le_of_ble_eq_true rfl) dX0_span_17 ⟨Nat.le_of_ble_eq_true rfl, Nat.le_of_ble_eq_true rfl⟩ (fun r5 hw => ?_)
      obtain ⟨z_r5, hw⟩ := hw
      refine lv_if_eq (tgt := 36) hx hb dX0_span_20 (by decide) (fun c6 => ?_) (fun c6 => ?_)
      · have hw := hw.1 c6
        exact x0_throw (k := 0) (names := ["java/lang/RuntimeException", "java/lang/Exception"]) (text := "outside the table, or no such base, need or side") hx hb hst hown (by decide +kernel) (by decide +kernel) (hts (.classLink RX0 48 "java/lang/IllegalArgumentException") (by decide +kernel)) (hts (.initialized "java/lang/IllegalArgumentException") (by decide +kernel)) (by decide +kernel) hT (fun w h => hts w (by unfold wsX0_span; exact List.mem_cons_of_mem _ (List.mem_append_right _ h))) (by decide +kernel) (by decide +kernel) (hl.1.trans hml.symm) dX0_span_36 dX0_span_39 dX0_span_40 dX0_span_42 dX0_span_45 hout (Nat.le_of_ble_eq_true rfl) (Nat.le_of_ble_eq_true rfl) (Nat.le_of_ble_eq_true rfl) (Nat.le_of_ble_eq_true rfl) hlocks hP hK hD rfl hw
      · have hw := hw.2 c6
        refine lv_iload hx hb dX0_span_23 (lv_at hl 4 rfl) ?_
        refine lv_i2l (v := (v7).toInt64) hx hb dX0_span_25 rfl ?_
        refine lv_lconst (v := 0) hx hb dX0_span_26 (by decide) ?_
        refine lv_ldc2 (v := 3) hx hb hown (hts (.constantLong RX0 83 (3)) (by decide +kernel)) dX0_span_27 ?_
        refine pc_Si (As := [.long (v7).toInt64, .long 0, .long 3]) (rest := []) ⟨hx, hb, hml, hown, hts⟩ (mX0_isWithin l (v7).toInt64 0 3 _) (va_cwS 3 hts gX0_span_X0_isWithin rfl rfl rfl (by decide +kernel) ⟨Nat.le_of_ble_eq_true rfl, Nat.le_of_ble_eq_true rfl⟩) wK_bl (fun _ _ _ => hw) rfl hl.1 rfl (Nat.le_of_ble_eq_true rfl) dX0_span_30 ⟨Nat.le_of_ble_eq_true rfl, Nat.le_of_ble_eq_true rfl⟩ (fun r7 hw => ?_)
        obtain ⟨z_r7, hw⟩ := hw
        refine lv_if_ne (tgt := 46) hx hb dX0_span_33 (by decide) (fun c8 => ?_) (fun c8 => ?_)
        · have hw := hw.2 c8
          refine lv_lload_n hx hb dX0_span_46 rfl (lv_at hl 2 rfl) ?_
          refine lv_lload_n hx hb dX0_span_47 rfl (lv_at hl 1 rfl) ?_
          refine lv_lsub hx hb dX0_span_48 ?_
          refine lv_lstore (lv' := [(8, .long (v3 - v1)), (0, .ref h0), (1, .long v1), (3, .long v3), (5, .long v5), (7, .int v7)]) hx hb dX0_span_49 hl (by decide) rfl (fun ls hl => ?_)
          refine lv_iload hx hb dX0_span_51 (lv_at hl 5 rfl) ?_
          refine lv_iconst (v := 2) hx hb dX0_span_53 (by decide) ?_
          refine lv_icmp_lt (tgt := 61) hx hb dX0_span_54 (by decide) (fun c9 => ?_) (fun c9 => ?_)
          · have hw := hw.1 c9
            refine lv_iconst (v := 0) hx hb dX0_span_61 (by decide) ?_
            refine lv_istore (lv' := [(10, .int 0), (8, .long (v3 - v1)), (0, .ref h0), (1, .long v1), (3, .long v3), (5, .long v5), (7, .int v7)]) hx hb dX0_span_62 hl (by decide) rfl (fun ls hl => ?_)
            refine lv_iload hx hb dX0_span_64 (lv_at hl 0 rfl) ?_
            refine lv_if_eq (tgt := 80) hx hb dX0_span_66 (by decide) (fun c10 => ?_) (fun c10 => ?_)
            ·
              refine lv_aload_n hx hb dX0_span_80 rfl (lv_at hl 2 rfl) ?_
              refine lv_lload hx hb dX0_span_81 (lv_at hl 1 rfl) ?_
              refine lv_lload hx hb dX0_span_83 (lv_at hl 5 rfl) ?_
              refine lv_iconst (v := 1) hx hb dX0_span_85 (by decide) ?_
              refine pc_Vl (As := [.long (v3 - v1), .long v5, .int 1]) (rest := []) ⟨hx, hb, hml, hown, hts⟩ (mX0_nextSecond l D cJ h0 a1 a2 a3 a4 a5 a6 tC tS u (v3 - v1) v5 1 _) (cwV 3 hts gX0_span_X0_nextSecond rfl rfl rfl (by decide +kernel) ⟨Nat.le_of_ble_eq_true rfl, Nat.le_of_ble_eq_true rfl⟩) (wX_rc hW) wX_bl (wX_in hW hw) rfl hl.1 rfl (Nat.le_of_ble_eq_true rfl) dX0_span_86 ⟨Nat.le_of_ble_eq_true rfl, Nat.le_of_ble_eq_true rfl⟩ (fun r11 hw => ?_)
              refine lv_lstore (lv' := [(11, .long r11), (10, .int 0), (8, .long (v3 - v1)), (0, .ref h0), (1, .long v1), (3, .long v3), (5, .long v5), (7, .int v7)]) hx hb dX0_span_89 hl (by decide) rfl (fun ls hl => ?_)
              refine lv_lload hx hb dX0_span_91 (lv_at hl 0 rfl) ?_
              refine lv_aload_n hx hb dX0_span_93 rfl (lv_at hl 3 rfl) ?_
              refine pc_Vl (As := []) (rest := [.long r11]) ⟨hx, hb, hml, hown, hts⟩ (mX0_lastSecond l D cJ h0 a1 a2 a3 a4 a5 a6 tC tS u _) (cwV 0 hts gX0_span_X0_lastSecond rfl rfl rfl (by decide +kernel) ⟨Nat.le_of_ble_eq_true rfl, Nat.le_of_ble_eq_true rfl⟩) (wX_rc hW) wX_bl (wX_in hW hw) rfl hl.1 rfl (Nat.le_of_ble_eq_true rfl) dX0_span_94 ⟨Nat.le_of_ble_eq_true rfl, Nat.le_of_ble_eq_true rfl⟩ (fun r12 hw => ?_)
              refine bl_le (tgt := 103) hx hb dX0_span_97 dX0_span_98 (by decide) (fun c13 => ?_) (fun c13 => ?_)
              · have hw := hw.1 c13
                refine lv_iload hx hb dX0_span_103 (lv_at hl 7 rfl) ?_
                refine lv_if_eq (tgt := 114) hx hb dX0_span_105 (by decide) (fun c14 => ?_) (fun c14 => ?_)
                · have hw := hw.1 c14
                  refine lv_iconst (v := 1) hx hb dX0_span_114 (by decide) ?_
                  refine lv_goto (tgt := 119) hx hb dX0_span_115 (by decide) ?_
                  refine lv_istore (lv' := [(13, .int 1), (11, .long r11), (10, .int 0), (8, .long (v3 - v1)), (0, .ref h0), (1, .long v1), (3, .long v3), (5, .long v5), (7, .int v7)]) hx hb dX0_span_119 hl (by decide) rfl (fun ls hl => ?_)
                  refine lv_iload hx hb dX0_span_121 (lv_at hl 0 rfl) ?_
                  refine lv_if_eq (tgt := 131) hx hb dX0_span_123 (by decide) (fun c15 => ?_) (fun c15 => ?_)
                  · exact absurd c15 (by decide)
                  ·
                    refine lv_lload hx hb dX0_span_126 (lv_at hl 1 rfl) ?_
                    refine lv_goto (tgt := 142) hx hb dX0_span_128 (by decide) ?_
                    refine lv_l2i (v := (r11).toInt32) hx hb dX0_span_142 rfl ?_
                    refine W.widen (k := 1) (n := 6) (Nat.le_of_ble_eq_true rfl) (Nat.le_of_ble_eq_true rfl) ?_
                    exact vx_ret (W.iret (v := (r11).toInt32) hx hb hr (fun t ht hWm => ⟨⟨(r11).toInt32, u, rfl, hw, by rw [ht]; exact hP, va_K.moved hWm.alike hK, hD⟩, hS.F ht⟩) hS.2.2 dX0_span_143)
                · have hw := hw.2 c14
                  refine lv_iload hx hb dX0_span_108 (lv_at hl 7 rfl) ?_
                  refine lv_iconst (v := 2) hx hb dX0_span_110 (by decide) ?_
                  refine lv_icmp_ne (tgt := 118) hx hb dX0_span_111 (by decide) (fun c16 => ?_) (fun c16 => ?_)
                  · have hw := hw.2 c16
                    refine lv_iconst (v := 0) hx hb dX0_span_118 (by decide) ?_
                    refine lv_istore (lv' := [(13, .int 0), (11, .long r11), (10, .int 0), (8, .long (v3 - v1)), (0, .ref h0), (1, .long v1), (3, .long v3), (5, .long v5), (7, .int v7)]) hx hb dX0_span_119 hl (by decide) rfl (fun ls hl => ?_)
                    refine lv_iload hx hb dX0_span_121 (lv_at hl 0 rfl) ?_
                    refine lv_if_eq (tgt := 131) hx hb dX0_span_123 (by decide) (fun c17 => ?_) (fun c17 => ?_)
                    ·
                      refine lv_aload_n hx hb dX0_span_131 rfl (lv_at hl 4 rfl) ?_
                      refine lv_lload hx hb dX0_span_132 (lv_at hl 3 rfl) ?_
                      refine lv_lload hx hb dX0_span_134 (lv_at hl 1 rfl) ?_
                      refine lv_iconst (v := 0) hx hb dX0_span_136 (by decide) ?_
                      refine pc_Vl (As := [.long (v3 - v1), .long r11, .int 0]) (rest := []) ⟨hx, hb, hml, hown, hts⟩ (mX0_nextSecond l D cJ h0 a1 a2 a3 a4 a5 a6 tC tS u (v3 - v1) r11 0 _) (cwV 3 hts gX0_span_X0_nextSecond rfl rfl rfl (by decide +kernel) ⟨Nat.le_of_ble_eq_true rfl, Nat.le_of_ble_eq_true rfl⟩) (wX_rc hW) wX_bl (wX_in hW hw) rfl hl.1 rfl (Nat.le_of_ble_eq_true rfl) dX0_span_137 ⟨Nat.le_of_ble_eq_true rfl, Nat.le_of_ble_eq_true rfl⟩ (fun r18 hw => ?_)
                      refine lv_lconst (v := 1) hx hb dX0_span_140 (by decide) ?_
                      refine lv_lsub hx hb dX0_span_141 ?_
                      refine lv_l2i (v := ((r18 - 1)).toInt32) hx hb dX0_span_142 rfl ?_
                      refine W.widen (k := 1) (n := 6) (Nat.le_of_ble_eq_true rfl) (Nat.le_of_ble_eq_true rfl) ?_
                      exact vx_ret (W.iret (v := ((r18 - 1)).toInt32) hx hb hr (fun t ht hWm => ⟨⟨((r18 - 1)).toInt32, u, rfl, hw, by rw [ht]; exact hP, va_K.moved hWm.alike hK, hD⟩, hS.F ht⟩) hS.2.2 dX0_span_143)
                    · exact absurd (by decide) c17
                  · have hw := hw.1 c16
                    refine lv_iconst (v := 1) hx hb dX0_span_114 (by decide) ?_
                    refine lv_goto (tgt := 119) hx hb dX0_span_115 (by decide) ?_
                    refine lv_istore (lv' := [(13, .int 1), (11, .long r11), (10, .int 0), (8, .long (v3 - v1)), (0, .ref h0), (1, .long v1), (3, .long v3), (5, .long v5), (7, .int v7)]) hx hb dX0_span_119 hl (by decide) rfl (fun ls hl => ?_)
                    refine lv_iload hx hb dX0_span_121 (lv_at hl 0 rfl) ?_
                    refine lv_if_eq (tgt := 131) hx hb dX0_span_123 (by decide) (fun c19 => ?_) (fun c19 => ?_)
                    · exact absurd c19 (by decide)
                    ·
                      refine lv_lload hx hb dX0_span_126 (lv_at hl 1 rfl) ?_
                      refine lv_goto (tgt := 142) hx hb dX0_span_128 (by decide) ?_
                      refine lv_l2i (v := (r11).toInt32) hx hb dX0_span_142 rfl ?_
                      refine W.widen (k := 1) (n := 6) (Nat.le_of_ble_eq_true rfl) (Nat.le_of_ble_eq_true rfl) ?_
                      exact vx_ret (W.iret (v := (r11).toInt32) hx hb hr (fun t ht hWm => ⟨⟨(r11).toInt32, u, rfl, hw, by rw [ht]; exact hP, va_K.moved hWm.alike hK, hD⟩, hS.F ht⟩) hS.2.2 dX0_span_143)
              · have hw := hw.2 c13
                refine lv_iconst (v := (-1)) hx hb dX0_span_101 (by decide) ?_
                refine W.widen (k := 1) (n := 6) (Nat.le_of_ble_eq_true rfl) (Nat.le_of_ble_eq_true rfl) ?_
                exact vx_ret (W.iret (v := (-1)) hx hb hr (fun t ht hWm => ⟨⟨(-1), u, rfl, hw, by rw [ht]; exact hP, va_K.moved hWm.alike hK, hD⟩, hS.F ht⟩) hS.2.2 dX0_span_102)
            · exact absurd (by decide) c10
          · have hw := hw.2 c9
            refine lv_iconst (v := 1) hx hb dX0_span_57 (by decide) ?_
            refine lv_goto (tgt := 62) hx hb dX0_span_58 (by decide) ?_
            refine lv_istore (lv' := [(10, .int 1), (8, .long (v3 - v1)), (0, .ref h0), (1, .long v1), (3, .long v3), (5, .long v5), (7, .int v7)]) hx hb dX0_span_62 hl (by decide) rfl (fun ls hl => ?_)
            refine lv_iload hx hb dX0_span_64 (lv_at hl 0 rfl) ?_
            refine lv_if_eq (tgt := 80) hx hb dX0_span_66 (by decide) (fun c20 => ?_) (fun c20 => ?_)
            · exact absurd c20 (by decide)
            ·
              refine lv_aload_n hx hb dX0_span_69 rfl (lv_at hl 2 rfl) ?_
              refine lv_lload hx hb dX0_span_70 (lv_at hl 1 rfl) ?_
              refine lv_lload hx hb dX0_span_72 (lv_at hl 5 rfl) ?_
              refine pc_Vl (As := [.long (v3 - v1), .long v5]) (rest := []) ⟨hx, hb, hml, hown, hts⟩ (mX0_longestSpan l D cJ h0 a1 a2 a3 a4 a5 a6 tC tS u (v3 - v1) v5 _) (cwV 2 hts gX0_span_X0_longestSpan rfl rfl rfl (by decide +kernel) ⟨Nat.le_of_ble_eq_true rfl, Nat.le_of_ble_eq_true rfl⟩) (wX_rc hW) wX_bl (wX_in hW hw) rfl hl.1 rfl (Nat.le_of_ble_eq_true rfl) dX0_span_74 ⟨Nat.le_of_ble_eq_true rfl, Nat.le_of_ble_eq_true rfl⟩ (fun r21 hw => ?_)
              refine lv_goto (tgt := 89) hx hb dX0_span_77 (by decide) ?_
              refine lv_lstore (lv' := [(11, .long r21), (10, .int 1), (8, .long (v3 - v1)), (0, .ref h0), (1, .long v1), (3, .long v3), (5, .long v5), (7, .int v7)]) hx hb dX0_span_89 hl (by decide) rfl (fun ls hl => ?_)
              refine lv_lload hx hb dX0_span_91 (lv_at hl 0 rfl) ?_
              refine lv_aload_n hx hb dX0_span_93 rfl (lv_at hl 3 rfl) ?_
              refine pc_Vl (As := []) (rest := [.long r21]) ⟨hx, hb, hml, hown, hts⟩ (mX0_lastSecond l D cJ h0 a1 a2 a3 a4 a5 a6 tC tS u _) (cwV 0 hts gX0_span_X0_lastSecond rfl rfl rfl (by decide +kernel) ⟨Nat.le_of_ble_eq_true rfl, Nat.le_of_ble_eq_true rfl⟩) (wX_rc hW) wX_bl (wX_in hW hw) rfl hl.1 rfl (Nat.le_of_ble_eq_true rfl) dX0_span_94 ⟨Nat.le_of_ble_eq_true rfl, Nat.le_of_ble_eq_true rfl⟩ (fun r22 hw => ?_)
              refine bl_le (tgt := 103) hx hb dX0_span_97 dX0_span_98 (by decide) (fun c23 => ?_) (fun c23 => ?_)
              · have hw := hw.1 c23
                refine lv_iload hx hb dX0_span_103 (lv_at hl 7 rfl) ?_
                refine lv_if_eq (tgt := 114) hx hb dX0_span_105 (by decide) (fun c24 => ?_) (fun c24 => ?_)
                · have hw := hw.1 c24
                  refine lv_iconst (v := 1) hx hb dX0_span_114 (by decide) ?_
                  refine lv_goto (tgt := 119) hx hb dX0_span_115 (by decide) ?_
                  refine lv_istore (lv' := [(13, .int 1), (11, .long r21), (10, .int 1), (8, .long (v3 - v1)), (0, .ref h0), (1, .long v1), (3, .long v3), (5, .long v5), (7, .int v7)]) hx hb dX0_span_119 hl (by decide) rfl (fun ls hl => ?_)
                  refine lv_iload hx hb dX0_span_121 (lv_at hl 0 rfl) ?_
                  refine lv_if_eq (tgt := 131) hx hb dX0_span_123 (by decide) (fun c25 => ?_) (fun c25 => ?_)
                  · exact absurd c25 (by decide)
                  ·
                    refine lv_lload hx hb dX0_span_126 (lv_at hl 1 rfl) ?_
                    refine lv_goto (tgt := 142) hx hb dX0_span_128 (by decide) ?_
                    refine lv_l2i (v := (r21).toInt32) hx hb dX0_span_142 rfl ?_
                    refine W.widen (k := 1) (n := 6) (Nat.le_of_ble_eq_true rfl) (Nat.le_of_ble_eq_true rfl) ?_
                    exact vx_ret (W.iret (v := (r21).toInt32) hx hb hr (fun t ht hWm => ⟨⟨(r21).toInt32, u, rfl, hw, by rw [ht]; exact hP, va_K.moved hWm.alike hK, hD⟩, hS.F ht⟩) hS.2.2 dX0_span_143)
                · have hw := hw.2 c24
                  refine lv_iload hx hb dX0_span_108 (lv_at hl 7 rfl) ?_
                  refine lv_iconst (v := 2) hx hb dX0_span_110 (by decide) ?_
                  refine lv_icmp_ne (tgt := 118) hx hb dX0_span_111 (by decide) (fun c26 => ?_) (fun c26 => ?_)
                  · have hw := hw.2 c26
                    refine lv_iconst (v := 0) hx hb dX0_span_118 (by decide) ?_
                    refine lv_istore (lv' := [(13, .int 0), (11, .long r21), (10, .int 1), (8, .long (v3 - v1)), (0, .ref h0), (1, .long v1), (3, .long v3), (5, .long v5), (7, .int v7)]) hx hb dX0_span_119 hl (by decide) rfl (fun ls hl => ?_)
                    refine lv_iload hx hb dX0_span_121 (lv_at hl 0 rfl) ?_
                    refine lv_if_eq (tgt := 131) hx hb dX0_span_123 (by decide) (fun c27 => ?_) (fun c27 => ?_)
                    ·
                      refine lv_aload_n hx hb dX0_span_131 rfl (lv_at hl 4 rfl) ?_
                      refine lv_lload hx hb dX0_span_132 (lv_at hl 3 rfl) ?_
                      refine lv_lload hx hb dX0_span_134 (lv_at hl 1 rfl) ?_
                      refine lv_iconst (v := 0) hx hb dX0_span_136 (by decide) ?_
                      refine pc_Vl (As := [.long (v3 - v1), .long r21, .int 0]) (rest := []) ⟨hx, hb, hml, hown, hts⟩ (mX0_nextSecond l D cJ h0 a1 a2 a3 a4 a5 a6 tC tS u (v3 - v1) r21 0 _) (cwV 3 hts gX0_span_X0_nextSecond rfl rfl rfl (by decide +kernel) ⟨Nat.le_of_ble_eq_true rfl, Nat.le_of_ble_eq_true rfl⟩) (wX_rc hW) wX_bl (wX_in hW hw) rfl hl.1 rfl (Nat.le_of_ble_eq_true rfl) dX0_span_137 ⟨Nat.le_of_ble_eq_true rfl, Nat.le_of_ble_eq_true rfl⟩ (fun r28 hw => ?_)
                      refine lv_lconst (v := 1) hx hb dX0_span_140 (by decide) ?_
                      refine lv_lsub hx hb dX0_span_141 ?_
                      refine lv_l2i (v := ((r28 - 1)).toInt32) hx hb dX0_span_142 rfl ?_
                      refine W.widen (k := 1) (n := 6) (Nat.le_of_ble_eq_true rfl) (Nat.le_of_ble_eq_true rfl) ?_
                      exact vx_ret (W.iret (v := ((r28 - 1)).toInt32) hx hb hr (fun t ht hWm => ⟨⟨((r28 - 1)).toInt32, u, rfl, hw, by rw [ht]; exact hP, va_K.moved hWm.alike hK, hD⟩, hS.F ht⟩) hS.2.2 dX0_span_143)
                    · exact absurd (by decide) c27
                  · have hw := hw.1 c26
                    refine lv_iconst (v := 1) hx hb dX0_span_114 (by decide) ?_
                    refine lv_goto (tgt := 119) hx hb dX0_span_115 (by decide) ?_
                    refine lv_istore (lv' := [(13, .int 1), (11, .long r21), (10, .int 1), (8, .long (v3 - v1)), (0, .ref h0), (1, .long v1), (3, .long v3), (5, .long v5), (7, .int v7)]) hx hb dX0_span_119 hl (by decide) rfl (fun ls hl => ?_)
                    refine lv_iload hx hb dX0_span_121 (lv_at hl 0 rfl) ?_
                    refine lv_if_eq (tgt := 131) hx hb dX0_span_123 (by decide) (fun c29 => ?_) (fun c29 => ?_)
                    · exact absurd c29 (by decide)
                    ·
                      refine lv_lload hx hb dX0_span_126 (lv_at hl 1 rfl) ?_
                      refine lv_goto (tgt := 142) hx hb dX0_span_128 (by decide) ?_
                      refine lv_l2i (v := (r21).toInt32) hx hb dX0_span_142 rfl ?_
                      refine W.widen (k := 1) (n := 6) (Nat.le_of_ble_eq_true rfl) (Nat.le_of_ble_eq_true rfl) ?_
                      exact vx_ret (W.iret (v := (r21).toInt32) hx hb hr (fun t ht hWm => ⟨⟨(r21).toInt32, u, rfl, hw, by rw [ht]; exact hP, va_K.moved hWm.alike hK, hD⟩, hS.F ht⟩) hS.2.2 dX0_span_143)
              · have hw := hw.2 c23
                refine lv_iconst (v := (-1)) hx hb dX0_span_101 (by decide) ?_
                refine W.widen (k := 1) (n := 6) (Nat.le_of_ble_eq_true rfl) (Nat.le_of_ble_eq_true rfl) ?_
                exact vx_ret (W.iret (v := (-1)) hx hb hr (fun t ht hWm => ⟨⟨(-1), u, rfl, hw, by rw [ht]; exact hP, va_K.moved hWm.alike hK, hD⟩, hS.F ht⟩) hS.2.2 dX0_span_102)
        · have hw := hw.1 c8
          exact x0_throw (k := 0) (names := ["java/lang/RuntimeException", "java/lang/Exception"]) (text := "outside the table, or no such base, need or side") hx hb hst hown (by decide +kernel) (by decide +kernel) (hts (.classLink RX0 48 "java/lang/IllegalArgumentException") (by decide +kernel)) (hts (.initialized "java/lang/IllegalArgumentException") (by decide +kernel)) (by decide +kernel) hT (fun w h => hts w (by unfold wsX0_span; exact List.mem_cons_of_mem _ (List.mem_append_right _ h))) (by decide +kernel) (by decide +kernel) (hl.1.trans hml.symm) dX0_span_36 dX0_span_39 dX0_span_40 dX0_span_42 dX0_span_45 hout (Nat.le_of_ble_eq_true rfl) (Nat.le_of_ble_eq_true rfl) (Nat.le_of_ble_eq_true rfl) (Nat.le_of_ble_eq_true rfl) hlocks hP hK hD rfl hw

def wX0_squat (post : Int64 → XS → Prop) (thr : Nat → Prop) (u : XS) (v1 : Int64) (v3 : Int64) : Prop := (wX0_isWithin (fun r1 => ((r1 = 0 → (thr 0)) ∧ (¬ r1 = 0 → (wX0_isWithin (fun r3 => ((r3 = 0 → (thr 0)) ∧ (¬ r3 = 0 → (wX0_squatOf (fun r5 => (post r5 u)) v1 v3)))) v3 0 30000)))) v1 0 10000)

set_option maxHeartbeats 4000000 in
set_option maxRecDepth 100000 in
theorem mX0_squat (l : Launch) (hst : l.stackTraces = false) (D : va_G) (cJ : ClassId) (h0 a1 a2 a3 a4 a5 a6 tC tS sz : Nat) (u : XS) (v1 : Int64) (v3 : Int64) (post : Int64 → XS → Prop) (thr : Nat → Prop) : vx_Met l yX0_squat wsX0_squat ({ frames := 6, cells := 1, slots := 6, locals := 90 } : Room) (va_Pc [.ref h0, .long v1, .long v3] (fun U => XE D cJ h0 a1 a2 a3 a4 a5 a6 tC tS sz u U ∧ wX0_squat post thr u v1 v3)) (va_Ql post (fun u9 t9 => XT D cJ h0 a1 a2 a3 a4 a5 a6 (va_A (x0W cJ h0 a1 a2 a3 a4 a5 a6 u) sz) u9 t9) (va_A (x0W cJ h0 a1 a2 a3 a4 a5 a6 u) sz)) (vx_X thr (fun E9 k9 t9 => E9 = exN k9 ∧ XT D cJ h0 a1 a2 a3 a4 a5 a6 (va_A (x0W cJ h0 a1 a2 a3 a4 a5 a6 u) sz) u t9) (va_A (x0W cJ h0 a1 a2 a3 a4 a5 a6 u) sz)) 1 6 (va_A (x0W cJ h0 a1 a2 a3 a4 a5 a6 u) sz) := by
  refine vx_ofW (cc := cX0_squat) (maxL := 5) (ret := (some .long)) (by decide +kernel) rfl ?_
  intro p e s m args below meth c s₁ B hml hout hv
  obtain ⟨rfl, ⟨hsz, hP, hK, hD0, hZ, hT⟩, hw⟩ := hv
  have hx := B.exec
  have hb := B.bytes
  have hr := B.returns
  have hts := atoms_spec (ws := wsX0_squat) B.pre
  have hown : s.vm.findClass RX0 = some m.cls := findClass_of_methodNamed B.named
  have hlocks := B.notSynchronized
  have hin := ()
  subst hsz
  have hD := hD0.self (sz := s.heap.size)
  generalize hAe : va_A (x0W cJ h0 a1 a2 a3 a4 a5 a6 u) s.heap.size = A at hD hZ hT ⊢
  have hS : va_S A s.heap s.heap [] := va_S.rf
  have hW : XW D cJ h0 a1 a2 a3 a4 a5 a6 tC tS u s s.heap := ⟨hP, hK, hZ.narrow (fun _ h => h.elim)⟩
  have hl := lv_entry ([.ref h0, .long v1, .long v3]) (n := 5) (Nat.le_of_ble_eq_true rfl)
  rw [lg_entry_eq]
  generalize (lg_sl ([.ref h0, .long v1, .long v3]) ++ List.replicate (5 - (lg_sl ([.ref h0, .long v1, .long v3])).length) Slot.unset).toArray = ls at hl ⊢
  have hl : lv_has ls 5 [(0, .ref h0), (1, .long v1), (3, .long v3)] := hl
  unfold wX0_squat at hw
  refine lv_lload_n hx hb dX0_squat_0 rfl (lv_at hl 1 rfl) ?_
  refine lv_lconst (v := 0) hx hb dX0_squat_1 (by decide) ?_
  refine lv_ldc2 (v := 10000) hx hb hown (hts (.constantLong RX0 99 (10000)) (by decide +kernel)) dX0_squat_2 ?_
  refine pc_Si (As := [.long v1, .long 0, .long 10000]) (rest := []) ⟨hx, hb, hml, hown, hts⟩ (mX0_isWithin l v1 0 10000 _) (va_cwS 3 hts gX0_squat_X0_isWithin rfl rfl rfl (by decide +kernel) ⟨Nat.le_of_ble_eq_true rfl, Nat.le_of_ble_eq_true rfl⟩) wK_bl (fun _ _ _ => hw) rfl hl.1 rfl (Nat.le_of_ble_eq_true rfl) dX0_squat_5 ⟨Nat.le_of_ble_eq_true rfl, Nat.le_of_ble_eq_true rfl⟩ (fun r1 hw => ?_)
  obtain ⟨z_r1, hw⟩ := hw
  refine lv_if_eq (tgt := 22) hx hb dX0_squat_8 (by decide) (fun c2 => ?_) (fun c2 => ?_)
  · have hw := hw.1 c2
    exact x0_throw (k := 0) (names := ["java/lang/RuntimeException", "java/lang/Exception"]) (text := "no such speed or draft") hx hb hst hown (by decide +kernel) (by decide +kernel) (hts (.classLink RX0 48 "java/lang/IllegalArgumentException") (by decide +kernel)) (hts (.initialized "java/lang/IllegalArgumentException") (by decide +kernel)) (by decide +kernel) hT (fun w h => hts w (by unfold wsX0_squat; exact List.mem_cons_of_mem _ (List.mem_append_right _ h))) (by decide +kernel) (by decide +kernel) (hl.1.trans hml.symm) dX0_squat_22 dX0_squat_25 dX0_squat_26 dX0_squat_28 dX0_squat_31 hout (Nat.le_of_ble_eq_true rfl) (Nat.le_of_ble_eq_true rfl) (Nat.le_of_ble_eq_true rfl) (Nat.le_of_ble_eq_true rfl) hlocks hP hK hD rfl hw
  · have hw := hw.2 c2
    refine lv_lload_n hx hb dX0_squat_11 rfl (lv_at hl 2 rfl) ?_
    refine lv_lconst (v := 0) hx hb dX0_squat_12 (by decide) ?_
    refine lv_ldc2 (v := 30000) hx hb hown (hts (.constantLong RX0 101 (30000)) (by decide +kernel)) dX0_squat_13 ?_
    refine pc_Si (As := [.long v3, .long 0, .long 30000]) (rest := []) ⟨hx, hb, hml, hown, hts⟩ (mX0_isWithin l v3 0 30000 _) (va_cwS 3 hts gX0_squat_X0_isWithin rfl rfl rfl (by decide +kernel) ⟨Nat.le_of_ble_eq_true rfl, Nat.le_of_ble_eq_true rfl⟩) wK_bl (fun _ _ _ => hw) rfl hl.1 rfl (Nat.le_of_ble_eq_true rfl) dX0_squat_16 ⟨Nat.le_of_ble_eq_true rfl, Nat.le_of_ble_eq_true rfl⟩ (fun r3 hw => ?_)
    obtain ⟨z_r3, hw⟩ := hw
    refine lv_if_ne (tgt := 32) hx hb dX0_squat_19 (by decide) (fun c4 => ?_) (fun c4 => ?_)
    · have hw := hw.2 c4
      refine lv_lload_n hx hb dX0_squat_32 rfl (lv_at hl 1 rfl) ?_
      refine lv_lload_n hx hb dX0_squat_33 rfl (lv_at hl 2 rfl) ?_
      refine pc_Sl (As := [.long v1, .long v3]) (rest := []) ⟨hx, hb, hml, hown, hts⟩ (mX0_squatOf l tC tS v1 v3 _) (va_cwS 2 hts gX0_squat_X0_squatOf rfl rfl rfl (by decide +kernel) ⟨Nat.le_of_ble_eq_true rfl, Nat.le_of_ble_eq_true rfl⟩) wS_bl (wS_in hW.2.2 hw) rfl hl.1 rfl (Nat.le_of_ble_eq_true rfl) dX0_squat_34 ⟨Nat.le_of_ble_eq_true rfl, Nat.le_of_ble_eq_true rfl⟩ (fun r5 hw => ?_)
      refine W.widen (k := 1) (n := 6) (Nat.le_of_ble_eq_true rfl) (Nat.le_of_ble_eq_true rfl) ?_
      exact vx_ret (W.lret (v := r5) hx hb hr (fun t ht hWm => ⟨⟨r5, u, rfl, hw, by rw [ht]; exact hP, va_K.moved hWm.alike hK, hD⟩, hS.F ht⟩) hS.2.2 dX0_squat_37)
    · have hw := hw.1 c4
      exact x0_throw (k := 0) (names := ["java/lang/RuntimeException", "java/lang/Exception"]) (text := "no such speed or draft") hx hb hst hown (by decide +kernel) (by decide +kernel) (hts (.classLink RX0 48 "java/lang/IllegalArgumentException") (by decide +kernel)) (hts (.initialized "java/lang/IllegalArgumentException") (by decide +kernel)) (by decide +kernel) hT (fun w h => hts w (by unfold wsX0_squat; exact List.mem_cons_of_mem _ (List.mem_append_right _ h))) (by decide +kernel) (by decide +kernel) (hl.1.trans hml.symm) dX0_squat_22 dX0_squat_25 dX0_squat_26 dX0_squat_28 dX0_squat_31 hout (Nat.le_of_ble_eq_true rfl) (Nat.le_of_ble_eq_true rfl) (Nat.le_of_ble_eq_true rfl) (Nat.le_of_ble_eq_true rfl) hlocks hP hK hD rfl hw

def wX0_passing (post : Int64 → XS → Prop) (thr : Nat → Prop) (u : XS) (v1 : Int64) (v3 : Int64) : Prop := (wX0_isWithin (fun r1 => ((r1 = 0 → (thr 0)) ∧ (¬ r1 = 0 → (wX0_isWithin (fun r3 => ((r3 = 0 → (thr 0)) ∧ (¬ r3 = 0 → ((v3 = 0 → (thr 2)) ∧ (¬ v3 = 0 → (wX0_secondsFor (fun r6 => (post r6 u)) v1 v3)))))) v3 0 10000)))) v1 0 1000000)

set_option maxHeartbeats 4000000 in
set_option maxRecDepth 100000 in
theorem mX0_passing (l : Launch) (hst : l.stackTraces = false) (D : va_G) (cJ : ClassId) (h0 a1 a2 a3 a4 a5 a6 tC tS sz : Nat) (u : XS) (v1 : Int64) (v3 : Int64) (post : Int64 → XS → Prop) (thr : Nat → Prop) : vx_Met l yX0_passing wsX0_passing ({ frames := 6, cells := 1, slots := 6, locals := 90 } : Room) (va_Pc [.ref h0, .long v1, .long v3] (fun U => XE D cJ h0 a1 a2 a3 a4 a5 a6 tC tS sz u U ∧ wX0_passing post thr u v1 v3)) (va_Ql post (fun u9 t9 => XT D cJ h0 a1 a2 a3 a4 a5 a6 (va_A (x0W cJ h0 a1 a2 a3 a4 a5 a6 u) sz) u9 t9) (va_A (x0W cJ h0 a1 a2 a3 a4 a5 a6 u) sz)) (vx_X thr (fun E9 k9 t9 => E9 = exN k9 ∧ XT D cJ h0 a1 a2 a3 a4 a5 a6 (va_A (x0W cJ h0 a1 a2 a3 a4 a5 a6 u) sz) u t9) (va_A (x0W cJ h0 a1 a2 a3 a4 a5 a6 u) sz)) 1 6 (va_A (x0W cJ h0 a1 a2 a3 a4 a5 a6 u) sz) := by
  refine vx_ofW (cc := cX0_passing) (maxL := 5) (ret := (some .long)) (by decide +kernel) rfl ?_
  intro p e s m args below meth c s₁ B hml hout hv
  obtain ⟨rfl, ⟨hsz, hP, hK, hD0, hZ, hT⟩, hw⟩ := hv
  have hx := B.exec
  have hb := B.bytes
  have hr := B.returns
  have hts := atoms_spec (ws := wsX0_passing) B.pre
  have hown : s.vm.findClass RX0 = some m.cls := findClass_of_methodNamed B.named
  have hlocks := B.notSynchronized
  have hin := ()
  subst hsz
  have hD := hD0.self (sz := s.heap.size)
  generalize hAe : va_A (x0W cJ h0 a1 a2 a3 a4 a5 a6 u) s.heap.size = A at hD hZ hT ⊢
  have hS : va_S A s.heap s.heap [] := va_S.rf
  have hW : XW D cJ h0 a1 a2 a3 a4 a5 a6 tC tS u s s.heap := ⟨hP, hK, hZ.narrow (fun _ h => h.elim)⟩
  have hl := lv_entry ([.ref h0, .long v1, .long v3]) (n := 5) (Nat.le_of_ble_eq_true rfl)
  rw [lg_entry_eq]
  generalize (lg_sl ([.ref h0, .long v1, .long v3]) ++ List.replicate (5 - (lg_sl ([.ref h0, .long v1, .long v3])).length) Slot.unset).toArray = ls at hl ⊢
  have hl : lv_has ls 5 [(0, .ref h0), (1, .long v1), (3, .long v3)] := hl
  unfold wX0_passing at hw
  refine lv_lload_n hx hb dX0_passing_0 rfl (lv_at hl 1 rfl) ?_
  refine lv_lconst (v := 0) hx hb dX0_passing_1 (by decide) ?_
  refine lv_ldc2 (v := 1000000) hx hb hown (hts (.constantLong RX0 108 (1000000)) (by decide +kernel)) dX0_passing_2 ?_
  refine pc_Si (As := [.long v1, .long 0, .long 1000000]) (rest := []) ⟨hx, hb, hml, hown, hts⟩ (mX0_isWithin l v1 0 1000000 _) (va_cwS 3 hts gX0_passing_X0_isWithin rfl rfl rfl (by decide +kernel) ⟨Nat.le_of_ble_eq_true rfl, Nat.le_of_ble_eq_true rfl⟩) wK_bl (fun _ _ _ => hw) rfl hl.1 rfl (Nat.le_of_ble_eq_true rfl) dX0_passing_5 ⟨Nat.le_of_ble_eq_true rfl, Nat.le_of_ble_eq_true rfl⟩ (fun r1 hw => ?_)
  obtain ⟨z_r1, hw⟩ := hw
  refine lv_if_eq (tgt := 22) hx hb dX0_passing_8 (by decide) (fun c2 => ?_) (fun c2 => ?_)
  · have hw := hw.1 c2
    exact x0_throw (k := 0) (names := ["java/lang/RuntimeException", "java/lang/Exception"]) (text := "no such way or speed") hx hb hst hown (by decide +kernel) (by decide +kernel) (hts (.classLink RX0 48 "java/lang/IllegalArgumentException") (by decide +kernel)) (hts (.initialized "java/lang/IllegalArgumentException") (by decide +kernel)) (by decide +kernel) hT (fun w h => hts w (by unfold wsX0_passing; exact List.mem_cons_of_mem _ (List.mem_append_left _ (List.mem_append_right _ h)))) (by decide +kernel) (by decide +kernel) (hl.1.trans hml.symm) dX0_passing_22 dX0_passing_25 dX0_passing_26 dX0_passing_28 dX0_passing_31 hout (Nat.le_of_ble_eq_true rfl) (Nat.le_of_ble_eq_true rfl) (Nat.le_of_ble_eq_true rfl) (Nat.le_of_ble_eq_true rfl) hlocks hP hK hD rfl hw
  · have hw := hw.2 c2
    refine lv_lload_n hx hb dX0_passing_11 rfl (lv_at hl 2 rfl) ?_
    refine lv_lconst (v := 0) hx hb dX0_passing_12 (by decide) ?_
    refine lv_ldc2 (v := 10000) hx hb hown (hts (.constantLong RX0 99 (10000)) (by decide +kernel)) dX0_passing_13 ?_
    refine pc_Si (As := [.long v3, .long 0, .long 10000]) (rest := []) ⟨hx, hb, hml, hown, hts⟩ (mX0_isWithin l v3 0 10000 _) (va_cwS 3 hts gX0_passing_X0_isWithin rfl rfl rfl (by decide +kernel) ⟨Nat.le_of_ble_eq_true rfl, Nat.le_of_ble_eq_true rfl⟩) wK_bl (fun _ _ _ => hw) rfl hl.1 rfl (Nat.le_of_ble_eq_true rfl) dX0_passing_16 ⟨Nat.le_of_ble_eq_true rfl, Nat.le_of_ble_eq_true rfl⟩ (fun r3 hw => ?_)
    obtain ⟨z_r3, hw⟩ := hw
    refine lv_if_ne (tgt := 32) hx hb dX0_passing_19 (by decide) (fun c4 => ?_) (fun c4 => ?_)
    · have hw := hw.2 c4
      refine lv_lload_n hx hb dX0_passing_32 rfl (lv_at hl 2 rfl) ?_
      refine lv_lconst (v := 0) hx hb dX0_passing_33 (by decide) ?_
      refine bl_ne (tgt := 48) hx hb dX0_passing_34 dX0_passing_35 (by decide) (fun c5 => ?_) (fun c5 => ?_)
      · have hw := hw.2 c5
        refine lv_lload_n hx hb dX0_passing_48 rfl (lv_at hl 1 rfl) ?_
        refine lv_lload_n hx hb dX0_passing_49 rfl (lv_at hl 2 rfl) ?_
        refine pc_Sl (As := [.long v1, .long v3]) (rest := []) ⟨hx, hb, hml, hown, hts⟩ (mX0_secondsFor l v1 v3 _) (va_cwS 2 hts gX0_passing_X0_secondsFor rfl rfl rfl (by decide +kernel) ⟨Nat.le_of_ble_eq_true rfl, Nat.le_of_ble_eq_true rfl⟩) wK_bl (fun _ _ _ => hw) rfl hl.1 rfl (Nat.le_of_ble_eq_true rfl) dX0_passing_50 ⟨Nat.le_of_ble_eq_true rfl, Nat.le_of_ble_eq_true rfl⟩ (fun r6 hw => ?_)
        refine W.widen (k := 1) (n := 6) (Nat.le_of_ble_eq_true rfl) (Nat.le_of_ble_eq_true rfl) ?_
        exact vx_ret (W.lret (v := r6) hx hb hr (fun t ht hWm => ⟨⟨r6, u, rfl, hw, by rw [ht]; exact hP, va_K.moved hWm.alike hK, hD⟩, hS.F ht⟩) hS.2.2 dX0_passing_53)
      · have hw := hw.1 c5
        exact x0_throw (k := 2) (names := ["java/lang/RuntimeException", "java/lang/Exception"]) (text := "speed 0") hx hb hst hown (by decide +kernel) (by decide +kernel) (hts (.classLink RX0 112 "java/lang/ArithmeticException") (by decide +kernel)) (hts (.initialized "java/lang/ArithmeticException") (by decide +kernel)) (by decide +kernel) hT (fun w h => hts w (by unfold wsX0_passing; exact List.mem_cons_of_mem _ (List.mem_append_right _ h))) (by decide +kernel) (by decide +kernel) (hl.1.trans hml.symm) dX0_passing_38 dX0_passing_41 dX0_passing_42 dX0_passing_44 dX0_passing_47 hout (Nat.le_of_ble_eq_true rfl) (Nat.le_of_ble_eq_true rfl) (Nat.le_of_ble_eq_true rfl) (Nat.le_of_ble_eq_true rfl) hlocks hP hK hD rfl hw
    · have hw := hw.1 c4
      exact x0_throw (k := 0) (names := ["java/lang/RuntimeException", "java/lang/Exception"]) (text := "no such way or speed") hx hb hst hown (by decide +kernel) (by decide +kernel) (hts (.classLink RX0 48 "java/lang/IllegalArgumentException") (by decide +kernel)) (hts (.initialized "java/lang/IllegalArgumentException") (by decide +kernel)) (by decide +kernel) hT (fun w h => hts w (by unfold wsX0_passing; exact List.mem_cons_of_mem _ (List.mem_append_left _ (List.mem_append_right _ h)))) (by decide +kernel) (by decide +kernel) (hl.1.trans hml.symm) dX0_passing_22 dX0_passing_25 dX0_passing_26 dX0_passing_28 dX0_passing_31 hout (Nat.le_of_ble_eq_true rfl) (Nat.le_of_ble_eq_true rfl) (Nat.le_of_ble_eq_true rfl) (Nat.le_of_ble_eq_true rfl) hlocks hP hK hD rfl hw

def wX0_cosine (post : Int32 → XS → Prop) (thr : Nat → Prop) (u : XS) (v1 : Int32) : Prop := ((v1 < 0 → (thr 4)) ∧ (¬ v1 < 0 → ((v1 < 65 → (vp_in v1 65 ∧ (post (cosT (v1).toNatClampNeg) u))) ∧ (¬ v1 < 65 → (thr 4)))))

set_option maxHeartbeats 4000000 in
set_option maxRecDepth 100000 in
theorem mX0_cosine (l : Launch) (hst : l.stackTraces = false) (D : va_G) (cJ : ClassId) (h0 a1 a2 a3 a4 a5 a6 tC tS sz : Nat) (u : XS) (v1 : Int32) (post : Int32 → XS → Prop) (thr : Nat → Prop) : vx_Met l yX0_cosine wsX0_cosineX ({ frames := 7, cells := 1, slots := 6, locals := 103 } : Room) (va_Pc [.ref h0, .int v1] (fun U => XE D cJ h0 a1 a2 a3 a4 a5 a6 tC tS sz u U ∧ wX0_cosine post thr u v1)) (va_Qi post (fun u9 t9 => XT D cJ h0 a1 a2 a3 a4 a5 a6 (va_A (x0W cJ h0 a1 a2 a3 a4 a5 a6 u) sz) u9 t9) (va_A (x0W cJ h0 a1 a2 a3 a4 a5 a6 u) sz)) (vx_X thr (fun E9 k9 t9 => E9 = exN k9 ∧ XT D cJ h0 a1 a2 a3 a4 a5 a6 (va_A (x0W cJ h0 a1 a2 a3 a4 a5 a6 u) sz) u t9) (va_A (x0W cJ h0 a1 a2 a3 a4 a5 a6 u) sz)) 1 6 (va_A (x0W cJ h0 a1 a2 a3 a4 a5 a6 u) sz) := by
  refine vx_ofW (cc := cX0_cosine) (maxL := 2) (ret := (some .int)) (by decide +kernel) rfl ?_
  intro p e s m args below meth c s₁ B hml hout hv
  obtain ⟨rfl, ⟨hsz, hP, hK, hD0, hZ, hT⟩, hw⟩ := hv
  have hx := B.exec
  have hb := B.bytes
  have hr := B.returns
  have hts := atoms_spec (ws := wsX0_cosineX) B.pre
  have hown : s.vm.findClass RX0 = some m.cls := findClass_of_methodNamed B.named
  have hlocks := B.notSynchronized
  have hin := ()
  subst hsz
  have hD := hD0.self (sz := s.heap.size)
  generalize hAe : va_A (x0W cJ h0 a1 a2 a3 a4 a5 a6 u) s.heap.size = A at hD hZ hT ⊢
  have hS : va_S A s.heap s.heap [] := va_S.rf
  have hW : XW D cJ h0 a1 a2 a3 a4 a5 a6 tC tS u s s.heap := ⟨hP, hK, hZ.narrow (fun _ h => h.elim)⟩
  have hl := lv_entry ([.ref h0, .int v1]) (n := 2) (Nat.le_of_ble_eq_true rfl)
  rw [lg_entry_eq]
  generalize (lg_sl ([.ref h0, .int v1]) ++ List.replicate (2 - (lg_sl ([.ref h0, .int v1])).length) Slot.unset).toArray = ls at hl ⊢
  have hl : lv_has ls 2 [(0, .ref h0), (1, .int v1)] := hl
  unfold wX0_cosine at hw
  refine lv_iload_n hx hb dX0_cosine_0 rfl (lv_at hl 1 rfl) ?_
  refine lv_if_lt (tgt := 12) hx hb dX0_cosine_1 (by decide) (fun c1 => ?_) (fun c1 => ?_)
  · have hw := hw.1 c1
    exact x0_throw (k := 4) (names := ["java/lang/IndexOutOfBoundsException", "java/lang/RuntimeException", "java/lang/Exception"]) (text := "no such number of the cosine") hx hb hst hown (by decide +kernel) (by decide +kernel) (hts (.classLink RX0 124 "java/lang/ArrayIndexOutOfBoundsException") (by decide +kernel)) (hts (.initialized "java/lang/ArrayIndexOutOfBoundsException") (by decide +kernel)) (by decide +kernel) hT (fun w h => hts w (by unfold wsX0_cosineX; exact List.mem_cons_of_mem _ (List.mem_append_right _ h))) (by decide +kernel) (by decide +kernel) (hl.1.trans hml.symm) dX0_cosine_12 dX0_cosine_15 dX0_cosine_16 dX0_cosine_18 dX0_cosine_21 hout (Nat.le_of_ble_eq_true rfl) (Nat.le_of_ble_eq_true rfl) (Nat.le_of_ble_eq_true rfl) (Nat.le_of_ble_eq_true rfl) hlocks hP hK hD rfl hw
  · have hw := hw.2 c1
    refine lv_iload_n hx hb dX0_cosine_4 rfl (lv_at hl 1 rfl) ?_
    refine va_gets hx hb hW.2.2.1 nS hown (hts (.fieldLink RX0 120 "TideDepths" "COSINE" "[I") (by decide +kernel)) (fun _ h9 => h9) dX0_cosine_5 ?_
    refine va_tlen (v := 65) hx hb hW.2.2.2.1 nS (by decide) dX0_cosine_8 ?_
    refine lv_icmp_lt (tgt := 22) hx hb dX0_cosine_9 (by decide) (fun c2 => ?_) (fun c2 => ?_)
    · have hw := hw.1 c2
      refine va_gets hx hb hW.2.2.1 nS hown (hts (.fieldLink RX0 120 "TideDepths" "COSINE" "[I") (by decide +kernel)) (fun _ h9 => h9) dX0_cosine_22 ?_
      refine lv_iload_n hx hb dX0_cosine_25 rfl (lv_at hl 1 rfl) ?_
      obtain ⟨h3, hw⟩ := hw
      refine va_ti (v := .int (cosT (v1).toNatClampNeg)) hx hb hW.2.2.2.1 nS h3 rfl dX0_cosine_26 ?_
      refine W.widen (k := 1) (n := 6) (Nat.le_of_ble_eq_true rfl) (Nat.le_of_ble_eq_true rfl) ?_
      exact vx_ret (W.iret (v := (cosT (v1).toNatClampNeg)) hx hb hr (fun t ht hWm => ⟨⟨(cosT (v1).toNatClampNeg), u, rfl, hw, by rw [ht]; exact hP, va_K.moved hWm.alike hK, hD⟩, hS.F ht⟩) hS.2.2 dX0_cosine_27)
    · have hw := hw.2 c2
      exact x0_throw (k := 4) (names := ["java/lang/IndexOutOfBoundsException", "java/lang/RuntimeException", "java/lang/Exception"]) (text := "no such number of the cosine") hx hb hst hown (by decide +kernel) (by decide +kernel) (hts (.classLink RX0 124 "java/lang/ArrayIndexOutOfBoundsException") (by decide +kernel)) (hts (.initialized "java/lang/ArrayIndexOutOfBoundsException") (by decide +kernel)) (by decide +kernel) hT (fun w h => hts w (by unfold wsX0_cosineX; exact List.mem_cons_of_mem _ (List.mem_append_right _ h))) (by decide +kernel) (by decide +kernel) (hl.1.trans hml.symm) dX0_cosine_12 dX0_cosine_15 dX0_cosine_16 dX0_cosine_18 dX0_cosine_21 hout (Nat.le_of_ble_eq_true rfl) (Nat.le_of_ble_eq_true rfl) (Nat.le_of_ble_eq_true rfl) (Nat.le_of_ble_eq_true rfl) hlocks hP hK hD rfl hw

def wX0_draft (post : Int64 → XS → Prop) (thr : Nat → Prop) (u : XS) (v1 : Int64) (v3 : Int64) (v5 : Int64) : Prop := (wX0_isWithin (fun r1 => ((r1 = 0 → (thr 0)) ∧ (¬ r1 = 0 → (wX0_isDensity (fun r3 => ((r3 = 0 → (thr 0)) ∧ (¬ r3 = 0 → (wX0_isDensity (fun r5 => ((r5 = 0 → (thr 0)) ∧ (¬ r5 = 0 → (wX0_dividedUp (fun r7 => (post r7 u)) (v1 * v3) v5)))) v5)))) v3)))) v1 0 30000)

set_option maxHeartbeats 4000000 in
set_option maxRecDepth 100000 in
theorem mX0_draft (l : Launch) (hst : l.stackTraces = false) (D : va_G) (cJ : ClassId) (h0 a1 a2 a3 a4 a5 a6 tC tS sz : Nat) (u : XS) (v1 : Int64) (v3 : Int64) (v5 : Int64) (post : Int64 → XS → Prop) (thr : Nat → Prop) : vx_Met l yX0_draft wsX0_draft ({ frames := 6, cells := 1, slots := 6, locals := 90 } : Room) (va_Pc [.ref h0, .long v1, .long v3, .long v5] (fun U => XE D cJ h0 a1 a2 a3 a4 a5 a6 tC tS sz u U ∧ wX0_draft post thr u v1 v3 v5)) (va_Ql post (fun u9 t9 => XT D cJ h0 a1 a2 a3 a4 a5 a6 (va_A (x0W cJ h0 a1 a2 a3 a4 a5 a6 u) sz) u9 t9) (va_A (x0W cJ h0 a1 a2 a3 a4 a5 a6 u) sz)) (vx_X thr (fun E9 k9 t9 => E9 = exN k9 ∧ XT D cJ h0 a1 a2 a3 a4 a5 a6 (va_A (x0W cJ h0 a1 a2 a3 a4 a5 a6 u) sz) u t9) (va_A (x0W cJ h0 a1 a2 a3 a4 a5 a6 u) sz)) 1 6 (va_A (x0W cJ h0 a1 a2 a3 a4 a5 a6 u) sz) := by
  refine vx_ofW (cc := cX0_draft) (maxL := 7) (ret := (some .long)) (by decide +kernel) rfl ?_
  intro p e s m args below meth c s₁ B hml hout hv
  obtain ⟨rfl, ⟨hsz, hP, hK, hD0, hZ, hT⟩, hw⟩ := hv
  have hx := B.exec
  have hb := B.bytes
  have hr := B.returns
  have hts := atoms_spec (ws := wsX0_draft) B.pre
  have hown : s.vm.findClass RX0 = some m.cls := findClass_of_methodNamed B.named
  have hlocks := B.notSynchronized
  have hin := ()
  subst hsz
  have hD := hD0.self (sz := s.heap.size)
  generalize hAe : va_A (x0W cJ h0 a1 a2 a3 a4 a5 a6 u) s.heap.size = A at hD hZ hT ⊢
  have hS : va_S A s.heap s.heap [] := va_S.rf
  have hW : XW D cJ h0 a1 a2 a3 a4 a5 a6 tC tS u s s.heap := ⟨hP, hK, hZ.narrow (fun _ h => h.elim)⟩
  have hl := lv_entry ([.ref h0, .long v1, .long v3, .long v5]) (n := 7) (Nat.le_of_ble_eq_true rfl)
  rw [lg_entry_eq]
  generalize (lg_sl ([.ref h0, .long v1, .long v3, .long v5]) ++ List.replicate (7 - (lg_sl ([.ref h0, .long v1, .long v3, .long v5])).length) Slot.unset).toArray = ls at hl ⊢
  have hl : lv_has ls 7 [(0, .ref h0), (1, .long v1), (3, .long v3), (5, .long v5)] := hl
  unfold wX0_draft at hw
  refine lv_lload_n hx hb dX0_draft_0 rfl (lv_at hl 1 rfl) ?_
  refine lv_lconst (v := 0) hx hb dX0_draft_1 (by decide) ?_
  refine lv_ldc2 (v := 30000) hx hb hown (hts (.constantLong RX0 101 (30000)) (by decide +kernel)) dX0_draft_2 ?_
  refine pc_Si (As := [.long v1, .long 0, .long 30000]) (rest := []) ⟨hx, hb, hml, hown, hts⟩ (mX0_isWithin l v1 0 30000 _) (va_cwS 3 hts gX0_draft_X0_isWithin rfl rfl rfl (by decide +kernel) ⟨Nat.le_of_ble_eq_true rfl, Nat.le_of_ble_eq_true rfl⟩) wK_bl (fun _ _ _ => hw) rfl hl.1 rfl (Nat.le_of_ble_eq_true rfl) dX0_draft_5 ⟨Nat.le_of_ble_eq_true rfl, Nat.le_of_ble_eq_true rfl⟩ (fun r1 hw => ?_)
  obtain ⟨z_r1, hw⟩ := hw
  refine lv_if_eq (tgt := 26) hx hb dX0_draft_8 (by decide) (fun c2 => ?_) (fun c2 => ?_)
  · have hw := hw.1 c2
    exact x0_throw (k := 0) (names := ["java/lang/RuntimeException", "java/lang/Exception"]) (text := "no such draft or density") hx hb hst hown (by decide +kernel) (by decide +kernel) (hts (.classLink RX0 48 "java/lang/IllegalArgumentException") (by decide +kernel)) (hts (.initialized "java/lang/IllegalArgumentException") (by decide +kernel)) (by decide +kernel) hT (fun w h => hts w (by unfold wsX0_draft; exact List.mem_cons_of_mem _ (List.mem_append_right _ h))) (by decide +kernel) (by decide +kernel) (hl.1.trans hml.symm) dX0_draft_26 dX0_draft_29 dX0_draft_30 dX0_draft_32 dX0_draft_35 hout (Nat.le_of_ble_eq_true rfl) (Nat.le_of_ble_eq_true rfl) (Nat.le_of_ble_eq_true rfl) (Nat.le_of_ble_eq_true rfl) hlocks hP hK hD rfl hw
  · have hw := hw.2 c2
    refine lv_lload_n hx hb dX0_draft_11 rfl (lv_at hl 2 rfl) ?_
    refine pc_Si (As := [.long v3]) (rest := []) ⟨hx, hb, hml, hown, hts⟩ (mX0_isDensity l v3 _) (va_cwS 1 hts gX0_draft_X0_isDensity rfl rfl rfl (by decide +kernel) ⟨Nat.le_of_ble_eq_true rfl, Nat.le_of_ble_eq_true rfl⟩) wK_bl (fun _ _ _ => hw) rfl hl.1 rfl (Nat.le_of_ble_eq_true rfl) dX0_draft_12 ⟨Nat.le_of_ble_eq_true rfl, Nat.le_of_ble_eq_true rfl⟩ (fun r3 hw => ?_)
    obtain ⟨z_r3, hw⟩ := hw
    refine lv_if_eq (tgt := 26) hx hb dX0_draft_15 (by decide) (fun c4 => ?_) (fun c4 => ?_)
    · have hw := hw.1 c4
      exact x0_throw (k := 0) (names := ["java/lang/RuntimeException", "java/lang/Exception"]) (text := "no such draft or density") hx hb hst hown (by decide +kernel) (by decide +kernel) (hts (.classLink RX0 48 "java/lang/IllegalArgumentException") (by decide +kernel)) (hts (.initialized "java/lang/IllegalArgumentException") (by decide +kernel)) (by decide +kernel) hT (fun w h => hts w (by unfold wsX0_draft; exact List.mem_cons_of_mem _ (List.mem_append_right _ h))) (by decide +kernel) (by decide +kernel) (hl.1.trans hml.symm) dX0_draft_26 dX0_draft_29 dX0_draft_30 dX0_draft_32 dX0_draft_35 hout (Nat.le_of_ble_eq_true rfl) (Nat.le_of_ble_eq_true rfl) (Nat.le_of_ble_eq_true rfl) (Nat.le_of_ble_eq_true rfl) hlocks hP hK hD rfl hw
    · have hw := hw.2 c4
      refine lv_lload hx hb dX0_draft_18 (lv_at hl 3 rfl) ?_
      refine pc_Si (As := [.long v5]) (rest := []) ⟨hx, hb, hml, hown, hts⟩ (mX0_isDensity l v5 _) (va_cwS 1 hts gX0_draft_X0_isDensity rfl rfl rfl (by decide +kernel) ⟨Nat.le_of_ble_eq_true rfl, Nat.le_of_ble_eq_true rfl⟩) wK_bl (fun _ _ _ => hw) rfl hl.1 rfl (Nat.le_of_ble_eq_true rfl) dX0_draft_20 ⟨Nat.le_of_ble_eq_true rfl, Nat.le_of_ble_eq_true rfl⟩ (fun r5 hw => ?_)
      obtain ⟨z_r5, hw⟩ := hw
      refine lv_if_ne (tgt := 36) hx hb dX0_draft_23 (by decide) (fun c6 => ?_) (fun c6 => ?_)
      · have hw := hw.2 c6
        refine lv_lload_n hx hb dX0_draft_36 rfl (lv_at hl 1 rfl) ?_
        refine lv_lload_n hx hb dX0_draft_37 rfl (lv_at hl 2 rfl) ?_
        refine lv_lmul hx hb dX0_draft_38 ?_
        refine lv_lload hx hb dX0_draft_39 (lv_at hl 3 rfl) ?_
        refine pc_Sl (As := [.long (v1 * v3), .long v5]) (rest := []) ⟨hx, hb, hml, hown, hts⟩ (mX0_dividedUp l (v1 * v3) v5 _) (va_cwS 2 hts gX0_draft_X0_dividedUp rfl rfl rfl (by decide +kernel) ⟨Nat.le_of_ble_eq_true rfl, Nat.le_of_ble_eq_true rfl⟩) wK_bl (fun _ _ _ => hw) rfl hl.1 rfl (Nat.le_of_ble_eq_true rfl) dX0_draft_41 ⟨Nat.le_of_ble_eq_true rfl, Nat.le_of_ble_eq_true rfl⟩ (fun r7 hw => ?_)
        refine W.widen (k := 1) (n := 6) (Nat.le_of_ble_eq_true rfl) (Nat.le_of_ble_eq_true rfl) ?_
        exact vx_ret (W.lret (v := r7) hx hb hr (fun t ht hWm => ⟨⟨r7, u, rfl, hw, by rw [ht]; exact hP, va_K.moved hWm.alike hK, hD⟩, hS.F ht⟩) hS.2.2 dX0_draft_44)
      · have hw := hw.1 c6
        exact x0_throw (k := 0) (names := ["java/lang/RuntimeException", "java/lang/Exception"]) (text := "no such draft or density") hx hb hst hown (by decide +kernel) (by decide +kernel) (hts (.classLink RX0 48 "java/lang/IllegalArgumentException") (by decide +kernel)) (hts (.initialized "java/lang/IllegalArgumentException") (by decide +kernel)) (by decide +kernel) hT (fun w h => hts w (by unfold wsX0_draft; exact List.mem_cons_of_mem _ (List.mem_append_right _ h))) (by decide +kernel) (by decide +kernel) (hl.1.trans hml.symm) dX0_draft_26 dX0_draft_29 dX0_draft_30 dX0_draft_32 dX0_draft_35 hout (Nat.le_of_ble_eq_true rfl) (Nat.le_of_ble_eq_true rfl) (Nat.le_of_ble_eq_true rfl) (Nat.le_of_ble_eq_true rfl) hlocks hP hK hD rfl hw

def wX0_place (post : Int32 → XS → Prop) (thr : Nat → Prop) (u : XS) (v1 : Int64) (v3 : Int64) : Prop := (wX0_isWithin (fun r1 => ((r1 = 0 → (thr 0)) ∧ (¬ r1 = 0 → (wX0_isLevel (fun r3 => ((r3 = 0 → (thr 0)) ∧ (¬ r3 = 0 → (((xNP u) ≤ 0 → (((xNP u) < 12 → (vp_in (xNP u) 12 ∧ (vp_in (xNP u) 12 ∧ (post (((xNP u) + 1) - 1) ((xTT u), (xTH u), (xNT u), (xOT u), (xOD u), (xNO u), (vp_updL (xPW u) ((xNP u)).toNatClampNeg v1), (vp_updL (xPB u) ((xNP u)).toNatClampNeg v3), ((xNP u) + 1)))))) ∧ (¬ (xNP u) < 12 → (thr 1)))) ∧ (¬ (xNP u) ≤ 0 → (vp_in ((xNP u) - 1) 12 ∧ ((((xPW u) (((xNP u) - 1)).toNatClampNeg) < v1 → (((xNP u) < 12 → (vp_in (xNP u) 12 ∧ (vp_in (xNP u) 12 ∧ (post (((xNP u) + 1) - 1) ((xTT u), (xTH u), (xNT u), (xOT u), (xOD u), (xNO u), (vp_updL (xPW u) ((xNP u)).toNatClampNeg v1), (vp_updL (xPB u) ((xNP u)).toNatClampNeg v3), ((xNP u) + 1)))))) ∧ (¬ (xNP u) < 12 → (thr 1)))) ∧ (¬ ((xPW u) (((xNP u) - 1)).toNatClampNeg) < v1 → (thr 0))))))))) v3)))) v1 0 1000000)

set_option maxHeartbeats 4000000 in
set_option maxRecDepth 100000 in
theorem mX0_place (l : Launch) (hst : l.stackTraces = false) (D : va_G) (cJ : ClassId) (h0 a1 a2 a3 a4 a5 a6 tC tS sz : Nat) (u : XS) (v1 : Int64) (v3 : Int64) (post : Int32 → XS → Prop) (thr : Nat → Prop) : vx_Met l yX0_place wsX0_place ({ frames := 6, cells := 1, slots := 6, locals := 90 } : Room) (va_Pc [.ref h0, .long v1, .long v3] (fun U => XE D cJ h0 a1 a2 a3 a4 a5 a6 tC tS sz u U ∧ wX0_place post thr u v1 v3)) (va_Qi post (fun u9 t9 => XT D cJ h0 a1 a2 a3 a4 a5 a6 (va_A (x0W cJ h0 a1 a2 a3 a4 a5 a6 u) sz) u9 t9) (va_A (x0W cJ h0 a1 a2 a3 a4 a5 a6 u) sz)) (vx_X thr (fun E9 k9 t9 => E9 = exN k9 ∧ XT D cJ h0 a1 a2 a3 a4 a5 a6 (va_A (x0W cJ h0 a1 a2 a3 a4 a5 a6 u) sz) u t9) (va_A (x0W cJ h0 a1 a2 a3 a4 a5 a6 u) sz)) 1 6 (va_A (x0W cJ h0 a1 a2 a3 a4 a5 a6 u) sz) := by
  refine vx_ofW (cc := cX0_place) (maxL := 5) (ret := (some .int)) (by decide +kernel) rfl ?_
  intro p e s m args below meth c s₁ B hml hout hv
  obtain ⟨rfl, ⟨hsz, hP, hK, hD0, hZ, hT⟩, hw⟩ := hv
  have hx := B.exec
  have hb := B.bytes
  have hr := B.returns
  have hts := atoms_spec (ws := wsX0_place) B.pre
  have hown : s.vm.findClass RX0 = some m.cls := findClass_of_methodNamed B.named
  have hlocks := B.notSynchronized
  have hin : ∀ w ∈ u_ws RX0 TX0 9, w ∈ wsX0_place := by decide +kernel
  subst hsz
  have hD := hD0.self (sz := s.heap.size)
  generalize hAe : va_A (x0W cJ h0 a1 a2 a3 a4 a5 a6 u) s.heap.size = A at hD hZ hT ⊢
  have hS : va_S A s.heap s.heap [] := va_S.rf
  have hW : XW D cJ h0 a1 a2 a3 a4 a5 a6 tC tS u s s.heap := ⟨hP, hK, hZ.narrow (fun _ h => h.elim)⟩
  have hl := lv_entry ([.ref h0, .long v1, .long v3]) (n := 5) (Nat.le_of_ble_eq_true rfl)
  rw [lg_entry_eq]
  generalize (lg_sl ([.ref h0, .long v1, .long v3]) ++ List.replicate (5 - (lg_sl ([.ref h0, .long v1, .long v3])).length) Slot.unset).toArray = ls at hl ⊢
  have hl : lv_has ls 5 [(0, .ref h0), (1, .long v1), (3, .long v3)] := hl
  unfold wX0_place at hw
  refine lv_lload_n hx hb dX0_place_0 rfl (lv_at hl 1 rfl) ?_
  refine lv_lconst (v := 0) hx hb dX0_place_1 (by decide) ?_
  refine lv_ldc2 (v := 1000000) hx hb hown (hts (.constantLong RX0 108 (1000000)) (by decide +kernel)) dX0_place_2 ?_
  refine pc_Si (As := [.long v1, .long 0, .long 1000000]) (rest := []) ⟨hx, hb, hml, hown, hts⟩ (mX0_isWithin l v1 0 1000000 _) (va_cwS 3 hts gX0_place_X0_isWithin rfl rfl rfl (by decide +kernel) ⟨Nat.le_of_ble_eq_true rfl, Nat.le_of_ble_eq_true rfl⟩) wK_bl (fun _ _ _ => hw) rfl hl.1 rfl (Nat.le_of_ble_eq_true rfl) dX0_place_5 ⟨Nat.le_of_ble_eq_true rfl, Nat.le_of_ble_eq_true rfl⟩ (fun r1 hw => ?_)
  obtain ⟨z_r1, hw⟩ := hw
  refine lv_if_eq (tgt := 18) hx hb dX0_place_8 (by decide) (fun c2 => ?_) (fun c2 => ?_)
  · have hw := hw.1 c2
    exact x0_throw (k := 0) (names := ["java/lang/RuntimeException", "java/lang/Exception"]) (text := "no such way or base") hx hb hst hown (by decide +kernel) (by decide +kernel) (hts (.classLink RX0 48 "java/lang/IllegalArgumentException") (by decide +kernel)) (hts (.initialized "java/lang/IllegalArgumentException") (by decide +kernel)) (by decide +kernel) hT (fun w h => hts w (by unfold wsX0_place; exact List.mem_cons_of_mem _ (List.mem_append_left _ (List.mem_append_right _ h)))) (by decide +kernel) (by decide +kernel) (hl.1.trans hml.symm) dX0_place_18 dX0_place_21 dX0_place_22 dX0_place_24 dX0_place_27 hout (Nat.le_of_ble_eq_true rfl) (Nat.le_of_ble_eq_true rfl) (Nat.le_of_ble_eq_true rfl) (Nat.le_of_ble_eq_true rfl) hlocks hP hK hD rfl hw
  · have hw := hw.2 c2
    refine lv_lload_n hx hb dX0_place_11 rfl (lv_at hl 2 rfl) ?_
    refine pc_Si (As := [.long v3]) (rest := []) ⟨hx, hb, hml, hown, hts⟩ (mX0_isLevel l v3 _) (va_cwS 1 hts gX0_place_X0_isLevel rfl rfl rfl (by decide +kernel) ⟨Nat.le_of_ble_eq_true rfl, Nat.le_of_ble_eq_true rfl⟩) wK_bl (fun _ _ _ => hw) rfl hl.1 rfl (Nat.le_of_ble_eq_true rfl) dX0_place_12 ⟨Nat.le_of_ble_eq_true rfl, Nat.le_of_ble_eq_true rfl⟩ (fun r3 hw => ?_)
    obtain ⟨z_r3, hw⟩ := hw
    refine lv_if_ne (tgt := 28) hx hb dX0_place_15 (by decide) (fun c4 => ?_) (fun c4 => ?_)
    · have hw := hw.2 c4
      refine lv_aload_n hx hb dX0_place_28 rfl (lv_at hl 0 rfl) ?_
      refine va_get (D := D) (ci := 0) (v := .int (xNP u)) (C := RX0) (T := TX0) (N := 9) hx hb hts hin hown hK hP 0 rfl rfl 8 (by decide) (hts (.fieldLink RX0 35 "TideDepths" "places" "I") (by decide +kernel)) (fun _ h9 => h9) rfl dX0_place_29 ?_
      refine lv_if_le (tgt := 61) hx hb dX0_place_32 (by decide) (fun c5 => ?_) (fun c5 => ?_)
      · have hw := hw.1 c5
        refine lv_aload_n hx hb dX0_place_61 rfl (lv_at hl 0 rfl) ?_
        refine va_get (D := D) (ci := 0) (v := .int (xNP u)) (C := RX0) (T := TX0) (N := 9) hx hb hts hin hown hK hP 0 rfl rfl 8 (by decide) (hts (.fieldLink RX0 35 "TideDepths" "places" "I") (by decide +kernel)) (fun _ h9 => h9) rfl dX0_place_62 ?_
        refine lv_bipush (v := 12) hx hb dX0_place_65 (by decide) ?_
        refine lv_icmp_lt (tgt := 80) hx hb dX0_place_67 (by decide) (fun c6 => ?_) (fun c6 => ?_)
        · have hw := hw.1 c6
          refine lv_aload_n hx hb dX0_place_80 rfl (lv_at hl 0 rfl) ?_
          refine va_get (D := D) (ci := 0) (v := .ref a5) (C := RX0) (T := TX0) (N := 9) hx hb hts hin hown hK hP 0 rfl rfl 6 (by decide) (hts (.fieldLink RX0 29 "TideDepths" "ways" "[J") (by decide +kernel)) (fun _ h9 => h9) rfl dX0_place_81 ?_
          refine lv_aload_n hx hb dX0_place_84 rfl (lv_at hl 0 rfl) ?_
          refine va_get (D := D) (ci := 0) (v := .int (xNP u)) (C := RX0) (T := TX0) (N := 9) hx hb hts hin hown hK hP 0 rfl rfl 8 (by decide) (hts (.fieldLink RX0 35 "TideDepths" "places" "I") (by decide +kernel)) (fun _ h9 => h9) rfl dX0_place_85 ?_
          refine lv_lload_n hx hb dX0_place_88 rfl (lv_at hl 1 rfl) ?_
          obtain ⟨h7, hw⟩ := hw
          refine va_last hx hb hK hP hD hS 5 0 rfl rfl h7 dX0_place_89 (fun H locs hP hD hS => ?_)
          have hP : va_P D cls2 (x0W cJ h0 a1 a2 a3 a4 a5 a6 ((xTT u), (xTH u), (xNT u), (xOT u), (xOD u), (xNO u), (vp_updL (xPW u) ((xNP u)).toNatClampNeg v1), (xPB u), (xNP u))) H := hP
          have hD : va_D A (x0W cJ h0 a1 a2 a3 a4 a5 a6 ((xTT u), (xTH u), (xNT u), (xOT u), (xOD u), (xNO u), (vp_updL (xPW u) ((xNP u)).toNatClampNeg v1), (xPB u), (xNP u))) := hD
          have hW : XW D cJ h0 a1 a2 a3 a4 a5 a6 tC tS ((xTT u), (xTH u), (xNT u), (xOT u), (xOD u), (xNO u), (vp_updL (xPW u) ((xNP u)).toNatClampNeg v1), (xPB u), (xNP u)) s H := ⟨hP, hK, (SW.kept hZ hS.2.1).narrow (fun _ h => h.elim)⟩
          refine lv_aload_n hx hb dX0_place_90 rfl (lv_at hl 0 rfl) ?_
          refine va_get (D := D) (ci := 0) (v := .ref a6) (C := RX0) (T := TX0) (N := 9) hx hb hts hin hown hK hP 0 rfl rfl 7 (by decide) (hts (.fieldLink RX0 32 "TideDepths" "bases" "[J") (by decide +kernel)) (fun _ h9 => h9) rfl dX0_place_91 ?_
          refine lv_aload_n hx hb dX0_place_94 rfl (lv_at hl 0 rfl) ?_
          refine va_get (D := D) (ci := 0) (v := .int (xNP u)) (C := RX0) (T := TX0) (N := 9) hx hb hts hin hown hK hP 0 rfl rfl 8 (by decide) (hts (.fieldLink RX0 35 "TideDepths" "places" "I") (by decide +kernel)) (fun _ h9 => h9) rfl dX0_place_95 ?_
          refine lv_lload_n hx hb dX0_place_98 rfl (lv_at hl 2 rfl) ?_
          obtain ⟨h8, hw⟩ := hw
          refine va_last hx hb hK hP hD hS 6 0 rfl rfl h8 dX0_place_99 (fun H locs hP hD hS => ?_)
          have hP : va_P D cls2 (x0W cJ h0 a1 a2 a3 a4 a5 a6 ((xTT u), (xTH u), (xNT u), (xOT u), (xOD u), (xNO u), (vp_updL (xPW u) ((xNP u)).toNatClampNeg v1), (vp_updL (xPB u) ((xNP u)).toNatClampNeg v3), (xNP u))) H := hP
          have hD : va_D A (x0W cJ h0 a1 a2 a3 a4 a5 a6 ((xTT u), (xTH u), (xNT u), (xOT u), (xOD u), (xNO u), (vp_updL (xPW u) ((xNP u)).toNatClampNeg v1), (vp_updL (xPB u) ((xNP u)).toNatClampNeg v3), (xNP u))) := hD
          have hW : XW D cJ h0 a1 a2 a3 a4 a5 a6 tC tS ((xTT u), (xTH u), (xNT u), (xOT u), (xOD u), (xNO u), (vp_updL (xPW u) ((xNP u)).toNatClampNeg v1), (vp_updL (xPB u) ((xNP u)).toNatClampNeg v3), (xNP u)) s H := ⟨hP, hK, (SW.kept hZ hS.2.1).narrow (fun _ h => h.elim)⟩
          refine lv_aload_n hx hb dX0_place_100 rfl (lv_at hl 0 rfl) ?_
          refine lv_dup hx hb dX0_place_101 rfl ?_
          refine va_get (D := D) (ci := 0) (v := .int (xNP u)) (C := RX0) (T := TX0) (N := 9) hx hb hts hin hown hK hP 0 rfl rfl 8 (by decide) (hts (.fieldLink RX0 35 "TideDepths" "places" "I") (by decide +kernel)) (fun _ h9 => h9) rfl dX0_place_102 ?_
          refine lv_iconst (v := 1) hx hb dX0_place_105 (by decide) ?_
          refine lv_iadd hx hb dX0_place_106 ?_
          refine va_put (D := D) (ci := 0) (v := .int ((xNP u) + 1)) (ty := .int) (C := RX0) (T := TX0) (N := 9) hx hb hts hin tyX0 tyX0_ok nmX0 hown hK hP hD hS 0 rfl rfl 8 (by decide) (hts (.fieldLink RX0 35 "TideDepths" "places" "I") (by decide +kernel)) (fun _ h9 => h9) rfl (by decide +kernel) rfl rfl (Nat.le_of_ble_eq_true rfl) dX0_place_107 (fun H locs hP hD hS => ?_)
          have hP : va_P D cls2 (x0W cJ h0 a1 a2 a3 a4 a5 a6 ((xTT u), (xTH u), (xNT u), (xOT u), (xOD u), (xNO u), (vp_updL (xPW u) ((xNP u)).toNatClampNeg v1), (vp_updL (xPB u) ((xNP u)).toNatClampNeg v3), ((xNP u) + 1))) H := hP
          have hD : va_D A (x0W cJ h0 a1 a2 a3 a4 a5 a6 ((xTT u), (xTH u), (xNT u), (xOT u), (xOD u), (xNO u), (vp_updL (xPW u) ((xNP u)).toNatClampNeg v1), (vp_updL (xPB u) ((xNP u)).toNatClampNeg v3), ((xNP u) + 1))) := hD
          have hW : XW D cJ h0 a1 a2 a3 a4 a5 a6 tC tS ((xTT u), (xTH u), (xNT u), (xOT u), (xOD u), (xNO u), (vp_updL (xPW u) ((xNP u)).toNatClampNeg v1), (vp_updL (xPB u) ((xNP u)).toNatClampNeg v3), ((xNP u) + 1)) s H := ⟨hP, hK, (SW.kept hZ hS.2.1).narrow (fun _ h => h.elim)⟩
          refine lv_aload_n hx hb dX0_place_110 rfl (lv_at hl 0 rfl) ?_
          refine va_get (D := D) (ci := 0) (v := .int ((xNP u) + 1)) (C := RX0) (T := TX0) (N := 9) hx hb hts hin hown hK hP 0 rfl rfl 8 (by decide) (hts (.fieldLink RX0 35 "TideDepths" "places" "I") (by decide +kernel)) (fun _ h9 => h9) rfl dX0_place_111 ?_
          refine lv_iconst (v := 1) hx hb dX0_place_114 (by decide) ?_
          refine lv_isub hx hb dX0_place_115 ?_
          refine W.widen (k := 1) (n := 6) (Nat.le_of_ble_eq_true rfl) (Nat.le_of_ble_eq_true rfl) ?_
          exact vx_ret (W.iret (v := (((xNP u) + 1) - 1)) hx hb hr (fun t ht hWm => ⟨⟨(((xNP u) + 1) - 1), ((xTT u), (xTH u), (xNT u), (xOT u), (xOD u), (xNO u), (vp_updL (xPW u) ((xNP u)).toNatClampNeg v1), (vp_updL (xPB u) ((xNP u)).toNatClampNeg v3), ((xNP u) + 1)), rfl, hw, by rw [ht]; exact hP, va_K.moved hWm.alike hK, hD⟩, hS.F ht⟩) hS.2.2 dX0_place_116)
        · have hw := hw.2 c6
          exact x0_throw (k := 1) (names := ["java/lang/RuntimeException", "java/lang/Exception"]) (text := "no room for a place") hx hb hst hown (by decide +kernel) (by decide +kernel) (hts (.classLink RX0 57 "java/lang/IllegalStateException") (by decide +kernel)) (hts (.initialized "java/lang/IllegalStateException") (by decide +kernel)) (by decide +kernel) hT (fun w h => hts w (by unfold wsX0_place; exact List.mem_cons_of_mem _ (List.mem_append_right _ h))) (by decide +kernel) (by decide +kernel) (hl.1.trans hml.symm) dX0_place_70 dX0_place_73 dX0_place_74 dX0_place_76 dX0_place_79 hout (Nat.le_of_ble_eq_true rfl) (Nat.le_of_ble_eq_true rfl) (Nat.le_of_ble_eq_true rfl) (Nat.le_of_ble_eq_true rfl) hlocks hP hK hD rfl hw
      · have hw := hw.2 c5
        refine lv_lload_n hx hb dX0_place_35 rfl (lv_at hl 1 rfl) ?_
        refine lv_aload_n hx hb dX0_place_36 rfl (lv_at hl 0 rfl) ?_
        refine va_get (D := D) (ci := 0) (v := .ref a5) (C := RX0) (T := TX0) (N := 9) hx hb hts hin hown hK hP 0 rfl rfl 6 (by decide) (hts (.fieldLink RX0 29 "TideDepths" "ways" "[J") (by decide +kernel)) (fun _ h9 => h9) rfl dX0_place_37 ?_
        refine lv_aload_n hx hb dX0_place_40 rfl (lv_at hl 0 rfl) ?_
        refine va_get (D := D) (ci := 0) (v := .int (xNP u)) (C := RX0) (T := TX0) (N := 9) hx hb hts hin hown hK hP 0 rfl rfl 8 (by decide) (hts (.fieldLink RX0 35 "TideDepths" "places" "I") (by decide +kernel)) (fun _ h9 => h9) rfl dX0_place_41 ?_
        refine lv_iconst (v := 1) hx hb dX0_place_44 (by decide) ?_
        refine lv_isub hx hb dX0_place_45 ?_
        obtain ⟨h9, hw⟩ := hw
        refine va_lald hx hb hK hP 5 0 rfl rfl h9 dX0_place_46 ?_
        refine bl_gt (tgt := 61) hx hb dX0_place_47 dX0_place_48 (by decide) (fun c10 => ?_) (fun c10 => ?_)
        · have hw := hw.1 c10
          refine lv_aload_n hx hb dX0_place_61 rfl (lv_at hl 0 rfl) ?_
          refine va_get (D := D) (ci := 0) (v := .int (xNP u)) (C := RX0) (T := TX0) (N := 9) hx hb hts hin hown hK hP 0 rfl rfl 8 (by decide) (hts (.fieldLink RX0 35 "TideDepths" "places" "I") (by decide +kernel)) (fun _ h9 => h9) rfl dX0_place_62 ?_
          refine lv_bipush (v := 12) hx hb dX0_place_65 (by decide) ?_
          refine lv_icmp_lt (tgt := 80) hx hb dX0_place_67 (by decide) (fun c11 => ?_) (fun c11 => ?_)
          · have hw := hw.1 c11
            refine lv_aload_n hx hb dX0_place_80 rfl (lv_at hl 0 rfl) ?_
            refine va_get (D := D) (ci := 0) (v := .ref a5) (C := RX0) (T := TX0) (N := 9) hx hb hts hin hown hK hP 0 rfl rfl 6 (by decide) (hts (.fieldLink RX0 29 "TideDepths" "ways" "[J") (by decide +kernel)) (fun _ h9 => h9) rfl dX0_place_81 ?_
            refine lv_aload_n hx hb dX0_place_84 rfl (lv_at hl 0 rfl) ?_
            refine va_get (D := D) (ci := 0) (v := .int (xNP u)) (C := RX0) (T := TX0) (N := 9) hx hb hts hin hown hK hP 0 rfl rfl 8 (by decide) (hts (.fieldLink RX0 35 "TideDepths" "places" "I") (by decide +kernel)) (fun _ h9 => h9) rfl dX0_place_85 ?_
            refine lv_lload_n hx hb dX0_place_88 rfl (lv_at hl 1 rfl) ?_
            obtain ⟨h12, hw⟩ := hw
            refine va_last hx hb hK hP hD hS 5 0 rfl rfl h12 dX0_place_89 (fun H locs hP hD hS => ?_)
            have hP : va_P D cls2 (x0W cJ h0 a1 a2 a3 a4 a5 a6 ((xTT u), (xTH u), (xNT u), (xOT u), (xOD u), (xNO u), (vp_updL (xPW u) ((xNP u)).toNatClampNeg v1), (xPB u), (xNP u))) H := hP
            have hD : va_D A (x0W cJ h0 a1 a2 a3 a4 a5 a6 ((xTT u), (xTH u), (xNT u), (xOT u), (xOD u), (xNO u), (vp_updL (xPW u) ((xNP u)).toNatClampNeg v1), (xPB u), (xNP u))) := hD
            have hW : XW D cJ h0 a1 a2 a3 a4 a5 a6 tC tS ((xTT u), (xTH u), (xNT u), (xOT u), (xOD u), (xNO u), (vp_updL (xPW u) ((xNP u)).toNatClampNeg v1), (xPB u), (xNP u)) s H := ⟨hP, hK, (SW.kept hZ hS.2.1).narrow (fun _ h => h.elim)⟩
            refine lv_aload_n hx hb dX0_place_90 rfl (lv_at hl 0 rfl) ?_
            refine va_get (D := D) (ci := 0) (v := .ref a6) (C := RX0) (T := TX0) (N := 9) hx hb hts hin hown hK hP 0 rfl rfl 7 (by decide) (hts (.fieldLink RX0 32 "TideDepths" "bases" "[J") (by decide +kernel)) (fun _ h9 => h9) rfl dX0_place_91 ?_
            refine lv_aload_n hx hb dX0_place_94 rfl (lv_at hl 0 rfl) ?_
            refine va_get (D := D) (ci := 0) (v := .int (xNP u)) (C := RX0) (T := TX0) (N := 9) hx hb hts hin hown hK hP 0 rfl rfl 8 (by decide) (hts (.fieldLink RX0 35 "TideDepths" "places" "I") (by decide +kernel)) (fun _ h9 => h9) rfl dX0_place_95 ?_
            refine lv_lload_n hx hb dX0_place_98 rfl (lv_at hl 2 rfl) ?_
            obtain ⟨h13, hw⟩ := hw
            refine va_last hx hb hK hP hD hS 6 0 rfl rfl h13 dX0_place_99 (fun H locs hP hD hS => ?_)
            have hP : va_P D cls2 (x0W cJ h0 a1 a2 a3 a4 a5 a6 ((xTT u), (xTH u), (xNT u), (xOT u), (xOD u), (xNO u), (vp_updL (xPW u) ((xNP u)).toNatClampNeg v1), (vp_updL (xPB u) ((xNP u)).toNatClampNeg v3), (xNP u))) H := hP
            have hD : va_D A (x0W cJ h0 a1 a2 a3 a4 a5 a6 ((xTT u), (xTH u), (xNT u), (xOT u), (xOD u), (xNO u), (vp_updL (xPW u) ((xNP u)).toNatClampNeg v1), (vp_updL (xPB u) ((xNP u)).toNatClampNeg v3), (xNP u))) := hD
            have hW : XW D cJ h0 a1 a2 a3 a4 a5 a6 tC tS ((xTT u), (xTH u), (xNT u), (xOT u), (xOD u), (xNO u), (vp_updL (xPW u) ((xNP u)).toNatClampNeg v1), (vp_updL (xPB u) ((xNP u)).toNatClampNeg v3), (xNP u)) s H := ⟨hP, hK, (SW.kept hZ hS.2.1).narrow (fun _ h => h.elim)⟩
            refine lv_aload_n hx hb dX0_place_100 rfl (lv_at hl 0 rfl) ?_
            refine lv_dup hx hb dX0_place_101 rfl ?_
            refine va_get (D := D) (ci := 0) (v := .int (xNP u)) (C := RX0) (T := TX0) (N := 9) hx hb hts hin hown hK hP 0 rfl rfl 8 (by decide) (hts (.fieldLink RX0 35 "TideDepths" "places" "I") (by decide +kernel)) (fun _ h9 => h9) rfl dX0_place_102 ?_
            refine lv_iconst (v := 1) hx hb dX0_place_105 (by decide) ?_
            refine lv_iadd hx hb dX0_place_106 ?_
            refine va_put (D := D) (ci := 0) (v := .int ((xNP u) + 1)) (ty := .int) (C := RX0) (T := TX0) (N := 9) hx hb hts hin tyX0 tyX0_ok nmX0 hown hK hP hD hS 0 rfl rfl 8 (by decide) (hts (.fieldLink RX0 35 "TideDepths" "places" "I") (by decide +kernel)) (fun _ h9 => h9) rfl (by decide +kernel) rfl rfl (Nat.le_of_ble_eq_true rfl) dX0_place_107 (fun H locs hP hD hS => ?_)
            have hP : va_P D cls2 (x0W cJ h0 a1 a2 a3 a4 a5 a6 ((xTT u), (xTH u), (xNT u), (xOT u), (xOD u), (xNO u), (vp_updL (xPW u) ((xNP u)).toNatClampNeg v1), (vp_updL (xPB u) ((xNP u)).toNatClampNeg v3), ((xNP u) + 1))) H := hP
            have hD : va_D A (x0W cJ h0 a1 a2 a3 a4 a5 a6 ((xTT u), (xTH u), (xNT u), (xOT u), (xOD u), (xNO u), (vp_updL (xPW u) ((xNP u)).toNatClampNeg v1), (vp_updL (xPB u) ((xNP u)).toNatClampNeg v3), ((xNP u) + 1))) := hD
            have hW : XW D cJ h0 a1 a2 a3 a4 a5 a6 tC tS ((xTT u), (xTH u), (xNT u), (xOT u), (xOD u), (xNO u), (vp_updL (xPW u) ((xNP u)).toNatClampNeg v1), (vp_updL (xPB u) ((xNP u)).toNatClampNeg v3), ((xNP u) + 1)) s H := ⟨hP, hK, (SW.kept hZ hS.2.1).narrow (fun _ h => h.elim)⟩
            refine lv_aload_n hx hb dX0_place_110 rfl (lv_at hl 0 rfl) ?_
            refine va_get (D := D) (ci := 0) (v := .int ((xNP u) + 1)) (C := RX0) (T := TX0) (N := 9) hx hb hts hin hown hK hP 0 rfl rfl 8 (by decide) (hts (.fieldLink RX0 35 "TideDepths" "places" "I") (by decide +kernel)) (fun _ h9 => h9) rfl dX0_place_111 ?_
            refine lv_iconst (v := 1) hx hb dX0_place_114 (by decide) ?_
            refine lv_isub hx hb dX0_place_115 ?_
            refine W.widen (k := 1) (n := 6) (Nat.le_of_ble_eq_true rfl) (Nat.le_of_ble_eq_true rfl) ?_
            exact vx_ret (W.iret (v := (((xNP u) + 1) - 1)) hx hb hr (fun t ht hWm => ⟨⟨(((xNP u) + 1) - 1), ((xTT u), (xTH u), (xNT u), (xOT u), (xOD u), (xNO u), (vp_updL (xPW u) ((xNP u)).toNatClampNeg v1), (vp_updL (xPB u) ((xNP u)).toNatClampNeg v3), ((xNP u) + 1)), rfl, hw, by rw [ht]; exact hP, va_K.moved hWm.alike hK, hD⟩, hS.F ht⟩) hS.2.2 dX0_place_116)
          · have hw := hw.2 c11
            exact x0_throw (k := 1) (names := ["java/lang/RuntimeException", "java/lang/Exception"]) (text := "no room for a place") hx hb hst hown (by decide +kernel) (by decide +kernel) (hts (.classLink RX0 57 "java/lang/IllegalStateException") (by decide +kernel)) (hts (.initialized "java/lang/IllegalStateException") (by decide +kernel)) (by decide +kernel) hT (fun w h => hts w (by unfold wsX0_place; exact List.mem_cons_of_mem _ (List.mem_append_right _ h))) (by decide +kernel) (by decide +kernel) (hl.1.trans hml.symm) dX0_place_70 dX0_place_73 dX0_place_74 dX0_place_76 dX0_place_79 hout (Nat.le_of_ble_eq_true rfl) (Nat.le_of_ble_eq_true rfl) (Nat.le_of_ble_eq_true rfl) (Nat.le_of_ble_eq_true rfl) hlocks hP hK hD rfl hw
        · have hw := hw.2 c10
          exact x0_throw (k := 0) (names := ["java/lang/RuntimeException", "java/lang/Exception"]) (text := "not above the last place's way") hx hb hst hown (by decide +kernel) (by decide +kernel) (hts (.classLink RX0 48 "java/lang/IllegalArgumentException") (by decide +kernel)) (hts (.initialized "java/lang/IllegalArgumentException") (by decide +kernel)) (by decide +kernel) hT (fun w h => hts w (by unfold wsX0_place; exact List.mem_cons_of_mem _ (List.mem_append_left _ (List.mem_append_right _ h)))) (by decide +kernel) (by decide +kernel) (hl.1.trans hml.symm) dX0_place_51 dX0_place_54 dX0_place_55 dX0_place_57 dX0_place_60 hout (Nat.le_of_ble_eq_true rfl) (Nat.le_of_ble_eq_true rfl) (Nat.le_of_ble_eq_true rfl) (Nat.le_of_ble_eq_true rfl) hlocks hP hK hD rfl hw
    · have hw := hw.1 c4
      exact x0_throw (k := 0) (names := ["java/lang/RuntimeException", "java/lang/Exception"]) (text := "no such way or base") hx hb hst hown (by decide +kernel) (by decide +kernel) (hts (.classLink RX0 48 "java/lang/IllegalArgumentException") (by decide +kernel)) (hts (.initialized "java/lang/IllegalArgumentException") (by decide +kernel)) (by decide +kernel) hT (fun w h => hts w (by unfold wsX0_place; exact List.mem_cons_of_mem _ (List.mem_append_left _ (List.mem_append_right _ h)))) (by decide +kernel) (by decide +kernel) (hl.1.trans hml.symm) dX0_place_18 dX0_place_21 dX0_place_22 dX0_place_24 dX0_place_27 hout (Nat.le_of_ble_eq_true rfl) (Nat.le_of_ble_eq_true rfl) (Nat.le_of_ble_eq_true rfl) (Nat.le_of_ble_eq_true rfl) hlocks hP hK hD rfl hw

def wX0_depth (post : Int64 → XS → Prop) (thr : Nat → Prop) (u : XS) (v1 : Int32) (v2 : Int64) : Prop := ((v1 < 0 → (thr 3)) ∧ (¬ v1 < 0 → ((v1 < (xNP u) → (wX0_isInTable (fun r3 => ((r3 = 0 → (thr 0)) ∧ (¬ r3 = 0 → (vp_in v1 12 ∧ (wX0_heightAt (fun r6 => (post (((xPB u) (v1).toNatClampNeg) + r6) u)) u v2))))) u v2)) ∧ (¬ v1 < (xNP u) → (thr 3)))))

set_option maxHeartbeats 4000000 in
set_option maxRecDepth 100000 in
theorem mX0_depth (l : Launch) (hst : l.stackTraces = false) (D : va_G) (cJ : ClassId) (h0 a1 a2 a3 a4 a5 a6 tC tS sz : Nat) (u : XS) (v1 : Int32) (v2 : Int64) (post : Int64 → XS → Prop) (thr : Nat → Prop) : vx_Met l yX0_depth wsX0_depth ({ frames := 6, cells := 1, slots := 6, locals := 90 } : Room) (va_Pc [.ref h0, .int v1, .long v2] (fun U => XE D cJ h0 a1 a2 a3 a4 a5 a6 tC tS sz u U ∧ wX0_depth post thr u v1 v2)) (va_Ql post (fun u9 t9 => XT D cJ h0 a1 a2 a3 a4 a5 a6 (va_A (x0W cJ h0 a1 a2 a3 a4 a5 a6 u) sz) u9 t9) (va_A (x0W cJ h0 a1 a2 a3 a4 a5 a6 u) sz)) (vx_X thr (fun E9 k9 t9 => E9 = exN k9 ∧ XT D cJ h0 a1 a2 a3 a4 a5 a6 (va_A (x0W cJ h0 a1 a2 a3 a4 a5 a6 u) sz) u t9) (va_A (x0W cJ h0 a1 a2 a3 a4 a5 a6 u) sz)) 1 6 (va_A (x0W cJ h0 a1 a2 a3 a4 a5 a6 u) sz) := by
  refine vx_ofW (cc := cX0_depth) (maxL := 4) (ret := (some .long)) (by decide +kernel) rfl ?_
  intro p e s m args below meth c s₁ B hml hout hv
  obtain ⟨rfl, ⟨hsz, hP, hK, hD0, hZ, hT⟩, hw⟩ := hv
  have hx := B.exec
  have hb := B.bytes
  have hr := B.returns
  have hts := atoms_spec (ws := wsX0_depth) B.pre
  have hown : s.vm.findClass RX0 = some m.cls := findClass_of_methodNamed B.named
  have hlocks := B.notSynchronized
  have hin : ∀ w ∈ u_ws RX0 TX0 9, w ∈ wsX0_depth := by decide +kernel
  subst hsz
  have hD := hD0.self (sz := s.heap.size)
  generalize hAe : va_A (x0W cJ h0 a1 a2 a3 a4 a5 a6 u) s.heap.size = A at hD hZ hT ⊢
  have hS : va_S A s.heap s.heap [] := va_S.rf
  have hW : XW D cJ h0 a1 a2 a3 a4 a5 a6 tC tS u s s.heap := ⟨hP, hK, hZ.narrow (fun _ h => h.elim)⟩
  have hl := lv_entry ([.ref h0, .int v1, .long v2]) (n := 4) (Nat.le_of_ble_eq_true rfl)
  rw [lg_entry_eq]
  generalize (lg_sl ([.ref h0, .int v1, .long v2]) ++ List.replicate (4 - (lg_sl ([.ref h0, .int v1, .long v2])).length) Slot.unset).toArray = ls at hl ⊢
  have hl : lv_has ls 4 [(0, .ref h0), (1, .int v1), (2, .long v2)] := hl
  unfold wX0_depth at hw
  refine lv_iload_n hx hb dX0_depth_0 rfl (lv_at hl 1 rfl) ?_
  refine lv_if_lt (tgt := 12) hx hb dX0_depth_1 (by decide) (fun c1 => ?_) (fun c1 => ?_)
  · have hw := hw.1 c1
    exact x0_throw (k := 3) (names := ["java/lang/RuntimeException", "java/lang/Exception"]) (text := "no such place") hx hb hst hown (by decide +kernel) (by decide +kernel) (hts (.classLink RX0 143 "java/lang/IndexOutOfBoundsException") (by decide +kernel)) (hts (.initialized "java/lang/IndexOutOfBoundsException") (by decide +kernel)) (by decide +kernel) hT (fun w h => hts w (by unfold wsX0_depth; exact List.mem_cons_of_mem _ (List.mem_append_left _ (List.mem_append_right _ h)))) (by decide +kernel) (by decide +kernel) (hl.1.trans hml.symm) dX0_depth_12 dX0_depth_15 dX0_depth_16 dX0_depth_18 dX0_depth_21 hout (Nat.le_of_ble_eq_true rfl) (Nat.le_of_ble_eq_true rfl) (Nat.le_of_ble_eq_true rfl) (Nat.le_of_ble_eq_true rfl) hlocks hP hK hD rfl hw
  · have hw := hw.2 c1
    refine lv_iload_n hx hb dX0_depth_4 rfl (lv_at hl 1 rfl) ?_
    refine lv_aload_n hx hb dX0_depth_5 rfl (lv_at hl 0 rfl) ?_
    refine va_get (D := D) (ci := 0) (v := .int (xNP u)) (C := RX0) (T := TX0) (N := 9) hx hb hts hin hown hK hP 0 rfl rfl 8 (by decide) (hts (.fieldLink RX0 35 "TideDepths" "places" "I") (by decide +kernel)) (fun _ h9 => h9) rfl dX0_depth_6 ?_
    refine lv_icmp_lt (tgt := 22) hx hb dX0_depth_9 (by decide) (fun c2 => ?_) (fun c2 => ?_)
    · have hw := hw.1 c2
      refine lv_aload_n hx hb dX0_depth_22 rfl (lv_at hl 0 rfl) ?_
      refine lv_lload_n hx hb dX0_depth_23 rfl (lv_at hl 2 rfl) ?_
      refine pc_Vi (As := [.long v2]) (rest := []) ⟨hx, hb, hml, hown, hts⟩ (mX0_isInTable l D cJ h0 a1 a2 a3 a4 a5 a6 tC tS u v2 _) (cwV 1 hts gX0_depth_X0_isInTable rfl rfl rfl (by decide +kernel) ⟨Nat.le_of_ble_eq_true rfl, Nat.le_of_ble_eq_true rfl⟩) (wX_rc hW) wX_bl (wX_in hW hw) rfl hl.1 rfl (Nat.le_of_ble_eq_true rfl) dX0_depth_24 ⟨Nat.le_of_ble_eq_true rfl, Nat.le_of_ble_eq_true rfl⟩ (fun r3 hw => ?_)
      obtain ⟨z_r3, hw⟩ := hw
      refine lv_if_ne (tgt := 40) hx hb dX0_depth_27 (by decide) (fun c4 => ?_) (fun c4 => ?_)
      · have hw := hw.2 c4
        refine lv_aload_n hx hb dX0_depth_40 rfl (lv_at hl 0 rfl) ?_
        refine va_get (D := D) (ci := 0) (v := .ref a6) (C := RX0) (T := TX0) (N := 9) hx hb hts hin hown hK hP 0 rfl rfl 7 (by decide) (hts (.fieldLink RX0 32 "TideDepths" "bases" "[J") (by decide +kernel)) (fun _ h9 => h9) rfl dX0_depth_41 ?_
        refine lv_iload_n hx hb dX0_depth_44 rfl (lv_at hl 1 rfl) ?_
        obtain ⟨h5, hw⟩ := hw
        refine va_lald hx hb hK hP 6 0 rfl rfl h5 dX0_depth_45 ?_
        refine lv_aload_n hx hb dX0_depth_46 rfl (lv_at hl 0 rfl) ?_
        refine lv_lload_n hx hb dX0_depth_47 rfl (lv_at hl 2 rfl) ?_
        refine pc_Vl (As := [.long v2]) (rest := [.long ((xPB u) (v1).toNatClampNeg)]) ⟨hx, hb, hml, hown, hts⟩ (mX0_heightAt l D cJ h0 a1 a2 a3 a4 a5 a6 tC tS u v2 _) (cwV 1 hts gX0_depth_X0_heightAt rfl rfl rfl (by decide +kernel) ⟨Nat.le_of_ble_eq_true rfl, Nat.le_of_ble_eq_true rfl⟩) (wX_rc hW) wX_bl (wX_in hW hw) rfl hl.1 rfl (Nat.le_of_ble_eq_true rfl) dX0_depth_48 ⟨Nat.le_of_ble_eq_true rfl, Nat.le_of_ble_eq_true rfl⟩ (fun r6 hw => ?_)
        refine lv_ladd hx hb dX0_depth_51 ?_
        refine W.widen (k := 1) (n := 6) (Nat.le_of_ble_eq_true rfl) (Nat.le_of_ble_eq_true rfl) ?_
        exact vx_ret (W.lret (v := (((xPB u) (v1).toNatClampNeg) + r6)) hx hb hr (fun t ht hWm => ⟨⟨(((xPB u) (v1).toNatClampNeg) + r6), u, rfl, hw, by rw [ht]; exact hP, va_K.moved hWm.alike hK, hD⟩, hS.F ht⟩) hS.2.2 dX0_depth_52)
      · have hw := hw.1 c4
        exact x0_throw (k := 0) (names := ["java/lang/RuntimeException", "java/lang/Exception"]) (text := "outside the table") hx hb hst hown (by decide +kernel) (by decide +kernel) (hts (.classLink RX0 48 "java/lang/IllegalArgumentException") (by decide +kernel)) (hts (.initialized "java/lang/IllegalArgumentException") (by decide +kernel)) (by decide +kernel) hT (fun w h => hts w (by unfold wsX0_depth; exact List.mem_cons_of_mem _ (List.mem_append_right _ h))) (by decide +kernel) (by decide +kernel) (hl.1.trans hml.symm) dX0_depth_30 dX0_depth_33 dX0_depth_34 dX0_depth_36 dX0_depth_39 hout (Nat.le_of_ble_eq_true rfl) (Nat.le_of_ble_eq_true rfl) (Nat.le_of_ble_eq_true rfl) (Nat.le_of_ble_eq_true rfl) hlocks hP hK hD rfl hw
    · have hw := hw.2 c2
      exact x0_throw (k := 3) (names := ["java/lang/RuntimeException", "java/lang/Exception"]) (text := "no such place") hx hb hst hown (by decide +kernel) (by decide +kernel) (hts (.classLink RX0 143 "java/lang/IndexOutOfBoundsException") (by decide +kernel)) (hts (.initialized "java/lang/IndexOutOfBoundsException") (by decide +kernel)) (by decide +kernel) hT (fun w h => hts w (by unfold wsX0_depth; exact List.mem_cons_of_mem _ (List.mem_append_left _ (List.mem_append_right _ h)))) (by decide +kernel) (by decide +kernel) (hl.1.trans hml.symm) dX0_depth_12 dX0_depth_15 dX0_depth_16 dX0_depth_18 dX0_depth_21 hout (Nat.le_of_ble_eq_true rfl) (Nat.le_of_ble_eq_true rfl) (Nat.le_of_ble_eq_true rfl) (Nat.le_of_ble_eq_true rfl) hlocks hP hK hD rfl hw

def wX0_sail (post : Int32 → XS → Prop) (thr : Nat → Prop) (u : XS) (v1 : Int64) (v3 : Int64) (v5 : Int64) (v7 : Int32) : Prop := (wX0_isInTable (fun r1 => ((r1 = 0 → (thr 0)) ∧ (¬ r1 = 0 → (wX0_isLevel (fun r3 => ((r3 = 0 → (thr 0)) ∧ (¬ r3 = 0 → (wX0_isWithin (fun r5 => ((r5 = 0 → (thr 0)) ∧ (¬ r5 = 0 → (wX0_isWithin (fun r7 => ((r7 = 0 → (thr 0)) ∧ (¬ r7 = 0 → (((xNP u) = 0 → (thr 1)) ∧ (¬ (xNP u) = 0 → ((v3 = 0 → (thr 2)) ∧ (¬ v3 = 0 → ((0 ≤ v1 → (wX0_squatOf (fun r12 => (wX0_firstSailing (fun r13 => (wX0_lastSecond (fun r14 => ((r13 ≤ r14 → ((v7 = 0 → (post (r13).toInt32 u)) ∧ (¬ v7 = 0 → (wX0_lastSailing (fun r17 => (post (r17).toInt32 u)) u (v1 + r12) v3 r13)))) ∧ (¬ r13 ≤ r14 → (post (-1) u)))) u)) u (v1 + r12) v3 v5)) v3 v1)) ∧ (¬ 0 ≤ v1 → (wX0_firstSailing (fun r18 => (wX0_lastSecond (fun r19 => ((r18 ≤ r19 → ((v7 = 0 → (post (r18).toInt32 u)) ∧ (¬ v7 = 0 → (wX0_lastSailing (fun r22 => (post (r22).toInt32 u)) u v1 v3 r18)))) ∧ (¬ r18 ≤ r19 → (post (-1) u)))) u)) u v1 v3 v5)))))))))) (v7).toInt64 0 1)))) v3 0 10000)))) v1)))) u v5)

set_option maxHeartbeats 4000000 in
set_option maxRecDepth 100000 in
theorem mX0_sail (l : Launch) (hst : l.stackTraces = false) (D : va_G) (cJ : ClassId) (h0 a1 a2 a3 a4 a5 a6 tC tS sz : Nat) (u : XS) (v1 : Int64) (v3 : Int64) (v5 : Int64) (v7 : Int32) (post : Int32 → XS → Prop) (thr : Nat → Prop) : vx_Met l yX0_sail wsX0_sail ({ frames := 6, cells := 1, slots := 6, locals := 181 } : Room) (va_Pc [.ref h0, .long v1, .long v3, .long v5, .int v7] (fun U => XE D cJ h0 a1 a2 a3 a4 a5 a6 tC tS sz u U ∧ wX0_sail post thr u v1 v3 v5 v7)) (va_Qi post (fun u9 t9 => XT D cJ h0 a1 a2 a3 a4 a5 a6 (va_A (x0W cJ h0 a1 a2 a3 a4 a5 a6 u) sz) u9 t9) (va_A (x0W cJ h0 a1 a2 a3 a4 a5 a6 u) sz)) (vx_X thr (fun E9 k9 t9 => E9 = exN k9 ∧ XT D cJ h0 a1 a2 a3 a4 a5 a6 (va_A (x0W cJ h0 a1 a2 a3 a4 a5 a6 u) sz) u t9) (va_A (x0W cJ h0 a1 a2 a3 a4 a5 a6 u) sz)) 1 6 (va_A (x0W cJ h0 a1 a2 a3 a4 a5 a6 u) sz) := by
  refine vx_ofW (cc := cX0_sail) (maxL := 12) (ret := (some .int)) (by decide +kernel) rfl ?_
  intro p e s m args below meth c s₁ B hml hout hv
  obtain ⟨rfl, ⟨hsz, hP, hK, hD0, hZ, hT⟩, hw⟩ := hv
  have hx := B.exec
  have hb := B.bytes
  have hr := B.returns
  have hts := atoms_spec (ws := wsX0_sail) B.pre
  have hown : s.vm.findClass RX0 = some m.cls := findClass_of_methodNamed B.named
  have hlocks := B.notSynchronized
  have hin : ∀ w ∈ u_ws RX0 TX0 9, w ∈ wsX0_sail := by decide +kernel
  subst hsz
  have hD := hD0.self (sz := s.heap.size)
  generalize hAe : va_A (x0W cJ h0 a1 a2 a3 a4 a5 a6 u) s.heap.size = A at hD hZ hT ⊢
  have hS : va_S A s.heap s.heap [] := va_S.rf
  have hW : XW D cJ h0 a1 a2 a3 a4 a5 a6 tC tS u s s.heap := ⟨hP, hK, hZ.narrow (fun _ h => h.elim)⟩
  have hl := lv_entry ([.ref h0, .long v1, .long v3, .long v5, .int v7]) (n := 12) (Nat.le_of_ble_eq_true rfl)
  rw [lg_entry_eq]
  generalize (lg_sl ([.ref h0, .long v1, .long v3, .long v5, .int v7]) ++ List.replicate (12 - (lg_sl ([.ref h0, .long v1, .long v3, .long v5, .int v7])).length) Slot.unset).toArray = ls at hl ⊢
  have hl : lv_has ls 12 [(0, .ref h0), (1, .long v1), (3, .long v3), (5, .long v5), (7, .int v7)] := hl
  unfold wX0_sail at hw
  refine lv_aload_n hx hb dX0_sail_0 rfl (lv_at hl 0 rfl) ?_
  refine lv_lload hx hb dX0_sail_1 (lv_at hl 3 rfl) ?_
  refine pc_Vi (As := [.long v5]) (rest := []) ⟨hx, hb, hml, hown, hts⟩ (mX0_isInTable l D cJ h0 a1 a2 a3 a4 a5 a6 tC tS u v5 _) (cwV 1 hts gX0_sail_X0_isInTable rfl rfl rfl (by decide +kernel) ⟨Nat.le_of_ble_eq_true rfl, Nat.le_of_ble_eq_true rfl⟩) (wX_rc hW) wX_bl (wX_in hW hw) rfl hl.1 rfl (Nat.le_of_ble_eq_true rfl) dX0_sail_3 ⟨Nat.le_of_ble_eq_true rfl, Nat.le_of_ble_eq_true rfl⟩ (fun r1 hw => ?_)
  obtain ⟨z_r1, hw⟩ := hw
  refine lv_if_eq (tgt := 16) hx hb dX0_sail_6 (by decide) (fun c2 => ?_) (fun c2 => ?_)
  · have hw := hw.1 c2
    exact x0_throw (k := 0) (names := ["java/lang/RuntimeException", "java/lang/Exception"]) (text := "outside the table, or no such need") hx hb hst hown (by decide +kernel) (by decide +kernel) (hts (.classLink RX0 48 "java/lang/IllegalArgumentException") (by decide +kernel)) (hts (.initialized "java/lang/IllegalArgumentException") (by decide +kernel)) (by decide +kernel) hT (fun w h => hts w (by unfold wsX0_sail; exact List.mem_cons_of_mem _ (List.mem_append_left _ (List.mem_append_left _ (List.mem_append_right _ h))))) (by decide +kernel) (by decide +kernel) (hl.1.trans hml.symm) dX0_sail_16 dX0_sail_19 dX0_sail_20 dX0_sail_22 dX0_sail_25 hout (Nat.le_of_ble_eq_true rfl) (Nat.le_of_ble_eq_true rfl) (Nat.le_of_ble_eq_true rfl) (Nat.le_of_ble_eq_true rfl) hlocks hP hK hD rfl hw
  · have hw := hw.2 c2
    refine lv_lload_n hx hb dX0_sail_9 rfl (lv_at hl 1 rfl) ?_
    refine pc_Si (As := [.long v1]) (rest := []) ⟨hx, hb, hml, hown, hts⟩ (mX0_isLevel l v1 _) (va_cwS 1 hts gX0_sail_X0_isLevel rfl rfl rfl (by decide +kernel) ⟨Nat.le_of_ble_eq_true rfl, Nat.le_of_ble_eq_true rfl⟩) wK_bl (fun _ _ _ => hw) rfl hl.1 rfl (Nat.le_of_ble_eq_true rfl) dX0_sail_10 ⟨Nat.le_of_ble_eq_true rfl, Nat.le_of_ble_eq_true rfl⟩ (fun r3 hw => ?_)
    obtain ⟨z_r3, hw⟩ := hw
    refine lv_if_ne (tgt := 26) hx hb dX0_sail_13 (by decide) (fun c4 => ?_) (fun c4 => ?_)
    · have hw := hw.2 c4
      refine lv_lload_n hx hb dX0_sail_26 rfl (lv_at hl 2 rfl) ?_
      refine lv_lconst (v := 0) hx hb dX0_sail_27 (by decide) ?_
      refine lv_ldc2 (v := 10000) hx hb hown (hts (.constantLong RX0 99 (10000)) (by decide +kernel)) dX0_sail_28 ?_
      refine pc_Si (As := [.long v3, .long 0, .long 10000]) (rest := []) ⟨hx, hb, hml, hown, hts⟩ (mX0_isWithin l v3 0 10000 _) (va_cwS 3 hts gX0_sail_X0_isWithin rfl rfl rfl (by decide +kernel) ⟨Nat.le_of_ble_eq_true rfl, Nat.le_of_ble_eq_true rfl⟩) wK_bl (fun _ _ _ => hw) rfl hl.1 rfl (Nat.le_of_ble_eq_true rfl) dX0_sail_31 ⟨Nat.le_of_ble_eq_true rfl, Nat.le_of_ble_eq_true rfl⟩ (fun r5 hw => ?_)
      obtain ⟨z_r5, hw⟩ := hw
      refine lv_if_eq (tgt := 48) hx hb dX0_sail_34 (by decide) (fun c6 => ?_) (fun c6 => ?_)
      · have hw := hw.1 c6
        exact x0_throw (k := 0) (names := ["java/lang/RuntimeException", "java/lang/Exception"]) (text := "no such speed or side") hx hb hst hown (by decide +kernel) (by decide +kernel) (hts (.classLink RX0 48 "java/lang/IllegalArgumentException") (by decide +kernel)) (hts (.initialized "java/lang/IllegalArgumentException") (by decide +kernel)) (by decide +kernel) hT (fun w h => hts w (by unfold wsX0_sail; exact List.mem_cons_of_mem _ (List.mem_append_left _ (List.mem_append_left _ (List.mem_append_right _ h))))) (by decide +kernel) (by decide +kernel) (hl.1.trans hml.symm) dX0_sail_48 dX0_sail_51 dX0_sail_52 dX0_sail_54 dX0_sail_57 hout (Nat.le_of_ble_eq_true rfl) (Nat.le_of_ble_eq_true rfl) (Nat.le_of_ble_eq_true rfl) (Nat.le_of_ble_eq_true rfl) hlocks hP hK hD rfl hw
      · have hw := hw.2 c6
        refine lv_iload hx hb dX0_sail_37 (lv_at hl 4 rfl) ?_
        refine lv_i2l (v := (v7).toInt64) hx hb dX0_sail_39 rfl ?_
        refine lv_lconst (v := 0) hx hb dX0_sail_40 (by decide) ?_
        refine lv_lconst (v := 1) hx hb dX0_sail_41 (by decide) ?_
        refine pc_Si (As := [.long (v7).toInt64, .long 0, .long 1]) (rest := []) ⟨hx, hb, hml, hown, hts⟩ (mX0_isWithin l (v7).toInt64 0 1 _) (va_cwS 3 hts gX0_sail_X0_isWithin rfl rfl rfl (by decide +kernel) ⟨Nat.le_of_ble_eq_true rfl, Nat.le_of_ble_eq_true rfl⟩) wK_bl (fun _ _ _ => hw) rfl hl.1 rfl (Nat.le_of_ble_eq_true rfl) dX0_sail_42 ⟨Nat.le_of_ble_eq_true rfl, Nat.le_of_ble_eq_true rfl⟩ (fun r7 hw => ?_)
        obtain ⟨z_r7, hw⟩ := hw
        refine lv_if_ne (tgt := 58) hx hb dX0_sail_45 (by decide) (fun c8 => ?_) (fun c8 => ?_)
        · have hw := hw.2 c8
          refine lv_aload_n hx hb dX0_sail_58 rfl (lv_at hl 0 rfl) ?_
          refine va_get (D := D) (ci := 0) (v := .int (xNP u)) (C := RX0) (T := TX0) (N := 9) hx hb hts hin hown hK hP 0 rfl rfl 8 (by decide) (hts (.fieldLink RX0 35 "TideDepths" "places" "I") (by decide +kernel)) (fun _ h9 => h9) rfl dX0_sail_59 ?_
          refine lv_if_ne (tgt := 75) hx hb dX0_sail_62 (by decide) (fun c9 => ?_) (fun c9 => ?_)
          · have hw := hw.2 c9
            refine lv_lload_n hx hb dX0_sail_75 rfl (lv_at hl 2 rfl) ?_
            refine lv_lconst (v := 0) hx hb dX0_sail_76 (by decide) ?_
            refine bl_ne (tgt := 91) hx hb dX0_sail_77 dX0_sail_78 (by decide) (fun c10 => ?_) (fun c10 => ?_)
            · have hw := hw.2 c10
              refine lv_lload_n hx hb dX0_sail_91 rfl (lv_at hl 1 rfl) ?_
              refine lv_lconst (v := 0) hx hb dX0_sail_92 (by decide) ?_
              refine bl_ge (tgt := 101) hx hb dX0_sail_93 dX0_sail_94 (by decide) (fun c11 => ?_) (fun c11 => ?_)
              · have hw := hw.1 c11
                refine lv_lload_n hx hb dX0_sail_101 rfl (lv_at hl 1 rfl) ?_
                refine lv_lload_n hx hb dX0_sail_102 rfl (lv_at hl 2 rfl) ?_
                refine lv_lload_n hx hb dX0_sail_103 rfl (lv_at hl 1 rfl) ?_
                refine pc_Sl (As := [.long v3, .long v1]) (rest := [.long v1]) ⟨hx, hb, hml, hown, hts⟩ (mX0_squatOf l tC tS v3 v1 _) (va_cwS 2 hts gX0_sail_X0_squatOf rfl rfl rfl (by decide +kernel) ⟨Nat.le_of_ble_eq_true rfl, Nat.le_of_ble_eq_true rfl⟩) wS_bl (wS_in hW.2.2 hw) rfl hl.1 rfl (Nat.le_of_ble_eq_true rfl) dX0_sail_104 ⟨Nat.le_of_ble_eq_true rfl, Nat.le_of_ble_eq_true rfl⟩ (fun r12 hw => ?_)
                refine lv_ladd hx hb dX0_sail_107 ?_
                refine lv_lstore (lv' := [(8, .long (v1 + r12)), (0, .ref h0), (1, .long v1), (3, .long v3), (5, .long v5), (7, .int v7)]) hx hb dX0_sail_108 hl (by decide) rfl (fun ls hl => ?_)
                refine lv_aload_n hx hb dX0_sail_110 rfl (lv_at hl 1 rfl) ?_
                refine lv_lload hx hb dX0_sail_111 (lv_at hl 0 rfl) ?_
                refine lv_lload_n hx hb dX0_sail_113 rfl (lv_at hl 3 rfl) ?_
                refine lv_lload hx hb dX0_sail_114 (lv_at hl 4 rfl) ?_
                refine pc_Vl (As := [.long (v1 + r12), .long v3, .long v5]) (rest := []) ⟨hx, hb, hml, hown, hts⟩ (mX0_firstSailing l D cJ h0 a1 a2 a3 a4 a5 a6 tC tS u (v1 + r12) v3 v5 _) (cwV 3 hts gX0_sail_X0_firstSailing rfl rfl rfl (by decide +kernel) ⟨Nat.le_of_ble_eq_true rfl, Nat.le_of_ble_eq_true rfl⟩) (wX_rc hW) wX_bl (wX_in hW hw) rfl hl.1 rfl (Nat.le_of_ble_eq_true rfl) dX0_sail_116 ⟨Nat.le_of_ble_eq_true rfl, Nat.le_of_ble_eq_true rfl⟩ (fun r13 hw => ?_)
                refine lv_lstore (lv' := [(10, .long r13), (8, .long (v1 + r12)), (0, .ref h0), (1, .long v1), (3, .long v3), (5, .long v5), (7, .int v7)]) hx hb dX0_sail_119 hl (by decide) rfl (fun ls hl => ?_)
                refine lv_lload hx hb dX0_sail_121 (lv_at hl 0 rfl) ?_
                refine lv_aload_n hx hb dX0_sail_123 rfl (lv_at hl 2 rfl) ?_
                refine pc_Vl (As := []) (rest := [.long r13]) ⟨hx, hb, hml, hown, hts⟩ (mX0_lastSecond l D cJ h0 a1 a2 a3 a4 a5 a6 tC tS u _) (cwV 0 hts gX0_sail_X0_lastSecond rfl rfl rfl (by decide +kernel) ⟨Nat.le_of_ble_eq_true rfl, Nat.le_of_ble_eq_true rfl⟩) (wX_rc hW) wX_bl (wX_in hW hw) rfl hl.1 rfl (Nat.le_of_ble_eq_true rfl) dX0_sail_124 ⟨Nat.le_of_ble_eq_true rfl, Nat.le_of_ble_eq_true rfl⟩ (fun r14 hw => ?_)
                refine bl_le (tgt := 133) hx hb dX0_sail_127 dX0_sail_128 (by decide) (fun c15 => ?_) (fun c15 => ?_)
                · have hw := hw.1 c15
                  refine lv_iload hx hb dX0_sail_133 (lv_at hl 6 rfl) ?_
                  refine lv_if_ne (tgt := 143) hx hb dX0_sail_135 (by decide) (fun c16 => ?_) (fun c16 => ?_)
                  · have hw := hw.2 c16
                    refine lv_aload_n hx hb dX0_sail_143 rfl (lv_at hl 2 rfl) ?_
                    refine lv_lload hx hb dX0_sail_144 (lv_at hl 1 rfl) ?_
                    refine lv_lload_n hx hb dX0_sail_146 rfl (lv_at hl 4 rfl) ?_
                    refine lv_lload hx hb dX0_sail_147 (lv_at hl 0 rfl) ?_
                    refine pc_Vl (As := [.long (v1 + r12), .long v3, .long r13]) (rest := []) ⟨hx, hb, hml, hown, hts⟩ (mX0_lastSailing l D cJ h0 a1 a2 a3 a4 a5 a6 tC tS u (v1 + r12) v3 r13 _) (cwV 3 hts gX0_sail_X0_lastSailing rfl rfl rfl (by decide +kernel) ⟨Nat.le_of_ble_eq_true rfl, Nat.le_of_ble_eq_true rfl⟩) (wX_rc hW) wX_bl (wX_in hW hw) rfl hl.1 rfl (Nat.le_of_ble_eq_true rfl) dX0_sail_149 ⟨Nat.le_of_ble_eq_true rfl, Nat.le_of_ble_eq_true rfl⟩ (fun r17 hw => ?_)
                    refine lv_l2i (v := (r17).toInt32) hx hb dX0_sail_152 rfl ?_
                    refine W.widen (k := 1) (n := 6) (Nat.le_of_ble_eq_true rfl) (Nat.le_of_ble_eq_true rfl) ?_
                    exact vx_ret (W.iret (v := (r17).toInt32) hx hb hr (fun t ht hWm => ⟨⟨(r17).toInt32, u, rfl, hw, by rw [ht]; exact hP, va_K.moved hWm.alike hK, hD⟩, hS.F ht⟩) hS.2.2 dX0_sail_153)
                  · have hw := hw.1 c16
                    refine lv_lload hx hb dX0_sail_138 (lv_at hl 0 rfl) ?_
                    refine lv_goto (tgt := 152) hx hb dX0_sail_140 (by decide) ?_
                    refine lv_l2i (v := (r13).toInt32) hx hb dX0_sail_152 rfl ?_
                    refine W.widen (k := 1) (n := 6) (Nat.le_of_ble_eq_true rfl) (Nat.le_of_ble_eq_true rfl) ?_
                    exact vx_ret (W.iret (v := (r13).toInt32) hx hb hr (fun t ht hWm => ⟨⟨(r13).toInt32, u, rfl, hw, by rw [ht]; exact hP, va_K.moved hWm.alike hK, hD⟩, hS.F ht⟩) hS.2.2 dX0_sail_153)
                · have hw := hw.2 c15
                  refine lv_iconst (v := (-1)) hx hb dX0_sail_131 (by decide) ?_
                  refine W.widen (k := 1) (n := 6) (Nat.le_of_ble_eq_true rfl) (Nat.le_of_ble_eq_true rfl) ?_
                  exact vx_ret (W.iret (v := (-1)) hx hb hr (fun t ht hWm => ⟨⟨(-1), u, rfl, hw, by rw [ht]; exact hP, va_K.moved hWm.alike hK, hD⟩, hS.F ht⟩) hS.2.2 dX0_sail_132)
              · have hw := hw.2 c11
                refine lv_lload_n hx hb dX0_sail_97 rfl (lv_at hl 1 rfl) ?_
                refine lv_goto (tgt := 108) hx hb dX0_sail_98 (by decide) ?_
                refine lv_lstore (lv' := [(8, .long v1), (0, .ref h0), (1, .long v1), (3, .long v3), (5, .long v5), (7, .int v7)]) hx hb dX0_sail_108 hl (by decide) rfl (fun ls hl => ?_)
                refine lv_aload_n hx hb dX0_sail_110 rfl (lv_at hl 1 rfl) ?_
                refine lv_lload hx hb dX0_sail_111 (lv_at hl 0 rfl) ?_
                refine lv_lload_n hx hb dX0_sail_113 rfl (lv_at hl 3 rfl) ?_
                refine lv_lload hx hb dX0_sail_114 (lv_at hl 4 rfl) ?_
                refine pc_Vl (As := [.long v1, .long v3, .long v5]) (rest := []) ⟨hx, hb, hml, hown, hts⟩ (mX0_firstSailing l D cJ h0 a1 a2 a3 a4 a5 a6 tC tS u v1 v3 v5 _) (cwV 3 hts gX0_sail_X0_firstSailing rfl rfl rfl (by decide +kernel) ⟨Nat.le_of_ble_eq_true rfl, Nat.le_of_ble_eq_true rfl⟩) (wX_rc hW) wX_bl (wX_in hW hw) rfl hl.1 rfl (Nat.le_of_ble_eq_true rfl) dX0_sail_116 ⟨Nat.le_of_ble_eq_true rfl, Nat.le_of_ble_eq_true rfl⟩ (fun r18 hw => ?_)
                refine lv_lstore (lv' := [(10, .long r18), (8, .long v1), (0, .ref h0), (1, .long v1), (3, .long v3), (5, .long v5), (7, .int v7)]) hx hb dX0_sail_119 hl (by decide) rfl (fun ls hl => ?_)
                refine lv_lload hx hb dX0_sail_121 (lv_at hl 0 rfl) ?_
                refine lv_aload_n hx hb dX0_sail_123 rfl (lv_at hl 2 rfl) ?_
                refine pc_Vl (As := []) (rest := [.long r18]) ⟨hx, hb, hml, hown, hts⟩ (mX0_lastSecond l D cJ h0 a1 a2 a3 a4 a5 a6 tC tS u _) (cwV 0 hts gX0_sail_X0_lastSecond rfl rfl rfl (by decide +kernel) ⟨Nat.le_of_ble_eq_true rfl, Nat.le_of_ble_eq_true rfl⟩) (wX_rc hW) wX_bl (wX_in hW hw) rfl hl.1 rfl (Nat.le_of_ble_eq_true rfl) dX0_sail_124 ⟨Nat.le_of_ble_eq_true rfl, Nat.le_of_ble_eq_true rfl⟩ (fun r19 hw => ?_)
                refine bl_le (tgt := 133) hx hb dX0_sail_127 dX0_sail_128 (by decide) (fun c20 => ?_) (fun c20 => ?_)
                · have hw := hw.1 c20
                  refine lv_iload hx hb dX0_sail_133 (lv_at hl 6 rfl) ?_
                  refine lv_if_ne (tgt := 143) hx hb dX0_sail_135 (by decide) (fun c21 => ?_) (fun c21 => ?_)
                  · have hw := hw.2 c21
                    refine lv_aload_n hx hb dX0_sail_143 rfl (lv_at hl 2 rfl) ?_
                    refine lv_lload hx hb dX0_sail_144 (lv_at hl 1 rfl) ?_
                    refine lv_lload_n hx hb dX0_sail_146 rfl (lv_at hl 4 rfl) ?_
                    refine lv_lload hx hb dX0_sail_147 (lv_at hl 0 rfl) ?_
                    refine pc_Vl (As := [.long v1, .long v3, .long r18]) (rest := []) ⟨hx, hb, hml, hown, hts⟩ (mX0_lastSailing l D cJ h0 a1 a2 a3 a4 a5 a6 tC tS u v1 v3 r18 _) (cwV 3 hts gX0_sail_X0_lastSailing rfl rfl rfl (by decide +kernel) ⟨Nat.le_of_ble_eq_true rfl, Nat.le_of_ble_eq_true rfl⟩) (wX_rc hW) wX_bl (wX_in hW hw) rfl hl.1 rfl (Nat.le_of_ble_eq_true rfl) dX0_sail_149 ⟨Nat.le_of_ble_eq_true rfl, Nat.le_of_ble_eq_true rfl⟩ (fun r22 hw => ?_)
                    refine lv_l2i (v := (r22).toInt32) hx hb dX0_sail_152 rfl ?_
                    refine W.widen (k := 1) (n := 6) (Nat.le_of_ble_eq_true rfl) (Nat.le_of_ble_eq_true rfl) ?_
                    exact vx_ret (W.iret (v := (r22).toInt32) hx hb hr (fun t ht hWm => ⟨⟨(r22).toInt32, u, rfl, hw, by rw [ht]; exact hP, va_K.moved hWm.alike hK, hD⟩, hS.F ht⟩) hS.2.2 dX0_sail_153)
                  · have hw := hw.1 c21
                    refine lv_lload hx hb dX0_sail_138 (lv_at hl 0 rfl) ?_
                    refine lv_goto (tgt := 152) hx hb dX0_sail_140 (by decide) ?_
                    refine lv_l2i (v := (r18).toInt32) hx hb dX0_sail_152 rfl ?_
                    refine W.widen (k := 1) (n := 6) (Nat.le_of_ble_eq_true rfl) (Nat.le_of_ble_eq_true rfl) ?_
                    exact vx_ret (W.iret (v := (r18).toInt32) hx hb hr (fun t ht hWm => ⟨⟨(r18).toInt32, u, rfl, hw, by rw [ht]; exact hP, va_K.moved hWm.alike hK, hD⟩, hS.F ht⟩) hS.2.2 dX0_sail_153)
                · have hw := hw.2 c20
                  refine lv_iconst (v := (-1)) hx hb dX0_sail_131 (by decide) ?_
                  refine W.widen (k := 1) (n := 6) (Nat.le_of_ble_eq_true rfl) (Nat.le_of_ble_eq_true rfl) ?_
                  exact vx_ret (W.iret (v := (-1)) hx hb hr (fun t ht hWm => ⟨⟨(-1), u, rfl, hw, by rw [ht]; exact hP, va_K.moved hWm.alike hK, hD⟩, hS.F ht⟩) hS.2.2 dX0_sail_132)
            · have hw := hw.1 c10
              exact x0_throw (k := 2) (names := ["java/lang/RuntimeException", "java/lang/Exception"]) (text := "speed 0") hx hb hst hown (by decide +kernel) (by decide +kernel) (hts (.classLink RX0 112 "java/lang/ArithmeticException") (by decide +kernel)) (hts (.initialized "java/lang/ArithmeticException") (by decide +kernel)) (by decide +kernel) hT (fun w h => hts w (by unfold wsX0_sail; exact List.mem_cons_of_mem _ (List.mem_append_right _ h))) (by decide +kernel) (by decide +kernel) (hl.1.trans hml.symm) dX0_sail_81 dX0_sail_84 dX0_sail_85 dX0_sail_87 dX0_sail_90 hout (Nat.le_of_ble_eq_true rfl) (Nat.le_of_ble_eq_true rfl) (Nat.le_of_ble_eq_true rfl) (Nat.le_of_ble_eq_true rfl) hlocks hP hK hD rfl hw
          · have hw := hw.1 c9
            exact x0_throw (k := 1) (names := ["java/lang/RuntimeException", "java/lang/Exception"]) (text := "no places") hx hb hst hown (by decide +kernel) (by decide +kernel) (hts (.classLink RX0 57 "java/lang/IllegalStateException") (by decide +kernel)) (hts (.initialized "java/lang/IllegalStateException") (by decide +kernel)) (by decide +kernel) hT (fun w h => hts w (by unfold wsX0_sail; exact List.mem_cons_of_mem _ (List.mem_append_left _ (List.mem_append_right _ h)))) (by decide +kernel) (by decide +kernel) (hl.1.trans hml.symm) dX0_sail_65 dX0_sail_68 dX0_sail_69 dX0_sail_71 dX0_sail_74 hout (Nat.le_of_ble_eq_true rfl) (Nat.le_of_ble_eq_true rfl) (Nat.le_of_ble_eq_true rfl) (Nat.le_of_ble_eq_true rfl) hlocks hP hK hD rfl hw
        · have hw := hw.1 c8
          exact x0_throw (k := 0) (names := ["java/lang/RuntimeException", "java/lang/Exception"]) (text := "no such speed or side") hx hb hst hown (by decide +kernel) (by decide +kernel) (hts (.classLink RX0 48 "java/lang/IllegalArgumentException") (by decide +kernel)) (hts (.initialized "java/lang/IllegalArgumentException") (by decide +kernel)) (by decide +kernel) hT (fun w h => hts w (by unfold wsX0_sail; exact List.mem_cons_of_mem _ (List.mem_append_left _ (List.mem_append_left _ (List.mem_append_right _ h))))) (by decide +kernel) (by decide +kernel) (hl.1.trans hml.symm) dX0_sail_48 dX0_sail_51 dX0_sail_52 dX0_sail_54 dX0_sail_57 hout (Nat.le_of_ble_eq_true rfl) (Nat.le_of_ble_eq_true rfl) (Nat.le_of_ble_eq_true rfl) (Nat.le_of_ble_eq_true rfl) hlocks hP hK hD rfl hw
    · have hw := hw.1 c4
      exact x0_throw (k := 0) (names := ["java/lang/RuntimeException", "java/lang/Exception"]) (text := "outside the table, or no such need") hx hb hst hown (by decide +kernel) (by decide +kernel) (hts (.classLink RX0 48 "java/lang/IllegalArgumentException") (by decide +kernel)) (hts (.initialized "java/lang/IllegalArgumentException") (by decide +kernel)) (by decide +kernel) hT (fun w h => hts w (by unfold wsX0_sail; exact List.mem_cons_of_mem _ (List.mem_append_left _ (List.mem_append_left _ (List.mem_append_right _ h))))) (by decide +kernel) (by decide +kernel) (hl.1.trans hml.symm) dX0_sail_16 dX0_sail_19 dX0_sail_20 dX0_sail_22 dX0_sail_25 hout (Nat.le_of_ble_eq_true rfl) (Nat.le_of_ble_eq_true rfl) (Nat.le_of_ble_eq_true rfl) (Nat.le_of_ble_eq_true rfl) hlocks hP hK hD rfl hw

def wX0_read (post : Int64 → XS → Prop) (thr : Nat → Prop) (u : XS) (v1 : Int32) (v2 : Int32) : Prop := ((v2 = 0 → ((v1 < 0 → ((v2 = 2 → ((v1 < 100 → (thr 3)) ∧ (¬ v1 < 100 → (((xNO u) ≤ (v1 - 100) → (thr 3)) ∧ (¬ (xNO u) ≤ (v1 - 100) → (vp_in (v1 - 100) 16 ∧ (post ((xOT u) ((v1 - 100)).toNatClampNeg) u))))))) ∧ (¬ v2 = 2 → ((v2 = 3 → ((v1 < 100 → (thr 3)) ∧ (¬ v1 < 100 → (((xNO u) ≤ (v1 - 100) → (thr 3)) ∧ (¬ (xNO u) ≤ (v1 - 100) → (vp_in (v1 - 100) 16 ∧ (post ((xOD u) ((v1 - 100)).toNatClampNeg) u))))))) ∧ (¬ v2 = 3 → (thr 3)))))) ∧ (¬ v1 < 0 → (((xNT u) ≤ v1 → ((v2 = 2 → ((v1 < 100 → (thr 3)) ∧ (¬ v1 < 100 → (((xNO u) ≤ (v1 - 100) → (thr 3)) ∧ (¬ (xNO u) ≤ (v1 - 100) → (vp_in (v1 - 100) 16 ∧ (post ((xOT u) ((v1 - 100)).toNatClampNeg) u))))))) ∧ (¬ v2 = 2 → ((v2 = 3 → ((v1 < 100 → (thr 3)) ∧ (¬ v1 < 100 → (((xNO u) ≤ (v1 - 100) → (thr 3)) ∧ (¬ (xNO u) ≤ (v1 - 100) → (vp_in (v1 - 100) 16 ∧ (post ((xOD u) ((v1 - 100)).toNatClampNeg) u))))))) ∧ (¬ v2 = 3 → (thr 3)))))) ∧ (¬ (xNT u) ≤ v1 → (vp_in v1 40 ∧ (post ((xTT u) (v1).toNatClampNeg) u))))))) ∧ (¬ v2 = 0 → ((v2 = 1 → ((v1 < 0 → ((v2 = 2 → ((v1 < 100 → (thr 3)) ∧ (¬ v1 < 100 → (((xNO u) ≤ (v1 - 100) → (thr 3)) ∧ (¬ (xNO u) ≤ (v1 - 100) → (vp_in (v1 - 100) 16 ∧ (post ((xOT u) ((v1 - 100)).toNatClampNeg) u))))))) ∧ (¬ v2 = 2 → ((v2 = 3 → ((v1 < 100 → (thr 3)) ∧ (¬ v1 < 100 → (((xNO u) ≤ (v1 - 100) → (thr 3)) ∧ (¬ (xNO u) ≤ (v1 - 100) → (vp_in (v1 - 100) 16 ∧ (post ((xOD u) ((v1 - 100)).toNatClampNeg) u))))))) ∧ (¬ v2 = 3 → (thr 3)))))) ∧ (¬ v1 < 0 → (((xNT u) ≤ v1 → ((v2 = 2 → ((v1 < 100 → (thr 3)) ∧ (¬ v1 < 100 → (((xNO u) ≤ (v1 - 100) → (thr 3)) ∧ (¬ (xNO u) ≤ (v1 - 100) → (vp_in (v1 - 100) 16 ∧ (post ((xOT u) ((v1 - 100)).toNatClampNeg) u))))))) ∧ (¬ v2 = 2 → ((v2 = 3 → ((v1 < 100 → (thr 3)) ∧ (¬ v1 < 100 → (((xNO u) ≤ (v1 - 100) → (thr 3)) ∧ (¬ (xNO u) ≤ (v1 - 100) → (vp_in (v1 - 100) 16 ∧ (post ((xOD u) ((v1 - 100)).toNatClampNeg) u))))))) ∧ (¬ v2 = 3 → (thr 3)))))) ∧ (¬ (xNT u) ≤ v1 → (vp_in v1 40 ∧ (post ((xTH u) (v1).toNatClampNeg) u))))))) ∧ (¬ v2 = 1 → ((v2 = 2 → ((v1 < 100 → (thr 3)) ∧ (¬ v1 < 100 → (((xNO u) ≤ (v1 - 100) → (thr 3)) ∧ (¬ (xNO u) ≤ (v1 - 100) → (vp_in (v1 - 100) 16 ∧ (post ((xOT u) ((v1 - 100)).toNatClampNeg) u))))))) ∧ (¬ v2 = 2 → ((v2 = 3 → ((v1 < 100 → (thr 3)) ∧ (¬ v1 < 100 → (((xNO u) ≤ (v1 - 100) → (thr 3)) ∧ (¬ (xNO u) ≤ (v1 - 100) → (vp_in (v1 - 100) 16 ∧ (post ((xOD u) ((v1 - 100)).toNatClampNeg) u))))))) ∧ (¬ v2 = 3 → (thr 3)))))))))

set_option maxHeartbeats 4000000 in
set_option maxRecDepth 100000 in
theorem mX0_read (l : Launch) (hst : l.stackTraces = false) (D : va_G) (cJ : ClassId) (h0 a1 a2 a3 a4 a5 a6 tC tS sz : Nat) (u : XS) (v1 : Int32) (v2 : Int32) (post : Int64 → XS → Prop) (thr : Nat → Prop) : vx_Met l yX0_read wsX0_read ({ frames := 6, cells := 1, slots := 6, locals := 90 } : Room) (va_Pc [.ref h0, .int v1, .int v2] (fun U => XE D cJ h0 a1 a2 a3 a4 a5 a6 tC tS sz u U ∧ wX0_read post thr u v1 v2)) (va_Ql post (fun u9 t9 => XT D cJ h0 a1 a2 a3 a4 a5 a6 (va_A (x0W cJ h0 a1 a2 a3 a4 a5 a6 u) sz) u9 t9) (va_A (x0W cJ h0 a1 a2 a3 a4 a5 a6 u) sz)) (vx_X thr (fun E9 k9 t9 => E9 = exN k9 ∧ XT D cJ h0 a1 a2 a3 a4 a5 a6 (va_A (x0W cJ h0 a1 a2 a3 a4 a5 a6 u) sz) u t9) (va_A (x0W cJ h0 a1 a2 a3 a4 a5 a6 u) sz)) 1 6 (va_A (x0W cJ h0 a1 a2 a3 a4 a5 a6 u) sz) := by
  refine vx_ofW (cc := cX0_read) (maxL := 6) (ret := (some .long)) (by decide +kernel) rfl ?_
  intro p e s m args below meth c s₁ B hml hout hv
  obtain ⟨rfl, ⟨hsz, hP, hK, hD0, hZ, hT⟩, hw⟩ := hv
  have hx := B.exec
  have hb := B.bytes
  have hr := B.returns
  have hts := atoms_spec (ws := wsX0_read) B.pre
  have hown : s.vm.findClass RX0 = some m.cls := findClass_of_methodNamed B.named
  have hlocks := B.notSynchronized
  have hin : ∀ w ∈ u_ws RX0 TX0 9, w ∈ wsX0_read := by decide +kernel
  subst hsz
  have hD := hD0.self (sz := s.heap.size)
  generalize hAe : va_A (x0W cJ h0 a1 a2 a3 a4 a5 a6 u) s.heap.size = A at hD hZ hT ⊢
  have hS : va_S A s.heap s.heap [] := va_S.rf
  have hW : XW D cJ h0 a1 a2 a3 a4 a5 a6 tC tS u s s.heap := ⟨hP, hK, hZ.narrow (fun _ h => h.elim)⟩
  have hl := lv_entry ([.ref h0, .int v1, .int v2]) (n := 6) (Nat.le_of_ble_eq_true rfl)
  rw [lg_entry_eq]
  generalize (lg_sl ([.ref h0, .int v1, .int v2]) ++ List.replicate (6 - (lg_sl ([.ref h0, .int v1, .int v2])).length) Slot.unset).toArray = ls at hl ⊢
  have hl : lv_has ls 6 [(0, .ref h0), (1, .int v1), (2, .int v2)] := hl
  unfold wX0_read at hw
  refine lv_iload_n hx hb dX0_read_0 rfl (lv_at hl 2 rfl) ?_
  refine lv_if_eq (tgt := 9) hx hb dX0_read_1 (by decide) (fun c1 => ?_) (fun c1 => ?_)
  · have hw := hw.1 c1
    refine lv_iconst (v := 1) hx hb dX0_read_9 (by decide) ?_
    refine lv_goto (tgt := 14) hx hb dX0_read_10 (by decide) ?_
    refine lv_istore_n (lv' := [(3, .int 1), (0, .ref h0), (1, .int v1), (2, .int v2)]) hx hb dX0_read_14 rfl hl (by decide) rfl (fun ls hl => ?_)
    refine lv_iload_n hx hb dX0_read_15 rfl (lv_at hl 0 rfl) ?_
    refine lv_if_eq (tgt := 51) hx hb dX0_read_16 (by decide) (fun c2 => ?_) (fun c2 => ?_)
    · exact absurd c2 (by decide)
    ·
      refine lv_iload_n hx hb dX0_read_19 rfl (lv_at hl 2 rfl) ?_
      refine lv_if_lt (tgt := 51) hx hb dX0_read_20 (by decide) (fun c3 => ?_) (fun c3 => ?_)
      · have hw := hw.1 c3
        refine lv_iload_n hx hb dX0_read_51 rfl (lv_at hl 3 rfl) ?_
        refine lv_iconst (v := 2) hx hb dX0_read_52 (by decide) ?_
        refine lv_icmp_eq (tgt := 61) hx hb dX0_read_53 (by decide) (fun c4 => ?_) (fun c4 => ?_)
        · have hw := hw.1 c4
          refine lv_iconst (v := 1) hx hb dX0_read_61 (by decide) ?_
          refine lv_goto (tgt := 66) hx hb dX0_read_62 (by decide) ?_
          refine lv_istore (lv' := [(4, .int 1), (3, .int 1), (0, .ref h0), (1, .int v1), (2, .int v2)]) hx hb dX0_read_66 hl (by decide) rfl (fun ls hl => ?_)
          refine lv_iload hx hb dX0_read_68 (lv_at hl 0 rfl) ?_
          refine lv_if_eq (tgt := 119) hx hb dX0_read_70 (by decide) (fun c5 => ?_) (fun c5 => ?_)
          · exact absurd c5 (by decide)
          ·
            refine lv_iload_n hx hb dX0_read_73 rfl (lv_at hl 3 rfl) ?_
            refine lv_bipush (v := 100) hx hb dX0_read_74 (by decide) ?_
            refine lv_icmp_lt (tgt := 119) hx hb dX0_read_76 (by decide) (fun c6 => ?_) (fun c6 => ?_)
            · have hw := hw.1 c6
              exact x0_throw (k := 3) (names := ["java/lang/RuntimeException", "java/lang/Exception"]) (text := "nothing such to read") hx hb hst hown (by decide +kernel) (by decide +kernel) (hts (.classLink RX0 143 "java/lang/IndexOutOfBoundsException") (by decide +kernel)) (hts (.initialized "java/lang/IndexOutOfBoundsException") (by decide +kernel)) (by decide +kernel) hT (fun w h => hts w (by unfold wsX0_read; exact List.mem_cons_of_mem _ (List.mem_append_right _ h))) (by decide +kernel) (by decide +kernel) (hl.1.trans hml.symm) dX0_read_119 dX0_read_122 dX0_read_123 dX0_read_125 dX0_read_128 hout (Nat.le_of_ble_eq_true rfl) (Nat.le_of_ble_eq_true rfl) (Nat.le_of_ble_eq_true rfl) (Nat.le_of_ble_eq_true rfl) hlocks hP hK hD rfl hw
            · have hw := hw.2 c6
              refine lv_iload_n hx hb dX0_read_79 rfl (lv_at hl 3 rfl) ?_
              refine lv_bipush (v := 100) hx hb dX0_read_80 (by decide) ?_
              refine lv_isub hx hb dX0_read_82 ?_
              refine lv_aload_n hx hb dX0_read_83 rfl (lv_at hl 2 rfl) ?_
              refine va_get (D := D) (ci := 0) (v := .int (xNO u)) (C := RX0) (T := TX0) (N := 9) hx hb hts hin hown hK hP 0 rfl rfl 5 (by decide) (hts (.fieldLink RX0 26 "TideDepths" "observations" "I") (by decide +kernel)) (fun _ h9 => h9) rfl dX0_read_84 ?_
              refine lv_icmp_ge (tgt := 119) hx hb dX0_read_87 (by decide) (fun c7 => ?_) (fun c7 => ?_)
              · have hw := hw.1 c7
                exact x0_throw (k := 3) (names := ["java/lang/RuntimeException", "java/lang/Exception"]) (text := "nothing such to read") hx hb hst hown (by decide +kernel) (by decide +kernel) (hts (.classLink RX0 143 "java/lang/IndexOutOfBoundsException") (by decide +kernel)) (hts (.initialized "java/lang/IndexOutOfBoundsException") (by decide +kernel)) (by decide +kernel) hT (fun w h => hts w (by unfold wsX0_read; exact List.mem_cons_of_mem _ (List.mem_append_right _ h))) (by decide +kernel) (by decide +kernel) (hl.1.trans hml.symm) dX0_read_119 dX0_read_122 dX0_read_123 dX0_read_125 dX0_read_128 hout (Nat.le_of_ble_eq_true rfl) (Nat.le_of_ble_eq_true rfl) (Nat.le_of_ble_eq_true rfl) (Nat.le_of_ble_eq_true rfl) hlocks hP hK hD rfl hw
              · have hw := hw.2 c7
                refine lv_iload_n hx hb dX0_read_90 rfl (lv_at hl 3 rfl) ?_
                refine lv_bipush (v := 100) hx hb dX0_read_91 (by decide) ?_
                refine lv_isub hx hb dX0_read_93 ?_
                refine lv_istore (lv' := [(5, .int (v1 - 100)), (4, .int 1), (3, .int 1), (0, .ref h0), (1, .int v1), (2, .int v2)]) hx hb dX0_read_94 hl (by decide) rfl (fun ls hl => ?_)
                refine lv_iload_n hx hb dX0_read_96 rfl (lv_at hl 5 rfl) ?_
                refine lv_iconst (v := 2) hx hb dX0_read_97 (by decide) ?_
                refine lv_icmp_ne (tgt := 111) hx hb dX0_read_98 (by decide) (fun c8 => ?_) (fun c8 => ?_)
                · exact absurd c4 c8
                ·
                  refine lv_aload_n hx hb dX0_read_101 rfl (lv_at hl 3 rfl) ?_
                  refine va_get (D := D) (ci := 0) (v := .ref a3) (C := RX0) (T := TX0) (N := 9) hx hb hts hin hown hK hP 0 rfl rfl 3 (by decide) (hts (.fieldLink RX0 20 "TideDepths" "observedTimes" "[J") (by decide +kernel)) (fun _ h9 => h9) rfl dX0_read_102 ?_
                  refine lv_iload hx hb dX0_read_105 (lv_at hl 0 rfl) ?_
                  obtain ⟨h9, hw⟩ := hw
                  refine va_lald hx hb hK hP 3 0 rfl rfl h9 dX0_read_107 ?_
                  refine lv_goto (tgt := 118) hx hb dX0_read_108 (by decide) ?_
                  refine W.widen (k := 1) (n := 6) (Nat.le_of_ble_eq_true rfl) (Nat.le_of_ble_eq_true rfl) ?_
                  exact vx_ret (W.lret (v := ((xOT u) ((v1 - 100)).toNatClampNeg)) hx hb hr (fun t ht hWm => ⟨⟨((xOT u) ((v1 - 100)).toNatClampNeg), u, rfl, hw, by rw [ht]; exact hP, va_K.moved hWm.alike hK, hD⟩, hS.F ht⟩) hS.2.2 dX0_read_118)
        · have hw := hw.2 c4
          refine lv_iload_n hx hb dX0_read_56 rfl (lv_at hl 3 rfl) ?_
          refine lv_iconst (v := 3) hx hb dX0_read_57 (by decide) ?_
          refine lv_icmp_ne (tgt := 65) hx hb dX0_read_58 (by decide) (fun c10 => ?_) (fun c10 => ?_)
          · have hw := hw.2 c10
            refine lv_iconst (v := 0) hx hb dX0_read_65 (by decide) ?_
            refine lv_istore (lv' := [(4, .int 0), (3, .int 1), (0, .ref h0), (1, .int v1), (2, .int v2)]) hx hb dX0_read_66 hl (by decide) rfl (fun ls hl => ?_)
            refine lv_iload hx hb dX0_read_68 (lv_at hl 0 rfl) ?_
            refine lv_if_eq (tgt := 119) hx hb dX0_read_70 (by decide) (fun c11 => ?_) (fun c11 => ?_)
            ·
              exact x0_throw (k := 3) (names := ["java/lang/RuntimeException", "java/lang/Exception"]) (text := "nothing such to read") hx hb hst hown (by decide +kernel) (by decide +kernel) (hts (.classLink RX0 143 "java/lang/IndexOutOfBoundsException") (by decide +kernel)) (hts (.initialized "java/lang/IndexOutOfBoundsException") (by decide +kernel)) (by decide +kernel) hT (fun w h => hts w (by unfold wsX0_read; exact List.mem_cons_of_mem _ (List.mem_append_right _ h))) (by decide +kernel) (by decide +kernel) (hl.1.trans hml.symm) dX0_read_119 dX0_read_122 dX0_read_123 dX0_read_125 dX0_read_128 hout (Nat.le_of_ble_eq_true rfl) (Nat.le_of_ble_eq_true rfl) (Nat.le_of_ble_eq_true rfl) (Nat.le_of_ble_eq_true rfl) hlocks hP hK hD rfl hw
            · exact absurd (by decide) c11
          · have hw := hw.1 c10
            refine lv_iconst (v := 1) hx hb dX0_read_61 (by decide) ?_
            refine lv_goto (tgt := 66) hx hb dX0_read_62 (by decide) ?_
            refine lv_istore (lv' := [(4, .int 1), (3, .int 1), (0, .ref h0), (1, .int v1), (2, .int v2)]) hx hb dX0_read_66 hl (by decide) rfl (fun ls hl => ?_)
            refine lv_iload hx hb dX0_read_68 (lv_at hl 0 rfl) ?_
            refine lv_if_eq (tgt := 119) hx hb dX0_read_70 (by decide) (fun c12 => ?_) (fun c12 => ?_)
            · exact absurd c12 (by decide)
            ·
              refine lv_iload_n hx hb dX0_read_73 rfl (lv_at hl 3 rfl) ?_
              refine lv_bipush (v := 100) hx hb dX0_read_74 (by decide) ?_
              refine lv_icmp_lt (tgt := 119) hx hb dX0_read_76 (by decide) (fun c13 => ?_) (fun c13 => ?_)
              · have hw := hw.1 c13
                exact x0_throw (k := 3) (names := ["java/lang/RuntimeException", "java/lang/Exception"]) (text := "nothing such to read") hx hb hst hown (by decide +kernel) (by decide +kernel) (hts (.classLink RX0 143 "java/lang/IndexOutOfBoundsException") (by decide +kernel)) (hts (.initialized "java/lang/IndexOutOfBoundsException") (by decide +kernel)) (by decide +kernel) hT (fun w h => hts w (by unfold wsX0_read; exact List.mem_cons_of_mem _ (List.mem_append_right _ h))) (by decide +kernel) (by decide +kernel) (hl.1.trans hml.symm) dX0_read_119 dX0_read_122 dX0_read_123 dX0_read_125 dX0_read_128 hout (Nat.le_of_ble_eq_true rfl) (Nat.le_of_ble_eq_true rfl) (Nat.le_of_ble_eq_true rfl) (Nat.le_of_ble_eq_true rfl) hlocks hP hK hD rfl hw
              · have hw := hw.2 c13
                refine lv_iload_n hx hb dX0_read_79 rfl (lv_at hl 3 rfl) ?_
                refine lv_bipush (v := 100) hx hb dX0_read_80 (by decide) ?_
                refine lv_isub hx hb dX0_read_82 ?_
                refine lv_aload_n hx hb dX0_read_83 rfl (lv_at hl 2 rfl) ?_
                refine va_get (D := D) (ci := 0) (v := .int (xNO u)) (C := RX0) (T := TX0) (N := 9) hx hb hts hin hown hK hP 0 rfl rfl 5 (by decide) (hts (.fieldLink RX0 26 "TideDepths" "observations" "I") (by decide +kernel)) (fun _ h9 => h9) rfl dX0_read_84 ?_
                refine lv_icmp_ge (tgt := 119) hx hb dX0_read_87 (by decide) (fun c14 => ?_) (fun c14 => ?_)
                · have hw := hw.1 c14
                  exact x0_throw (k := 3) (names := ["java/lang/RuntimeException", "java/lang/Exception"]) (text := "nothing such to read") hx hb hst hown (by decide +kernel) (by decide +kernel) (hts (.classLink RX0 143 "java/lang/IndexOutOfBoundsException") (by decide +kernel)) (hts (.initialized "java/lang/IndexOutOfBoundsException") (by decide +kernel)) (by decide +kernel) hT (fun w h => hts w (by unfold wsX0_read; exact List.mem_cons_of_mem _ (List.mem_append_right _ h))) (by decide +kernel) (by decide +kernel) (hl.1.trans hml.symm) dX0_read_119 dX0_read_122 dX0_read_123 dX0_read_125 dX0_read_128 hout (Nat.le_of_ble_eq_true rfl) (Nat.le_of_ble_eq_true rfl) (Nat.le_of_ble_eq_true rfl) (Nat.le_of_ble_eq_true rfl) hlocks hP hK hD rfl hw
                · have hw := hw.2 c14
                  refine lv_iload_n hx hb dX0_read_90 rfl (lv_at hl 3 rfl) ?_
                  refine lv_bipush (v := 100) hx hb dX0_read_91 (by decide) ?_
                  refine lv_isub hx hb dX0_read_93 ?_
                  refine lv_istore (lv' := [(5, .int (v1 - 100)), (4, .int 1), (3, .int 1), (0, .ref h0), (1, .int v1), (2, .int v2)]) hx hb dX0_read_94 hl (by decide) rfl (fun ls hl => ?_)
                  refine lv_iload_n hx hb dX0_read_96 rfl (lv_at hl 5 rfl) ?_
                  refine lv_iconst (v := 2) hx hb dX0_read_97 (by decide) ?_
                  refine lv_icmp_ne (tgt := 111) hx hb dX0_read_98 (by decide) (fun c15 => ?_) (fun c15 => ?_)
                  ·
                    refine lv_aload_n hx hb dX0_read_111 rfl (lv_at hl 3 rfl) ?_
                    refine va_get (D := D) (ci := 0) (v := .ref a4) (C := RX0) (T := TX0) (N := 9) hx hb hts hin hown hK hP 0 rfl rfl 4 (by decide) (hts (.fieldLink RX0 23 "TideDepths" "differences" "[J") (by decide +kernel)) (fun _ h9 => h9) rfl dX0_read_112 ?_
                    refine lv_iload hx hb dX0_read_115 (lv_at hl 0 rfl) ?_
                    obtain ⟨h16, hw⟩ := hw
                    refine va_lald hx hb hK hP 4 0 rfl rfl h16 dX0_read_117 ?_
                    refine W.widen (k := 1) (n := 6) (Nat.le_of_ble_eq_true rfl) (Nat.le_of_ble_eq_true rfl) ?_
                    exact vx_ret (W.lret (v := ((xOD u) ((v1 - 100)).toNatClampNeg)) hx hb hr (fun t ht hWm => ⟨⟨((xOD u) ((v1 - 100)).toNatClampNeg), u, rfl, hw, by rw [ht]; exact hP, va_K.moved hWm.alike hK, hD⟩, hS.F ht⟩) hS.2.2 dX0_read_118)
                  · exact absurd c15 c4
      · have hw := hw.2 c3
        refine lv_iload_n hx hb dX0_read_23 rfl (lv_at hl 2 rfl) ?_
        refine lv_aload_n hx hb dX0_read_24 rfl (lv_at hl 1 rfl) ?_
        refine va_get (D := D) (ci := 0) (v := .int (xNT u)) (C := RX0) (T := TX0) (N := 9) hx hb hts hin hown hK hP 0 rfl rfl 2 (by decide) (hts (.fieldLink RX0 16 "TideDepths" "turns" "I") (by decide +kernel)) (fun _ h9 => h9) rfl dX0_read_25 ?_
        refine lv_icmp_ge (tgt := 51) hx hb dX0_read_28 (by decide) (fun c17 => ?_) (fun c17 => ?_)
        · have hw := hw.1 c17
          refine lv_iload_n hx hb dX0_read_51 rfl (lv_at hl 3 rfl) ?_
          refine lv_iconst (v := 2) hx hb dX0_read_52 (by decide) ?_
          refine lv_icmp_eq (tgt := 61) hx hb dX0_read_53 (by decide) (fun c18 => ?_) (fun c18 => ?_)
          · have hw := hw.1 c18
            refine lv_iconst (v := 1) hx hb dX0_read_61 (by decide) ?_
            refine lv_goto (tgt := 66) hx hb dX0_read_62 (by decide) ?_
            refine lv_istore (lv' := [(4, .int 1), (3, .int 1), (0, .ref h0), (1, .int v1), (2, .int v2)]) hx hb dX0_read_66 hl (by decide) rfl (fun ls hl => ?_)
            refine lv_iload hx hb dX0_read_68 (lv_at hl 0 rfl) ?_
            refine lv_if_eq (tgt := 119) hx hb dX0_read_70 (by decide) (fun c19 => ?_) (fun c19 => ?_)
            · exact absurd c19 (by decide)
            ·
              refine lv_iload_n hx hb dX0_read_73 rfl (lv_at hl 3 rfl) ?_
              refine lv_bipush (v := 100) hx hb dX0_read_74 (by decide) ?_
              refine lv_icmp_lt (tgt := 119) hx hb dX0_read_76 (by decide) (fun c20 => ?_) (fun c20 => ?_)
              · have hw := hw.1 c20
                exact x0_throw (k := 3) (names := ["java/lang/RuntimeException", "java/lang/Exception"]) (text := "nothing such to read") hx hb hst hown (by decide +kernel) (by decide +kernel) (hts (.classLink RX0 143 "java/lang/IndexOutOfBoundsException") (by decide +kernel)) (hts (.initialized "java/lang/IndexOutOfBoundsException") (by decide +kernel)) (by decide +kernel) hT (fun w h => hts w (by unfold wsX0_read; exact List.mem_cons_of_mem _ (List.mem_append_right _ h))) (by decide +kernel) (by decide +kernel) (hl.1.trans hml.symm) dX0_read_119 dX0_read_122 dX0_read_123 dX0_read_125 dX0_read_128 hout (Nat.le_of_ble_eq_true rfl) (Nat.le_of_ble_eq_true rfl) (Nat.le_of_ble_eq_true rfl) (Nat.le_of_ble_eq_true rfl) hlocks hP hK hD rfl hw
              · have hw := hw.2 c20
                refine lv_iload_n hx hb dX0_read_79 rfl (lv_at hl 3 rfl) ?_
                refine lv_bipush (v := 100) hx hb dX0_read_80 (by decide) ?_
                refine lv_isub hx hb dX0_read_82 ?_
                refine lv_aload_n hx hb dX0_read_83 rfl (lv_at hl 2 rfl) ?_
                refine va_get (D := D) (ci := 0) (v := .int (xNO u)) (C := RX0) (T := TX0) (N := 9) hx hb hts hin hown hK hP 0 rfl rfl 5 (by decide) (hts (.fieldLink RX0 26 "TideDepths" "observations" "I") (by decide +kernel)) (fun _ h9 => h9) rfl dX0_read_84 ?_
                refine lv_icmp_ge (tgt := 119) hx hb dX0_read_87 (by decide) (fun c21 => ?_) (fun c21 => ?_)
                · have hw := hw.1 c21
                  exact x0_throw (k := 3) (names := ["java/lang/RuntimeException", "java/lang/Exception"]) (text := "nothing such to read") hx hb hst hown (by decide +kernel) (by decide +kernel) (hts (.classLink RX0 143 "java/lang/IndexOutOfBoundsException") (by decide +kernel)) (hts (.initialized "java/lang/IndexOutOfBoundsException") (by decide +kernel)) (by decide +kernel) hT (fun w h => hts w (by unfold wsX0_read; exact List.mem_cons_of_mem _ (List.mem_append_right _ h))) (by decide +kernel) (by decide +kernel) (hl.1.trans hml.symm) dX0_read_119 dX0_read_122 dX0_read_123 dX0_read_125 dX0_read_128 hout (Nat.le_of_ble_eq_true rfl) (Nat.le_of_ble_eq_true rfl) (Nat.le_of_ble_eq_true rfl) (Nat.le_of_ble_eq_true rfl) hlocks hP hK hD rfl hw
                · have hw := hw.2 c21
                  refine lv_iload_n hx hb dX0_read_90 rfl (lv_at hl 3 rfl) ?_
                  refine lv_bipush (v := 100) hx hb dX0_read_91 (by decide) ?_
                  refine lv_isub hx hb dX0_read_93 ?_
                  refine lv_istore (lv' := [(5, .int (v1 - 100)), (4, .int 1), (3, .int 1), (0, .ref h0), (1, .int v1), (2, .int v2)]) hx hb dX0_read_94 hl (by decide) rfl (fun ls hl => ?_)
                  refine lv_iload_n hx hb dX0_read_96 rfl (lv_at hl 5 rfl) ?_
                  refine lv_iconst (v := 2) hx hb dX0_read_97 (by decide) ?_
                  refine lv_icmp_ne (tgt := 111) hx hb dX0_read_98 (by decide) (fun c22 => ?_) (fun c22 => ?_)
                  · exact absurd c18 c22
                  ·
                    refine lv_aload_n hx hb dX0_read_101 rfl (lv_at hl 3 rfl) ?_
                    refine va_get (D := D) (ci := 0) (v := .ref a3) (C := RX0) (T := TX0) (N := 9) hx hb hts hin hown hK hP 0 rfl rfl 3 (by decide) (hts (.fieldLink RX0 20 "TideDepths" "observedTimes" "[J") (by decide +kernel)) (fun _ h9 => h9) rfl dX0_read_102 ?_
                    refine lv_iload hx hb dX0_read_105 (lv_at hl 0 rfl) ?_
                    obtain ⟨h23, hw⟩ := hw
                    refine va_lald hx hb hK hP 3 0 rfl rfl h23 dX0_read_107 ?_
                    refine lv_goto (tgt := 118) hx hb dX0_read_108 (by decide) ?_
                    refine W.widen (k := 1) (n := 6) (Nat.le_of_ble_eq_true rfl) (Nat.le_of_ble_eq_true rfl) ?_
                    exact vx_ret (W.lret (v := ((xOT u) ((v1 - 100)).toNatClampNeg)) hx hb hr (fun t ht hWm => ⟨⟨((xOT u) ((v1 - 100)).toNatClampNeg), u, rfl, hw, by rw [ht]; exact hP, va_K.moved hWm.alike hK, hD⟩, hS.F ht⟩) hS.2.2 dX0_read_118)
          · have hw := hw.2 c18
            refine lv_iload_n hx hb dX0_read_56 rfl (lv_at hl 3 rfl) ?_
            refine lv_iconst (v := 3) hx hb dX0_read_57 (by decide) ?_
            refine lv_icmp_ne (tgt := 65) hx hb dX0_read_58 (by decide) (fun c24 => ?_) (fun c24 => ?_)
            · have hw := hw.2 c24
              refine lv_iconst (v := 0) hx hb dX0_read_65 (by decide) ?_
              refine lv_istore (lv' := [(4, .int 0), (3, .int 1), (0, .ref h0), (1, .int v1), (2, .int v2)]) hx hb dX0_read_66 hl (by decide) rfl (fun ls hl => ?_)
              refine lv_iload hx hb dX0_read_68 (lv_at hl 0 rfl) ?_
              refine lv_if_eq (tgt := 119) hx hb dX0_read_70 (by decide) (fun c25 => ?_) (fun c25 => ?_)
              ·
                exact x0_throw (k := 3) (names := ["java/lang/RuntimeException", "java/lang/Exception"]) (text := "nothing such to read") hx hb hst hown (by decide +kernel) (by decide +kernel) (hts (.classLink RX0 143 "java/lang/IndexOutOfBoundsException") (by decide +kernel)) (hts (.initialized "java/lang/IndexOutOfBoundsException") (by decide +kernel)) (by decide +kernel) hT (fun w h => hts w (by unfold wsX0_read; exact List.mem_cons_of_mem _ (List.mem_append_right _ h))) (by decide +kernel) (by decide +kernel) (hl.1.trans hml.symm) dX0_read_119 dX0_read_122 dX0_read_123 dX0_read_125 dX0_read_128 hout (Nat.le_of_ble_eq_true rfl) (Nat.le_of_ble_eq_true rfl) (Nat.le_of_ble_eq_true rfl) (Nat.le_of_ble_eq_true rfl) hlocks hP hK hD rfl hw
              · exact absurd (by decide) c25
            · have hw := hw.1 c24
              refine lv_iconst (v := 1) hx hb dX0_read_61 (by decide) ?_
              refine lv_goto (tgt := 66) hx hb dX0_read_62 (by decide) ?_
              refine lv_istore (lv' := [(4, .int 1), (3, .int 1), (0, .ref h0), (1, .int v1), (2, .int v2)]) hx hb dX0_read_66 hl (by decide) rfl (fun ls hl => ?_)
              refine lv_iload hx hb dX0_read_68 (lv_at hl 0 rfl) ?_
              refine lv_if_eq (tgt := 119) hx hb dX0_read_70 (by decide) (fun c26 => ?_) (fun c26 => ?_)
              · exact absurd c26 (by decide)
              ·
                refine lv_iload_n hx hb dX0_read_73 rfl (lv_at hl 3 rfl) ?_
                refine lv_bipush (v := 100) hx hb dX0_read_74 (by decide) ?_
                refine lv_icmp_lt (tgt := 119) hx hb dX0_read_76 (by decide) (fun c27 => ?_) (fun c27 => ?_)
                · have hw := hw.1 c27
                  exact x0_throw (k := 3) (names := ["java/lang/RuntimeException", "java/lang/Exception"]) (text := "nothing such to read") hx hb hst hown (by decide +kernel) (by decide +kernel) (hts (.classLink RX0 143 "java/lang/IndexOutOfBoundsException") (by decide +kernel)) (hts (.initialized "java/lang/IndexOutOfBoundsException") (by decide +kernel)) (by decide +kernel) hT (fun w h => hts w (by unfold wsX0_read; exact List.mem_cons_of_mem _ (List.mem_append_right _ h))) (by decide +kernel) (by decide +kernel) (hl.1.trans hml.symm) dX0_read_119 dX0_read_122 dX0_read_123 dX0_read_125 dX0_read_128 hout (Nat.le_of_ble_eq_true rfl) (Nat.le_of_ble_eq_true rfl) (Nat.le_of_ble_eq_true rfl) (Nat.le_of_ble_eq_true rfl) hlocks hP hK hD rfl hw
                · have hw := hw.2 c27
                  refine lv_iload_n hx hb dX0_read_79 rfl (lv_at hl 3 rfl) ?_
                  refine lv_bipush (v := 100) hx hb dX0_read_80 (by decide) ?_
                  refine lv_isub hx hb dX0_read_82 ?_
                  refine lv_aload_n hx hb dX0_read_83 rfl (lv_at hl 2 rfl) ?_
                  refine va_get (D := D) (ci := 0) (v := .int (xNO u)) (C := RX0) (T := TX0) (N := 9) hx hb hts hin hown hK hP 0 rfl rfl 5 (by decide) (hts (.fieldLink RX0 26 "TideDepths" "observations" "I") (by decide +kernel)) (fun _ h9 => h9) rfl dX0_read_84 ?_
                  refine lv_icmp_ge (tgt := 119) hx hb dX0_read_87 (by decide) (fun c28 => ?_) (fun c28 => ?_)
                  · have hw := hw.1 c28
                    exact x0_throw (k := 3) (names := ["java/lang/RuntimeException", "java/lang/Exception"]) (text := "nothing such to read") hx hb hst hown (by decide +kernel) (by decide +kernel) (hts (.classLink RX0 143 "java/lang/IndexOutOfBoundsException") (by decide +kernel)) (hts (.initialized "java/lang/IndexOutOfBoundsException") (by decide +kernel)) (by decide +kernel) hT (fun w h => hts w (by unfold wsX0_read; exact List.mem_cons_of_mem _ (List.mem_append_right _ h))) (by decide +kernel) (by decide +kernel) (hl.1.trans hml.symm) dX0_read_119 dX0_read_122 dX0_read_123 dX0_read_125 dX0_read_128 hout (Nat.le_of_ble_eq_true rfl) (Nat.le_of_ble_eq_true rfl) (Nat.le_of_ble_eq_true rfl) (Nat.le_of_ble_eq_true rfl) hlocks hP hK hD rfl hw
                  · have hw := hw.2 c28
                    refine lv_iload_n hx hb dX0_read_90 rfl (lv_at hl 3 rfl) ?_
                    refine lv_bipush (v := 100) hx hb dX0_read_91 (by decide) ?_
                    refine lv_isub hx hb dX0_read_93 ?_
                    refine lv_istore (lv' := [(5, .int (v1 - 100)), (4, .int 1), (3, .int 1), (0, .ref h0), (1, .int v1), (2, .int v2)]) hx hb dX0_read_94 hl (by decide) rfl (fun ls hl => ?_)
                    refine lv_iload_n hx hb dX0_read_96 rfl (lv_at hl 5 rfl) ?_
                    refine lv_iconst (v := 2) hx hb dX0_read_97 (by decide) ?_
                    refine lv_icmp_ne (tgt := 111) hx hb dX0_read_98 (by decide) (fun c29 => ?_) (fun c29 => ?_)
                    ·
                      refine lv_aload_n hx hb dX0_read_111 rfl (lv_at hl 3 rfl) ?_
                      refine va_get (D := D) (ci := 0) (v := .ref a4) (C := RX0) (T := TX0) (N := 9) hx hb hts hin hown hK hP 0 rfl rfl 4 (by decide) (hts (.fieldLink RX0 23 "TideDepths" "differences" "[J") (by decide +kernel)) (fun _ h9 => h9) rfl dX0_read_112 ?_
                      refine lv_iload hx hb dX0_read_115 (lv_at hl 0 rfl) ?_
                      obtain ⟨h30, hw⟩ := hw
                      refine va_lald hx hb hK hP 4 0 rfl rfl h30 dX0_read_117 ?_
                      refine W.widen (k := 1) (n := 6) (Nat.le_of_ble_eq_true rfl) (Nat.le_of_ble_eq_true rfl) ?_
                      exact vx_ret (W.lret (v := ((xOD u) ((v1 - 100)).toNatClampNeg)) hx hb hr (fun t ht hWm => ⟨⟨((xOD u) ((v1 - 100)).toNatClampNeg), u, rfl, hw, by rw [ht]; exact hP, va_K.moved hWm.alike hK, hD⟩, hS.F ht⟩) hS.2.2 dX0_read_118)
                    · exact absurd c29 c18
        · have hw := hw.2 c17
          refine lv_iload_n hx hb dX0_read_31 rfl (lv_at hl 3 rfl) ?_
          refine lv_if_ne (tgt := 44) hx hb dX0_read_32 (by decide) (fun c31 => ?_) (fun c31 => ?_)
          · exact absurd c1 c31
          ·
            refine lv_aload_n hx hb dX0_read_35 rfl (lv_at hl 1 rfl) ?_
            refine va_get (D := D) (ci := 0) (v := .ref a1) (C := RX0) (T := TX0) (N := 9) hx hb hts hin hown hK hP 0 rfl rfl 0 (by decide) (hts (.fieldLink RX0 9 "TideDepths" "turnTimes" "[J") (by decide +kernel)) (fun _ h9 => h9) rfl dX0_read_36 ?_
            refine lv_iload_n hx hb dX0_read_39 rfl (lv_at hl 2 rfl) ?_
            obtain ⟨h32, hw⟩ := hw
            refine va_lald hx hb hK hP 1 0 rfl rfl h32 dX0_read_40 ?_
            refine lv_goto (tgt := 50) hx hb dX0_read_41 (by decide) ?_
            refine W.widen (k := 1) (n := 6) (Nat.le_of_ble_eq_true rfl) (Nat.le_of_ble_eq_true rfl) ?_
            exact vx_ret (W.lret (v := ((xTT u) (v1).toNatClampNeg)) hx hb hr (fun t ht hWm => ⟨⟨((xTT u) (v1).toNatClampNeg), u, rfl, hw, by rw [ht]; exact hP, va_K.moved hWm.alike hK, hD⟩, hS.F ht⟩) hS.2.2 dX0_read_50)
  · have hw := hw.2 c1
    refine lv_iload_n hx hb dX0_read_4 rfl (lv_at hl 2 rfl) ?_
    refine lv_iconst (v := 1) hx hb dX0_read_5 (by decide) ?_
    refine lv_icmp_ne (tgt := 13) hx hb dX0_read_6 (by decide) (fun c33 => ?_) (fun c33 => ?_)
    · have hw := hw.2 c33
      refine lv_iconst (v := 0) hx hb dX0_read_13 (by decide) ?_
      refine lv_istore_n (lv' := [(3, .int 0), (0, .ref h0), (1, .int v1), (2, .int v2)]) hx hb dX0_read_14 rfl hl (by decide) rfl (fun ls hl => ?_)
      refine lv_iload_n hx hb dX0_read_15 rfl (lv_at hl 0 rfl) ?_
      refine lv_if_eq (tgt := 51) hx hb dX0_read_16 (by decide) (fun c34 => ?_) (fun c34 => ?_)
      ·
        refine lv_iload_n hx hb dX0_read_51 rfl (lv_at hl 3 rfl) ?_
        refine lv_iconst (v := 2) hx hb dX0_read_52 (by decide) ?_
        refine lv_icmp_eq (tgt := 61) hx hb dX0_read_53 (by decide) (fun c35 => ?_) (fun c35 => ?_)
        · have hw := hw.1 c35
          refine lv_iconst (v := 1) hx hb dX0_read_61 (by decide) ?_
          refine lv_goto (tgt := 66) hx hb dX0_read_62 (by decide) ?_
          refine lv_istore (lv' := [(4, .int 1), (3, .int 0), (0, .ref h0), (1, .int v1), (2, .int v2)]) hx hb dX0_read_66 hl (by decide) rfl (fun ls hl => ?_)
          refine lv_iload hx hb dX0_read_68 (lv_at hl 0 rfl) ?_
          refine lv_if_eq (tgt := 119) hx hb dX0_read_70 (by decide) (fun c36 => ?_) (fun c36 => ?_)
          · exact absurd c36 (by decide)
          ·
            refine lv_iload_n hx hb dX0_read_73 rfl (lv_at hl 3 rfl) ?_
            refine lv_bipush (v := 100) hx hb dX0_read_74 (by decide) ?_
            refine lv_icmp_lt (tgt := 119) hx hb dX0_read_76 (by decide) (fun c37 => ?_) (fun c37 => ?_)
            · have hw := hw.1 c37
              exact x0_throw (k := 3) (names := ["java/lang/RuntimeException", "java/lang/Exception"]) (text := "nothing such to read") hx hb hst hown (by decide +kernel) (by decide +kernel) (hts (.classLink RX0 143 "java/lang/IndexOutOfBoundsException") (by decide +kernel)) (hts (.initialized "java/lang/IndexOutOfBoundsException") (by decide +kernel)) (by decide +kernel) hT (fun w h => hts w (by unfold wsX0_read; exact List.mem_cons_of_mem _ (List.mem_append_right _ h))) (by decide +kernel) (by decide +kernel) (hl.1.trans hml.symm) dX0_read_119 dX0_read_122 dX0_read_123 dX0_read_125 dX0_read_128 hout (Nat.le_of_ble_eq_true rfl) (Nat.le_of_ble_eq_true rfl) (Nat.le_of_ble_eq_true rfl) (Nat.le_of_ble_eq_true rfl) hlocks hP hK hD rfl hw
            · have hw := hw.2 c37
              refine lv_iload_n hx hb dX0_read_79 rfl (lv_at hl 3 rfl) ?_
              refine lv_bipush (v := 100) hx hb dX0_read_80 (by decide) ?_
              refine lv_isub hx hb dX0_read_82 ?_
              refine lv_aload_n hx hb dX0_read_83 rfl (lv_at hl 2 rfl) ?_
              refine va_get (D := D) (ci := 0) (v := .int (xNO u)) (C := RX0) (T := TX0) (N := 9) hx hb hts hin hown hK hP 0 rfl rfl 5 (by decide) (hts (.fieldLink RX0 26 "TideDepths" "observations" "I") (by decide +kernel)) (fun _ h9 => h9) rfl dX0_read_84 ?_
              refine lv_icmp_ge (tgt := 119) hx hb dX0_read_87 (by decide) (fun c38 => ?_) (fun c38 => ?_)
              · have hw := hw.1 c38
                exact x0_throw (k := 3) (names := ["java/lang/RuntimeException", "java/lang/Exception"]) (text := "nothing such to read") hx hb hst hown (by decide +kernel) (by decide +kernel) (hts (.classLink RX0 143 "java/lang/IndexOutOfBoundsException") (by decide +kernel)) (hts (.initialized "java/lang/IndexOutOfBoundsException") (by decide +kernel)) (by decide +kernel) hT (fun w h => hts w (by unfold wsX0_read; exact List.mem_cons_of_mem _ (List.mem_append_right _ h))) (by decide +kernel) (by decide +kernel) (hl.1.trans hml.symm) dX0_read_119 dX0_read_122 dX0_read_123 dX0_read_125 dX0_read_128 hout (Nat.le_of_ble_eq_true rfl) (Nat.le_of_ble_eq_true rfl) (Nat.le_of_ble_eq_true rfl) (Nat.le_of_ble_eq_true rfl) hlocks hP hK hD rfl hw
              · have hw := hw.2 c38
                refine lv_iload_n hx hb dX0_read_90 rfl (lv_at hl 3 rfl) ?_
                refine lv_bipush (v := 100) hx hb dX0_read_91 (by decide) ?_
                refine lv_isub hx hb dX0_read_93 ?_
                refine lv_istore (lv' := [(5, .int (v1 - 100)), (4, .int 1), (3, .int 0), (0, .ref h0), (1, .int v1), (2, .int v2)]) hx hb dX0_read_94 hl (by decide) rfl (fun ls hl => ?_)
                refine lv_iload_n hx hb dX0_read_96 rfl (lv_at hl 5 rfl) ?_
                refine lv_iconst (v := 2) hx hb dX0_read_97 (by decide) ?_
                refine lv_icmp_ne (tgt := 111) hx hb dX0_read_98 (by decide) (fun c39 => ?_) (fun c39 => ?_)
                · exact absurd c35 c39
                ·
                  refine lv_aload_n hx hb dX0_read_101 rfl (lv_at hl 3 rfl) ?_
                  refine va_get (D := D) (ci := 0) (v := .ref a3) (C := RX0) (T := TX0) (N := 9) hx hb hts hin hown hK hP 0 rfl rfl 3 (by decide) (hts (.fieldLink RX0 20 "TideDepths" "observedTimes" "[J") (by decide +kernel)) (fun _ h9 => h9) rfl dX0_read_102 ?_
                  refine lv_iload hx hb dX0_read_105 (lv_at hl 0 rfl) ?_
                  obtain ⟨h40, hw⟩ := hw
                  refine va_lald hx hb hK hP 3 0 rfl rfl h40 dX0_read_107 ?_
                  refine lv_goto (tgt := 118) hx hb dX0_read_108 (by decide) ?_
                  refine W.widen (k := 1) (n := 6) (Nat.le_of_ble_eq_true rfl) (Nat.le_of_ble_eq_true rfl) ?_
                  exact vx_ret (W.lret (v := ((xOT u) ((v1 - 100)).toNatClampNeg)) hx hb hr (fun t ht hWm => ⟨⟨((xOT u) ((v1 - 100)).toNatClampNeg), u, rfl, hw, by rw [ht]; exact hP, va_K.moved hWm.alike hK, hD⟩, hS.F ht⟩) hS.2.2 dX0_read_118)
        · have hw := hw.2 c35
          refine lv_iload_n hx hb dX0_read_56 rfl (lv_at hl 3 rfl) ?_
          refine lv_iconst (v := 3) hx hb dX0_read_57 (by decide) ?_
          refine lv_icmp_ne (tgt := 65) hx hb dX0_read_58 (by decide) (fun c41 => ?_) (fun c41 => ?_)
          · have hw := hw.2 c41
            refine lv_iconst (v := 0) hx hb dX0_read_65 (by decide) ?_
            refine lv_istore (lv' := [(4, .int 0), (3, .int 0), (0, .ref h0), (1, .int v1), (2, .int v2)]) hx hb dX0_read_66 hl (by decide) rfl (fun ls hl => ?_)
            refine lv_iload hx hb dX0_read_68 (lv_at hl 0 rfl) ?_
            refine lv_if_eq (tgt := 119) hx hb dX0_read_70 (by decide) (fun c42 => ?_) (fun c42 => ?_)
            ·
              exact x0_throw (k := 3) (names := ["java/lang/RuntimeException", "java/lang/Exception"]) (text := "nothing such to read") hx hb hst hown (by decide +kernel) (by decide +kernel) (hts (.classLink RX0 143 "java/lang/IndexOutOfBoundsException") (by decide +kernel)) (hts (.initialized "java/lang/IndexOutOfBoundsException") (by decide +kernel)) (by decide +kernel) hT (fun w h => hts w (by unfold wsX0_read; exact List.mem_cons_of_mem _ (List.mem_append_right _ h))) (by decide +kernel) (by decide +kernel) (hl.1.trans hml.symm) dX0_read_119 dX0_read_122 dX0_read_123 dX0_read_125 dX0_read_128 hout (Nat.le_of_ble_eq_true rfl) (Nat.le_of_ble_eq_true rfl) (Nat.le_of_ble_eq_true rfl) (Nat.le_of_ble_eq_true rfl) hlocks hP hK hD rfl hw
            · exact absurd (by decide) c42
          · have hw := hw.1 c41
            refine lv_iconst (v := 1) hx hb dX0_read_61 (by decide) ?_
            refine lv_goto (tgt := 66) hx hb dX0_read_62 (by decide) ?_
            refine lv_istore (lv' := [(4, .int 1), (3, .int 0), (0, .ref h0), (1, .int v1), (2, .int v2)]) hx hb dX0_read_66 hl (by decide) rfl (fun ls hl => ?_)
            refine lv_iload hx hb dX0_read_68 (lv_at hl 0 rfl) ?_
            refine lv_if_eq (tgt := 119) hx hb dX0_read_70 (by decide) (fun c43 => ?_) (fun c43 => ?_)
            · exact absurd c43 (by decide)
            ·
              refine lv_iload_n hx hb dX0_read_73 rfl (lv_at hl 3 rfl) ?_
              refine lv_bipush (v := 100) hx hb dX0_read_74 (by decide) ?_
              refine lv_icmp_lt (tgt := 119) hx hb dX0_read_76 (by decide) (fun c44 => ?_) (fun c44 => ?_)
              · have hw := hw.1 c44
                exact x0_throw (k := 3) (names := ["java/lang/RuntimeException", "java/lang/Exception"]) (text := "nothing such to read") hx hb hst hown (by decide +kernel) (by decide +kernel) (hts (.classLink RX0 143 "java/lang/IndexOutOfBoundsException") (by decide +kernel)) (hts (.initialized "java/lang/IndexOutOfBoundsException") (by decide +kernel)) (by decide +kernel) hT (fun w h => hts w (by unfold wsX0_read; exact List.mem_cons_of_mem _ (List.mem_append_right _ h))) (by decide +kernel) (by decide +kernel) (hl.1.trans hml.symm) dX0_read_119 dX0_read_122 dX0_read_123 dX0_read_125 dX0_read_128 hout (Nat.le_of_ble_eq_true rfl) (Nat.le_of_ble_eq_true rfl) (Nat.le_of_ble_eq_true rfl) (Nat.le_of_ble_eq_true rfl) hlocks hP hK hD rfl hw
              · have hw := hw.2 c44
                refine lv_iload_n hx hb dX0_read_79 rfl (lv_at hl 3 rfl) ?_
                refine lv_bipush (v := 100) hx hb dX0_read_80 (by decide) ?_
                refine lv_isub hx hb dX0_read_82 ?_
                refine lv_aload_n hx hb dX0_read_83 rfl (lv_at hl 2 rfl) ?_
                refine va_get (D := D) (ci := 0) (v := .int (xNO u)) (C := RX0) (T := TX0) (N := 9) hx hb hts hin hown hK hP 0 rfl rfl 5 (by decide) (hts (.fieldLink RX0 26 "TideDepths" "observations" "I") (by decide +kernel)) (fun _ h9 => h9) rfl dX0_read_84 ?_
                refine lv_icmp_ge (tgt := 119) hx hb dX0_read_87 (by decide) (fun c45 => ?_) (fun c45 => ?_)
                · have hw := hw.1 c45
                  exact x0_throw (k := 3) (names := ["java/lang/RuntimeException", "java/lang/Exception"]) (text := "nothing such to read") hx hb hst hown (by decide +kernel) (by decide +kernel) (hts (.classLink RX0 143 "java/lang/IndexOutOfBoundsException") (by decide +kernel)) (hts (.initialized "java/lang/IndexOutOfBoundsException") (by decide +kernel)) (by decide +kernel) hT (fun w h => hts w (by unfold wsX0_read; exact List.mem_cons_of_mem _ (List.mem_append_right _ h))) (by decide +kernel) (by decide +kernel) (hl.1.trans hml.symm) dX0_read_119 dX0_read_122 dX0_read_123 dX0_read_125 dX0_read_128 hout (Nat.le_of_ble_eq_true rfl) (Nat.le_of_ble_eq_true rfl) (Nat.le_of_ble_eq_true rfl) (Nat.le_of_ble_eq_true rfl) hlocks hP hK hD rfl hw
                · have hw := hw.2 c45
                  refine lv_iload_n hx hb dX0_read_90 rfl (lv_at hl 3 rfl) ?_
                  refine lv_bipush (v := 100) hx hb dX0_read_91 (by decide) ?_
                  refine lv_isub hx hb dX0_read_93 ?_
                  refine lv_istore (lv' := [(5, .int (v1 - 100)), (4, .int 1), (3, .int 0), (0, .ref h0), (1, .int v1), (2, .int v2)]) hx hb dX0_read_94 hl (by decide) rfl (fun ls hl => ?_)
                  refine lv_iload_n hx hb dX0_read_96 rfl (lv_at hl 5 rfl) ?_
                  refine lv_iconst (v := 2) hx hb dX0_read_97 (by decide) ?_
                  refine lv_icmp_ne (tgt := 111) hx hb dX0_read_98 (by decide) (fun c46 => ?_) (fun c46 => ?_)
                  ·
                    refine lv_aload_n hx hb dX0_read_111 rfl (lv_at hl 3 rfl) ?_
                    refine va_get (D := D) (ci := 0) (v := .ref a4) (C := RX0) (T := TX0) (N := 9) hx hb hts hin hown hK hP 0 rfl rfl 4 (by decide) (hts (.fieldLink RX0 23 "TideDepths" "differences" "[J") (by decide +kernel)) (fun _ h9 => h9) rfl dX0_read_112 ?_
                    refine lv_iload hx hb dX0_read_115 (lv_at hl 0 rfl) ?_
                    obtain ⟨h47, hw⟩ := hw
                    refine va_lald hx hb hK hP 4 0 rfl rfl h47 dX0_read_117 ?_
                    refine W.widen (k := 1) (n := 6) (Nat.le_of_ble_eq_true rfl) (Nat.le_of_ble_eq_true rfl) ?_
                    exact vx_ret (W.lret (v := ((xOD u) ((v1 - 100)).toNatClampNeg)) hx hb hr (fun t ht hWm => ⟨⟨((xOD u) ((v1 - 100)).toNatClampNeg), u, rfl, hw, by rw [ht]; exact hP, va_K.moved hWm.alike hK, hD⟩, hS.F ht⟩) hS.2.2 dX0_read_118)
                  · exact absurd c46 c35
      · exact absurd (by decide) c34
    · have hw := hw.1 c33
      refine lv_iconst (v := 1) hx hb dX0_read_9 (by decide) ?_
      refine lv_goto (tgt := 14) hx hb dX0_read_10 (by decide) ?_
      refine lv_istore_n (lv' := [(3, .int 1), (0, .ref h0), (1, .int v1), (2, .int v2)]) hx hb dX0_read_14 rfl hl (by decide) rfl (fun ls hl => ?_)
      refine lv_iload_n hx hb dX0_read_15 rfl (lv_at hl 0 rfl) ?_
      refine lv_if_eq (tgt := 51) hx hb dX0_read_16 (by decide) (fun c48 => ?_) (fun c48 => ?_)
      · exact absurd c48 (by decide)
      ·
        refine lv_iload_n hx hb dX0_read_19 rfl (lv_at hl 2 rfl) ?_
        refine lv_if_lt (tgt := 51) hx hb dX0_read_20 (by decide) (fun c49 => ?_) (fun c49 => ?_)
        · have hw := hw.1 c49
          refine lv_iload_n hx hb dX0_read_51 rfl (lv_at hl 3 rfl) ?_
          refine lv_iconst (v := 2) hx hb dX0_read_52 (by decide) ?_
          refine lv_icmp_eq (tgt := 61) hx hb dX0_read_53 (by decide) (fun c50 => ?_) (fun c50 => ?_)
          · have hw := hw.1 c50
            refine lv_iconst (v := 1) hx hb dX0_read_61 (by decide) ?_
            refine lv_goto (tgt := 66) hx hb dX0_read_62 (by decide) ?_
            refine lv_istore (lv' := [(4, .int 1), (3, .int 1), (0, .ref h0), (1, .int v1), (2, .int v2)]) hx hb dX0_read_66 hl (by decide) rfl (fun ls hl => ?_)
            refine lv_iload hx hb dX0_read_68 (lv_at hl 0 rfl) ?_
            refine lv_if_eq (tgt := 119) hx hb dX0_read_70 (by decide) (fun c51 => ?_) (fun c51 => ?_)
            · exact absurd c51 (by decide)
            ·
              refine lv_iload_n hx hb dX0_read_73 rfl (lv_at hl 3 rfl) ?_
              refine lv_bipush (v := 100) hx hb dX0_read_74 (by decide) ?_
              refine lv_icmp_lt (tgt := 119) hx hb dX0_read_76 (by decide) (fun c52 => ?_) (fun c52 => ?_)
              · have hw := hw.1 c52
                exact x0_throw (k := 3) (names := ["java/lang/RuntimeException", "java/lang/Exception"]) (text := "nothing such to read") hx hb hst hown (by decide +kernel) (by decide +kernel) (hts (.classLink RX0 143 "java/lang/IndexOutOfBoundsException") (by decide +kernel)) (hts (.initialized "java/lang/IndexOutOfBoundsException") (by decide +kernel)) (by decide +kernel) hT (fun w h => hts w (by unfold wsX0_read; exact List.mem_cons_of_mem _ (List.mem_append_right _ h))) (by decide +kernel) (by decide +kernel) (hl.1.trans hml.symm) dX0_read_119 dX0_read_122 dX0_read_123 dX0_read_125 dX0_read_128 hout (Nat.le_of_ble_eq_true rfl) (Nat.le_of_ble_eq_true rfl) (Nat.le_of_ble_eq_true rfl) (Nat.le_of_ble_eq_true rfl) hlocks hP hK hD rfl hw
              · have hw := hw.2 c52
                refine lv_iload_n hx hb dX0_read_79 rfl (lv_at hl 3 rfl) ?_
                refine lv_bipush (v := 100) hx hb dX0_read_80 (by decide) ?_
                refine lv_isub hx hb dX0_read_82 ?_
                refine lv_aload_n hx hb dX0_read_83 rfl (lv_at hl 2 rfl) ?_
                refine va_get (D := D) (ci := 0) (v := .int (xNO u)) (C := RX0) (T := TX0) (N := 9) hx hb hts hin hown hK hP 0 rfl rfl 5 (by decide) (hts (.fieldLink RX0 26 "TideDepths" "observations" "I") (by decide +kernel)) (fun _ h9 => h9) rfl dX0_read_84 ?_
                refine lv_icmp_ge (tgt := 119) hx hb dX0_read_87 (by decide) (fun c53 => ?_) (fun c53 => ?_)
                · have hw := hw.1 c53
                  exact x0_throw (k := 3) (names := ["java/lang/RuntimeException", "java/lang/Exception"]) (text := "nothing such to read") hx hb hst hown (by decide +kernel) (by decide +kernel) (hts (.classLink RX0 143 "java/lang/IndexOutOfBoundsException") (by decide +kernel)) (hts (.initialized "java/lang/IndexOutOfBoundsException") (by decide +kernel)) (by decide +kernel) hT (fun w h => hts w (by unfold wsX0_read; exact List.mem_cons_of_mem _ (List.mem_append_right _ h))) (by decide +kernel) (by decide +kernel) (hl.1.trans hml.symm) dX0_read_119 dX0_read_122 dX0_read_123 dX0_read_125 dX0_read_128 hout (Nat.le_of_ble_eq_true rfl) (Nat.le_of_ble_eq_true rfl) (Nat.le_of_ble_eq_true rfl) (Nat.le_of_ble_eq_true rfl) hlocks hP hK hD rfl hw
                · have hw := hw.2 c53
                  refine lv_iload_n hx hb dX0_read_90 rfl (lv_at hl 3 rfl) ?_
                  refine lv_bipush (v := 100) hx hb dX0_read_91 (by decide) ?_
                  refine lv_isub hx hb dX0_read_93 ?_
                  refine lv_istore (lv' := [(5, .int (v1 - 100)), (4, .int 1), (3, .int 1), (0, .ref h0), (1, .int v1), (2, .int v2)]) hx hb dX0_read_94 hl (by decide) rfl (fun ls hl => ?_)
                  refine lv_iload_n hx hb dX0_read_96 rfl (lv_at hl 5 rfl) ?_
                  refine lv_iconst (v := 2) hx hb dX0_read_97 (by decide) ?_
                  refine lv_icmp_ne (tgt := 111) hx hb dX0_read_98 (by decide) (fun c54 => ?_) (fun c54 => ?_)
                  · exact absurd c50 c54
                  ·
                    refine lv_aload_n hx hb dX0_read_101 rfl (lv_at hl 3 rfl) ?_
                    refine va_get (D := D) (ci := 0) (v := .ref a3) (C := RX0) (T := TX0) (N := 9) hx hb hts hin hown hK hP 0 rfl rfl 3 (by decide) (hts (.fieldLink RX0 20 "TideDepths" "observedTimes" "[J") (by decide +kernel)) (fun _ h9 => h9) rfl dX0_read_102 ?_
                    refine lv_iload hx hb dX0_read_105 (lv_at hl 0 rfl) ?_
                    obtain ⟨h55, hw⟩ := hw
                    refine va_lald hx hb hK hP 3 0 rfl rfl h55 dX0_read_107 ?_
                    refine lv_goto (tgt := 118) hx hb dX0_read_108 (by decide) ?_
                    refine W.widen (k := 1) (n := 6) (Nat.le_of_ble_eq_true rfl) (Nat.le_of_ble_eq_true rfl) ?_
                    exact vx_ret (W.lret (v := ((xOT u) ((v1 - 100)).toNatClampNeg)) hx hb hr (fun t ht hWm => ⟨⟨((xOT u) ((v1 - 100)).toNatClampNeg), u, rfl, hw, by rw [ht]; exact hP, va_K.moved hWm.alike hK, hD⟩, hS.F ht⟩) hS.2.2 dX0_read_118)
          · have hw := hw.2 c50
            refine lv_iload_n hx hb dX0_read_56 rfl (lv_at hl 3 rfl) ?_
            refine lv_iconst (v := 3) hx hb dX0_read_57 (by decide) ?_
            refine lv_icmp_ne (tgt := 65) hx hb dX0_read_58 (by decide) (fun c56 => ?_) (fun c56 => ?_)
            · have hw := hw.2 c56
              refine lv_iconst (v := 0) hx hb dX0_read_65 (by decide) ?_
              refine lv_istore (lv' := [(4, .int 0), (3, .int 1), (0, .ref h0), (1, .int v1), (2, .int v2)]) hx hb dX0_read_66 hl (by decide) rfl (fun ls hl => ?_)
              refine lv_iload hx hb dX0_read_68 (lv_at hl 0 rfl) ?_
              refine lv_if_eq (tgt := 119) hx hb dX0_read_70 (by decide) (fun c57 => ?_) (fun c57 => ?_)
              ·
                exact x0_throw (k := 3) (names := ["java/lang/RuntimeException", "java/lang/Exception"]) (text := "nothing such to read") hx hb hst hown (by decide +kernel) (by decide +kernel) (hts (.classLink RX0 143 "java/lang/IndexOutOfBoundsException") (by decide +kernel)) (hts (.initialized "java/lang/IndexOutOfBoundsException") (by decide +kernel)) (by decide +kernel) hT (fun w h => hts w (by unfold wsX0_read; exact List.mem_cons_of_mem _ (List.mem_append_right _ h))) (by decide +kernel) (by decide +kernel) (hl.1.trans hml.symm) dX0_read_119 dX0_read_122 dX0_read_123 dX0_read_125 dX0_read_128 hout (Nat.le_of_ble_eq_true rfl) (Nat.le_of_ble_eq_true rfl) (Nat.le_of_ble_eq_true rfl) (Nat.le_of_ble_eq_true rfl) hlocks hP hK hD rfl hw
              · exact absurd (by decide) c57
            · have hw := hw.1 c56
              refine lv_iconst (v := 1) hx hb dX0_read_61 (by decide) ?_
              refine lv_goto (tgt := 66) hx hb dX0_read_62 (by decide) ?_
              refine lv_istore (lv' := [(4, .int 1), (3, .int 1), (0, .ref h0), (1, .int v1), (2, .int v2)]) hx hb dX0_read_66 hl (by decide) rfl (fun ls hl => ?_)
              refine lv_iload hx hb dX0_read_68 (lv_at hl 0 rfl) ?_
              refine lv_if_eq (tgt := 119) hx hb dX0_read_70 (by decide) (fun c58 => ?_) (fun c58 => ?_)
              · exact absurd c58 (by decide)
              ·
                refine lv_iload_n hx hb dX0_read_73 rfl (lv_at hl 3 rfl) ?_
                refine lv_bipush (v := 100) hx hb dX0_read_74 (by decide) ?_
                refine lv_icmp_lt (tgt := 119) hx hb dX0_read_76 (by decide) (fun c59 => ?_) (fun c59 => ?_)
                · have hw := hw.1 c59
                  exact x0_throw (k := 3) (names := ["java/lang/RuntimeException", "java/lang/Exception"]) (text := "nothing such to read") hx hb hst hown (by decide +kernel) (by decide +kernel) (hts (.classLink RX0 143 "java/lang/IndexOutOfBoundsException") (by decide +kernel)) (hts (.initialized "java/lang/IndexOutOfBoundsException") (by decide +kernel)) (by decide +kernel) hT (fun w h => hts w (by unfold wsX0_read; exact List.mem_cons_of_mem _ (List.mem_append_right _ h))) (by decide +kernel) (by decide +kernel) (hl.1.trans hml.symm) dX0_read_119 dX0_read_122 dX0_read_123 dX0_read_125 dX0_read_128 hout (Nat.le_of_ble_eq_true rfl) (Nat.le_of_ble_eq_true rfl) (Nat.le_of_ble_eq_true rfl) (Nat.le_of_ble_eq_true rfl) hlocks hP hK hD rfl hw
                · have hw := hw.2 c59
                  refine lv_iload_n hx hb dX0_read_79 rfl (lv_at hl 3 rfl) ?_
                  refine lv_bipush (v := 100) hx hb dX0_read_80 (by decide) ?_
                  refine lv_isub hx hb dX0_read_82 ?_
                  refine lv_aload_n hx hb dX0_read_83 rfl (lv_at hl 2 rfl) ?_
                  refine va_get (D := D) (ci := 0) (v := .int (xNO u)) (C := RX0) (T := TX0) (N := 9) hx hb hts hin hown hK hP 0 rfl rfl 5 (by decide) (hts (.fieldLink RX0 26 "TideDepths" "observations" "I") (by decide +kernel)) (fun _ h9 => h9) rfl dX0_read_84 ?_
                  refine lv_icmp_ge (tgt := 119) hx hb dX0_read_87 (by decide) (fun c60 => ?_) (fun c60 => ?_)
                  · have hw := hw.1 c60
                    exact x0_throw (k := 3) (names := ["java/lang/RuntimeException", "java/lang/Exception"]) (text := "nothing such to read") hx hb hst hown (by decide +kernel) (by decide +kernel) (hts (.classLink RX0 143 "java/lang/IndexOutOfBoundsException") (by decide +kernel)) (hts (.initialized "java/lang/IndexOutOfBoundsException") (by decide +kernel)) (by decide +kernel) hT (fun w h => hts w (by unfold wsX0_read; exact List.mem_cons_of_mem _ (List.mem_append_right _ h))) (by decide +kernel) (by decide +kernel) (hl.1.trans hml.symm) dX0_read_119 dX0_read_122 dX0_read_123 dX0_read_125 dX0_read_128 hout (Nat.le_of_ble_eq_true rfl) (Nat.le_of_ble_eq_true rfl) (Nat.le_of_ble_eq_true rfl) (Nat.le_of_ble_eq_true rfl) hlocks hP hK hD rfl hw
                  · have hw := hw.2 c60
                    refine lv_iload_n hx hb dX0_read_90 rfl (lv_at hl 3 rfl) ?_
                    refine lv_bipush (v := 100) hx hb dX0_read_91 (by decide) ?_
                    refine lv_isub hx hb dX0_read_93 ?_
                    refine lv_istore (lv' := [(5, .int (v1 - 100)), (4, .int 1), (3, .int 1), (0, .ref h0), (1, .int v1), (2, .int v2)]) hx hb dX0_read_94 hl (by decide) rfl (fun ls hl => ?_)
                    refine lv_iload_n hx hb dX0_read_96 rfl (lv_at hl 5 rfl) ?_
                    refine lv_iconst (v := 2) hx hb dX0_read_97 (by decide) ?_
                    refine lv_icmp_ne (tgt := 111) hx hb dX0_read_98 (by decide) (fun c61 => ?_) (fun c61 => ?_)
                    ·
                      refine lv_aload_n hx hb dX0_read_111 rfl (lv_at hl 3 rfl) ?_
                      refine va_get (D := D) (ci := 0) (v := .ref a4) (C := RX0) (T := TX0) (N := 9) hx hb hts hin hown hK hP 0 rfl rfl 4 (by decide) (hts (.fieldLink RX0 23 "TideDepths" "differences" "[J") (by decide +kernel)) (fun _ h9 => h9) rfl dX0_read_112 ?_
                      refine lv_iload hx hb dX0_read_115 (lv_at hl 0 rfl) ?_
                      obtain ⟨h62, hw⟩ := hw
                      refine va_lald hx hb hK hP 4 0 rfl rfl h62 dX0_read_117 ?_
                      refine W.widen (k := 1) (n := 6) (Nat.le_of_ble_eq_true rfl) (Nat.le_of_ble_eq_true rfl) ?_
                      exact vx_ret (W.lret (v := ((xOD u) ((v1 - 100)).toNatClampNeg)) hx hb hr (fun t ht hWm => ⟨⟨((xOD u) ((v1 - 100)).toNatClampNeg), u, rfl, hw, by rw [ht]; exact hP, va_K.moved hWm.alike hK, hD⟩, hS.F ht⟩) hS.2.2 dX0_read_118)
                    · exact absurd c61 c50
        · have hw := hw.2 c49
          refine lv_iload_n hx hb dX0_read_23 rfl (lv_at hl 2 rfl) ?_
          refine lv_aload_n hx hb dX0_read_24 rfl (lv_at hl 1 rfl) ?_
          refine va_get (D := D) (ci := 0) (v := .int (xNT u)) (C := RX0) (T := TX0) (N := 9) hx hb hts hin hown hK hP 0 rfl rfl 2 (by decide) (hts (.fieldLink RX0 16 "TideDepths" "turns" "I") (by decide +kernel)) (fun _ h9 => h9) rfl dX0_read_25 ?_
          refine lv_icmp_ge (tgt := 51) hx hb dX0_read_28 (by decide) (fun c63 => ?_) (fun c63 => ?_)
          · have hw := hw.1 c63
            refine lv_iload_n hx hb dX0_read_51 rfl (lv_at hl 3 rfl) ?_
            refine lv_iconst (v := 2) hx hb dX0_read_52 (by decide) ?_
            refine lv_icmp_eq (tgt := 61) hx hb dX0_read_53 (by decide) (fun c64 => ?_) (fun c64 => ?_)
            · have hw := hw.1 c64
              refine lv_iconst (v := 1) hx hb dX0_read_61 (by decide) ?_
              refine lv_goto (tgt := 66) hx hb dX0_read_62 (by decide) ?_
              refine lv_istore (lv' := [(4, .int 1), (3, .int 1), (0, .ref h0), (1, .int v1), (2, .int v2)]) hx hb dX0_read_66 hl (by decide) rfl (fun ls hl => ?_)
              refine lv_iload hx hb dX0_read_68 (lv_at hl 0 rfl) ?_
              refine lv_if_eq (tgt := 119) hx hb dX0_read_70 (by decide) (fun c65 => ?_) (fun c65 => ?_)
              · exact absurd c65 (by decide)
              ·
                refine lv_iload_n hx hb dX0_read_73 rfl (lv_at hl 3 rfl) ?_
                refine lv_bipush (v := 100) hx hb dX0_read_74 (by decide) ?_
                refine lv_icmp_lt (tgt := 119) hx hb dX0_read_76 (by decide) (fun c66 => ?_) (fun c66 => ?_)
                · have hw := hw.1 c66
                  exact x0_throw (k := 3) (names := ["java/lang/RuntimeException", "java/lang/Exception"]) (text := "nothing such to read") hx hb hst hown (by decide +kernel) (by decide +kernel) (hts (.classLink RX0 143 "java/lang/IndexOutOfBoundsException") (by decide +kernel)) (hts (.initialized "java/lang/IndexOutOfBoundsException") (by decide +kernel)) (by decide +kernel) hT (fun w h => hts w (by unfold wsX0_read; exact List.mem_cons_of_mem _ (List.mem_append_right _ h))) (by decide +kernel) (by decide +kernel) (hl.1.trans hml.symm) dX0_read_119 dX0_read_122 dX0_read_123 dX0_read_125 dX0_read_128 hout (Nat.le_of_ble_eq_true rfl) (Nat.le_of_ble_eq_true rfl) (Nat.le_of_ble_eq_true rfl) (Nat.le_of_ble_eq_true rfl) hlocks hP hK hD rfl hw
                · have hw := hw.2 c66
                  refine lv_iload_n hx hb dX0_read_79 rfl (lv_at hl 3 rfl) ?_
                  refine lv_bipush (v := 100) hx hb dX0_read_80 (by decide) ?_
                  refine lv_isub hx hb dX0_read_82 ?_
                  refine lv_aload_n hx hb dX0_read_83 rfl (lv_at hl 2 rfl) ?_
                  refine va_get (D := D) (ci := 0) (v := .int (xNO u)) (C := RX0) (T := TX0) (N := 9) hx hb hts hin hown hK hP 0 rfl rfl 5 (by decide) (hts (.fieldLink RX0 26 "TideDepths" "observations" "I") (by decide +kernel)) (fun _ h9 => h9) rfl dX0_read_84 ?_
                  refine lv_icmp_ge (tgt := 119) hx hb dX0_read_87 (by decide) (fun c67 => ?_) (fun c67 => ?_)
                  · have hw := hw.1 c67
                    exact x0_throw (k := 3) (names := ["java/lang/RuntimeException", "java/lang/Exception"]) (text := "nothing such to read") hx hb hst hown (by decide +kernel) (by decide +kernel) (hts (.classLink RX0 143 "java/lang/IndexOutOfBoundsException") (by decide +kernel)) (hts (.initialized "java/lang/IndexOutOfBoundsException") (by decide +kernel)) (by decide +kernel) hT (fun w h => hts w (by unfold wsX0_read; exact List.mem_cons_of_mem _ (List.mem_append_right _ h))) (by decide +kernel) (by decide +kernel) (hl.1.trans hml.symm) dX0_read_119 dX0_read_122 dX0_read_123 dX0_read_125 dX0_read_128 hout (Nat.le_of_ble_eq_true rfl) (Nat.le_of_ble_eq_true rfl) (Nat.le_of_ble_eq_true rfl) (Nat.le_of_ble_eq_true rfl) hlocks hP hK hD rfl hw
                  · have hw := hw.2 c67
                    refine lv_iload_n hx hb dX0_read_90 rfl (lv_at hl 3 rfl) ?_
                    refine lv_bipush (v := 100) hx hb dX0_read_91 (by decide) ?_
                    refine lv_isub hx hb dX0_read_93 ?_
                    refine lv_istore (lv' := [(5, .int (v1 - 100)), (4, .int 1), (3, .int 1), (0, .ref h0), (1, .int v1), (2, .int v2)]) hx hb dX0_read_94 hl (by decide) rfl (fun ls hl => ?_)
                    refine lv_iload_n hx hb dX0_read_96 rfl (lv_at hl 5 rfl) ?_
                    refine lv_iconst (v := 2) hx hb dX0_read_97 (by decide) ?_
                    refine lv_icmp_ne (tgt := 111) hx hb dX0_read_98 (by decide) (fun c68 => ?_) (fun c68 => ?_)
                    · exact absurd c64 c68
                    ·
                      refine lv_aload_n hx hb dX0_read_101 rfl (lv_at hl 3 rfl) ?_
                      refine va_get (D := D) (ci := 0) (v := .ref a3) (C := RX0) (T := TX0) (N := 9) hx hb hts hin hown hK hP 0 rfl rfl 3 (by decide) (hts (.fieldLink RX0 20 "TideDepths" "observedTimes" "[J") (by decide +kernel)) (fun _ h9 => h9) rfl dX0_read_102 ?_
                      refine lv_iload hx hb dX0_read_105 (lv_at hl 0 rfl) ?_
                      obtain ⟨h69, hw⟩ := hw
                      refine va_lald hx hb hK hP 3 0 rfl rfl h69 dX0_read_107 ?_
                      refine lv_goto (tgt := 118) hx hb dX0_read_108 (by decide) ?_
                      refine W.widen (k := 1) (n := 6) (Nat.le_of_ble_eq_true rfl) (Nat.le_of_ble_eq_true rfl) ?_
                      exact vx_ret (W.lret (v := ((xOT u) ((v1 - 100)).toNatClampNeg)) hx hb hr (fun t ht hWm => ⟨⟨((xOT u) ((v1 - 100)).toNatClampNeg), u, rfl, hw, by rw [ht]; exact hP, va_K.moved hWm.alike hK, hD⟩, hS.F ht⟩) hS.2.2 dX0_read_118)
            · have hw := hw.2 c64
              refine lv_iload_n hx hb dX0_read_56 rfl (lv_at hl 3 rfl) ?_
              refine lv_iconst (v := 3) hx hb dX0_read_57 (by decide) ?_
              refine lv_icmp_ne (tgt := 65) hx hb dX0_read_58 (by decide) (fun c70 => ?_) (fun c70 => ?_)
              · have hw := hw.2 c70
                refine lv_iconst (v := 0) hx hb dX0_read_65 (by decide) ?_
                refine lv_istore (lv' := [(4, .int 0), (3, .int 1), (0, .ref h0), (1, .int v1), (2, .int v2)]) hx hb dX0_read_66 hl (by decide) rfl (fun ls hl => ?_)
                refine lv_iload hx hb dX0_read_68 (lv_at hl 0 rfl) ?_
                refine lv_if_eq (tgt := 119) hx hb dX0_read_70 (by decide) (fun c71 => ?_) (fun c71 => ?_)
                ·
                  exact x0_throw (k := 3) (names := ["java/lang/RuntimeException", "java/lang/Exception"]) (text := "nothing such to read") hx hb hst hown (by decide +kernel) (by decide +kernel) (hts (.classLink RX0 143 "java/lang/IndexOutOfBoundsException") (by decide +kernel)) (hts (.initialized "java/lang/IndexOutOfBoundsException") (by decide +kernel)) (by decide +kernel) hT (fun w h => hts w (by unfold wsX0_read; exact List.mem_cons_of_mem _ (List.mem_append_right _ h))) (by decide +kernel) (by decide +kernel) (hl.1.trans hml.symm) dX0_read_119 dX0_read_122 dX0_read_123 dX0_read_125 dX0_read_128 hout (Nat.le_of_ble_eq_true rfl) (Nat.le_of_ble_eq_true rfl) (Nat.le_of_ble_eq_true rfl) (Nat.le_of_ble_eq_true rfl) hlocks hP hK hD rfl hw
                · exact absurd (by decide) c71
              · have hw := hw.1 c70
                refine lv_iconst (v := 1) hx hb dX0_read_61 (by decide) ?_
                refine lv_goto (tgt := 66) hx hb dX0_read_62 (by decide) ?_
                refine lv_istore (lv' := [(4, .int 1), (3, .int 1), (0, .ref h0), (1, .int v1), (2, .int v2)]) hx hb dX0_read_66 hl (by decide) rfl (fun ls hl => ?_)
                refine lv_iload hx hb dX0_read_68 (lv_at hl 0 rfl) ?_
                refine lv_if_eq (tgt := 119) hx hb dX0_read_70 (by decide) (fun c72 => ?_) (fun c72 => ?_)
                · exact absurd c72 (by decide)
                ·
                  refine lv_iload_n hx hb dX0_read_73 rfl (lv_at hl 3 rfl) ?_
                  refine lv_bipush (v := 100) hx hb dX0_read_74 (by decide) ?_
                  refine lv_icmp_lt (tgt := 119) hx hb dX0_read_76 (by decide) (fun c73 => ?_) (fun c73 => ?_)
                  · have hw := hw.1 c73
                    exact x0_throw (k := 3) (names := ["java/lang/RuntimeException", "java/lang/Exception"]) (text := "nothing such to read") hx hb hst hown (by decide +kernel) (by decide +kernel) (hts (.classLink RX0 143 "java/lang/IndexOutOfBoundsException") (by decide +kernel)) (hts (.initialized "java/lang/IndexOutOfBoundsException") (by decide +kernel)) (by decide +kernel) hT (fun w h => hts w (by unfold wsX0_read; exact List.mem_cons_of_mem _ (List.mem_append_right _ h))) (by decide +kernel) (by decide +kernel) (hl.1.trans hml.symm) dX0_read_119 dX0_read_122 dX0_read_123 dX0_read_125 dX0_read_128 hout (Nat.le_of_ble_eq_true rfl) (Nat.le_of_ble_eq_true rfl) (Nat.le_of_ble_eq_true rfl) (Nat.le_of_ble_eq_true rfl) hlocks hP hK hD rfl hw
                  · have hw := hw.2 c73
                    refine lv_iload_n hx hb dX0_read_79 rfl (lv_at hl 3 rfl) ?_
                    refine lv_bipush (v := 100) hx hb dX0_read_80 (by decide) ?_
                    refine lv_isub hx hb dX0_read_82 ?_
                    refine lv_aload_n hx hb dX0_read_83 rfl (lv_at hl 2 rfl) ?_
                    refine va_get (D := D) (ci := 0) (v := .int (xNO u)) (C := RX0) (T := TX0) (N := 9) hx hb hts hin hown hK hP 0 rfl rfl 5 (by decide) (hts (.fieldLink RX0 26 "TideDepths" "observations" "I") (by decide +kernel)) (fun _ h9 => h9) rfl dX0_read_84 ?_
                    refine lv_icmp_ge (tgt := 119) hx hb dX0_read_87 (by decide) (fun c74 => ?_) (fun c74 => ?_)
                    · have hw := hw.1 c74
                      exact x0_throw (k := 3) (names := ["java/lang/RuntimeException", "java/lang/Exception"]) (text := "nothing such to read") hx hb hst hown (by decide +kernel) (by decide +kernel) (hts (.classLink RX0 143 "java/lang/IndexOutOfBoundsException") (by decide +kernel)) (hts (.initialized "java/lang/IndexOutOfBoundsException") (by decide +kernel)) (by decide +kernel) hT (fun w h => hts w (by unfold wsX0_read; exact List.mem_cons_of_mem _ (List.mem_append_right _ h))) (by decide +kernel) (by decide +kernel) (hl.1.trans hml.symm) dX0_read_119 dX0_read_122 dX0_read_123 dX0_read_125 dX0_read_128 hout (Nat.le_of_ble_eq_true rfl) (Nat.le_of_ble_eq_true rfl) (Nat.le_of_ble_eq_true rfl) (Nat.le_of_ble_eq_true rfl) hlocks hP hK hD rfl hw
                    · have hw := hw.2 c74
                      refine lv_iload_n hx hb dX0_read_90 rfl (lv_at hl 3 rfl) ?_
                      refine lv_bipush (v := 100) hx hb dX0_read_91 (by decide) ?_
                      refine lv_isub hx hb dX0_read_93 ?_
                      refine lv_istore (lv' := [(5, .int (v1 - 100)), (4, .int 1), (3, .int 1), (0, .ref h0), (1, .int v1), (2, .int v2)]) hx hb dX0_read_94 hl (by decide) rfl (fun ls hl => ?_)
                      refine lv_iload_n hx hb dX0_read_96 rfl (lv_at hl 5 rfl) ?_
                      refine lv_iconst (v := 2) hx hb dX0_read_97 (by decide) ?_
                      refine lv_icmp_ne (tgt := 111) hx hb dX0_read_98 (by decide) (fun c75 => ?_) (fun c75 => ?_)
                      ·
                        refine lv_aload_n hx hb dX0_read_111 rfl (lv_at hl 3 rfl) ?_
                        refine va_get (D := D) (ci := 0) (v := .ref a4) (C := RX0) (T := TX0) (N := 9) hx hb hts hin hown hK hP 0 rfl rfl 4 (by decide) (hts (.fieldLink RX0 23 "TideDepths" "differences" "[J") (by decide +kernel)) (fun _ h9 => h9) rfl dX0_read_112 ?_
                        refine lv_iload hx hb dX0_read_115 (lv_at hl 0 rfl) ?_
                        obtain ⟨h76, hw⟩ := hw
                        refine va_lald hx hb hK hP 4 0 rfl rfl h76 dX0_read_117 ?_
                        refine W.widen (k := 1) (n := 6) (Nat.le_of_ble_eq_true rfl) (Nat.le_of_ble_eq_true rfl) ?_
                        exact vx_ret (W.lret (v := ((xOD u) ((v1 - 100)).toNatClampNeg)) hx hb hr (fun t ht hWm => ⟨⟨((xOD u) ((v1 - 100)).toNatClampNeg), u, rfl, hw, by rw [ht]; exact hP, va_K.moved hWm.alike hK, hD⟩, hS.F ht⟩) hS.2.2 dX0_read_118)
                      · exact absurd c75 c64
          · have hw := hw.2 c63
            refine lv_iload_n hx hb dX0_read_31 rfl (lv_at hl 3 rfl) ?_
            refine lv_if_ne (tgt := 44) hx hb dX0_read_32 (by decide) (fun c77 => ?_) (fun c77 => ?_)
            ·
              refine lv_aload_n hx hb dX0_read_44 rfl (lv_at hl 1 rfl) ?_
              refine va_get (D := D) (ci := 0) (v := .ref a2) (C := RX0) (T := TX0) (N := 9) hx hb hts hin hown hK hP 0 rfl rfl 1 (by decide) (hts (.fieldLink RX0 13 "TideDepths" "turnHeights" "[J") (by decide +kernel)) (fun _ h9 => h9) rfl dX0_read_45 ?_
              refine lv_iload_n hx hb dX0_read_48 rfl (lv_at hl 2 rfl) ?_
              obtain ⟨h78, hw⟩ := hw
              refine va_lald hx hb hK hP 2 0 rfl rfl h78 dX0_read_49 ?_
              refine W.widen (k := 1) (n := 6) (Nat.le_of_ble_eq_true rfl) (Nat.le_of_ble_eq_true rfl) ?_
              exact vx_ret (W.lret (v := ((xTH u) (v1).toNatClampNeg)) hx hb hr (fun t ht hWm => ⟨⟨((xTH u) (v1).toNatClampNeg), u, rfl, hw, by rw [ht]; exact hP, va_K.moved hWm.alike hK, hD⟩, hS.F ht⟩) hS.2.2 dX0_read_50)
            · exact absurd c77 c1
end
