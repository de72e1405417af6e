/-! sailing, class and reference -/
def uw (s : MS) (v : Int) (i : Nat) : Int := upD (100 * sW s i) v
theorem upD_b {a v : Int} (ha : 0 ≤ a) (hv : 0 < v) : 0 ≤ upD a v ∧ upD a v ≤ a + v := by
  unfold upD
  rw [td_pos (by omega)]
  refine ⟨Int.ediv_nonneg (by omega) (by omega), ?_⟩
  have := Int.ediv_le_self (a := a + v - 1) v (by omega)
  omega
theorem uw_b {s : MS} (hI : MI s) {v : Int} (hv : 0 < v) (hv2 : v ≤ 10000) {i : Nat} (hi : i < sK s) : 0 ≤ uw s v i ∧ uw s v i ≤ 200000000 := by
  have b := hI.2.2.2.2.2.2.2 i hi
  have := upD_b (a := 100 * sW s i) (v := v) (by omega) hv
  unfold uw
  omega
def gd1 (s : MS) (al v t : Int) (i : Nat) : Prop := t + uw s v i ≤ lst s ∧ sat s (al - sB s i) true (t + uw s v i)
def gd (s : MS) (al v t : Int) : Prop := ∀ i, i < sK s → gd1 s al v t i
def FG (s : MS) (al v a f : Int) : Prop := a ≤ f ∧ f ≤ lst s ∧ gd s al v f ∧ ∀ t, a ≤ t → t < f → ¬ gd s al v t
def EG (s : MS) (al v f e : Int) : Prop := f ≤ e ∧ e ≤ lst s ∧ (∀ t, f ≤ t → t ≤ e → gd s al v t) ∧ (e < lst s → ¬ gd s al v (e + 1))
def SL (s : MS) (al v a sd r : Int) : Prop :=
  ((∀ t, a ≤ t → t ≤ lst s → ¬ gd s al v t) ∧ r = -1) ∨ (∃ f, FG s al v a f ∧ ((sd = 0 ∧ r = f) ∨ (sd ≠ 0 ∧ EG s al v f r)))
theorem FG_uniq {s : MS} {al v a f g : Int} (h : FG s al v a f) (h2 : FG s al v a g) : f = g := by
  obtain ⟨a1, a2, a3, a4⟩ := h
  obtain ⟨b1, b2, b3, b4⟩ := h2
  rcases Int.lt_trichotomy f g with z | z | z
  · exact absurd a3 (b4 f a1 z)
  · exact z
  · exact absurd b3 (a4 g b1 z)
theorem EG_uniq {s : MS} {al v f e g : Int} (h : EG s al v f e) (h2 : EG s al v f g) : e = g := by
  obtain ⟨a1, a2, a3, a4⟩ := h
  obtain ⟨b1, b2, b3, b4⟩ := h2
  rcases Int.lt_trichotomy e g with z | z | z
  · exact absurd (b3 (e + 1) (by omega) (by omega)) (a4 (by omega))
  · exact z
  · exact absurd (a3 (g + 1) (by omega) (by omega)) (b4 (by omega))
theorem SL_uniq {s : MS} {al v a sd r r2 : Int} (h : SL s al v a sd r) (h2 : SL s al v a sd r2) : r = r2 := by
  rcases h with ⟨h, e⟩ | ⟨f, hf, h⟩
  · rcases h2 with ⟨k, e2⟩ | ⟨g, hg, k⟩
    · omega
    · exact absurd hg.2.2.1 (h g hg.1 hg.2.1)
  · rcases h2 with ⟨k, e2⟩ | ⟨g, hg, k⟩
    · exact absurd hf.2.2.1 (k f hf.1 hf.2.1)
    · have e := FG_uniq hf hg
      subst e
      rcases h with ⟨z, h⟩ | ⟨z, h⟩
      · rcases k with ⟨z2, k⟩ | ⟨z2, k⟩
        · omega
        · omega
      · rcases k with ⟨z2, k⟩ | ⟨z2, k⟩
        · omega
        · exact EG_uniq h k
theorem q_fsInner {post : Int64 → Prop} {ex : Int64 → Int32 → Prop} {s : MS} {u : XS} (hI : MI s) (hX : XR s u) {al v : Int} (hal : -300000 ≤ al) (hal2 : al ≤ 300000) (hv : 0 < v) (hv2 : v ≤ 10000) (h2 : 2 ≤ sN s) {a S0 : Int} (ha : sT s 0 ≤ a) (hS0 : a ≤ S0)
    (hex : ∀ S, S0 ≤ S → S ≤ lst s → (∀ t, a ≤ t → t < S → ¬ gd s al v t) → (S = S0 → gd s al v S) → ex (LI S) (nI (sK s))) (hno : (∀ t, a ≤ t → t ≤ lst s → ¬ gd s al v t) → post (LI (lst s) + 1)) :
    ∀ (d i : Nat) (S : Int), i + d = sK s → S0 ≤ S → S ≤ lst s → (∀ t, a ≤ t → t < S → ¬ gd s al v t) → (S = S0 → ∀ j, j < i → gd1 s al v S j) → wX0_firstSailing_L28 post u ex (LI al) (LI v) (LI (lst s)) (d + 1) (LI S) (nI i) := by
  have lb := lst_b hI
  have t0 := hI.2.2.2.1 0 (by omega)
  have k12 := hI.2.2.1
  intro d
  induction d with
  | zero =>
    intro i S c1 c2 c3 c4 c5
    have e : i = sK s := by omega
    subst e
    rw [wX0_firstSailing_L28, hX.2.2.1]
    refine ⟨fun _ => hex S c2 c3 c4 c5, fun z => absurd ?_ z⟩
    rw [nI_I, II_le ⟨by omega, by omega⟩ ⟨by omega, by omega⟩]; omega
  | succ d ih =>
    intro i S c1 c2 c3 c4 c5
    have hi : i < sK s := by omega
    obtain ⟨x1, x2⟩ := hX.2.2.2.2.2 i hi
    have bi := hI.2.2.2.2.2.2.2 i hi
    have bu := uw_b hI hv hv2 hi
    rw [wX0_firstSailing_L28, hX.2.2.1, nI_1 i]
    have ec : (nI i).toNatClampNeg = i := by rw [nI_I, II_cl ⟨by omega, by omega⟩]; omega
    have ev : vp_in (nI i) 12 := by rw [nI_I]; exact vp_II (by omega) (by omega) (by omega)
    rw [ec, x1, x2]
    refine ⟨fun z => ?_, fun _ => ⟨ev, q_secondsFor (by omega) (by omega) hv hv2 ⟨ev, ?_⟩⟩⟩
    · rw [nI_I, nI_I, II_le ⟨by omega, by omega⟩ ⟨by omega, by omega⟩] at z; omega
    rw [LI_sub, LI_add, show (1 : Int32) = rI true from rfl]
    rw [show upD (100 * sW s i) v = uw s v i from rfl]
    have hgi : ∀ t, gd s al v t → t + uw s v i ≤ lst s ∧ sat s (al - sB s i) true (t + uw s v i) := fun t hg => hg i hi
    generalize hw : uw s v i = w at *
    refine q_nextSecond hI hX (by omega) (by omega) true h2 (by omega) (by omega) (fun g hg => ?_)
    have hng : lst s < g → ∀ t, a ≤ t → t ≤ lst s → ¬ gd s al v t := fun z t d1 d2 hgd => by
      rcases Int.lt_or_le t S with y | y
      · exact c4 t d1 y hgd
      · obtain ⟨k1, k2⟩ := hgi t hgd
        rcases hg with ⟨g1, g2⟩ | ⟨g1, g2, g3, g4, g5⟩
        · omega
        · exact g4 (t + w) (by omega) (by omega) k2
    rw [LI_le (by rcases hg with ⟨g1, g2⟩ | ⟨g1, g2, g3, g4, g5⟩ <;> exact ⟨by omega, by omega⟩) ⟨by omega, by omega⟩, LI_sub]
    refine ⟨fun z => ?_, fun z => hno (hng (by omega))⟩
    rcases hg with ⟨g1, g2⟩ | ⟨g1, g2, g3, g4, g5⟩
    · omega
    · refine ih (i + 1) (g - w) (by omega) (by omega) (by omega) (fun t d1 d2 hgd => ?_) (fun e j hj => ?_)
      · rcases Int.lt_or_le t S with y | y
        · exact c4 t d1 y hgd
        · obtain ⟨k1, k2⟩ := hgi t hgd
          exact g4 (t + w) (by omega) (by omega) k2
      · have eS : S = S0 := by omega
        have eg : g - w = S := by omega
        rw [eg]
        rcases Nat.lt_or_ge j i with y | y
        · exact c5 eS j y
        · have ej : j = i := by omega
          subst ej
          refine ⟨by rw [hw]; omega, ?_⟩
          rw [hw, show S + w = g by omega]
          exact g5 z
theorem q_fsOuter {post : Int64 → Prop} {s : MS} {u : XS} (hI : MI s) (hX : XR s u) {al v : Int} (hal : -300000 ≤ al) (hal2 : al ≤ 300000) (hv : 0 < v) (hv2 : v ≤ 10000) (h2 : 2 ≤ sN s) {a : Int} (ha : sT s 0 ≤ a) (h : ∀ f, ((f = lst s + 1 ∧ ∀ t, a ≤ t → t ≤ lst s → ¬ gd s al v t) ∨ FG s al v a f) → post (LI f)) :
    ∀ (d : Nat) (S : Int) (n : Nat), a ≤ S → S ≤ lst s → lst s - S ≤ d → (n : Int) ≤ S - a → (∀ t, a ≤ t → t < S → ¬ gd s al v t) → wX0_firstSailing_L13 post u (LI al) (LI v) (LI (lst s)) (d + 1) (LI S) (nI n) := by
  have lb := lst_b hI
  have t0 := hI.2.2.2.1 0 (by omega)
  have hno : (∀ t, a ≤ t → t ≤ lst s → ¬ gd s al v t) → post (LI (lst s) + 1) := fun z => by
    rw [L1, LI_add]; exact h _ (Or.inl ⟨rfl, z⟩)
  intro d
  induction d with
  | zero =>
    intro S n c1 c2 c3 c4 c5
    rw [wX0_firstSailing_L13]
    refine ⟨fun z => ?_, fun _ => ⟨sK s + 1, ?_⟩⟩
    · rw [I20000, nI_I, II_lt ⟨by omega, by omega⟩ ⟨by omega, by omega⟩] at z; omega
    · refine q_fsInner hI hX hal hal2 hv hv2 h2 ha c1 (fun S2 d1 d2 d3 d4 => ?_) hno (sK s) 0 S (by omega) (by omega) c2 c5 (fun _ j hj => by omega)
      have e : S2 = S := by omega
      subst e
      exact ⟨fun _ => h S2 (Or.inr ⟨c1, c2, d4 rfl, c5⟩), fun z => absurd rfl z⟩
  | succ d ih =>
    intro S n c1 c2 c3 c4 c5
    rw [wX0_firstSailing_L13, nI_1 n]
    refine ⟨fun z => ?_, fun _ => ⟨sK s + 1, ?_⟩⟩
    · rw [I20000, nI_I, II_lt ⟨by omega, by omega⟩ ⟨by omega, by omega⟩] at z; omega
    · refine q_fsInner hI hX hal hal2 hv hv2 h2 ha c1 (fun S2 d1 d2 d3 d4 => ?_) hno (sK s) 0 S (by omega) (by omega) c2 c5 (fun _ j hj => by omega)
      rw [LI_eq ⟨by omega, by omega⟩ ⟨by omega, by omega⟩]
      refine ⟨fun z => ?_, fun z => ih S2 (n + 1) (by omega) d2 (by omega) (by omega) d3⟩
      subst z
      exact h S2 (Or.inr ⟨c1, c2, d4 rfl, c5⟩)
theorem q_firstSailing {post : Int64 → Prop} {s : MS} {u : XS} (hI : MI s) (hX : XR s u) {al v : Int} (hal : -300000 ≤ al) (hal2 : al ≤ 300000) (hv : 0 < v) (hv2 : v ≤ 10000) {a : Int} (ht : inTab s a) (h : ∀ f, ((f = lst s + 1 ∧ ∀ t, a ≤ t → t ≤ lst s → ¬ gd s al v t) ∨ FG s al v a f) → post (LI f)) : wX0_firstSailing post u (LI al) (LI v) (LI a) := by
  have lb := lst_b hI
  have el : lst s = sT s (sN s - 1) := if_pos ht.1
  have hl : a ≤ lst s := by have := ht.2.2; omega
  unfold wX0_firstSailing
  refine q_lastSecond hI hX ⟨(lst s - a).toNat + 1, ?_⟩
  rw [show (0 : Int32) = nI 0 by decide]
  exact q_fsOuter hI hX hal hal2 hv hv2 ht.1 ht.2.1 h _ a 0 (by omega) hl (by omega) (by omega) (fun t c1 c2 => by omega)
theorem q_lsLoop {post : Int64 → Prop} {s : MS} {u : XS} (hI : MI s) (hX : XR s u) {al v : Int} (hal : -300000 ≤ al) (hal2 : al ≤ 300000) (hv : 0 < v) (hv2 : v ≤ 10000) (h2 : 2 ≤ sN s) {f : Int} (hf0 : sT s 0 ≤ f) (hfl : f ≤ lst s) (hf : gd s al v f) (h : ∀ e, EG s al v f e → post (LI e)) :
    ∀ (d i : Nat) (E : Int), i + d = sK s → f ≤ E → E ≤ lst s → (∀ t, f ≤ t → t ≤ E → ∀ j, j < i → gd1 s al v t j) → (E < lst s → ∃ j, j < i ∧ ¬ gd1 s al v (E + 1) j) → wX0_lastSailing_L9 post u (LI al) (LI v) (LI f) (d + 1) (LI E) (nI i) := by
  have lb := lst_b hI
  have t0 := hI.2.2.2.1 0 (by omega)
  have k12 := hI.2.2.1
  intro d
  induction d with
  | zero =>
    intro i E c1 c2 c3 c4 c5
    have e : i = sK s := by omega
    subst e
    rw [wX0_lastSailing_L9, hX.2.2.1]
    refine ⟨fun _ => h E ⟨c2, c3, c4, fun z hg => ?_⟩, fun z => absurd ?_ z⟩
    · obtain ⟨j, hj, hn⟩ := c5 z
      exact hn (hg j hj)
    rw [nI_I, II_le ⟨by omega, by omega⟩ ⟨by omega, by omega⟩]; omega
  | succ d ih =>
    intro i E c1 c2 c3 c4 c5
    have hi : i < sK s := by omega
    obtain ⟨x1, x2⟩ := hX.2.2.2.2.2 i hi
    have bi := hI.2.2.2.2.2.2.2 i hi
    have bu := uw_b hI hv hv2 hi
    rw [wX0_lastSailing_L9, hX.2.2.1, nI_1 i]
    have ec : (nI i).toNatClampNeg = i := by rw [nI_I, II_cl ⟨by omega, by omega⟩]; omega
    have ev : vp_in (nI i) 12 := by rw [nI_I]; exact vp_II (by omega) (by omega) (by omega)
    rw [ec, x1, x2]
    refine ⟨fun z => ?_, fun _ => ⟨ev, q_secondsFor (by omega) (by omega) hv hv2 ⟨ev, ?_⟩⟩⟩
    · rw [nI_I, nI_I, II_le ⟨by omega, by omega⟩ ⟨by omega, by omega⟩] at z; omega
    rw [LI_sub, LI_add, show (0 : Int32) = rI false from rfl]
    rw [show upD (100 * sW s i) v = uw s v i from rfl]
    have hfi := hf i hi
    have hgi : ∀ t, gd1 s al v t i ↔ t + uw s v i ≤ lst s ∧ sat s (al - sB s i) true (t + uw s v i) := fun t => Iff.rfl
    rw [hgi] at hfi
    generalize hw : uw s v i = w at *
    obtain ⟨f1, f2⟩ := hfi
    refine q_nextSecond hI hX (by omega) (by omega) false h2 (by omega) (by omega) (fun g hg => ?_)
    obtain ⟨g1, g2, g3, g4⟩ := NX_ge hg (by omega)
    have g5 : ∀ x, f + w ≤ x → x < g → sat s (al - sB s i) true x := fun x d1 d2 => by
      have := g3 x d1 d2
      rw [sat_ft] at this
      exact Classical.not_not.mp this
    have g6 : f + w < g := by
      rcases Int.lt_or_le (f + w) g with y | y
      · exact y
      · have e : g = f + w := by omega
        subst e
        have := g4 (by omega)
        rw [sat_ft] at this
        exact absurd f2 this
    rw [L1, LI_sub, LI_sub]
    have elt : LI (g - 1 - w) < LI E ↔ g - 1 - w < E := LI_lt ⟨by omega, by omega⟩ ⟨by omega, by omega⟩
    have key : ∀ t, f ≤ t → t ≤ g - 1 - w → gd1 s al v t i := fun t d1 d2 => by
      rw [hgi]
      exact ⟨by omega, g5 (t + w) (by omega) (by omega)⟩
    by_cases c : g - 1 - w < E
    · rw [if_pos (elt.mpr c)]
      refine ih (i + 1) (g - 1 - w) (by omega) (by omega) (by omega) (fun t d1 d2 j hj => ?_) (fun z => ⟨i, by omega, ?_⟩)
      · rcases Nat.lt_or_ge j i with y | y
        · exact c4 t d1 (by omega) j y
        · rw [show j = i by omega]; exact key t d1 d2
      · rw [hgi, show g - 1 - w + 1 + w = g by omega]
        intro q
        have := g4 q.1
        rw [sat_ft] at this
        exact this q.2
    · rw [if_neg (fun q => c (elt.mp q))]
      refine ih (i + 1) E (by omega) (by omega) (by omega) (fun t d1 d2 j hj => ?_) (fun z => ?_)
      · rcases Nat.lt_or_ge j i with y | y
        · exact c4 t d1 (by omega) j y
        · rw [show j = i by omega]; exact key t d1 (by omega)
      · obtain ⟨j, hj, hn⟩ := c5 z
        exact ⟨j, by omega, hn⟩
theorem q_lastSailing {post : Int64 → Prop} {s : MS} {u : XS} (hI : MI s) (hX : XR s u) {al v : Int} (hal : -300000 ≤ al) (hal2 : al ≤ 300000) (hv : 0 < v) (hv2 : v ≤ 10000) (h2 : 2 ≤ sN s) {f : Int} (hf0 : sT s 0 ≤ f) (hfl : f ≤ lst s) (hf : gd s al v f) (h : ∀ e, EG s al v f e → post (LI e)) : wX0_lastSailing post u (LI al) (LI v) (LI f) := by
  unfold wX0_lastSailing
  refine q_lastSecond hI hX ⟨sK s + 1, ?_⟩
  rw [show (0 : Int32) = nI 0 by decide]
  exact q_lsLoop hI hX hal hal2 hv hv2 h2 hf0 hfl hf h (sK s) 0 (lst s) (by omega) hfl (by omega) (fun t c1 c2 j hj => by omega) (fun z => by omega)
/-- the reference's look at one second -/
theorem p_maySailLoop {post : Int32 → Prop} {s : MS} {y : YS} (hI : MI s) (hY : YR s y) {al v t : Int} (hal : -300000 ≤ al) (hal2 : al ≤ 300000) (hv : 0 < v) (hv2 : v ≤ 10000) (ht : inTab s t) (hy : gd s al v t → post 1) (hn : ¬ gd s al v t → post 0) :
    ∀ (d i : Nat), i + d = sK s → (∀ j, j < i → gd1 s al v t j) → wX1_maySail_L27 post y (II t) (LI v) (LI al) (d + 1) 1 (nI i) := by
  have lb := lst_b hI
  have k12 := hI.2.2.1
  obtain ⟨r1, r2⟩ := tab_r hI ht
  have h2 := ht.1
  have ht0 := ht.2.1
  have el : lst s = sT s (sN s - 1) := if_pos h2
  have stop : ¬ gd s al v t → ∀ (d i : Nat), wX1_maySail_L27 post y (II t) (LI v) (LI al) (d + 1) 0 (nI i) := fun z d i => by
    rw [wX1_maySail_L27]
    exact ⟨fun _ => hn z, fun _ => ⟨fun _ => hn z, fun w => absurd rfl w⟩⟩
  intro d
  induction d with
  | zero =>
    intro i c1 c2
    have e : i = sK s := by omega
    subst e
    rw [wX1_maySail_L27, hY.2.2.1]
    refine ⟨fun _ => hy c2, fun z => absurd ?_ z⟩
    rw [nI_I, II_le ⟨by omega, by omega⟩ ⟨by omega, by omega⟩]; omega
  | succ d ih =>
    intro i c1 c2
    have hi : i < sK s := by omega
    obtain ⟨x1, x2⟩ := hY.2.2.2.2.2.1 i hi
    have bi := hI.2.2.2.2.2.2.2 i hi
    have bu := uw_b hI hv hv2 hi
    rw [wX1_maySail_L27, hY.2.2.1, nI_1 i]
    have ec : (nI i).toNatClampNeg = i := by rw [nI_I, II_cl ⟨by omega, by omega⟩]; omega
    have ev : vp_in (nI i) 12 := by rw [nI_I]; exact vp_II (by omega) (by omega) (by omega)
    rw [ec, x1, x2, L100, LI_mul]
    refine ⟨fun z => ?_, fun _ => ⟨fun z => absurd z (by decide), fun _ => ⟨ev, q_up (by omega) (by omega) hv (by omega) ?_⟩⟩⟩
    · rw [nI_I, nI_I, II_le ⟨by omega, by omega⟩ ⟨by omega, by omega⟩] at z; omega
    rw [show upD (100 * sW s i) v = uw s v i from rfl, II_l ⟨by omega, by omega⟩, LI_add]
    have hgi : gd1 s al v t i ↔ t + uw s v i ≤ lst s ∧ sat s (al - sB s i) true (t + uw s v i) := Iff.rfl
    generalize hw : uw s v i = w at *
    refine p_isInTable hI hY ⟨by omega, by omega⟩ ?_
    rw [bI_0]
    refine ⟨fun z => stop (fun q => z ?_) d (i + 1), fun z => ⟨ev, ?_⟩⟩
    · exact lst_in h2 (by omega) (hgi.mp (q i hi)).1
    have hin := Decidable.not_not.mp z
    have hl : t + w ≤ lst s := by have := hin.2.2; omega
    refine p_isInTable hI hY ⟨by omega, by omega⟩ ?_
    rw [bI_0]
    refine ⟨fun z2 => absurd hin z2, fun _ => ?_⟩
    rw [LI_i]
    have hb1 := hgt_b hI hin
    refine p_heightAt hI hY hin ?_
    rw [LI_add, LI_lt ⟨by omega, by omega⟩ ⟨by omega, by omega⟩]
    refine ⟨fun q => stop (fun k => ?_) d (i + 1), fun q => ih (i + 1) (by omega) (fun j hj => ?_)⟩
    · have := (hgi.mp (k i hi)).2
      rw [sat_t] at this
      omega
    · rcases Nat.lt_or_ge j i with m | m
      · exact c2 j m
      · rw [show j = i by omega, hgi, sat_t]
        exact ⟨hl, by omega⟩
def allN (v n : Int) : Int := if 0 ≤ n then n + sqOf v n else n
theorem sqOf_b {v d : Int} (hv : 0 ≤ v) (hv2 : v ≤ 10000) (hd : 0 ≤ d) (hd2 : d ≤ 100000) : 0 ≤ sqOf v d ∧ sqOf v d ≤ 20000 := by
  have b := sqTh_b hv hv2
  have b1 : 0 ≤ d * sqTh v := Int.mul_nonneg hd b.1
  have b2 : d * sqTh v ≤ 100000 * 100 := Int.mul_le_mul hd2 b.2 b.1 (by omega)
  unfold sqOf upD
  rw [td_pos (by omega)]
  omega
theorem allN_b {v n : Int} (hv : 0 ≤ v) (hv2 : v ≤ 10000) (hn : -100000 ≤ n) (hn2 : n ≤ 100000) : -300000 ≤ allN v n ∧ allN v n ≤ 300000 := by
  unfold allN
  by_cases c : 0 ≤ n
  · rw [if_pos c]; have := sqOf_b hv hv2 c hn2; omega
  · rw [if_neg c]; omega
theorem p_maySail {post : Int32 → Prop} {s : MS} {y : YS} (hI : MI s) (hY : YR s y) {n v t : Int} (hn1 : -100000 ≤ n) (hn2 : n ≤ 100000) (hv : 0 < v) (hv2 : v ≤ 10000) (ht : inTab s t) (hy : gd s (allN v n) v t → post 1) (hn : ¬ gd s (allN v n) v t → post 0) : wX1_maySail post y (II t) (LI n) (LI v) := by
  have ab := allN_b (v := v) (by omega) hv2 hn1 hn2
  unfold wX1_maySail
  rw [L0, LI_le ⟨by omega, by omega⟩ ⟨by omega, by omega⟩]
  refine ⟨fun c => p_squatOf hY.2.2.2.2.2.2.2 (by omega) hv2 c hn2 ⟨sK s + 1, ?_⟩, fun c => ⟨sK s + 1, ?_⟩⟩
  · have e : allN v n = n + sqOf v n := if_pos c
    rw [LI_add, ← e]
    exact p_maySailLoop hI hY ab.1 ab.2 hv hv2 ht hy hn (sK s) 0 (by omega) (fun j hj => by omega)
  · have e : allN v n = n := if_neg c
    rw [e] at hy hn ab
    exact p_maySailLoop hI hY ab.1 ab.2 hv hv2 ht hy hn (sK s) 0 (by omega) (fun j hj => by omega)
def slOk (s : MS) (n v a sd : Int) : Prop := inTab s a ∧ (-100000 ≤ n ∧ n ≤ 100000) ∧ (0 ≤ v ∧ v ≤ 10000) ∧ 0 ≤ sd ∧ sd ≤ 1
theorem q_sailEnd {post : Int32 → XS → Prop} {s : MS} {u : XS} (hI : MI s) (hX : XR s u) {al v a sd : Int} (hal : -300000 ≤ al) (hal2 : al ≤ 300000) (hv : 0 < v) (hv2 : v ≤ 10000) (ht : inTab s a) (hs : bJ sd) (h : ∀ r, -1 ≤ r → r ≤ 20000 → SL s al v a sd r → post (II r) u) :
    wX0_firstSailing (fun r13 => (wX0_lastSecond (fun r14 => ((r13 ≤ r14 → ((II sd = 0 → (post (r13).toInt32 u)) ∧ (¬ II sd = 0 → (wX0_lastSailing (fun r17 => (post (r17).toInt32 u)) u (LI al) (LI v) r13)))) ∧ (¬ r13 ≤ r14 → (post (-1) u)))) u)) u (LI al) (LI v) (LI a) := by
  have lb := lst_b hI
  obtain ⟨r1, r2⟩ := tab_r hI ht
  refine q_firstSailing hI hX hal hal2 hv hv2 ht (fun f hf => q_lastSecond hI hX ?_)
  rcases hf with ⟨e, hno⟩ | hf
  · subst e
    rw [LI_le ⟨by omega, by omega⟩ ⟨by omega, by omega⟩]
    refine ⟨fun z => by omega, fun _ => ?_⟩
    rw [Im1]
    exact h (-1) (by omega) (by omega) (Or.inl ⟨hno, rfl⟩)
  · obtain ⟨f1, f2, f3, f4⟩ := hf
    have h0 := ht.2.1
    rw [LI_le ⟨by omega, by omega⟩ ⟨by omega, by omega⟩, I0, II_eq hs ⟨by omega, by omega⟩, LI_i]
    refine ⟨fun z => ⟨fun c => h f (by omega) (by omega) (Or.inr ⟨f, ⟨f1, f2, f3, f4⟩, Or.inl ⟨c, rfl⟩⟩), fun c => ?_⟩, fun z => absurd f2 z⟩
    refine q_lastSailing hI hX hal hal2 hv hv2 ht.1 (by omega) f2 f3 (fun e he => ?_)
    rw [LI_i]
    exact h e (by have := he.1; omega) (by have := he.2.1; omega) (Or.inr ⟨f, ⟨f1, f2, f3, f4⟩, Or.inr ⟨c, he⟩⟩)
theorem q_sail {post : Int32 → XS → Prop} {thr : Nat → Prop} {s : MS} {u : XS} (hI : MI s) (hX : XR s u) {n v a sd : Int} (hn : bL n) (hv : bL v) (ha : bL a) (hs : bJ sd)
    (h0 : ¬ slOk s n v a sd → thr 0) (h1 : slOk s n v a sd → sK s = 0 → thr 1) (h2 : slOk s n v a sd → sK s ≠ 0 → v = 0 → thr 2) (h3 : slOk s n v a sd → sK s ≠ 0 → v ≠ 0 → ∀ r, -1 ≤ r → r ≤ 20000 → SL s (allN v n) v a sd r → post (II r) u) : wX0_sail post thr u (LI n) (LI v) (LI a) (II sd) := by
  unfold wX0_sail
  refine q_isInTable hI hX ha ?_
  rw [bI_0]
  refine ⟨fun c => h0 (fun z => c z.1), fun c => ?_⟩
  have ht := Decidable.not_not.mp c
  refine q_isLevel hn ?_
  rw [bI_0]
  refine ⟨fun c => h0 (fun z => c z.2.1), fun c => ?_⟩
  have htn := Decidable.not_not.mp c
  rw [L0, L10000, L1]
  refine q_isWithin hv ⟨by omega, by omega⟩ ⟨by omega, by omega⟩ ?_
  rw [bI_0]
  refine ⟨fun c => h0 (fun z => c z.2.2.1), fun c => ?_⟩
  have htv := Decidable.not_not.mp c
  rw [II_l hs]
  refine q_isWithin ⟨by have := hs.1; omega, by have := hs.2; omega⟩ ⟨by omega, by omega⟩ ⟨by omega, by omega⟩ ?_
  rw [bI_0]
  refine ⟨fun c => h0 (fun z => c z.2.2.2), fun c => ?_⟩
  have hts := Decidable.not_not.mp c
  have ok : slOk s n v a sd := ⟨ht, htn, htv, hts⟩
  have k12 := hI.2.2.1
  rw [hX.2.2.1]
  refine ⟨fun c => h1 ok ?_, fun c => ⟨fun d => h2 ok ?_ ?_, fun d => ?_⟩⟩
  · rw [nI_I, I0, II_eq ⟨by omega, by omega⟩ ⟨by omega, by omega⟩] at c; omega
  · rw [nI_I, I0, II_eq ⟨by omega, by omega⟩ ⟨by omega, by omega⟩] at c; omega
  · rw [LI_eq hv ⟨by omega, by omega⟩] at d; exact d
  rw [nI_I, I0, II_eq ⟨by omega, by omega⟩ ⟨by omega, by omega⟩] at c
  rw [LI_eq hv ⟨by omega, by omega⟩] at d
  have h := h3 ok (by omega) d
  have ab := allN_b htv.1 htv.2 htn.1 htn.2
  rw [LI_le ⟨by omega, by omega⟩ hn]
  refine ⟨fun z => q_squatOf htv.1 htv.2 z htn.2 ?_, fun z => ?_⟩
  · have e : allN v n = n + sqOf v n := if_pos z
    rw [LI_add, ← e]
    exact q_sailEnd hI hX ab.1 ab.2 (by omega) htv.2 ht hs h
  · have e : allN v n = n := if_neg z
    rw [e] at ab h
    exact q_sailEnd hI hX ab.1 ab.2 (by omega) htv.2 ht hs h
theorem p_sail2 {post : Int32 → YS → Prop} {s : MS} {y : YS} (hI : MI s) (hY : YR s y) {n v f sd a : Int} (hn1 : -100000 ≤ n) (hn2 : n ≤ 100000) (hv : 0 < v) (hv2 : v ≤ 10000) (h2 : 2 ≤ sN s) (ha : sT s 0 ≤ a) (hsd : sd ≠ 0) (hf : FG s (allN v n) v a f) (h : ∀ r, -1 ≤ r → r ≤ 20000 → SL s (allN v n) v a sd r → post (II r) y) :
    ∀ (d : Nat) (t : Int), f ≤ t → t ≤ lst s → lst s - t ≤ d → (∀ x, f ≤ x → x ≤ t → gd s (allN v n) v x) → wX1_sail_L148 post y (LI n) (LI v) (II (lst s)) (d + 1) (II t) := by
  have lb := lst_b hI
  have t0 := hI.2.2.2.1 0 (by omega)
  have f0 := hf.1
  intro d
  induction d with
  | zero =>
    intro t c1 c2 c3 c4
    rw [wX1_sail_L148, II_le ⟨by omega, by omega⟩ ⟨by omega, by omega⟩]
    exact ⟨fun _ => h t (by omega) (by omega) (Or.inr ⟨f, hf, Or.inr ⟨hsd, c1, c2, c4, fun z => by omega⟩⟩), fun z => by omega⟩
  | succ d ih =>
    intro t c1 c2 c3 c4
    rw [wX1_sail_L148, II_le ⟨by omega, by omega⟩ ⟨by omega, by omega⟩, I1, II_add]
    refine ⟨fun _ => h t (by omega) (by omega) (Or.inr ⟨f, hf, Or.inr ⟨hsd, c1, c2, c4, fun z => by omega⟩⟩), fun z => ?_⟩
    refine p_maySail hI hY hn1 hn2 hv hv2 (lst_in h2 (by omega) (by omega)) (fun g => ⟨fun w => absurd w (by decide), fun _ => ?_⟩) (fun g => ⟨fun _ => ?_, fun w => absurd rfl w⟩)
    · refine ih (t + 1) (by omega) (by omega) (by omega) (fun x d1 d2 => ?_)
      rcases Int.lt_or_le t x with w | w
      · rw [show x = t + 1 by omega]; exact g
      · exact c4 x d1 w
    · exact h t (by omega) (by omega) (Or.inr ⟨f, hf, Or.inr ⟨hsd, c1, c2, c4, fun _ => g⟩⟩)
theorem p_sail1 {post : Int32 → YS → Prop} {s : MS} {y : YS} (hI : MI s) (hY : YR s y) {n v sd a : Int} (hn1 : -100000 ≤ n) (hn2 : n ≤ 100000) (hv : 0 < v) (hv2 : v ≤ 10000) (h2 : 2 ≤ sN s) (ha : sT s 0 ≤ a) (hs : bJ sd) (h : ∀ r, -1 ≤ r → r ≤ 20000 → SL s (allN v n) v a sd r → post (II r) y) :
    ∀ (d : Nat) (t : Int), a ≤ t → t ≤ lst s + 1 → lst s + 1 - t ≤ d → (∀ x, a ≤ x → x < t → ¬ gd s (allN v n) v x) → wX1_sail_L107 post y (LI n) (LI v) (II sd) (II (lst s)) (d + 1) (II t) := by
  have lb := lst_b hI
  have t0 := hI.2.2.2.1 0 (by omega)
  intro d
  induction d with
  | zero =>
    intro t c1 c2 c3 c4
    rw [wX1_sail_L107, II_lt ⟨by omega, by omega⟩ ⟨by omega, by omega⟩, II_le ⟨by omega, by omega⟩ ⟨by omega, by omega⟩]
    refine ⟨fun _ => ⟨fun z => by omega, fun _ => ?_⟩, fun z => by omega⟩
    rw [Im1]
    exact h (-1) (by omega) (by omega) (Or.inl ⟨fun x d1 d2 => c4 x d1 (by omega), rfl⟩)
  | succ d ih =>
    intro t c1 c2 c3 c4
    rw [wX1_sail_L107, II_lt ⟨by omega, by omega⟩ ⟨by omega, by omega⟩, II_le ⟨by omega, by omega⟩ ⟨by omega, by omega⟩]
    refine ⟨fun _ => ⟨fun z => by omega, fun _ => ?_⟩, fun z => ?_⟩
    · rw [Im1]
      exact h (-1) (by omega) (by omega) (Or.inl ⟨fun x d1 d2 => c4 x d1 (by omega), rfl⟩)
    refine p_maySail hI hY hn1 hn2 hv hv2 (lst_in h2 (by omega) (by omega)) (fun g => ⟨fun w => absurd w (by decide), fun _ => ⟨fun _ => ?_, fun w => by omega⟩⟩) (fun g => ⟨fun _ => ?_, fun w => absurd rfl w⟩)
    · have hf : FG s (allN v n) v a t := ⟨c1, by omega, g, c4⟩
      rw [I0, II_eq hs ⟨by omega, by omega⟩]
      refine ⟨fun w => h t (by omega) (by omega) (Or.inr ⟨t, hf, Or.inl ⟨w, rfl⟩⟩), fun w => ⟨(lst s - t).toNat + 1, ?_⟩⟩
      exact p_sail2 hI hY hn1 hn2 hv hv2 h2 ha w hf h _ t (by omega) (by omega) (by omega) (fun x d1 d2 => by rw [show x = t by omega]; exact g)
    · rw [I1, II_add]
      refine ih (t + 1) (by omega) (by omega) (by omega) (fun x d1 d2 => ?_)
      rcases Int.lt_or_le x t with w | w
      · exact c4 x d1 w
      · rw [show x = t by omega]; exact g
theorem p_sail {post : Int32 → YS → Prop} {s : MS} {y : YS} (hI : MI s) (hY : YR s y) {n v a sd : Int} (hn : bL n) (hv : bL v) (ha : bL a) (hs : bJ sd)
    (h0 : ¬ slOk s n v a sd → post 0 (yTh 1 y)) (h1 : slOk s n v a sd → sK s = 0 → post 0 (yTh 2 y)) (h2 : slOk s n v a sd → sK s ≠ 0 → v = 0 → post 0 (yTh 3 y)) (h3 : slOk s n v a sd → sK s ≠ 0 → v ≠ 0 → ∀ r, -1 ≤ r → r ≤ 20000 → SL s (allN v n) v a sd r → post (II r) (yTh 0 y)) : wX1_sail post y (LI n) (LI v) (LI a) (II sd) := by
  have lb := lst_b hI
  unfold wX1_sail
  refine p_isInTable hI hY ha ?_
  rw [bI_0]
  refine ⟨fun c => h0 (fun z => c z.1), fun c => ?_⟩
  have ht := Decidable.not_not.mp c
  refine q_isHeight hn ?_
  rw [bI_0]
  refine ⟨fun c => h0 (fun z => c z.2.1), fun c => ?_⟩
  have htn := Decidable.not_not.mp c
  rw [L0, L10000]
  refine q_in hv ⟨by omega, by omega⟩ ⟨by omega, by omega⟩ ?_
  rw [bI_0]
  refine ⟨fun c => h0 (fun z => c z.2.2.1), fun c => ?_⟩
  have htv := Decidable.not_not.mp c
  refine ⟨fun c => h0 (fun z => ?_), fun c => ⟨fun d => h0 (fun z => ?_), fun d => ?_⟩⟩
  · rw [I0, II_lt hs ⟨by omega, by omega⟩] at c; have := z.2.2.2; omega
  · rw [I2, II_le ⟨by omega, by omega⟩ hs] at d; have := z.2.2.2; omega
  rw [I0, II_lt hs ⟨by omega, by omega⟩] at c
  rw [I2, II_le ⟨by omega, by omega⟩ hs] at d
  have ok : slOk s n v a sd := ⟨ht, htn, htv, by omega, by omega⟩
  have k12 := hI.2.2.1
  refine ⟨fun e => h1 ok ?_, fun e => ⟨fun g => h2 ok ?_ ?_, fun g => ?_⟩⟩
  · rw [hY.2.2.1, nI_I, I0, II_eq ⟨by omega, by omega⟩ ⟨by omega, by omega⟩] at e; omega
  · rw [hY.2.2.1, nI_I, I0, II_eq ⟨by omega, by omega⟩ ⟨by omega, by omega⟩] at e; omega
  · rw [LI_eq hv ⟨by omega, by omega⟩] at g; exact g
  rw [hY.2.2.1, nI_I, I0, II_eq ⟨by omega, by omega⟩ ⟨by omega, by omega⟩] at e
  rw [LI_eq hv ⟨by omega, by omega⟩] at g
  have h := h3 ok (by omega) g
  have h2 := ht.1
  have n40 := hI.1
  have el : lst s = sT s (sN s - 1) := if_pos h2
  have e0 := (hY.2.2.2.1 (sN s - 1) (by omega)).1
  have hal : a ≤ lst s := by have := ht.2.2; omega
  rw [← el] at e0
  have en : (yNT y - 1).toNatClampNeg = sN s - 1 := by rw [hY.1, nI_I, I1, II_sub, II_cl ⟨by omega, by omega⟩]; omega
  rw [en, e0, LI_i]
  refine ⟨by rw [hY.1, nI_I, I1, II_sub]; exact vp_II (by omega) (by omega) (by omega), (lst s + 1 - a).toNat + 1, ?_⟩
  exact p_sail1 hI (YR_th 0 hY) htn.1 htn.2 (by omega) htv.2 h2 ht.2.1 hs h _ a (by omega) (by omega) (by omega) (fun x d1 d2 => by omega)
