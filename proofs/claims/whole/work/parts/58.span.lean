/-! spans -/
def blk (s : MS) (lv p n : Int) : Prop := ∀ x, p ≤ x → x < p + n → sat s lv true x
/-- of the blocks within [a, b) none is longer than L; the first of that length begins at p -/
def LB (s : MS) (lv a b L p : Int) : Prop := 1 ≤ L ∧ a ≤ p ∧ p + L ≤ b ∧ blk s lv p L ∧ (∀ q n, a ≤ q → q + n ≤ b → blk s lv q n → n ≤ L) ∧ (∀ q, a ≤ q → q < p → q + L ≤ b → ¬ blk s lv q L)
theorem LB_uniq {s : MS} {lv a b L p L2 p2 : Int} (h : LB s lv a b L p) (h2 : LB s lv a b L2 p2) : L = L2 ∧ p = p2 := by
  obtain ⟨a1, a2, a3, a4, a5, a6⟩ := h
  obtain ⟨b1, b2, b3, b4, b5, b6⟩ := h2
  have e1 := a5 p2 L2 b2 b3 b4
  have e2 := b5 p L a2 a3 a4
  have e : L = L2 := by omega
  subst e
  refine ⟨rfl, ?_⟩
  rcases Int.lt_trichotomy p p2 with z | z | z
  · exact absurd a4 (b6 p a2 z a3)
  · exact z
  · exact absurd b4 (a6 p2 b2 z b3)
/-- what a span's question is answered, b the second behind the table's last -/
def SP (s : MS) (lv a : Int) (side r : Int) : Prop :=
  ((∀ x, a ≤ x → x ≤ lst s → ¬ sat s lv true x) ∧ r = -1) ∨
  (∃ f e, a ≤ f ∧ f ≤ e ∧ e ≤ lst s ∧ (∀ x, a ≤ x → x < f → ¬ sat s lv true x) ∧ (∀ x, f ≤ x → x ≤ e → sat s lv true x) ∧ (e < lst s → ¬ sat s lv true (e + 1)) ∧
    ∃ L p, LB s lv a (lst s + 1) L p ∧ ((side = 0 ∧ r = f) ∨ (side = 1 ∧ r = e) ∨ (side = 2 ∧ r = p) ∨ (side = 3 ∧ r = p + L - 1)))
theorem SP_uniq {s : MS} {lv a side r r2 : Int} (h : SP s lv a side r) (h2 : SP s lv a side r2) : r = r2 := by
  rcases h with ⟨h, rfl⟩ | ⟨f, e, a1, a2, a3, a4, a5, a6, L, p, a7, a8⟩
  · rcases h2 with ⟨g, rfl⟩ | ⟨f, e, a1, a2, a3, a4, a5, a6, L, p, a7, a8⟩
    · rfl
    · exact absurd (a5 f (by omega) (by omega)) (h f (by omega) (by omega))
  · rcases h2 with ⟨g, rfl⟩ | ⟨f2, e2, b1, b2, b3, b4, b5, b6, L2, p2, b7, b8⟩
    · exact absurd (a5 f (by omega) (by omega)) (g f (by omega) (by omega))
    · obtain ⟨u1, u2⟩ := LB_uniq a7 b7
      have ef : f = f2 := by
        rcases Int.lt_trichotomy f f2 with z | z | z
        · exact absurd (a5 f (by omega) (by omega)) (b4 f (by omega) z)
        · exact z
        · exact absurd (b5 f2 (by omega) (by omega)) (a4 f2 (by omega) z)
      have ee : e = e2 := by
        rcases Int.lt_trichotomy e e2 with z | z | z
        · exact absurd (b5 (e + 1) (by omega) (by omega)) (a6 (by omega))
        · exact z
        · exact absurd (a5 (e2 + 1) (by omega) (by omega)) (b6 (by omega))
      omega
theorem LB_cut {s : MS} {lv a b c L p : Int} (h : LB s lv a b L p) (hbc : b ≤ c) (hn : ∀ x, b ≤ x → x < c → ¬ sat s lv true x) : LB s lv a c L p := by
  obtain ⟨h1, h2, h3, h4, h5, h6⟩ := h
  have cut : ∀ q n, a ≤ q → q + n ≤ c → 1 ≤ n → blk s lv q n → q + n ≤ b := fun q n d1 d2 d3 d4 => by
    rcases Int.lt_or_le b (q + n) with z | z
    · exfalso
      rcases Int.lt_or_le q b with y | y
      · exact hn b (by omega) (by omega) (d4 b (by omega) (by omega))
      · exact hn q (by omega) (by omega) (d4 q (by omega) (by omega))
    · exact z
  refine ⟨h1, h2, by omega, h4, fun q n d1 d2 d3 => ?_, fun q d1 d2 d3 d4 => h6 q d1 d2 (by omega) d4⟩
  rcases Int.lt_or_le n 1 with z | z
  · omega
  · exact h5 q n d1 (cut q n d1 d2 z d3) d3
/-- a span [f, g) more, apart from what came before -/
theorem LB_add {s : MS} {lv a f g L p : Int} (haf : a ≤ f) (hfg : f < g) (hb : ∀ x, f ≤ x → x < g → sat s lv true x) (hst : f = a ∨ ¬ sat s lv true (f - 1)) (h : (L = 0 ∧ ∀ x, a ≤ x → x < f → ¬ sat s lv true x) ∨ LB s lv a f L p) : LB s lv a g (if L < g - f then g - f else L) (if L < g - f then f else p) := by
  have part : ∀ q n, a ≤ q → q + n ≤ g → 1 ≤ n → blk s lv q n → q + n ≤ f ∨ f ≤ q := fun q n d1 d2 d3 d4 => by
    rcases Int.lt_or_le q f with z | z
    · rcases Int.lt_or_le f (q + n) with y | y
      · exfalso
        rcases hst with e | e
        · omega
        · exact e (d4 (f - 1) (by omega) (by omega))
      · exact Or.inl y
    · exact Or.inr z
  have hL : 0 ≤ L := by
    rcases h with ⟨h, -⟩ | h
    · omega
    · have := h.1; omega
  have old : ∀ q n, a ≤ q → q + n ≤ f → blk s lv q n → n ≤ L := fun q n d1 d2 d3 => by
    rcases h with ⟨h, hno⟩ | h
    · rcases Int.lt_or_le n 1 with z | z
      · omega
      · exact absurd (d3 q (by omega) (by omega)) (hno q d1 (by omega))
    · exact h.2.2.2.2.1 q n d1 d2 d3
  by_cases c : L < g - f
  · rw [if_pos c, if_pos c]
    refine ⟨by omega, haf, by omega, fun x d1 d2 => hb x d1 (by omega), fun q n d1 d2 d3 => ?_, fun q d1 d2 d3 d4 => ?_⟩
    · rcases Int.lt_or_le n 1 with z | z
      · omega
      · rcases part q n d1 d2 z d3 with y | y
        · have := old q n d1 y d3; omega
        · omega
    · rcases part q (g - f) d1 (by omega) (by omega) d4 with y | y
      · have := old q (g - f) d1 y d4; omega
      · omega
  · rw [if_neg c, if_neg c]
    rcases h with ⟨h, hno⟩ | h
    · omega
    · obtain ⟨h1, h2, h3, h4, h5, h6⟩ := h
      refine ⟨h1, h2, by omega, h4, fun q n d1 d2 d3 => ?_, fun q d1 d2 d3 d4 => ?_⟩
      · rcases Int.lt_or_le n 1 with z | z
        · omega
        · rcases part q n d1 d2 z d3 with y | y
          · exact old q n d1 y d3
          · omega
      · rcases part q L d1 (by omega) (by omega) d4 with y | y
        · exact h6 q d1 d2 y d4
        · omega
theorem rI_t : rI true = 1 := rfl
theorem rI_f : rI false = 0 := rfl
theorem q_longestLoop {post : Int64 → Prop} {s : MS} {u : XS} (hI : MI s) (hX : XR s u) {lv : Int} (hv : -1000000 ≤ lv) (hv2 : lv ≤ 1000000) (h2 : 2 ≤ sN s) {a : Int} (ha : sT s 0 ≤ a) (hal : a ≤ lst s) (h : ∀ P, ((P = lst s + 1 ∧ ∀ x, a ≤ x → x ≤ lst s → ¬ sat s lv true x) ∨ ∃ G, LB s lv a (lst s + 1) G P) → post (LI P)) :
    ∀ (d : Nat) (P G f : Int) (n : Nat), a ≤ f → f ≤ lst s + 1 → lst s + 1 - f ≤ d → (n : Int) ≤ f - a → 0 ≤ G → G ≤ 30000 → 0 ≤ P → P ≤ 30000 → (f ≤ lst s → sat s lv true f ∧ (f = a ∨ ¬ sat s lv true (f - 1))) → ((G = 0 ∧ P = lst s + 1 ∧ ∀ x, a ≤ x → x < f → ¬ sat s lv true x) ∨ LB s lv a f G P) → wX0_longestSpan_L27 post u (LI lv) (LI (lst s)) (d + 1) (LI P) (LI G) (LI f) (nI n) := by
  have lb := lst_b hI
  have t0 := hI.2.2.2.1 0 (by omega)
  have fin : ∀ (P G f : Int), lst s < f → f ≤ lst s + 1 → ((G = 0 ∧ P = lst s + 1 ∧ ∀ x, a ≤ x → x < f → ¬ sat s lv true x) ∨ LB s lv a f G P) → post (LI P) := fun P G f c1 c2 c3 => by
    have e : f = lst s + 1 := by omega
    subst e
    rcases c3 with ⟨-, e, hn⟩ | c3
    · exact h P (Or.inl ⟨e, fun x d1 d2 => hn x d1 (by omega)⟩)
    · exact h P (Or.inr ⟨G, c3⟩)
  intro d
  induction d with
  | zero =>
    intro P G f n c1 c2 c3 c4 c5 c6 c7 c8 c9 c10
    rw [wX0_longestSpan_L27]
    refine ⟨fun _ => fin P G f (by omega) c2 c10, fun _ => ⟨fun _ => fin P G f (by omega) c2 c10, fun z => absurd ?_ z⟩⟩
    rw [LI_lt ⟨by omega, by omega⟩ ⟨by omega, by omega⟩]; omega
  | succ d ih =>
    intro P G f n c1 c2 c3 c4 c5 c6 c7 c8 c9 c10
    rw [wX0_longestSpan_L27]
    have e1 : nI n + 1 = nI (n + 1) := nI_1 n
    rw [e1, LI_lt ⟨by omega, by omega⟩ ⟨by omega, by omega⟩]
    refine ⟨fun z => ?_, fun _ => ⟨fun z => fin P G f z c2 c10, fun z => ?_⟩⟩
    · rw [I20000, nI_I, II_lt ⟨by omega, by omega⟩ ⟨by omega, by omega⟩] at z
      exact fin P G f (by omega) c2 c10
    · obtain ⟨c11, c12⟩ := c9 (by omega)
      rw [show (0 : Int32) = rI false from rfl, show (1 : Int32) = rI true from rfl]
      refine q_nextSecond hI hX hv hv2 false h2 (by omega) (by omega) (fun g hg => ?_)
      obtain ⟨g1, g2, g3, g4⟩ := NX_ge hg (by omega)
      have g5 : ∀ x, f ≤ x → x < g → sat s lv true x := fun x d1 d2 => by
        have := g3 x d1 d2
        rw [sat_ft] at this
        exact Classical.not_not.mp this
      have g6 : f < g := by
        rcases Int.lt_or_le f g with y | y
        · exact y
        · have e : g = f := by omega
          subst e
          have := g4 (by omega)
          rw [sat_ft] at this
          exact absurd c11 this
      have nx : ∀ f2, NX s lv true g f2 → wX0_longestSpan_L27 post u (LI lv) (LI (lst s)) (d + 1) (LI (if G < g - f then f else P)) (LI (if G < g - f then g - f else G)) (LI f2) (nI (n + 1)) := fun f2 hf2 => by
        obtain ⟨k1, k2, k3, k4⟩ := NX_ge hf2 (by omega)
        have hLB := LB_cut (LB_add (p := P) c1 g6 g5 c12 (c10.imp (fun w => ⟨w.1, w.2.2⟩) id)) k1 k3
        refine ih _ _ f2 (n + 1) (by omega) k2 (by omega) (by omega) (by split <;> omega) (by split <;> omega) (by split <;> omega) (by split <;> omega) (fun y => ⟨k4 y, Or.inr ?_⟩) (Or.inr hLB)
        rcases Int.lt_or_le g f2 with w | w
        · exact k3 (f2 - 1) (by omega) (by omega)
        · exfalso
          have e : f2 = g := by omega
          subst e
          have q1 := g4 y
          rw [sat_ft] at q1
          exact q1 (k4 y)
      rw [LI_sub, LI_le ⟨by omega, by omega⟩ ⟨by omega, by omega⟩]
      refine ⟨fun y => ?_, fun y => ?_⟩
      · refine q_nextSecond hI hX hv hv2 true h2 (by omega) (by omega) (fun f2 hf2 => ?_)
        have q := nx f2 hf2
        rw [if_neg (by omega), if_neg (by omega)] at q
        exact q
      · refine q_nextSecond hI hX hv hv2 true h2 (by omega) (by omega) (fun f2 hf2 => ?_)
        have q := nx f2 hf2
        rw [if_pos (by omega), if_pos (by omega)] at q
        exact q
theorem q_longestSpan {post : Int64 → Prop} {s : MS} {u : XS} (hI : MI s) (hX : XR s u) {lv : Int} (hv : -1000000 ≤ lv) (hv2 : lv ≤ 1000000) {a : Int} (ht : inTab s a) (h : ∀ P, ((P = lst s + 1 ∧ ∀ x, a ≤ x → x ≤ lst s → ¬ sat s lv true x) ∨ ∃ G, LB s lv a (lst s + 1) G P) → post (LI P)) : wX0_longestSpan post u (LI lv) (LI a) := by
  have lb := lst_b hI
  have h2 := ht.1
  have t0 := hI.2.2.2.1 0 (by omega)
  have el : lst s = sT s (sN s - 1) := if_pos h2
  have hal : a ≤ lst s := by have := ht.2.2; omega
  have ha := ht.2.1
  unfold wX0_longestSpan
  refine q_lastSecond hI hX ?_
  rw [show (1 : Int32) = rI true from rfl]
  refine q_nextSecond hI hX hv hv2 true h2 ha (by omega) (fun f hf => ?_)
  obtain ⟨k1, k2, k3, k4⟩ := NX_ge hf (by omega)
  refine ⟨(lst s + 1 - f).toNat + 1, ?_⟩
  rw [L1, LI_add, show (0 : Int32) = nI 0 by decide, L0]
  refine q_longestLoop hI hX hv hv2 h2 ha hal h _ _ _ f 0 k1 k2 (by omega) (by omega) (by omega) (by omega) (by omega) (by omega) (fun y => ⟨k4 y, ?_⟩) (Or.inl ⟨rfl, rfl, k3⟩)
  rcases Int.lt_or_le a f with w | w
  · exact Or.inr (k3 (f - 1) (by omega) (by omega))
  · exact Or.inl (by omega)
