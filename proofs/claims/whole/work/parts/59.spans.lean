/-! span, class and reference -/
theorem L3 : (3 : Int64) = LI 3 := by decide
abbrev yTh (k : Int32) (y : YS) : YS := (k, (yNT y), (yNO y), (yNP y), (yT y), (yH y), (yO y), (yD y), (yW y), (yB y), (yC y), (yQ y))
theorem YR_th {s : MS} {y : YS} (k : Int32) (h : YR s y) : YR s (yTh k y) := h
def FS (s : MS) (lv a f : Int) : Prop := a ≤ f ∧ f ≤ lst s ∧ sat s lv true f ∧ ∀ x, a ≤ x → x < f → ¬ sat s lv true x
def ES (s : MS) (lv f e : Int) : Prop := f ≤ e ∧ e ≤ lst s ∧ (∀ x, f ≤ x → x ≤ e → sat s lv true x) ∧ (e < lst s → ¬ sat s lv true (e + 1))
def SQ (s : MS) (lv a side r : Int) : Prop :=
  ((∀ x, a ≤ x → x ≤ lst s → ¬ sat s lv true x) ∧ r = -1) ∨ (side = 0 ∧ FS s lv a r) ∨ (side = 1 ∧ ∃ f, FS s lv a f ∧ ES s lv f r) ∨ (side = 2 ∧ ∃ L, LB s lv a (lst s + 1) L r) ∨ (side = 3 ∧ ∃ L p, LB s lv a (lst s + 1) L p ∧ r = p + L - 1)
theorem FS_uniq {s : MS} {lv a f g : Int} (h : FS s lv a f) (h2 : FS s lv a g) : f = g := by
  obtain ⟨a1, a2, a3, a4⟩ := h
  obtain ⟨b1, b2, b3, b4⟩ := h2
  rcases Int.lt_trichotomy f g with z | z | z
  · exact absurd a3 (b4 f a1 z)
  · exact z
  · exact absurd b3 (a4 g b1 z)
theorem ES_uniq {s : MS} {lv f e g : Int} (h : ES s lv f e) (h2 : ES s lv f g) : e = g := by
  obtain ⟨a1, a2, a3, a4⟩ := h
  obtain ⟨b1, b2, b3, b4⟩ := h2
  rcases Int.lt_trichotomy e g with z | z | z
  · exact absurd (b3 (e + 1) (by omega) (by omega)) (a4 (by omega))
  · exact z
  · exact absurd (a3 (g + 1) (by omega) (by omega)) (b4 (by omega))
theorem LB_sat {s : MS} {lv a b L p : Int} (h : LB s lv a b L p) : a ≤ p ∧ p < b ∧ sat s lv true p := by
  obtain ⟨a1, a2, a3, a4, a5, a6⟩ := h
  exact ⟨a2, by omega, a4 p (by omega) (by omega)⟩
theorem SQ_no {s : MS} {lv a side r : Int} (hn : ∀ x, a ≤ x → x ≤ lst s → ¬ sat s lv true x) (h : SQ s lv a side r) : r = -1 := by
  rcases h with ⟨-, h⟩ | ⟨-, h⟩ | ⟨-, f, h, -⟩ | ⟨-, L, h⟩ | ⟨-, L, p, h, -⟩
  · exact h
  · exact absurd h.2.2.1 (hn _ h.1 h.2.1)
  · exact absurd h.2.2.1 (hn _ h.1 h.2.1)
  · obtain ⟨c1, c2, c3⟩ := LB_sat h; exact absurd c3 (hn _ c1 (by omega))
  · obtain ⟨c1, c2, c3⟩ := LB_sat h; exact absurd c3 (hn _ c1 (by omega))
theorem SQ_uniq {s : MS} {lv a side r r2 : Int} (h : SQ s lv a side r) (h2 : SQ s lv a side r2) : r = r2 := by
  rcases h with ⟨h, e⟩ | h
  · rw [SQ_no h h2, e]
  rcases h2 with ⟨k, e⟩ | h2
  · rw [SQ_no k (Or.inr h), e]
  rcases h with ⟨z, h⟩ | ⟨z, f, h, g⟩ | ⟨z, L, h⟩ | ⟨z, L, p, h, g⟩
  · rcases h2 with ⟨z2, h2⟩ | ⟨z2, f2, h2, g2⟩ | ⟨z2, L2, h2⟩ | ⟨z2, L2, p2, h2, g2⟩
    · exact FS_uniq h h2
    · omega
    · omega
    · omega
  · rcases h2 with ⟨z2, h2⟩ | ⟨z2, f2, h2, g2⟩ | ⟨z2, L2, h2⟩ | ⟨z2, L2, p2, h2, g2⟩
    · omega
    · have e := FS_uniq h h2
      subst e
      exact ES_uniq g g2
    · omega
    · omega
  · rcases h2 with ⟨z2, h2⟩ | ⟨z2, f2, h2, g2⟩ | ⟨z2, L2, h2⟩ | ⟨z2, L2, p2, h2, g2⟩
    · omega
    · omega
    · exact (LB_uniq h h2).2
    · omega
  · rcases h2 with ⟨z2, h2⟩ | ⟨z2, f2, h2, g2⟩ | ⟨z2, L2, h2⟩ | ⟨z2, L2, p2, h2, g2⟩
    · omega
    · omega
    · omega
    · have := LB_uniq h h2; omega
/-- what a span's question must be for an answer -/
def spOk (s : MS) (b n a sd : Int) : Prop := inTab s a ∧ (-100000 ≤ b ∧ b ≤ 100000) ∧ (-100000 ≤ n ∧ n ≤ 100000) ∧ 0 ≤ sd ∧ sd ≤ 3
theorem q_span {post : Int32 → XS → Prop} {thr : Nat → Prop} {s : MS} {u : XS} (hI : MI s) (hX : XR s u) {b n a sd : Int} (hb : bL b) (hn : bL n) (ha : bL a) (hs : bJ sd)
    (h0 : ¬ spOk s b n a sd → thr 0) (h1 : spOk s b n a sd → ∀ r, -1 ≤ r → r ≤ 20000 → SQ s (n - b) a sd r → post (II r) u) : wX0_span post thr u (LI b) (LI n) (LI a) (II sd) := by
  have lb := lst_b hI
  unfold wX0_span
  refine q_isInTable hI hX ha ?_
  rw [bI_0]
  refine ⟨fun c => h0 (fun z => c z.1), fun c => ?_⟩
  have ht := Decidable.not_not.mp c
  refine q_isLevel hb ?_
  rw [bI_0]
  refine ⟨fun c => h0 (fun z => c z.2.1), fun c => ?_⟩
  have htb := Decidable.not_not.mp c
  refine q_isLevel hn ?_
  rw [bI_0]
  refine ⟨fun c => h0 (fun z => c z.2.2.1), fun c => ?_⟩
  have htn := Decidable.not_not.mp c
  rw [II_l hs, L0, L3]
  refine q_isWithin ⟨by have := hs.1; omega, by have := hs.2; omega⟩ ⟨by omega, by omega⟩ ⟨by omega, by omega⟩ ?_
  rw [bI_0]
  refine ⟨fun c => h0 (fun z => c z.2.2.2), fun c => ?_⟩
  have hts := Decidable.not_not.mp c
  have h := h1 ⟨ht, htb, htn, hts⟩
  clear h0 h1 c
  have h2 := ht.1
  have hta := ht.2.1
  have t0 := hI.2.2.2.1 0 (by omega)
  have el : lst s = sT s (sN s - 1) := if_pos h2
  have hal : a ≤ lst s := by have := ht.2.2; omega
  rw [LI_sub, I2, II_lt hs ⟨by omega, by omega⟩, I0, II_eq hs ⟨by omega, by omega⟩, II_eq hs ⟨by omega, by omega⟩]
  have e1 : II 0 = rI false := by decide
  have e2 : (1 : Int32) = rI true := by decide
  rw [e2, e1]
  refine ⟨fun c => ?_, fun c => ?_⟩
  · refine q_nextSecond hI hX (by omega) (by omega) true h2 hta (by omega) (fun f hf => ?_)
    obtain ⟨k1, k2, k3, k4⟩ := NX_ge hf (by omega)
    refine q_lastSecond hI hX ?_
    rw [LI_le ⟨by omega, by omega⟩ ⟨by omega, by omega⟩, LI_i]
    refine ⟨fun z => ⟨fun y => ?_, fun y => ⟨fun x => by omega, fun _ => ?_⟩⟩, fun z => ?_⟩
    · exact h f (by omega) (by omega) (Or.inr (Or.inl ⟨y, k1, z, k4 z, k3⟩))
    · refine q_nextSecond hI hX (by omega) (by omega) false h2 (by omega) (by omega) (fun g hg => ?_)
      obtain ⟨g1, g2, g3, g4⟩ := NX_ge hg (by omega)
      have g5 : ∀ x, f ≤ x → x < g → sat s (n - b) true x := fun x d1 d2 => by
        have := g3 x d1 d2
        rw [sat_ft] at this
        exact Classical.not_not.mp this
      have g6 : f < g := by
        rcases Int.lt_or_le f g with y | y
        · exact y
        · have e : g = f := by omega
          subst e
          have := g4 (by omega)
          rw [sat_ft] at this
          exact absurd (k4 z) this
      rw [L1, LI_sub, LI_i]
      refine h (g - 1) (by omega) (by omega) (Or.inr (Or.inr (Or.inl ⟨by omega, f, ⟨k1, z, k4 z, k3⟩, by omega, by omega, fun x d1 d2 => g5 x d1 (by omega), fun w => ?_⟩)))
      rw [show g - 1 + 1 = g by omega, ← sat_ft]
      exact g4 (by omega)
    · rw [show -rI true = II (-1) by decide]
      exact h (-1) (by omega) (by omega) (Or.inl ⟨fun x d1 d2 => k3 x d1 (by omega), rfl⟩)
  · refine q_longestSpan hI hX (by omega) (by omega) ht (fun p hp => ?_)
    refine q_lastSecond hI hX ?_
    rcases hp with ⟨e, hno⟩ | ⟨G, hLB⟩
    · subst e
      rw [LI_le ⟨by omega, by omega⟩ ⟨by omega, by omega⟩]
      refine ⟨fun z => by omega, fun _ => ?_⟩
      rw [show -rI true = II (-1) by decide]
      exact h (-1) (by omega) (by omega) (Or.inl ⟨hno, rfl⟩)
    · have hLB0 := hLB
      obtain ⟨a1, a2, a3, a4, a5, a6⟩ := hLB
      rw [LI_le ⟨by omega, by omega⟩ ⟨by omega, by omega⟩, LI_i]
      refine ⟨fun z => ⟨fun y => by omega, fun y => ⟨fun x => ?_, fun x => ?_⟩⟩, fun z => by omega⟩
      · exact h p (by omega) (by omega) (Or.inr (Or.inr (Or.inr (Or.inl ⟨x, G, hLB0⟩))))
      · refine q_nextSecond hI hX (by omega) (by omega) false h2 (by omega) (by omega) (fun g hg => ?_)
        obtain ⟨g1, g2, g3, g4⟩ := NX_ge hg (by omega)
        have g5 : ∀ x, p ≤ x → x < g → sat s (n - b) true x := fun x d1 d2 => by
          have := g3 x d1 d2
          rw [sat_ft] at this
          exact Classical.not_not.mp this
        have g6 := a5 p (g - p) a2 (by omega) (fun x d1 d2 => g5 x d1 (by omega))
        have g7 : p + G ≤ g := by
          rcases Int.lt_or_le g (p + G) with y | y
          · exfalso
            have q := g4 (by omega)
            rw [sat_ft] at q
            exact q (a4 g (by omega) y)
          · exact y
        rw [L1, LI_sub, LI_i]
        exact h (g - 1) (by omega) (by omega) (Or.inr (Or.inr (Or.inr (Or.inr ⟨by omega, G, p, hLB0, by omega⟩))))
/-- the reference's run, second by second -/
def SJ (s : MS) (lv a t F B P R E : Int) : Prop :=
  0 ≤ R ∧ R ≤ t - a ∧ (∀ x, t - R ≤ x → x < t → sat s lv true x) ∧ (t - R = a ∨ ¬ sat s lv true (t - R - 1)) ∧
  ((F = -1 ∧ E = -1 ∧ ∀ x, a ≤ x → x < t → ¬ sat s lv true x) ∨ (a ≤ F ∧ F ≤ E ∧ E < t ∧ (∀ x, a ≤ x → x < F → ¬ sat s lv true x) ∧ (∀ x, F ≤ x → x ≤ E → sat s lv true x) ∧ (E = t - 1 ∨ ¬ sat s lv true (E + 1)))) ∧
  ((B = 0 ∧ P = -1 ∧ ∀ x, a ≤ x → x < t → ¬ sat s lv true x) ∨ LB s lv a t B P)
theorem LB_step {s : MS} {lv a t B P R : Int} (hR : 0 ≤ R) (hRt : R ≤ t - a) (hr : ∀ x, t - R ≤ x → x < t → sat s lv true x) (hst : t - R = a ∨ ¬ sat s lv true (t - R - 1)) (hs : sat s lv true t)
    (h : (B = 0 ∧ P = -1 ∧ ∀ x, a ≤ x → x < t → ¬ sat s lv true x) ∨ LB s lv a t B P) : LB s lv a (t + 1) (if B < R + 1 then R + 1 else B) (if B < R + 1 then t - R else P) := by
  have ends : ∀ q n, a ≤ q → q + n = t + 1 → 1 ≤ n → blk s lv q n → n ≤ R + 1 := fun q n d1 d2 d3 d4 => by
    rcases Int.lt_or_le q (t - R) with z | z
    · exfalso
      rcases hst with e | e
      · omega
      · exact e (d4 (t - R - 1) (by omega) (by omega))
    · omega
  have old : ∀ q n, a ≤ q → q + n ≤ t → blk s lv q n → n ≤ B := fun q n d1 d2 d3 => by
    rcases h with ⟨h, -, hno⟩ | h
    · rcases Int.lt_or_le n 1 with z | z
      · omega
      · exact absurd (d3 q (by omega) (by omega)) (hno q d1 (by omega))
    · exact h.2.2.2.2.1 q n d1 d2 d3
  by_cases c : B < R + 1
  · rw [if_pos c, if_pos c]
    refine ⟨by omega, by omega, by omega, fun x d1 d2 => ?_, fun q n d1 d2 d3 => ?_, fun q d1 d2 d3 d4 => ?_⟩
    · rcases Int.lt_or_le x t with z | z
      · exact hr x d1 z
      · rw [show x = t by omega]; exact hs
    · rcases Int.lt_or_le n 1 with z | z
      · omega
      · rcases Int.lt_or_le t (q + n) with y | y
        · exact ends q n d1 (by omega) z d3
        · have := old q n d1 y d3; omega
    · have := old q (R + 1) d1 (by omega) d4; omega
  · rw [if_neg c, if_neg c]
    rcases h with ⟨h, -, hno⟩ | h
    · omega
    · obtain ⟨h1, h2, h3, h4, h5, h6⟩ := h
      refine ⟨h1, h2, by omega, h4, fun q n d1 d2 d3 => ?_, fun q d1 d2 d3 d4 => h6 q d1 d2 (by omega) d4⟩
      rcases Int.lt_or_le n 1 with z | z
      · omega
      · rcases Int.lt_or_le t (q + n) with y | y
        · have := ends q n d1 (by omega) z d3; omega
        · exact old q n d1 y d3
theorem SJ_no {s : MS} {lv a t F B P R E : Int} (hat : a ≤ t) (h : SJ s lv a t F B P R E) (hs : ¬ sat s lv true t) : SJ s lv a (t + 1) F B P 0 E := by
  obtain ⟨h1, h2, h3, h4, h5, h6⟩ := h
  refine ⟨by omega, by omega, fun x d1 d2 => by omega, Or.inr (by rw [show t + 1 - 0 - 1 = t by omega]; exact hs), ?_, ?_⟩
  · rcases h5 with ⟨a1, a2, a3⟩ | ⟨a1, a2, a3, a4, a5, a6⟩
    · refine Or.inl ⟨a1, a2, fun x d1 d2 => ?_⟩
      rcases Int.lt_or_le x t with z | z
      · exact a3 x d1 z
      · rw [show x = t by omega]; exact hs
    · refine Or.inr ⟨a1, a2, by omega, a4, a5, Or.inr ?_⟩
      rcases a6 with z | z
      · rw [show E + 1 = t by omega]; exact hs
      · exact z
  · rcases h6 with ⟨a1, a2, a3⟩ | h6
    · refine Or.inl ⟨a1, a2, fun x d1 d2 => ?_⟩
      rcases Int.lt_or_le x t with z | z
      · exact a3 x d1 z
      · rw [show x = t by omega]; exact hs
    · exact Or.inr (LB_cut h6 (by omega) (fun x d1 d2 => by rw [show x = t by omega]; exact hs))
theorem SJ_yes {s : MS} {lv a t F B P R E : Int} (ha0 : 0 ≤ a) (hat : a ≤ t) (h : SJ s lv a t F B P R E) (hs : sat s lv true t) : SJ s lv a (t + 1) (if F < 0 then t else F) (if B < R + 1 then R + 1 else B) (if B < R + 1 then t - R else P) (R + 1) (if (if F < 0 then t else F) = t - R then t else E) := by
  obtain ⟨h1, h2, h3, h4, h5, h6⟩ := h
  refine ⟨by omega, by omega, fun x d1 d2 => ?_, ?_, ?_, Or.inr (LB_step h1 h2 h3 h4 hs h6)⟩
  · rcases Int.lt_or_le x t with z | z
    · exact h3 x (by omega) z
    · rw [show x = t by omega]; exact hs
  · rcases h4 with z | z
    · exact Or.inl (by omega)
    · exact Or.inr (by rw [show t + 1 - (R + 1) - 1 = t - R - 1 by omega]; exact z)
  · refine Or.inr ?_
    rcases h5 with ⟨a1, a2, a3⟩ | ⟨a1, a2, a3, a4, a5, a6⟩
    · have hR0 : R = 0 := by
        rcases Int.lt_or_le 0 R with z | z
        · exact absurd (h3 (t - 1) (by omega) (by omega)) (a3 (t - 1) (by omega) (by omega))
        · omega
      rw [if_pos (by omega : F < 0), if_pos (by omega)]
      exact ⟨hat, by omega, by omega, a3, fun x d1 d2 => by rw [show x = t by omega]; exact hs, Or.inl (by omega)⟩
    · rw [if_neg (by omega : ¬ F < 0)]
      by_cases c : F = t - R
      · rw [if_pos c]
        refine ⟨a1, by omega, by omega, a4, fun x d1 d2 => ?_, Or.inl (by omega)⟩
        rcases Int.lt_or_le x t with z | z
        · exact h3 x (by omega) z
        · rw [show x = t by omega]; exact hs
      · rw [if_neg c]
        refine ⟨a1, a2, by omega, a4, a5, Or.inr ?_⟩
        rcases a6 with z | z
        · exfalso
          rcases Int.lt_or_le (t - R) F with y | y
          · exact a4 (t - R) (by omega) y (h3 (t - R) (by omega) (by omega))
          · rcases h4 with w | w
            · omega
            · exact w (a5 (t - R - 1) (by omega) (by omega))
        · exact z
theorem SJ_end {s : MS} {lv a F B P R E : Int} (h : SJ s lv a (lst s + 1) F B P R E) : SQ s lv a 0 F ∧ SQ s lv a 1 E ∧ ((P = -1 ∧ ∀ sd, SQ s lv a sd (-1)) ∨ (a ≤ P ∧ 1 ≤ B ∧ P + B ≤ lst s + 1 ∧ SQ s lv a 2 P ∧ SQ s lv a 3 (P + B - 1))) := by
  obtain ⟨h1, h2, h3, h4, h5, h6⟩ := h
  have one : SQ s lv a 0 F ∧ SQ s lv a 1 E := by
    rcases h5 with ⟨a1, a2, a3⟩ | ⟨a1, a2, a3, a4, a5, a6⟩
    · have hn : ∀ x, a ≤ x → x ≤ lst s → ¬ sat s lv true x := fun x d1 d2 => a3 x d1 (by omega)
      exact ⟨Or.inl ⟨hn, a1⟩, Or.inl ⟨hn, a2⟩⟩
    · have hF : FS s lv a F := ⟨a1, by omega, a5 F (by omega) a2, a4⟩
      refine ⟨Or.inr (Or.inl ⟨rfl, hF⟩), Or.inr (Or.inr (Or.inl ⟨rfl, F, hF, a2, by omega, a5, fun z => ?_⟩))⟩
      rcases a6 with y | y
      · omega
      · exact y
  refine ⟨one.1, one.2, ?_⟩
  rcases h6 with ⟨a1, a2, a3⟩ | h6
  · exact Or.inl ⟨a2, fun sd => Or.inl ⟨fun x d1 d2 => a3 x d1 (by omega), rfl⟩⟩
  · refine Or.inr ⟨h6.2.1, h6.1, h6.2.2.1, Or.inr (Or.inr (Or.inr (Or.inl ⟨rfl, B, h6⟩))), Or.inr (Or.inr (Or.inr (Or.inr ⟨rfl, B, P, h6, rfl⟩)))⟩
theorem SJ_b {s : MS} {lv a t F B P R E : Int} (ha : 0 ≤ a) (h : SJ s lv a t F B P R E) : -1 ≤ F ∧ F < t ∧ -1 ≤ E ∧ E < t ∧ 0 ≤ B ∧ B ≤ t ∧ -1 ≤ P ∧ P < t ∧ 0 ≤ R ∧ R ≤ t := by
  obtain ⟨h1, h2, h3, h4, h5, h6⟩ := h
  have g1 : -1 ≤ F ∧ F < t ∧ -1 ≤ E ∧ E < t := by
    rcases h5 with ⟨a1, a2, a3⟩ | ⟨a1, a2, a3, a4, a5, a6⟩ <;> omega
  have g2 : 0 ≤ B ∧ B ≤ t ∧ -1 ≤ P ∧ P < t := by
    rcases h6 with ⟨a1, a2, a3⟩ | ⟨a1, a2, a3, -⟩ <;> omega
  omega
theorem p_spanLoop {post : Int32 → YS → Prop} {s : MS} {y : YS} (hI : MI s) (hY : YR s y) {b n sd a : Int} (h2 : 2 ≤ sN s) (ha : sT s 0 ≤ a) (hb : -100000 ≤ b ∧ b ≤ 100000) (hn : -100000 ≤ n ∧ n ≤ 100000) (hs : 0 ≤ sd ∧ sd ≤ 3) (h : ∀ r, -1 ≤ r → r ≤ 20000 → SQ s (n - b) a sd r → post (II r) y) :
    ∀ (d : Nat) (t F B P R E : Int), a ≤ t → t ≤ lst s + 1 → lst s + 1 - t ≤ d → SJ s (n - b) a t F B P R E → wX1_span_L72 post y (LI b) (LI n) (II sd) (d + 1) (II F) (II B) (II P) (II R) (II E) (II t) := by
  have lb := lst_b hI
  have t0 := hI.2.2.2.1 0 (by omega)
  have el : lst s = sT s (sN s - 1) := if_pos h2
  have e0 := (hY.2.2.2.1 (sN s - 1) (by omega)).1
  have n40 := hI.1
  have en : ((sN s : Int) - 1).toNat = sN s - 1 := by omega
  rw [← el] at e0
  intro d
  induction d with
  | zero =>
    intro t F B P R E c1 c2 c3 hj
    have e : t = lst s + 1 := by omega
    subst e
    have hb := SJ_b (by omega) hj
    rw [wX1_span_L72, hY.1]
    simp (disch := omega) only [LI_add, LI_sub, LI_mul, II_add, II_sub, II_mul, II_neg, LI_neg, LI_ltS, LI_leS, LI_eqS, II_ltS, II_leS, II_eqS, LI_divS, II_divS, LI_i, II_lS, II_clS, vp_IS, L0, L1, L2, L64, L100, L200, L600, L900, L1000, L1100, L10000, L20000, L30000, L32768, L100k, Lm100k, L1M, Lm1, I0, I1, I2, I3, I4, I5, I7, I12, I16, I40, I65, I100, I600, I20000, Im1, nI_I, true_imp_iff, false_imp_iff, not_true_eq_false, not_false_eq_true, and_true, true_and, en, e0]
    obtain ⟨k1, k2, k3⟩ := SJ_end hj
    refine ⟨by omega, fun _ => ⟨fun z => ?_, fun _ => ⟨fun z => ?_, fun _ => ⟨fun z => ⟨fun w => ?_, fun w => ?_⟩, fun z => ?_⟩⟩⟩, fun z => by omega⟩
    · subst z; exact h _ (by omega) (by omega) k1
    · subst z; exact h _ (by omega) (by omega) k2
    · subst w
      rcases k3 with k3 | k3
      · omega
      · exact h _ (by omega) (by omega) k3.2.2.2.1
    · rcases k3 with k3 | k3
      · omega
      · exact h _ (by omega) (by omega) (by rw [show sd = 3 by omega]; exact k3.2.2.2.2)
    · rcases k3 with k3 | k3
      · exact h _ (by omega) (by omega) (k3.2 sd)
      · omega
  | succ d ih =>
    intro t F B P R E c1 c2 c3 hj
    have hjb := SJ_b (by omega) hj
    rw [wX1_span_L72, hY.1]
    simp (disch := omega) only [LI_add, LI_sub, LI_mul, II_add, II_sub, II_mul, II_neg, LI_neg, LI_ltS, LI_leS, LI_eqS, II_ltS, II_leS, II_eqS, LI_divS, II_divS, LI_i, II_lS, II_clS, vp_IS, L0, L1, L2, L64, L100, L200, L600, L900, L1000, L1100, L10000, L20000, L30000, L32768, L100k, Lm100k, L1M, Lm1, I0, I1, I2, I3, I4, I5, I7, I12, I16, I40, I65, I100, I600, I20000, Im1, nI_I, true_imp_iff, false_imp_iff, not_true_eq_false, not_false_eq_true, and_true, true_and, en, e0]
    refine ⟨by omega, fun z => ?_, fun z => ?_⟩
    · have e : t = lst s + 1 := by omega
      subst e
      obtain ⟨k1, k2, k3⟩ := SJ_end hj
      refine ⟨fun z => ?_, fun _ => ⟨fun z => ?_, fun _ => ⟨fun z => ⟨fun w => ?_, fun w => ?_⟩, fun z => ?_⟩⟩⟩
      · subst z; exact h _ (by omega) (by omega) k1
      · subst z; exact h _ (by omega) (by omega) k2
      · subst w
        rcases k3 with k3 | k3
        · omega
        · exact h _ (by omega) (by omega) k3.2.2.2.1
      · rcases k3 with k3 | k3
        · omega
        · exact h _ (by omega) (by omega) (by rw [show sd = 3 by omega]; exact k3.2.2.2.2)
      · rcases k3 with k3 | k3
        · exact h _ (by omega) (by omega) (k3.2 sd)
        · omega
    · have hin : inTab s t := lst_in h2 (by omega) (by omega)
      have hb1 := hgt_b hI hin
      refine p_heightAt hI hY hin ?_
      simp (disch := omega) only [LI_add, LI_sub, LI_mul, II_add, II_sub, II_mul, II_neg, LI_neg, LI_ltS, LI_leS, LI_eqS, II_ltS, II_leS, II_eqS, LI_divS, II_divS, LI_i, II_lS, II_clS, vp_IS, L0, L1, L2, L64, L100, L200, L600, L900, L1000, L1100, L10000, L20000, L30000, L32768, L100k, Lm100k, L1M, Lm1, I0, I1, I2, I3, I4, I5, I7, I12, I16, I40, I65, I100, I600, I20000, Im1, nI_I, true_imp_iff, false_imp_iff, not_true_eq_false, not_false_eq_true, and_true, true_and]
      refine ⟨fun c => ?_, fun c => ?_⟩
      · have hs : ¬ sat s (n - b) true t := by rw [sat_t]; omega
        refine ⟨fun _ => ih _ _ _ _ _ _ (by omega) (by omega) (by omega) (SJ_no c1 hj hs), fun w => by omega⟩
      · have hs : sat s (n - b) true t := by rw [sat_t]; omega
        have hy := SJ_yes (by omega) c1 hj hs
        have go : ∀ F2 B2 P2 E2, F2 = (if F < 0 then t else F) → B2 = (if B < R + 1 then R + 1 else B) → P2 = (if B < R + 1 then t - R else P) → E2 = (if F2 = t - R then t else E) → wX1_span_L72 post y (LI b) (LI n) (II sd) (d + 1) (II F2) (II B2) (II P2) (II (R + 1)) (II E2) (II (t + 1)) := fun F2 B2 P2 E2 q1 q2 q3 q4 => by
          subst q1
          subst q2
          subst q3
          subst q4
          exact ih _ _ _ _ _ _ (by omega) (by omega) (by omega) hy
        refine ⟨fun w => ⟨fun x => ⟨fun v => ?_, fun v => ?_⟩, fun x => ⟨fun v => ?_, fun v => ?_⟩⟩, fun w => ⟨fun x => ⟨fun v => ?_, fun v => ?_⟩, fun x => ⟨fun v => ?_, fun v => ?_⟩⟩⟩
        all_goals exact go _ _ _ _ (by omega) (by omega) (by omega) (by omega)
theorem p_span {post : Int32 → YS → Prop} {s : MS} {y : YS} (hI : MI s) (hY : YR s y) {b n a sd : Int} (hb : bL b) (hn : bL n) (ha : bL a) (hs : bJ sd)
    (h0 : ¬ spOk s b n a sd → post 0 (yTh 1 y)) (h1 : spOk s b n a sd → ∀ r, -1 ≤ r → r ≤ 20000 → SQ s (n - b) a sd r → post (II r) (yTh 0 y)) : wX1_span post y (LI b) (LI n) (LI a) (II sd) := by
  have lb := lst_b hI
  unfold wX1_span
  refine p_isInTable hI hY ha ?_
  rw [bI_0]
  refine ⟨fun c => h0 (fun z => c z.1), fun c => ?_⟩
  have ht := Decidable.not_not.mp c
  refine q_isHeight hb ?_
  rw [bI_0]
  refine ⟨fun c => h0 (fun z => c z.2.1), fun c => ?_⟩
  have htb := Decidable.not_not.mp c
  refine q_isHeight hn ?_
  rw [bI_0]
  refine ⟨fun c => h0 (fun z => c z.2.2.1), fun c => ?_⟩
  have htn := Decidable.not_not.mp c
  refine ⟨fun c => h0 (fun z => ?_), fun c => ⟨fun d => h0 (fun z => ?_), fun d => ?_⟩⟩
  · rw [I0, II_lt hs ⟨by omega, by omega⟩] at c; have := z.2.2.2; omega
  · rw [I4, II_le ⟨by omega, by omega⟩ hs] at d; have := z.2.2.2; omega
  rw [I0, II_lt hs ⟨by omega, by omega⟩] at c
  rw [I4, II_le ⟨by omega, by omega⟩ hs] at d
  have h := h1 ⟨ht, htb, htn, by omega, by omega⟩
  have h2 := ht.1
  have hta := ht.2.1
  have t0 := hI.2.2.2.1 0 (by omega)
  have el : lst s = sT s (sN s - 1) := if_pos h2
  have hal : a ≤ lst s := by have := ht.2.2; omega
  refine ⟨(lst s + 1 - a).toNat + 1, ?_⟩
  rw [Im1, I0, LI_i]
  refine p_spanLoop hI (YR_th 0 hY) h2 hta htb htn ⟨by omega, by omega⟩ h _ a (-1) 0 (-1) 0 (-1) (by omega) (by omega) (by omega) ?_
  exact ⟨by omega, by omega, fun x d1 d2 => by omega, Or.inl (by omega), Or.inl ⟨rfl, rfl, fun x d1 d2 => by omega⟩, Or.inl ⟨rfl, rfl, fun x d1 d2 => by omega⟩⟩
