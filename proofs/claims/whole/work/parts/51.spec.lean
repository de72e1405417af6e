/-! WHAT THE CLASS AND THE REFERENCE MEAN, in whole numbers -/
/-- turns: how many, times, heights; observations: how many, times, differences; places: how many, ways, bases -/
abbrev MS : Type := Nat × (Nat → Int) × (Nat → Int) × Nat × (Nat → Int) × (Nat → Int) × Nat × (Nat → Int) × (Nat → Int)
abbrev sN (s : MS) : Nat := s.1
abbrev sT (s : MS) : Nat → Int := s.2.1
abbrev sH (s : MS) : Nat → Int := s.2.2.1
abbrev sM (s : MS) : Nat := s.2.2.2.1
abbrev sO (s : MS) : Nat → Int := s.2.2.2.2.1
abbrev sD (s : MS) : Nat → Int := s.2.2.2.2.2.1
abbrev sK (s : MS) : Nat := s.2.2.2.2.2.2.1
abbrev sW (s : MS) : Nat → Int := s.2.2.2.2.2.2.2.1
abbrev sB (s : MS) : Nat → Int := s.2.2.2.2.2.2.2.2
def MI (s : MS) : Prop := sN s ≤ 40 ∧ sM s ≤ 16 ∧ sK s ≤ 12 ∧ (∀ j, j < sN s → 0 ≤ sT s j ∧ sT s j ≤ 20000 ∧ -100000 ≤ sH s j ∧ sH s j ≤ 100000) ∧ (∀ i j, i < j → j < sN s → sT s i < sT s j) ∧ (∀ j, j < sM s → 0 ≤ sO s j ∧ sO s j ≤ 20000 ∧ -200000 ≤ sD s j ∧ sD s j ≤ 200000) ∧ (∀ i j, i ≤ j → j < sM s → sO s i ≤ sO s j) ∧ (∀ j, j < sK s → 0 ≤ sW s j ∧ sW s j ≤ 1000000 ∧ -100000 ≤ sB s j ∧ sB s j ≤ 100000)
def XR (s : MS) (u : XS) : Prop := xNT u = nI (sN s) ∧ xNO u = nI (sM s) ∧ xNP u = nI (sK s) ∧ (∀ j, j < sN s → xTT u j = LI (sT s j) ∧ xTH u j = LI (sH s j)) ∧ (∀ j, j < sM s → xOT u j = LI (sO s j) ∧ xOD u j = LI (sD s j)) ∧ (∀ j, j < sK s → xPW u j = LI (sW s j) ∧ xPB u j = LI (sB s j))
def YR (s : MS) (y : YS) : Prop := yNT y = nI (sN s) ∧ yNO y = nI (sM s) ∧ yNP y = nI (sK s) ∧ (∀ j, j < sN s → yT y j = II (sT s j) ∧ yH y j = II (sH s j)) ∧ (∀ j, j < sM s → yO y j = II (sO s j) ∧ yD y j = LI (sD s j)) ∧ (∀ j, j < sK s → yW y j = LI (sW s j) ∧ yB y j = LI (sB s j)) ∧ (∀ j, j < 65 → yC y j = cosT j) ∧ (∀ j, j < 7 → yQ y j = sqT j)
/-- the last of n that is not behind t -/
def lastLE (f : Nat → Int) (t : Int) : Nat → Option Nat
  | 0 => none
  | k + 1 => if f k ≤ t then some k else lastLE f t k
def oI (o : Option Nat) : Int := match o with
  | none => -1
  | some i => (i : Int)
theorem lastLE_some {f : Nat → Int} {t : Int} : ∀ {n i : Nat}, lastLE f t n = some i → i < n ∧ f i ≤ t ∧ ∀ j, i < j → j < n → t < f j := by
  intro n
  induction n with
  | zero => intro i h; cases h
  | succ k ih =>
    intro i h
    rw [lastLE] at h
    by_cases c : f k ≤ t
    · rw [if_pos c] at h
      cases h
      exact ⟨by omega, c, fun j h1 h2 => by omega⟩
    · rw [if_neg c] at h
      obtain ⟨h1, h2, h3⟩ := ih h
      refine ⟨by omega, h2, fun j h4 h5 => ?_⟩
      by_cases e : j = k
      · subst e; omega
      · exact h3 j h4 (by omega)
theorem lastLE_none {f : Nat → Int} {t : Int} : ∀ {n : Nat}, lastLE f t n = none → ∀ j, j < n → t < f j := by
  intro n
  induction n with
  | zero => intro _ j h; omega
  | succ k ih =>
    intro h j hj
    rw [lastLE] at h
    by_cases c : f k ≤ t
    · rw [if_pos c] at h; cases h
    · rw [if_neg c] at h
      by_cases e : j = k
      · subst e; omega
      · exact ih h j (by omega)
theorem lastLE_is {f : Nat → Int} {t : Int} {n i : Nat} (hi : i < n) (h : f i ≤ t) (hl : ∀ j, i < j → j < n → t < f j) : lastLE f t n = some i := by
  cases e : lastLE f t n with
  | none => have := lastLE_none e i hi; omega
  | some k =>
    obtain ⟨h1, h2, h3⟩ := lastLE_some e
    rcases Nat.lt_trichotomy k i with z | z | z
    · have := h3 i z hi; omega
    · rw [z]
    · have := hl k z h1; omega
theorem oI_b {f : Nat → Int} {t : Int} {n : Nat} : -1 ≤ oI (lastLE f t n) ∧ oI (lastLE f t n) < n := by
  cases e : lastLE f t n with
  | none => simp [oI]; omega
  | some k => have := (lastLE_some e).1; simp [oI]; omega
def cosI (j : Nat) : Int := (cosT j).toInt
def sqI (j : Nat) : Int := (sqT j).toInt
/-- the cosine's part, of 32768, where g of w has gone -/
def part (g w : Int) : Int := cosI (64 * g / w).toNat + (cosI ((64 * g / w).toNat + 1) - cosI (64 * g / w).toNat) * (64 * g - 64 * g / w * w) / w
def seg (s : MS) (i : Nat) (t : Int) : Int := sH s i + (sH s (i + 1) - sH s i) * part (t - sT s i) (sT s (i + 1) - sT s i) / 32768
def tab (s : MS) (t : Int) : Int := match lastLE (sT s) t (sN s) with
  | none => 0
  | some i => if i + 1 < sN s then seg s i t else sH s i
def hlv : Nat → Int → Int
  | 0, x => x
  | n + 1, x => hlv n (x.tdiv 2)
def corr (s : MS) (t : Int) : Int := match lastLE (sO s) t (sM s) with
  | none => 0
  | some i => hlv ((t - sO s i) / 600).toNat (sD s i)
def hgt (s : MS) (t : Int) : Int := tab s t + corr s t
def fst (s : MS) : Int := if 2 ≤ sN s then sT s 0 else -1
def lst (s : MS) : Int := if 2 ≤ sN s then sT s (sN s - 1) else -1
abbrev inTab (s : MS) (t : Int) : Prop := 2 ≤ sN s ∧ sT s 0 ≤ t ∧ t ≤ sT s (sN s - 1)
/-- rounded up -/
def upD (a d : Int) : Int := (a + d - 1).tdiv d
def sqTh (v : Int) : Int := if v / 200 ≤ 5 then sqI (v / 200).toNat + ((sqI ((v / 200).toNat + 1) - sqI (v / 200).toNat) * (v - v / 200 * 200)) / 200 else 100
def sqOf (v d : Int) : Int := upD (d * sqTh v) 1000
theorem cos_b : ∀ j, j < 65 → 0 ≤ cosI j ∧ cosI j ≤ 32768 := by decide +kernel
theorem cos_m : ∀ j, j < 64 → cosI j ≤ cosI (j + 1) := by decide +kernel
theorem cos_ii : ∀ j, j < 65 → cosT j = II (cosI j) := by decide +kernel
theorem sq_ii : ∀ j, j < 7 → sqT j = II (sqI j) := by decide +kernel
theorem sq_b : ∀ j, j < 7 → 0 ≤ sqI j ∧ sqI j ≤ 100 := by decide +kernel
theorem sq_m : ∀ j, j < 6 → sqI j ≤ sqI (j + 1) := by decide +kernel
theorem sq_6 : sqI 6 = 100 := by decide +kernel
