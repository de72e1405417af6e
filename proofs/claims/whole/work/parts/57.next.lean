/-! the searches of the class -/
def sat (s : MS) (lv : Int) (r : Bool) (t : Int) : Prop := if r = true then lv ≤ hgt s t else hgt s t < lv
theorem sat_t {s : MS} {lv t : Int} : sat s lv true t ↔ lv ≤ hgt s t := by unfold sat; rw [if_pos rfl]
theorem sat_f {s : MS} {lv t : Int} : sat s lv false t ↔ hgt s t < lv := by unfold sat; rw [if_neg (by decide)]
theorem sat_ft {s : MS} {lv t : Int} : sat s lv false t ↔ ¬ sat s lv true t := by rw [sat_f, sat_t]; omega
def rI (r : Bool) : Int32 := if r = true then 1 else 0
theorem up_of {s : MS} {lv : Int} {r : Bool} {a b : Int} (hab : a ≤ b) (hm : Mono s a b) (h1 : ¬ sat s lv r a) (h2 : sat s lv r b) : ∀ x y, a ≤ x → x ≤ y → y ≤ b → sat s lv r x → sat s lv r y := by
  intro x y c1 c2 c3 hx
  cases r with
  | true =>
    rw [sat_t] at *
    rcases hm with m | m
    · have := m x y c1 c2 c3; omega
    · have := m a b (by omega) hab (by omega); omega
  | false =>
    rw [sat_f] at *
    rcases hm with m | m
    · have := m a b (by omega) hab (by omega); omega
    · have := m x y c1 c2 c3; omega
theorem lst_in {s : MS} {t : Int} (h2 : 2 ≤ sN s) (h1 : sT s 0 ≤ t) (h : t ≤ lst s) : inTab s t := ⟨h2, h1, by have e : lst s = sT s (sN s - 1) := if_pos h2; omega⟩
theorem q_changeLoop {post : Int64 → Prop} {s : MS} {u : XS} (hI : MI s) (hX : XR s u) {lv : Int} (hv : -1000000 ≤ lv) (hv2 : lv ≤ 1000000) {r : Bool} (h2 : 2 ≤ sN s) {a b : Int} (ha : sT s 0 ≤ a) (hb : b ≤ lst s) (hup : ∀ x y, a ≤ x → x ≤ y → y ≤ b → sat s lv r x → sat s lv r y)
    (h : ∀ t, a < t → t ≤ b → sat s lv r t → ¬ sat s lv r (t - 1) → post (LI t)) : ∀ (d : Nat) (p q : Int) (n : Nat), a ≤ p → p < q → q ≤ b → q - p ≤ d → n + (q - p) ≤ 20000 → ¬ sat s lv r p → sat s lv r q → wX0_changeWithin_L10 post u (LI lv) (rI r) (d + 1) (LI p) (LI q) (nI n) := by
  have lb := lst_b hI
  have t0 := hI.2.2.2.1 0 (by omega)
  intro d
  induction d with
  | zero => intro p q n h1 h2 h3 h4; omega
  | succ d ih =>
    intro p q n c1 c2 c3 c4 c5 c6 c7
    rw [wX0_changeWithin_L10]
    have e0 : (p + q).tdiv 2 = (p + q) / 2 := td_pos (by omega)
    have e1 : nI n + 1 = nI (n + 1) := nI_1 n
    rw [e1]
    have k1 : ¬ (20000 : Int32) < nI n := by rw [I20000, nI_I, II_lt ⟨by omega, by omega⟩ ⟨by omega, by omega⟩]; omega
    have k2 : LI q - LI p = LI (q - p) := LI_sub q p
    have k3 : (LI p + LI q) / 2 = LI ((p + q) / 2) := by rw [LI_add, L2, LI_div ⟨by omega, by omega⟩ ⟨by omega, by omega⟩, e0]
    rw [k2, k3, L1, LI_le ⟨by omega, by omega⟩ ⟨by omega, by omega⟩]
    refine ⟨fun z => absurd z k1, fun _ => ⟨fun z => ?_, fun z => ?_⟩⟩
    · exact h q (by omega) c3 c7 (by rw [show q - 1 = p by omega]; exact c6)
    · have hm1 : p < (p + q) / 2 := by omega
      have hm2 : (p + q) / 2 < q := by omega
      generalize (p + q) / 2 = mm at *
      have hin : inTab s mm := lst_in h2 (by omega) (by omega)
      have hb1 := hgt_b hI hin
      refine q_heightAt hI hX hin ?_
      rw [LI_lt ⟨by omega, by omega⟩ ⟨by omega, by omega⟩]
      by_cases st : sat s lv r mm
      · have go := ih p mm (n + 1) c1 hm1 (by omega) (by omega) (by omega) c6 st
        cases r with
        | true =>
          rw [sat_t] at st
          exact ⟨fun y => absurd y (by omega), fun _ => ⟨fun _ => go, fun y => absurd rfl y⟩⟩
        | false =>
          rw [sat_f] at st
          exact ⟨fun _ => ⟨fun _ => go, fun y => absurd rfl y⟩, fun y => absurd st y⟩
      · have go := ih mm q (n + 1) (by omega) hm2 c3 (by omega) (by omega) st c7
        cases r with
        | true =>
          rw [sat_t] at st
          exact ⟨fun _ => ⟨fun y => absurd y (by decide), fun _ => go⟩, fun y => absurd (by omega) y⟩
        | false =>
          rw [sat_f] at st
          exact ⟨fun y => absurd y st, fun _ => ⟨fun y => absurd y (by decide), fun _ => go⟩⟩
/-- the first second from a on at which it is so (r), or the one behind the table's last -/
def NX (s : MS) (lv : Int) (r : Bool) (a t : Int) : Prop := (lst s < a ∧ t = lst s + 1) ∨ (a ≤ lst s ∧ a ≤ t ∧ t ≤ lst s + 1 ∧ (∀ x, a ≤ x → x < t → ¬ sat s lv r x) ∧ (t ≤ lst s → sat s lv r t))
theorem q_nextLoop {post : Int64 → Prop} {s : MS} {u : XS} (hI : MI s) (hX : XR s u) {lv : Int} (hv : -1000000 ≤ lv) (hv2 : lv ≤ 1000000) {r : Bool} (h2 : 2 ≤ sN s) {a : Int} (ha : sT s 0 ≤ a) (hal : a ≤ lst s) (h : ∀ t, NX s lv r a t → post (LI t)) :
    ∀ (d : Nat) (t : Int) (n : Nat), a ≤ t → t ≤ lst s + 1 → lst s + 1 - t ≤ d → (n : Int) ≤ t - a → (∀ x, a ≤ x → x < t → ¬ sat s lv r x) → wX0_nextSecond_L12 post u (LI lv) (rI r) (LI (lst s)) (d + 1) (LI t) (nI n) := by
  have lb := lst_b hI
  have t0 := hI.2.2.2.1 0 (by omega)
  have hout : ∀ t, lst s < t → t ≤ lst s + 1 → (∀ x, a ≤ x → x < t → ¬ sat s lv r x) → post (LI (lst s) + 1) := fun t c1 c2 c3 => by
    rw [L1, LI_add]
    exact h _ (Or.inr ⟨hal, by omega, by omega, fun x d1 d2 => c3 x d1 (by omega), fun z => by omega⟩)
  intro d
  induction d with
  | zero =>
    intro t n c1 c2 c3 c4 c5
    rw [wX0_nextSecond_L12]
    refine ⟨fun _ => hout t (by omega) c2 c5, fun _ => ⟨fun _ => hout t (by omega) c2 c5, fun z => absurd ?_ z⟩⟩
    rw [LI_lt ⟨by omega, by omega⟩ ⟨by omega, by omega⟩]; omega
  | succ d ih =>
    intro t n c1 c2 c3 c4 c5
    rw [wX0_nextSecond_L12]
    have e1 : nI n + 1 = nI (n + 1) := nI_1 n
    rw [e1, LI_lt ⟨by omega, by omega⟩ ⟨by omega, by omega⟩]
    refine ⟨fun z => ?_, fun _ => ⟨fun z => hout t z c2 c5, fun z => ?_⟩⟩
    · rw [I20000, nI_I, II_lt ⟨by omega, by omega⟩ ⟨by omega, by omega⟩] at z
      exact hout t (by omega) c2 c5
    · have hin : inTab s t := lst_in h2 (by omega) (by omega)
      have hb1 := hgt_b hI hin
      have hyes : sat s lv r t → post (LI t) := fun st => h t (Or.inr ⟨hal, c1, c2, c5, fun _ => st⟩)
      have hch : ∀ e, t ≤ e → e ≤ lst s → Mono s t e → ¬ sat s lv r t → sat s lv r e → wX0_changeWithin (fun r12 => post r12) u (LI lv) (LI t) (LI e) (rI r) := fun e f1 f2 hm st se => by
        have hup := up_of f1 hm st se
        have hne : t ≠ e := fun q => st (q ▸ se)
        unfold wX0_changeWithin
        refine ⟨(e - t).toNat + 1, ?_⟩
        rw [show (0 : Int32) = nI 0 by decide]
        refine q_changeLoop hI hX hv hv2 h2 (a := t) (b := e) (by omega) f2 hup (fun q g1 g2 g3 g4 => ?_) _ t e 0 (by omega) (by omega) (by omega) (by omega) (by omega) st se
        refine h q (Or.inr ⟨hal, by omega, by omega, fun x d1 d2 sx => ?_, fun _ => g3⟩)
        rcases Int.lt_or_le x t with y | y
        · exact c5 x d1 y sx
        · exact g4 (hup x (q - 1) y (by omega) (by omega) sx)
      have hnx : ∀ e, t ≤ e → e ≤ lst s → Mono s t e → ¬ sat s lv r t → ¬ sat s lv r e → wX0_nextSecond_L12 post u (LI lv) (rI r) (LI (lst s)) (d + 1) (LI (e + 1)) (nI (n + 1)) := fun e f1 f2 hm st se => by
        refine ih (e + 1) (n + 1) (by omega) (by omega) (by omega) (by omega) (fun x d1 d2 sx => ?_)
        rcases Int.lt_or_le x t with y | y
        · exact c5 x d1 y sx
        · cases r with
          | true =>
            rw [sat_t] at *
            rcases hm with m | m
            · have := m x e y (by omega) (by omega); omega
            · have := m t x (by omega) y (by omega); omega
          | false =>
            rw [sat_f] at *
            rcases hm with m | m
            · have := m t x (by omega) y (by omega); omega
            · have := m x e y (by omega) (by omega); omega
      refine q_heightAt hI hX hin ?_
      rw [LI_lt ⟨by omega, by omega⟩ ⟨by omega, by omega⟩]
      cases r with
      | true =>
        refine ⟨fun y => ⟨fun q => absurd q (by decide), fun _ => ?_⟩, fun y => ⟨fun _ => hyes (by rw [sat_t]; omega), fun q => absurd rfl q⟩⟩
        have st : ¬ sat s lv true t := by rw [sat_t]; omega
        refine q_stretchEnd hI hX hin (fun e f1 f2 hm => ?_)
        have hie : inTab s e := lst_in h2 (by omega) f2
        have hb2 := hgt_b hI hie
        refine q_heightAt hI hX hie ?_
        rw [LI_lt ⟨by omega, by omega⟩ ⟨by omega, by omega⟩, L1, LI_add]
        exact ⟨fun z => hnx e f1 f2 hm st (by rw [sat_t]; omega), fun z => ⟨fun _ => hch e f1 f2 hm st (by rw [sat_t]; omega), fun q => absurd rfl q⟩⟩
      | false =>
        refine ⟨fun y => ⟨fun _ => hyes (by rw [sat_f]; exact y), fun q => absurd rfl q⟩, fun y => ⟨fun q => absurd q (by decide), fun _ => ?_⟩⟩
        have st : ¬ sat s lv false t := by rw [sat_f]; exact y
        refine q_stretchEnd hI hX hin (fun e f1 f2 hm => ?_)
        have hie : inTab s e := lst_in h2 (by omega) f2
        have hb2 := hgt_b hI hie
        refine q_heightAt hI hX hie ?_
        rw [LI_lt ⟨by omega, by omega⟩ ⟨by omega, by omega⟩, L1, LI_add]
        exact ⟨fun z => ⟨fun _ => hch e f1 f2 hm st (by rw [sat_f]; exact z), fun q => absurd rfl q⟩, fun z => hnx e f1 f2 hm st (by rw [sat_f]; exact z)⟩
theorem q_nextSecond {post : Int64 → Prop} {s : MS} {u : XS} (hI : MI s) (hX : XR s u) {lv : Int} (hv : -1000000 ≤ lv) (hv2 : lv ≤ 1000000) (r : Bool) (h2 : 2 ≤ sN s) {a : Int} (ha : sT s 0 ≤ a) (ha2 : a ≤ 1000000000000) (h : ∀ t, NX s lv r a t → post (LI t)) : wX0_nextSecond post u (LI lv) (LI a) (rI r) := by
  have lb := lst_b hI
  have t0 := hI.2.2.2.1 0 (by omega)
  unfold wX0_nextSecond
  refine q_lastSecond hI hX ?_
  rw [show (0 : Int32) = nI 0 by decide]
  rcases Int.lt_or_le (lst s) a with z | z
  · refine ⟨1, ?_⟩
    rw [wX0_nextSecond_L12]
    have g : post (LI (lst s) + 1) := by rw [L1, LI_add]; exact h _ (Or.inl ⟨z, rfl⟩)
    refine ⟨fun _ => g, fun _ => ⟨fun _ => g, fun y => absurd ?_ y⟩⟩
    rw [LI_lt ⟨by omega, by omega⟩ ⟨by omega, by omega⟩]; exact z
  · exact ⟨(lst s + 1 - a).toNat + 1, q_nextLoop hI hX hv hv2 h2 ha z h _ a 0 (by omega) (by omega) (by omega) (by omega) (fun x c1 c2 => by omega)⟩
theorem NX_ge {s : MS} {lv : Int} {r : Bool} {a t : Int} (h : NX s lv r a t) (ha : a ≤ lst s + 1) : a ≤ t ∧ t ≤ lst s + 1 ∧ (∀ x, a ≤ x → x < t → ¬ sat s lv r x) ∧ (t ≤ lst s → sat s lv r t) := by
  rcases h with ⟨h1, h2⟩ | ⟨h1, h2, h3, h4, h5⟩
  · exact ⟨by omega, by omega, fun x c1 c2 => by omega, fun c => by omega⟩
  · exact ⟨h2, h3, h4, h5⟩
