/-! the answers of both, one beside the other -/
def Rel (u : XS) (y : YS) : Prop := ∃ s, MI s ∧ XR s u ∧ YR s y
theorem an_I {ex : XS → (Nat → Int64) → YS → Prop} {r r1 : Int32} {w : XS × (Nat → Int64)} {y2 : YS} (hy : yTH y2 = r) (he : r = 0 → w.2 0 = r1.toInt64) (h : ex w.1 w.2 y2) : wX1_thrown (fun r3 => ((r3 = r → ((r = 0 → (((w.2 0) = (r1).toInt64 → (ex w.1 w.2 y2)) ∧ (¬ (w.2 0) = (r1).toInt64 → False))) ∧ (¬ r = 0 → (ex w.1 w.2 y2)))) ∧ (¬ r3 = r → False))) y2 := by
  unfold wX1_thrown
  exact ⟨fun _ => ⟨fun z => ⟨fun _ => h, fun q => q (he z)⟩, fun _ => h⟩, fun q => q hy⟩
theorem an_L {ex : XS → (Nat → Int64) → YS → Prop} {r : Int32} {r1 : Int64} {w : XS × (Nat → Int64)} {y2 : YS} (hy : yTH y2 = r) (he : r = 0 → w.2 0 = r1) (h : ex w.1 w.2 y2) : wX1_thrown (fun r3 => ((r3 = r → ((r = 0 → (((w.2 0) = r1 → (ex w.1 w.2 y2)) ∧ (¬ (w.2 0) = r1 → False))) ∧ (¬ r = 0 → (ex w.1 w.2 y2)))) ∧ (¬ r3 = r → False))) y2 := by
  unfold wX1_thrown
  exact ⟨fun _ => ⟨fun z => ⟨fun _ => h, fun q => q (he z)⟩, fun _ => h⟩, fun q => q hy⟩
theorem up0 {u : XS} {f : Nat → Int64} {x : Int64} : ((u, vp_updL f 0 x) : XS × (Nat → Int64)).2 0 = x := (pk_uLs : vp_updL f 0 x 0 = x)
theorem n10 : ¬ (1 : Int32) = 0 := by decide
theorem n20 : ¬ (2 : Int32) = 0 := by decide
theorem n30 : ¬ (3 : Int32) = 0 := by decide
theorem q_height {post : Int64 → XS → Prop} {thr : Nat → Prop} {s : MS} {u : XS} (hI : MI s) (hX : XR s u) {a : Int} (ha : bL a) (h0 : ¬ inTab s a → thr 0) (h1 : inTab s a → post (LI (hgt s a)) u) : wX0_height post thr u (LI a) := by
  unfold wX0_height
  refine q_isInTable hI hX ha ?_
  rw [bI_0]
  exact ⟨h0, fun c => q_heightAt hI hX (Decidable.not_not.mp c) (h1 (Decidable.not_not.mp c))⟩
theorem p_height {post : Int64 → YS → Prop} {s : MS} {y : YS} (hI : MI s) (hY : YR s y) {a : Int} (ha : bL a) (h0 : ¬ inTab s a → post 0 (yTh 1 y)) (h1 : inTab s a → post (LI (hgt s a)) (yTh 0 y)) : wX1_height post y (LI a) := by
  unfold wX1_height
  refine p_isInTable hI hY ha ?_
  rw [bI_0, LI_i]
  exact ⟨h0, fun c => p_heightAt hI (YR_th 0 hY) (Decidable.not_not.mp c) (h1 (Decidable.not_not.mp c))⟩
theorem g_c1 {ex : XS → (Nat → Int64) → YS → Prop} (hex : ∀ u9 f9 y9, Rel u9 y9 → ex u9 f9 y9) {s : MS} {u : XS} {y : YS} (f : Nat → Int64) (hI : MI s) (hX : XR s u) (hY : YR s y) (a1 : Int64) : (wL_height (fun r w => (wX1_height (fun r1 y2 => (wX1_thrown (fun r3 => ((r3 = r → ((r = 0 → (((w.2 0) = r1 → (ex w.1 w.2 y2)) ∧ (¬ (w.2 0) = r1 → False))) ∧ (¬ r = 0 → (ex w.1 w.2 y2)))) ∧ (¬ r3 = r → False))) y2)) y a1)) u f a1) := by
  obtain ⟨b1, e1⟩ := LI_of a1
  generalize a1.toInt = z1 at b1 e1
  subst e1
  unfold wL_height
  refine q_height hI hX b1 (fun c => ⟨fun _ => ?_, rfl⟩) (fun c => ?_)
  · exact p_height hI hY b1 (fun _ => an_L rfl (fun z => absurd z n10) (hex _ _ _ ⟨s, hI, hX, YR_th 1 hY⟩)) (fun d => absurd d c)
  · exact p_height hI hY b1 (fun d => absurd c d) (fun _ => an_L rfl (fun _ => up0) (hex _ _ _ ⟨s, hI, hX, YR_th 0 hY⟩))
theorem g_c3 {ex : XS → (Nat → Int64) → YS → Prop} (hex : ∀ u9 f9 y9, Rel u9 y9 → ex u9 f9 y9) {s : MS} {u : XS} {y : YS} (f : Nat → Int64) (hI : MI s) (hX : XR s u) (hY : YR s y) (a1 : Int64) (a2 : Int64) (a3 : Int64) (a4 : Int32) : (wL_span (fun r w => (wX1_span (fun r1 y2 => (wX1_thrown (fun r3 => ((r3 = r → ((r = 0 → (((w.2 0) = (r1).toInt64 → (ex w.1 w.2 y2)) ∧ (¬ (w.2 0) = (r1).toInt64 → False))) ∧ (¬ r = 0 → (ex w.1 w.2 y2)))) ∧ (¬ r3 = r → False))) y2)) y a1 a2 a3 a4)) u f a1 a2 a3 a4) := by
  obtain ⟨b1, e1⟩ := LI_of a1
  generalize a1.toInt = z1 at b1 e1
  subst e1
  obtain ⟨b2, e2⟩ := LI_of a2
  generalize a2.toInt = z2 at b2 e2
  subst e2
  obtain ⟨b3, e3⟩ := LI_of a3
  generalize a3.toInt = z3 at b3 e3
  subst e3
  obtain ⟨b4, e4⟩ := II_of a4
  generalize a4.toInt = z4 at b4 e4
  subst e4
  unfold wL_span
  refine q_span hI hX b1 b2 b3 b4 (fun c => ⟨fun _ => ?_, rfl⟩) (fun c r r1 r2 hr => ?_)
  · exact p_span hI hY b1 b2 b3 b4 (fun _ => an_I rfl (fun z => absurd z n10) (hex _ _ _ ⟨s, hI, hX, YR_th 1 hY⟩)) (fun d => absurd d c)
  · refine p_span hI hY b1 b2 b3 b4 (fun d => absurd c d) (fun _ q q1 q2 hq => an_I rfl (fun _ => ?_) (hex _ _ _ ⟨s, hI, hX, YR_th 0 hY⟩))
    rw [SQ_uniq hr hq]
    exact up0
theorem L30k : (30000 : Int64) = LI 30000 := by decide
theorem q_squat {post : Int64 → XS → Prop} {thr : Nat → Prop} {u : XS} {v d : Int} (hv : bL v) (hd : bL d) (h0 : ¬ ((0 ≤ v ∧ v ≤ 10000) ∧ 0 ≤ d ∧ d ≤ 30000) → thr 0) (h1 : (0 ≤ v ∧ v ≤ 10000) ∧ 0 ≤ d ∧ d ≤ 30000 → post (LI (sqOf v d)) u) : wX0_squat post thr u (LI v) (LI d) := by
  unfold wX0_squat
  rw [L0, L10000, L30000]
  refine q_isWithin hv ⟨by omega, by omega⟩ ⟨by omega, by omega⟩ ?_
  rw [bI_0]
  refine ⟨fun c => h0 (fun z => c z.1), fun c => ?_⟩
  have c := Decidable.not_not.mp c
  refine q_isWithin hd ⟨by omega, by omega⟩ ⟨by omega, by omega⟩ ?_
  rw [bI_0]
  refine ⟨fun e => h0 (fun z => e z.2), fun e => ?_⟩
  have e := Decidable.not_not.mp e
  exact q_squatOf c.1 c.2 e.1 (by omega) (h1 ⟨c, e⟩)
theorem p_squat {post : Int64 → YS → Prop} {s : MS} {y : YS} (hY : YR s y) {v d : Int} (hv : bL v) (hd : bL d) (h0 : ¬ ((0 ≤ v ∧ v ≤ 10000) ∧ 0 ≤ d ∧ d ≤ 30000) → post 0 (yTh 1 y)) (h1 : (0 ≤ v ∧ v ≤ 10000) ∧ 0 ≤ d ∧ d ≤ 30000 → post (LI (sqOf v d)) (yTh 0 y)) : wX1_squat post y (LI v) (LI d) := by
  unfold wX1_squat
  have e0 : (0 : Int64) = LI 0 := L0
  refine (?_ : wX1_in _ _ (LI 0) 10000)
  rw [L10000]
  refine q_in hv ⟨by omega, by omega⟩ ⟨by omega, by omega⟩ ?_
  rw [bI_0]
  refine ⟨fun c => h0 (fun z => c z.1), fun c => ?_⟩
  have c := Decidable.not_not.mp c
  refine (?_ : wX1_in _ _ (LI 0) 30000)
  rw [L30000]
  refine q_in hd ⟨by omega, by omega⟩ ⟨by omega, by omega⟩ ?_
  rw [bI_0]
  refine ⟨fun e => h0 (fun z => e z.2), fun e => ?_⟩
  have e := Decidable.not_not.mp e
  exact p_squatOf (y := yTh 0 y) hY.2.2.2.2.2.2.2 c.1 c.2 e.1 (by omega) (h1 ⟨c, e⟩)
theorem g_c4 {ex : XS → (Nat → Int64) → YS → Prop} (hex : ∀ u9 f9 y9, Rel u9 y9 → ex u9 f9 y9) {s : MS} {u : XS} {y : YS} (f : Nat → Int64) (hI : MI s) (hX : XR s u) (hY : YR s y) (a1 : Int64) (a2 : Int64) : (wL_squat (fun r w => (wX1_squat (fun r1 y2 => (wX1_thrown (fun r3 => ((r3 = r → ((r = 0 → (((w.2 0) = r1 → (ex w.1 w.2 y2)) ∧ (¬ (w.2 0) = r1 → False))) ∧ (¬ r = 0 → (ex w.1 w.2 y2)))) ∧ (¬ r3 = r → False))) y2)) y a1 a2)) u f a1 a2) := by
  obtain ⟨b1, e1⟩ := LI_of a1
  generalize a1.toInt = z1 at b1 e1
  subst e1
  obtain ⟨b2, e2⟩ := LI_of a2
  generalize a2.toInt = z2 at b2 e2
  subst e2
  unfold wL_squat
  refine q_squat b1 b2 (fun c => ⟨fun _ => ?_, rfl⟩) (fun c => ?_)
  · exact p_squat hY b1 b2 (fun _ => an_L rfl (fun z => absurd z n10) (hex _ _ _ ⟨s, hI, hX, YR_th 1 hY⟩)) (fun d => absurd d c)
  · exact p_squat hY b1 b2 (fun d => absurd c d) (fun _ => an_L rfl (fun _ => up0) (hex _ _ _ ⟨s, hI, hX, YR_th 0 hY⟩))
def psOk (w v : Int) : Prop := (0 ≤ w ∧ w ≤ 1000000) ∧ 0 ≤ v ∧ v ≤ 10000
theorem q_passing {post : Int64 → XS → Prop} {thr : Nat → Prop} {u : XS} {w v : Int} (hw : bL w) (hv : bL v) (h0 : ¬ psOk w v → thr 0) (h1 : psOk w v → v = 0 → thr 2) (h2 : psOk w v → v ≠ 0 → post (LI (upD (100 * w) v)) u) : wX0_passing post thr u (LI w) (LI v) := by
  unfold wX0_passing
  rw [L0, L10000, L1M]
  refine q_isWithin hw ⟨by omega, by omega⟩ ⟨by omega, by omega⟩ ?_
  rw [bI_0]
  refine ⟨fun c => h0 (fun z => c z.1), fun c => ?_⟩
  have c := Decidable.not_not.mp c
  refine q_isWithin hv ⟨by omega, by omega⟩ ⟨by omega, by omega⟩ ?_
  rw [bI_0]
  refine ⟨fun e => h0 (fun z => e z.2), fun e => ?_⟩
  have e := Decidable.not_not.mp e
  rw [LI_eq hv ⟨by omega, by omega⟩]
  exact ⟨h1 ⟨c, e⟩, fun n => q_secondsFor c.1 c.2 (by omega) e.2 (h2 ⟨c, e⟩ n)⟩
theorem p_passing {post : Int64 → YS → Prop} {y : YS} {w v : Int} (hw : bL w) (hv : bL v) (h0 : ¬ psOk w v → post 0 (yTh 1 y)) (h1 : psOk w v → v = 0 → post 0 (yTh 2 y)) (h2 : psOk w v → v ≠ 0 → post (LI (upD (100 * w) v)) (yTh 0 y)) : wX1_passing post y (LI w) (LI v) := by
  unfold wX1_passing
  refine (?_ : wX1_in _ _ (LI 0) 1000000)
  rw [L1M]
  refine q_in hw ⟨by omega, by omega⟩ ⟨by omega, by omega⟩ ?_
  rw [bI_0]
  refine ⟨fun c => h0 (fun z => c z.1), fun c => ?_⟩
  have c := Decidable.not_not.mp c
  refine (?_ : wX1_in _ _ (LI 0) 10000)
  rw [L10000]
  refine q_in hv ⟨by omega, by omega⟩ ⟨by omega, by omega⟩ ?_
  rw [bI_0]
  refine ⟨fun e => h0 (fun z => e z.2), fun e => ?_⟩
  have e := Decidable.not_not.mp e
  have k : LI v = 0 ↔ v = 0 := by rw [L0]; exact LI_eq hv ⟨by omega, by omega⟩
  rw [k, L100, LI_mul]
  exact ⟨h1 ⟨c, e⟩, fun n => q_up (by omega) (by omega) (by omega) (by omega) (h2 ⟨c, e⟩ n)⟩
theorem g_c5 {ex : XS → (Nat → Int64) → YS → Prop} (hex : ∀ u9 f9 y9, Rel u9 y9 → ex u9 f9 y9) {s : MS} {u : XS} {y : YS} (f : Nat → Int64) (hI : MI s) (hX : XR s u) (hY : YR s y) (a1 : Int64) (a2 : Int64) : (wL_passing (fun r w => (wX1_passing (fun r1 y2 => (wX1_thrown (fun r3 => ((r3 = r → ((r = 0 → (((w.2 0) = r1 → (ex w.1 w.2 y2)) ∧ (¬ (w.2 0) = r1 → False))) ∧ (¬ r = 0 → (ex w.1 w.2 y2)))) ∧ (¬ r3 = r → False))) y2)) y a1 a2)) u f a1 a2) := by
  obtain ⟨b1, e1⟩ := LI_of a1
  generalize a1.toInt = z1 at b1 e1
  subst e1
  obtain ⟨b2, e2⟩ := LI_of a2
  generalize a2.toInt = z2 at b2 e2
  subst e2
  unfold wL_passing
  refine q_passing b1 b2 (fun c => ⟨fun _ => ?_, fun z => absurd z (by decide), Or.inl rfl⟩) (fun c n => ⟨fun z => absurd z (by decide), fun _ => ?_, Or.inr rfl⟩) (fun c n => ?_)
  · exact p_passing b1 b2 (fun _ => an_L rfl (fun z => absurd z n10) (hex _ _ _ ⟨s, hI, hX, YR_th 1 hY⟩)) (fun d => absurd d c) (fun d => absurd d c)
  · exact p_passing b1 b2 (fun d => absurd c d) (fun _ _ => an_L rfl (fun z => absurd z n20) (hex _ _ _ ⟨s, hI, hX, YR_th 2 hY⟩)) (fun _ d => absurd n d)
  · exact p_passing b1 b2 (fun d => absurd c d) (fun _ d => absurd d n) (fun _ _ => an_L rfl (fun _ => up0) (hex _ _ _ ⟨s, hI, hX, YR_th 0 hY⟩))
theorem g_c6 {ex : XS → (Nat → Int64) → YS → Prop} (hex : ∀ u9 f9 y9, Rel u9 y9 → ex u9 f9 y9) {s : MS} {u : XS} {y : YS} (f : Nat → Int64) (hI : MI s) (hX : XR s u) (hY : YR s y) (a1 : Int32) : (wL_cosine (fun r w => (wX1_cosine (fun r1 y2 => (wX1_thrown (fun r3 => ((r3 = r → ((r = 0 → (((w.2 0) = (r1).toInt64 → (ex w.1 w.2 y2)) ∧ (¬ (w.2 0) = (r1).toInt64 → False))) ∧ (¬ r = 0 → (ex w.1 w.2 y2)))) ∧ (¬ r3 = r → False))) y2)) y a1)) u f a1) := by
  obtain ⟨b1, e1⟩ := II_of a1
  generalize a1.toInt = z1 at b1 e1
  subst e1
  unfold wL_cosine wX0_cosine
  rw [I0, I65, II_lt b1 ⟨by omega, by omega⟩, II_lt b1 ⟨by omega, by omega⟩]
  have bad : ¬ (0 ≤ z1 ∧ z1 < 65) → wX1_cosine (fun r1 y2 => (wX1_thrown (fun r3 => ((r3 = 1 → (((1 : Int32) = 0 → (((f 0) = (r1).toInt64 → (ex u f y2)) ∧ (¬ (f 0) = (r1).toInt64 → False))) ∧ (¬ (1 : Int32) = 0 → (ex u f y2)))) ∧ (¬ r3 = 1 → False))) y2)) y (II z1) := fun c => by
    unfold wX1_cosine
    have go : ∀ r1 : Int32, (fun r1 y2 => (wX1_thrown (fun r3 => ((r3 = 1 → (((1 : Int32) = 0 → (((f 0) = (r1).toInt64 → (ex u f y2)) ∧ (¬ (f 0) = (r1).toInt64 → False))) ∧ (¬ (1 : Int32) = 0 → (ex u f y2)))) ∧ (¬ r3 = 1 → False))) y2)) r1 (yTh 1 y) := fun r1 => an_I (w := (u, f)) rfl (fun z => absurd z n10) (hex _ _ _ ⟨s, hI, hX, YR_th 1 hY⟩)
    refine ⟨fun _ => go 0, fun d => ⟨fun _ => go 0, fun e => absurd ?_ c⟩⟩
    rw [I0, II_lt b1 ⟨by omega, by omega⟩] at d
    rw [I65, II_le ⟨by omega, by omega⟩ b1] at e
    omega
  refine ⟨fun c => ⟨fun _ => bad (by omega), rfl⟩, fun c => ⟨fun d => ⟨vp_II (by omega) (by omega) (by omega), ?_⟩, fun d => ⟨fun _ => bad (by omega), rfl⟩⟩⟩
  unfold wX1_cosine
  have k1 : II z1 < 0 ↔ z1 < 0 := by rw [I0]; exact II_lt b1 ⟨by omega, by omega⟩
  have k2 : 65 ≤ II z1 ↔ 65 ≤ z1 := by rw [I65]; exact II_le ⟨by omega, by omega⟩ b1
  rw [k1, k2]
  refine ⟨fun e => absurd e c, fun _ => ⟨fun e => by omega, fun _ => ⟨vp_II (by omega) (by omega) (by omega), an_I rfl (fun _ => ?_) (hex _ _ _ ⟨s, hI, hX, YR_th 0 hY⟩)⟩⟩⟩
  rw [II_cl b1, hY.2.2.2.2.2.2.1 z1.toNat (by omega)]
  exact up0
def drOk (d b a : Int) : Prop := (0 ≤ d ∧ d ≤ 30000) ∧ (900 ≤ b ∧ b ≤ 1100) ∧ 900 ≤ a ∧ a ≤ 1100
theorem dr_b {d b a : Int} (h : drOk d b a) : 0 ≤ d * b ∧ d * b ≤ 33000000 := by
  obtain ⟨h1, h2, h3⟩ := h
  have e1 : 0 ≤ d * b := Int.mul_nonneg h1.1 (by omega)
  have e2 : d * b ≤ 30000 * 1100 := Int.mul_le_mul h1.2 h2.2 (by omega) (by omega)
  omega
theorem q_draft {post : Int64 → XS → Prop} {thr : Nat → Prop} {u : XS} {d b a : Int} (hd : bL d) (hb : bL b) (ha : bL a) (h0 : ¬ drOk d b a → thr 0) (h1 : drOk d b a → post (LI (upD (d * b) a)) u) : wX0_draft post thr u (LI d) (LI b) (LI a) := by
  unfold wX0_draft
  rw [L0, L30000, LI_mul]
  refine q_isWithin hd ⟨by omega, by omega⟩ ⟨by omega, by omega⟩ ?_
  rw [bI_0]
  refine ⟨fun c => h0 (fun z => c z.1), fun c => ?_⟩
  have c := Decidable.not_not.mp c
  refine q_isDensity hb ?_
  rw [bI_0]
  refine ⟨fun e => h0 (fun z => e z.2.1), fun e => ?_⟩
  have e := Decidable.not_not.mp e
  refine q_isDensity ha ?_
  rw [bI_0]
  refine ⟨fun g => h0 (fun z => g z.2.2), fun g => ?_⟩
  have g := Decidable.not_not.mp g
  have := dr_b ⟨c, e, g⟩
  exact q_dividedUp (by omega) (by omega) (by omega) (by omega) (h1 ⟨c, e, g⟩)
theorem p_draft {post : Int64 → YS → Prop} {y : YS} {d b a : Int} (hd : bL d) (hb : bL b) (ha : bL a) (h0 : ¬ drOk d b a → post 0 (yTh 1 y)) (h1 : drOk d b a → post (LI (upD (d * b) a)) (yTh 0 y)) : wX1_draft post y (LI d) (LI b) (LI a) := by
  unfold wX1_draft
  refine (?_ : wX1_in _ _ (LI 0) 30000)
  rw [L30000, L900, L1100, LI_mul]
  refine q_in hd ⟨by omega, by omega⟩ ⟨by omega, by omega⟩ ?_
  rw [bI_0]
  refine ⟨fun c => h0 (fun z => c z.1), fun c => ?_⟩
  have c := Decidable.not_not.mp c
  refine q_in hb ⟨by omega, by omega⟩ ⟨by omega, by omega⟩ ?_
  rw [bI_0]
  refine ⟨fun e => h0 (fun z => e z.2.1), fun e => ?_⟩
  have e := Decidable.not_not.mp e
  refine q_in ha ⟨by omega, by omega⟩ ⟨by omega, by omega⟩ ?_
  rw [bI_0]
  refine ⟨fun g => h0 (fun z => g z.2.2), fun g => ?_⟩
  have g := Decidable.not_not.mp g
  have := dr_b ⟨c, e, g⟩
  exact q_up (by omega) (by omega) (by omega) (by omega) (h1 ⟨c, e, g⟩)
theorem g_c7 {ex : XS → (Nat → Int64) → YS → Prop} (hex : ∀ u9 f9 y9, Rel u9 y9 → ex u9 f9 y9) {s : MS} {u : XS} {y : YS} (f : Nat → Int64) (hI : MI s) (hX : XR s u) (hY : YR s y) (a1 : Int64) (a2 : Int64) (a3 : Int64) : (wL_draft (fun r w => (wX1_draft (fun r1 y2 => (wX1_thrown (fun r3 => ((r3 = r → ((r = 0 → (((w.2 0) = r1 → (ex w.1 w.2 y2)) ∧ (¬ (w.2 0) = r1 → False))) ∧ (¬ r = 0 → (ex w.1 w.2 y2)))) ∧ (¬ r3 = r → False))) y2)) y a1 a2 a3)) u f a1 a2 a3) := by
  obtain ⟨b1, e1⟩ := LI_of a1
  generalize a1.toInt = z1 at b1 e1
  subst e1
  obtain ⟨b2, e2⟩ := LI_of a2
  generalize a2.toInt = z2 at b2 e2
  subst e2
  obtain ⟨b3, e3⟩ := LI_of a3
  generalize a3.toInt = z3 at b3 e3
  subst e3
  unfold wL_draft
  refine q_draft b1 b2 b3 (fun c => ⟨fun _ => ?_, rfl⟩) (fun c => ?_)
  · exact p_draft b1 b2 b3 (fun _ => an_L rfl (fun z => absurd z n10) (hex _ _ _ ⟨s, hI, hX, YR_th 1 hY⟩)) (fun d => absurd d c)
  · exact p_draft b1 b2 b3 (fun d => absurd c d) (fun _ => an_L rfl (fun _ => up0) (hex _ _ _ ⟨s, hI, hX, YR_th 0 hY⟩))
theorem q_depth {post : Int64 → XS → Prop} {thr : Nat → Prop} {s : MS} {u : XS} (hI : MI s) (hX : XR s u) {p t : Int} (hp : bJ p) (ht : bL t) (h0 : ¬ (0 ≤ p ∧ p < sK s) → thr 3) (h1 : (0 ≤ p ∧ p < sK s) → ¬ inTab s t → thr 0) (h2 : (0 ≤ p ∧ p < sK s) → inTab s t → post (LI (sB s p.toNat + hgt s t)) u) : wX0_depth post thr u (II p) (LI t) := by
  have k12 := hI.2.2.1
  unfold wX0_depth
  rw [hX.2.2.1, I0, II_lt hp ⟨by omega, by omega⟩, nI_I, II_lt hp ⟨by omega, by omega⟩]
  refine ⟨fun c => h0 (by omega), fun c => ⟨fun d => q_isInTable hI hX ht ?_, fun d => h0 (by omega)⟩⟩
  rw [← I0, bI_0]
  have e0 := (hX.2.2.2.2.2 p.toNat (by omega)).2
  refine ⟨fun e => h1 ⟨by omega, d⟩ e, fun e => ⟨vp_II (by omega) (by omega) (by omega), q_heightAt hI hX (Decidable.not_not.mp e) ?_⟩⟩
  rw [II_cl hp, e0, LI_add]
  exact h2 ⟨by omega, d⟩ (Decidable.not_not.mp e)
theorem p_depth {post : Int64 → YS → Prop} {s : MS} {y : YS} (hI : MI s) (hY : YR s y) {p t : Int} (hp : bJ p) (ht : bL t) (h0 : ¬ (0 ≤ p ∧ p < sK s) → post 0 (yTh 1 y)) (h1 : (0 ≤ p ∧ p < sK s) → ¬ inTab s t → post 0 (yTh 2 y)) (h2 : (0 ≤ p ∧ p < sK s) → inTab s t → post (LI (sB s p.toNat + hgt s t)) (yTh 0 y)) : wX1_depth post y (II p) (LI t) := by
  have k12 := hI.2.2.1
  have k1 : II p < 0 ↔ p < 0 := by rw [I0]; exact II_lt hp ⟨by omega, by omega⟩
  have k2 : yNP y ≤ II p ↔ (sK s : Int) ≤ p := by rw [hY.2.2.1, nI_I]; exact II_le ⟨by omega, by omega⟩ hp
  unfold wX1_depth
  rw [k1, k2]
  refine ⟨fun c => h0 (by omega), fun c => ⟨fun d => h0 (by omega), fun d => p_isInTable hI hY ht ?_⟩⟩
  rw [bI_0]
  have e0 := (hY.2.2.2.2.2.1 p.toNat (by omega)).2
  refine ⟨fun e => h1 ⟨by omega, by omega⟩ e, fun e => ⟨vp_II (by omega) (by omega) (by omega), ?_⟩⟩
  rw [LI_i]
  refine p_heightAt hI (YR_th 0 hY) (Decidable.not_not.mp e) ?_
  rw [II_cl hp, e0, LI_add]
  exact h2 ⟨by omega, by omega⟩ (Decidable.not_not.mp e)
theorem g_c9 {ex : XS → (Nat → Int64) → YS → Prop} (hex : ∀ u9 f9 y9, Rel u9 y9 → ex u9 f9 y9) {s : MS} {u : XS} {y : YS} (f : Nat → Int64) (hI : MI s) (hX : XR s u) (hY : YR s y) (a1 : Int32) (a2 : Int64) : (wL_depth (fun r w => (wX1_depth (fun r1 y2 => (wX1_thrown (fun r3 => ((r3 = r → ((r = 0 → (((w.2 0) = r1 → (ex w.1 w.2 y2)) ∧ (¬ (w.2 0) = r1 → False))) ∧ (¬ r = 0 → (ex w.1 w.2 y2)))) ∧ (¬ r3 = r → False))) y2)) y a1 a2)) u f a1 a2) := by
  obtain ⟨b1, e1⟩ := II_of a1
  generalize a1.toInt = z1 at b1 e1
  subst e1
  obtain ⟨b2, e2⟩ := LI_of a2
  generalize a2.toInt = z2 at b2 e2
  subst e2
  unfold wL_depth
  refine q_depth hI hX b1 b2 (fun c => ⟨fun _ => ?_, fun z => absurd z (by decide), Or.inl rfl⟩) (fun c n => ⟨fun z => absurd z (by decide), fun _ => ?_, Or.inr rfl⟩) (fun c n => ?_)
  · exact p_depth hI hY b1 b2 (fun _ => an_L rfl (fun z => absurd z n10) (hex _ _ _ ⟨s, hI, hX, YR_th 1 hY⟩)) (fun d => absurd d c) (fun d => absurd d c)
  · exact p_depth hI hY b1 b2 (fun d => absurd c d) (fun _ _ => an_L rfl (fun z => absurd z n20) (hex _ _ _ ⟨s, hI, hX, YR_th 2 hY⟩)) (fun _ d => absurd d n)
  · exact p_depth hI hY b1 b2 (fun d => absurd c d) (fun _ d => absurd n d) (fun _ _ => an_L rfl (fun _ => up0) (hex _ _ _ ⟨s, hI, hX, YR_th 0 hY⟩))
theorem g_c10 {ex : XS → (Nat → Int64) → YS → Prop} (hex : ∀ u9 f9 y9, Rel u9 y9 → ex u9 f9 y9) {s : MS} {u : XS} {y : YS} (f : Nat → Int64) (hI : MI s) (hX : XR s u) (hY : YR s y) (a1 : Int64) (a2 : Int64) (a3 : Int64) (a4 : Int32) : (wL_sail (fun r w => (wX1_sail (fun r1 y2 => (wX1_thrown (fun r3 => ((r3 = r → ((r = 0 → (((w.2 0) = (r1).toInt64 → (ex w.1 w.2 y2)) ∧ (¬ (w.2 0) = (r1).toInt64 → False))) ∧ (¬ r = 0 → (ex w.1 w.2 y2)))) ∧ (¬ r3 = r → False))) y2)) y a1 a2 a3 a4)) u f a1 a2 a3 a4) := by
  obtain ⟨b1, e1⟩ := LI_of a1
  generalize a1.toInt = z1 at b1 e1
  subst e1
  obtain ⟨b2, e2⟩ := LI_of a2
  generalize a2.toInt = z2 at b2 e2
  subst e2
  obtain ⟨b3, e3⟩ := LI_of a3
  generalize a3.toInt = z3 at b3 e3
  subst e3
  obtain ⟨b4, e4⟩ := II_of a4
  generalize a4.toInt = z4 at b4 e4
  subst e4
  unfold wL_sail
  refine q_sail hI hX b1 b2 b3 b4 (fun c => ⟨fun _ => ?_, fun z => absurd z (by decide), fun z => absurd z (by decide), Or.inl rfl⟩) (fun c n => ⟨fun z => absurd z (by decide), fun _ => ?_, fun z => absurd z (by decide), Or.inr (Or.inl rfl)⟩) (fun c n m => ⟨fun z => absurd z (by decide), fun z => absurd z (by decide), fun _ => ?_, Or.inr (Or.inr rfl)⟩) (fun c n m r r1 r2 hr => ?_)
  · exact p_sail hI hY b1 b2 b3 b4 (fun _ => an_I rfl (fun z => absurd z n10) (hex _ _ _ ⟨s, hI, hX, YR_th 1 hY⟩)) (fun d => absurd d c) (fun d => absurd d c) (fun d => absurd d c)
  · exact p_sail hI hY b1 b2 b3 b4 (fun d => absurd c d) (fun _ _ => an_I rfl (fun z => absurd z n20) (hex _ _ _ ⟨s, hI, hX, YR_th 2 hY⟩)) (fun _ d => absurd n d) (fun _ d => absurd n d)
  · exact p_sail hI hY b1 b2 b3 b4 (fun d => absurd c d) (fun _ d => absurd d n) (fun _ _ _ => an_I rfl (fun z => absurd z n30) (hex _ _ _ ⟨s, hI, hX, YR_th 3 hY⟩)) (fun _ _ d => absurd m d)
  · refine p_sail hI hY b1 b2 b3 b4 (fun d => absurd c d) (fun _ d => absurd d n) (fun _ _ d => absurd d m) (fun _ _ _ q q1 q2 hq => an_I rfl (fun _ => ?_) (hex _ _ _ ⟨s, hI, hX, YR_th 0 hY⟩))
    rw [SL_uniq hr hq]
    exact up0
