/-! observe, place, read, count -/
theorem q_observe {post : Int32 → XS → Prop} {thr : Nat → Prop} {s : MS} {u : XS} (hI : MI s) (hX : XR s u) {t h : Int} (ht : bL t) (hh : bL h) (h0 : ¬ obOk s t h → thr 0) (h1 : obOk s t h → sM s = 16 → thr 1) (h2 : obOk s t h → sM s < 16 → post (nI (sM s + 1)) (xObs u (LI t) (LI (h - tab s t)))) : wX0_observe post thr u (LI t) (LI h) := by
  have n16 := hI.2.1
  unfold wX0_observe
  refine q_isInTable hI hX ht ?_
  rw [bI_0]
  refine ⟨fun c => h0 (fun z => c z.1), fun c => ?_⟩
  have c := Decidable.not_not.mp c
  refine q_isLevel hh ?_
  rw [bI_0]
  refine ⟨fun d => h0 (fun z => d z.2.1), fun d => ?_⟩
  have d := Decidable.not_not.mp d
  have k1 : xNO u ≤ 0 ↔ sM s = 0 := by rw [hX.2.1, show (0 : Int32) = nI 0 by decide, ni_le (by omega) (by omega)]; omega
  have k2 : xNO u < 16 ↔ sM s < 16 := by rw [hX.2.1, show (16 : Int32) = nI 16 by decide, ni_lt (by omega) (by omega)]
  rw [k1, k2]
  have en : xNO u + 1 = nI (sM s + 1) := by rw [hX.2.1, nI_1]
  have fin : obOk s t h → sM s < 16 → (vp_in (xNO u) 16 ∧ (wX0_tableHeight (fun r8 => (vp_in (xNO u) 16 ∧ (post ((xNO u) + 1) (xObs u (LI t) (LI h - r8))))) (xObs1 u (LI t)) (LI t))) := fun ok lt => by
    have v : vp_in (xNO u) 16 := by rw [hX.2.1]; exact nI_v lt (by omega)
    refine ⟨v, q_tableHeight hI (XR_obs1 hI hX (LI t)) c ⟨v, ?_⟩⟩
    have k := h2 ok lt
    rw [← en] at k
    rw [LI_sub]
    exact k
  refine ⟨fun e => ⟨fun g => fin ⟨c, d, Or.inl e⟩ g, fun g => by omega⟩, fun e => ?_⟩
  have x1 := (hX.2.2.2.2.1 (sM s - 1) (by omega)).1
  have b1 := hI.2.2.2.2.2.1 (sM s - 1) (by omega)
  have em : (xNO u - 1).toNatClampNeg = sM s - 1 := by rw [hX.2.1]; exact nI_m (by omega) (by omega)
  have v1 : vp_in (xNO u - 1) 16 := by rw [hX.2.1]; exact nI_v1 (by omega) n16 (by omega)
  rw [em, x1, LI_le ⟨by omega, by omega⟩ ht]
  exact ⟨v1, fun g => ⟨fun w => fin ⟨c, d, Or.inr g⟩ w, fun w => h1 ⟨c, d, Or.inr g⟩ (by omega)⟩, fun g => h0 (fun z => by have := z.2.2; omega)⟩
theorem p_observe {post : Int32 → YS → Prop} {s : MS} {y : YS} (hI : MI s) (hY : YR s y) {t h : Int} (ht : bL t) (hh : bL h) (h0 : ¬ obOk s t h → post 0 (yTh 1 y)) (h1 : obOk s t h → sM s = 16 → post 0 (yTh 2 y)) (h2 : obOk s t h → sM s < 16 → post (nI (sM s + 1)) (yObs y (LI t) (LI (h - tab s t)))) : wX1_observe post y (LI t) (LI h) := by
  have n16 := hI.2.1
  unfold wX1_observe
  refine p_isInTable hI hY ht ?_
  rw [bI_0]
  refine ⟨fun c => h0 (fun z => c z.1), fun c => ?_⟩
  have c := Decidable.not_not.mp c
  have k0 : yNO y = 0 ↔ sM s = 0 := by rw [hY.2.1, show (0 : Int32) = nI 0 by decide, nI_e (by omega) (by omega)]
  have k1 : yNO y ≤ 0 ↔ sM s = 0 := by rw [hY.2.1, show (0 : Int32) = nI 0 by decide, ni_le (by omega) (by omega)]; omega
  have k2 : yNO y = 16 ↔ sM s = 16 := by rw [hY.2.1, show (16 : Int32) = nI 16 by decide, nI_e (by omega) (by omega)]
  have en : yNO y + 1 = nI (sM s + 1) := by rw [hY.2.1, nI_1]
  simp only [k0, k1, k2]
  have fin : (sM s = 0 ∨ sO s (sM s - 1) ≤ t) → wX1_isHeight (fun r6 => ((r6 = 0 → (post 0 (yTh 1 y))) ∧ (¬ r6 = 0 → ((sM s = 16 → (post 0 (yTh 2 y))) ∧ (¬ sM s = 16 → (vp_in (yNO y) 16 ∧ (wX1_tableHeight (fun r14 => (vp_in (yNO y) 16 ∧ (post ((yNO y) + 1) (yObs y (LI t) (LI h - r14))))) (yObs1 y (LI t)) (LI t).toInt32))))))) (LI h) := fun o => by
    refine q_isHeight hh ?_
    rw [bI_0]
    refine ⟨fun d => h0 (fun z => d z.2.1), fun d => ?_⟩
    have d := Decidable.not_not.mp d
    refine ⟨fun e => h1 ⟨c, d, o⟩ e, fun e => ?_⟩
    have v : vp_in (yNO y) 16 := by rw [hY.2.1]; exact nI_v (by omega) (by omega)
    rw [LI_i]
    refine ⟨v, p_tableHeight hI (YR_obs1 hI hY (LI t)) c ⟨v, ?_⟩⟩
    have k := h2 ⟨c, d, o⟩ (by omega)
    rw [← en] at k
    rw [LI_sub]
    exact k
  refine ⟨fun e => fin (Or.inl e), fun e => ⟨fun g => absurd g e, fun _ => ?_⟩⟩
  have x1 := (hY.2.2.2.2.1 (sM s - 1) (by omega)).1
  have b1 := hI.2.2.2.2.2.1 (sM s - 1) (by omega)
  have em : (yNO y - 1).toNatClampNeg = sM s - 1 := by rw [hY.2.1]; exact nI_m (by omega) (by omega)
  have v1 : vp_in (yNO y - 1) 16 := by rw [hY.2.1]; exact nI_v1 (by omega) n16 (by omega)
  rw [em, x1, II_l ⟨by omega, by omega⟩, LI_lt ht ⟨by omega, by omega⟩]
  exact ⟨v1, fun g => h0 (fun z => by have := z.2.2; omega), fun g => fin (Or.inr (by omega))⟩
theorem g_c2 {ex : XS → (Nat → Int64) → YS → Prop} (hex : ∀ u9 f9 y9, Rel u9 y9 → ex u9 f9 y9) {s : MS} {u : XS} {y : YS} (f : Nat → Int64) (hI : MI s) (hX : XR s u) (hY : YR s y) (a1 : Int64) (a2 : Int64) : (wL_observe (fun r w => (wX1_observe (fun r1 y2 => (wX1_thrown (fun r3 => ((r3 = r → ((r = 0 → (((w.2 0) = (r1).toInt64 → (ex w.1 w.2 y2)) ∧ (¬ (w.2 0) = (r1).toInt64 → False))) ∧ (¬ r = 0 → (ex w.1 w.2 y2)))) ∧ (¬ r3 = r → False))) y2)) y a1 a2)) u f a1 a2) := by
  obtain ⟨b1, e1⟩ := LI_of a1
  generalize a1.toInt = z1 at b1 e1
  subst e1
  obtain ⟨b2, e2⟩ := LI_of a2
  generalize a2.toInt = z2 at b2 e2
  subst e2
  unfold wL_observe
  refine q_observe hI hX b1 b2 (fun c => ⟨fun _ => ?_, fun z => absurd z (by decide), Or.inl rfl⟩) (fun c n => ⟨fun z => absurd z (by decide), fun _ => ?_, Or.inr rfl⟩) (fun c n => ?_)
  · exact p_observe hI hY b1 b2 (fun _ => an_I rfl (fun z => absurd z n10) (hex _ _ _ ⟨s, hI, hX, YR_th 1 hY⟩)) (fun d => absurd d c) (fun d => absurd d c)
  · exact p_observe hI hY b1 b2 (fun d => absurd c d) (fun _ _ => an_I rfl (fun z => absurd z n20) (hex _ _ _ ⟨s, hI, hX, YR_th 2 hY⟩)) (fun _ d => by omega)
  · exact p_observe hI hY b1 b2 (fun d => absurd c d) (fun _ d => by omega) (fun _ _ => an_I rfl (fun _ => up0) (hex _ _ _ ⟨obS s z1 (z2 - tab s z1), MI_obs hI c n, XR_obs hI hX z1 _, YR_obs hI hY z1 _⟩))
theorem nI_pm (n : Nat) : nI n + 1 - 1 = nI n := by rw [nI_I, I1, II_add, II_sub, show (n : Int) + 1 - 1 = n by omega]
theorem q_place {post : Int32 → XS → Prop} {thr : Nat → Prop} {s : MS} {u : XS} (hI : MI s) (hX : XR s u) {w b : Int} (hw : bL w) (hb : bL b) (h0 : ¬ plOk s w b → thr 0) (h1 : plOk s w b → sK s = 12 → thr 1) (h2 : plOk s w b → sK s < 12 → post (nI (sK s)) (xPl u (LI w) (LI b))) : wX0_place post thr u (LI w) (LI b) := by
  have n12 := hI.2.2.1
  unfold wX0_place
  rw [L0, L1M]
  refine q_isWithin hw ⟨by omega, by omega⟩ ⟨by omega, by omega⟩ ?_
  rw [bI_0]
  refine ⟨fun c => h0 (fun z => c z.1), fun c => ?_⟩
  have c := Decidable.not_not.mp c
  refine q_isLevel hb ?_
  rw [bI_0]
  refine ⟨fun d => h0 (fun z => d z.2.1), fun d => ?_⟩
  have d := Decidable.not_not.mp d
  have k1 : xNP u ≤ 0 ↔ sK s = 0 := by rw [hX.2.2.1, show (0 : Int32) = nI 0 by decide, ni_le (by omega) (by omega)]; omega
  have k2 : xNP u < 12 ↔ sK s < 12 := by rw [hX.2.2.1, show (12 : Int32) = nI 12 by decide, ni_lt (by omega) (by omega)]
  have en : xNP u + 1 - 1 = nI (sK s) := by rw [hX.2.2.1]; exact nI_pm _
  rw [k1, k2, en]
  have fin : plOk s w b → sK s < 12 → (vp_in (xNP u) 12 ∧ (vp_in (xNP u) 12 ∧ (post (nI (sK s)) (xPl u (LI w) (LI b))))) := fun ok lt => by
    have v : vp_in (xNP u) 12 := by rw [hX.2.2.1]; exact nI_v lt (by omega)
    exact ⟨v, v, h2 ok lt⟩
  refine ⟨fun e => ⟨fun g => fin ⟨c, d, Or.inl e⟩ g, fun g => by omega⟩, fun e => ?_⟩
  have x1 := (hX.2.2.2.2.2 (sK s - 1) (by omega)).1
  have b1 := hI.2.2.2.2.2.2.2 (sK s - 1) (by omega)
  have em : (xNP u - 1).toNatClampNeg = sK s - 1 := by rw [hX.2.2.1]; exact nI_m (by omega) (by omega)
  have v1 : vp_in (xNP u - 1) 12 := by rw [hX.2.2.1]; exact nI_v1 (by omega) n12 (by omega)
  rw [em, x1, LI_lt ⟨by omega, by omega⟩ hw]
  exact ⟨v1, fun g => ⟨fun q => fin ⟨c, d, Or.inr g⟩ q, fun q => h1 ⟨c, d, Or.inr g⟩ (by omega)⟩, fun g => h0 (fun z => by have := z.2.2; omega)⟩
theorem p_place {post : Int32 → YS → Prop} {s : MS} {y : YS} (hI : MI s) (hY : YR s y) {w b : Int} (hw : bL w) (hb : bL b) (h0 : ¬ plOk s w b → post 0 (yTh 1 y)) (h1 : plOk s w b → sK s = 12 → post 0 (yTh 2 y)) (h2 : plOk s w b → sK s < 12 → post (nI (sK s)) (yPl y (LI w) (LI b))) : wX1_place post y (LI w) (LI b) := by
  have n12 := hI.2.2.1
  unfold wX1_place
  refine (?_ : wX1_in _ _ (LI 0) 1000000)
  rw [L1M]
  refine q_in hw ⟨by omega, by omega⟩ ⟨by omega, by omega⟩ ?_
  rw [bI_0]
  refine ⟨fun c => h0 (fun z => c z.1), fun c => ?_⟩
  have c := Decidable.not_not.mp c
  have k0 : yNP y = 0 ↔ sK s = 0 := by rw [hY.2.2.1, show (0 : Int32) = nI 0 by decide, nI_e (by omega) (by omega)]
  have k1 : yNP y ≤ 0 ↔ sK s = 0 := by rw [hY.2.2.1, show (0 : Int32) = nI 0 by decide, ni_le (by omega) (by omega)]; omega
  have k2 : yNP y = 12 ↔ sK s = 12 := by rw [hY.2.2.1, show (12 : Int32) = nI 12 by decide, nI_e (by omega) (by omega)]
  have en : yNP y + 1 - 1 = nI (sK s) := by rw [hY.2.2.1]; exact nI_pm _
  simp only [k0, k1, k2, en]
  have fin : (sK s = 0 ∨ sW s (sK s - 1) < w) → wX1_isHeight (fun r6 => ((r6 = 0 → (post 0 (yTh 1 y))) ∧ (¬ r6 = 0 → ((sK s = 12 → (post 0 (yTh 2 y))) ∧ (¬ sK s = 12 → (vp_in (yNP y) 12 ∧ (vp_in (yNP y) 12 ∧ (post (nI (sK s)) (yPl y (LI w) (LI b)))))))))) (LI b) := fun o => by
    refine q_isHeight hb ?_
    rw [bI_0]
    refine ⟨fun d => h0 (fun z => d z.2.1), fun d => ?_⟩
    have d := Decidable.not_not.mp d
    refine ⟨fun e => h1 ⟨c, d, o⟩ e, fun e => ?_⟩
    have v : vp_in (yNP y) 12 := by rw [hY.2.2.1]; exact nI_v (by omega) (by omega)
    exact ⟨v, v, h2 ⟨c, d, o⟩ (by omega)⟩
  refine ⟨fun e => fin (Or.inl e), fun e => ⟨fun g => absurd g e, fun _ => ?_⟩⟩
  have x1 := (hY.2.2.2.2.2.1 (sK s - 1) (by omega)).1
  have b1 := hI.2.2.2.2.2.2.2 (sK s - 1) (by omega)
  have em : (yNP y - 1).toNatClampNeg = sK s - 1 := by rw [hY.2.2.1]; exact nI_m (by omega) (by omega)
  have v1 : vp_in (yNP y - 1) 12 := by rw [hY.2.2.1]; exact nI_v1 (by omega) n12 (by omega)
  rw [em, x1, LI_le hw ⟨by omega, by omega⟩]
  exact ⟨v1, fun g => h0 (fun z => by have := z.2.2; omega), fun g => fin (Or.inr (by omega))⟩
theorem g_c8 {ex : XS → (Nat → Int64) → YS → Prop} (hex : ∀ u9 f9 y9, Rel u9 y9 → ex u9 f9 y9) {s : MS} {u : XS} {y : YS} (f : Nat → Int64) (hI : MI s) (hX : XR s u) (hY : YR s y) (a1 : Int64) (a2 : Int64) : (wL_place (fun r w => (wX1_place (fun r1 y2 => (wX1_thrown (fun r3 => ((r3 = r → ((r = 0 → (((w.2 0) = (r1).toInt64 → (ex w.1 w.2 y2)) ∧ (¬ (w.2 0) = (r1).toInt64 → False))) ∧ (¬ r = 0 → (ex w.1 w.2 y2)))) ∧ (¬ r3 = r → False))) y2)) y a1 a2)) u f a1 a2) := by
  obtain ⟨b1, e1⟩ := LI_of a1
  generalize a1.toInt = z1 at b1 e1
  subst e1
  obtain ⟨b2, e2⟩ := LI_of a2
  generalize a2.toInt = z2 at b2 e2
  subst e2
  unfold wL_place
  refine q_place hI hX b1 b2 (fun c => ⟨fun _ => ?_, fun z => absurd z (by decide), Or.inl rfl⟩) (fun c n => ⟨fun z => absurd z (by decide), fun _ => ?_, Or.inr rfl⟩) (fun c n => ?_)
  · exact p_place hI hY b1 b2 (fun _ => an_I rfl (fun z => absurd z n10) (hex _ _ _ ⟨s, hI, hX, YR_th 1 hY⟩)) (fun d => absurd d c) (fun d => absurd d c)
  · exact p_place hI hY b1 b2 (fun d => absurd c d) (fun _ _ => an_I rfl (fun z => absurd z n20) (hex _ _ _ ⟨s, hI, hX, YR_th 2 hY⟩)) (fun _ d => by omega)
  · exact p_place hI hY b1 b2 (fun d => absurd c d) (fun _ d => by omega) (fun _ _ => an_I rfl (fun _ => up0) (hex _ _ _ ⟨plS s z1 z2, MI_pl hI c n, XR_pl hI hX z1 z2, YR_pl hI hY z1 z2⟩))
def cnt (s : MS) (z : Int) : Int := if z = 0 then sN s else if z = 1 then sM s else if z = 2 then sK s else if z = 3 then fst s else if z = 4 then lst s else -1
theorem q_count {post : Int32 → Prop} {s : MS} {u : XS} (hI : MI s) (hX : XR s u) {z : Int} (hz : bJ z) (h : post (II (cnt s z))) : wX0_count post u (II z) := by
  unfold cnt at h
  unfold wX0_count
  rw [hX.1, hX.2.1, hX.2.2.1, I0, I1, I2, I3, I4, II_eq hz ⟨by omega, by omega⟩, II_eq hz ⟨by omega, by omega⟩, II_eq hz ⟨by omega, by omega⟩, II_eq hz ⟨by omega, by omega⟩, II_eq hz ⟨by omega, by omega⟩]
  refine ⟨fun c => ?_, fun c => ?_⟩
  · rw [if_pos c] at h; rw [nI_I]; exact h
  rw [if_neg c] at h
  refine ⟨fun c => ?_, fun c => ?_⟩
  · rw [if_pos c] at h; rw [nI_I]; exact h
  rw [if_neg c] at h
  refine ⟨fun c => ?_, fun c => ?_⟩
  · rw [if_pos c] at h; rw [nI_I]; exact h
  rw [if_neg c] at h
  refine ⟨fun c => ?_, fun c => ?_⟩
  · rw [if_pos c] at h
    exact q_firstSecond hI hX (by rw [LI_i]; exact h)
  rw [if_neg c] at h
  refine ⟨fun c => ?_, fun c => ?_⟩
  · rw [if_pos c] at h
    exact q_lastSecond hI hX (by rw [LI_i]; exact h)
  rw [if_neg c] at h
  rw [II_neg]
  exact h
theorem p_count {post : Int32 → YS → Prop} {s : MS} {y : YS} (hI : MI s) (hY : YR s y) {z : Int} (hz : bJ z) (h : post (II (cnt s z)) (yTh 0 y)) : wX1_count post y (II z) := by
  have n40 := hI.1
  have k0 : II z = 0 ↔ z = 0 := by rw [I0]; exact II_eq hz ⟨by omega, by omega⟩
  have k1 : II z = 1 ↔ z = 1 := by rw [I1]; exact II_eq hz ⟨by omega, by omega⟩
  have k2 : II z = 2 ↔ z = 2 := by rw [I2]; exact II_eq hz ⟨by omega, by omega⟩
  have k3 : II z = 3 ↔ z = 3 := by rw [I3]; exact II_eq hz ⟨by omega, by omega⟩
  have k4 : II z = 4 ↔ z = 4 := by rw [I4]; exact II_eq hz ⟨by omega, by omega⟩
  have k5 : yNT y ≤ 1 ↔ sN s ≤ 1 := by rw [hY.1, show (1 : Int32) = nI 1 by decide, ni_le (by omega) (by omega)]
  unfold cnt at h
  unfold wX1_count
  rw [k0, k1, k2, k3, k4, k5]
  refine ⟨fun c => ?_, fun c => ?_⟩
  · rw [if_pos c, II_n, ← hY.1] at h; exact h
  rw [if_neg c] at h
  refine ⟨fun c => ?_, fun c => ?_⟩
  · rw [if_pos c, II_n, ← hY.2.1] at h; exact h
  rw [if_neg c] at h
  refine ⟨fun c => ?_, fun c => ?_⟩
  · rw [if_pos c, II_n, ← hY.2.2.1] at h; exact h
  rw [if_neg c] at h
  refine ⟨fun c => ?_, fun c => ?_⟩
  · rw [if_pos c] at h
    unfold fst at h
    refine ⟨fun d => ?_, fun d => ?_⟩
    · rw [if_neg (by omega), ← Im1] at h; exact h
    · rw [if_pos (by omega), ← (hY.2.2.2.1 0 (by omega)).1] at h; exact h
  rw [if_neg c] at h
  refine ⟨fun c => ?_, fun c => ?_⟩
  · rw [if_pos c] at h
    unfold lst at h
    refine ⟨fun d => ?_, fun d => ?_⟩
    · rw [if_neg (by omega), ← Im1] at h; exact h
    · have em : (yNT y - 1).toNatClampNeg = sN s - 1 := by rw [hY.1]; exact nI_m (by omega) (by omega)
      have v1 : vp_in (yNT y - 1) 40 := by rw [hY.1]; exact nI_v1 (by omega) n40 (by omega)
      rw [if_pos (by omega), ← (hY.2.2.2.1 (sN s - 1) (by omega)).1] at h
      rw [em]
      exact ⟨v1, h⟩
  rw [if_neg c, ← Im1] at h
  exact h
theorem g_c12 {ex : XS → (Nat → Int64) → YS → Prop} (hex : ∀ u9 f9 y9, Rel u9 y9 → ex u9 f9 y9) {s : MS} {u : XS} {y : YS} (f : Nat → Int64) (hI : MI s) (hX : XR s u) (hY : YR s y) (a1 : Int32) : (wX0_count (fun r1 => (wX1_count (fun r2 y3 => ((r1 = r2 → (ex u f y3)) ∧ (¬ r1 = r2 → False))) y a1)) u a1) := by
  obtain ⟨b1, e1⟩ := II_of a1
  generalize a1.toInt = z1 at b1 e1
  subst e1
  refine q_count hI hX b1 (p_count hI hY b1 ?_)
  exact ⟨fun _ => hex _ _ _ ⟨s, hI, hX, YR_th 0 hY⟩, fun q => q rfl⟩
def rdOk (s : MS) (i w : Int) : Prop := (0 ≤ i ∧ i < sN s ∧ (w = 0 ∨ w = 1)) ∨ (100 ≤ i ∧ i - 100 < sM s ∧ (w = 2 ∨ w = 3))
def rdV (s : MS) (i w : Int) : Int := if w = 0 then sT s i.toNat else if w = 1 then sH s i.toNat else if w = 2 then sO s (i - 100).toNat else sD s (i - 100).toNat
theorem rd_0 {s : MS} {i w : Int} (h : w = 0) : rdV s i w = sT s i.toNat := if_pos h
theorem rd_1 {s : MS} {i w : Int} (h : w = 1) : rdV s i w = sH s i.toNat := by unfold rdV; rw [if_neg (by omega), if_pos h]
theorem rd_2 {s : MS} {i w : Int} (h : w = 2) : rdV s i w = sO s (i - 100).toNat := by unfold rdV; rw [if_neg (by omega), if_neg (by omega), if_pos h]
theorem rd_3 {s : MS} {i w : Int} (h : w = 3) : rdV s i w = sD s (i - 100).toNat := by unfold rdV; rw [if_neg (by omega), if_neg (by omega), if_neg (by omega)]
theorem q_read {post : Int64 → XS → Prop} {thr : Nat → Prop} {s : MS} {u : XS} (hI : MI s) (hX : XR s u) {i w : Int} (hi : bJ i) (hw : bJ w) (h0 : ¬ rdOk s i w → thr 3) (h1 : rdOk s i w → post (LI (rdV s i w)) u) : wX0_read post thr u (II i) (II w) := by
  have n40 := hI.1
  have n16 := hI.2.1
  unfold rdOk at h0 h1
  unfold wX0_read
  have k0 : II w = 0 ↔ w = 0 := by rw [I0]; exact II_eq hw ⟨by omega, by omega⟩
  have k1 : II w = 1 ↔ w = 1 := by rw [I1]; exact II_eq hw ⟨by omega, by omega⟩
  have k2 : II w = 2 ↔ w = 2 := by rw [I2]; exact II_eq hw ⟨by omega, by omega⟩
  have k3 : II w = 3 ↔ w = 3 := by rw [I3]; exact II_eq hw ⟨by omega, by omega⟩
  have k4 : II i < 0 ↔ i < 0 := by rw [I0]; exact II_lt hi ⟨by omega, by omega⟩
  have k5 : II i < 100 ↔ i < 100 := by rw [I100]; exact II_lt hi ⟨by omega, by omega⟩
  have k6 : xNT u ≤ II i ↔ (sN s : Int) ≤ i := by rw [hX.1, nI_I]; exact II_le ⟨by omega, by omega⟩ hi
  simp only [k0, k1, k2, k3, k4, k5, k6]
  have hO : 100 ≤ i → w = 2 → (((xNO u) ≤ (II i - 100) → (thr 3)) ∧ (¬ (xNO u) ≤ (II i - 100) → (vp_in (II i - 100) 16 ∧ (post ((xOT u) ((II i - 100)).toNatClampNeg) u)))) := fun c d => by
    rw [hX.2.1, nI_I, I100, II_sub, II_le ⟨by omega, by omega⟩ ⟨by omega, by have := hi.2; omega⟩]
    refine ⟨fun e => h0 (by omega), fun e => ⟨vp_II (by omega) (by omega) (by omega), ?_⟩⟩
    have k := h1 (by omega)
    rw [rd_2 d, ← (hX.2.2.2.2.1 (i - 100).toNat (by omega)).1] at k
    rw [II_cl ⟨by omega, by omega⟩]
    exact k
  have hD : 100 ≤ i → w = 3 → (((xNO u) ≤ (II i - 100) → (thr 3)) ∧ (¬ (xNO u) ≤ (II i - 100) → (vp_in (II i - 100) 16 ∧ (post ((xOD u) ((II i - 100)).toNatClampNeg) u)))) := fun c d => by
    rw [hX.2.1, nI_I, I100, II_sub, II_le ⟨by omega, by omega⟩ ⟨by omega, by have := hi.2; omega⟩]
    refine ⟨fun e => h0 (by omega), fun e => ⟨vp_II (by omega) (by omega) (by omega), ?_⟩⟩
    have k := h1 (by omega)
    rw [rd_3 d, ← (hX.2.2.2.2.1 (i - 100).toNat (by omega)).2] at k
    rw [II_cl ⟨by omega, by omega⟩]
    exact k
  have hT : 0 ≤ i → i < sN s → w = 0 → (vp_in (II i) 40 ∧ (post ((xTT u) (II i).toNatClampNeg) u)) := fun c d e => by
    have k := h1 (by omega)
    rw [rd_0 e, ← (hX.2.2.2.1 i.toNat (by omega)).1] at k
    rw [II_cl hi]
    exact ⟨vp_II (by omega) (by omega) (by omega), k⟩
  have hH : 0 ≤ i → i < sN s → w = 1 → (vp_in (II i) 40 ∧ (post ((xTH u) (II i).toNatClampNeg) u)) := fun c d e => by
    have k := h1 (by omega)
    rw [rd_1 e, ← (hX.2.2.2.1 i.toNat (by omega)).2] at k
    rw [II_cl hi]
    exact ⟨vp_II (by omega) (by omega) (by omega), k⟩
  have rest : (¬ (0 ≤ i ∧ i < sN s ∧ (w = 0 ∨ w = 1))) → ((w = 2 → ((i < 100 → (thr 3)) ∧ (¬ i < 100 → (((xNO u) ≤ (II i - 100) → (thr 3)) ∧ (¬ (xNO u) ≤ (II i - 100) → (vp_in (II i - 100) 16 ∧ (post ((xOT u) ((II i - 100)).toNatClampNeg) u))))))) ∧ (¬ w = 2 → ((w = 3 → ((i < 100 → (thr 3)) ∧ (¬ i < 100 → (((xNO u) ≤ (II i - 100) → (thr 3)) ∧ (¬ (xNO u) ≤ (II i - 100) → (vp_in (II i - 100) 16 ∧ (post ((xOD u) ((II i - 100)).toNatClampNeg) u))))))) ∧ (¬ w = 3 → (thr 3))))) := fun n =>
    ⟨fun c => ⟨fun d => h0 (by omega), fun d => hO (by omega) c⟩, fun c => ⟨fun e => ⟨fun d => h0 (by omega), fun d => hD (by omega) e⟩, fun e => h0 (by omega)⟩⟩
  exact ⟨fun c => ⟨fun d => rest (by omega), fun d => ⟨fun e => rest (by omega), fun e => hT (by omega) (by omega) c⟩⟩, fun c => ⟨fun c1 => ⟨fun d => rest (by omega), fun d => ⟨fun e => rest (by omega), fun e => hH (by omega) (by omega) c1⟩⟩, fun c1 => rest (by omega)⟩⟩
