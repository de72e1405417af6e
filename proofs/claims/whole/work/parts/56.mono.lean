/-! between two turns, the correction the same, the height only rises or only falls -/
theorem cos_mono : ∀ a, a < 65 → ∀ b, b < 65 → a ≤ b → cosI a ≤ cosI b := by decide +kernel
theorem part_w {w : Int} (hw : 0 < w) : part w w = 32768 := by
  unfold part
  rw [show 64 * w / w = 64 from Int.mul_ediv_cancel _ (by omega), show 64 * w - 64 * w = 0 by omega]
  simp
  decide +kernel
theorem part_mono {g g2 w : Int} (hg : 0 ≤ g) (h : g ≤ g2) (hw : g2 ≤ w) (hw0 : 0 < w) : part g w ≤ part g2 w := by
  rcases Int.lt_or_le g2 w with z | z
  · obtain ⟨a1, a2, a3, a4⟩ := part_q hg (show g < w by omega)
    obtain ⟨b1, b2, b3, b4⟩ := part_q (show 0 ≤ g2 by omega) z
    have hq : 64 * g / w ≤ 64 * g2 / w := Int.ediv_le_ediv hw0 (by omega)
    unfold part
    rcases Int.lt_or_le (64 * g / w) (64 * g2 / w) with y | y
    · generalize 64 * g / w = q at *
      generalize 64 * g2 / w = q2 at *
      generalize hr : 64 * g - q * w = r at *
      generalize hr2 : 64 * g2 - q2 * w = r2 at *
      have c1 := cos_m q.toNat (by omega)
      have c2 := cos_m q2.toNat (by omega)
      have c3 := cos_mono (q.toNat + 1) (by omega) q2.toNat (by omega) (by omega)
      have s1 := step_b (d := cosI (q.toNat + 1) - cosI q.toNat) (r := r) (w := w) (by omega) a3 a4
      have s2 := step_b (d := cosI (q2.toNat + 1) - cosI q2.toNat) (r := r2) (w := w) (by omega) b3 b4
      omega
    · have e : 64 * g2 / w = 64 * g / w := by omega
      rw [e] at b3 b4 ⊢
      generalize 64 * g / w = q at *
      have c1 := cos_m q.toNat (by omega)
      have m : (cosI (q.toNat + 1) - cosI q.toNat) * (64 * g - q * w) ≤ (cosI (q.toNat + 1) - cosI q.toNat) * (64 * g2 - q * w) := Int.mul_le_mul_of_nonneg_left (by omega) (by omega)
      have := Int.ediv_le_ediv hw0 m
      omega
  · have e : g2 = w := by omega
    subst e
    rw [part_w hw0]
    rcases Int.lt_or_le g g2 with y | y
    · exact (part_b hg y).2
    · rw [show g = g2 by omega, part_w hw0]; omega
theorem tab_seg {s : MS} (hI : MI s) {i : Nat} (hi : i + 1 < sN s) {x : Int} (h1 : sT s i ≤ x) (h2 : x ≤ sT s (i + 1)) : tab s x = seg s i x := by
  rcases Int.lt_or_le x (sT s (i + 1)) with z | z
  · have e : lastLE (sT s) x (sN s) = some i := lastLE_is (by omega) h1 (fun j hj hn => by
      by_cases c : j = i + 1
      · subst c; exact z
      · have := hI.2.2.2.2.1 (i + 1) j (by omega) hn; omega)
    unfold tab
    rw [e]
    exact if_pos hi
  · have ex : x = sT s (i + 1) := by omega
    have e : lastLE (sT s) x (sN s) = some (i + 1) := lastLE_is hi (by omega) (fun j hj hn => by
      have := hI.2.2.2.2.1 (i + 1) j hj hn; omega)
    have e2 : tab s x = sH s (i + 1) := by
      unfold tab
      rw [e]
      show (if i + 1 + 1 < sN s then seg s (i + 1) x else sH s (i + 1)) = _
      rw [seg_0 ex.symm]
      split <;> rfl
    have hl := hI.2.2.2.2.1 i (i + 1) (by omega) hi
    rw [e2]
    unfold seg
    rw [ex, part_w (by omega), Int.mul_ediv_cancel _ (by omega)]
    omega
/-- rises or falls from a to b -/
def Mono (s : MS) (a b : Int) : Prop := (∀ x y, a ≤ x → x ≤ y → y ≤ b → hgt s x ≤ hgt s y) ∨ (∀ x y, a ≤ x → x ≤ y → y ≤ b → hgt s y ≤ hgt s x)
theorem mono_of {s : MS} (hI : MI s) {i : Nat} (hi : i + 1 < sN s) {a b : Int} (h1 : sT s i ≤ a) (h2 : b ≤ sT s (i + 1)) (hc : ∀ x, a ≤ x → x ≤ b → corr s x = corr s a) : Mono s a b := by
  have hl := hI.2.2.2.2.1 i (i + 1) (by omega) hi
  have key : ∀ x y, a ≤ x → x ≤ y → y ≤ b → part (x - sT s i) (sT s (i + 1) - sT s i) ≤ part (y - sT s i) (sT s (i + 1) - sT s i) := fun x y c1 c2 c3 => part_mono (by omega) (by omega) (by omega) (by omega)
  rcases Int.lt_or_le (sH s (i + 1)) (sH s i) with z | z
  · refine Or.inr fun x y c1 c2 c3 => ?_
    unfold hgt
    rw [tab_seg hI hi (by omega) (by omega), tab_seg hI hi (by omega) (by omega), hc x c1 (by omega), hc y (by omega) c3]
    unfold seg
    have m : (sH s i - sH s (i + 1)) * part (x - sT s i) (sT s (i + 1) - sT s i) ≤ (sH s i - sH s (i + 1)) * part (y - sT s i) (sT s (i + 1) - sT s i) := Int.mul_le_mul_of_nonneg_left (key x y c1 c2 c3) (by omega)
    have e1 : ∀ p : Int, (sH s (i + 1) - sH s i) * p = -((sH s i - sH s (i + 1)) * p) := fun p => by rw [← Int.neg_mul]; congr 1; omega
    rw [e1, e1]
    have := Int.ediv_le_ediv (show (0 : Int) < 32768 by omega) (show -((sH s i - sH s (i + 1)) * part (y - sT s i) (sT s (i + 1) - sT s i)) ≤ -((sH s i - sH s (i + 1)) * part (x - sT s i) (sT s (i + 1) - sT s i)) by omega)
    omega
  · refine Or.inl fun x y c1 c2 c3 => ?_
    unfold hgt
    rw [tab_seg hI hi (by omega) (by omega), tab_seg hI hi (by omega) (by omega), hc x c1 (by omega), hc y (by omega) c3]
    unfold seg
    have m : (sH s (i + 1) - sH s i) * part (x - sT s i) (sT s (i + 1) - sT s i) ≤ (sH s (i + 1) - sH s i) * part (y - sT s i) (sT s (i + 1) - sT s i) := Int.mul_le_mul_of_nonneg_left (key x y c1 c2 c3) (by omega)
    have := Int.ediv_le_ediv (show (0 : Int) < 32768 by omega) m
    omega
/-- the correction stays as long as no observation comes and no 600 seconds are full -/
theorem corr_same {s : MS} (hI : MI s) {t x : Int} (hx : t ≤ x) (h1 : ∀ j, j < sM s → t < sO s j → x < sO s j) (h2 : ∀ i, lastLE (sO s) t (sM s) = some i → (x - sO s i) / 600 = (t - sO s i) / 600) : corr s x = corr s t := by
  have e : lastLE (sO s) x (sM s) = lastLE (sO s) t (sM s) := by
    cases e : lastLE (sO s) t (sM s) with
    | none =>
      cases e2 : lastLE (sO s) x (sM s) with
      | none => rfl
      | some k =>
        obtain ⟨a1, a2, a3⟩ := lastLE_some e2
        have := h1 k a1 (lastLE_none e k a1)
        omega
    | some i =>
      obtain ⟨a1, a2, a3⟩ := lastLE_some e
      exact lastLE_is a1 (by omega) (fun j b1 b2 => h1 j b2 (a3 j b1 b2))
  unfold corr
  rw [e]
  cases e2 : lastLE (sO s) t (sM s) with
  | none => rfl
  | some i =>
    show hlv _ _ = hlv _ _
    rw [h2 i e2]
theorem q_correctionEnd {post : Int64 → Prop} {s : MS} {u : XS} (hI : MI s) (hX : XR s u) {t : Int} (ht : 0 ≤ t) (ht2 : t ≤ 20000) (h : ∀ e : Int, t ≤ e → e ≤ 30000 → (∀ x, t ≤ x → x ≤ e → x ≤ 20000 → corr s x = corr s t) → post (LI e)) : wX0_correctionEnd post u (LI t) := by
  have n16 := hI.2.1
  unfold wX0_correctionEnd
  rw [hX.2.1]
  refine q_lastNotBehind (g := sO s) (by omega) (by omega) (fun j hj => ⟨(hX.2.2.2.2.1 j hj).1, by have := hI.2.2.2.2.2.1 j hj; exact ⟨by omega, by omega⟩⟩) ⟨by omega, by omega⟩ ?_
  cases e : lastLE (sO s) t (sM s) with
  | none =>
    have hno := lastLE_none e
    rw [show oI none = -1 from rfl]
    rcases Nat.eq_zero_or_pos (sM s) with z | z
    · simp (disch := omega) only [LI_add, LI_sub, LI_mul, II_add, II_sub, II_mul, II_neg, LI_neg, LI_ltS, LI_leS, LI_eqS, II_ltS, II_leS, II_eqS, LI_divS, II_divS, LI_i, II_lS, II_clS, vp_IS, L0, L1, L2, L64, L100, L200, L600, L900, L1000, L1100, L10000, L20000, L30000, L32768, L100k, Lm100k, L1M, Lm1, I0, I1, I2, I3, I4, I5, I7, I12, I16, I40, I65, I100, I600, I20000, Im1, nI_I, true_imp_iff, false_imp_iff, not_true_eq_false, not_false_eq_true, and_true, true_and]
      refine ⟨fun _ => ⟨fun c => absurd c (by omega), fun _ => ?_⟩, fun c => absurd (by omega) c⟩
      exact h 20000 (by omega) (by omega) (fun x c1 c2 c3 => corr_same hI c1 (fun j hj => by omega) (fun i hi => by rw [e] at hi; cases hi))
    · have o0 := (hX.2.2.2.2.1 0 z).1
      have b0 := hI.2.2.2.2.2.1 0 z
      have e0 : (-1 + 1 : Int).toNat = 0 := by decide
      simp (disch := omega) only [LI_add, LI_sub, LI_mul, II_add, II_sub, II_mul, II_neg, LI_neg, LI_ltS, LI_leS, LI_eqS, II_ltS, II_leS, II_eqS, LI_divS, II_divS, LI_i, II_lS, II_clS, vp_IS, L0, L1, L2, L64, L100, L200, L600, L900, L1000, L1100, L10000, L20000, L30000, L32768, L100k, Lm100k, L1M, Lm1, I0, I1, I2, I3, I4, I5, I7, I12, I16, I40, I65, I100, I600, I20000, Im1, nI_I, true_imp_iff, false_imp_iff, not_true_eq_false, not_false_eq_true, and_true, true_and, e0, o0]
      have h0 := hno 0 z
      refine ⟨fun c => absurd c (by omega), fun _ => ⟨by omega, fun c => absurd c (by omega), fun _ => ?_⟩⟩
      exact h (sO s 0 - 1) (by omega) (by omega) (fun x c1 c2 c3 => corr_same hI c1 (fun j hj _ => by have := hI.2.2.2.2.2.2.1 0 j (by omega) hj; omega) (fun i hi => by rw [e] at hi; cases hi))
  | some i =>
    obtain ⟨hi, a2, a3⟩ := lastLE_some e
    have b := hI.2.2.2.2.2.1 i hi
    have o0 := (hX.2.2.2.2.1 i hi).1
    have e1 : (t - sO s i).tdiv 600 = (t - sO s i) / 600 := td_pos (by omega)
    have h6 : ∀ x, t ≤ x → x ≤ t + 600 - 1 - (t - sO s i - (t - sO s i) / 600 * 600) → (x - sO s i) / 600 = (t - sO s i) / 600 := fun x c1 c2 => by omega
    rw [show oI (some i) = (i : Int) from rfl]
    by_cases c : i + 1 < sM s
    · have o1 := (hX.2.2.2.2.1 (i + 1) c).1
      have b1 := hI.2.2.2.2.2.1 (i + 1) c
      have h1 := a3 (i + 1) (by omega) c
      simp (disch := omega) only [LI_add, LI_sub, LI_mul, II_add, II_sub, II_mul, II_neg, LI_neg, LI_ltS, LI_leS, LI_eqS, II_ltS, II_leS, II_eqS, LI_divS, II_divS, LI_i, II_lS, II_clS, vp_IS, L0, L1, L2, L64, L100, L200, L600, L900, L1000, L1100, L10000, L20000, L30000, L32768, L100k, Lm100k, L1M, Lm1, I0, I1, I2, I3, I4, I5, I7, I12, I16, I40, I65, I100, I600, I20000, Im1, nI_I, true_imp_iff, false_imp_iff, not_true_eq_false, not_false_eq_true, and_true, true_and, i_tn, i_tn1, o0, o1, e1]
      refine ⟨fun z => absurd z (by omega), fun _ => ⟨by omega, fun _ => ⟨by omega, ?_⟩, fun z => absurd (by omega) z⟩⟩
      have hn : ∀ x, x ≤ sO s (i + 1) - 1 → ∀ j, j < sM s → t < sO s j → x < sO s j := fun x c2 j hj hz => by
        rcases Nat.lt_or_ge i j with y | y
        · have := hI.2.2.2.2.2.2.1 (i + 1) j (by omega) hj; omega
        · have := hI.2.2.2.2.2.2.1 j i y hi; omega
      split
      · exact h _ (by omega) (by omega) (fun x c1 c2 c3 => corr_same hI c1 (hn x (by omega)) (fun k hk => by rw [e] at hk; cases hk; exact h6 x c1 c2))
      · exact h _ (by omega) (by omega) (fun x c1 c2 c3 => corr_same hI c1 (hn x (by omega)) (fun k hk => by rw [e] at hk; cases hk; exact h6 x c1 (by omega)))
    · simp (disch := omega) only [LI_add, LI_sub, LI_mul, II_add, II_sub, II_mul, II_neg, LI_neg, LI_ltS, LI_leS, LI_eqS, II_ltS, II_leS, II_eqS, LI_divS, II_divS, LI_i, II_lS, II_clS, vp_IS, L0, L1, L2, L64, L100, L200, L600, L900, L1000, L1100, L10000, L20000, L30000, L32768, L100k, Lm100k, L1M, Lm1, I0, I1, I2, I3, I4, I5, I7, I12, I16, I40, I65, I100, I600, I20000, Im1, nI_I, true_imp_iff, false_imp_iff, not_true_eq_false, not_false_eq_true, and_true, true_and, i_tn, i_tn1, o0, e1]
      refine ⟨fun _ => ⟨fun _ => ⟨by omega, ?_⟩, fun z => absurd (by omega) z⟩, fun z => absurd (by omega) z⟩
      have hn : ∀ x, x ≤ 20000 → ∀ j, j < sM s → t < sO s j → x < sO s j := fun x c2 j hj hz => by
        have := hI.2.2.2.2.2.2.1 j i (by omega) hi; omega
      split
      · exact h _ (by omega) (by omega) (fun x c1 c2 c3 => corr_same hI c1 (hn x c3) (fun k hk => by rw [e] at hk; cases hk; exact h6 x c1 c2))
      · exact h _ (by omega) (by omega) (fun x c1 c2 c3 => corr_same hI c1 (hn x c3) (fun k hk => by rw [e] at hk; cases hk; exact h6 x c1 (by omega)))
theorem q_stretchEnd {post : Int64 → Prop} {s : MS} {u : XS} (hI : MI s) (hX : XR s u) {t : Int} (ht : inTab s t) (h : ∀ e : Int, t ≤ e → e ≤ lst s → Mono s t e → post (LI e)) : wX0_stretchEnd post u (LI t) := by
  obtain ⟨r1, r2⟩ := tab_r hI ht
  obtain ⟨i, e, hi, h1, h2⟩ := tab_i ht
  have n40 := hI.1
  have ht1 := ht.1
  have ht2 := ht.2.2
  have el : lst s = sT s (sN s - 1) := if_pos ht.1
  have bl := hI.2.2.2.1 (sN s - 1) (by omega)
  unfold wX0_stretchEnd
  rw [hX.1]
  refine q_lastNotBehind (g := sT s) (by omega) (by omega) (fun j hj => ⟨(hX.2.2.2.1 j hj).1, by have := hI.2.2.2.1 j hj; exact ⟨by omega, by omega⟩⟩) ⟨by omega, by omega⟩ ?_
  rw [e]
  simp only [oI]
  by_cases c : i + 1 < sN s
  · have e1 := (hX.2.2.2.1 (i + 1) c).1
    have b1 := hI.2.2.2.1 (i + 1) c
    have h3 := h2 (i + 1) (by omega) c
    have hle : sT s (i + 1) ≤ sT s (sN s - 1) := by
      rcases Nat.lt_or_ge (i + 1) (sN s - 1) with z | z
      · have := hI.2.2.2.2.1 (i + 1) (sN s - 1) z (by omega); omega
      · rw [show sN s - 1 = i + 1 by omega]; omega
    simp (disch := omega) only [LI_add, LI_sub, LI_mul, II_add, II_sub, II_mul, II_neg, LI_neg, LI_ltS, LI_leS, LI_eqS, II_ltS, II_leS, II_eqS, LI_divS, II_divS, LI_i, II_lS, II_clS, vp_IS, L0, L1, L2, L64, L100, L200, L600, L900, L1000, L1100, L10000, L20000, L30000, L32768, L100k, Lm100k, L1M, Lm1, I0, I1, I2, I3, I4, I5, I7, I12, I16, I40, I65, I100, I600, I20000, Im1, nI_I, true_imp_iff, false_imp_iff, not_true_eq_false, not_false_eq_true, and_true, true_and, i_tn1, e1]
    refine ⟨fun z => absurd z (by omega), fun _ => ⟨by omega, q_correctionEnd hI hX r1 r2 (fun f f1 f2 f3 => ?_)⟩⟩
    simp (disch := omega) only [LI_add, LI_sub, LI_mul, II_add, II_sub, II_mul, II_neg, LI_neg, LI_ltS, LI_leS, LI_eqS, II_ltS, II_leS, II_eqS, LI_divS, II_divS, LI_i, II_lS, II_clS, vp_IS, L0, L1, L2, L64, L100, L200, L600, L900, L1000, L1100, L10000, L20000, L30000, L32768, L100k, Lm100k, L1M, Lm1, I0, I1, I2, I3, I4, I5, I7, I12, I16, I40, I65, I100, I600, I20000, Im1, nI_I, true_imp_iff, false_imp_iff, not_true_eq_false, not_false_eq_true, and_true, true_and]
    split
    · exact h _ (by omega) (by omega) (mono_of hI c h1 (by omega) (fun x c1 c2 => f3 x c1 c2 (by omega)))
    · exact h _ (by omega) (by omega) (mono_of hI c h1 (by omega) (fun x c1 c2 => f3 x c1 (by omega) (by omega)))
  · have hin : i = sN s - 1 := by omega
    subst hin
    have et : t = sT s (sN s - 1) := by omega
    simp (disch := omega) only [LI_add, LI_sub, LI_mul, II_add, II_sub, II_mul, II_neg, LI_neg, LI_ltS, LI_leS, LI_eqS, II_ltS, II_leS, II_eqS, LI_divS, II_divS, LI_i, II_lS, II_clS, vp_IS, L0, L1, L2, L64, L100, L200, L600, L900, L1000, L1100, L10000, L20000, L30000, L32768, L100k, Lm100k, L1M, Lm1, I0, I1, I2, I3, I4, I5, I7, I12, I16, I40, I65, I100, I600, I20000, Im1, nI_I, true_imp_iff, false_imp_iff, not_true_eq_false, not_false_eq_true, and_true, true_and]
    refine ⟨fun _ => q_lastSecond hI hX (q_correctionEnd hI hX r1 r2 (fun f f1 f2 f3 => ?_)), fun z => absurd (by omega) z⟩
    have hm : Mono s t t := Or.inl (fun x y c1 c2 c3 => by rw [show x = y by omega]; omega)
    rw [el, ← et]
    simp (disch := omega) only [LI_add, LI_sub, LI_mul, II_add, II_sub, II_mul, II_neg, LI_neg, LI_ltS, LI_leS, LI_eqS, II_ltS, II_leS, II_eqS, LI_divS, II_divS, LI_i, II_lS, II_clS, vp_IS, L0, L1, L2, L64, L100, L200, L600, L900, L1000, L1100, L10000, L20000, L30000, L32768, L100k, Lm100k, L1M, Lm1, I0, I1, I2, I3, I4, I5, I7, I12, I16, I40, I65, I100, I600, I20000, Im1, nI_I, true_imp_iff, false_imp_iff, not_true_eq_false, not_false_eq_true, and_true, true_and]
    rw [if_neg (by omega)]
    exact h t (by omega) (by omega) hm
