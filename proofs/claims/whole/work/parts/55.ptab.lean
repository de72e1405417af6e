/-! the reference's heights -/
theorem cos_0 : cosI 0 = 0 := by decide +kernel
theorem seg_0 {s : MS} {i : Nat} {t : Int} (h : sT s i = t) : seg s i t = sH s i := by
  have e : part (t - sT s i) (sT s (i + 1) - sT s i) = 0 := by
    unfold part
    rw [show t - sT s i = 0 by omega]
    simp [cos_0]
  unfold seg
  rw [e]
  simp
theorem p_skip {post : Int64 → Prop} {s : MS} {y : YS} (hI : MI s) (hY : YR s y) {t : Int} (r1 : 0 ≤ t) (r2 : t ≤ 20000) {K : Nat} (hK : K < sN s) (hlt : ∀ j, j < K → sT s j < t) (hb : wX1_tableHeight_L2 post y (II t) 1 (nI K)) : ∀ m k, k + m = K → wX1_tableHeight_L2 post y (II t) (m + 1) (nI k) := by
  have n40 := hI.1
  intro m
  induction m with
  | zero => intro k h; rw [show k = K by omega]; exact hb
  | succ m ih =>
    intro k h
    have b := hI.2.2.2.1 k (by omega)
    have l := hlt k (by omega)
    rw [wX1_tableHeight_L2]
    refine ⟨vp_in_nI (by omega) (by omega), fun c => absurd c ?_, fun _ => ?_⟩
    · rw [nI_clamp (by omega), (hY.2.2.2.1 k (by omega)).1, II_le ⟨by omega, by omega⟩ ⟨by omega, by omega⟩]; omega
    · rw [nI_1]; exact ih (k + 1) (by omega)
theorem p_tableHeight {post : Int64 → Prop} {s : MS} {y : YS} (hI : MI s) (hY : YR s y) {t : Int} (ht : inTab s t) (h : post (LI (tab s t))) : wX1_tableHeight post y (II t) := by
  have n40 := hI.1
  obtain ⟨r1, r2⟩ := tab_r hI ht
  obtain ⟨i, e, hi, h1, h2⟩ := tab_i ht
  have b0 := hI.2.2.2.1 i hi
  unfold tab at h
  rw [e] at h
  replace h : post (LI (if i + 1 < sN s then seg s i t else sH s i)) := h
  unfold wX1_tableHeight
  by_cases c : sT s i = t
  · rw [seg_0 c] at h
    have h : post (LI (sH s i)) := by
      by_cases d : i + 1 < sN s
      · rw [if_pos d] at h; exact h
      · rw [if_neg d] at h; exact h
    refine ⟨i + 1, p_skip hI hY r1 r2 hi (fun j hj => by have := hI.2.2.2.2.1 j i hj hi; omega) ?_ i 0 (by omega)⟩
    rw [wX1_tableHeight_L2]
    rw [nI_clamp (by omega), (hY.2.2.2.1 i hi).1, (hY.2.2.2.1 i hi).2, II_le ⟨by omega, by omega⟩ ⟨by omega, by omega⟩, II_eq ⟨by omega, by omega⟩ ⟨by omega, by omega⟩]
    refine ⟨vp_in_nI (by omega) (by omega), fun _ => ⟨vp_in_nI (by omega) (by omega), fun _ => ⟨vp_in_nI (by omega) (by omega), ?_⟩, fun d => absurd c d⟩, fun d => absurd (by omega) d⟩
    rw [II_l ⟨by omega, by omega⟩]; exact h
  · have hn : i + 1 < sN s := by
      rcases Nat.lt_or_ge (i + 1) (sN s) with z | z
      · exact z
      · have := ht.2.2
        rw [show sN s - 1 = i by omega] at this
        omega
    rw [if_pos hn] at h
    have b1 := hI.2.2.2.1 (i + 1) hn
    have h3 := h2 (i + 1) (by omega) hn
    refine ⟨i + 1 + 1, p_skip hI hY r1 r2 hn (fun j hj => ?_) ?_ (i + 1) 0 (by omega)⟩
    · by_cases d : j = i
      · subst d; omega
      · have := hI.2.2.2.2.1 j i (by omega) hi; omega
    · rw [wX1_tableHeight_L2]
      have k1 : (nI (i + 1)).toNatClampNeg = i + 1 := nI_clamp (by omega)
      have k0 : (nI i).toNatClampNeg = i := nI_clamp (by omega)
      have v1 : vp_in (nI (i + 1)) 40 := vp_in_nI (by omega) (by omega)
      have v0 : vp_in (nI i) 40 := vp_in_nI (by omega) (by omega)
      simp only [nI_pred, k1, k0, (hY.2.2.2.1 i hi).1, (hY.2.2.2.1 i hi).2, (hY.2.2.2.1 (i + 1) hn).1, (hY.2.2.2.1 (i + 1) hn).2, II_sub]
      have g0 : 0 ≤ t - sT s i := by omega
      have g1 : t - sT s i < sT s (i + 1) - sT s i := by omega
      unfold seg part at h
      generalize hg : t - sT s i = g at *
      generalize hw : sT s (i + 1) - sT s i = w at *
      generalize hd : sH s (i + 1) - sH s i = d at *
      obtain ⟨q1, q2, q3, q4⟩ := part_q g0 g1
      have p1 := part_b g0 g1
      unfold part at p1
      have m := mulp_b (d := d) p1.1 p1.2 (by omega) (by omega)
      have e1 : (64 * g).tdiv w = 64 * g / w := td_pos (by omega)
      refine ⟨v1, fun _ => ⟨v1, fun z => absurd z ?_, fun _ => ⟨v1, v0, v0, ?_⟩⟩, fun z => absurd ?_ z⟩
      · rw [II_eq ⟨by omega, by omega⟩ ⟨by omega, by omega⟩]; omega
      · simp (disch := omega) only [LI_add, LI_sub, LI_mul, II_add, II_sub, II_mul, II_neg, LI_neg, LI_ltS, LI_leS, LI_eqS, II_ltS, II_leS, II_eqS, LI_divS, II_divS, LI_i, II_lS, II_clS, vp_IS, L0, L1, L2, L64, L100, L200, L600, L900, L1000, L1100, L10000, L20000, L30000, L32768, L100k, Lm100k, L1M, Lm1, I0, I1, I2, I3, I4, I5, I7, I12, I16, I40, I65, I100, I600, I20000, Im1, nI_I, true_imp_iff, false_imp_iff, not_true_eq_false, not_false_eq_true, and_true, true_and, e1]
        generalize 64 * g / w = q at *
        generalize hr : 64 * g - q * w = rr at *
        have c0 := cos_b q.toNat (by omega)
        have c1 := cos_b (q.toNat + 1) (by omega)
        have c2 := cos_m q.toNat (by omega)
        have s1 := step_b (d := cosI (q.toNat + 1) - cosI q.toNat) (r := rr) (w := w) (by omega) q3 q4
        have s2 : (cosI (q.toNat + 1) - cosI q.toNat) * w ≤ 32768 * 20000 := Int.mul_le_mul (by omega) (by omega) (by omega) (by omega)
        have e2 : (q + 1).toNat = q.toNat + 1 := by omega
        have e3 : ((cosI (q.toNat + 1) - cosI q.toNat) * rr).tdiv w = (cosI (q.toNat + 1) - cosI q.toNat) * rr / w := td_pos (by omega)
        rw [e2, hY.2.2.2.2.2.2.1 _ (show q.toNat < 65 by omega), hY.2.2.2.2.2.2.1 _ (show q.toNat + 1 < 65 by omega), cos_ii _ (show q.toNat < 65 by omega), cos_ii _ (show q.toNat + 1 < 65 by omega)]
        simp (disch := omega) only [LI_add, LI_sub, LI_mul, II_add, II_sub, II_mul, II_neg, LI_neg, LI_ltS, LI_leS, LI_eqS, II_ltS, II_leS, II_eqS, LI_divS, II_divS, LI_i, II_lS, II_clS, vp_IS, L0, L1, L2, L64, L100, L200, L600, L900, L1000, L1100, L10000, L20000, L30000, L32768, L100k, Lm100k, L1M, Lm1, I0, I1, I2, I3, I4, I5, I7, I12, I16, I40, I65, I100, I600, I20000, Im1, nI_I, true_imp_iff, false_imp_iff, not_true_eq_false, not_false_eq_true, and_true, true_and, hr, e3]
        refine ⟨by omega, by omega, by omega, by omega, by omega, by omega, by omega, by omega, q_floor (by omega) (by omega) ?_⟩
        rw [LI_add]
        exact h
      · rw [II_le ⟨by omega, by omega⟩ ⟨by omega, by omega⟩]; omega
theorem p_halving {post : Int64 → Prop} {s : MS} {y : YS} (hI : MI s) (hY : YR s y) {t : Int} (ht : inTab s t) : ∀ (k : Nat) (x : Int), k ≤ 1000 → -200000 ≤ x → x ≤ 200000 → post (LI (tab s t + hlv k x)) → wX1_heightAt_L64 post y (II t) (k + 1) (LI x) (II k) := by
  intro k
  induction k with
  | zero =>
    intro x _ h3 h4 h
    rw [wX1_heightAt_L64]
    simp (disch := omega) only [LI_add, LI_sub, LI_mul, II_add, II_sub, II_mul, II_neg, LI_neg, LI_ltS, LI_leS, LI_eqS, II_ltS, II_leS, II_eqS, LI_divS, II_divS, LI_i, II_lS, II_clS, vp_IS, L0, L1, L2, L64, L100, L200, L600, L900, L1000, L1100, L10000, L20000, L30000, L32768, L100k, Lm100k, L1M, Lm1, I0, I1, I2, I3, I4, I5, I7, I12, I16, I40, I65, I100, I600, I20000, Im1, nI_I, true_imp_iff, false_imp_iff, not_true_eq_false, not_false_eq_true, and_true, true_and]
    refine ⟨fun _ => p_tableHeight hI hY ht ?_, fun c => absurd (by omega) c⟩
    rw [LI_add]; exact h
  | succ k ih =>
    intro x hk h3 h4 h
    rw [wX1_heightAt_L64]
    have e : ((k + 1 : Nat) : Int) + -1 = (k : Int) := by omega
    simp (disch := omega) only [LI_add, LI_sub, LI_mul, II_add, II_sub, II_mul, II_neg, LI_neg, LI_ltS, LI_leS, LI_eqS, II_ltS, II_leS, II_eqS, LI_divS, II_divS, LI_i, II_lS, II_clS, vp_IS, L0, L1, L2, L64, L100, L200, L600, L900, L1000, L1100, L10000, L20000, L30000, L32768, L100k, Lm100k, L1M, Lm1, I0, I1, I2, I3, I4, I5, I7, I12, I16, I40, I65, I100, I600, I20000, Im1, nI_I, true_imp_iff, false_imp_iff, not_true_eq_false, not_false_eq_true, and_true, true_and, e]
    have h5 := hlv_b (B := 200000) 1 x (by omega) (by omega)
    simp only [hlv] at h5
    exact ⟨fun c => absurd c (by omega), fun _ => ih _ (by omega) h5.1 h5.2 h⟩
theorem p_heightAt {post : Int64 → Prop} {s : MS} {y : YS} (hI : MI s) (hY : YR s y) {t : Int} (ht : inTab s t) (h : post (LI (hgt s t))) : wX1_heightAt post y (II t) := by
  have n16 := hI.2.1
  obtain ⟨r1, r2⟩ := tab_r hI ht
  unfold wX1_heightAt
  rw [hY.2.1]
  refine ⟨sM s + 1, ?_⟩
  have e : nI (sM s) - 1 = II ((sM s : Int) - 1) := by rw [nI_I, I1, II_sub]
  rw [e]
  have key : ∀ k, k ≤ sM s → lastLE (sO s) t (sM s) = lastLE (sO s) t k → wX1_heightAt_L7 post y (II t) (k + 1) (II ((k : Int) - 1)) := by
    intro k
    induction k with
    | zero =>
      intro _ hk
      rw [wX1_heightAt_L7]
      simp (disch := omega) only [LI_add, LI_sub, LI_mul, II_add, II_sub, II_mul, II_neg, LI_neg, LI_ltS, LI_leS, LI_eqS, II_ltS, II_leS, II_eqS, LI_divS, II_divS, LI_i, II_lS, II_clS, vp_IS, L0, L1, L2, L64, L100, L200, L600, L900, L1000, L1100, L10000, L20000, L30000, L32768, L100k, Lm100k, L1M, Lm1, I0, I1, I2, I3, I4, I5, I7, I12, I16, I40, I65, I100, I600, I20000, Im1, nI_I, true_imp_iff, false_imp_iff, not_true_eq_false, not_false_eq_true, and_true, true_and]
      refine ⟨fun _ => ⟨fun c => absurd c (by omega), fun _ => ⟨1, ?_⟩⟩, fun c => absurd (by omega) c⟩
      refine p_halving hI hY ht 0 0 (by omega) (by omega) (by omega) ?_
      unfold hgt corr at h
      rw [hk] at h
      exact h
    | succ k ih =>
      intro hk he
      have b := hI.2.2.2.2.2.1 k (by omega)
      have e2 : ((k + 1 : Nat) : Int) - 1 = (k : Int) := by omega
      rw [wX1_heightAt_L7, e2]
      have o1 := (hY.2.2.2.2.1 k (by omega)).1
      have o2 := (hY.2.2.2.2.1 k (by omega)).2
      have e3 : (k : Int) + -1 = (k : Int) - 1 := by omega
      rw [lastLE] at he
      by_cases c : sO s k ≤ t
      · rw [if_pos c] at he
        have e4 : (t - sO s k).tdiv 600 = (t - sO s k) / 600 := td_pos (by omega)
        have e5 : (t - sO s k) / 600 = (((t - sO s k) / 600).toNat : Int) := by omega
        simp (disch := omega) only [LI_add, LI_sub, LI_mul, II_add, II_sub, II_mul, II_neg, LI_neg, LI_ltS, LI_leS, LI_eqS, II_ltS, II_leS, II_eqS, LI_divS, II_divS, LI_i, II_lS, II_clS, vp_IS, L0, L1, L2, L64, L100, L200, L600, L900, L1000, L1100, L10000, L20000, L30000, L32768, L100k, Lm100k, L1M, Lm1, I0, I1, I2, I3, I4, I5, I7, I12, I16, I40, I65, I100, I600, I20000, Im1, nI_I, true_imp_iff, false_imp_iff, not_true_eq_false, not_false_eq_true, and_true, true_and, i_tn, o1, o2, e3, e4]
        refine ⟨fun z => absurd z (by omega), fun _ => ⟨by omega, fun _ => ⟨fun _ => ⟨by omega, by omega, ((t - sO s k) / 600).toNat + 1, ?_⟩, fun z => absurd (by omega) z⟩, fun z => absurd c z⟩⟩
        have h6 : post (LI (tab s t + hlv ((t - sO s k) / 600).toNat (sD s k))) := by
          unfold hgt corr at h
          rw [he] at h
          exact h
        rw [e5]
        exact p_halving hI hY ht _ _ (by omega) (by omega) (by omega) h6
      · rw [if_neg c] at he
        refine ⟨fun z => absurd z ?_, fun _ => ⟨?_, fun z => absurd z ?_, fun _ => ?_⟩⟩
        · rw [I0, II_lt ⟨by omega, by omega⟩ ⟨by omega, by omega⟩]; omega
        · rw [vp_II_iff ⟨by omega, by omega⟩]; omega
        · rw [II_cl ⟨by omega, by omega⟩, i_tn, o1, II_le ⟨by omega, by omega⟩ ⟨by omega, by omega⟩]; exact c
        · rw [Im1, II_add, e3]
          exact ih (by omega) he
  exact key (sM s) (Nat.le_refl _) rfl
