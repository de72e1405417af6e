/-! conversions with their bounds apart, for simp -/
theorem LI_ltS {a b : Int} (h1 : -9223372036854775808 ≤ a) (h2 : a < 9223372036854775808) (h3 : -9223372036854775808 ≤ b) (h4 : b < 9223372036854775808) : LI a < LI b ↔ a < b := LI_lt ⟨h1, h2⟩ ⟨h3, h4⟩
theorem LI_leS {a b : Int} (h1 : -9223372036854775808 ≤ a) (h2 : a < 9223372036854775808) (h3 : -9223372036854775808 ≤ b) (h4 : b < 9223372036854775808) : LI a ≤ LI b ↔ a ≤ b := LI_le ⟨h1, h2⟩ ⟨h3, h4⟩
theorem LI_eqS {a b : Int} (h1 : -9223372036854775808 ≤ a) (h2 : a < 9223372036854775808) (h3 : -9223372036854775808 ≤ b) (h4 : b < 9223372036854775808) : LI a = LI b ↔ a = b := LI_eq ⟨h1, h2⟩ ⟨h3, h4⟩
theorem II_ltS {a b : Int} (h1 : -2147483648 ≤ a) (h2 : a < 2147483648) (h3 : -2147483648 ≤ b) (h4 : b < 2147483648) : II a < II b ↔ a < b := II_lt ⟨h1, h2⟩ ⟨h3, h4⟩
theorem II_leS {a b : Int} (h1 : -2147483648 ≤ a) (h2 : a < 2147483648) (h3 : -2147483648 ≤ b) (h4 : b < 2147483648) : II a ≤ II b ↔ a ≤ b := II_le ⟨h1, h2⟩ ⟨h3, h4⟩
theorem II_eqS {a b : Int} (h1 : -2147483648 ≤ a) (h2 : a < 2147483648) (h3 : -2147483648 ≤ b) (h4 : b < 2147483648) : II a = II b ↔ a = b := II_eq ⟨h1, h2⟩ ⟨h3, h4⟩
theorem LI_divS {a b : Int} (h1 : -9223372036854775808 ≤ a) (h2 : a < 9223372036854775808) (h3 : -9223372036854775808 ≤ b) (h4 : b < 9223372036854775808) : LI a / LI b = LI (a.tdiv b) := LI_div ⟨h1, h2⟩ ⟨h3, h4⟩
theorem II_divS {a b : Int} (h1 : -2147483648 ≤ a) (h2 : a < 2147483648) (h3 : -2147483648 ≤ b) (h4 : b < 2147483648) : II a / II b = II (a.tdiv b) := II_div ⟨h1, h2⟩ ⟨h3, h4⟩
theorem II_lS {a : Int} (h1 : -2147483648 ≤ a) (h2 : a < 2147483648) : (II a).toInt64 = LI a := II_l ⟨h1, h2⟩
theorem II_clS {a : Int} (h1 : -2147483648 ≤ a) (h2 : a < 2147483648) : (II a).toNatClampNeg = a.toNat := II_cl ⟨h1, h2⟩
theorem vp_IS {a : Int} {n : Nat} (h1 : -2147483648 ≤ a) (h2 : a < 2147483648) : vp_in (II a) n ↔ 0 ≤ a ∧ a < n := vp_II_iff ⟨h1, h2⟩
theorem II_neg (a : Int) : -II a = II (-a) := (Int32.ofInt_neg a).symm
theorem LI_neg (a : Int) : -LI a = LI (-a) := (Int64.ofInt_neg a).symm
/-- where g of w has gone: the place in the cosine, and what is left -/
theorem part_q {g w : Int} (hg : 0 ≤ g) (hw : g < w) : 0 ≤ 64 * g / w ∧ 64 * g / w ≤ 63 ∧ 0 ≤ 64 * g - 64 * g / w * w ∧ 64 * g - 64 * g / w * w < w := by
  have h1 : 0 ≤ 64 * g / w := Int.ediv_nonneg (by omega) (by omega)
  have h2 : 64 * g / w < 64 := Int.ediv_lt_of_lt_mul (by omega) (by omega)
  have h3 := Int.emod_add_mul_ediv (64 * g) w
  have h4 := Int.emod_nonneg (64 * g) (show w ≠ 0 by omega)
  have h5 := Int.emod_lt_of_pos (64 * g) (show 0 < w by omega)
  rw [Int.mul_comm w] at h3
  exact ⟨h1, by omega, by omega, by omega⟩
/-- a part of a step -/
theorem step_b {d r w : Int} (hd : 0 ≤ d) (hr : 0 ≤ r) (hw : r < w) : 0 ≤ d * r / w ∧ d * r / w ≤ d ∧ 0 ≤ d * r ∧ d * r ≤ d * w := by
  have h0 : 0 ≤ d * r := Int.mul_nonneg hd hr
  have h1 : d * r ≤ d * w := Int.mul_le_mul_of_nonneg_left (by omega) hd
  refine ⟨Int.ediv_nonneg h0 (by omega), ?_, h0, h1⟩
  have h2 : d * r / w ≤ d * w / w := Int.ediv_le_ediv (by omega) h1
  rwa [Int.mul_ediv_cancel _ (by omega)] at h2
theorem part_b {g w : Int} (hg : 0 ≤ g) (hw : g < w) : 0 ≤ part g w ∧ part g w ≤ 32768 := by
  obtain ⟨h1, h2, h3, h4⟩ := part_q hg hw
  unfold part
  generalize 64 * g / w = q at *
  generalize hr : 64 * g - q * w = r at *
  have c0 := cos_b q.toNat (by omega)
  have c1 := cos_b (q.toNat + 1) (by omega)
  have c2 := cos_m q.toNat (by omega)
  have := step_b (d := cosI (q.toNat + 1) - cosI q.toNat) (r := r) (w := w) (by omega) h3 h4
  omega
theorem q_cosinePart {post : Int64 → Prop} {g w : Int} (hg : 0 ≤ g) (hw : g < w) (hw2 : w ≤ 20000) (h : post (LI (part g w))) : wX0_cosinePart post (LI g) (LI w) := by
  obtain ⟨h1, h2, h3, h4⟩ := part_q hg hw
  have e1 : (64 * g).tdiv w = 64 * g / w := td_pos (by omega)
  unfold part at h
  unfold wX0_cosinePart
  simp (disch := omega) only [LI_add, LI_sub, LI_mul, II_add, II_sub, II_mul, II_neg, LI_neg, LI_ltS, LI_leS, LI_eqS, II_ltS, II_leS, II_eqS, LI_divS, II_divS, LI_i, II_lS, II_clS, vp_IS, L0, L1, L2, L64, L100, L200, L600, L900, L1000, L1100, L10000, L20000, L30000, L32768, L100k, Lm100k, L1M, Lm1, I0, I1, I2, I3, I4, I5, I7, I12, I16, I40, I65, I100, I600, I20000, Im1, nI_I, true_imp_iff, false_imp_iff, not_true_eq_false, not_false_eq_true, and_true, true_and, e1]
  generalize 64 * g / w = q at *
  generalize hr : 64 * g - q * w = r at *
  have c0 := cos_b q.toNat (by omega)
  have c1 := cos_b (q.toNat + 1) (by omega)
  have c2 := cos_m q.toNat (by omega)
  have s1 := step_b (d := cosI (q.toNat + 1) - cosI q.toNat) (r := r) (w := w) (by omega) h3 h4
  have s2 : (cosI (q.toNat + 1) - cosI q.toNat) * w ≤ 32768 * 20000 := Int.mul_le_mul (by omega) hw2 (by omega) (by omega)
  have e2 : (q + 1).toNat = q.toNat + 1 := by omega
  have e3 : ((cosI (q.toNat + 1) - cosI q.toNat) * r).tdiv w = (cosI (q.toNat + 1) - cosI q.toNat) * r / w := td_pos (by omega)
  rw [e2, cos_ii _ (show q.toNat < 65 by omega), cos_ii _ (show q.toNat + 1 < 65 by omega)]
  simp (disch := omega) only [LI_add, LI_sub, LI_mul, II_add, II_sub, II_mul, II_neg, LI_neg, LI_ltS, LI_leS, LI_eqS, II_ltS, II_leS, II_eqS, LI_divS, II_divS, LI_i, II_lS, II_clS, vp_IS, L0, L1, L2, L64, L100, L200, L600, L900, L1000, L1100, L10000, L20000, L30000, L32768, L100k, Lm100k, L1M, Lm1, I0, I1, I2, I3, I4, I5, I7, I12, I16, I40, I65, I100, I600, I20000, Im1, nI_I, true_imp_iff, false_imp_iff, not_true_eq_false, not_false_eq_true, and_true, true_and, hr, e3]
  refine ⟨fun _ => ⟨by omega, fun c => absurd c (by omega), fun _ => ⟨fun _ => ⟨by omega, by omega, by omega, by omega, h⟩, fun c => absurd (by omega) c⟩⟩, fun c => absurd (by omega) c⟩
theorem sq_q {v : Int} (hv : 0 ≤ v) (hv2 : v ≤ 10000) : 0 ≤ v / 200 ∧ v / 200 ≤ 50 ∧ 0 ≤ v - v / 200 * 200 ∧ v - v / 200 * 200 < 200 := by omega
theorem sqTh_b {v : Int} (hv : 0 ≤ v) (hv2 : v ≤ 10000) : 0 ≤ sqTh v ∧ sqTh v ≤ 100 := by
  obtain ⟨h1, h2, h3, h4⟩ := sq_q hv hv2
  unfold sqTh
  by_cases c : v / 200 ≤ 5
  · rw [if_pos c]
    have c0 := sq_b (v / 200).toNat (by omega)
    have c1 := sq_b ((v / 200).toNat + 1) (by omega)
    have c2 := sq_m (v / 200).toNat (by omega)
    have := step_b (d := sqI ((v / 200).toNat + 1) - sqI (v / 200).toNat) (r := v - v / 200 * 200) (w := 200) (by omega) h3 h4
    omega
  · rw [if_neg c]; omega
theorem q_squatThousandths {post : Int64 → Prop} {v : Int} (hv : 0 ≤ v) (hv2 : v ≤ 10000) (h : post (LI (sqTh v))) : wX0_squatThousandths post (LI v) := by
  obtain ⟨h1, h2, h3, h4⟩ := sq_q hv hv2
  have e1 : v.tdiv 200 = v / 200 := td_pos (by omega)
  unfold sqTh at h
  unfold wX0_squatThousandths
  rw [sq_ii 6 (by decide), sq_6]
  simp (disch := omega) only [LI_add, LI_sub, LI_mul, II_add, II_sub, II_mul, II_neg, LI_neg, LI_ltS, LI_leS, LI_eqS, II_ltS, II_leS, II_eqS, LI_divS, II_divS, LI_i, II_lS, II_clS, vp_IS, L0, L1, L2, L64, L100, L200, L600, L900, L1000, L1100, L10000, L20000, L30000, L32768, L100k, Lm100k, L1M, Lm1, I0, I1, I2, I3, I4, I5, I7, I12, I16, I40, I65, I100, I600, I20000, Im1, nI_I, true_imp_iff, false_imp_iff, not_true_eq_false, not_false_eq_true, and_true, true_and, e1]
  refine ⟨fun c => absurd c (by omega), fun _ => ⟨fun c => ?_, fun c => ?_⟩⟩
  · rw [if_pos (by omega)] at h
    have c0 := sq_b (v / 200).toNat (by omega)
    have c1 := sq_b ((v / 200).toNat + 1) (by omega)
    have c2 := sq_m (v / 200).toNat (by omega)
    generalize 64 * v = dummy
    have s1 := step_b (d := sqI ((v / 200).toNat + 1) - sqI (v / 200).toNat) (r := v - v / 200 * 200) (w := 200) (by omega) h3 h4
    have e2 : (v / 200 + 1).toNat = (v / 200).toNat + 1 := by omega
    have e3 : ((sqI ((v / 200).toNat + 1) - sqI (v / 200).toNat) * (v - v / 200 * 200)).tdiv 200 = (sqI ((v / 200).toNat + 1) - sqI (v / 200).toNat) * (v - v / 200 * 200) / 200 := td_pos (by omega)
    rw [e2, sq_ii _ (show (v / 200).toNat < 7 by omega), sq_ii _ (show (v / 200).toNat + 1 < 7 by omega)]
    simp (disch := omega) only [LI_add, LI_sub, LI_mul, II_add, II_sub, II_mul, II_neg, LI_neg, LI_ltS, LI_leS, LI_eqS, II_ltS, II_leS, II_eqS, LI_divS, II_divS, LI_i, II_lS, II_clS, vp_IS, L0, L1, L2, L64, L100, L200, L600, L900, L1000, L1100, L10000, L20000, L30000, L32768, L100k, Lm100k, L1M, Lm1, I0, I1, I2, I3, I4, I5, I7, I12, I16, I40, I65, I100, I600, I20000, Im1, nI_I, true_imp_iff, false_imp_iff, not_true_eq_false, not_false_eq_true, and_true, true_and, e3]
    exact ⟨by omega, by omega, by omega, h⟩
  · rw [if_neg (by omega)] at h; exact h
theorem q_squatOf {post : Int64 → Prop} {v d : Int} (hv : 0 ≤ v) (hv2 : v ≤ 10000) (hd : 0 ≤ d) (hd2 : d ≤ 100000) (h : post (LI (sqOf v d))) : wX0_squatOf post (LI v) (LI d) := by
  unfold wX0_squatOf
  refine q_squatThousandths hv hv2 ?_
  have b := sqTh_b hv hv2
  have b1 : 0 ≤ d * sqTh v := Int.mul_nonneg hd b.1
  have b2 : d * sqTh v ≤ 100000 * 100 := Int.mul_le_mul hd2 b.2 b.1 (by omega)
  rw [LI_mul, L1000]
  exact q_dividedUp (by omega) (by omega) (by omega) (by omega) h
theorem p_squatOf {post : Int64 → Prop} {y : YS} (hq : ∀ j, j < 7 → yQ y j = sqT j) {v d : Int} (hv : 0 ≤ v) (hv2 : v ≤ 10000) (hd : 0 ≤ d) (hd2 : d ≤ 100000) (h : post (LI (sqOf v d))) : wX1_squatOf post y (LI v) (LI d) := by
  obtain ⟨h1, h2, h3, h4⟩ := sq_q hv hv2
  have e1 : v.tdiv 200 = v / 200 := td_pos (by omega)
  have b := sqTh_b hv hv2
  have b1 : 0 ≤ d * sqTh v := Int.mul_nonneg hd b.1
  have b2 : d * sqTh v ≤ 100000 * 100 := Int.mul_le_mul hd2 b.2 b.1 (by omega)
  unfold sqOf at h
  unfold wX1_squatOf
  simp (disch := omega) only [LI_add, LI_sub, LI_mul, II_add, II_sub, II_mul, II_neg, LI_neg, LI_ltS, LI_leS, LI_eqS, II_ltS, II_leS, II_eqS, LI_divS, II_divS, LI_i, II_lS, II_clS, vp_IS, L0, L1, L2, L64, L100, L200, L600, L900, L1000, L1100, L10000, L20000, L30000, L32768, L100k, Lm100k, L1M, Lm1, I0, I1, I2, I3, I4, I5, I7, I12, I16, I40, I65, I100, I600, I20000, Im1, nI_I, true_imp_iff, false_imp_iff, not_true_eq_false, not_false_eq_true, and_true, true_and, e1]
  refine ⟨fun c => ?_, fun c => ?_⟩
  · have e0 : sqTh v = sqI (v / 200).toNat + ((sqI ((v / 200).toNat + 1) - sqI (v / 200).toNat) * (v - v / 200 * 200)) / 200 := if_pos (by omega)
    rw [e0] at b1 b2 h
    have c0 := sq_b (v / 200).toNat (by omega)
    have c1 := sq_b ((v / 200).toNat + 1) (by omega)
    have c2 := sq_m (v / 200).toNat (by omega)
    have s1 := step_b (d := sqI ((v / 200).toNat + 1) - sqI (v / 200).toNat) (r := v - v / 200 * 200) (w := 200) (by omega) h3 h4
    have e2 : (v / 200 + 1).toNat = (v / 200).toNat + 1 := by omega
    have e3 : ((sqI ((v / 200).toNat + 1) - sqI (v / 200).toNat) * (v - v / 200 * 200)).tdiv 200 = (sqI ((v / 200).toNat + 1) - sqI (v / 200).toNat) * (v - v / 200 * 200) / 200 := td_pos (by omega)
    rw [e2, hq _ (show (v / 200).toNat < 7 by omega), hq _ (show (v / 200).toNat + 1 < 7 by omega), sq_ii _ (show (v / 200).toNat < 7 by omega), sq_ii _ (show (v / 200).toNat + 1 < 7 by omega)]
    simp (disch := omega) only [LI_add, LI_sub, LI_mul, II_add, II_sub, II_mul, II_neg, LI_neg, LI_ltS, LI_leS, LI_eqS, II_ltS, II_leS, II_eqS, LI_divS, II_divS, LI_i, II_lS, II_clS, vp_IS, L0, L1, L2, L64, L100, L200, L600, L900, L1000, L1100, L10000, L20000, L30000, L32768, L100k, Lm100k, L1M, Lm1, I0, I1, I2, I3, I4, I5, I7, I12, I16, I40, I65, I100, I600, I20000, Im1, nI_I, true_imp_iff, false_imp_iff, not_true_eq_false, not_false_eq_true, and_true, true_and, e3]
    exact ⟨by omega, by omega, by omega, q_up (by omega) (by omega) (by omega) (by omega) h⟩
  · have e0 : sqTh v = 100 := if_neg (by omega)
    rw [e0] at h b1 b2
    exact q_up (by omega) (by omega) (by omega) (by omega) h
/-- the last not behind -/
theorem q_lastNotBehind {post : Int32 → Prop} {N : Nat} {f : Nat → Int64} {g : Nat → Int} {t : Int} {n : Nat} (hn : n ≤ N) (hN : N < 1000) (hf : ∀ j, j < n → f j = LI (g j) ∧ bL (g j)) (ht : bL t) (h : post (II (oI (lastLE g t n)))) : wX0_lastNotBehind post N f (LI t) (nI n) := by
  unfold wX0_lastNotBehind
  refine ⟨n + 1, ?_⟩
  have key : ∀ k, k ≤ n → post (II (oI (lastLE g t k))) → wX0_lastNotBehind_L5 post N f (LI t) (k + 1) (II ((k : Int) - 1)) := by
    intro k
    induction k with
    | zero =>
      intro _ h
      rw [wX0_lastNotBehind_L5]
      simp (disch := omega) only [LI_add, LI_sub, LI_mul, II_add, II_sub, II_mul, II_neg, LI_neg, LI_ltS, LI_leS, LI_eqS, II_ltS, II_leS, II_eqS, LI_divS, II_divS, LI_i, II_lS, II_clS, vp_IS, L0, L1, L2, L64, L100, L200, L600, L900, L1000, L1100, L10000, L20000, L30000, L32768, L100k, Lm100k, L1M, Lm1, I0, I1, I2, I3, I4, I5, I7, I12, I16, I40, I65, I100, I600, I20000, Im1, nI_I, true_imp_iff, false_imp_iff, not_true_eq_false, not_false_eq_true, and_true, true_and]
      exact ⟨fun _ => h, fun c => absurd (by omega) c⟩
    | succ k ih =>
      intro hk h
      obtain ⟨e1, b1⟩ := hf k (by omega)
      rw [wX0_lastNotBehind_L5]
      have e2 : ((k + 1 : Nat) : Int) - 1 = (k : Int) := by omega
      rw [e2]
      simp (disch := omega) only [LI_add, LI_sub, LI_mul, II_add, II_sub, II_mul, II_neg, LI_neg, LI_ltS, LI_leS, LI_eqS, II_ltS, II_leS, II_eqS, LI_divS, II_divS, LI_i, II_lS, II_clS, vp_IS, L0, L1, L2, L64, L100, L200, L600, L900, L1000, L1100, L10000, L20000, L30000, L32768, L100k, Lm100k, L1M, Lm1, I0, I1, I2, I3, I4, I5, I7, I12, I16, I40, I65, I100, I600, I20000, Im1, nI_I, true_imp_iff, false_imp_iff, not_true_eq_false, not_false_eq_true, and_true, true_and]
      rw [show ((k : Int)).toNat = k by omega, e1, LI_lt ht b1]
      rw [lastLE] at h
      refine ⟨fun c => absurd c (by omega), fun _ => ⟨by omega, fun c => ?_, fun c => ?_⟩⟩
      · rw [if_neg (by omega)] at h
        rw [show (k : Int) + -1 = (k : Int) - 1 by omega]
        exact ih (by omega) h
      · rw [if_pos (by omega)] at h
        exact h
  have e : nI n - 1 = II ((n : Int) - 1) := by rw [nI_I, I1, II_sub]
  rw [e]
  exact key n (Nat.le_refl _) h
