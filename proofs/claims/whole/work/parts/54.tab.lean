/-! the table and the corrections, class and reference -/
theorem i_tn (i : Nat) : ((i : Int)).toNat = i := by omega
theorem i_tn1 (i : Nat) : ((i : Int) + 1).toNat = i + 1 := by omega
theorem q_hasTable {post : Int32 → Prop} {s : MS} {u : XS} (hI : MI s) (hX : XR s u) (h : post (bI (2 ≤ sN s))) : wX0_hasTable post u := by
  have h1 := hI.1
  unfold wX0_hasTable
  rw [hX.1]
  simp (disch := omega) only [LI_add, LI_sub, LI_mul, II_add, II_sub, II_mul, II_neg, LI_neg, LI_ltS, LI_leS, LI_eqS, II_ltS, II_leS, II_eqS, LI_divS, II_divS, LI_i, II_lS, II_clS, vp_IS, L0, L1, L2, L64, L100, L200, L600, L900, L1000, L1100, L10000, L20000, L30000, L32768, L100k, Lm100k, L1M, Lm1, I0, I1, I2, I3, I4, I5, I7, I12, I16, I40, I65, I100, I600, I20000, Im1, nI_I, true_imp_iff, false_imp_iff, not_true_eq_false, not_false_eq_true, and_true, true_and]
  refine ⟨fun c => ?_, fun c => ?_⟩
  · rw [bI_f (by omega)] at h; exact h
  · rw [bI_t (by omega)] at h; exact h
theorem q_firstSecond {post : Int64 → Prop} {s : MS} {u : XS} (hI : MI s) (hX : XR s u) (h : post (LI (fst s))) : wX0_firstSecond post u := by
  unfold wX0_firstSecond
  refine q_hasTable hI hX ?_
  rw [bI_0]
  unfold fst at h
  refine ⟨fun c => ?_, fun c => ?_⟩
  · rw [if_neg c] at h; exact h
  · have c := Decidable.not_not.mp c
    rw [if_pos c] at h
    rw [(hX.2.2.2.1 0 (by omega)).1]; exact h
theorem q_lastSecond {post : Int64 → Prop} {s : MS} {u : XS} (hI : MI s) (hX : XR s u) (h : post (LI (lst s))) : wX0_lastSecond post u := by
  have h1 := hI.1
  unfold wX0_lastSecond
  refine q_hasTable hI hX ?_
  rw [bI_0]
  unfold lst at h
  refine ⟨fun c => ?_, fun c => ?_⟩
  · rw [if_neg c] at h; exact h
  · have c := Decidable.not_not.mp c
    rw [if_pos c] at h
    rw [hX.1]
    simp (disch := omega) only [LI_add, LI_sub, LI_mul, II_add, II_sub, II_mul, II_neg, LI_neg, LI_ltS, LI_leS, LI_eqS, II_ltS, II_leS, II_eqS, LI_divS, II_divS, LI_i, II_lS, II_clS, vp_IS, L0, L1, L2, L64, L100, L200, L600, L900, L1000, L1100, L10000, L20000, L30000, L32768, L100k, Lm100k, L1M, Lm1, I0, I1, I2, I3, I4, I5, I7, I12, I16, I40, I65, I100, I600, I20000, Im1, nI_I, true_imp_iff, false_imp_iff, not_true_eq_false, not_false_eq_true, and_true, true_and]
    rw [show ((sN s : Int) - 1).toNat = sN s - 1 by omega, (hX.2.2.2.1 (sN s - 1) (by omega)).1]
    exact ⟨by omega, h⟩
theorem fst_b {s : MS} (hI : MI s) : -1 ≤ fst s ∧ fst s ≤ 20000 := by
  unfold fst
  by_cases c : 2 ≤ sN s
  · rw [if_pos c]; have := hI.2.2.2.1 0 (by omega); omega
  · rw [if_neg c]; omega
theorem lst_b {s : MS} (hI : MI s) : -1 ≤ lst s ∧ lst s ≤ 20000 := by
  unfold lst
  by_cases c : 2 ≤ sN s
  · rw [if_pos c]; have := hI.2.2.2.1 (sN s - 1) (by omega); omega
  · rw [if_neg c]; omega
theorem q_isInTable {post : Int32 → Prop} {s : MS} {u : XS} (hI : MI s) (hX : XR s u) {t : Int} (ht : bL t) (h : post (bI (inTab s t))) : wX0_isInTable post u (LI t) := by
  have f1 := fst_b hI
  have l1 := lst_b hI
  unfold wX0_isInTable
  refine q_hasTable hI hX ?_
  rw [bI_0]
  refine ⟨fun c => ?_, fun c => ?_⟩
  · rw [bI_f (fun z => c z.1)] at h; exact h
  · have c := Decidable.not_not.mp c
    refine q_firstSecond hI hX (q_lastSecond hI hX (q_isWithin ht ⟨by omega, by omega⟩ ⟨by omega, by omega⟩ ?_))
    rw [bI_0]
    have e1 : fst s = sT s 0 := if_pos c
    have e2 : lst s = sT s (sN s - 1) := if_pos c
    rw [e1, e2]
    refine ⟨fun d => ?_, fun d => ?_⟩
    · rw [bI_f (fun z => d z.2)] at h; exact h
    · rw [bI_t ⟨c, Decidable.not_not.mp d⟩] at h; exact h
theorem p_isInTable {post : Int32 → Prop} {s : MS} {y : YS} (hI : MI s) (hY : YR s y) {t : Int} (ht : bL t) (h : post (bI (inTab s t))) : wX1_isInTable post y (LI t) := by
  have h1 := hI.1
  unfold wX1_isInTable
  rw [hY.1]
  simp (disch := omega) only [LI_add, LI_sub, LI_mul, II_add, II_sub, II_mul, II_neg, LI_neg, LI_ltS, LI_leS, LI_eqS, II_ltS, II_leS, II_eqS, LI_divS, II_divS, LI_i, II_lS, II_clS, vp_IS, L0, L1, L2, L64, L100, L200, L600, L900, L1000, L1100, L10000, L20000, L30000, L32768, L100k, Lm100k, L1M, Lm1, I0, I1, I2, I3, I4, I5, I7, I12, I16, I40, I65, I100, I600, I20000, Im1, nI_I, true_imp_iff, false_imp_iff, not_true_eq_false, not_false_eq_true, and_true, true_and]
  refine ⟨fun c => ?_, fun c => ?_⟩
  · rw [bI_f (fun z => by have := z.1; omega)] at h; exact h
  · have b0 := hI.2.2.2.1 0 (by omega)
    have b1 := hI.2.2.2.1 (sN s - 1) (by omega)
    rw [show ((sN s : Int) - 1).toNat = sN s - 1 by omega, (hY.2.2.2.1 0 (by omega)).1, (hY.2.2.2.1 (sN s - 1) (by omega)).1, II_l ⟨by omega, by omega⟩, II_l ⟨by omega, by omega⟩]
    refine ⟨by omega, q_in ht ⟨by omega, by omega⟩ ⟨by omega, by omega⟩ ?_⟩
    show (bI _ = II 0 → _) ∧ _
    rw [← I0, bI_0]
    refine ⟨fun d => ?_, fun d => ?_⟩
    · rw [bI_f (fun z => d z.2)] at h; exact h
    · rw [bI_t ⟨by omega, Decidable.not_not.mp d⟩] at h; exact h
/-- a time of the table lies behind a turn -/
theorem tab_i {s : MS} {t : Int} (ht : inTab s t) : ∃ i, lastLE (sT s) t (sN s) = some i ∧ i < sN s ∧ sT s i ≤ t ∧ (∀ j, i < j → j < sN s → t < sT s j) := by
  cases e : lastLE (sT s) t (sN s) with
  | none => have := lastLE_none e 0 (by have := ht.1; omega); have := ht.2.1; omega
  | some i => obtain ⟨h1, h2, h3⟩ := lastLE_some e; exact ⟨i, rfl, h1, h2, h3⟩
theorem mulp_b {d p : Int} (hp : 0 ≤ p) (hp2 : p ≤ 32768) (hd : -200000 ≤ d) (hd2 : d ≤ 200000) : -200000 * 32768 ≤ d * p ∧ d * p ≤ 200000 * 32768 ∧ (0 ≤ d → 0 ≤ d * p ∧ d * p ≤ d * 32768) ∧ (d ≤ 0 → d * 32768 ≤ d * p ∧ d * p ≤ 0) := by
  rcases Int.lt_or_le d 0 with z | z
  · have h1 : -d * p ≤ -d * 32768 := Int.mul_le_mul_of_nonneg_left hp2 (by omega)
    have h2 : 0 ≤ -d * p := Int.mul_nonneg (by omega) hp
    rw [Int.neg_mul] at h1 h2
    exact ⟨by omega, by omega, fun _ => ⟨by omega, by omega⟩, fun _ => ⟨by omega, by omega⟩⟩
  · have h1 : d * p ≤ d * 32768 := Int.mul_le_mul_of_nonneg_left hp2 z
    have h2 : 0 ≤ d * p := Int.mul_nonneg z hp
    exact ⟨by omega, by omega, fun _ => ⟨by omega, by omega⟩, fun _ => ⟨by omega, by omega⟩⟩
theorem seg_b {s : MS} (hI : MI s) {i : Nat} {t : Int} (hi : i + 1 < sN s) (h1 : sT s i ≤ t) (h2 : t < sT s (i + 1)) : -100000 ≤ seg s i t ∧ seg s i t ≤ 100000 := by
  have b0 := hI.2.2.2.1 i (by omega)
  have b1 := hI.2.2.2.1 (i + 1) hi
  have p1 := part_b (g := t - sT s i) (w := sT s (i + 1) - sT s i) (by omega) (by omega)
  have m := mulp_b (d := sH s (i + 1) - sH s i) p1.1 p1.2 (by omega) (by omega)
  unfold seg
  generalize (sH s (i + 1) - sH s i) * part (t - sT s i) (sT s (i + 1) - sT s i) = z at *
  omega
theorem tab_b {s : MS} (hI : MI s) {t : Int} (ht : inTab s t) : -100000 ≤ tab s t ∧ tab s t ≤ 100000 := by
  obtain ⟨i, e, hi, h1, h2⟩ := tab_i ht
  unfold tab
  rw [e]
  show -100000 ≤ (if i + 1 < sN s then seg s i t else sH s i) ∧ (if i + 1 < sN s then seg s i t else sH s i) ≤ 100000
  by_cases c : i + 1 < sN s
  · rw [if_pos c]; exact seg_b hI c h1 (h2 (i + 1) (by omega) c)
  · rw [if_neg c]; have := hI.2.2.2.1 i hi; omega
theorem q_tableHeight {post : Int64 → Prop} {s : MS} {u : XS} (hI : MI s) (hX : XR s u) {t : Int} (ht : inTab s t) (h : post (LI (tab s t))) : wX0_tableHeight post u (LI t) := by
  obtain ⟨i, e, hi, h1, h2⟩ := tab_i ht
  have n40 := hI.1
  have b0 := hI.2.2.2.1 i hi
  have bl := hI.2.2.2.1 (sN s - 1) (by omega)
  have ht2 := ht.2.2
  unfold tab at h
  rw [e] at h
  replace h : post (LI (if i + 1 < sN s then seg s i t else sH s i)) := h
  unfold wX0_tableHeight
  rw [hX.1]
  refine q_lastNotBehind (g := sT s) (by omega) (by omega) (fun j hj => ⟨(hX.2.2.2.1 j hj).1, by have := hI.2.2.2.1 j hj; exact ⟨by omega, by omega⟩⟩) ⟨by omega, by omega⟩ ?_
  rw [e]
  show (_ → _) ∧ _
  have e1 := (hX.2.2.2.1 i hi).1
  have e2 := (hX.2.2.2.1 i hi).2
  simp only [oI]
  simp (disch := omega) only [LI_add, LI_sub, LI_mul, II_add, II_sub, II_mul, II_neg, LI_neg, LI_ltS, LI_leS, LI_eqS, II_ltS, II_leS, II_eqS, LI_divS, II_divS, LI_i, II_lS, II_clS, vp_IS, L0, L1, L2, L64, L100, L200, L600, L900, L1000, L1100, L10000, L20000, L30000, L32768, L100k, Lm100k, L1M, Lm1, I0, I1, I2, I3, I4, I5, I7, I12, I16, I40, I65, I100, I600, I20000, Im1, nI_I, true_imp_iff, false_imp_iff, not_true_eq_false, not_false_eq_true, and_true, true_and, i_tn, i_tn1, e1, e2]
  refine ⟨fun _ => ⟨by omega, fun c => ?_, fun c => ?_⟩, fun c => absurd (by omega) c⟩
  · have c1 : i + 1 < sN s := by omega
    have b1 := hI.2.2.2.1 (i + 1) c1
    have e3 := (hX.2.2.2.1 (i + 1) c1).1
    have e4 := (hX.2.2.2.1 (i + 1) c1).2
    have h3 := h2 (i + 1) (by omega) c1
    rw [if_pos c1] at h
    rw [e3, e4]
    simp only [LI_sub]
    refine ⟨by omega, by omega, by omega, q_cosinePart (g := t - sT s i) (w := sT s (i + 1) - sT s i) (by omega) (by omega) (by omega) ?_⟩
    have p1 := part_b (g := t - sT s i) (w := sT s (i + 1) - sT s i) (by omega) (by omega)
    have m := mulp_b (d := sH s (i + 1) - sH s i) p1.1 p1.2 (by omega) (by omega)
    refine ⟨by omega, ?_⟩
    rw [LI_mul]
    refine q_floorDiv (by omega) (by omega) ?_
    rw [LI_add]
    exact h
  · rw [if_neg (by omega)] at h; exact h
theorem hlv_b {B : Int} : ∀ (n : Nat) (x : Int), -B ≤ x → x ≤ B → -B ≤ hlv n x ∧ hlv n x ≤ B := by
  intro n
  induction n with
  | zero => intro x h1 h2; exact ⟨h1, h2⟩
  | succ n ih =>
    intro x h1 h2
    rw [hlv]
    rcases Int.lt_or_le x 0 with z | z
    · have e := td_neg (b := 2) z
      exact ih _ (by omega) (by omega)
    · have e := td_pos (b := 2) z
      exact ih _ (by omega) (by omega)
theorem corr_b {s : MS} (hI : MI s) (t : Int) : -200000 ≤ corr s t ∧ corr s t ≤ 200000 := by
  unfold corr
  cases e : lastLE (sO s) t (sM s) with
  | none => exact ⟨by simp, by simp⟩
  | some i =>
    have b := hI.2.2.2.2.2.1 i (lastLE_some e).1
    exact hlv_b _ _ (by omega) (by omega)
theorem q_halving {post : Int64 → Prop} {u : XS} {hh : Int} (hb : hh ≤ 1000000) : ∀ (k : Nat) (m x : Int), 0 ≤ m → m + k = hh → -200000 ≤ x → x ≤ 200000 → post (LI (hlv k x)) → wX0_correction_L44 post u (LI hh) (k + 1) (LI x) (LI m) := by
  intro k
  induction k with
  | zero =>
    intro m x h1 h2 h3 h4 h
    rw [wX0_correction_L44]
    simp (disch := omega) only [LI_add, LI_sub, LI_mul, II_add, II_sub, II_mul, II_neg, LI_neg, LI_ltS, LI_leS, LI_eqS, II_ltS, II_leS, II_eqS, LI_divS, II_divS, LI_i, II_lS, II_clS, vp_IS, L0, L1, L2, L64, L100, L200, L600, L900, L1000, L1100, L10000, L20000, L30000, L32768, L100k, Lm100k, L1M, Lm1, I0, I1, I2, I3, I4, I5, I7, I12, I16, I40, I65, I100, I600, I20000, Im1, nI_I, true_imp_iff, false_imp_iff, not_true_eq_false, not_false_eq_true, and_true, true_and]
    exact ⟨fun _ => h, fun c => absurd (by omega) c⟩
  | succ k ih =>
    intro m x h1 h2 h3 h4 h
    rw [wX0_correction_L44]
    simp (disch := omega) only [LI_add, LI_sub, LI_mul, II_add, II_sub, II_mul, II_neg, LI_neg, LI_ltS, LI_leS, LI_eqS, II_ltS, II_leS, II_eqS, LI_divS, II_divS, LI_i, II_lS, II_clS, vp_IS, L0, L1, L2, L64, L100, L200, L600, L900, L1000, L1100, L10000, L20000, L30000, L32768, L100k, Lm100k, L1M, Lm1, I0, I1, I2, I3, I4, I5, I7, I12, I16, I40, I65, I100, I600, I20000, Im1, nI_I, true_imp_iff, false_imp_iff, not_true_eq_false, not_false_eq_true, and_true, true_and]
    have h5 := hlv_b (B := 200000) 1 x (by omega) (by omega)
    simp only [hlv] at h5
    exact ⟨fun c => absurd c (by omega), fun _ => ih (m + 1) _ (by omega) (by omega) h5.1 h5.2 h⟩
theorem q_correction {post : Int64 → Prop} {s : MS} {u : XS} (hI : MI s) (hX : XR s u) {t : Int} (ht : 0 ≤ t) (ht2 : t ≤ 20000) (h : post (LI (corr s t))) : wX0_correction post u (LI t) := by
  have n16 := hI.2.1
  unfold wX0_correction
  rw [hX.2.1]
  refine q_lastNotBehind (g := sO s) (by omega) (by omega) (fun j hj => ⟨(hX.2.2.2.2.1 j hj).1, by have := hI.2.2.2.2.2.1 j hj; exact ⟨by omega, by omega⟩⟩) ⟨by omega, by omega⟩ ?_
  unfold corr at h
  cases e : lastLE (sO s) t (sM s) with
  | none =>
    rw [e] at h
    simp only [oI]
    simp (disch := omega) only [LI_add, LI_sub, LI_mul, II_add, II_sub, II_mul, II_neg, LI_neg, LI_ltS, LI_leS, LI_eqS, II_ltS, II_leS, II_eqS, LI_divS, II_divS, LI_i, II_lS, II_clS, vp_IS, L0, L1, L2, L64, L100, L200, L600, L900, L1000, L1100, L10000, L20000, L30000, L32768, L100k, Lm100k, L1M, Lm1, I0, I1, I2, I3, I4, I5, I7, I12, I16, I40, I65, I100, I600, I20000, Im1, nI_I, true_imp_iff, false_imp_iff, not_true_eq_false, not_false_eq_true, and_true, true_and]
    exact ⟨fun c => absurd c (by omega), fun _ => h⟩
  | some i =>
    rw [e] at h
    obtain ⟨hi, h1, h2⟩ := lastLE_some e
    have b := hI.2.2.2.2.2.1 i hi
    have e1 := (hX.2.2.2.2.1 i hi).1
    have e2 := (hX.2.2.2.2.1 i hi).2
    have e3 : (t - sO s i).tdiv 600 = (t - sO s i) / 600 := td_pos (by omega)
    simp only [oI]
    simp (disch := omega) only [LI_add, LI_sub, LI_mul, II_add, II_sub, II_mul, II_neg, LI_neg, LI_ltS, LI_leS, LI_eqS, II_ltS, II_leS, II_eqS, LI_divS, II_divS, LI_i, II_lS, II_clS, vp_IS, L0, L1, L2, L64, L100, L200, L600, L900, L1000, L1100, L10000, L20000, L30000, L32768, L100k, Lm100k, L1M, Lm1, I0, I1, I2, I3, I4, I5, I7, I12, I16, I40, I65, I100, I600, I20000, Im1, nI_I, true_imp_iff, false_imp_iff, not_true_eq_false, not_false_eq_true, and_true, true_and, i_tn, e1, e2, e3]
    refine ⟨fun _ => ⟨by omega, by omega, ((t - sO s i) / 600).toNat + 1, ?_⟩, fun c => absurd (by omega) c⟩
    exact q_halving (by omega) _ 0 _ (by omega) (by omega) (by omega) (by omega) h
theorem tab_r {s : MS} (hI : MI s) {t : Int} (ht : inTab s t) : 0 ≤ t ∧ t ≤ 20000 := by
  have := ht.1
  have b0 := hI.2.2.2.1 0 (by omega)
  have bl := hI.2.2.2.1 (sN s - 1) (by omega)
  have := ht.2
  omega
theorem hgt_b {s : MS} (hI : MI s) {t : Int} (ht : inTab s t) : -300000 ≤ hgt s t ∧ hgt s t ≤ 300000 := by
  have := tab_b hI ht
  have := corr_b hI t
  unfold hgt
  omega
theorem q_heightAt {post : Int64 → Prop} {s : MS} {u : XS} (hI : MI s) (hX : XR s u) {t : Int} (ht : inTab s t) (h : post (LI (hgt s t))) : wX0_heightAt post u (LI t) := by
  have r := tab_r hI ht
  unfold wX0_heightAt
  refine q_tableHeight hI hX ht (q_correction hI hX r.1 r.2 ?_)
  rw [LI_add]; exact h
