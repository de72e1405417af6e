/-! the small methods, class and reference -/
theorem q_isWithin {post : Int32 → Prop} {a lo hi : Int} (ha : bL a) (h1 : bL lo) (h2 : bL hi) (h : post (bI (lo ≤ a ∧ a ≤ hi))) : wX0_isWithin post (LI a) (LI lo) (LI hi) := by
  unfold wX0_isWithin
  rw [LI_lt ha h1, LI_lt h2 ha]
  refine ⟨fun c => ?_, fun c => ⟨fun d => ?_, fun d => ?_⟩⟩
  · rw [bI_f (by omega)] at h; exact h
  · rw [bI_f (by omega)] at h; exact h
  · rw [bI_t (by omega)] at h; exact h
theorem q_in {post : Int32 → Prop} {a lo hi : Int} (ha : bL a) (h1 : bL lo) (h2 : bL hi) (h : post (bI (lo ≤ a ∧ a ≤ hi))) : wX1_in post (LI a) (LI lo) (LI hi) := by
  unfold wX1_in
  rw [LI_lt ha h1, LI_lt h2 ha]
  refine ⟨fun c => ?_, fun c => ⟨fun d => ?_, fun d => ?_⟩⟩
  · rw [bI_f (by omega)] at h; exact h
  · rw [bI_f (by omega)] at h; exact h
  · rw [bI_t (by omega)] at h; exact h
theorem q_isLevel {post : Int32 → Prop} {a : Int} (ha : bL a) (h : post (bI (-100000 ≤ a ∧ a ≤ 100000))) : wX0_isLevel post (LI a) := by
  unfold wX0_isLevel
  rw [Lm100k, L100k]
  exact q_isWithin ha ⟨by omega, by omega⟩ ⟨by omega, by omega⟩ h
theorem q_isHeight {post : Int32 → Prop} {a : Int} (ha : bL a) (h : post (bI (-100000 ≤ a ∧ a ≤ 100000))) : wX1_isHeight post (LI a) := by
  unfold wX1_isHeight
  rw [Lm100k, L100k]
  exact q_in ha ⟨by omega, by omega⟩ ⟨by omega, by omega⟩ h
theorem q_isDensity {post : Int32 → Prop} {a : Int} (ha : bL a) (h : post (bI (900 ≤ a ∧ a ≤ 1100))) : wX0_isDensity post (LI a) := by
  unfold wX0_isDensity
  rw [L900, L1100]
  exact q_isWithin ha ⟨by omega, by omega⟩ ⟨by omega, by omega⟩ h
theorem q_dividedUp {post : Int64 → Prop} {a d : Int} (ha : -1000000000000000 ≤ a) (ha2 : a ≤ 1000000000000000) (hd : 0 < d) (hd2 : d ≤ 1000000000000) (h : post (LI (upD a d))) : wX0_dividedUp post (LI a) (LI d) := by
  have b1 : bL d := ⟨by omega, by omega⟩
  have b2 : bL (a + d - 1) := ⟨by omega, by omega⟩
  unfold wX0_dividedUp
  rw [L0, L1, LI_lt ⟨by omega, by omega⟩ b1, LI_eq b1 ⟨by omega, by omega⟩, LI_add, LI_sub, LI_div b2 b1]
  exact ⟨fun _ => ⟨by omega, h⟩, fun c => absurd hd c⟩
theorem q_up {post : Int64 → Prop} {a d : Int} (ha : -1000000000000000 ≤ a) (ha2 : a ≤ 1000000000000000) (hd : 0 < d) (hd2 : d ≤ 1000000000000) (h : post (LI (upD a d))) : wX1_up post (LI a) (LI d) := by
  have b1 : bL d := ⟨by omega, by omega⟩
  have b2 : bL (a + d - 1) := ⟨by omega, by omega⟩
  unfold wX1_up
  rw [L0, L1, LI_eq b1 ⟨by omega, by omega⟩, LI_add, LI_sub, LI_div b2 b1]
  exact ⟨by omega, h⟩
theorem q_secondsFor {post : Int64 → Prop} {w v : Int} (hw : 0 ≤ w) (hw2 : w ≤ 1000000) (hv : 0 < v) (hv2 : v ≤ 10000) (h : post (LI (upD (100 * w) v))) : wX0_secondsFor post (LI w) (LI v) := by
  unfold wX0_secondsFor
  rw [L100, LI_mul]
  exact q_dividedUp (by omega) (by omega) hv (by omega) h
theorem q_floorDiv {post : Int64 → Prop} {a : Int} (ha : -1000000000000000 ≤ a) (ha2 : a ≤ 1000000000000000) (h : post (LI (a / 32768))) : wJ9_floorDiv_f86c9 post (LI a) (LI 32768) := by
  have b1 : bL (32768 : Int) := ⟨by omega, by omega⟩
  have b2 : bL a := ⟨by omega, by omega⟩
  have hx := xor_neg b2 b1 (by omega)
  have ht : (0 ≤ a ∧ a.tdiv 32768 = a / 32768) ∨ (a < 0 ∧ a.tdiv 32768 = -((-a) / 32768)) := by
    rcases Int.lt_or_le a 0 with z | z
    · exact Or.inr ⟨z, td_neg z⟩
    · exact Or.inl ⟨z, td_pos z⟩
  have hm : -1000000000000000 ≤ a.tdiv 32768 * 32768 ∧ a.tdiv 32768 * 32768 ≤ 1000000000000000 := by omega
  unfold wJ9_floorDiv_f86c9
  rw [LI_div b2 b1, LI_mul, L1, LI_sub, LI_eq (a := a.tdiv 32768 * 32768) ⟨by omega, by omega⟩ b2]
  refine ⟨by rw [L0, LI_eq b1 ⟨by omega, by omega⟩]; omega, fun c => ?_, fun c => ⟨fun d => ?_, fun d => ?_⟩⟩
  · rw [show a.tdiv 32768 = a / 32768 from td_pos (by
      rcases Int.lt_or_le a 0 with z | z
      · have := hx.mpr z
        rw [Int64.lt_iff_toInt_lt] at this
        rw [Int64.le_iff_toInt_le] at c
        omega
      · exact z)]
    exact h
  · rw [fl_eq (by omega) d]; exact h
  · have hn : a < 0 := hx.mp (by rw [Int64.lt_iff_toInt_lt]; rw [Int64.le_iff_toInt_le] at c; omega)
    rw [fl_neg (by omega) hn d]; exact h
theorem q_floor {post : Int64 → Prop} {a : Int} (ha : -1000000000000000 ≤ a) (ha2 : a ≤ 1000000000000000) (h : post (LI (a / 32768))) : wX1_floor post (LI a) (LI 32768) := by
  have b1 : bL (32768 : Int) := ⟨by omega, by omega⟩
  have b2 : bL a := ⟨by omega, by omega⟩
  have ht : (0 ≤ a ∧ a.tdiv 32768 = a / 32768) ∨ (a < 0 ∧ a.tdiv 32768 = -((-a) / 32768)) := by
    rcases Int.lt_or_le a 0 with z | z
    · exact Or.inr ⟨z, td_neg z⟩
    · exact Or.inl ⟨z, td_pos z⟩
  have hm : -1000000000000000 ≤ a.tdiv 32768 * 32768 ∧ a.tdiv 32768 * 32768 ≤ 1000000000000000 := by omega
  unfold wX1_floor
  rw [LI_div b2 b1, LI_mul, LI_sub, L0, L1, LI_sub, LI_le ⟨by omega, by omega⟩ (b := a - a.tdiv 32768 * 32768) ⟨by omega, by omega⟩, LI_eq b1 ⟨by omega, by omega⟩]
  refine ⟨by omega, by omega, fun c => ?_, fun c => ?_⟩
  · have e : a.tdiv 32768 = a / 32768 := by omega
    rw [e]; exact h
  · have e : a.tdiv 32768 - 1 = a / 32768 := by omega
    rw [e]; exact h
