/-! the calls that write, and those that read -/
def tnS (s : MS) (t h : Int) : MS := (sN s + 1, (fun j => if j = sN s then t else sT s j), (fun j => if j = sN s then h else sH s j), s.2.2.2)
def obS (s : MS) (t d : Int) : MS := (sN s, sT s, sH s, sM s + 1, (fun j => if j = sM s then t else sO s j), (fun j => if j = sM s then d else sD s j), s.2.2.2.2.2.2)
def plS (s : MS) (w b : Int) : MS := (sN s, sT s, sH s, sM s, sO s, sD s, sK s + 1, (fun j => if j = sK s then w else sW s j), (fun j => if j = sK s then b else sB s j))
def tnOk (s : MS) (t h : Int) : Prop := (0 ≤ t ∧ t ≤ 20000) ∧ (-100000 ≤ h ∧ h ≤ 100000) ∧ (sN s = 0 ∨ sT s (sN s - 1) < t)
def obOk (s : MS) (t h : Int) : Prop := inTab s t ∧ (-100000 ≤ h ∧ h ≤ 100000) ∧ (sM s = 0 ∨ sO s (sM s - 1) ≤ t)
def plOk (s : MS) (w b : Int) : Prop := (0 ≤ w ∧ w ≤ 1000000) ∧ (-100000 ≤ b ∧ b ≤ 100000) ∧ (sK s = 0 ∨ sW s (sK s - 1) < w)
def alt (s : MS) (h : Int) : Prop := sN s = 0 ∨ (sN s = 1 ∧ h ≠ sH s (sN s - 1)) ∨ (2 ≤ sN s ∧ ((sH s (sN s - 2) < sH s (sN s - 1) ∧ h < sH s (sN s - 1)) ∨ (sH s (sN s - 1) ≤ sH s (sN s - 2) ∧ sH s (sN s - 1) < h)))
abbrev xTurn (u : XS) (t h : Int64) : XS := ((vp_updL (xTT u) ((xNT u)).toNatClampNeg t), (vp_updL (xTH u) ((xNT u)).toNatClampNeg h), ((xNT u) + 1), (xOT u), (xOD u), (xNO u), (xPW u), (xPB u), (xNP u))
abbrev yTurn (y : YS) (t h : Int64) : YS := (0, ((yNT y) + 1), (yNO y), (yNP y), (upd (yT y) ((yNT y)).toNatClampNeg (t).toInt32), (upd (yH y) ((yNT y)).toNatClampNeg (h).toInt32), (yO y), (yD y), (yW y), (yB y), (yC y), (yQ y))
abbrev xObs1 (u : XS) (t : Int64) : XS := ((xTT u), (xTH u), (xNT u), (vp_updL (xOT u) ((xNO u)).toNatClampNeg t), (xOD u), (xNO u), (xPW u), (xPB u), (xNP u))
abbrev xObs (u : XS) (t d : Int64) : XS := ((xTT u), (xTH u), (xNT u), (vp_updL (xOT u) ((xNO u)).toNatClampNeg t), (vp_updL (xOD u) ((xNO u)).toNatClampNeg d), ((xNO u) + 1), (xPW u), (xPB u), (xNP u))
abbrev yObs1 (y : YS) (t : Int64) : YS := (0, (yNT y), (yNO y), (yNP y), (yT y), (yH y), (upd (yO y) ((yNO y)).toNatClampNeg (t).toInt32), (yD y), (yW y), (yB y), (yC y), (yQ y))
abbrev yObs (y : YS) (t d : Int64) : YS := (0, (yNT y), ((yNO y) + 1), (yNP y), (yT y), (yH y), (upd (yO y) ((yNO y)).toNatClampNeg (t).toInt32), (vp_updL (yD y) ((yNO y)).toNatClampNeg d), (yW y), (yB y), (yC y), (yQ y))
abbrev xPl (u : XS) (w b : Int64) : XS := ((xTT u), (xTH u), (xNT u), (xOT u), (xOD u), (xNO u), (vp_updL (xPW u) ((xNP u)).toNatClampNeg w), (vp_updL (xPB u) ((xNP u)).toNatClampNeg b), ((xNP u) + 1))
abbrev yPl (y : YS) (w b : Int64) : YS := (0, (yNT y), (yNO y), ((yNP y) + 1), (yT y), (yH y), (yO y), (yD y), (vp_updL (yW y) ((yNP y)).toNatClampNeg w), (vp_updL (yB y) ((yNP y)).toNatClampNeg b), (yC y), (yQ y))
theorem nI_cl {n : Nat} (h : n < 1000) : (nI n).toNatClampNeg = n := by rw [nI_I, II_cl ⟨by omega, by omega⟩]; omega
theorem nI_m {n : Nat} (h : n < 1000) (h1 : 1 ≤ n) : (nI n - 1).toNatClampNeg = n - 1 := by rw [nI_I, I1, II_sub, II_cl ⟨by omega, by omega⟩]; omega
theorem nI_m2 {n : Nat} (h : n < 1000) (h1 : 2 ≤ n) : (nI n - 2).toNatClampNeg = n - 2 := by rw [nI_I, I2, II_sub, II_cl ⟨by omega, by omega⟩]; omega
theorem nI_v {n N : Nat} (h : n < N) (hN : N < 1000) : vp_in (nI n) N := by rw [nI_I]; exact vp_II (by omega) (by omega) (by omega)
theorem nI_v1 {n N : Nat} (h1 : 1 ≤ n) (h : n ≤ N) (hN : N < 1000) : vp_in (nI n - 1) N := by rw [nI_I, I1, II_sub]; exact vp_II (by omega) (by omega) (by omega)
theorem nI_v2 {n N : Nat} (h1 : 2 ≤ n) (h : n ≤ N) (hN : N < 1000) : vp_in (nI n - 2) N := by rw [nI_I, I2, II_sub]; exact vp_II (by omega) (by omega) (by omega)
theorem nI_e {n m : Nat} (hn : n < 1000) (hm : m < 1000) : nI n = nI m ↔ n = m := by rw [nI_I, nI_I, II_eq ⟨by omega, by omega⟩ ⟨by omega, by omega⟩]; omega
theorem ni_le {n m : Nat} (hn : n < 1000) (hm : m < 1000) : nI n ≤ nI m ↔ n ≤ m := by rw [nI_I, nI_I, II_le ⟨by omega, by omega⟩ ⟨by omega, by omega⟩]; omega
theorem ni_lt {n m : Nat} (hn : n < 1000) (hm : m < 1000) : nI n < nI m ↔ n < m := by rw [nI_I, nI_I, II_lt ⟨by omega, by omega⟩ ⟨by omega, by omega⟩]; omega
theorem MI_turn {s : MS} (hI : MI s) {t h : Int} (ok : tnOk s t h) (hn : sN s < 40) : MI (tnS s t h) := by
  obtain ⟨o1, o2, o3⟩ := ok
  obtain ⟨i1, i2, i3, i4, i5, i6⟩ := hI
  refine ⟨hn, i2, i3, fun j hj => ?_, fun i j hij hj => ?_, i6⟩
  · have hj : j < sN s + 1 := hj
    show 0 ≤ (if j = sN s then t else sT s j) ∧ (if j = sN s then t else sT s j) ≤ 20000 ∧ -100000 ≤ (if j = sN s then h else sH s j) ∧ (if j = sN s then h else sH s j) ≤ 100000
    by_cases c : j = sN s
    · rw [if_pos c, if_pos c]; omega
    · rw [if_neg c, if_neg c]; exact i4 j (by omega)
  · have hj : j < sN s + 1 := hj
    show (if i = sN s then t else sT s i) < (if j = sN s then t else sT s j)
    rw [if_neg (by omega)]
    by_cases c : j = sN s
    · rw [if_pos c]
      rcases o3 with o3 | o3
      · omega
      · rcases Nat.lt_or_ge i (sN s - 1) with z | z
        · have := i5 i (sN s - 1) z (by omega); omega
        · rw [show i = sN s - 1 by omega]; exact o3
    · rw [if_neg c]; exact i5 i j hij (by omega)
theorem XR_turn {s : MS} {u : XS} (hI : MI s) (hX : XR s u) (t h : Int) : XR (tnS s t h) (xTurn u (LI t) (LI h)) := by
  have n40 := hI.1
  obtain ⟨x1, x2, x3, x4, x5⟩ := hX
  have ec : (xNT u).toNatClampNeg = sN s := by rw [x1]; exact nI_cl (by omega)
  refine ⟨?_, x2, x3, fun j hj => ?_, x5⟩
  · show xNT u + 1 = nI (sN s + 1)
    rw [x1, nI_1]
  · have hj : j < sN s + 1 := hj
    show vp_updL (xTT u) (xNT u).toNatClampNeg (LI t) j = LI (if j = sN s then t else sT s j) ∧ vp_updL (xTH u) (xNT u).toNatClampNeg (LI h) j = LI (if j = sN s then h else sH s j)
    rw [ec]
    by_cases c : j = sN s
    · rw [if_pos c, if_pos c, c]; exact ⟨pk_uLs, pk_uLs⟩
    · rw [if_neg c, if_neg c, pk_uLn c, pk_uLn c]; exact x4 j (by omega)
theorem YR_turn {s : MS} {y : YS} (hI : MI s) (hY : YR s y) (t h : Int) : YR (tnS s t h) (yTurn y (LI t) (LI h)) := by
  have n40 := hI.1
  obtain ⟨x1, x2, x3, x4, x5⟩ := hY
  have ec : (yNT y).toNatClampNeg = sN s := by rw [x1]; exact nI_cl (by omega)
  refine ⟨?_, x2, x3, fun j hj => ?_, x5⟩
  · show yNT y + 1 = nI (sN s + 1)
    rw [x1, nI_1]
  · have hj : j < sN s + 1 := hj
    show upd (yT y) (yNT y).toNatClampNeg (LI t).toInt32 j = II (if j = sN s then t else sT s j) ∧ upd (yH y) (yNT y).toNatClampNeg (LI h).toInt32 j = II (if j = sN s then h else sH s j)
    rw [ec, LI_i, LI_i]
    by_cases c : j = sN s
    · rw [if_pos c, if_pos c, c]; exact ⟨pk_us, pk_us⟩
    · rw [if_neg c, if_neg c, pk_un c, pk_un c]; exact x4 j (by omega)
theorem MI_obs {s : MS} (hI : MI s) {t h : Int} (ok : obOk s t h) (hn : sM s < 16) : MI (obS s t (h - tab s t)) := by
  obtain ⟨o1, o2, o3⟩ := ok
  have tb := tab_b hI o1
  have tr := tab_r hI o1
  obtain ⟨i1, i2, i3, i4, i5, i6, i7, i8⟩ := hI
  refine ⟨i1, hn, i3, i4, i5, fun j hj => ?_, fun i j hij hj => ?_, i8⟩
  · have hj : j < sM s + 1 := hj
    show 0 ≤ (if j = sM s then t else sO s j) ∧ (if j = sM s then t else sO s j) ≤ 20000 ∧ -200000 ≤ (if j = sM s then h - tab s t else sD s j) ∧ (if j = sM s then h - tab s t else sD s j) ≤ 200000
    by_cases c : j = sM s
    · rw [if_pos c, if_pos c]; omega
    · rw [if_neg c, if_neg c]; exact i6 j (by omega)
  · have hj : j < sM s + 1 := hj
    show (if i = sM s then t else sO s i) ≤ (if j = sM s then t else sO s j)
    by_cases c : j = sM s
    · rw [if_pos c]
      by_cases d : i = sM s
      · rw [if_pos d]; omega
      · rw [if_neg d]
        rcases o3 with o3 | o3
        · omega
        · have := i7 i (sM s - 1) (by omega) (by omega); omega
    · rw [if_neg c, if_neg (by omega)]; exact i7 i j hij (by omega)
theorem XR_obs1 {s : MS} {u : XS} (hI : MI s) (hX : XR s u) (t : Int64) : XR s (xObs1 u t) := by
  have n16 := hI.2.1
  obtain ⟨x1, x2, x3, x4, x5, x6⟩ := hX
  have ec : (xNO u).toNatClampNeg = sM s := by rw [x2]; exact nI_cl (by omega)
  refine ⟨x1, x2, x3, x4, fun j hj => ?_, x6⟩
  show vp_updL (xOT u) (xNO u).toNatClampNeg t j = _ ∧ _
  rw [ec, pk_uLn (by omega)]; exact x5 j hj
theorem XR_obs {s : MS} {u : XS} (hI : MI s) (hX : XR s u) (t d : Int) : XR (obS s t d) (xObs u (LI t) (LI d)) := by
  have n16 := hI.2.1
  obtain ⟨x1, x2, x3, x4, x5, x6⟩ := hX
  have ec : (xNO u).toNatClampNeg = sM s := by rw [x2]; exact nI_cl (by omega)
  refine ⟨x1, ?_, x3, x4, fun j hj => ?_, x6⟩
  · show xNO u + 1 = nI (sM s + 1)
    rw [x2, nI_1]
  · have hj : j < sM s + 1 := hj
    show vp_updL (xOT u) (xNO u).toNatClampNeg (LI t) j = LI (if j = sM s then t else sO s j) ∧ vp_updL (xOD u) (xNO u).toNatClampNeg (LI d) j = LI (if j = sM s then d else sD s j)
    rw [ec]
    by_cases c : j = sM s
    · rw [if_pos c, if_pos c, c]; exact ⟨pk_uLs, pk_uLs⟩
    · rw [if_neg c, if_neg c, pk_uLn c, pk_uLn c]; exact x5 j (by omega)
theorem YR_obs1 {s : MS} {y : YS} (hI : MI s) (hY : YR s y) (t : Int64) : YR s (yObs1 y t) := by
  have n16 := hI.2.1
  obtain ⟨x1, x2, x3, x4, x5, x6⟩ := hY
  have ec : (yNO y).toNatClampNeg = sM s := by rw [x2]; exact nI_cl (by omega)
  refine ⟨x1, x2, x3, x4, fun j hj => ?_, x6⟩
  show upd (yO y) (yNO y).toNatClampNeg t.toInt32 j = _ ∧ _
  rw [ec, pk_un (by omega)]; exact x5 j hj
theorem YR_obs {s : MS} {y : YS} (hI : MI s) (hY : YR s y) (t d : Int) : YR (obS s t d) (yObs y (LI t) (LI d)) := by
  have n16 := hI.2.1
  obtain ⟨x1, x2, x3, x4, x5, x6⟩ := hY
  have ec : (yNO y).toNatClampNeg = sM s := by rw [x2]; exact nI_cl (by omega)
  refine ⟨x1, ?_, x3, x4, fun j hj => ?_, x6⟩
  · show yNO y + 1 = nI (sM s + 1)
    rw [x2, nI_1]
  · have hj : j < sM s + 1 := hj
    show upd (yO y) (yNO y).toNatClampNeg (LI t).toInt32 j = II (if j = sM s then t else sO s j) ∧ vp_updL (yD y) (yNO y).toNatClampNeg (LI d) j = LI (if j = sM s then d else sD s j)
    rw [ec, LI_i]
    by_cases c : j = sM s
    · rw [if_pos c, if_pos c, c]; exact ⟨pk_us, pk_uLs⟩
    · rw [if_neg c, if_neg c, pk_un c, pk_uLn c]; exact x5 j (by omega)
theorem MI_pl {s : MS} (hI : MI s) {w b : Int} (ok : plOk s w b) (hn : sK s < 12) : MI (plS s w b) := by
  obtain ⟨o1, o2, o3⟩ := ok
  obtain ⟨i1, i2, i3, i4, i5, i6, i7, i8⟩ := hI
  refine ⟨i1, i2, hn, i4, i5, i6, i7, fun j hj => ?_⟩
  have hj : j < sK s + 1 := hj
  show 0 ≤ (if j = sK s then w else sW s j) ∧ (if j = sK s then w else sW s j) ≤ 1000000 ∧ -100000 ≤ (if j = sK s then b else sB s j) ∧ (if j = sK s then b else sB s j) ≤ 100000
  by_cases c : j = sK s
  · rw [if_pos c, if_pos c]; omega
  · rw [if_neg c, if_neg c]; exact i8 j (by omega)
theorem XR_pl {s : MS} {u : XS} (hI : MI s) (hX : XR s u) (w b : Int) : XR (plS s w b) (xPl u (LI w) (LI b)) := by
  have n12 := hI.2.2.1
  obtain ⟨x1, x2, x3, x4, x5, x6⟩ := hX
  have ec : (xNP u).toNatClampNeg = sK s := by rw [x3]; exact nI_cl (by omega)
  refine ⟨x1, x2, ?_, x4, x5, fun j hj => ?_⟩
  · show xNP u + 1 = nI (sK s + 1)
    rw [x3, nI_1]
  · have hj : j < sK s + 1 := hj
    show vp_updL (xPW u) (xNP u).toNatClampNeg (LI w) j = LI (if j = sK s then w else sW s j) ∧ vp_updL (xPB u) (xNP u).toNatClampNeg (LI b) j = LI (if j = sK s then b else sB s j)
    rw [ec]
    by_cases c : j = sK s
    · rw [if_pos c, if_pos c, c]; exact ⟨pk_uLs, pk_uLs⟩
    · rw [if_neg c, if_neg c, pk_uLn c, pk_uLn c]; exact x6 j (by omega)
theorem YR_pl {s : MS} {y : YS} (hI : MI s) (hY : YR s y) (w b : Int) : YR (plS s w b) (yPl y (LI w) (LI b)) := by
  have n12 := hI.2.2.1
  obtain ⟨x1, x2, x3, x4, x5, x6, x7⟩ := hY
  have ec : (yNP y).toNatClampNeg = sK s := by rw [x3]; exact nI_cl (by omega)
  refine ⟨x1, x2, ?_, x4, x5, fun j hj => ?_, x7⟩
  · show yNP y + 1 = nI (sK s + 1)
    rw [x3, nI_1]
  · have hj : j < sK s + 1 := hj
    show vp_updL (yW y) (yNP y).toNatClampNeg (LI w) j = LI (if j = sK s then w else sW s j) ∧ vp_updL (yB y) (yNP y).toNatClampNeg (LI b) j = LI (if j = sK s then b else sB s j)
    rw [ec]
    by_cases c : j = sK s
    · rw [if_pos c, if_pos c, c]; exact ⟨pk_uLs, pk_uLs⟩
    · rw [if_neg c, if_neg c, pk_uLn c, pk_uLn c]; exact x6 j (by omega)
theorem q_alternates {post : Int32 → Prop} {s : MS} {u : XS} (hI : MI s) (hX : XR s u) {h : Int} (hh : -100000 ≤ h) (hh2 : h ≤ 100000) (h1 : alt s h → post 1) (h0 : ¬ alt s h → post 0) : wX0_alternates post u (LI h) := by
  have n40 := hI.1
  unfold alt at h1 h0
  unfold wX0_alternates
  rw [hX.1, show (0 : Int32) = nI 0 by decide, show (1 : Int32) = nI 1 by decide, nI_e (by omega) (by omega), nI_e (by omega) (by omega)]
  refine ⟨fun c => h1 (Or.inl c), fun c => ?_⟩
  have x1 := (hX.2.2.2.1 (sN s - 1) (by omega)).2
  have b1 := hI.2.2.2.1 (sN s - 1) (by omega)
  rw [show nI 1 = 1 by decide, nI_m (by omega) (by omega), x1, LI_eq ⟨by omega, by omega⟩ ⟨by omega, by omega⟩]
  refine ⟨nI_v1 (by omega) n40 (by omega), fun d => ⟨fun e => h0 (by omega), fun e => h1 (by omega)⟩, fun d => ⟨nI_v2 (by omega) n40 (by omega), ?_⟩⟩
  have x2 := (hX.2.2.2.1 (sN s - 2) (by omega)).2
  have b2 := hI.2.2.2.1 (sN s - 2) (by omega)
  rw [nI_m2 (by omega) (by omega), x2, LI_le ⟨by omega, by omega⟩ ⟨by omega, by omega⟩, LI_le ⟨by omega, by omega⟩ ⟨by omega, by omega⟩, LI_le ⟨by omega, by omega⟩ ⟨by omega, by omega⟩]
  exact ⟨fun e => ⟨fun g => h0 (by omega), fun g => h1 (by omega)⟩, fun e => ⟨fun g => h0 (by omega), fun g => h1 (by omega)⟩⟩
theorem q_turn {post : Int32 → XS → Prop} {thr : Nat → Prop} {s : MS} {u : XS} (hI : MI s) (hX : XR s u) {t h : Int} (ht : bL t) (hh : bL h) (h0 : ¬ tnOk s t h → thr 0) (h1 : tnOk s t h → sN s = 40 → thr 1) (h2 : tnOk s t h → sN s < 40 → ¬ alt s h → post 0 u) (h3 : tnOk s t h → sN s < 40 → alt s h → post 1 (xTurn u (LI t) (LI h))) : wX0_turn post thr u (LI t) (LI h) := by
  have n40 := hI.1
  unfold wX0_turn
  rw [L0, L20000]
  refine q_isWithin ht ⟨by omega, by omega⟩ ⟨by omega, by omega⟩ ?_
  rw [bI_0]
  refine ⟨fun c => h0 (fun z => c z.1), fun c => ?_⟩
  have c := Decidable.not_not.mp c
  refine q_isLevel hh ?_
  rw [bI_0]
  refine ⟨fun d => h0 (fun z => d z.2.1), fun d => ?_⟩
  have d := Decidable.not_not.mp d
  have k1 : xNT u ≤ 0 ↔ sN s = 0 := by rw [hX.1, show (0 : Int32) = nI 0 by decide, ni_le (by omega) (by omega)]; omega
  have k2 : xNT u < 40 ↔ sN s < 40 := by rw [hX.1, show (40 : Int32) = nI 40 by decide, ni_lt (by omega) (by omega)]
  rw [k1, k2]
  have fin : tnOk s t h → sN s < 40 → wX0_alternates (fun r7 => ((r7 = 0 → (post 0 u)) ∧ (¬ r7 = 0 → (vp_in (xNT u) 40 ∧ (vp_in (xNT u) 40 ∧ (post 1 (xTurn u (LI t) (LI h)))))))) u (LI h) := fun ok lt => by
    have v : vp_in (xNT u) 40 := by rw [hX.1]; exact nI_v lt (by omega)
    exact q_alternates hI hX d.1 d.2 (fun a => ⟨fun z => absurd z n10, fun _ => ⟨v, v, h3 ok lt a⟩⟩) (fun a => ⟨fun _ => h2 ok lt a, fun z => absurd rfl z⟩)
  refine ⟨fun e => ⟨fun g => fin ⟨c, d, Or.inl e⟩ g, fun g => by omega⟩, fun e => ?_⟩
  have x1 := (hX.2.2.2.1 (sN s - 1) (by omega)).1
  have b1 := hI.2.2.2.1 (sN s - 1) (by omega)
  have em : (xNT u - 1).toNatClampNeg = sN s - 1 := by rw [hX.1]; exact nI_m (by omega) (by omega)
  have v1 : vp_in (xNT u - 1) 40 := by rw [hX.1]; exact nI_v1 (by omega) n40 (by omega)
  rw [em, x1, LI_lt ⟨by omega, by omega⟩ ht]
  exact ⟨v1, fun g => ⟨fun w => fin ⟨c, d, Or.inr g⟩ w, fun w => h1 ⟨c, d, Or.inr g⟩ (by omega)⟩, fun g => h0 (fun z => by have := z.2.2; omega)⟩
theorem p_turn {post : Int32 → YS → Prop} {s : MS} {y : YS} (hI : MI s) (hY : YR s y) {t h : Int} (ht : bL t) (hh : bL h) (h0 : ¬ tnOk s t h → post 0 (yTh 1 y)) (h1 : tnOk s t h → sN s = 40 → post 0 (yTh 2 y)) (h2 : tnOk s t h → sN s < 40 → ¬ alt s h → post 0 (yTh 0 y)) (h3 : tnOk s t h → sN s < 40 → alt s h → post 1 (yTurn y (LI t) (LI h))) : wX1_turn post y (LI t) (LI h) := by
  have n40 := hI.1
  unfold wX1_turn
  refine (?_ : wX1_in _ _ (LI 0) 20000)
  rw [L20000]
  refine q_in ht ⟨by omega, by omega⟩ ⟨by omega, by omega⟩ ?_
  rw [bI_0]
  refine ⟨fun c => h0 (fun z => c z.1), fun c => ?_⟩
  have c := Decidable.not_not.mp c
  refine q_isHeight hh ?_
  rw [bI_0]
  refine ⟨fun d => h0 (fun z => d z.2.1), fun d => ?_⟩
  have d := Decidable.not_not.mp d
  have k0 : yNT y = 0 ↔ sN s = 0 := by rw [hY.1, show (0 : Int32) = nI 0 by decide, nI_e (by omega) (by omega)]
  have k1 : yNT y ≤ 0 ↔ sN s = 0 := by rw [hY.1, show (0 : Int32) = nI 0 by decide, ni_le (by omega) (by omega)]; omega
  have k2 : yNT y = 40 ↔ sN s = 40 := by rw [hY.1, show (40 : Int32) = nI 40 by decide, nI_e (by omega) (by omega)]
  have k3 : yNT y ≤ 1 ↔ sN s ≤ 1 := by rw [hY.1, show (1 : Int32) = nI 1 by decide, ni_le (by omega) (by omega)]
  have k4 : yNT y = 1 ↔ sN s = 1 := by rw [hY.1, show (1 : Int32) = nI 1 by decide, nI_e (by omega) (by omega)]
  have v : sN s < 40 → vp_in (yNT y) 40 := fun lt => by rw [hY.1]; exact nI_v lt (by omega)
  simp only [k0, k1, k2, k3, k4]
  unfold alt at h2 h3
  refine ⟨fun e => ⟨fun g => by omega, fun g => ⟨fun _ => ⟨v (by omega), v (by omega), h3 ⟨c, d, Or.inl e⟩ (by omega) (Or.inl e)⟩, fun w => absurd e w⟩⟩, fun e => ⟨fun w => absurd w e, fun _ => ?_⟩⟩
  have x1 := hY.2.2.2.1 (sN s - 1) (by omega)
  have b1 := hI.2.2.2.1 (sN s - 1) (by omega)
  have em : (yNT y - 1).toNatClampNeg = sN s - 1 := by rw [hY.1]; exact nI_m (by omega) (by omega)
  have v1 : vp_in (yNT y - 1) 40 := by rw [hY.1]; exact nI_v1 (by omega) n40 (by omega)
  rw [em, x1.1, x1.2, II_l ⟨by omega, by omega⟩, II_l ⟨by omega, by omega⟩, LI_le ht ⟨by omega, by omega⟩]
  refine ⟨v1, fun g => h0 (fun z => by have := z.2.2; omega), fun g => ?_⟩
  have ok : tnOk s t h := ⟨c, d, Or.inr (by omega)⟩
  have m1 : LI h = LI (sH s (sN s - 1)) ↔ h = sH s (sN s - 1) := LI_eq hh ⟨by omega, by omega⟩
  have m2 : LI h ≤ LI (sH s (sN s - 1)) ↔ h ≤ sH s (sN s - 1) := LI_le hh ⟨by omega, by omega⟩
  have m3 : LI (sH s (sN s - 1)) ≤ LI h ↔ sH s (sN s - 1) ≤ h := LI_le ⟨by omega, by omega⟩ hh
  simp only [m1, m2, m3]
  refine ⟨fun w => h1 ok w, fun w => ⟨v1, fun q => ⟨fun _ => ⟨fun r => h2 ok (by omega) (by omega), fun r => ⟨v (by omega), v (by omega), h3 ok (by omega) (by omega)⟩⟩, fun r => by omega⟩, fun q => ?_⟩⟩
  have x2 := (hY.2.2.2.1 (sN s - 2) (by omega)).2
  have b2 := hI.2.2.2.1 (sN s - 2) (by omega)
  have em2 : (yNT y - 2).toNatClampNeg = sN s - 2 := by rw [hY.1]; exact nI_m2 (by omega) (by omega)
  have v2 : vp_in (yNT y - 2) 40 := by rw [hY.1]; exact nI_v2 (by omega) n40 (by omega)
  rw [em2, x2, II_le ⟨by omega, by omega⟩ ⟨by omega, by omega⟩]
  refine ⟨v2, fun r => ⟨fun p => by omega, fun p => ⟨fun n => h2 ok (by omega) (by omega), fun n => ⟨v (by omega), v (by omega), h3 ok (by omega) (by omega)⟩⟩⟩, fun r => ⟨fun p => by omega, fun p => ⟨fun n => h2 ok (by omega) (by omega), fun n => ⟨v (by omega), v (by omega), h3 ok (by omega) (by omega)⟩⟩⟩⟩
theorem g_c0 {ex : XS → (Nat → Int64) → YS → Prop} (hex : ∀ u9 f9 y9, Rel u9 y9 → ex u9 f9 y9) {s : MS} {u : XS} {y : YS} (f : Nat → Int64) (hI : MI s) (hX : XR s u) (hY : YR s y) (a1 : Int64) (a2 : Int64) : (wL_turn (fun r w => (wX1_turn (fun r1 y2 => (wX1_thrown (fun r3 => ((r3 = r → ((r = 0 → (((w.2 0) = (r1).toInt64 → (ex w.1 w.2 y2)) ∧ (¬ (w.2 0) = (r1).toInt64 → False))) ∧ (¬ r = 0 → (ex w.1 w.2 y2)))) ∧ (¬ r3 = r → False))) y2)) y a1 a2)) u f a1 a2) := by
  obtain ⟨b1, e1⟩ := LI_of a1
  generalize a1.toInt = z1 at b1 e1
  subst e1
  obtain ⟨b2, e2⟩ := LI_of a2
  generalize a2.toInt = z2 at b2 e2
  subst e2
  unfold wL_turn
  refine q_turn hI hX b1 b2 (fun c => ⟨fun _ => ?_, fun z => absurd z (by decide), Or.inl rfl⟩) (fun c n => ⟨fun z => absurd z (by decide), fun _ => ?_, Or.inr rfl⟩) (fun c n m => ?_) (fun c n m => ?_)
  · exact p_turn hI hY b1 b2 (fun _ => an_I rfl (fun z => absurd z n10) (hex _ _ _ ⟨s, hI, hX, YR_th 1 hY⟩)) (fun d => absurd d c) (fun d => absurd d c) (fun d => absurd d c)
  · exact p_turn hI hY b1 b2 (fun d => absurd c d) (fun _ _ => an_I rfl (fun z => absurd z n20) (hex _ _ _ ⟨s, hI, hX, YR_th 2 hY⟩)) (fun _ d => by omega) (fun _ d => by omega)
  · exact p_turn hI hY b1 b2 (fun d => absurd c d) (fun _ d => by omega) (fun _ _ _ => an_I rfl (fun _ => up0) (hex _ _ _ ⟨s, hI, hX, YR_th 0 hY⟩)) (fun _ _ d => absurd d m)
  · exact p_turn hI hY b1 b2 (fun d => absurd c d) (fun _ d => by omega) (fun _ _ d => absurd m d) (fun _ _ _ => an_I rfl (fun _ => up0) (hex _ _ _ ⟨tnS s z1 z2, MI_turn hI c n, XR_turn hI hX z1 z2, YR_turn hI hY z1 z2⟩))
