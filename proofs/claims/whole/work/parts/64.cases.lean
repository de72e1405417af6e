/-! read of the reference; every case keeps the relation -/
theorem p_read {post : Int64 → YS → Prop} {s : MS} {y : YS} (hI : MI s) (hY : YR s y) {i w : Int} (hi : bJ i) (hw : bJ w) (h0 : ¬ rdOk s i w → post 0 (yTh 1 y)) (h1 : rdOk s i w → post (LI (rdV s i w)) (yTh 0 y)) : wX1_read post y (II i) (II w) := by
  have n40 := hI.1
  have n16 := hI.2.1
  unfold rdOk at h0 h1
  unfold wX1_read
  have k0 : II w = 0 ↔ w = 0 := by rw [I0]; exact II_eq hw ⟨by omega, by omega⟩
  have k1 : II w = 1 ↔ w = 1 := by rw [I1]; exact II_eq hw ⟨by omega, by omega⟩
  have k2 : II w = 2 ↔ w = 2 := by rw [I2]; exact II_eq hw ⟨by omega, by omega⟩
  have k3 : II w = 3 ↔ w = 3 := by rw [I3]; exact II_eq hw ⟨by omega, by omega⟩
  have k4 : II i < 0 ↔ i < 0 := by rw [I0]; exact II_lt hi ⟨by omega, by omega⟩
  have k5 : II i < 100 ↔ i < 100 := by rw [I100]; exact II_lt hi ⟨by omega, by omega⟩
  have k6 : yNT y ≤ II i ↔ (sN s : Int) ≤ i := by rw [hY.1, nI_I]; exact II_le ⟨by omega, by omega⟩ hi
  by_cases c : i < 100
  · have hT : 0 ≤ i → i < sN s → w = 0 → (vp_in (II i) 40 ∧ (post (((yT y) (II i).toNatClampNeg)).toInt64 (yTh 0 y))) := fun c d e => by
      have k := h1 (by omega)
      have b := hI.2.2.2.1 i.toNat (by omega)
      rw [rd_0 e] at k
      rw [II_cl hi, (hY.2.2.2.1 i.toNat (by omega)).1, II_l ⟨by omega, by omega⟩]
      exact ⟨vp_II (by omega) (by omega) (by omega), k⟩
    have hH : 0 ≤ i → i < sN s → w = 1 → (vp_in (II i) 40 ∧ (post (((yH y) (II i).toNatClampNeg)).toInt64 (yTh 0 y))) := fun c d e => by
      have k := h1 (by omega)
      have b := hI.2.2.2.1 i.toNat (by omega)
      rw [rd_1 e] at k
      rw [II_cl hi, (hY.2.2.2.1 i.toNat (by omega)).2, II_l ⟨by omega, by omega⟩]
      exact ⟨vp_II (by omega) (by omega) (by omega), k⟩
    simp only [k0, k1, k2, k3, k4, k5, k6, c, true_imp_iff, not_true_eq_false, false_imp_iff, and_true]
    exact ⟨fun d => h0 (by omega), fun d => ⟨fun e => h0 (by omega), fun e => ⟨fun g => hT (by omega) (by omega) g, fun g => ⟨fun g1 => hH (by omega) (by omega) g1, fun g1 => h0 (by omega)⟩⟩⟩⟩
  · have hi2 := hi.2
    have kO : yNO y ≤ II i - 100 ↔ (sM s : Int) ≤ i - 100 := by rw [hY.2.1, nI_I, I100, II_sub]; exact II_le ⟨by omega, by omega⟩ ⟨by omega, by omega⟩
    have n0 : ¬ i < 0 := by omega
    have n1 : (sN s : Int) ≤ i := by omega
    have hO : i - 100 < sM s → w = 2 → (vp_in (II i - 100) 16 ∧ (post (((yO y) ((II i - 100)).toNatClampNeg)).toInt64 (yTh 0 y))) := fun d e => by
      have k := h1 (by omega)
      have b := hI.2.2.2.2.2.1 (i - 100).toNat (by omega)
      rw [rd_2 e] at k
      rw [I100, II_sub, II_cl ⟨by omega, by omega⟩, (hY.2.2.2.2.1 (i - 100).toNat (by omega)).1, II_l ⟨by omega, by omega⟩]
      exact ⟨vp_II (by omega) (by omega) (by omega), k⟩
    have hD : i - 100 < sM s → w = 3 → (vp_in (II i - 100) 16 ∧ (post ((yD y) ((II i - 100)).toNatClampNeg) (yTh 0 y))) := fun d e => by
      have k := h1 (by omega)
      rw [rd_3 e] at k
      rw [I100, II_sub, II_cl ⟨by omega, by omega⟩, (hY.2.2.2.2.1 (i - 100).toNat (by omega)).2]
      exact ⟨vp_II (by omega) (by omega) (by omega), k⟩
    simp only [k0, k1, k2, k3, k4, k5, k6, kO, c, n0, n1, true_imp_iff, not_true_eq_false, false_imp_iff, not_false_eq_true, and_true, true_and]
    exact ⟨fun d => h0 (by omega), fun d => ⟨fun e => ⟨fun g => by omega, fun _ => ⟨fun g => by omega, fun _ => hO (by omega) e⟩⟩, fun e => ⟨fun e1 => ⟨fun g => by omega, fun _ => ⟨fun g => by omega, fun _ => hD (by omega) e1⟩⟩, fun e1 => h0 (by omega)⟩⟩⟩
theorem g_c11 {ex : XS → (Nat → Int64) → YS → Prop} (hex : ∀ u9 f9 y9, Rel u9 y9 → ex u9 f9 y9) {s : MS} {u : XS} {y : YS} (f : Nat → Int64) (hI : MI s) (hX : XR s u) (hY : YR s y) (a1 : Int32) (a2 : Int32) : (wL_read (fun r w => (wX1_read (fun r1 y2 => (wX1_thrown (fun r3 => ((r3 = r → ((r = 0 → (((w.2 0) = r1 → (ex w.1 w.2 y2)) ∧ (¬ (w.2 0) = r1 → False))) ∧ (¬ r = 0 → (ex w.1 w.2 y2)))) ∧ (¬ r3 = r → False))) y2)) y a1 a2)) u f a1 a2) := by
  obtain ⟨b1, e1⟩ := II_of a1
  generalize a1.toInt = z1 at b1 e1
  subst e1
  obtain ⟨b2, e2⟩ := II_of a2
  generalize a2.toInt = z2 at b2 e2
  subst e2
  unfold wL_read
  refine q_read hI hX b1 b2 (fun c => ⟨fun _ => ?_, rfl⟩) (fun c => ?_)
  · exact p_read hI hY b1 b2 (fun _ => an_L rfl (fun z => absurd z n10) (hex _ _ _ ⟨s, hI, hX, YR_th 1 hY⟩)) (fun d => absurd d c)
  · exact p_read hI hY b1 b2 (fun d => absurd c d) (fun _ => an_L rfl (fun _ => up0) (hex _ _ _ ⟨s, hI, hX, YR_th 0 hY⟩))
theorem Rel_0 (y : YS) (h : yStart y) : Rel x00 y := by
  obtain ⟨-, h1, h2, h3, h4, h5⟩ := h
  have z : (0 : Int32) = nI 0 := by decide
  refine ⟨(0, fun _ => 0, fun _ => 0, 0, fun _ => 0, fun _ => 0, 0, fun _ => 0, fun _ => 0), ⟨by decide, by decide, by decide, fun j hj => absurd hj (Nat.not_lt_zero j), fun i j _ hj => absurd hj (Nat.not_lt_zero j), fun j hj => absurd hj (Nat.not_lt_zero j), fun i j _ hj => absurd hj (Nat.not_lt_zero j), fun j hj => absurd hj (Nat.not_lt_zero j)⟩, ⟨z, z, z, fun j hj => absurd hj (Nat.not_lt_zero j), fun j hj => absurd hj (Nat.not_lt_zero j), fun j hj => absurd hj (Nat.not_lt_zero j)⟩, ⟨h1.trans z, h2.trans z, h3.trans z, fun j hj => absurd hj (Nat.not_lt_zero j), fun j hj => absurd hj (Nat.not_lt_zero j), fun j hj => absurd hj (Nat.not_lt_zero j), h4, h5⟩⟩
theorem qc_0 (xs : Nat → Int32) (v4 : Int32) (u : XS) (f : Nat → Int64) (y : YS) (h : Rel u y) : wL_c0 (fun u9 _ y9 => Rel u9 y9) xs v4 u f y := by
  obtain ⟨s, hI, hX, hY⟩ := h
  unfold wL_c0
  exact g_c0 (ex := fun u9 _ y9 => Rel u9 y9) (fun _ _ _ h => h) f hI hX hY _ _
theorem qc_1 (xs : Nat → Int32) (v4 : Int32) (u : XS) (f : Nat → Int64) (y : YS) (h : Rel u y) : wL_c1 (fun u9 _ y9 => Rel u9 y9) xs v4 u f y := by
  obtain ⟨s, hI, hX, hY⟩ := h
  unfold wL_c1
  exact g_c1 (ex := fun u9 _ y9 => Rel u9 y9) (fun _ _ _ h => h) f hI hX hY _
theorem qc_2 (xs : Nat → Int32) (v4 : Int32) (u : XS) (f : Nat → Int64) (y : YS) (h : Rel u y) : wL_c2 (fun u9 _ y9 => Rel u9 y9) xs v4 u f y := by
  obtain ⟨s, hI, hX, hY⟩ := h
  unfold wL_c2
  exact g_c2 (ex := fun u9 _ y9 => Rel u9 y9) (fun _ _ _ h => h) f hI hX hY _ _
theorem qc_3 (xs : Nat → Int32) (v4 : Int32) (u : XS) (f : Nat → Int64) (y : YS) (h : Rel u y) : wL_c3 (fun u9 _ y9 => Rel u9 y9) xs v4 u f y := by
  obtain ⟨s, hI, hX, hY⟩ := h
  unfold wL_c3
  exact g_c3 (ex := fun u9 _ y9 => Rel u9 y9) (fun _ _ _ h => h) f hI hX hY _ _ _ _
theorem qc_4 (xs : Nat → Int32) (v4 : Int32) (u : XS) (f : Nat → Int64) (y : YS) (h : Rel u y) : wL_c4 (fun u9 _ y9 => Rel u9 y9) xs v4 u f y := by
  obtain ⟨s, hI, hX, hY⟩ := h
  unfold wL_c4
  exact g_c4 (ex := fun u9 _ y9 => Rel u9 y9) (fun _ _ _ h => h) f hI hX hY _ _
theorem qc_5 (xs : Nat → Int32) (v4 : Int32) (u : XS) (f : Nat → Int64) (y : YS) (h : Rel u y) : wL_c5 (fun u9 _ y9 => Rel u9 y9) xs v4 u f y := by
  obtain ⟨s, hI, hX, hY⟩ := h
  unfold wL_c5
  exact g_c5 (ex := fun u9 _ y9 => Rel u9 y9) (fun _ _ _ h => h) f hI hX hY _ _
theorem qc_6 (xs : Nat → Int32) (v4 : Int32) (u : XS) (f : Nat → Int64) (y : YS) (h : Rel u y) : wL_c6 (fun u9 _ y9 => Rel u9 y9) xs v4 u f y := by
  obtain ⟨s, hI, hX, hY⟩ := h
  unfold wL_c6
  exact g_c6 (ex := fun u9 _ y9 => Rel u9 y9) (fun _ _ _ h => h) f hI hX hY _
theorem qc_7 (xs : Nat → Int32) (v4 : Int32) (u : XS) (f : Nat → Int64) (y : YS) (h : Rel u y) : wL_c7 (fun u9 _ y9 => Rel u9 y9) xs v4 u f y := by
  obtain ⟨s, hI, hX, hY⟩ := h
  unfold wL_c7
  exact g_c7 (ex := fun u9 _ y9 => Rel u9 y9) (fun _ _ _ h => h) f hI hX hY _ _ _
theorem qc_8 (xs : Nat → Int32) (v4 : Int32) (u : XS) (f : Nat → Int64) (y : YS) (h : Rel u y) : wL_c8 (fun u9 _ y9 => Rel u9 y9) xs v4 u f y := by
  obtain ⟨s, hI, hX, hY⟩ := h
  unfold wL_c8
  exact g_c8 (ex := fun u9 _ y9 => Rel u9 y9) (fun _ _ _ h => h) f hI hX hY _ _
theorem qc_9 (xs : Nat → Int32) (v4 : Int32) (u : XS) (f : Nat → Int64) (y : YS) (h : Rel u y) : wL_c9 (fun u9 _ y9 => Rel u9 y9) xs v4 u f y := by
  obtain ⟨s, hI, hX, hY⟩ := h
  unfold wL_c9
  exact g_c9 (ex := fun u9 _ y9 => Rel u9 y9) (fun _ _ _ h => h) f hI hX hY _ _
theorem qc_10 (xs : Nat → Int32) (v4 : Int32) (u : XS) (f : Nat → Int64) (y : YS) (h : Rel u y) : wL_c10 (fun u9 _ y9 => Rel u9 y9) xs v4 u f y := by
  obtain ⟨s, hI, hX, hY⟩ := h
  unfold wL_c10
  exact g_c10 (ex := fun u9 _ y9 => Rel u9 y9) (fun _ _ _ h => h) f hI hX hY _ _ _ _
theorem qc_11 (xs : Nat → Int32) (v4 : Int32) (u : XS) (f : Nat → Int64) (y : YS) (h : Rel u y) : wL_c11 (fun u9 _ y9 => Rel u9 y9) xs v4 u f y := by
  obtain ⟨s, hI, hX, hY⟩ := h
  unfold wL_c11
  exact g_c11 (ex := fun u9 _ y9 => Rel u9 y9) (fun _ _ _ h => h) f hI hX hY _ _
theorem qc_12 (xs : Nat → Int32) (v4 : Int32) (u : XS) (f : Nat → Int64) (y : YS) (h : Rel u y) : wL_c12 (fun u9 _ y9 => Rel u9 y9) xs v4 u f y := by
  obtain ⟨s, hI, hX, hY⟩ := h
  unfold wL_c12
  exact g_c12 (ex := fun u9 _ y9 => Rel u9 y9) (fun _ _ _ h => h) f hI hX hY _
theorem whole_start {p : Program} {e : Env} {s : State} {m : MethodId} {below : List Frame} {meth : Method} {c : Code} (l : Launch) (hst : l.stackTraces = false) {b L : Nat} {xs : Nat → Int32} (hL : L ≤ 4096) (C0 : lw_At p s m meth c b L xs) : W p l e room_1 s m #[Value.ref b] below meth c s.heap [] 0 0 (lw_Z below #[Value.ref b] s) (entryFrame m ([Value.ref b] : List Value).toArray 8) :=
  whole_open l hst hL C0 Rel_0 qc_0 qc_1 qc_2 qc_3 qc_4 qc_5 qc_6 qc_7 qc_8 qc_9 qc_10 qc_11 qc_12
