/-! what the start gives -/
theorem tn_c1 : Cond.arrayOf (.static "TideDepths" "COSINE" "[I") .int ∈ flatC (.and given_1 narrow_1) := by decide +kernel
theorem tn_c2 : Cond.eq (.length (.static "TideDepths" "COSINE" "[I")) (.int 65) ∈ flatC (.and given_1 narrow_1) := by decide +kernel
theorem tn_c3 : ∀ j, j < 65 → Cond.eq (.elem (.static "TideDepths" "COSINE" "[I") (.int (Int32.ofNat j))) (.int (cosT j)) ∈ flatC (.and given_1 narrow_1) := by decide +kernel
theorem tn_s1 : Cond.arrayOf (.static "TideDepths" "SQUAT_ROWS" "[I") .int ∈ flatC (.and given_1 narrow_1) := by decide +kernel
theorem tn_s2 : Cond.eq (.length (.static "TideDepths" "SQUAT_ROWS" "[I")) (.int 7) ∈ flatC (.and given_1 narrow_1) := by decide +kernel
theorem tn_s3 : ∀ j, j < 7 → Cond.eq (.elem (.static "TideDepths" "SQUAT_ROWS" "[I") (.int (Int32.ofNat j))) (.int (sqT j)) ∈ flatC (.and given_1 narrow_1) := by decide +kernel
theorem tn_z1 : Cond.isRef (.static Bundle.tN "UNASSIGNED_STACK" Bundle.steD) ∈ flatC (.and given_1 narrow_1) := by decide +kernel
theorem tn_z2 : Cond.isRef (.static Bundle.tN "SUPPRESSED_SENTINEL" Bundle.listD) ∈ flatC (.and given_1 narrow_1) := by decide +kernel
theorem tn_ex : ∀ q ∈ txL, Cond.exactly (.string RX0 q.1) "java/lang/String" ∈ flatC (.and given_1 narrow_1) := by decide +kernel
theorem tn_n1 : Cond.not (.castable (exN 1) (exN 0)) ∈ flatC (.and given_1 narrow_1) := by decide +kernel
theorem tn_n2 : Cond.not (.castable (exN 2) (exN 0)) ∈ flatC (.and given_1 narrow_1) := by decide +kernel
theorem tn_n3 : Cond.not (.castable (exN 0) (exN 3)) ∈ flatC (.and given_1 narrow_1) := by decide +kernel
theorem tn_n4 : Cond.not (.castable (exN 2) (exN 1)) ∈ flatC (.and given_1 narrow_1) := by decide +kernel
theorem tl_str : ∀ q ∈ txL, Cond.stringRef RX0 q.1 q.2 ∈ lw_tbl := by decide +kernel
theorem tl_tb : ∀ w ∈ tbW, w ∈ lw_tbl := by decide +kernel
theorem tl_ls1 : Cond.laysStatic "TideDepths" "COSINE" "[I" ∈ lw_tbl := by decide +kernel
theorem tl_ls2 : Cond.laysStatic "TideDepths" "SQUAT_ROWS" "[I" ∈ lw_tbl := by decide +kernel
theorem tl_ls3 : Cond.laysStatic Bundle.tN "UNASSIGNED_STACK" Bundle.steD ∈ lw_tbl := by decide +kernel
theorem tl_ls4 : Cond.laysStatic Bundle.tN "SUPPRESSED_SENTINEL" Bundle.listD ∈ lw_tbl := by decide +kernel
theorem tl_i0 : Cond.initialized RX0 ∈ lw_tbl := by decide +kernel
theorem tl_i1 : Cond.initialized RX1 ∈ lw_tbl := by decide +kernel
theorem tl_it : Cond.initialized Bundle.tN ∈ lw_tbl := by decide +kernel
theorem tl_aj : Cond.arrayClass .long ∈ lw_tbl := by decide +kernel
theorem tl_ai : Cond.arrayClass .int ∈ lw_tbl := by decide +kernel
theorem tl_c8 : Cond.classLink RL 8 RX0 ∈ lw_tbl := by decide +kernel
theorem tl_c64 : Cond.classLink RL 64 RX1 ∈ lw_tbl := by decide +kernel
theorem tl_n0 : Cond.instantiable RX0 9 ∈ lw_tbl := by decide +kernel
theorem tl_n1 : Cond.instantiable RX1 12 ∈ lw_tbl := by decide +kernel
theorem tl_m63 : Cond.methodLink RL 63 yX0_init ∈ lw_tbl := by decide +kernel
theorem tl_m66 : Cond.methodLink RL 66 yX1_init ∈ lw_tbl := by decide +kernel
theorem tl_im0 : Cond.instanceMethod yX0_init ∈ lw_tbl := by decide +kernel
theorem tl_im1 : Cond.instanceMethod yX1_init ∈ lw_tbl := by decide +kernel
theorem law_SW {args : Array Value} {s : State} {A : Nat → Prop} (hts : ∀ w ∈ lw_tbl, w.before args s = true) (hfl : ∀ c ∈ flatC (.and given_1 narrow_1), c.before args s = true) (hA : ∀ a, a < s.heap.size → ¬ A a) : ∃ tC tS : Nat, SW A tC tS s s.heap := by
  obtain ⟨tC, e1, h1⟩ := va_Tof (tm := .static "TideDepths" "COSINE" "[I") (ty := .int) (N := 65) (f := fun j => .int (cosT j)) (A := A) (by decide) (hfl _ tn_c1) (va_eqt (hfl _ tn_c2)) (fun j hj => va_eqt (hfl _ (tn_c3 j hj))) hA
  obtain ⟨tS, e2, h2⟩ := va_Tof (tm := .static "TideDepths" "SQUAT_ROWS" "[I") (ty := .int) (N := 7) (f := fun j => .int (sqT j)) (A := A) (by decide) (hfl _ tn_s1) (va_eqt (hfl _ tn_s2)) (fun j hj => va_eqt (hfl _ (tn_s3 j hj))) hA
  exact ⟨tC, tS, va_Zof (hts _ tl_ls1) (hts _ tl_i0) e1 hA, h1, va_Zof (hts _ tl_ls2) (hts _ tl_i0) e2 hA, h2⟩
theorem law_TE {args : Array Value} {s : State} {A : Nat → Prop} (hts : ∀ w ∈ lw_tbl, w.before args s = true) (hfl : ∀ c ∈ flatC (.and given_1 narrow_1), c.before args s = true) (hA : ∀ a, a < s.heap.size → ¬ A a) : TE A s s.heap := by
  refine ⟨⟨vx_Zqof (hts _ tl_ls3) (hts _ tl_it) (hfl _ tn_z1) hA, vx_Zqof (hts _ tl_ls4) (hts _ tl_it) (hfl _ tn_z2) hA⟩, fun q hq => ?_, fun w hw => va_Nw.of (tbW_ot w hw) (hts w (tl_tb w hw))⟩
  obtain ⟨a, c, cell, k, hev, -⟩ := Cond.exactly_spec (args := args) (first := s) (o := none) (s := s) (idx := []) (hfl _ (tn_ex q hq))
  exact ⟨a, vk_R.of (A := args) (hts _ (tl_str q hq)) hev⟩
theorem law_NC {args : Array Value} {s : State} (hfl : ∀ c ∈ flatC (.and given_1 narrow_1), c.before args s = true) : NCs s := ⟨va_Nc.of (hfl _ tn_n1), va_Nc.of (hfl _ tn_n2), va_Nc.of (hfl _ tn_n3), va_Nc.of (hfl _ tn_n4)⟩
theorem tsw_12 {v : Int32} (h0 : ¬ v = 0) (h1 : ¬ v = 1) (h2 : ¬ v = 2) (h3 : ¬ v = 3) (h4 : ¬ v = 4) (h5 : ¬ v = 5) (h6 : ¬ v = 6) (h7 : ¬ v = 7) (h8 : ¬ v = 8) (h9 : ¬ v = 9) (h10 : ¬ v = 10) (h11 : ¬ v = 11) (h12 : ¬ v = 12) : v.toInt < 0 ∨ 12 < v.toInt := by
  have e0 := i32_ne h0
  rw [show (0 : Int32).toInt = 0 by decide] at e0
  have e1 := i32_ne h1
  rw [show (1 : Int32).toInt = 1 by decide] at e1
  have e2 := i32_ne h2
  rw [show (2 : Int32).toInt = 2 by decide] at e2
  have e3 := i32_ne h3
  rw [show (3 : Int32).toInt = 3 by decide] at e3
  have e4 := i32_ne h4
  rw [show (4 : Int32).toInt = 4 by decide] at e4
  have e5 := i32_ne h5
  rw [show (5 : Int32).toInt = 5 by decide] at e5
  have e6 := i32_ne h6
  rw [show (6 : Int32).toInt = 6 by decide] at e6
  have e7 := i32_ne h7
  rw [show (7 : Int32).toInt = 7 by decide] at e7
  have e8 := i32_ne h8
  rw [show (8 : Int32).toInt = 8 by decide] at e8
  have e9 := i32_ne h9
  rw [show (9 : Int32).toInt = 9 by decide] at e9
  have e10 := i32_ne h10
  rw [show (10 : Int32).toInt = 10 by decide] at e10
  have e11 := i32_ne h11
  rw [show (11 : Int32).toInt = 11 by decide] at e11
  have e12 := i32_ne h12
  rw [show (12 : Int32).toInt = 12 by decide] at e12
  omega
set_option maxHeartbeats 4000000 in
set_option maxRecDepth 100000 in
/-- THE LAW'S LOOP, over a relation of the two states that every case keeps -/
theorem law_loop {p : Program} {l : Launch} {e : Env} {s : State} {m : MethodId} {below : List Frame} {meth : Method} {c : Code} {b L : Nat} {xs : Nat → Int32} {D : va_G} {cI cJ : ClassId} {h0 a1 a2 a3 a4 a5 a6 k0 b1 b2 b3 b4 b5 b6 b7 b8 tC tS qo : Nat} (hst : l.stackTraces = false) (hL : L ≤ 4096) (C0 : lw_At p s m meth c b L xs) {Rel : XS → YS → Prop} (qc0 : ∀ (xs : Nat → Int32) (v4 : Int32) (u : XS) (f : Nat → Int64) (y : YS), Rel u y → wL_c0 (fun u9 _ y9 => Rel u9 y9) xs v4 u f y) (qc1 : ∀ (xs : Nat → Int32) (v4 : Int32) (u : XS) (f : Nat → Int64) (y : YS), Rel u y → wL_c1 (fun u9 _ y9 => Rel u9 y9) xs v4 u f y) (qc2 : ∀ (xs : Nat → Int32) (v4 : Int32) (u : XS) (f : Nat → Int64) (y : YS), Rel u y → wL_c2 (fun u9 _ y9 => Rel u9 y9) xs v4 u f y) (qc3 : ∀ (xs : Nat → Int32) (v4 : Int32) (u : XS) (f : Nat → Int64) (y : YS), Rel u y → wL_c3 (fun u9 _ y9 => Rel u9 y9) xs v4 u f y) (qc4 : ∀ (xs : Nat → Int32) (v4 : Int32) (u : XS) (f : Nat → Int64) (y : YS), Rel u y → wL_c4 (fun u9 _ y9 => Rel u9 y9) xs v4 u f y) (qc5 : ∀ (xs : Nat → Int32) (v4 : Int32) (u : XS) (f : Nat → Int64) (y : YS), Rel u y → wL_c5 (fun u9 _ y9 => Rel u9 y9) xs v4 u f y) (qc6 : ∀ (xs : Nat → Int32) (v4 : Int32) (u : XS) (f : Nat → Int64) (y : YS), Rel u y → wL_c6 (fun u9 _ y9 => Rel u9 y9) xs v4 u f y) (qc7 : ∀ (xs : Nat → Int32) (v4 : Int32) (u : XS) (f : Nat → Int64) (y : YS), Rel u y → wL_c7 (fun u9 _ y9 => Rel u9 y9) xs v4 u f y) (qc8 : ∀ (xs : Nat → Int32) (v4 : Int32) (u : XS) (f : Nat → Int64) (y : YS), Rel u y → wL_c8 (fun u9 _ y9 => Rel u9 y9) xs v4 u f y) (qc9 : ∀ (xs : Nat → Int32) (v4 : Int32) (u : XS) (f : Nat → Int64) (y : YS), Rel u y → wL_c9 (fun u9 _ y9 => Rel u9 y9) xs v4 u f y) (qc10 : ∀ (xs : Nat → Int32) (v4 : Int32) (u : XS) (f : Nat → Int64) (y : YS), Rel u y → wL_c10 (fun u9 _ y9 => Rel u9 y9) xs v4 u f y) (qc11 : ∀ (xs : Nat → Int32) (v4 : Int32) (u : XS) (f : Nat → Int64) (y : YS), Rel u y → wL_c11 (fun u9 _ y9 => Rel u9 y9) xs v4 u f y) (qc12 : ∀ (xs : Nat → Int32) (v4 : Int32) (u : XS) (f : Nat → Int64) (y : YS), Rel u y → wL_c12 (fun u9 _ y9 => Rel u9 y9) xs v4 u f y) :
    ∀ (n j : Nat) (v4 : Int32) (u : XS) (f : Nat → Int64) (y : YS) (H : Heap) (locs : List Loc) (ls : Array Slot), 8 * j ≤ L → L + 1 ≤ 8 * j + 8 * n → v4 = nI (8 * j) → Rel u y → lv_has ls 8 [(0, .ref b), (1, .ref h0), (2, .ref k0), (3, .ref qo), (4, .int v4)] → GW D cI cJ h0 a1 a2 a3 a4 a5 a6 k0 b1 b2 b3 b4 b5 b6 b7 b8 tC tS qo u f y s H locs → W p l e room_1 s m #[Value.ref b] below meth c H locs (17 + j) (366 + 6 * j) (lw_Z below #[Value.ref b] s) (F0 m 23 ls []) := by
  obtain ⟨hx, hb, hr, hml, hown, hts, hX, hbl, hlocks, hgv⟩ := C0
  have hbA : ¬ (fun q : Nat => s.heap.size ≤ q) b := Nat.not_le.mpr hbl
  intro n
  induction n with
  | zero => intro j v4 u f y H locs ls h1 h2; exact absurd h2 (by omega)
  | succ n ih =>
    intro j v4 u f y H locs ls hj hn e4 hR hl hG
    refine lv_iload hx hb dL_law_23 (lv_at hl 4 rfl) ?_
    refine lv_aload_n hx hb dL_law_25 rfl (lv_at hl 0 rfl) ?_
    refine va_slen hx hb hX hbl hbA hG.2.2.2.1 dL_law_26 ?_
    refine lv_bipush (v := 8) hx hb dL_law_27 (by decide) ?_
    refine lv_isub hx hb dL_law_29 ?_
    have hsub : (Int32.ofNat L - 8).toInt = (L : Int) - 8 := pk_sub_toInt (a := L) (b := 8) (by omega) (by decide)
    have h4 : v4.toInt = ((8 * j : Nat) : Int) := by rw [e4]; exact nI_toInt (by omega)
    refine lv_icmp_gt (tgt := 1667) hx hb dL_law_30 (by decide) (fun c1 => ?_) (fun c1 => ?_)
    · refine lv_iconst (v := 1) hx hb dL_law_1667 (by decide) ?_
      refine va_forget (fun q hq => hG.2.2.2.1.2.2 q hq) ?_
      refine W.widen (k := 1064) (n := 8696) (by omega) (by omega) ?_
      exact lw_ret hx hb hr hlocks dL_law_1668
    · have hlt : 8 * j + 8 ≤ L := by
        rw [Int32.lt_iff_toInt_lt, hsub, h4] at c1
        omega
      have hI : ∀ k : Nat, k < 8 → vp_in (v4 + Int32.ofNat k) L := fun k hk => by
        rw [e4]
        show vp_in (nI (8 * j) + nI k) L
        rw [nI_add]
        exact vp_in_nI (by omega) (by omega)
      have hI0 : vp_in v4 L := by rw [e4]; exact vp_in_nI (by omega) (by omega)
      have hback : ∀ (u : XS) (f : Nat → Int64) (y : YS) (H : Heap) (locs : List Loc) (ls : Array Slot), lv_has ls 8 [(0, .ref b), (1, .ref h0), (2, .ref k0), (3, .ref qo), (4, .int v4)] → GW D cI cJ h0 a1 a2 a3 a4 a5 a6 k0 b1 b2 b3 b4 b5 b6 b7 b8 tC tS qo u f y s H locs → (fun u9 (_ : Nat → Int64) y9 => Rel u9 y9) u f y → W p l e room_1 s m #[Value.ref b] below meth c H locs (17 + j + 1) (366 + 6 * j + 6) (lw_Z below #[Value.ref b] s) (F0 m 1661 ls []) := by
        intro u f y H locs ls hl hG hR
        refine lv_iinc (v := v4 + 8) (lv' := [(4, .int (v4 + 8)), (0, .ref b), (1, .ref h0), (2, .ref k0), (3, .ref qo)]) hx hb dL_law_1661 hl (k := 4) rfl (by first | rfl | exact congrArg (fun z => v4 + z) (by decide)) (by decide) rfl (fun ls hl => ?_)
        refine lv_goto (tgt := 23) hx hb dL_law_1664 (by decide) ?_
        refine W.widen (k := 17 + (j + 1)) (n := 366 + 6 * (j + 1)) (by omega) (by omega) ?_
        exact ih (j + 1) (v4 + 8) u f y H locs ls (by omega) (by omega) (by rw [e4]; show nI (8 * j) + nI 8 = _; rw [nI_add]; exact congrArg nI (by omega)) hR (lv_sub hl [1, 2, 3, 4, 0] rfl) hG
      have hc : 17 + j + 1 ≤ 1064 := by omega
      have hs : 366 + 6 * j + 6 ≤ 8696 := by omega
      refine lv_aload_n hx hb dL_law_33 rfl (lv_at hl 0 rfl) ?_
      refine lv_iload hx hb dL_law_34 (lv_at hl 4 rfl) ?_
      refine va_sld hx hb hX hbl hbA hG.2.2.2.1 hI0 dL_law_36 ?_
      refine lv_bipush (v := 15) hx hb dL_law_37 (by decide) ?_
      refine lv_iand hx hb dL_law_39 ?_
      refine lv_topi (fun t et => ?_)
      by_cases t0 : t = 0
      · refine lv_tableIn (tgt := 108) hx hb dL_law_40 (by rw [t0]; decide) (by rw [t0]; decide) (by rw [t0]; rfl) (by decide) ?_
        exact kL_c0 hst hx hb hml hown hts hX hbl v4 hI hc hs hback u f y H locs ls hl hG (qc0 xs v4 u f y hR)
      by_cases t1 : t = 1
      · refine lv_tableIn (tgt := 240) hx hb dL_law_40 (by rw [t1]; decide) (by rw [t1]; decide) (by rw [t1]; rfl) (by decide) ?_
        exact kL_c1 hst hx hb hml hown hts hX hbl v4 hI hc hs hback u f y H locs ls hl hG (qc1 xs v4 u f y hR)
      by_cases t2 : t = 2
      · refine lv_tableIn (tgt := 327) hx hb dL_law_40 (by rw [t2]; decide) (by rw [t2]; decide) (by rw [t2]; rfl) (by decide) ?_
        exact kL_c2 hst hx hb hml hown hts hX hbl v4 hI hc hs hback u f y H locs ls hl hG (qc2 xs v4 u f y hR)
      by_cases t3 : t = 3
      · refine lv_tableIn (tgt := 459) hx hb dL_law_40 (by rw [t3]; decide) (by rw [t3]; decide) (by rw [t3]; rfl) (by decide) ?_
        exact kL_c3 hst hx hb hml hown hts hX hbl v4 hI hc hs hback u f y H locs ls hl hG (qc3 xs v4 u f y hR)
      by_cases t4 : t = 4
      · refine lv_tableIn (tgt := 651) hx hb dL_law_40 (by rw [t4]; decide) (by rw [t4]; decide) (by rw [t4]; rfl) (by decide) ?_
        exact kL_c4 hst hx hb hml hown hts hX hbl v4 hI hc hs hback u f y H locs ls hl hG (qc4 xs v4 u f y hR)
      by_cases t5 : t = 5
      · refine lv_tableIn (tgt := 782) hx hb dL_law_40 (by rw [t5]; decide) (by rw [t5]; decide) (by rw [t5]; rfl) (by decide) ?_
        exact kL_c5 hst hx hb hml hown hts hX hbl v4 hI hc hs hback u f y H locs ls hl hG (qc5 xs v4 u f y hR)
      by_cases t6 : t = 6
      · refine lv_tableIn (tgt := 913) hx hb dL_law_40 (by rw [t6]; decide) (by rw [t6]; decide) (by rw [t6]; rfl) (by decide) ?_
        exact kL_c6 hst hx hb hml hown hts hX hbl v4 hI hc hs hback u f y H locs ls hl hG (qc6 xs v4 u f y hR)
      by_cases t7 : t = 7
      · refine lv_tableIn (tgt := 969) hx hb dL_law_40 (by rw [t7]; decide) (by rw [t7]; decide) (by rw [t7]; rfl) (by decide) ?_
        exact kL_c7 hst hx hb hml hown hts hX hbl v4 hI hc hs hback u f y H locs ls hl hG (qc7 xs v4 u f y hR)
      by_cases t8 : t = 8
      · refine lv_tableIn (tgt := 1146) hx hb dL_law_40 (by rw [t8]; decide) (by rw [t8]; decide) (by rw [t8]; rfl) (by decide) ?_
        exact kL_c8 hst hx hb hml hown hts hX hbl v4 hI hc hs hback u f y H locs ls hl hG (qc8 xs v4 u f y hR)
      by_cases t9 : t = 9
      · refine lv_tableIn (tgt := 1278) hx hb dL_law_40 (by rw [t9]; decide) (by rw [t9]; decide) (by rw [t9]; rfl) (by decide) ?_
        exact kL_c9 hst hx hb hml hown hts hX hbl v4 hI hc hs hback u f y H locs ls hl hG (qc9 xs v4 u f y hR)
      by_cases t10 : t = 10
      · refine lv_tableIn (tgt := 1377) hx hb dL_law_40 (by rw [t10]; decide) (by rw [t10]; decide) (by rw [t10]; rfl) (by decide) ?_
        exact kL_c10 hst hx hb hml hown hts hX hbl v4 hI hc hs hback u f y H locs ls hl hG (qc10 xs v4 u f y hR)
      by_cases t11 : t = 11
      · refine lv_tableIn (tgt := 1569) hx hb dL_law_40 (by rw [t11]; decide) (by rw [t11]; decide) (by rw [t11]; rfl) (by decide) ?_
        exact kL_c11 hst hx hb hml hown hts hX hbl v4 hI hc hs hback u f y H locs ls hl hG (qc11 xs v4 u f y hR)
      by_cases t12 : t = 12
      · refine lv_tableIn (tgt := 1636) hx hb dL_law_40 (by rw [t12]; decide) (by rw [t12]; decide) (by rw [t12]; rfl) (by decide) ?_
        exact kL_c12 hst hx hb hml hown hts hX hbl v4 hI hc hs hback u f y H locs ls hl hG (qc12 xs v4 u f y hR)
      refine lv_tableOut (tgt := 1661) hx hb dL_law_40 (tsw_12 t0 t1 t2 t3 t4 t5 t6 t7 t8 t9 t10 t11 t12) (by decide) ?_
      refine W.widen (k := 17 + j + 1) (n := 366 + 6 * j + 6) (by omega) (by omega) ?_
      exact hback u f y H locs ls hl hG hR
set_option maxHeartbeats 4000000 in
set_option maxRecDepth 100000 in
/-- THE LAW, from its entry -/
theorem whole_open {p : Program} {e : Env} {s : State} {m : MethodId} {below : List Frame} {meth : Method} {c : Code} (l : Launch) (hst : l.stackTraces = false) {b L : Nat} {xs : Nat → Int32} (hL : L ≤ 4096) (C0 : lw_At p s m meth c b L xs) {Rel : XS → YS → Prop} (hR0 : ∀ y, yStart y → Rel x00 y) (qc0 : ∀ (xs : Nat → Int32) (v4 : Int32) (u : XS) (f : Nat → Int64) (y : YS), Rel u y → wL_c0 (fun u9 _ y9 => Rel u9 y9) xs v4 u f y) (qc1 : ∀ (xs : Nat → Int32) (v4 : Int32) (u : XS) (f : Nat → Int64) (y : YS), Rel u y → wL_c1 (fun u9 _ y9 => Rel u9 y9) xs v4 u f y) (qc2 : ∀ (xs : Nat → Int32) (v4 : Int32) (u : XS) (f : Nat → Int64) (y : YS), Rel u y → wL_c2 (fun u9 _ y9 => Rel u9 y9) xs v4 u f y) (qc3 : ∀ (xs : Nat → Int32) (v4 : Int32) (u : XS) (f : Nat → Int64) (y : YS), Rel u y → wL_c3 (fun u9 _ y9 => Rel u9 y9) xs v4 u f y) (qc4 : ∀ (xs : Nat → Int32) (v4 : Int32) (u : XS) (f : Nat → Int64) (y : YS), Rel u y → wL_c4 (fun u9 _ y9 => Rel u9 y9) xs v4 u f y) (qc5 : ∀ (xs : Nat → Int32) (v4 : Int32) (u : XS) (f : Nat → Int64) (y : YS), Rel u y → wL_c5 (fun u9 _ y9 => Rel u9 y9) xs v4 u f y) (qc6 : ∀ (xs : Nat → Int32) (v4 : Int32) (u : XS) (f : Nat → Int64) (y : YS), Rel u y → wL_c6 (fun u9 _ y9 => Rel u9 y9) xs v4 u f y) (qc7 : ∀ (xs : Nat → Int32) (v4 : Int32) (u : XS) (f : Nat → Int64) (y : YS), Rel u y → wL_c7 (fun u9 _ y9 => Rel u9 y9) xs v4 u f y) (qc8 : ∀ (xs : Nat → Int32) (v4 : Int32) (u : XS) (f : Nat → Int64) (y : YS), Rel u y → wL_c8 (fun u9 _ y9 => Rel u9 y9) xs v4 u f y) (qc9 : ∀ (xs : Nat → Int32) (v4 : Int32) (u : XS) (f : Nat → Int64) (y : YS), Rel u y → wL_c9 (fun u9 _ y9 => Rel u9 y9) xs v4 u f y) (qc10 : ∀ (xs : Nat → Int32) (v4 : Int32) (u : XS) (f : Nat → Int64) (y : YS), Rel u y → wL_c10 (fun u9 _ y9 => Rel u9 y9) xs v4 u f y) (qc11 : ∀ (xs : Nat → Int32) (v4 : Int32) (u : XS) (f : Nat → Int64) (y : YS), Rel u y → wL_c11 (fun u9 _ y9 => Rel u9 y9) xs v4 u f y) (qc12 : ∀ (xs : Nat → Int32) (v4 : Int32) (u : XS) (f : Nat → Int64) (y : YS), Rel u y → wL_c12 (fun u9 _ y9 => Rel u9 y9) xs v4 u f y) : W p l e room_1 s m #[Value.ref b] below meth c s.heap [] 0 0 (lw_Z below #[Value.ref b] s) (entryFrame m ([Value.ref b] : List Value).toArray 8) := by
  obtain ⟨hx, hb, hr, hml, hown, hts, hX, hbl, hlocks, hgv⟩ := id C0
  have hfl := flat_of_before _ hgv
  have hA : ∀ q : Nat, s.heap.size ≤ q → (fun q : Nat => s.heap.size ≤ q) q := fun _ h => h
  have hnA : ∀ a : Nat, a < s.heap.size → ¬ (fun q : Nat => s.heap.size ≤ q) a := fun a h => Nat.not_le.mpr h
  obtain ⟨tC, tS, hZ⟩ := law_SW hts hfl hnA
  have hT := law_TE hts hfl hnA
  have hN := law_NC hfl
  obtain ⟨d0, iS0, hKn0⟩ := u_known (C := RX0) (T := TX0) (N := 9) (n := 9) hts tm_wsX00 (hts _ tl_n0)
  obtain ⟨d1, iS1, hKn1⟩ := u_known (C := RX1) (T := TX1) (N := 12) (n := 12) hts tm_wsX10 (hts _ tl_n1)
  obtain ⟨cI, kI, coI, i1, i2, i3⟩ := Cond.arrayClass_spec (args := #[Value.ref b]) (first := s) (o := none) (s := s) (idx := []) (hts _ tl_ai)
  obtain ⟨cJ, kJ, coJ, j1, j2, j3⟩ := Cond.arrayClass_spec (args := #[Value.ref b]) (first := s) (o := none) (s := s) (idx := []) (hts _ tl_aj)
  obtain ⟨D, hKc⟩ : ∃ D : va_G, ∀ (k : Nat) (q : vw_C), cls2[k]? = some q → u_Kn s q.1 q.2.1 q.2.2 (D.1 k) (D.2 k) := by
    refine ⟨(fun k => if k = 0 then d0 else d1, fun k => if k = 0 then iS0 else iS1), ?_⟩
    intro k q hq
    match k, hq with
    | 0, hq => cases hq; exact hKn0
    | 1, hq => cases hq; exact hKn1
    | k + 2, hq => simp [cls2] at hq
  have hK : va_K D cls2 [(cI, .int), (cJ, .long)] s := by
    refine ⟨hKc, fun k q hq => ?_⟩
    match k, hq with
    | 0, hq => cases hq; exact ⟨fun n z => ⟨fun k h => (by cases h), kI, i2, coI, i3⟩, i1⟩
    | 1, hq => cases hq; exact ⟨fun n z => ⟨fun k h => (by cases h), kJ, j2, coJ, j3⟩, j1⟩
    | k + 2, hq => simp at hq
  have hS : va_S (fun q : Nat => s.heap.size ≤ q) s.heap s.heap [] := va_S.rf
  have hP : va_P D cls2 [] s.heap := fun k q h => by simp at h
  have hD : va_D (fun q : Nat => s.heap.size ≤ q) [] := ⟨fun i j p q h => by simp at h, fun k q h => by simp at h⟩
  have hl := lv_entry ([.ref b]) (n := 8) (Nat.le_of_ble_eq_true rfl)
  rw [lg_entry_eq]
  generalize (lg_sl ([.ref b]) ++ List.replicate (8 - (lg_sl ([.ref b])).length) Slot.unset).toArray = ls at hl ⊢
  have hl : lv_has ls 8 [(0, .ref b)] := hl
  refine va_new (ci := 0) (fs := [.null, .null, .int 0, .null, .null, .int 0, .null, .null, .int 0]) (C := RX0) (T := TX0) (N := 9) hx hb hts tm_wsX00 tyX0 tyX0_ok hown (hts _ tl_c8) (hts _ tl_n0) (hts _ tl_i0) hK hP hD hS hA rfl (by decide +kernel) (Nat.le_of_ble_eq_true rfl) (Nat.le_of_ble_eq_true rfl) dL_law_0 (fun h0 H hP hD hS => ?_)
  have hP : va_P D cls2 [(h0, .inr (0, [.null, .null, .int 0, .null, .null, .int 0, .null, .null, .int 0]))] H := hP
  have hD : va_D (fun q : Nat => s.heap.size ≤ q) [(h0, .inr (0, [.null, .null, .int 0, .null, .null, .int 0, .null, .null, .int 0]))] := hD
  refine W.widen (k := 1) (n := 9) (Nat.le_of_ble_eq_true rfl) (Nat.le_of_ble_eq_true rfl) ?_
  refine lv_dup hx hb dL_law_3 rfl ?_
  have hF := va_free (wc := [(h0, .inr (0, [.null, .null, .int 0, .null, .null, .int 0, .null, .null, .int 0]))]) hD hS hA [0] rfl
  refine va_callv (va_runI (As := []) (rest := [.ref h0]) ⟨hx, hb, hml, hown, hts⟩ (mX0_init l D cJ h0 H.size) (cwI 0 hts tg_X0_init rfl rfl rfl (hts _ tl_i0) (hts _ tl_m63) (hts _ tl_im0) rfl (by decide +kernel) ⟨Nat.le_of_ble_eq_true rfl, Nat.le_of_ble_eq_true rfl⟩) ⟨fun a U g mk q => by obtain ⟨q0, q1, qP, qK, qD⟩ := q; exact ⟨q0, q1, qP, va_K.moved (u := U) (U := U.calling g mk a) (Vm.Alike.refl U.vm) qK, qD⟩, fun U hU hWm => ⟨rfl, by rw [hU], by rw [hU]; exact hP, va_K.moved hWm.alike (hK.sub [1] rfl), hD.weaken (fun _ _ _ _ => trivial)⟩⟩ rfl rfl hl.1 rfl (lv_room (Nat.le_of_ble_eq_true rfl)) dL_law_4 ⟨Nat.le_of_ble_eq_true rfl, Nat.le_of_ble_eq_true rfl⟩) hS (fun q _ h => hF q h) hF (fun q t H1 locs ht hvm hw hB hz1 hk1 hS => ?_)
  obtain ⟨a1, a2, a3, a4, a5, a6⟩ := q
  obtain ⟨hP1, hK1, hD1⟩ := hB
  rw [ht] at hP1
  obtain ⟨hP, hD⟩ := va_join (wr := []) (w1 := x0W cJ h0 a1 a2 a3 a4 a5 a6 x00) hP hD [0] [] rfl rfl (by decide) (by decide) hk1 hF hP1 hD1
  generalize H1 = H at hP hS ⊢
  have hP : va_P D cls2 (x0W cJ h0 a1 a2 a3 a4 a5 a6 x00) H := hP
  have hD : va_D (fun q : Nat => s.heap.size ≤ q) (x0W cJ h0 a1 a2 a3 a4 a5 a6 x00) := hD
  refine W.widen (k := 7) (n := 145) (Nat.le_of_ble_eq_true rfl) (Nat.le_of_ble_eq_true rfl) ?_
  refine lv_astore_n (lv' := [(1, .ref h0), (0, .ref b)]) hx hb dL_law_7 rfl hl (by decide) rfl (fun ls hl => ?_)
  refine va_new (ci := 1) (fs := [.int 0, .int 0, .int 0, .int 0, .null, .null, .null, .null, .null, .null, .null, .null]) (C := RX1) (T := TX1) (N := 12) hx hb hts tm_wsX10 tyX1 tyX1_ok hown (hts _ tl_c64) (hts _ tl_n1) (hts _ tl_i1) hK hP hD hS hA rfl (by decide +kernel) (Nat.le_of_ble_eq_true rfl) (Nat.le_of_ble_eq_true rfl) dL_law_8 (fun k0 H hP hD hS => ?_)
  have hP : va_P D cls2 (x0W cJ h0 a1 a2 a3 a4 a5 a6 x00 ++ [(k0, .inr (1, [.int 0, .int 0, .int 0, .int 0, .null, .null, .null, .null, .null, .null, .null, .null]))]) H := hP
  have hD : va_D (fun q : Nat => s.heap.size ≤ q) (x0W cJ h0 a1 a2 a3 a4 a5 a6 x00 ++ [(k0, .inr (1, [.int 0, .int 0, .int 0, .int 0, .null, .null, .null, .null, .null, .null, .null, .null]))]) := hD
  refine W.widen (k := 8) (n := 157) (Nat.le_of_ble_eq_true rfl) (Nat.le_of_ble_eq_true rfl) ?_
  refine lv_dup hx hb dL_law_11 rfl ?_
  have hF := va_free (wc := [(k0, .inr (1, [.int 0, .int 0, .int 0, .int 0, .null, .null, .null, .null, .null, .null, .null, .null]))]) hD hS hA [7] rfl
  have hPc := hP.sub (ws' := [(k0, .inr (1, [.int 0, .int 0, .int 0, .int 0, .null, .null, .null, .null, .null, .null, .null, .null]))]) [7] rfl
  have hDc := hD.sub (ws' := [(k0, .inr (1, [.int 0, .int 0, .int 0, .int 0, .null, .null, .null, .null, .null, .null, .null, .null]))]) [7] (by decide) rfl
  refine va_callv (va_runI (As := []) (rest := [.ref k0]) ⟨hx, hb, hml, hown, hts⟩ (mX1_init l D cI cJ k0 H.size) (cwI 0 hts tg_X1_init rfl rfl rfl (hts _ tl_i1) (hts _ tl_m66) (hts _ tl_im1) rfl (by decide +kernel) ⟨Nat.le_of_ble_eq_true rfl, Nat.le_of_ble_eq_true rfl⟩) ⟨fun a U g mk q => by obtain ⟨q0, q1, qP, qK, qD⟩ := q; exact ⟨q0, q1, qP, va_K.moved (u := U) (U := U.calling g mk a) (Vm.Alike.refl U.vm) qK, qD⟩, fun U hU hWm => ⟨rfl, by rw [hU], by rw [hU]; exact hPc, va_K.moved hWm.alike hK, hDc.weaken (fun _ _ _ _ => trivial)⟩⟩ rfl rfl hl.1 rfl (lv_room (Nat.le_of_ble_eq_true rfl)) dL_law_12 ⟨Nat.le_of_ble_eq_true rfl, Nat.le_of_ble_eq_true rfl⟩) hS (fun q _ h => hF q h) hF (fun q t H1 locs ht hvm hw hB hz1 hk1 hS => ?_)
  obtain ⟨b1, b2, b3, b4, b5, b6, b7, b8, y⟩ := q
  obtain ⟨hP1, hK1, hD1⟩ := hB
  rw [ht] at hP1
  obtain ⟨hP, hD⟩ := va_join (wr := x0W cJ h0 a1 a2 a3 a4 a5 a6 x00) (w1 := x1W cI cJ k0 b1 b2 b3 b4 b5 b6 b7 b8 y) hP hD [7] [0, 1, 2, 3, 4, 5, 6] rfl rfl (by decide) (by decide) hk1 hF hP1 hD1
  generalize H1 = H at hP hS ⊢
  refine W.widen (k := 16) (n := 365) (Nat.le_of_ble_eq_true rfl) (Nat.le_of_ble_eq_true rfl) ?_
  refine lv_astore_n (lv' := [(2, .ref k0), (1, .ref h0), (0, .ref b)]) hx hb dL_law_15 rfl hl (by decide) rfl (fun ls hl => ?_)
  refine lv_iconst (v := 1) hx hb dL_law_16 (by decide) ?_
  refine va_newa (atype := .long) (ty := .long) (a0 := (1, .inr (.inl (fun _ => 0)))) (N' := 1) hx hb (hts _ tl_aj) rfl hK hP hD hS hA (fun _ => rfl) (by decide) (by decide) (Nat.le_of_ble_eq_true rfl) (Nat.le_of_ble_eq_true rfl) (Nat.le_of_ble_eq_true rfl) dL_law_17 (fun qo cA H hK5 hP hD hS => ?_)
  have eA : cA = cJ := vk_eqL hK5 (i := 2) (j := 1) rfl rfl
  subst cA
  clear hK5
  refine W.widen (k := 17) (n := 366) (Nat.le_of_ble_eq_true rfl) (Nat.le_of_ble_eq_true rfl) ?_
  refine lv_astore_n (lv' := [(3, .ref qo), (2, .ref k0), (1, .ref h0), (0, .ref b)]) hx hb dL_law_19 rfl hl (by decide) rfl (fun ls hl => ?_)
  refine lv_iconst (v := 0) hx hb dL_law_20 (by decide) ?_
  refine lv_istore (lv' := [(4, .int 0), (3, .ref qo), (2, .ref k0), (1, .ref h0), (0, .ref b)]) hx hb dL_law_21 hl (by decide) rfl (fun ls hl => ?_)
  have hG : GW D cI cJ h0 a1 a2 a3 a4 a5 a6 k0 b1 b2 b3 b4 b5 b6 b7 b8 tC tS qo x00 (fun _ => 0) y s H _ := ⟨hP.sub [16, 0, 1, 2, 3, 4, 5, 6, 7, 8, 9, 10, 11, 12, 13, 14, 15] rfl, hK, hD.sub [16, 0, 1, 2, 3, 4, 5, 6, 7, 8, 9, 10, 11, 12, 13, 14, 15] (by decide) rfl, hS, hZ, hT, hN⟩
  exact law_loop hst hL C0 qc0 qc1 qc2 qc3 qc4 qc5 qc6 qc7 qc8 qc9 qc10 qc11 qc12 (L + 1) 0 0 x00 (fun _ => 0) y H _ ls (by omega) (by omega) nI_0.symm (hR0 y hw) (lv_sub hl [4, 3, 2, 1, 0] rfl) hG
