theorem tl_67 : Cond.constantLong RL 67 4294967295 ∈ lw_tbl := by decide +kernel
def wL_c0 (ex : XS → (Nat → Int64) → YS → Prop) (xs : Nat → Int32) (v4 : Int32) (u : XS) (f : Nat → Int64) (y : YS) : Prop := (wL_turn (fun r w => (wX1_turn (fun r1 y2 => (wX1_thrown (fun r3 => ((r3 = r → ((r = 0 → (((w.2 0) = (r1).toInt64 → (ex w.1 w.2 y2)) ∧ (¬ (w.2 0) = (r1).toInt64 → False))) ∧ (¬ r = 0 → (ex w.1 w.2 y2)))) ∧ (¬ r3 = r → False))) y2)) y ((((xs (v4 + 1).toNatClampNeg)).toInt64 <<< ((32 : Int32).toInt64 &&& 63)) ||| (((xs (v4 + 2).toNatClampNeg)).toInt64 &&& 4294967295)) ((((xs (v4 + 3).toNatClampNeg)).toInt64 <<< ((32 : Int32).toInt64 &&& 63)) ||| (((xs (v4 + 4).toNatClampNeg)).toInt64 &&& 4294967295)))) u f ((((xs (v4 + 1).toNatClampNeg)).toInt64 <<< ((32 : Int32).toInt64 &&& 63)) ||| (((xs (v4 + 2).toNatClampNeg)).toInt64 &&& 4294967295)) ((((xs (v4 + 3).toNatClampNeg)).toInt64 <<< ((32 : Int32).toInt64 &&& 63)) ||| (((xs (v4 + 4).toNatClampNeg)).toInt64 &&& 4294967295)))
set_option maxHeartbeats 4000000 in
set_option maxRecDepth 100000 in
theorem kL_c0 {p : Program} {l : Launch} {e : Env} {s : State} {m : MethodId} {below : List Frame} {meth : Method} {c : Code} {b L : Nat} {xs : Nat → Int32} {D : va_G} {cI cJ : ClassId} {h0 a1 a2 a3 a4 a5 a6 k0 b1 b2 b3 b4 b5 b6 b7 b8 tC tS qo : Nat} (hst : l.stackTraces = false) (hx : p.tables.exec = Jvm.exec) (hb : c.code = cL_law) (hml : c.maxLocals = 8) (hown : s.vm.findClass RL = some m.cls) (hts : ∀ w ∈ lw_tbl, w.before #[Value.ref b] s = true) (hX : va_X b L xs s s.heap) (hbl : b < s.heap.size) (v4 : Int32) (hI : ∀ k : Nat, k < 8 → vp_in (v4 + Int32.ofNat k) L) {cells slots : Nat} (hc : cells + 1 ≤ 1064) (hs : slots + 6 ≤ 8696) {ex : XS → (Nat → Int64) → YS → Prop}
    (hback : ∀ (u : XS) (f : Nat → Int64) (y : YS) (H : Heap) (locs : List Loc) (ls : Array Slot), lv_has ls 8 [(0, .ref b), (1, .ref h0), (2, .ref k0), (3, .ref qo), (4, .int v4)] → GW D cI cJ h0 a1 a2 a3 a4 a5 a6 k0 b1 b2 b3 b4 b5 b6 b7 b8 tC tS qo u f y s H locs → ex u f y → W p l e room_1 s m #[Value.ref b] below meth c H locs (cells + 1) (slots + 6) (lw_Z below #[Value.ref b] s) (F0 m 1661 ls []))
    (u : XS) (f : Nat → Int64) (y : YS) (H : Heap) (locs : List Loc) (ls : Array Slot) (hl : lv_has ls 8 [(0, .ref b), (1, .ref h0), (2, .ref k0), (3, .ref qo), (4, .int v4)]) (hG : GW D cI cJ h0 a1 a2 a3 a4 a5 a6 k0 b1 b2 b3 b4 b5 b6 b7 b8 tC tS qo u f y s H locs) (hw : wL_c0 ex xs v4 u f y) : W p l e room_1 s m #[Value.ref b] below meth c H locs cells slots (lw_Z below #[Value.ref b] s) (F0 m 108 ls []) := by
  have hbA : ¬ (fun q : Nat => s.heap.size ≤ q) b := Nat.not_le.mpr hbl
  have hL67 : (Cond.constantLong RL 67 4294967295).before #[Value.ref b] s = true := hts _ tl_67
  unfold wL_c0 at hw
  refine lv_aload_n hx hb dL_law_108 rfl (lv_at hl 1 rfl) ?_
  refine lv_aload_n hx hb dL_law_109 rfl (lv_at hl 0 rfl) ?_
  refine lv_iload hx hb dL_law_110 (lv_at hl 4 rfl) ?_
  refine lv_iconst (v := 1) hx hb dL_law_112 (by decide) ?_
  refine lv_iadd hx hb dL_law_113 ?_
  refine va_sld hx hb hX hbl hbA hG.2.2.2.1 (hI 1 (by decide)) dL_law_114 ?_
  refine lv_i2l (v := ((xs (v4 + 1).toNatClampNeg)).toInt64) hx hb dL_law_115 rfl ?_
  refine lv_bipush (v := 32) hx hb dL_law_116 (by decide) ?_
  refine lv_lshl (v := (((xs (v4 + 1).toNatClampNeg)).toInt64 <<< ((32 : Int32).toInt64 &&& 63))) hx hb dL_law_118 rfl ?_
  refine lv_aload_n hx hb dL_law_119 rfl (lv_at hl 0 rfl) ?_
  refine lv_iload hx hb dL_law_120 (lv_at hl 4 rfl) ?_
  refine lv_iconst (v := 2) hx hb dL_law_122 (by decide) ?_
  refine lv_iadd hx hb dL_law_123 ?_
  refine va_sld hx hb hX hbl hbA hG.2.2.2.1 (hI 2 (by decide)) dL_law_124 ?_
  refine lv_i2l (v := ((xs (v4 + 2).toNatClampNeg)).toInt64) hx hb dL_law_125 rfl ?_
  refine lv_ldc2 (v := 4294967295) hx hb hown hL67 dL_law_126 ?_
  refine lv_land hx hb dL_law_129 ?_
  refine lv_lor hx hb dL_law_130 ?_
  refine lv_aload_n hx hb dL_law_131 rfl (lv_at hl 0 rfl) ?_
  refine lv_iload hx hb dL_law_132 (lv_at hl 4 rfl) ?_
  refine lv_iconst (v := 3) hx hb dL_law_134 (by decide) ?_
  refine lv_iadd hx hb dL_law_135 ?_
  refine va_sld hx hb hX hbl hbA hG.2.2.2.1 (hI 3 (by decide)) dL_law_136 ?_
  refine lv_i2l (v := ((xs (v4 + 3).toNatClampNeg)).toInt64) hx hb dL_law_137 rfl ?_
  refine lv_bipush (v := 32) hx hb dL_law_138 (by decide) ?_
  refine lv_lshl (v := (((xs (v4 + 3).toNatClampNeg)).toInt64 <<< ((32 : Int32).toInt64 &&& 63))) hx hb dL_law_140 rfl ?_
  refine lv_aload_n hx hb dL_law_141 rfl (lv_at hl 0 rfl) ?_
  refine lv_iload hx hb dL_law_142 (lv_at hl 4 rfl) ?_
  refine lv_iconst (v := 4) hx hb dL_law_144 (by decide) ?_
  refine lv_iadd hx hb dL_law_145 ?_
  refine va_sld hx hb hX hbl hbA hG.2.2.2.1 (hI 4 (by decide)) dL_law_146 ?_
  refine lv_i2l (v := ((xs (v4 + 4).toNatClampNeg)).toInt64) hx hb dL_law_147 rfl ?_
  refine lv_ldc2 (v := 4294967295) hx hb hown hL67 dL_law_148 ?_
  refine lv_land hx hb dL_law_151 ?_
  refine lv_lor hx hb dL_law_152 ?_
  refine lv_aload_n hx hb dL_law_153 rfl (lv_at hl 3 rfl) ?_
  refine G_h (As := [.ref h0, .long ((((xs (v4 + 1).toNatClampNeg)).toInt64 <<< ((32 : Int32).toInt64 &&& 63)) ||| (((xs (v4 + 2).toNatClampNeg)).toInt64 &&& 4294967295)), .long ((((xs (v4 + 3).toNatClampNeg)).toInt64 <<< ((32 : Int32).toInt64 &&& 63)) ||| (((xs (v4 + 4).toNatClampNeg)).toInt64 &&& 4294967295)), .ref qo]) (rest := []) ⟨hx, hb, hml, hown, hts⟩ (mL_turn l hst D cJ h0 a1 a2 a3 a4 a5 a6 tC tS qo H.size u f ((((xs (v4 + 1).toNatClampNeg)).toInt64 <<< ((32 : Int32).toInt64 &&& 63)) ||| (((xs (v4 + 2).toNatClampNeg)).toInt64 &&& 4294967295)) ((((xs (v4 + 3).toNatClampNeg)).toInt64 <<< ((32 : Int32).toInt64 &&& 63)) ||| (((xs (v4 + 4).toNatClampNeg)).toInt64 &&& 4294967295)) _) (vx_cwSW 4 hts tc_L_turn rfl rfl rfl (by decide +kernel) ⟨Nat.le_of_ble_eq_true rfl, Nat.le_of_ble_eq_true rfl⟩) hG hw rfl hl.1 rfl (Nat.le_of_ble_eq_true rfl) dL_law_154 ⟨hc, hs⟩ (fun r w H locs hw hG => ?_)
  refine lv_istore (lv' := [(5, .int r), (0, .ref b), (1, .ref h0), (2, .ref k0), (3, .ref qo), (4, .int v4)]) hx hb dL_law_157 hl (by decide) rfl (fun ls hl => ?_)
  refine lv_aload_n hx hb dL_law_159 rfl (lv_at hl 3 rfl) ?_
  refine lv_aload_n hx hb dL_law_160 rfl (lv_at hl 1 rfl) ?_
  refine lv_iload hx hb dL_law_161 (lv_at hl 5 rfl) ?_
  refine lv_iconst (v := 1) hx hb dL_law_163 (by decide) ?_
  refine lv_iadd hx hb dL_law_164 ?_
  refine va_sld hx hb hX hbl hbA hG.2.2.2.1 (hI 1 (by decide)) dL_law_165 ?_
  refine lv_i2l (v := ((xs (v4 + 1).toNatClampNeg)).toInt64) hx hb dL_law_166 rfl ?_
  refine lv_bipush (v := 32) hx hb dL_law_167 (by decide) ?_
  refine lv_lshl (v := (((xs (v4 + 1).toNatClampNeg)).toInt64 <<< ((32 : Int32).toInt64 &&& 63))) hx hb dL_law_169 rfl ?_
  refine lv_aload_n hx hb dL_law_170 rfl (lv_at hl 1 rfl) ?_
  refine lv_iload hx hb dL_law_171 (lv_at hl 5 rfl) ?_
  refine lv_iconst (v := 2) hx hb dL_law_173 (by decide) ?_
  refine lv_iadd hx hb dL_law_174 ?_
  refine va_sld hx hb hX hbl hbA hG.2.2.2.1 (hI 2 (by decide)) dL_law_175 ?_
  refine lv_i2l (v := ((xs (v4 + 2).toNatClampNeg)).toInt64) hx hb dL_law_176 rfl ?_
  refine lv_ldc2 (v := 4294967295) hx hb hown hL67 dL_law_177 ?_
  refine lv_land hx hb dL_law_180 ?_
  refine lv_lor hx hb dL_law_181 ?_
  refine lv_aload_n hx hb dL_law_182 rfl (lv_at hl 1 rfl) ?_
  refine lv_iload hx hb dL_law_183 (lv_at hl 5 rfl) ?_
  refine lv_iconst (v := 3) hx hb dL_law_185 (by decide) ?_
  refine lv_iadd hx hb dL_law_186 ?_
  refine va_sld hx hb hX hbl hbA hG.2.2.2.1 (hI 3 (by decide)) dL_law_187 ?_
  refine lv_i2l (v := ((xs (v4 + 3).toNatClampNeg)).toInt64) hx hb dL_law_188 rfl ?_
  refine lv_bipush (v := 32) hx hb dL_law_189 (by decide) ?_
  refine lv_lshl (v := (((xs (v4 + 3).toNatClampNeg)).toInt64 <<< ((32 : Int32).toInt64 &&& 63))) hx hb dL_law_191 rfl ?_
  refine lv_aload_n hx hb dL_law_192 rfl (lv_at hl 1 rfl) ?_
  refine lv_iload hx hb dL_law_193 (lv_at hl 5 rfl) ?_
  refine lv_iconst (v := 4) hx hb dL_law_195 (by decide) ?_
  refine lv_iadd hx hb dL_law_196 ?_
  refine va_sld hx hb hX hbl hbA hG.2.2.2.1 (hI 4 (by decide)) dL_law_197 ?_
  refine lv_i2l (v := ((xs (v4 + 4).toNatClampNeg)).toInt64) hx hb dL_law_198 rfl ?_
  refine lv_ldc2 (v := 4294967295) hx hb hown hL67 dL_law_199 ?_
  refine lv_land hx hb dL_law_202 ?_
  refine lv_lor hx hb dL_law_203 ?_
  refine G_i (As := [.long ((((xs (v4 + 1).toNatClampNeg)).toInt64 <<< ((32 : Int32).toInt64 &&& 63)) ||| (((xs (v4 + 2).toNatClampNeg)).toInt64 &&& 4294967295)), .long ((((xs (v4 + 3).toNatClampNeg)).toInt64 <<< ((32 : Int32).toInt64 &&& 63)) ||| (((xs (v4 + 4).toNatClampNeg)).toInt64 &&& 4294967295))]) (rest := []) ⟨hx, hb, hml, hown, hts⟩ (mX1_turn l D cI cJ k0 b1 b2 b3 b4 b5 b6 b7 b8 H.size y ((((xs (v4 + 1).toNatClampNeg)).toInt64 <<< ((32 : Int32).toInt64 &&& 63)) ||| (((xs (v4 + 2).toNatClampNeg)).toInt64 &&& 4294967295)) ((((xs (v4 + 3).toNatClampNeg)).toInt64 <<< ((32 : Int32).toInt64 &&& 63)) ||| (((xs (v4 + 4).toNatClampNeg)).toInt64 &&& 4294967295)) _) (cwV 2 hts tc_X1_turn rfl rfl rfl (by decide +kernel) ⟨Nat.le_of_ble_eq_true rfl, Nat.le_of_ble_eq_true rfl⟩) hG hw rfl hl.1 rfl (Nat.le_of_ble_eq_true rfl) dL_law_204 ⟨by first | exact hc | exact Nat.le_of_succ_le hc, by first | exact hs | exact Nat.le_trans (Nat.le_add_right _ 6) hs⟩ (fun r1 y2 H locs hw hG => ?_)
  refine lv_istore (lv' := [(6, .int r1), (5, .int r), (0, .ref b), (1, .ref h0), (2, .ref k0), (3, .ref qo), (4, .int v4)]) hx hb dL_law_207 hl (by decide) rfl (fun ls hl => ?_)
  refine lv_aload_n hx hb dL_law_209 rfl (lv_at hl 4 rfl) ?_
  refine pc_Vi (As := []) (rest := []) ⟨hx, hb, hml, hown, hts⟩ (mX1_thrown l D cI cJ k0 b1 b2 b3 b4 b5 b6 b7 b8 y2 _) (cwV 0 hts tc_X1_thrown rfl rfl rfl (by decide +kernel) ⟨Nat.le_of_ble_eq_true rfl, Nat.le_of_ble_eq_true rfl⟩) (wY_rc hG.toYW) wY_bl (wY_in hG.toYW hw) rfl hl.1 rfl (Nat.le_of_ble_eq_true rfl) dL_law_210 ⟨by first | exact hc | exact Nat.le_of_succ_le hc, by first | exact hs | exact Nat.le_trans (Nat.le_add_right _ 6) hs⟩ (fun r3 hw => ?_)
  refine lv_iload hx hb dL_law_213 (lv_at hl 1 rfl) ?_
  refine lv_icmp_eq (tgt := 220) hx hb dL_law_215 (by decide) (fun c4 => ?_) (fun c4 => ?_)
  · have hw := hw.1 c4
    refine lv_iload hx hb dL_law_220 (lv_at hl 1 rfl) ?_
    refine lv_if_ne (tgt := 237) hx hb dL_law_222 (by decide) (fun c5 => ?_) (fun c5 => ?_)
    · have hw := hw.2 c5
      refine lv_goto (tgt := 1661) hx hb dL_law_237 (by decide) ?_
      refine W.widen (k := cells + 1) (n := slots + 6) (by omega) (by omega) ?_
      exact hback w.1 w.2 y2 _ _ ls (lv_sub hl [2, 3, 4, 5, 6] rfl) hG hw
    · have hw := hw.1 c5
      refine lv_aload_n hx hb dL_law_225 rfl (lv_at hl 5 rfl) ?_
      refine lv_iconst (v := 0) hx hb dL_law_226 (by decide) ?_
      refine va_lald hx hb hG.2.1 hG.1 0 1 rfl rfl (by unfold vp_in; decide) dL_law_227 ?_
      rw [show Int32.toNatClampNeg 0 = 0 from by decide]
      refine lv_iload hx hb dL_law_228 (lv_at hl 0 rfl) ?_
      refine lv_i2l (v := (r1).toInt64) hx hb dL_law_230 rfl ?_
      refine bl_eq (tgt := 237) hx hb dL_law_231 dL_law_232 (by decide) (fun c6 => ?_) (fun c6 => ?_)
      · have hw := hw.1 c6
        refine lv_goto (tgt := 1661) hx hb dL_law_237 (by decide) ?_
        refine W.widen (k := cells + 1) (n := slots + 6) (by omega) (by omega) ?_
        exact hback w.1 w.2 y2 _ _ ls (lv_sub hl [2, 3, 4, 5, 6] rfl) hG hw
      · have hw := hw.2 c6
        refine lv_iconst (v := 0) hx hb dL_law_235 (by decide) ?_
        exact hw.elim
  · have hw := hw.2 c4
    refine lv_iconst (v := 0) hx hb dL_law_218 (by decide) ?_
    exact hw.elim
def wL_c1 (ex : XS → (Nat → Int64) → YS → Prop) (xs : Nat → Int32) (v4 : Int32) (u : XS) (f : Nat → Int64) (y : YS) : Prop := (wL_height (fun r w => (wX1_height (fun r1 y2 => (wX1_thrown (fun r3 => ((r3 = r → ((r = 0 → (((w.2 0) = r1 → (ex w.1 w.2 y2)) ∧ (¬ (w.2 0) = r1 → False))) ∧ (¬ r = 0 → (ex w.1 w.2 y2)))) ∧ (¬ r3 = r → False))) y2)) y ((((xs (v4 + 1).toNatClampNeg)).toInt64 <<< ((32 : Int32).toInt64 &&& 63)) ||| (((xs (v4 + 2).toNatClampNeg)).toInt64 &&& 4294967295)))) u f ((((xs (v4 + 1).toNatClampNeg)).toInt64 <<< ((32 : Int32).toInt64 &&& 63)) ||| (((xs (v4 + 2).toNatClampNeg)).toInt64 &&& 4294967295)))
set_option maxHeartbeats 4000000 in
set_option maxRecDepth 100000 in
theorem kL_c1 {p : Program} {l : Launch} {e : Env} {s : State} {m : MethodId} {below : List Frame} {meth : Method} {c : Code} {b L : Nat} {xs : Nat → Int32} {D : va_G} {cI cJ : ClassId} {h0 a1 a2 a3 a4 a5 a6 k0 b1 b2 b3 b4 b5 b6 b7 b8 tC tS qo : Nat} (hst : l.stackTraces = false) (hx : p.tables.exec = Jvm.exec) (hb : c.code = cL_law) (hml : c.maxLocals = 8) (hown : s.vm.findClass RL = some m.cls) (hts : ∀ w ∈ lw_tbl, w.before #[Value.ref b] s = true) (hX : va_X b L xs s s.heap) (hbl : b < s.heap.size) (v4 : Int32) (hI : ∀ k : Nat, k < 8 → vp_in (v4 + Int32.ofNat k) L) {cells slots : Nat} (hc : cells + 1 ≤ 1064) (hs : slots + 6 ≤ 8696) {ex : XS → (Nat → Int64) → YS → Prop}
    (hback : ∀ (u : XS) (f : Nat → Int64) (y : YS) (H : Heap) (locs : List Loc) (ls : Array Slot), lv_has ls 8 [(0, .ref b), (1, .ref h0), (2, .ref k0), (3, .ref qo), (4, .int v4)] → GW D cI cJ h0 a1 a2 a3 a4 a5 a6 k0 b1 b2 b3 b4 b5 b6 b7 b8 tC tS qo u f y s H locs → ex u f y → W p l e room_1 s m #[Value.ref b] below meth c H locs (cells + 1) (slots + 6) (lw_Z below #[Value.ref b] s) (F0 m 1661 ls []))
    (u : XS) (f : Nat → Int64) (y : YS) (H : Heap) (locs : List Loc) (ls : Array Slot) (hl : lv_has ls 8 [(0, .ref b), (1, .ref h0), (2, .ref k0), (3, .ref qo), (4, .int v4)]) (hG : GW D cI cJ h0 a1 a2 a3 a4 a5 a6 k0 b1 b2 b3 b4 b5 b6 b7 b8 tC tS qo u f y s H locs) (hw : wL_c1 ex xs v4 u f y) : W p l e room_1 s m #[Value.ref b] below meth c H locs cells slots (lw_Z below #[Value.ref b] s) (F0 m 240 ls []) := by
  have hbA : ¬ (fun q : Nat => s.heap.size ≤ q) b := Nat.not_le.mpr hbl
  have hL67 : (Cond.constantLong RL 67 4294967295).before #[Value.ref b] s = true := hts _ tl_67
  unfold wL_c1 at hw
  refine lv_aload_n hx hb dL_law_240 rfl (lv_at hl 1 rfl) ?_
  refine lv_aload_n hx hb dL_law_241 rfl (lv_at hl 0 rfl) ?_
  refine lv_iload hx hb dL_law_242 (lv_at hl 4 rfl) ?_
  refine lv_iconst (v := 1) hx hb dL_law_244 (by decide) ?_
  refine lv_iadd hx hb dL_law_245 ?_
  refine va_sld hx hb hX hbl hbA hG.2.2.2.1 (hI 1 (by decide)) dL_law_246 ?_
  refine lv_i2l (v := ((xs (v4 + 1).toNatClampNeg)).toInt64) hx hb dL_law_247 rfl ?_
  refine lv_bipush (v := 32) hx hb dL_law_248 (by decide) ?_
  refine lv_lshl (v := (((xs (v4 + 1).toNatClampNeg)).toInt64 <<< ((32 : Int32).toInt64 &&& 63))) hx hb dL_law_250 rfl ?_
  refine lv_aload_n hx hb dL_law_251 rfl (lv_at hl 0 rfl) ?_
  refine lv_iload hx hb dL_law_252 (lv_at hl 4 rfl) ?_
  refine lv_iconst (v := 2) hx hb dL_law_254 (by decide) ?_
  refine lv_iadd hx hb dL_law_255 ?_
  refine va_sld hx hb hX hbl hbA hG.2.2.2.1 (hI 2 (by decide)) dL_law_256 ?_
  refine lv_i2l (v := ((xs (v4 + 2).toNatClampNeg)).toInt64) hx hb dL_law_257 rfl ?_
  refine lv_ldc2 (v := 4294967295) hx hb hown hL67 dL_law_258 ?_
  refine lv_land hx hb dL_law_261 ?_
  refine lv_lor hx hb dL_law_262 ?_
  refine lv_aload_n hx hb dL_law_263 rfl (lv_at hl 3 rfl) ?_
  refine G_h (As := [.ref h0, .long ((((xs (v4 + 1).toNatClampNeg)).toInt64 <<< ((32 : Int32).toInt64 &&& 63)) ||| (((xs (v4 + 2).toNatClampNeg)).toInt64 &&& 4294967295)), .ref qo]) (rest := []) ⟨hx, hb, hml, hown, hts⟩ (mL_height l hst D cJ h0 a1 a2 a3 a4 a5 a6 tC tS qo H.size u f ((((xs (v4 + 1).toNatClampNeg)).toInt64 <<< ((32 : Int32).toInt64 &&& 63)) ||| (((xs (v4 + 2).toNatClampNeg)).toInt64 &&& 4294967295)) _) (vx_cwSW 3 hts tc_L_height rfl rfl rfl (by decide +kernel) ⟨Nat.le_of_ble_eq_true rfl, Nat.le_of_ble_eq_true rfl⟩) hG hw rfl hl.1 rfl (Nat.le_of_ble_eq_true rfl) dL_law_264 ⟨hc, hs⟩ (fun r w H locs hw hG => ?_)
  refine lv_istore (lv' := [(5, .int r), (0, .ref b), (1, .ref h0), (2, .ref k0), (3, .ref qo), (4, .int v4)]) hx hb dL_law_267 hl (by decide) rfl (fun ls hl => ?_)
  refine lv_aload_n hx hb dL_law_269 rfl (lv_at hl 3 rfl) ?_
  refine lv_aload_n hx hb dL_law_270 rfl (lv_at hl 1 rfl) ?_
  refine lv_iload hx hb dL_law_271 (lv_at hl 5 rfl) ?_
  refine lv_iconst (v := 1) hx hb dL_law_273 (by decide) ?_
  refine lv_iadd hx hb dL_law_274 ?_
  refine va_sld hx hb hX hbl hbA hG.2.2.2.1 (hI 1 (by decide)) dL_law_275 ?_
  refine lv_i2l (v := ((xs (v4 + 1).toNatClampNeg)).toInt64) hx hb dL_law_276 rfl ?_
  refine lv_bipush (v := 32) hx hb dL_law_277 (by decide) ?_
  refine lv_lshl (v := (((xs (v4 + 1).toNatClampNeg)).toInt64 <<< ((32 : Int32).toInt64 &&& 63))) hx hb dL_law_279 rfl ?_
  refine lv_aload_n hx hb dL_law_280 rfl (lv_at hl 1 rfl) ?_
  refine lv_iload hx hb dL_law_281 (lv_at hl 5 rfl) ?_
  refine lv_iconst (v := 2) hx hb dL_law_283 (by decide) ?_
  refine lv_iadd hx hb dL_law_284 ?_
  refine va_sld hx hb hX hbl hbA hG.2.2.2.1 (hI 2 (by decide)) dL_law_285 ?_
  refine lv_i2l (v := ((xs (v4 + 2).toNatClampNeg)).toInt64) hx hb dL_law_286 rfl ?_
  refine lv_ldc2 (v := 4294967295) hx hb hown hL67 dL_law_287 ?_
  refine lv_land hx hb dL_law_290 ?_
  refine lv_lor hx hb dL_law_291 ?_
  refine G_l (As := [.long ((((xs (v4 + 1).toNatClampNeg)).toInt64 <<< ((32 : Int32).toInt64 &&& 63)) ||| (((xs (v4 + 2).toNatClampNeg)).toInt64 &&& 4294967295))]) (rest := []) ⟨hx, hb, hml, hown, hts⟩ (mX1_height l D cI cJ k0 b1 b2 b3 b4 b5 b6 b7 b8 H.size y ((((xs (v4 + 1).toNatClampNeg)).toInt64 <<< ((32 : Int32).toInt64 &&& 63)) ||| (((xs (v4 + 2).toNatClampNeg)).toInt64 &&& 4294967295)) _) (cwV 1 hts tc_X1_height rfl rfl rfl (by decide +kernel) ⟨Nat.le_of_ble_eq_true rfl, Nat.le_of_ble_eq_true rfl⟩) hG hw rfl hl.1 rfl (Nat.le_of_ble_eq_true rfl) dL_law_292 ⟨by first | exact hc | exact Nat.le_of_succ_le hc, by first | exact hs | exact Nat.le_trans (Nat.le_add_right _ 6) hs⟩ (fun r1 y2 H locs hw hG => ?_)
  refine lv_lstore (lv' := [(6, .long r1), (5, .int r), (0, .ref b), (1, .ref h0), (2, .ref k0), (3, .ref qo), (4, .int v4)]) hx hb dL_law_295 hl (by decide) rfl (fun ls hl => ?_)
  refine lv_aload_n hx hb dL_law_297 rfl (lv_at hl 4 rfl) ?_
  refine pc_Vi (As := []) (rest := []) ⟨hx, hb, hml, hown, hts⟩ (mX1_thrown l D cI cJ k0 b1 b2 b3 b4 b5 b6 b7 b8 y2 _) (cwV 0 hts tc_X1_thrown rfl rfl rfl (by decide +kernel) ⟨Nat.le_of_ble_eq_true rfl, Nat.le_of_ble_eq_true rfl⟩) (wY_rc hG.toYW) wY_bl (wY_in hG.toYW hw) rfl hl.1 rfl (Nat.le_of_ble_eq_true rfl) dL_law_298 ⟨by first | exact hc | exact Nat.le_of_succ_le hc, by first | exact hs | exact Nat.le_trans (Nat.le_add_right _ 6) hs⟩ (fun r3 hw => ?_)
  refine lv_iload hx hb dL_law_301 (lv_at hl 1 rfl) ?_
  refine lv_icmp_eq (tgt := 308) hx hb dL_law_303 (by decide) (fun c4 => ?_) (fun c4 => ?_)
  · have hw := hw.1 c4
    refine lv_iload hx hb dL_law_308 (lv_at hl 1 rfl) ?_
    refine lv_if_ne (tgt := 324) hx hb dL_law_310 (by decide) (fun c5 => ?_) (fun c5 => ?_)
    · have hw := hw.2 c5
      refine lv_goto (tgt := 1661) hx hb dL_law_324 (by decide) ?_
      refine W.widen (k := cells + 1) (n := slots + 6) (by omega) (by omega) ?_
      exact hback w.1 w.2 y2 _ _ ls (lv_sub hl [2, 3, 4, 5, 6] rfl) hG hw
    · have hw := hw.1 c5
      refine lv_aload_n hx hb dL_law_313 rfl (lv_at hl 5 rfl) ?_
      refine lv_iconst (v := 0) hx hb dL_law_314 (by decide) ?_
      refine va_lald hx hb hG.2.1 hG.1 0 1 rfl rfl (by unfold vp_in; decide) dL_law_315 ?_
      rw [show Int32.toNatClampNeg 0 = 0 from by decide]
      refine lv_lload hx hb dL_law_316 (lv_at hl 0 rfl) ?_
      refine bl_eq (tgt := 324) hx hb dL_law_318 dL_law_319 (by decide) (fun c6 => ?_) (fun c6 => ?_)
      · have hw := hw.1 c6
        refine lv_goto (tgt := 1661) hx hb dL_law_324 (by decide) ?_
        refine W.widen (k := cells + 1) (n := slots + 6) (by omega) (by omega) ?_
        exact hback w.1 w.2 y2 _ _ ls (lv_sub hl [2, 3, 4, 5, 6] rfl) hG hw
      · have hw := hw.2 c6
        refine lv_iconst (v := 0) hx hb dL_law_322 (by decide) ?_
        exact hw.elim
  · have hw := hw.2 c4
    refine lv_iconst (v := 0) hx hb dL_law_306 (by decide) ?_
    exact hw.elim
def wL_c2 (ex : XS → (Nat → Int64) → YS → Prop) (xs : Nat → Int32) (v4 : Int32) (u : XS) (f : Nat → Int64) (y : YS) : Prop := (wL_observe (fun r w => (wX1_observe (fun r1 y2 => (wX1_thrown (fun r3 => ((r3 = r → ((r = 0 → (((w.2 0) = (r1).toInt64 → (ex w.1 w.2 y2)) ∧ (¬ (w.2 0) = (r1).toInt64 → False))) ∧ (¬ r = 0 → (ex w.1 w.2 y2)))) ∧ (¬ r3 = r → False))) y2)) y ((((xs (v4 + 1).toNatClampNeg)).toInt64 <<< ((32 : Int32).toInt64 &&& 63)) ||| (((xs (v4 + 2).toNatClampNeg)).toInt64 &&& 4294967295)) ((((xs (v4 + 3).toNatClampNeg)).toInt64 <<< ((32 : Int32).toInt64 &&& 63)) ||| (((xs (v4 + 4).toNatClampNeg)).toInt64 &&& 4294967295)))) u f ((((xs (v4 + 1).toNatClampNeg)).toInt64 <<< ((32 : Int32).toInt64 &&& 63)) ||| (((xs (v4 + 2).toNatClampNeg)).toInt64 &&& 4294967295)) ((((xs (v4 + 3).toNatClampNeg)).toInt64 <<< ((32 : Int32).toInt64 &&& 63)) ||| (((xs (v4 + 4).toNatClampNeg)).toInt64 &&& 4294967295)))
set_option maxHeartbeats 4000000 in
set_option maxRecDepth 100000 in
theorem kL_c2 {p : Program} {l : Launch} {e : Env} {s : State} {m : MethodId} {below : List Frame} {meth : Method} {c : Code} {b L : Nat} {xs : Nat → Int32} {D : va_G} {cI cJ : ClassId} {h0 a1 a2 a3 a4 a5 a6 k0 b1 b2 b3 b4 b5 b6 b7 b8 tC tS qo : Nat} (hst : l.stackTraces = false) (hx : p.tables.exec = Jvm.exec) (hb : c.code = cL_law) (hml : c.maxLocals = 8) (hown : s.vm.findClass RL = some m.cls) (hts : ∀ w ∈ lw_tbl, w.before #[Value.ref b] s = true) (hX : va_X b L xs s s.heap) (hbl : b < s.heap.size) (v4 : Int32) (hI : ∀ k : Nat, k < 8 → vp_in (v4 + Int32.ofNat k) L) {cells slots : Nat} (hc : cells + 1 ≤ 1064) (hs : slots + 6 ≤ 8696) {ex : XS → (Nat → Int64) → YS → Prop}
    (hback : ∀ (u : XS) (f : Nat → Int64) (y : YS) (H : Heap) (locs : List Loc) (ls : Array Slot), lv_has ls 8 [(0, .ref b), (1, .ref h0), (2, .ref k0), (3, .ref qo), (4, .int v4)] → GW D cI cJ h0 a1 a2 a3 a4 a5 a6 k0 b1 b2 b3 b4 b5 b6 b7 b8 tC tS qo u f y s H locs → ex u f y → W p l e room_1 s m #[Value.ref b] below meth c H locs (cells + 1) (slots + 6) (lw_Z below #[Value.ref b] s) (F0 m 1661 ls []))
    (u : XS) (f : Nat → Int64) (y : YS) (H : Heap) (locs : List Loc) (ls : Array Slot) (hl : lv_has ls 8 [(0, .ref b), (1, .ref h0), (2, .ref k0), (3, .ref qo), (4, .int v4)]) (hG : GW D cI cJ h0 a1 a2 a3 a4 a5 a6 k0 b1 b2 b3 b4 b5 b6 b7 b8 tC tS qo u f y s H locs) (hw : wL_c2 ex xs v4 u f y) : W p l e room_1 s m #[Value.ref b] below meth c H locs cells slots (lw_Z below #[Value.ref b] s) (F0 m 327 ls []) := by
  have hbA : ¬ (fun q : Nat => s.heap.size ≤ q) b := Nat.not_le.mpr hbl
  have hL67 : (Cond.constantLong RL 67 4294967295).before #[Value.ref b] s = true := hts _ tl_67
  unfold wL_c2 at hw
  refine lv_aload_n hx hb dL_law_327 rfl (lv_at hl 1 rfl) ?_
  refine lv_aload_n hx hb dL_law_328 rfl (lv_at hl 0 rfl) ?_
  refine lv_iload hx hb dL_law_329 (lv_at hl 4 rfl) ?_
  refine lv_iconst (v := 1) hx hb dL_law_331 (by decide) ?_
  refine lv_iadd hx hb dL_law_332 ?_
  refine va_sld hx hb hX hbl hbA hG.2.2.2.1 (hI 1 (by decide)) dL_law_333 ?_
  refine lv_i2l (v := ((xs (v4 + 1).toNatClampNeg)).toInt64) hx hb dL_law_334 rfl ?_
  refine lv_bipush (v := 32) hx hb dL_law_335 (by decide) ?_
  refine lv_lshl (v := (((xs (v4 + 1).toNatClampNeg)).toInt64 <<< ((32 : Int32).toInt64 &&& 63))) hx hb dL_law_337 rfl ?_
  refine lv_aload_n hx hb dL_law_338 rfl (lv_at hl 0 rfl) ?_
  refine lv_iload hx hb dL_law_339 (lv_at hl 4 rfl) ?_
  refine lv_iconst (v := 2) hx hb dL_law_341 (by decide) ?_
  refine lv_iadd hx hb dL_law_342 ?_
  refine va_sld hx hb hX hbl hbA hG.2.2.2.1 (hI 2 (by decide)) dL_law_343 ?_
  refine lv_i2l (v := ((xs (v4 + 2).toNatClampNeg)).toInt64) hx hb dL_law_344 rfl ?_
  refine lv_ldc2 (v := 4294967295) hx hb hown hL67 dL_law_345 ?_
  refine lv_land hx hb dL_law_348 ?_
  refine lv_lor hx hb dL_law_349 ?_
  refine lv_aload_n hx hb dL_law_350 rfl (lv_at hl 0 rfl) ?_
  refine lv_iload hx hb dL_law_351 (lv_at hl 4 rfl) ?_
  refine lv_iconst (v := 3) hx hb dL_law_353 (by decide) ?_
  refine lv_iadd hx hb dL_law_354 ?_
  refine va_sld hx hb hX hbl hbA hG.2.2.2.1 (hI 3 (by decide)) dL_law_355 ?_
  refine lv_i2l (v := ((xs (v4 + 3).toNatClampNeg)).toInt64) hx hb dL_law_356 rfl ?_
  refine lv_bipush (v := 32) hx hb dL_law_357 (by decide) ?_
  refine lv_lshl (v := (((xs (v4 + 3).toNatClampNeg)).toInt64 <<< ((32 : Int32).toInt64 &&& 63))) hx hb dL_law_359 rfl ?_
  refine lv_aload_n hx hb dL_law_360 rfl (lv_at hl 0 rfl) ?_
  refine lv_iload hx hb dL_law_361 (lv_at hl 4 rfl) ?_
  refine lv_iconst (v := 4) hx hb dL_law_363 (by decide) ?_
  refine lv_iadd hx hb dL_law_364 ?_
  refine va_sld hx hb hX hbl hbA hG.2.2.2.1 (hI 4 (by decide)) dL_law_365 ?_
  refine lv_i2l (v := ((xs (v4 + 4).toNatClampNeg)).toInt64) hx hb dL_law_366 rfl ?_
  refine lv_ldc2 (v := 4294967295) hx hb hown hL67 dL_law_367 ?_
  refine lv_land hx hb dL_law_370 ?_
  refine lv_lor hx hb dL_law_371 ?_
  refine lv_aload_n hx hb dL_law_372 rfl (lv_at hl 3 rfl) ?_
  refine G_h (As := [.ref h0, .long ((((xs (v4 + 1).toNatClampNeg)).toInt64 <<< ((32 : Int32).toInt64 &&& 63)) ||| (((xs (v4 + 2).toNatClampNeg)).toInt64 &&& 4294967295)), .long ((((xs (v4 + 3).toNatClampNeg)).toInt64 <<< ((32 : Int32).toInt64 &&& 63)) ||| (((xs (v4 + 4).toNatClampNeg)).toInt64 &&& 4294967295)), .ref qo]) (rest := []) ⟨hx, hb, hml, hown, hts⟩ (mL_observe l hst D cJ h0 a1 a2 a3 a4 a5 a6 tC tS qo H.size u f ((((xs (v4 + 1).toNatClampNeg)).toInt64 <<< ((32 : Int32).toInt64 &&& 63)) ||| (((xs (v4 + 2).toNatClampNeg)).toInt64 &&& 4294967295)) ((((xs (v4 + 3).toNatClampNeg)).toInt64 <<< ((32 : Int32).toInt64 &&& 63)) ||| (((xs (v4 + 4).toNatClampNeg)).toInt64 &&& 4294967295)) _) (vx_cwSW 4 hts tc_L_observe rfl rfl rfl (by decide +kernel) ⟨Nat.le_of_ble_eq_true rfl, Nat.le_of_ble_eq_true rfl⟩) hG hw rfl hl.1 rfl (Nat.le_of_ble_eq_true rfl) dL_law_373 ⟨hc, hs⟩ (fun r w H locs hw hG => ?_)
  refine lv_istore (lv' := [(5, .int r), (0, .ref b), (1, .ref h0), (2, .ref k0), (3, .ref qo), (4, .int v4)]) hx hb dL_law_376 hl (by decide) rfl (fun ls hl => ?_)
  refine lv_aload_n hx hb dL_law_378 rfl (lv_at hl 3 rfl) ?_
  refine lv_aload_n hx hb dL_law_379 rfl (lv_at hl 1 rfl) ?_
  refine lv_iload hx hb dL_law_380 (lv_at hl 5 rfl) ?_
  refine lv_iconst (v := 1) hx hb dL_law_382 (by decide) ?_
  refine lv_iadd hx hb dL_law_383 ?_
  refine va_sld hx hb hX hbl hbA hG.2.2.2.1 (hI 1 (by decide)) dL_law_384 ?_
  refine lv_i2l (v := ((xs (v4 + 1).toNatClampNeg)).toInt64) hx hb dL_law_385 rfl ?_
  refine lv_bipush (v := 32) hx hb dL_law_386 (by decide) ?_
  refine lv_lshl (v := (((xs (v4 + 1).toNatClampNeg)).toInt64 <<< ((32 : Int32).toInt64 &&& 63))) hx hb dL_law_388 rfl ?_
  refine lv_aload_n hx hb dL_law_389 rfl (lv_at hl 1 rfl) ?_
  refine lv_iload hx hb dL_law_390 (lv_at hl 5 rfl) ?_
  refine lv_iconst (v := 2) hx hb dL_law_392 (by decide) ?_
  refine lv_iadd hx hb dL_law_393 ?_
  refine va_sld hx hb hX hbl hbA hG.2.2.2.1 (hI 2 (by decide)) dL_law_394 ?_
  refine lv_i2l (v := ((xs (v4 + 2).toNatClampNeg)).toInt64) hx hb dL_law_395 rfl ?_
  refine lv_ldc2 (v := 4294967295) hx hb hown hL67 dL_law_396 ?_
  refine lv_land hx hb dL_law_399 ?_
  refine lv_lor hx hb dL_law_400 ?_
  refine lv_aload_n hx hb dL_law_401 rfl (lv_at hl 1 rfl) ?_
  refine lv_iload hx hb dL_law_402 (lv_at hl 5 rfl) ?_
  refine lv_iconst (v := 3) hx hb dL_law_404 (by decide) ?_
  refine lv_iadd hx hb dL_law_405 ?_
  refine va_sld hx hb hX hbl hbA hG.2.2.2.1 (hI 3 (by decide)) dL_law_406 ?_
  refine lv_i2l (v := ((xs (v4 + 3).toNatClampNeg)).toInt64) hx hb dL_law_407 rfl ?_
  refine lv_bipush (v := 32) hx hb dL_law_408 (by decide) ?_
  refine lv_lshl (v := (((xs (v4 + 3).toNatClampNeg)).toInt64 <<< ((32 : Int32).toInt64 &&& 63))) hx hb dL_law_410 rfl ?_
  refine lv_aload_n hx hb dL_law_411 rfl (lv_at hl 1 rfl) ?_
  refine lv_iload hx hb dL_law_412 (lv_at hl 5 rfl) ?_
  refine lv_iconst (v := 4) hx hb dL_law_414 (by decide) ?_
  refine lv_iadd hx hb dL_law_415 ?_
  refine va_sld hx hb hX hbl hbA hG.2.2.2.1 (hI 4 (by decide)) dL_law_416 ?_
  refine lv_i2l (v := ((xs (v4 + 4).toNatClampNeg)).toInt64) hx hb dL_law_417 rfl ?_
  refine lv_ldc2 (v := 4294967295) hx hb hown hL67 dL_law_418 ?_
  refine lv_land hx hb dL_law_421 ?_
  refine lv_lor hx hb dL_law_422 ?_
  refine G_i (As := [.long ((((xs (v4 + 1).toNatClampNeg)).toInt64 <<< ((32 : Int32).toInt64 &&& 63)) ||| (((xs (v4 + 2).toNatClampNeg)).toInt64 &&& 4294967295)), .long ((((xs (v4 + 3).toNatClampNeg)).toInt64 <<< ((32 : Int32).toInt64 &&& 63)) ||| (((xs (v4 + 4).toNatClampNeg)).toInt64 &&& 4294967295))]) (rest := []) ⟨hx, hb, hml, hown, hts⟩ (mX1_observe l D cI cJ k0 b1 b2 b3 b4 b5 b6 b7 b8 H.size y ((((xs (v4 + 1).toNatClampNeg)).toInt64 <<< ((32 : Int32).toInt64 &&& 63)) ||| (((xs (v4 + 2).toNatClampNeg)).toInt64 &&& 4294967295)) ((((xs (v4 + 3).toNatClampNeg)).toInt64 <<< ((32 : Int32).toInt64 &&& 63)) ||| (((xs (v4 + 4).toNatClampNeg)).toInt64 &&& 4294967295)) _) (cwV 2 hts tc_X1_observe rfl rfl rfl (by decide +kernel) ⟨Nat.le_of_ble_eq_true rfl, Nat.le_of_ble_eq_true rfl⟩) hG hw rfl hl.1 rfl (Nat.le_of_ble_eq_true rfl) dL_law_423 ⟨by first | exact hc | exact Nat.le_of_succ_le hc, by first | exact hs | exact Nat.le_trans (Nat.le_add_right _ 6) hs⟩ (fun r1 y2 H locs hw hG => ?_)
  refine lv_istore (lv' := [(6, .int r1), (5, .int r), (0, .ref b), (1, .ref h0), (2, .ref k0), (3, .ref qo), (4, .int v4)]) hx hb dL_law_426 hl (by decide) rfl (fun ls hl => ?_)
  refine lv_aload_n hx hb dL_law_428 rfl (lv_at hl 4 rfl) ?_
  refine pc_Vi (As := []) (rest := []) ⟨hx, hb, hml, hown, hts⟩ (mX1_thrown l D cI cJ k0 b1 b2 b3 b4 b5 b6 b7 b8 y2 _) (cwV 0 hts tc_X1_thrown rfl rfl rfl (by decide +kernel) ⟨Nat.le_of_ble_eq_true rfl, Nat.le_of_ble_eq_true rfl⟩) (wY_rc hG.toYW) wY_bl (wY_in hG.toYW hw) rfl hl.1 rfl (Nat.le_of_ble_eq_true rfl) dL_law_429 ⟨by first | exact hc | exact Nat.le_of_succ_le hc, by first | exact hs | exact Nat.le_trans (Nat.le_add_right _ 6) hs⟩ (fun r3 hw => ?_)
  refine lv_iload hx hb dL_law_432 (lv_at hl 1 rfl) ?_
  refine lv_icmp_eq (tgt := 439) hx hb dL_law_434 (by decide) (fun c4 => ?_) (fun c4 => ?_)
  · have hw := hw.1 c4
    refine lv_iload hx hb dL_law_439 (lv_at hl 1 rfl) ?_
    refine lv_if_ne (tgt := 456) hx hb dL_law_441 (by decide) (fun c5 => ?_) (fun c5 => ?_)
    · have hw := hw.2 c5
      refine lv_goto (tgt := 1661) hx hb dL_law_456 (by decide) ?_
      refine W.widen (k := cells + 1) (n := slots + 6) (by omega) (by omega) ?_
      exact hback w.1 w.2 y2 _ _ ls (lv_sub hl [2, 3, 4, 5, 6] rfl) hG hw
    · have hw := hw.1 c5
      refine lv_aload_n hx hb dL_law_444 rfl (lv_at hl 5 rfl) ?_
      refine lv_iconst (v := 0) hx hb dL_law_445 (by decide) ?_
      refine va_lald hx hb hG.2.1 hG.1 0 1 rfl rfl (by unfold vp_in; decide) dL_law_446 ?_
      rw [show Int32.toNatClampNeg 0 = 0 from by decide]
      refine lv_iload hx hb dL_law_447 (lv_at hl 0 rfl) ?_
      refine lv_i2l (v := (r1).toInt64) hx hb dL_law_449 rfl ?_
      refine bl_eq (tgt := 456) hx hb dL_law_450 dL_law_451 (by decide) (fun c6 => ?_) (fun c6 => ?_)
      · have hw := hw.1 c6
        refine lv_goto (tgt := 1661) hx hb dL_law_456 (by decide) ?_
        refine W.widen (k := cells + 1) (n := slots + 6) (by omega) (by omega) ?_
        exact hback w.1 w.2 y2 _ _ ls (lv_sub hl [2, 3, 4, 5, 6] rfl) hG hw
      · have hw := hw.2 c6
        refine lv_iconst (v := 0) hx hb dL_law_454 (by decide) ?_
        exact hw.elim
  · have hw := hw.2 c4
    refine lv_iconst (v := 0) hx hb dL_law_437 (by decide) ?_
    exact hw.elim
def wL_c3 (ex : XS → (Nat → Int64) → YS → Prop) (xs : Nat → Int32) (v4 : Int32) (u : XS) (f : Nat → Int64) (y : YS) : Prop := (wL_span (fun r w => (wX1_span (fun r1 y2 => (wX1_thrown (fun r3 => ((r3 = r → ((r = 0 → (((w.2 0) = (r1).toInt64 → (ex w.1 w.2 y2)) ∧ (¬ (w.2 0) = (r1).toInt64 → False))) ∧ (¬ r = 0 → (ex w.1 w.2 y2)))) ∧ (¬ r3 = r → False))) y2)) y ((((xs (v4 + 1).toNatClampNeg)).toInt64 <<< ((32 : Int32).toInt64 &&& 63)) ||| (((xs (v4 + 2).toNatClampNeg)).toInt64 &&& 4294967295)) ((((xs (v4 + 3).toNatClampNeg)).toInt64 <<< ((32 : Int32).toInt64 &&& 63)) ||| (((xs (v4 + 4).toNatClampNeg)).toInt64 &&& 4294967295)) ((((xs (v4 + 5).toNatClampNeg)).toInt64 <<< ((32 : Int32).toInt64 &&& 63)) ||| (((xs (v4 + 6).toNatClampNeg)).toInt64 &&& 4294967295)) (xs (v4 + 7).toNatClampNeg))) u f ((((xs (v4 + 1).toNatClampNeg)).toInt64 <<< ((32 : Int32).toInt64 &&& 63)) ||| (((xs (v4 + 2).toNatClampNeg)).toInt64 &&& 4294967295)) ((((xs (v4 + 3).toNatClampNeg)).toInt64 <<< ((32 : Int32).toInt64 &&& 63)) ||| (((xs (v4 + 4).toNatClampNeg)).toInt64 &&& 4294967295)) ((((xs (v4 + 5).toNatClampNeg)).toInt64 <<< ((32 : Int32).toInt64 &&& 63)) ||| (((xs (v4 + 6).toNatClampNeg)).toInt64 &&& 4294967295)) (xs (v4 + 7).toNatClampNeg))
set_option maxHeartbeats 4000000 in
set_option maxRecDepth 100000 in
theorem kL_c3 {p : Program} {l : Launch} {e : Env} {s : State} {m : MethodId} {below : List Frame} {meth : Method} {c : Code} {b L : Nat} {xs : Nat → Int32} {D : va_G} {cI cJ : ClassId} {h0 a1 a2 a3 a4 a5 a6 k0 b1 b2 b3 b4 b5 b6 b7 b8 tC tS qo : Nat} (hst : l.stackTraces = false) (hx : p.tables.exec = Jvm.exec) (hb : c.code = cL_law) (hml : c.maxLocals = 8) (hown : s.vm.findClass RL = some m.cls) (hts : ∀ w ∈ lw_tbl, w.before #[Value.ref b] s = true) (hX : va_X b L xs s s.heap) (hbl : b < s.heap.size) (v4 : Int32) (hI : ∀ k : Nat, k < 8 → vp_in (v4 + Int32.ofNat k) L) {cells slots : Nat} (hc : cells + 1 ≤ 1064) (hs : slots + 6 ≤ 8696) {ex : XS → (Nat → Int64) → YS → Prop}
    (hback : ∀ (u : XS) (f : Nat → Int64) (y : YS) (H : Heap) (locs : List Loc) (ls : Array Slot), lv_has ls 8 [(0, .ref b), (1, .ref h0), (2, .ref k0), (3, .ref qo), (4, .int v4)] → GW D cI cJ h0 a1 a2 a3 a4 a5 a6 k0 b1 b2 b3 b4 b5 b6 b7 b8 tC tS qo u f y s H locs → ex u f y → W p l e room_1 s m #[Value.ref b] below meth c H locs (cells + 1) (slots + 6) (lw_Z below #[Value.ref b] s) (F0 m 1661 ls []))
    (u : XS) (f : Nat → Int64) (y : YS) (H : Heap) (locs : List Loc) (ls : Array Slot) (hl : lv_has ls 8 [(0, .ref b), (1, .ref h0), (2, .ref k0), (3, .ref qo), (4, .int v4)]) (hG : GW D cI cJ h0 a1 a2 a3 a4 a5 a6 k0 b1 b2 b3 b4 b5 b6 b7 b8 tC tS qo u f y s H locs) (hw : wL_c3 ex xs v4 u f y) : W p l e room_1 s m #[Value.ref b] below meth c H locs cells slots (lw_Z below #[Value.ref b] s) (F0 m 459 ls []) := by
  have hbA : ¬ (fun q : Nat => s.heap.size ≤ q) b := Nat.not_le.mpr hbl
  have hL67 : (Cond.constantLong RL 67 4294967295).before #[Value.ref b] s = true := hts _ tl_67
  unfold wL_c3 at hw
  refine lv_aload_n hx hb dL_law_459 rfl (lv_at hl 1 rfl) ?_
  refine lv_aload_n hx hb dL_law_460 rfl (lv_at hl 0 rfl) ?_
  refine lv_iload hx hb dL_law_461 (lv_at hl 4 rfl) ?_
  refine lv_iconst (v := 1) hx hb dL_law_463 (by decide) ?_
  refine lv_iadd hx hb dL_law_464 ?_
  refine va_sld hx hb hX hbl hbA hG.2.2.2.1 (hI 1 (by decide)) dL_law_465 ?_
  refine lv_i2l (v := ((xs (v4 + 1).toNatClampNeg)).toInt64) hx hb dL_law_466 rfl ?_
  refine lv_bipush (v := 32) hx hb dL_law_467 (by decide) ?_
  refine lv_lshl (v := (((xs (v4 + 1).toNatClampNeg)).toInt64 <<< ((32 : Int32).toInt64 &&& 63))) hx hb dL_law_469 rfl ?_
  refine lv_aload_n hx hb dL_law_470 rfl (lv_at hl 0 rfl) ?_
  refine lv_iload hx hb dL_law_471 (lv_at hl 4 rfl) ?_
  refine lv_iconst (v := 2) hx hb dL_law_473 (by decide) ?_
  refine lv_iadd hx hb dL_law_474 ?_
  refine va_sld hx hb hX hbl hbA hG.2.2.2.1 (hI 2 (by decide)) dL_law_475 ?_
  refine lv_i2l (v := ((xs (v4 + 2).toNatClampNeg)).toInt64) hx hb dL_law_476 rfl ?_
  refine lv_ldc2 (v := 4294967295) hx hb hown hL67 dL_law_477 ?_
  refine lv_land hx hb dL_law_480 ?_
  refine lv_lor hx hb dL_law_481 ?_
  refine lv_aload_n hx hb dL_law_482 rfl (lv_at hl 0 rfl) ?_
  refine lv_iload hx hb dL_law_483 (lv_at hl 4 rfl) ?_
  refine lv_iconst (v := 3) hx hb dL_law_485 (by decide) ?_
  refine lv_iadd hx hb dL_law_486 ?_
  refine va_sld hx hb hX hbl hbA hG.2.2.2.1 (hI 3 (by decide)) dL_law_487 ?_
  refine lv_i2l (v := ((xs (v4 + 3).toNatClampNeg)).toInt64) hx hb dL_law_488 rfl ?_
  refine lv_bipush (v := 32) hx hb dL_law_489 (by decide) ?_
  refine lv_lshl (v := (((xs (v4 + 3).toNatClampNeg)).toInt64 <<< ((32 : Int32).toInt64 &&& 63))) hx hb dL_law_491 rfl ?_
  refine lv_aload_n hx hb dL_law_492 rfl (lv_at hl 0 rfl) ?_
  refine lv_iload hx hb dL_law_493 (lv_at hl 4 rfl) ?_
  refine lv_iconst (v := 4) hx hb dL_law_495 (by decide) ?_
  refine lv_iadd hx hb dL_law_496 ?_
  refine va_sld hx hb hX hbl hbA hG.2.2.2.1 (hI 4 (by decide)) dL_law_497 ?_
  refine lv_i2l (v := ((xs (v4 + 4).toNatClampNeg)).toInt64) hx hb dL_law_498 rfl ?_
  refine lv_ldc2 (v := 4294967295) hx hb hown hL67 dL_law_499 ?_
  refine lv_land hx hb dL_law_502 ?_
  refine lv_lor hx hb dL_law_503 ?_
  refine lv_aload_n hx hb dL_law_504 rfl (lv_at hl 0 rfl) ?_
  refine lv_iload hx hb dL_law_505 (lv_at hl 4 rfl) ?_
  refine lv_iconst (v := 5) hx hb dL_law_507 (by decide) ?_
  refine lv_iadd hx hb dL_law_508 ?_
  refine va_sld hx hb hX hbl hbA hG.2.2.2.1 (hI 5 (by decide)) dL_law_509 ?_
  refine lv_i2l (v := ((xs (v4 + 5).toNatClampNeg)).toInt64) hx hb dL_law_510 rfl ?_
  refine lv_bipush (v := 32) hx hb dL_law_511 (by decide) ?_
  refine lv_lshl (v := (((xs (v4 + 5).toNatClampNeg)).toInt64 <<< ((32 : Int32).toInt64 &&& 63))) hx hb dL_law_513 rfl ?_
  refine lv_aload_n hx hb dL_law_514 rfl (lv_at hl 0 rfl) ?_
  refine lv_iload hx hb dL_law_515 (lv_at hl 4 rfl) ?_
  refine lv_bipush (v := 6) hx hb dL_law_517 (by decide) ?_
  refine lv_iadd hx hb dL_law_519 ?_
  refine va_sld hx hb hX hbl hbA hG.2.2.2.1 (hI 6 (by decide)) dL_law_520 ?_
  refine lv_i2l (v := ((xs (v4 + 6).toNatClampNeg)).toInt64) hx hb dL_law_521 rfl ?_
  refine lv_ldc2 (v := 4294967295) hx hb hown hL67 dL_law_522 ?_
  refine lv_land hx hb dL_law_525 ?_
  refine lv_lor hx hb dL_law_526 ?_
  refine lv_aload_n hx hb dL_law_527 rfl (lv_at hl 0 rfl) ?_
  refine lv_iload hx hb dL_law_528 (lv_at hl 4 rfl) ?_
  refine lv_bipush (v := 7) hx hb dL_law_530 (by decide) ?_
  refine lv_iadd hx hb dL_law_532 ?_
  refine va_sld hx hb hX hbl hbA hG.2.2.2.1 (hI 7 (by decide)) dL_law_533 ?_
  refine lv_aload_n hx hb dL_law_534 rfl (lv_at hl 3 rfl) ?_
  refine G_h (As := [.ref h0, .long ((((xs (v4 + 1).toNatClampNeg)).toInt64 <<< ((32 : Int32).toInt64 &&& 63)) ||| (((xs (v4 + 2).toNatClampNeg)).toInt64 &&& 4294967295)), .long ((((xs (v4 + 3).toNatClampNeg)).toInt64 <<< ((32 : Int32).toInt64 &&& 63)) ||| (((xs (v4 + 4).toNatClampNeg)).toInt64 &&& 4294967295)), .long ((((xs (v4 + 5).toNatClampNeg)).toInt64 <<< ((32 : Int32).toInt64 &&& 63)) ||| (((xs (v4 + 6).toNatClampNeg)).toInt64 &&& 4294967295)), .int (xs (v4 + 7).toNatClampNeg), .ref qo]) (rest := []) ⟨hx, hb, hml, hown, hts⟩ (mL_span l hst D cJ h0 a1 a2 a3 a4 a5 a6 tC tS qo H.size u f ((((xs (v4 + 1).toNatClampNeg)).toInt64 <<< ((32 : Int32).toInt64 &&& 63)) ||| (((xs (v4 + 2).toNatClampNeg)).toInt64 &&& 4294967295)) ((((xs (v4 + 3).toNatClampNeg)).toInt64 <<< ((32 : Int32).toInt64 &&& 63)) ||| (((xs (v4 + 4).toNatClampNeg)).toInt64 &&& 4294967295)) ((((xs (v4 + 5).toNatClampNeg)).toInt64 <<< ((32 : Int32).toInt64 &&& 63)) ||| (((xs (v4 + 6).toNatClampNeg)).toInt64 &&& 4294967295)) (xs (v4 + 7).toNatClampNeg) _) (vx_cwSW 6 hts tc_L_span rfl rfl rfl (by decide +kernel) ⟨Nat.le_of_ble_eq_true rfl, Nat.le_of_ble_eq_true rfl⟩) hG hw rfl hl.1 rfl (Nat.le_of_ble_eq_true rfl) dL_law_535 ⟨hc, hs⟩ (fun r w H locs hw hG => ?_)
  refine lv_istore (lv' := [(5, .int r), (0, .ref b), (1, .ref h0), (2, .ref k0), (3, .ref qo), (4, .int v4)]) hx hb dL_law_538 hl (by decide) rfl (fun ls hl => ?_)
  refine lv_aload_n hx hb dL_law_540 rfl (lv_at hl 3 rfl) ?_
  refine lv_aload_n hx hb dL_law_541 rfl (lv_at hl 1 rfl) ?_
  refine lv_iload hx hb dL_law_542 (lv_at hl 5 rfl) ?_
  refine lv_iconst (v := 1) hx hb dL_law_544 (by decide) ?_
  refine lv_iadd hx hb dL_law_545 ?_
  refine va_sld hx hb hX hbl hbA hG.2.2.2.1 (hI 1 (by decide)) dL_law_546 ?_
  refine lv_i2l (v := ((xs (v4 + 1).toNatClampNeg)).toInt64) hx hb dL_law_547 rfl ?_
  refine lv_bipush (v := 32) hx hb dL_law_548 (by decide) ?_
  refine lv_lshl (v := (((xs (v4 + 1).toNatClampNeg)).toInt64 <<< ((32 : Int32).toInt64 &&& 63))) hx hb dL_law_550 rfl ?_
  refine lv_aload_n hx hb dL_law_551 rfl (lv_at hl 1 rfl) ?_
  refine lv_iload hx hb dL_law_552 (lv_at hl 5 rfl) ?_
  refine lv_iconst (v := 2) hx hb dL_law_554 (by decide) ?_
  refine lv_iadd hx hb dL_law_555 ?_
  refine va_sld hx hb hX hbl hbA hG.2.2.2.1 (hI 2 (by decide)) dL_law_556 ?_
  refine lv_i2l (v := ((xs (v4 + 2).toNatClampNeg)).toInt64) hx hb dL_law_557 rfl ?_
  refine lv_ldc2 (v := 4294967295) hx hb hown hL67 dL_law_558 ?_
  refine lv_land hx hb dL_law_561 ?_
  refine lv_lor hx hb dL_law_562 ?_
  refine lv_aload_n hx hb dL_law_563 rfl (lv_at hl 1 rfl) ?_
  refine lv_iload hx hb dL_law_564 (lv_at hl 5 rfl) ?_
  refine lv_iconst (v := 3) hx hb dL_law_566 (by decide) ?_
  refine lv_iadd hx hb dL_law_567 ?_
  refine va_sld hx hb hX hbl hbA hG.2.2.2.1 (hI 3 (by decide)) dL_law_568 ?_
  refine lv_i2l (v := ((xs (v4 + 3).toNatClampNeg)).toInt64) hx hb dL_law_569 rfl ?_
  refine lv_bipush (v := 32) hx hb dL_law_570 (by decide) ?_
  refine lv_lshl (v := (((xs (v4 + 3).toNatClampNeg)).toInt64 <<< ((32 : Int32).toInt64 &&& 63))) hx hb dL_law_572 rfl ?_
  refine lv_aload_n hx hb dL_law_573 rfl (lv_at hl 1 rfl) ?_
  refine lv_iload hx hb dL_law_574 (lv_at hl 5 rfl) ?_
  refine lv_iconst (v := 4) hx hb dL_law_576 (by decide) ?_
  refine lv_iadd hx hb dL_law_577 ?_
  refine va_sld hx hb hX hbl hbA hG.2.2.2.1 (hI 4 (by decide)) dL_law_578 ?_
  refine lv_i2l (v := ((xs (v4 + 4).toNatClampNeg)).toInt64) hx hb dL_law_579 rfl ?_
  refine lv_ldc2 (v := 4294967295) hx hb hown hL67 dL_law_580 ?_
  refine lv_land hx hb dL_law_583 ?_
  refine lv_lor hx hb dL_law_584 ?_
  refine lv_aload_n hx hb dL_law_585 rfl (lv_at hl 1 rfl) ?_
  refine lv_iload hx hb dL_law_586 (lv_at hl 5 rfl) ?_
  refine lv_iconst (v := 5) hx hb dL_law_588 (by decide) ?_
  refine lv_iadd hx hb dL_law_589 ?_
  refine va_sld hx hb hX hbl hbA hG.2.2.2.1 (hI 5 (by decide)) dL_law_590 ?_
  refine lv_i2l (v := ((xs (v4 + 5).toNatClampNeg)).toInt64) hx hb dL_law_591 rfl ?_
  refine lv_bipush (v := 32) hx hb dL_law_592 (by decide) ?_
  refine lv_lshl (v := (((xs (v4 + 5).toNatClampNeg)).toInt64 <<< ((32 : Int32).toInt64 &&& 63))) hx hb dL_law_594 rfl ?_
  refine lv_aload_n hx hb dL_law_595 rfl (lv_at hl 1 rfl) ?_
  refine lv_iload hx hb dL_law_596 (lv_at hl 5 rfl) ?_
  refine lv_bipush (v := 6) hx hb dL_law_598 (by decide) ?_
  refine lv_iadd hx hb dL_law_600 ?_
  refine va_sld hx hb hX hbl hbA hG.2.2.2.1 (hI 6 (by decide)) dL_law_601 ?_
  refine lv_i2l (v := ((xs (v4 + 6).toNatClampNeg)).toInt64) hx hb dL_law_602 rfl ?_
  refine lv_ldc2 (v := 4294967295) hx hb hown hL67 dL_law_603 ?_
  refine lv_land hx hb dL_law_606 ?_
  refine lv_lor hx hb dL_law_607 ?_
  refine lv_aload_n hx hb dL_law_608 rfl (lv_at hl 1 rfl) ?_
  refine lv_iload hx hb dL_law_609 (lv_at hl 5 rfl) ?_
  refine lv_bipush (v := 7) hx hb dL_law_611 (by decide) ?_
  refine lv_iadd hx hb dL_law_613 ?_
  refine va_sld hx hb hX hbl hbA hG.2.2.2.1 (hI 7 (by decide)) dL_law_614 ?_
  refine G_i (As := [.long ((((xs (v4 + 1).toNatClampNeg)).toInt64 <<< ((32 : Int32).toInt64 &&& 63)) ||| (((xs (v4 + 2).toNatClampNeg)).toInt64 &&& 4294967295)), .long ((((xs (v4 + 3).toNatClampNeg)).toInt64 <<< ((32 : Int32).toInt64 &&& 63)) ||| (((xs (v4 + 4).toNatClampNeg)).toInt64 &&& 4294967295)), .long ((((xs (v4 + 5).toNatClampNeg)).toInt64 <<< ((32 : Int32).toInt64 &&& 63)) ||| (((xs (v4 + 6).toNatClampNeg)).toInt64 &&& 4294967295)), .int (xs (v4 + 7).toNatClampNeg)]) (rest := []) ⟨hx, hb, hml, hown, hts⟩ (mX1_span l D cI cJ k0 b1 b2 b3 b4 b5 b6 b7 b8 H.size y ((((xs (v4 + 1).toNatClampNeg)).toInt64 <<< ((32 : Int32).toInt64 &&& 63)) ||| (((xs (v4 + 2).toNatClampNeg)).toInt64 &&& 4294967295)) ((((xs (v4 + 3).toNatClampNeg)).toInt64 <<< ((32 : Int32).toInt64 &&& 63)) ||| (((xs (v4 + 4).toNatClampNeg)).toInt64 &&& 4294967295)) ((((xs (v4 + 5).toNatClampNeg)).toInt64 <<< ((32 : Int32).toInt64 &&& 63)) ||| (((xs (v4 + 6).toNatClampNeg)).toInt64 &&& 4294967295)) (xs (v4 + 7).toNatClampNeg) _) (cwV 4 hts tc_X1_span rfl rfl rfl (by decide +kernel) ⟨Nat.le_of_ble_eq_true rfl, Nat.le_of_ble_eq_true rfl⟩) hG hw rfl hl.1 rfl (Nat.le_of_ble_eq_true rfl) dL_law_615 ⟨by first | exact hc | exact Nat.le_of_succ_le hc, by first | exact hs | exact Nat.le_trans (Nat.le_add_right _ 6) hs⟩ (fun r1 y2 H locs hw hG => ?_)
  refine lv_istore (lv' := [(6, .int r1), (5, .int r), (0, .ref b), (1, .ref h0), (2, .ref k0), (3, .ref qo), (4, .int v4)]) hx hb dL_law_618 hl (by decide) rfl (fun ls hl => ?_)
  refine lv_aload_n hx hb dL_law_620 rfl (lv_at hl 4 rfl) ?_
  refine pc_Vi (As := []) (rest := []) ⟨hx, hb, hml, hown, hts⟩ (mX1_thrown l D cI cJ k0 b1 b2 b3 b4 b5 b6 b7 b8 y2 _) (cwV 0 hts tc_X1_thrown rfl rfl rfl (by decide +kernel) ⟨Nat.le_of_ble_eq_true rfl, Nat.le_of_ble_eq_true rfl⟩) (wY_rc hG.toYW) wY_bl (wY_in hG.toYW hw) rfl hl.1 rfl (Nat.le_of_ble_eq_true rfl) dL_law_621 ⟨by first | exact hc | exact Nat.le_of_succ_le hc, by first | exact hs | exact Nat.le_trans (Nat.le_add_right _ 6) hs⟩ (fun r3 hw => ?_)
  refine lv_iload hx hb dL_law_624 (lv_at hl 1 rfl) ?_
  refine lv_icmp_eq (tgt := 631) hx hb dL_law_626 (by decide) (fun c4 => ?_) (fun c4 => ?_)
  · have hw := hw.1 c4
    refine lv_iload hx hb dL_law_631 (lv_at hl 1 rfl) ?_
    refine lv_if_ne (tgt := 648) hx hb dL_law_633 (by decide) (fun c5 => ?_) (fun c5 => ?_)
    · have hw := hw.2 c5
      refine lv_goto (tgt := 1661) hx hb dL_law_648 (by decide) ?_
      refine W.widen (k := cells + 1) (n := slots + 6) (by omega) (by omega) ?_
      exact hback w.1 w.2 y2 _ _ ls (lv_sub hl [2, 3, 4, 5, 6] rfl) hG hw
    · have hw := hw.1 c5
      refine lv_aload_n hx hb dL_law_636 rfl (lv_at hl 5 rfl) ?_
      refine lv_iconst (v := 0) hx hb dL_law_637 (by decide) ?_
      refine va_lald hx hb hG.2.1 hG.1 0 1 rfl rfl (by unfold vp_in; decide) dL_law_638 ?_
      rw [show Int32.toNatClampNeg 0 = 0 from by decide]
      refine lv_iload hx hb dL_law_639 (lv_at hl 0 rfl) ?_
      refine lv_i2l (v := (r1).toInt64) hx hb dL_law_641 rfl ?_
      refine bl_eq (tgt := 648) hx hb dL_law_642 dL_law_643 (by decide) (fun c6 => ?_) (fun c6 => ?_)
      · have hw := hw.1 c6
        refine lv_goto (tgt := 1661) hx hb dL_law_648 (by decide) ?_
        refine W.widen (k := cells + 1) (n := slots + 6) (by omega) (by omega) ?_
        exact hback w.1 w.2 y2 _ _ ls (lv_sub hl [2, 3, 4, 5, 6] rfl) hG hw
      · have hw := hw.2 c6
        refine lv_iconst (v := 0) hx hb dL_law_646 (by decide) ?_
        exact hw.elim
  · have hw := hw.2 c4
    refine lv_iconst (v := 0) hx hb dL_law_629 (by decide) ?_
    exact hw.elim
def wL_c4 (ex : XS → (Nat → Int64) → YS → Prop) (xs : Nat → Int32) (v4 : Int32) (u : XS) (f : Nat → Int64) (y : YS) : Prop := (wL_squat (fun r w => (wX1_squat (fun r1 y2 => (wX1_thrown (fun r3 => ((r3 = r → ((r = 0 → (((w.2 0) = r1 → (ex w.1 w.2 y2)) ∧ (¬ (w.2 0) = r1 → False))) ∧ (¬ r = 0 → (ex w.1 w.2 y2)))) ∧ (¬ r3 = r → False))) y2)) y ((((xs (v4 + 1).toNatClampNeg)).toInt64 <<< ((32 : Int32).toInt64 &&& 63)) ||| (((xs (v4 + 2).toNatClampNeg)).toInt64 &&& 4294967295)) ((((xs (v4 + 3).toNatClampNeg)).toInt64 <<< ((32 : Int32).toInt64 &&& 63)) ||| (((xs (v4 + 4).toNatClampNeg)).toInt64 &&& 4294967295)))) u f ((((xs (v4 + 1).toNatClampNeg)).toInt64 <<< ((32 : Int32).toInt64 &&& 63)) ||| (((xs (v4 + 2).toNatClampNeg)).toInt64 &&& 4294967295)) ((((xs (v4 + 3).toNatClampNeg)).toInt64 <<< ((32 : Int32).toInt64 &&& 63)) ||| (((xs (v4 + 4).toNatClampNeg)).toInt64 &&& 4294967295)))
set_option maxHeartbeats 4000000 in
set_option maxRecDepth 100000 in
theorem kL_c4 {p : Program} {l : Launch} {e : Env} {s : State} {m : MethodId} {below : List Frame} {meth : Method} {c : Code} {b L : Nat} {xs : Nat → Int32} {D : va_G} {cI cJ : ClassId} {h0 a1 a2 a3 a4 a5 a6 k0 b1 b2 b3 b4 b5 b6 b7 b8 tC tS qo : Nat} (hst : l.stackTraces = false) (hx : p.tables.exec = Jvm.exec) (hb : c.code = cL_law) (hml : c.maxLocals = 8) (hown : s.vm.findClass RL = some m.cls) (hts : ∀ w ∈ lw_tbl, w.before #[Value.ref b] s = true) (hX : va_X b L xs s s.heap) (hbl : b < s.heap.size) (v4 : Int32) (hI : ∀ k : Nat, k < 8 → vp_in (v4 + Int32.ofNat k) L) {cells slots : Nat} (hc : cells + 1 ≤ 1064) (hs : slots + 6 ≤ 8696) {ex : XS → (Nat → Int64) → YS → Prop}
    (hback : ∀ (u : XS) (f : Nat → Int64) (y : YS) (H : Heap) (locs : List Loc) (ls : Array Slot), lv_has ls 8 [(0, .ref b), (1, .ref h0), (2, .ref k0), (3, .ref qo), (4, .int v4)] → GW D cI cJ h0 a1 a2 a3 a4 a5 a6 k0 b1 b2 b3 b4 b5 b6 b7 b8 tC tS qo u f y s H locs → ex u f y → W p l e room_1 s m #[Value.ref b] below meth c H locs (cells + 1) (slots + 6) (lw_Z below #[Value.ref b] s) (F0 m 1661 ls []))
    (u : XS) (f : Nat → Int64) (y : YS) (H : Heap) (locs : List Loc) (ls : Array Slot) (hl : lv_has ls 8 [(0, .ref b), (1, .ref h0), (2, .ref k0), (3, .ref qo), (4, .int v4)]) (hG : GW D cI cJ h0 a1 a2 a3 a4 a5 a6 k0 b1 b2 b3 b4 b5 b6 b7 b8 tC tS qo u f y s H locs) (hw : wL_c4 ex xs v4 u f y) : W p l e room_1 s m #[Value.ref b] below meth c H locs cells slots (lw_Z below #[Value.ref b] s) (F0 m 651 ls []) := by
  have hbA : ¬ (fun q : Nat => s.heap.size ≤ q) b := Nat.not_le.mpr hbl
  have hL67 : (Cond.constantLong RL 67 4294967295).before #[Value.ref b] s = true := hts _ tl_67
  unfold wL_c4 at hw
  refine lv_aload_n hx hb dL_law_651 rfl (lv_at hl 1 rfl) ?_
  refine lv_aload_n hx hb dL_law_652 rfl (lv_at hl 0 rfl) ?_
  refine lv_iload hx hb dL_law_653 (lv_at hl 4 rfl) ?_
  refine lv_iconst (v := 1) hx hb dL_law_655 (by decide) ?_
  refine lv_iadd hx hb dL_law_656 ?_
  refine va_sld hx hb hX hbl hbA hG.2.2.2.1 (hI 1 (by decide)) dL_law_657 ?_
  refine lv_i2l (v := ((xs (v4 + 1).toNatClampNeg)).toInt64) hx hb dL_law_658 rfl ?_
  refine lv_bipush (v := 32) hx hb dL_law_659 (by decide) ?_
  refine lv_lshl (v := (((xs (v4 + 1).toNatClampNeg)).toInt64 <<< ((32 : Int32).toInt64 &&& 63))) hx hb dL_law_661 rfl ?_
  refine lv_aload_n hx hb dL_law_662 rfl (lv_at hl 0 rfl) ?_
  refine lv_iload hx hb dL_law_663 (lv_at hl 4 rfl) ?_
  refine lv_iconst (v := 2) hx hb dL_law_665 (by decide) ?_
  refine lv_iadd hx hb dL_law_666 ?_
  refine va_sld hx hb hX hbl hbA hG.2.2.2.1 (hI 2 (by decide)) dL_law_667 ?_
  refine lv_i2l (v := ((xs (v4 + 2).toNatClampNeg)).toInt64) hx hb dL_law_668 rfl ?_
  refine lv_ldc2 (v := 4294967295) hx hb hown hL67 dL_law_669 ?_
  refine lv_land hx hb dL_law_672 ?_
  refine lv_lor hx hb dL_law_673 ?_
  refine lv_aload_n hx hb dL_law_674 rfl (lv_at hl 0 rfl) ?_
  refine lv_iload hx hb dL_law_675 (lv_at hl 4 rfl) ?_
  refine lv_iconst (v := 3) hx hb dL_law_677 (by decide) ?_
  refine lv_iadd hx hb dL_law_678 ?_
  refine va_sld hx hb hX hbl hbA hG.2.2.2.1 (hI 3 (by decide)) dL_law_679 ?_
  refine lv_i2l (v := ((xs (v4 + 3).toNatClampNeg)).toInt64) hx hb dL_law_680 rfl ?_
  refine lv_bipush (v := 32) hx hb dL_law_681 (by decide) ?_
  refine lv_lshl (v := (((xs (v4 + 3).toNatClampNeg)).toInt64 <<< ((32 : Int32).toInt64 &&& 63))) hx hb dL_law_683 rfl ?_
  refine lv_aload_n hx hb dL_law_684 rfl (lv_at hl 0 rfl) ?_
  refine lv_iload hx hb dL_law_685 (lv_at hl 4 rfl) ?_
  refine lv_iconst (v := 4) hx hb dL_law_687 (by decide) ?_
  refine lv_iadd hx hb dL_law_688 ?_
  refine va_sld hx hb hX hbl hbA hG.2.2.2.1 (hI 4 (by decide)) dL_law_689 ?_
  refine lv_i2l (v := ((xs (v4 + 4).toNatClampNeg)).toInt64) hx hb dL_law_690 rfl ?_
  refine lv_ldc2 (v := 4294967295) hx hb hown hL67 dL_law_691 ?_
  refine lv_land hx hb dL_law_694 ?_
  refine lv_lor hx hb dL_law_695 ?_
  refine lv_aload_n hx hb dL_law_696 rfl (lv_at hl 3 rfl) ?_
  refine G_h (As := [.ref h0, .long ((((xs (v4 + 1).toNatClampNeg)).toInt64 <<< ((32 : Int32).toInt64 &&& 63)) ||| (((xs (v4 + 2).toNatClampNeg)).toInt64 &&& 4294967295)), .long ((((xs (v4 + 3).toNatClampNeg)).toInt64 <<< ((32 : Int32).toInt64 &&& 63)) ||| (((xs (v4 + 4).toNatClampNeg)).toInt64 &&& 4294967295)), .ref qo]) (rest := []) ⟨hx, hb, hml, hown, hts⟩ (mL_squat l hst D cJ h0 a1 a2 a3 a4 a5 a6 tC tS qo H.size u f ((((xs (v4 + 1).toNatClampNeg)).toInt64 <<< ((32 : Int32).toInt64 &&& 63)) ||| (((xs (v4 + 2).toNatClampNeg)).toInt64 &&& 4294967295)) ((((xs (v4 + 3).toNatClampNeg)).toInt64 <<< ((32 : Int32).toInt64 &&& 63)) ||| (((xs (v4 + 4).toNatClampNeg)).toInt64 &&& 4294967295)) _) (vx_cwSW 4 hts tc_L_squat rfl rfl rfl (by decide +kernel) ⟨Nat.le_of_ble_eq_true rfl, Nat.le_of_ble_eq_true rfl⟩) hG hw rfl hl.1 rfl (Nat.le_of_ble_eq_true rfl) dL_law_697 ⟨hc, hs⟩ (fun r w H locs hw hG => ?_)
  refine lv_istore (lv' := [(5, .int r), (0, .ref b), (1, .ref h0), (2, .ref k0), (3, .ref qo), (4, .int v4)]) hx hb dL_law_700 hl (by decide) rfl (fun ls hl => ?_)
  refine lv_aload_n hx hb dL_law_702 rfl (lv_at hl 3 rfl) ?_
  refine lv_aload_n hx hb dL_law_703 rfl (lv_at hl 1 rfl) ?_
  refine lv_iload hx hb dL_law_704 (lv_at hl 5 rfl) ?_
  refine lv_iconst (v := 1) hx hb dL_law_706 (by decide) ?_
  refine lv_iadd hx hb dL_law_707 ?_
  refine va_sld hx hb hX hbl hbA hG.2.2.2.1 (hI 1 (by decide)) dL_law_708 ?_
  refine lv_i2l (v := ((xs (v4 + 1).toNatClampNeg)).toInt64) hx hb dL_law_709 rfl ?_
  refine lv_bipush (v := 32) hx hb dL_law_710 (by decide) ?_
  refine lv_lshl (v := (((xs (v4 + 1).toNatClampNeg)).toInt64 <<< ((32 : Int32).toInt64 &&& 63))) hx hb dL_law_712 rfl ?_
  refine lv_aload_n hx hb dL_law_713 rfl (lv_at hl 1 rfl) ?_
  refine lv_iload hx hb dL_law_714 (lv_at hl 5 rfl) ?_
  refine lv_iconst (v := 2) hx hb dL_law_716 (by decide) ?_
  refine lv_iadd hx hb dL_law_717 ?_
  refine va_sld hx hb hX hbl hbA hG.2.2.2.1 (hI 2 (by decide)) dL_law_718 ?_
  refine lv_i2l (v := ((xs (v4 + 2).toNatClampNeg)).toInt64) hx hb dL_law_719 rfl ?_
  refine lv_ldc2 (v := 4294967295) hx hb hown hL67 dL_law_720 ?_
  refine lv_land hx hb dL_law_723 ?_
  refine lv_lor hx hb dL_law_724 ?_
  refine lv_aload_n hx hb dL_law_725 rfl (lv_at hl 1 rfl) ?_
  refine lv_iload hx hb dL_law_726 (lv_at hl 5 rfl) ?_
  refine lv_iconst (v := 3) hx hb dL_law_728 (by decide) ?_
  refine lv_iadd hx hb dL_law_729 ?_
  refine va_sld hx hb hX hbl hbA hG.2.2.2.1 (hI 3 (by decide)) dL_law_730 ?_
  refine lv_i2l (v := ((xs (v4 + 3).toNatClampNeg)).toInt64) hx hb dL_law_731 rfl ?_
  refine lv_bipush (v := 32) hx hb dL_law_732 (by decide) ?_
  refine lv_lshl (v := (((xs (v4 + 3).toNatClampNeg)).toInt64 <<< ((32 : Int32).toInt64 &&& 63))) hx hb dL_law_734 rfl ?_
  refine lv_aload_n hx hb dL_law_735 rfl (lv_at hl 1 rfl) ?_
  refine lv_iload hx hb dL_law_736 (lv_at hl 5 rfl) ?_
  refine lv_iconst (v := 4) hx hb dL_law_738 (by decide) ?_
  refine lv_iadd hx hb dL_law_739 ?_
  refine va_sld hx hb hX hbl hbA hG.2.2.2.1 (hI 4 (by decide)) dL_law_740 ?_
  refine lv_i2l (v := ((xs (v4 + 4).toNatClampNeg)).toInt64) hx hb dL_law_741 rfl ?_
  refine lv_ldc2 (v := 4294967295) hx hb hown hL67 dL_law_742 ?_
  refine lv_land hx hb dL_law_745 ?_
  refine lv_lor hx hb dL_law_746 ?_
  refine G_l (As := [.long ((((xs (v4 + 1).toNatClampNeg)).toInt64 <<< ((32 : Int32).toInt64 &&& 63)) ||| (((xs (v4 + 2).toNatClampNeg)).toInt64 &&& 4294967295)), .long ((((xs (v4 + 3).toNatClampNeg)).toInt64 <<< ((32 : Int32).toInt64 &&& 63)) ||| (((xs (v4 + 4).toNatClampNeg)).toInt64 &&& 4294967295))]) (rest := []) ⟨hx, hb, hml, hown, hts⟩ (mX1_squat l D cI cJ k0 b1 b2 b3 b4 b5 b6 b7 b8 H.size y ((((xs (v4 + 1).toNatClampNeg)).toInt64 <<< ((32 : Int32).toInt64 &&& 63)) ||| (((xs (v4 + 2).toNatClampNeg)).toInt64 &&& 4294967295)) ((((xs (v4 + 3).toNatClampNeg)).toInt64 <<< ((32 : Int32).toInt64 &&& 63)) ||| (((xs (v4 + 4).toNatClampNeg)).toInt64 &&& 4294967295)) _) (cwV 2 hts tc_X1_squat rfl rfl rfl (by decide +kernel) ⟨Nat.le_of_ble_eq_true rfl, Nat.le_of_ble_eq_true rfl⟩) hG hw rfl hl.1 rfl (Nat.le_of_ble_eq_true rfl) dL_law_747 ⟨by first | exact hc | exact Nat.le_of_succ_le hc, by first | exact hs | exact Nat.le_trans (Nat.le_add_right _ 6) hs⟩ (fun r1 y2 H locs hw hG => ?_)
  refine lv_lstore (lv' := [(6, .long r1), (5, .int r), (0, .ref b), (1, .ref h0), (2, .ref k0), (3, .ref qo), (4, .int v4)]) hx hb dL_law_750 hl (by decide) rfl (fun ls hl => ?_)
  refine lv_aload_n hx hb dL_law_752 rfl (lv_at hl 4 rfl) ?_
  refine pc_Vi (As := []) (rest := []) ⟨hx, hb, hml, hown, hts⟩ (mX1_thrown l D cI cJ k0 b1 b2 b3 b4 b5 b6 b7 b8 y2 _) (cwV 0 hts tc_X1_thrown rfl rfl rfl (by decide +kernel) ⟨Nat.le_of_ble_eq_true rfl, Nat.le_of_ble_eq_true rfl⟩) (wY_rc hG.toYW) wY_bl (wY_in hG.toYW hw) rfl hl.1 rfl (Nat.le_of_ble_eq_true rfl) dL_law_753 ⟨by first | exact hc | exact Nat.le_of_succ_le hc, by first | exact hs | exact Nat.le_trans (Nat.le_add_right _ 6) hs⟩ (fun r3 hw => ?_)
  refine lv_iload hx hb dL_law_756 (lv_at hl 1 rfl) ?_
  refine lv_icmp_eq (tgt := 763) hx hb dL_law_758 (by decide) (fun c4 => ?_) (fun c4 => ?_)
  · have hw := hw.1 c4
    refine lv_iload hx hb dL_law_763 (lv_at hl 1 rfl) ?_
    refine lv_if_ne (tgt := 779) hx hb dL_law_765 (by decide) (fun c5 => ?_) (fun c5 => ?_)
    · have hw := hw.2 c5
      refine lv_goto (tgt := 1661) hx hb dL_law_779 (by decide) ?_
      refine W.widen (k := cells + 1) (n := slots + 6) (by omega) (by omega) ?_
      exact hback w.1 w.2 y2 _ _ ls (lv_sub hl [2, 3, 4, 5, 6] rfl) hG hw
    · have hw := hw.1 c5
      refine lv_aload_n hx hb dL_law_768 rfl (lv_at hl 5 rfl) ?_
      refine lv_iconst (v := 0) hx hb dL_law_769 (by decide) ?_
      refine va_lald hx hb hG.2.1 hG.1 0 1 rfl rfl (by unfold vp_in; decide) dL_law_770 ?_
      rw [show Int32.toNatClampNeg 0 = 0 from by decide]
      refine lv_lload hx hb dL_law_771 (lv_at hl 0 rfl) ?_
      refine bl_eq (tgt := 779) hx hb dL_law_773 dL_law_774 (by decide) (fun c6 => ?_) (fun c6 => ?_)
      · have hw := hw.1 c6
        refine lv_goto (tgt := 1661) hx hb dL_law_779 (by decide) ?_
        refine W.widen (k := cells + 1) (n := slots + 6) (by omega) (by omega) ?_
        exact hback w.1 w.2 y2 _ _ ls (lv_sub hl [2, 3, 4, 5, 6] rfl) hG hw
      · have hw := hw.2 c6
        refine lv_iconst (v := 0) hx hb dL_law_777 (by decide) ?_
        exact hw.elim
  · have hw := hw.2 c4
    refine lv_iconst (v := 0) hx hb dL_law_761 (by decide) ?_
    exact hw.elim
def wL_c5 (ex : XS → (Nat → Int64) → YS → Prop) (xs : Nat → Int32) (v4 : Int32) (u : XS) (f : Nat → Int64) (y : YS) : Prop := (wL_passing (fun r w => (wX1_passing (fun r1 y2 => (wX1_thrown (fun r3 => ((r3 = r → ((r = 0 → (((w.2 0) = r1 → (ex w.1 w.2 y2)) ∧ (¬ (w.2 0) = r1 → False))) ∧ (¬ r = 0 → (ex w.1 w.2 y2)))) ∧ (¬ r3 = r → False))) y2)) y ((((xs (v4 + 1).toNatClampNeg)).toInt64 <<< ((32 : Int32).toInt64 &&& 63)) ||| (((xs (v4 + 2).toNatClampNeg)).toInt64 &&& 4294967295)) ((((xs (v4 + 3).toNatClampNeg)).toInt64 <<< ((32 : Int32).toInt64 &&& 63)) ||| (((xs (v4 + 4).toNatClampNeg)).toInt64 &&& 4294967295)))) u f ((((xs (v4 + 1).toNatClampNeg)).toInt64 <<< ((32 : Int32).toInt64 &&& 63)) ||| (((xs (v4 + 2).toNatClampNeg)).toInt64 &&& 4294967295)) ((((xs (v4 + 3).toNatClampNeg)).toInt64 <<< ((32 : Int32).toInt64 &&& 63)) ||| (((xs (v4 + 4).toNatClampNeg)).toInt64 &&& 4294967295)))
set_option maxHeartbeats 4000000 in
set_option maxRecDepth 100000 in
theorem kL_c5 {p : Program} {l : Launch} {e : Env} {s : State} {m : MethodId} {below : List Frame} {meth : Method} {c : Code} {b L : Nat} {xs : Nat → Int32} {D : va_G} {cI cJ : ClassId} {h0 a1 a2 a3 a4 a5 a6 k0 b1 b2 b3 b4 b5 b6 b7 b8 tC tS qo : Nat} (hst : l.stackTraces = false) (hx : p.tables.exec = Jvm.exec) (hb : c.code = cL_law) (hml : c.maxLocals = 8) (hown : s.vm.findClass RL = some m.cls) (hts : ∀ w ∈ lw_tbl, w.before #[Value.ref b] s = true) (hX : va_X b L xs s s.heap) (hbl : b < s.heap.size) (v4 : Int32) (hI : ∀ k : Nat, k < 8 → vp_in (v4 + Int32.ofNat k) L) {cells slots : Nat} (hc : cells + 1 ≤ 1064) (hs : slots + 6 ≤ 8696) {ex : XS → (Nat → Int64) → YS → Prop}
    (hback : ∀ (u : XS) (f : Nat → Int64) (y : YS) (H : Heap) (locs : List Loc) (ls : Array Slot), lv_has ls 8 [(0, .ref b), (1, .ref h0), (2, .ref k0), (3, .ref qo), (4, .int v4)] → GW D cI cJ h0 a1 a2 a3 a4 a5 a6 k0 b1 b2 b3 b4 b5 b6 b7 b8 tC tS qo u f y s H locs → ex u f y → W p l e room_1 s m #[Value.ref b] below meth c H locs (cells + 1) (slots + 6) (lw_Z below #[Value.ref b] s) (F0 m 1661 ls []))
    (u : XS) (f : Nat → Int64) (y : YS) (H : Heap) (locs : List Loc) (ls : Array Slot) (hl : lv_has ls 8 [(0, .ref b), (1, .ref h0), (2, .ref k0), (3, .ref qo), (4, .int v4)]) (hG : GW D cI cJ h0 a1 a2 a3 a4 a5 a6 k0 b1 b2 b3 b4 b5 b6 b7 b8 tC tS qo u f y s H locs) (hw : wL_c5 ex xs v4 u f y) : W p l e room_1 s m #[Value.ref b] below meth c H locs cells slots (lw_Z below #[Value.ref b] s) (F0 m 782 ls []) := by
  have hbA : ¬ (fun q : Nat => s.heap.size ≤ q) b := Nat.not_le.mpr hbl
  have hL67 : (Cond.constantLong RL 67 4294967295).before #[Value.ref b] s = true := hts _ tl_67
  unfold wL_c5 at hw
  refine lv_aload_n hx hb dL_law_782 rfl (lv_at hl 1 rfl) ?_
  refine lv_aload_n hx hb dL_law_783 rfl (lv_at hl 0 rfl) ?_
  refine lv_iload hx hb dL_law_784 (lv_at hl 4 rfl) ?_
  refine lv_iconst (v := 1) hx hb dL_law_786 (by decide) ?_
  refine lv_iadd hx hb dL_law_787 ?_
  refine va_sld hx hb hX hbl hbA hG.2.2.2.1 (hI 1 (by decide)) dL_law_788 ?_
  refine lv_i2l (v := ((xs (v4 + 1).toNatClampNeg)).toInt64) hx hb dL_law_789 rfl ?_
  refine lv_bipush (v := 32) hx hb dL_law_790 (by decide) ?_
  refine lv_lshl (v := (((xs (v4 + 1).toNatClampNeg)).toInt64 <<< ((32 : Int32).toInt64 &&& 63))) hx hb dL_law_792 rfl ?_
  refine lv_aload_n hx hb dL_law_793 rfl (lv_at hl 0 rfl) ?_
  refine lv_iload hx hb dL_law_794 (lv_at hl 4 rfl) ?_
  refine lv_iconst (v := 2) hx hb dL_law_796 (by decide) ?_
  refine lv_iadd hx hb dL_law_797 ?_
  refine va_sld hx hb hX hbl hbA hG.2.2.2.1 (hI 2 (by decide)) dL_law_798 ?_
  refine lv_i2l (v := ((xs (v4 + 2).toNatClampNeg)).toInt64) hx hb dL_law_799 rfl ?_
  refine lv_ldc2 (v := 4294967295) hx hb hown hL67 dL_law_800 ?_
  refine lv_land hx hb dL_law_803 ?_
  refine lv_lor hx hb dL_law_804 ?_
  refine lv_aload_n hx hb dL_law_805 rfl (lv_at hl 0 rfl) ?_
  refine lv_iload hx hb dL_law_806 (lv_at hl 4 rfl) ?_
  refine lv_iconst (v := 3) hx hb dL_law_808 (by decide) ?_
  refine lv_iadd hx hb dL_law_809 ?_
  refine va_sld hx hb hX hbl hbA hG.2.2.2.1 (hI 3 (by decide)) dL_law_810 ?_
  refine lv_i2l (v := ((xs (v4 + 3).toNatClampNeg)).toInt64) hx hb dL_law_811 rfl ?_
  refine lv_bipush (v := 32) hx hb dL_law_812 (by decide) ?_
  refine lv_lshl (v := (((xs (v4 + 3).toNatClampNeg)).toInt64 <<< ((32 : Int32).toInt64 &&& 63))) hx hb dL_law_814 rfl ?_
  refine lv_aload_n hx hb dL_law_815 rfl (lv_at hl 0 rfl) ?_
  refine lv_iload hx hb dL_law_816 (lv_at hl 4 rfl) ?_
  refine lv_iconst (v := 4) hx hb dL_law_818 (by decide) ?_
  refine lv_iadd hx hb dL_law_819 ?_
  refine va_sld hx hb hX hbl hbA hG.2.2.2.1 (hI 4 (by decide)) dL_law_820 ?_
  refine lv_i2l (v := ((xs (v4 + 4).toNatClampNeg)).toInt64) hx hb dL_law_821 rfl ?_
  refine lv_ldc2 (v := 4294967295) hx hb hown hL67 dL_law_822 ?_
  refine lv_land hx hb dL_law_825 ?_
  refine lv_lor hx hb dL_law_826 ?_
  refine lv_aload_n hx hb dL_law_827 rfl (lv_at hl 3 rfl) ?_
  refine G_h (As := [.ref h0, .long ((((xs (v4 + 1).toNatClampNeg)).toInt64 <<< ((32 : Int32).toInt64 &&& 63)) ||| (((xs (v4 + 2).toNatClampNeg)).toInt64 &&& 4294967295)), .long ((((xs (v4 + 3).toNatClampNeg)).toInt64 <<< ((32 : Int32).toInt64 &&& 63)) ||| (((xs (v4 + 4).toNatClampNeg)).toInt64 &&& 4294967295)), .ref qo]) (rest := []) ⟨hx, hb, hml, hown, hts⟩ (mL_passing l hst D cJ h0 a1 a2 a3 a4 a5 a6 tC tS qo H.size u f ((((xs (v4 + 1).toNatClampNeg)).toInt64 <<< ((32 : Int32).toInt64 &&& 63)) ||| (((xs (v4 + 2).toNatClampNeg)).toInt64 &&& 4294967295)) ((((xs (v4 + 3).toNatClampNeg)).toInt64 <<< ((32 : Int32).toInt64 &&& 63)) ||| (((xs (v4 + 4).toNatClampNeg)).toInt64 &&& 4294967295)) _) (vx_cwSW 4 hts tc_L_passing rfl rfl rfl (by decide +kernel) ⟨Nat.le_of_ble_eq_true rfl, Nat.le_of_ble_eq_true rfl⟩) hG hw rfl hl.1 rfl (Nat.le_of_ble_eq_true rfl) dL_law_828 ⟨hc, hs⟩ (fun r w H locs hw hG => ?_)
  refine lv_istore (lv' := [(5, .int r), (0, .ref b), (1, .ref h0), (2, .ref k0), (3, .ref qo), (4, .int v4)]) hx hb dL_law_831 hl (by decide) rfl (fun ls hl => ?_)
  refine lv_aload_n hx hb dL_law_833 rfl (lv_at hl 3 rfl) ?_
  refine lv_aload_n hx hb dL_law_834 rfl (lv_at hl 1 rfl) ?_
  refine lv_iload hx hb dL_law_835 (lv_at hl 5 rfl) ?_
  refine lv_iconst (v := 1) hx hb dL_law_837 (by decide) ?_
  refine lv_iadd hx hb dL_law_838 ?_
  refine va_sld hx hb hX hbl hbA hG.2.2.2.1 (hI 1 (by decide)) dL_law_839 ?_
  refine lv_i2l (v := ((xs (v4 + 1).toNatClampNeg)).toInt64) hx hb dL_law_840 rfl ?_
  refine lv_bipush (v := 32) hx hb dL_law_841 (by decide) ?_
  refine lv_lshl (v := (((xs (v4 + 1).toNatClampNeg)).toInt64 <<< ((32 : Int32).toInt64 &&& 63))) hx hb dL_law_843 rfl ?_
  refine lv_aload_n hx hb dL_law_844 rfl (lv_at hl 1 rfl) ?_
  refine lv_iload hx hb dL_law_845 (lv_at hl 5 rfl) ?_
  refine lv_iconst (v := 2) hx hb dL_law_847 (by decide) ?_
  refine lv_iadd hx hb dL_law_848 ?_
  refine va_sld hx hb hX hbl hbA hG.2.2.2.1 (hI 2 (by decide)) dL_law_849 ?_
  refine lv_i2l (v := ((xs (v4 + 2).toNatClampNeg)).toInt64) hx hb dL_law_850 rfl ?_
  refine lv_ldc2 (v := 4294967295) hx hb hown hL67 dL_law_851 ?_
  refine lv_land hx hb dL_law_854 ?_
  refine lv_lor hx hb dL_law_855 ?_
  refine lv_aload_n hx hb dL_law_856 rfl (lv_at hl 1 rfl) ?_
  refine lv_iload hx hb dL_law_857 (lv_at hl 5 rfl) ?_
  refine lv_iconst (v := 3) hx hb dL_law_859 (by decide) ?_
  refine lv_iadd hx hb dL_law_860 ?_
  refine va_sld hx hb hX hbl hbA hG.2.2.2.1 (hI 3 (by decide)) dL_law_861 ?_
  refine lv_i2l (v := ((xs (v4 + 3).toNatClampNeg)).toInt64) hx hb dL_law_862 rfl ?_
  refine lv_bipush (v := 32) hx hb dL_law_863 (by decide) ?_
  refine lv_lshl (v := (((xs (v4 + 3).toNatClampNeg)).toInt64 <<< ((32 : Int32).toInt64 &&& 63))) hx hb dL_law_865 rfl ?_
  refine lv_aload_n hx hb dL_law_866 rfl (lv_at hl 1 rfl) ?_
  refine lv_iload hx hb dL_law_867 (lv_at hl 5 rfl) ?_
  refine lv_iconst (v := 4) hx hb dL_law_869 (by decide) ?_
  refine lv_iadd hx hb dL_law_870 ?_
  refine va_sld hx hb hX hbl hbA hG.2.2.2.1 (hI 4 (by decide)) dL_law_871 ?_
  refine lv_i2l (v := ((xs (v4 + 4).toNatClampNeg)).toInt64) hx hb dL_law_872 rfl ?_
  refine lv_ldc2 (v := 4294967295) hx hb hown hL67 dL_law_873 ?_
  refine lv_land hx hb dL_law_876 ?_
  refine lv_lor hx hb dL_law_877 ?_
  refine G_l (As := [.long ((((xs (v4 + 1).toNatClampNeg)).toInt64 <<< ((32 : Int32).toInt64 &&& 63)) ||| (((xs (v4 + 2).toNatClampNeg)).toInt64 &&& 4294967295)), .long ((((xs (v4 + 3).toNatClampNeg)).toInt64 <<< ((32 : Int32).toInt64 &&& 63)) ||| (((xs (v4 + 4).toNatClampNeg)).toInt64 &&& 4294967295))]) (rest := []) ⟨hx, hb, hml, hown, hts⟩ (mX1_passing l D cI cJ k0 b1 b2 b3 b4 b5 b6 b7 b8 H.size y ((((xs (v4 + 1).toNatClampNeg)).toInt64 <<< ((32 : Int32).toInt64 &&& 63)) ||| (((xs (v4 + 2).toNatClampNeg)).toInt64 &&& 4294967295)) ((((xs (v4 + 3).toNatClampNeg)).toInt64 <<< ((32 : Int32).toInt64 &&& 63)) ||| (((xs (v4 + 4).toNatClampNeg)).toInt64 &&& 4294967295)) _) (cwV 2 hts tc_X1_passing rfl rfl rfl (by decide +kernel) ⟨Nat.le_of_ble_eq_true rfl, Nat.le_of_ble_eq_true rfl⟩) hG hw rfl hl.1 rfl (Nat.le_of_ble_eq_true rfl) dL_law_878 ⟨by first | exact hc | exact Nat.le_of_succ_le hc, by first | exact hs | exact Nat.le_trans (Nat.le_add_right _ 6) hs⟩ (fun r1 y2 H locs hw hG => ?_)
  refine lv_lstore (lv' := [(6, .long r1), (5, .int r), (0, .ref b), (1, .ref h0), (2, .ref k0), (3, .ref qo), (4, .int v4)]) hx hb dL_law_881 hl (by decide) rfl (fun ls hl => ?_)
  refine lv_aload_n hx hb dL_law_883 rfl (lv_at hl 4 rfl) ?_
  refine pc_Vi (As := []) (rest := []) ⟨hx, hb, hml, hown, hts⟩ (mX1_thrown l D cI cJ k0 b1 b2 b3 b4 b5 b6 b7 b8 y2 _) (cwV 0 hts tc_X1_thrown rfl rfl rfl (by decide +kernel) ⟨Nat.le_of_ble_eq_true rfl, Nat.le_of_ble_eq_true rfl⟩) (wY_rc hG.toYW) wY_bl (wY_in hG.toYW hw) rfl hl.1 rfl (Nat.le_of_ble_eq_true rfl) dL_law_884 ⟨by first | exact hc | exact Nat.le_of_succ_le hc, by first | exact hs | exact Nat.le_trans (Nat.le_add_right _ 6) hs⟩ (fun r3 hw => ?_)
  refine lv_iload hx hb dL_law_887 (lv_at hl 1 rfl) ?_
  refine lv_icmp_eq (tgt := 894) hx hb dL_law_889 (by decide) (fun c4 => ?_) (fun c4 => ?_)
  · have hw := hw.1 c4
    refine lv_iload hx hb dL_law_894 (lv_at hl 1 rfl) ?_
    refine lv_if_ne (tgt := 910) hx hb dL_law_896 (by decide) (fun c5 => ?_) (fun c5 => ?_)
    · have hw := hw.2 c5
      refine lv_goto (tgt := 1661) hx hb dL_law_910 (by decide) ?_
      refine W.widen (k := cells + 1) (n := slots + 6) (by omega) (by omega) ?_
      exact hback w.1 w.2 y2 _ _ ls (lv_sub hl [2, 3, 4, 5, 6] rfl) hG hw
    · have hw := hw.1 c5
      refine lv_aload_n hx hb dL_law_899 rfl (lv_at hl 5 rfl) ?_
      refine lv_iconst (v := 0) hx hb dL_law_900 (by decide) ?_
      refine va_lald hx hb hG.2.1 hG.1 0 1 rfl rfl (by unfold vp_in; decide) dL_law_901 ?_
      rw [show Int32.toNatClampNeg 0 = 0 from by decide]
      refine lv_lload hx hb dL_law_902 (lv_at hl 0 rfl) ?_
      refine bl_eq (tgt := 910) hx hb dL_law_904 dL_law_905 (by decide) (fun c6 => ?_) (fun c6 => ?_)
      · have hw := hw.1 c6
        refine lv_goto (tgt := 1661) hx hb dL_law_910 (by decide) ?_
        refine W.widen (k := cells + 1) (n := slots + 6) (by omega) (by omega) ?_
        exact hback w.1 w.2 y2 _ _ ls (lv_sub hl [2, 3, 4, 5, 6] rfl) hG hw
      · have hw := hw.2 c6
        refine lv_iconst (v := 0) hx hb dL_law_908 (by decide) ?_
        exact hw.elim
  · have hw := hw.2 c4
    refine lv_iconst (v := 0) hx hb dL_law_892 (by decide) ?_
    exact hw.elim
def wL_c6 (ex : XS → (Nat → Int64) → YS → Prop) (xs : Nat → Int32) (v4 : Int32) (u : XS) (f : Nat → Int64) (y : YS) : Prop := (wL_cosine (fun r w => (wX1_cosine (fun r1 y2 => (wX1_thrown (fun r3 => ((r3 = r → ((r = 0 → (((w.2 0) = (r1).toInt64 → (ex w.1 w.2 y2)) ∧ (¬ (w.2 0) = (r1).toInt64 → False))) ∧ (¬ r = 0 → (ex w.1 w.2 y2)))) ∧ (¬ r3 = r → False))) y2)) y (xs (v4 + 1).toNatClampNeg))) u f (xs (v4 + 1).toNatClampNeg))
set_option maxHeartbeats 4000000 in
set_option maxRecDepth 100000 in
theorem kL_c6 {p : Program} {l : Launch} {e : Env} {s : State} {m : MethodId} {below : List Frame} {meth : Method} {c : Code} {b L : Nat} {xs : Nat → Int32} {D : va_G} {cI cJ : ClassId} {h0 a1 a2 a3 a4 a5 a6 k0 b1 b2 b3 b4 b5 b6 b7 b8 tC tS qo : Nat} (hst : l.stackTraces = false) (hx : p.tables.exec = Jvm.exec) (hb : c.code = cL_law) (hml : c.maxLocals = 8) (hown : s.vm.findClass RL = some m.cls) (hts : ∀ w ∈ lw_tbl, w.before #[Value.ref b] s = true) (hX : va_X b L xs s s.heap) (hbl : b < s.heap.size) (v4 : Int32) (hI : ∀ k : Nat, k < 8 → vp_in (v4 + Int32.ofNat k) L) {cells slots : Nat} (hc : cells + 1 ≤ 1064) (hs : slots + 6 ≤ 8696) {ex : XS → (Nat → Int64) → YS → Prop}
    (hback : ∀ (u : XS) (f : Nat → Int64) (y : YS) (H : Heap) (locs : List Loc) (ls : Array Slot), lv_has ls 8 [(0, .ref b), (1, .ref h0), (2, .ref k0), (3, .ref qo), (4, .int v4)] → GW D cI cJ h0 a1 a2 a3 a4 a5 a6 k0 b1 b2 b3 b4 b5 b6 b7 b8 tC tS qo u f y s H locs → ex u f y → W p l e room_1 s m #[Value.ref b] below meth c H locs (cells + 1) (slots + 6) (lw_Z below #[Value.ref b] s) (F0 m 1661 ls []))
    (u : XS) (f : Nat → Int64) (y : YS) (H : Heap) (locs : List Loc) (ls : Array Slot) (hl : lv_has ls 8 [(0, .ref b), (1, .ref h0), (2, .ref k0), (3, .ref qo), (4, .int v4)]) (hG : GW D cI cJ h0 a1 a2 a3 a4 a5 a6 k0 b1 b2 b3 b4 b5 b6 b7 b8 tC tS qo u f y s H locs) (hw : wL_c6 ex xs v4 u f y) : W p l e room_1 s m #[Value.ref b] below meth c H locs cells slots (lw_Z below #[Value.ref b] s) (F0 m 913 ls []) := by
  have hbA : ¬ (fun q : Nat => s.heap.size ≤ q) b := Nat.not_le.mpr hbl
  have hL67 : (Cond.constantLong RL 67 4294967295).before #[Value.ref b] s = true := hts _ tl_67
  unfold wL_c6 at hw
  refine lv_aload_n hx hb dL_law_913 rfl (lv_at hl 1 rfl) ?_
  refine lv_aload_n hx hb dL_law_914 rfl (lv_at hl 0 rfl) ?_
  refine lv_iload hx hb dL_law_915 (lv_at hl 4 rfl) ?_
  refine lv_iconst (v := 1) hx hb dL_law_917 (by decide) ?_
  refine lv_iadd hx hb dL_law_918 ?_
  refine va_sld hx hb hX hbl hbA hG.2.2.2.1 (hI 1 (by decide)) dL_law_919 ?_
  refine lv_aload_n hx hb dL_law_920 rfl (lv_at hl 3 rfl) ?_
  refine G_h (As := [.ref h0, .int (xs (v4 + 1).toNatClampNeg), .ref qo]) (rest := []) ⟨hx, hb, hml, hown, hts⟩ (mL_cosine l hst D cJ h0 a1 a2 a3 a4 a5 a6 tC tS qo H.size u f (xs (v4 + 1).toNatClampNeg) _) (vx_cwSW 3 hts tc_L_cosine rfl rfl rfl (by decide +kernel) ⟨Nat.le_of_ble_eq_true rfl, Nat.le_of_ble_eq_true rfl⟩) hG hw rfl hl.1 rfl (Nat.le_of_ble_eq_true rfl) dL_law_921 ⟨hc, hs⟩ (fun r w H locs hw hG => ?_)
  refine lv_istore (lv' := [(5, .int r), (0, .ref b), (1, .ref h0), (2, .ref k0), (3, .ref qo), (4, .int v4)]) hx hb dL_law_924 hl (by decide) rfl (fun ls hl => ?_)
  refine lv_aload_n hx hb dL_law_926 rfl (lv_at hl 3 rfl) ?_
  refine lv_aload_n hx hb dL_law_927 rfl (lv_at hl 1 rfl) ?_
  refine lv_iload hx hb dL_law_928 (lv_at hl 5 rfl) ?_
  refine lv_iconst (v := 1) hx hb dL_law_930 (by decide) ?_
  refine lv_iadd hx hb dL_law_931 ?_
  refine va_sld hx hb hX hbl hbA hG.2.2.2.1 (hI 1 (by decide)) dL_law_932 ?_
  refine G_i (As := [.int (xs (v4 + 1).toNatClampNeg)]) (rest := []) ⟨hx, hb, hml, hown, hts⟩ (mX1_cosine l D cI cJ k0 b1 b2 b3 b4 b5 b6 b7 b8 H.size y (xs (v4 + 1).toNatClampNeg) _) (cwV 1 hts tc_X1_cosine rfl rfl rfl (by decide +kernel) ⟨Nat.le_of_ble_eq_true rfl, Nat.le_of_ble_eq_true rfl⟩) hG hw rfl hl.1 rfl (Nat.le_of_ble_eq_true rfl) dL_law_933 ⟨by first | exact hc | exact Nat.le_of_succ_le hc, by first | exact hs | exact Nat.le_trans (Nat.le_add_right _ 6) hs⟩ (fun r1 y2 H locs hw hG => ?_)
  refine lv_istore (lv' := [(6, .int r1), (5, .int r), (0, .ref b), (1, .ref h0), (2, .ref k0), (3, .ref qo), (4, .int v4)]) hx hb dL_law_936 hl (by decide) rfl (fun ls hl => ?_)
  refine lv_aload_n hx hb dL_law_938 rfl (lv_at hl 4 rfl) ?_
  refine pc_Vi (As := []) (rest := []) ⟨hx, hb, hml, hown, hts⟩ (mX1_thrown l D cI cJ k0 b1 b2 b3 b4 b5 b6 b7 b8 y2 _) (cwV 0 hts tc_X1_thrown rfl rfl rfl (by decide +kernel) ⟨Nat.le_of_ble_eq_true rfl, Nat.le_of_ble_eq_true rfl⟩) (wY_rc hG.toYW) wY_bl (wY_in hG.toYW hw) rfl hl.1 rfl (Nat.le_of_ble_eq_true rfl) dL_law_939 ⟨by first | exact hc | exact Nat.le_of_succ_le hc, by first | exact hs | exact Nat.le_trans (Nat.le_add_right _ 6) hs⟩ (fun r3 hw => ?_)
  refine lv_iload hx hb dL_law_942 (lv_at hl 1 rfl) ?_
  refine lv_icmp_eq (tgt := 949) hx hb dL_law_944 (by decide) (fun c4 => ?_) (fun c4 => ?_)
  · have hw := hw.1 c4
    refine lv_iload hx hb dL_law_949 (lv_at hl 1 rfl) ?_
    refine lv_if_ne (tgt := 966) hx hb dL_law_951 (by decide) (fun c5 => ?_) (fun c5 => ?_)
    · have hw := hw.2 c5
      refine lv_goto (tgt := 1661) hx hb dL_law_966 (by decide) ?_
      refine W.widen (k := cells + 1) (n := slots + 6) (by omega) (by omega) ?_
      exact hback w.1 w.2 y2 _ _ ls (lv_sub hl [2, 3, 4, 5, 6] rfl) hG hw
    · have hw := hw.1 c5
      refine lv_aload_n hx hb dL_law_954 rfl (lv_at hl 5 rfl) ?_
      refine lv_iconst (v := 0) hx hb dL_law_955 (by decide) ?_
      refine va_lald hx hb hG.2.1 hG.1 0 1 rfl rfl (by unfold vp_in; decide) dL_law_956 ?_
      rw [show Int32.toNatClampNeg 0 = 0 from by decide]
      refine lv_iload hx hb dL_law_957 (lv_at hl 0 rfl) ?_
      refine lv_i2l (v := (r1).toInt64) hx hb dL_law_959 rfl ?_
      refine bl_eq (tgt := 966) hx hb dL_law_960 dL_law_961 (by decide) (fun c6 => ?_) (fun c6 => ?_)
      · have hw := hw.1 c6
        refine lv_goto (tgt := 1661) hx hb dL_law_966 (by decide) ?_
        refine W.widen (k := cells + 1) (n := slots + 6) (by omega) (by omega) ?_
        exact hback w.1 w.2 y2 _ _ ls (lv_sub hl [2, 3, 4, 5, 6] rfl) hG hw
      · have hw := hw.2 c6
        refine lv_iconst (v := 0) hx hb dL_law_964 (by decide) ?_
        exact hw.elim
  · have hw := hw.2 c4
    refine lv_iconst (v := 0) hx hb dL_law_947 (by decide) ?_
    exact hw.elim
def wL_c7 (ex : XS → (Nat → Int64) → YS → Prop) (xs : Nat → Int32) (v4 : Int32) (u : XS) (f : Nat → Int64) (y : YS) : Prop := (wL_draft (fun r w => (wX1_draft (fun r1 y2 => (wX1_thrown (fun r3 => ((r3 = r → ((r = 0 → (((w.2 0) = r1 → (ex w.1 w.2 y2)) ∧ (¬ (w.2 0) = r1 → False))) ∧ (¬ r = 0 → (ex w.1 w.2 y2)))) ∧ (¬ r3 = r → False))) y2)) y ((((xs (v4 + 1).toNatClampNeg)).toInt64 <<< ((32 : Int32).toInt64 &&& 63)) ||| (((xs (v4 + 2).toNatClampNeg)).toInt64 &&& 4294967295)) ((((xs (v4 + 3).toNatClampNeg)).toInt64 <<< ((32 : Int32).toInt64 &&& 63)) ||| (((xs (v4 + 4).toNatClampNeg)).toInt64 &&& 4294967295)) ((((xs (v4 + 5).toNatClampNeg)).toInt64 <<< ((32 : Int32).toInt64 &&& 63)) ||| (((xs (v4 + 6).toNatClampNeg)).toInt64 &&& 4294967295)))) u f ((((xs (v4 + 1).toNatClampNeg)).toInt64 <<< ((32 : Int32).toInt64 &&& 63)) ||| (((xs (v4 + 2).toNatClampNeg)).toInt64 &&& 4294967295)) ((((xs (v4 + 3).toNatClampNeg)).toInt64 <<< ((32 : Int32).toInt64 &&& 63)) ||| (((xs (v4 + 4).toNatClampNeg)).toInt64 &&& 4294967295)) ((((xs (v4 + 5).toNatClampNeg)).toInt64 <<< ((32 : Int32).toInt64 &&& 63)) ||| (((xs (v4 + 6).toNatClampNeg)).toInt64 &&& 4294967295)))
set_option maxHeartbeats 4000000 in
set_option maxRecDepth 100000 in
theorem kL_c7 {p : Program} {l : Launch} {e : Env} {s : State} {m : MethodId} {below : List Frame} {meth : Method} {c : Code} {b L : Nat} {xs : Nat → Int32} {D : va_G} {cI cJ : ClassId} {h0 a1 a2 a3 a4 a5 a6 k0 b1 b2 b3 b4 b5 b6 b7 b8 tC tS qo : Nat} (hst : l.stackTraces = false) (hx : p.tables.exec = Jvm.exec) (hb : c.code = cL_law) (hml : c.maxLocals = 8) (hown : s.vm.findClass RL = some m.cls) (hts : ∀ w ∈ lw_tbl, w.before #[Value.ref b] s = true) (hX : va_X b L xs s s.heap) (hbl : b < s.heap.size) (v4 : Int32) (hI : ∀ k : Nat, k < 8 → vp_in (v4 + Int32.ofNat k) L) {cells slots : Nat} (hc : cells + 1 ≤ 1064) (hs : slots + 6 ≤ 8696) {ex : XS → (Nat → Int64) → YS → Prop}
    (hback : ∀ (u : XS) (f : Nat → Int64) (y : YS) (H : Heap) (locs : List Loc) (ls : Array Slot), lv_has ls 8 [(0, .ref b), (1, .ref h0), (2, .ref k0), (3, .ref qo), (4, .int v4)] → GW D cI cJ h0 a1 a2 a3 a4 a5 a6 k0 b1 b2 b3 b4 b5 b6 b7 b8 tC tS qo u f y s H locs → ex u f y → W p l e room_1 s m #[Value.ref b] below meth c H locs (cells + 1) (slots + 6) (lw_Z below #[Value.ref b] s) (F0 m 1661 ls []))
    (u : XS) (f : Nat → Int64) (y : YS) (H : Heap) (locs : List Loc) (ls : Array Slot) (hl : lv_has ls 8 [(0, .ref b), (1, .ref h0), (2, .ref k0), (3, .ref qo), (4, .int v4)]) (hG : GW D cI cJ h0 a1 a2 a3 a4 a5 a6 k0 b1 b2 b3 b4 b5 b6 b7 b8 tC tS qo u f y s H locs) (hw : wL_c7 ex xs v4 u f y) : W p l e room_1 s m #[Value.ref b] below meth c H locs cells slots (lw_Z below #[Value.ref b] s) (F0 m 969 ls []) := by
  have hbA : ¬ (fun q : Nat => s.heap.size ≤ q) b := Nat.not_le.mpr hbl
  have hL67 : (Cond.constantLong RL 67 4294967295).before #[Value.ref b] s = true := hts _ tl_67
  unfold wL_c7 at hw
  refine lv_aload_n hx hb dL_law_969 rfl (lv_at hl 1 rfl) ?_
  refine lv_aload_n hx hb dL_law_970 rfl (lv_at hl 0 rfl) ?_
  refine lv_iload hx hb dL_law_971 (lv_at hl 4 rfl) ?_
  refine lv_iconst (v := 1) hx hb dL_law_973 (by decide) ?_
  refine lv_iadd hx hb dL_law_974 ?_
  refine va_sld hx hb hX hbl hbA hG.2.2.2.1 (hI 1 (by decide)) dL_law_975 ?_
  refine lv_i2l (v := ((xs (v4 + 1).toNatClampNeg)).toInt64) hx hb dL_law_976 rfl ?_
  refine lv_bipush (v := 32) hx hb dL_law_977 (by decide) ?_
  refine lv_lshl (v := (((xs (v4 + 1).toNatClampNeg)).toInt64 <<< ((32 : Int32).toInt64 &&& 63))) hx hb dL_law_979 rfl ?_
  refine lv_aload_n hx hb dL_law_980 rfl (lv_at hl 0 rfl) ?_
  refine lv_iload hx hb dL_law_981 (lv_at hl 4 rfl) ?_
  refine lv_iconst (v := 2) hx hb dL_law_983 (by decide) ?_
  refine lv_iadd hx hb dL_law_984 ?_
  refine va_sld hx hb hX hbl hbA hG.2.2.2.1 (hI 2 (by decide)) dL_law_985 ?_
  refine lv_i2l (v := ((xs (v4 + 2).toNatClampNeg)).toInt64) hx hb dL_law_986 rfl ?_
  refine lv_ldc2 (v := 4294967295) hx hb hown hL67 dL_law_987 ?_
  refine lv_land hx hb dL_law_990 ?_
  refine lv_lor hx hb dL_law_991 ?_
  refine lv_aload_n hx hb dL_law_992 rfl (lv_at hl 0 rfl) ?_
  refine lv_iload hx hb dL_law_993 (lv_at hl 4 rfl) ?_
  refine lv_iconst (v := 3) hx hb dL_law_995 (by decide) ?_
  refine lv_iadd hx hb dL_law_996 ?_
  refine va_sld hx hb hX hbl hbA hG.2.2.2.1 (hI 3 (by decide)) dL_law_997 ?_
  refine lv_i2l (v := ((xs (v4 + 3).toNatClampNeg)).toInt64) hx hb dL_law_998 rfl ?_
  refine lv_bipush (v := 32) hx hb dL_law_999 (by decide) ?_
  refine lv_lshl (v := (((xs (v4 + 3).toNatClampNeg)).toInt64 <<< ((32 : Int32).toInt64 &&& 63))) hx hb dL_law_1001 rfl ?_
  refine lv_aload_n hx hb dL_law_1002 rfl (lv_at hl 0 rfl) ?_
  refine lv_iload hx hb dL_law_1003 (lv_at hl 4 rfl) ?_
  refine lv_iconst (v := 4) hx hb dL_law_1005 (by decide) ?_
  refine lv_iadd hx hb dL_law_1006 ?_
  refine va_sld hx hb hX hbl hbA hG.2.2.2.1 (hI 4 (by decide)) dL_law_1007 ?_
  refine lv_i2l (v := ((xs (v4 + 4).toNatClampNeg)).toInt64) hx hb dL_law_1008 rfl ?_
  refine lv_ldc2 (v := 4294967295) hx hb hown hL67 dL_law_1009 ?_
  refine lv_land hx hb dL_law_1012 ?_
  refine lv_lor hx hb dL_law_1013 ?_
  refine lv_aload_n hx hb dL_law_1014 rfl (lv_at hl 0 rfl) ?_
  refine lv_iload hx hb dL_law_1015 (lv_at hl 4 rfl) ?_
  refine lv_iconst (v := 5) hx hb dL_law_1017 (by decide) ?_
  refine lv_iadd hx hb dL_law_1018 ?_
  refine va_sld hx hb hX hbl hbA hG.2.2.2.1 (hI 5 (by decide)) dL_law_1019 ?_
  refine lv_i2l (v := ((xs (v4 + 5).toNatClampNeg)).toInt64) hx hb dL_law_1020 rfl ?_
  refine lv_bipush (v := 32) hx hb dL_law_1021 (by decide) ?_
  refine lv_lshl (v := (((xs (v4 + 5).toNatClampNeg)).toInt64 <<< ((32 : Int32).toInt64 &&& 63))) hx hb dL_law_1023 rfl ?_
  refine lv_aload_n hx hb dL_law_1024 rfl (lv_at hl 0 rfl) ?_
  refine lv_iload hx hb dL_law_1025 (lv_at hl 4 rfl) ?_
  refine lv_bipush (v := 6) hx hb dL_law_1027 (by decide) ?_
  refine lv_iadd hx hb dL_law_1029 ?_
  refine va_sld hx hb hX hbl hbA hG.2.2.2.1 (hI 6 (by decide)) dL_law_1030 ?_
  refine lv_i2l (v := ((xs (v4 + 6).toNatClampNeg)).toInt64) hx hb dL_law_1031 rfl ?_
  refine lv_ldc2 (v := 4294967295) hx hb hown hL67 dL_law_1032 ?_
  refine lv_land hx hb dL_law_1035 ?_
  refine lv_lor hx hb dL_law_1036 ?_
  refine lv_aload_n hx hb dL_law_1037 rfl (lv_at hl 3 rfl) ?_
  refine G_h (As := [.ref h0, .long ((((xs (v4 + 1).toNatClampNeg)).toInt64 <<< ((32 : Int32).toInt64 &&& 63)) ||| (((xs (v4 + 2).toNatClampNeg)).toInt64 &&& 4294967295)), .long ((((xs (v4 + 3).toNatClampNeg)).toInt64 <<< ((32 : Int32).toInt64 &&& 63)) ||| (((xs (v4 + 4).toNatClampNeg)).toInt64 &&& 4294967295)), .long ((((xs (v4 + 5).toNatClampNeg)).toInt64 <<< ((32 : Int32).toInt64 &&& 63)) ||| (((xs (v4 + 6).toNatClampNeg)).toInt64 &&& 4294967295)), .ref qo]) (rest := []) ⟨hx, hb, hml, hown, hts⟩ (mL_draft l hst D cJ h0 a1 a2 a3 a4 a5 a6 tC tS qo H.size u f ((((xs (v4 + 1).toNatClampNeg)).toInt64 <<< ((32 : Int32).toInt64 &&& 63)) ||| (((xs (v4 + 2).toNatClampNeg)).toInt64 &&& 4294967295)) ((((xs (v4 + 3).toNatClampNeg)).toInt64 <<< ((32 : Int32).toInt64 &&& 63)) ||| (((xs (v4 + 4).toNatClampNeg)).toInt64 &&& 4294967295)) ((((xs (v4 + 5).toNatClampNeg)).toInt64 <<< ((32 : Int32).toInt64 &&& 63)) ||| (((xs (v4 + 6).toNatClampNeg)).toInt64 &&& 4294967295)) _) (vx_cwSW 5 hts tc_L_draft rfl rfl rfl (by decide +kernel) ⟨Nat.le_of_ble_eq_true rfl, Nat.le_of_ble_eq_true rfl⟩) hG hw rfl hl.1 rfl (Nat.le_of_ble_eq_true rfl) dL_law_1038 ⟨hc, hs⟩ (fun r w H locs hw hG => ?_)
  refine lv_istore (lv' := [(5, .int r), (0, .ref b), (1, .ref h0), (2, .ref k0), (3, .ref qo), (4, .int v4)]) hx hb dL_law_1041 hl (by decide) rfl (fun ls hl => ?_)
  refine lv_aload_n hx hb dL_law_1043 rfl (lv_at hl 3 rfl) ?_
  refine lv_aload_n hx hb dL_law_1044 rfl (lv_at hl 1 rfl) ?_
  refine lv_iload hx hb dL_law_1045 (lv_at hl 5 rfl) ?_
  refine lv_iconst (v := 1) hx hb dL_law_1047 (by decide) ?_
  refine lv_iadd hx hb dL_law_1048 ?_
  refine va_sld hx hb hX hbl hbA hG.2.2.2.1 (hI 1 (by decide)) dL_law_1049 ?_
  refine lv_i2l (v := ((xs (v4 + 1).toNatClampNeg)).toInt64) hx hb dL_law_1050 rfl ?_
  refine lv_bipush (v := 32) hx hb dL_law_1051 (by decide) ?_
  refine lv_lshl (v := (((xs (v4 + 1).toNatClampNeg)).toInt64 <<< ((32 : Int32).toInt64 &&& 63))) hx hb dL_law_1053 rfl ?_
  refine lv_aload_n hx hb dL_law_1054 rfl (lv_at hl 1 rfl) ?_
  refine lv_iload hx hb dL_law_1055 (lv_at hl 5 rfl) ?_
  refine lv_iconst (v := 2) hx hb dL_law_1057 (by decide) ?_
  refine lv_iadd hx hb dL_law_1058 ?_
  refine va_sld hx hb hX hbl hbA hG.2.2.2.1 (hI 2 (by decide)) dL_law_1059 ?_
  refine lv_i2l (v := ((xs (v4 + 2).toNatClampNeg)).toInt64) hx hb dL_law_1060 rfl ?_
  refine lv_ldc2 (v := 4294967295) hx hb hown hL67 dL_law_1061 ?_
  refine lv_land hx hb dL_law_1064 ?_
  refine lv_lor hx hb dL_law_1065 ?_
  refine lv_aload_n hx hb dL_law_1066 rfl (lv_at hl 1 rfl) ?_
  refine lv_iload hx hb dL_law_1067 (lv_at hl 5 rfl) ?_
  refine lv_iconst (v := 3) hx hb dL_law_1069 (by decide) ?_
  refine lv_iadd hx hb dL_law_1070 ?_
  refine va_sld hx hb hX hbl hbA hG.2.2.2.1 (hI 3 (by decide)) dL_law_1071 ?_
  refine lv_i2l (v := ((xs (v4 + 3).toNatClampNeg)).toInt64) hx hb dL_law_1072 rfl ?_
  refine lv_bipush (v := 32) hx hb dL_law_1073 (by decide) ?_
  refine lv_lshl (v := (((xs (v4 + 3).toNatClampNeg)).toInt64 <<< ((32 : Int32).toInt64 &&& 63))) hx hb dL_law_1075 rfl ?_
  refine lv_aload_n hx hb dL_law_1076 rfl (lv_at hl 1 rfl) ?_
  refine lv_iload hx hb dL_law_1077 (lv_at hl 5 rfl) ?_
  refine lv_iconst (v := 4) hx hb dL_law_1079 (by decide) ?_
  refine lv_iadd hx hb dL_law_1080 ?_
  refine va_sld hx hb hX hbl hbA hG.2.2.2.1 (hI 4 (by decide)) dL_law_1081 ?_
  refine lv_i2l (v := ((xs (v4 + 4).toNatClampNeg)).toInt64) hx hb dL_law_1082 rfl ?_
  refine lv_ldc2 (v := 4294967295) hx hb hown hL67 dL_law_1083 ?_
  refine lv_land hx hb dL_law_1086 ?_
  refine lv_lor hx hb dL_law_1087 ?_
  refine lv_aload_n hx hb dL_law_1088 rfl (lv_at hl 1 rfl) ?_
  refine lv_iload hx hb dL_law_1089 (lv_at hl 5 rfl) ?_
  refine lv_iconst (v := 5) hx hb dL_law_1091 (by decide) ?_
  refine lv_iadd hx hb dL_law_1092 ?_
  refine va_sld hx hb hX hbl hbA hG.2.2.2.1 (hI 5 (by decide)) dL_law_1093 ?_
  refine lv_i2l (v := ((xs (v4 + 5).toNatClampNeg)).toInt64) hx hb dL_law_1094 rfl ?_
  refine lv_bipush (v := 32) hx hb dL_law_1095 (by decide) ?_
  refine lv_lshl (v := (((xs (v4 + 5).toNatClampNeg)).toInt64 <<< ((32 : Int32).toInt64 &&& 63))) hx hb dL_law_1097 rfl ?_
  refine lv_aload_n hx hb dL_law_1098 rfl (lv_at hl 1 rfl) ?_
  refine lv_iload hx hb dL_law_1099 (lv_at hl 5 rfl) ?_
  refine lv_bipush (v := 6) hx hb dL_law_1101 (by decide) ?_
  refine lv_iadd hx hb dL_law_1103 ?_
  refine va_sld hx hb hX hbl hbA hG.2.2.2.1 (hI 6 (by decide)) dL_law_1104 ?_
  refine lv_i2l (v := ((xs (v4 + 6).toNatClampNeg)).toInt64) hx hb dL_law_1105 rfl ?_
  refine lv_ldc2 (v := 4294967295) hx hb hown hL67 dL_law_1106 ?_
  refine lv_land hx hb dL_law_1109 ?_
  refine lv_lor hx hb dL_law_1110 ?_
  refine G_l (As := [.long ((((xs (v4 + 1).toNatClampNeg)).toInt64 <<< ((32 : Int32).toInt64 &&& 63)) ||| (((xs (v4 + 2).toNatClampNeg)).toInt64 &&& 4294967295)), .long ((((xs (v4 + 3).toNatClampNeg)).toInt64 <<< ((32 : Int32).toInt64 &&& 63)) ||| (((xs (v4 + 4).toNatClampNeg)).toInt64 &&& 4294967295)), .long ((((xs (v4 + 5).toNatClampNeg)).toInt64 <<< ((32 : Int32).toInt64 &&& 63)) ||| (((xs (v4 + 6).toNatClampNeg)).toInt64 &&& 4294967295))]) (rest := []) ⟨hx, hb, hml, hown, hts⟩ (mX1_draft l D cI cJ k0 b1 b2 b3 b4 b5 b6 b7 b8 H.size y ((((xs (v4 + 1).toNatClampNeg)).toInt64 <<< ((32 : Int32).toInt64 &&& 63)) ||| (((xs (v4 + 2).toNatClampNeg)).toInt64 &&& 4294967295)) ((((xs (v4 + 3).toNatClampNeg)).toInt64 <<< ((32 : Int32).toInt64 &&& 63)) ||| (((xs (v4 + 4).toNatClampNeg)).toInt64 &&& 4294967295)) ((((xs (v4 + 5).toNatClampNeg)).toInt64 <<< ((32 : Int32).toInt64 &&& 63)) ||| (((xs (v4 + 6).toNatClampNeg)).toInt64 &&& 4294967295)) _) (cwV 3 hts tc_X1_draft rfl rfl rfl (by decide +kernel) ⟨Nat.le_of_ble_eq_true rfl, Nat.le_of_ble_eq_true rfl⟩) hG hw rfl hl.1 rfl (Nat.le_of_ble_eq_true rfl) dL_law_1111 ⟨by first | exact hc | exact Nat.le_of_succ_le hc, by first | exact hs | exact Nat.le_trans (Nat.le_add_right _ 6) hs⟩ (fun r1 y2 H locs hw hG => ?_)
  refine lv_lstore (lv' := [(6, .long r1), (5, .int r), (0, .ref b), (1, .ref h0), (2, .ref k0), (3, .ref qo), (4, .int v4)]) hx hb dL_law_1114 hl (by decide) rfl (fun ls hl => ?_)
  refine lv_aload_n hx hb dL_law_1116 rfl (lv_at hl 4 rfl) ?_
  refine pc_Vi (As := []) (rest := []) ⟨hx, hb, hml, hown, hts⟩ (mX1_thrown l D cI cJ k0 b1 b2 b3 b4 b5 b6 b7 b8 y2 _) (cwV 0 hts tc_X1_thrown rfl rfl rfl (by decide +kernel) ⟨Nat.le_of_ble_eq_true rfl, Nat.le_of_ble_eq_true rfl⟩) (wY_rc hG.toYW) wY_bl (wY_in hG.toYW hw) rfl hl.1 rfl (Nat.le_of_ble_eq_true rfl) dL_law_1117 ⟨by first | exact hc | exact Nat.le_of_succ_le hc, by first | exact hs | exact Nat.le_trans (Nat.le_add_right _ 6) hs⟩ (fun r3 hw => ?_)
  refine lv_iload hx hb dL_law_1120 (lv_at hl 1 rfl) ?_
  refine lv_icmp_eq (tgt := 1127) hx hb dL_law_1122 (by decide) (fun c4 => ?_) (fun c4 => ?_)
  · have hw := hw.1 c4
    refine lv_iload hx hb dL_law_1127 (lv_at hl 1 rfl) ?_
    refine lv_if_ne (tgt := 1143) hx hb dL_law_1129 (by decide) (fun c5 => ?_) (fun c5 => ?_)
    · have hw := hw.2 c5
      refine lv_goto (tgt := 1661) hx hb dL_law_1143 (by decide) ?_
      refine W.widen (k := cells + 1) (n := slots + 6) (by omega) (by omega) ?_
      exact hback w.1 w.2 y2 _ _ ls (lv_sub hl [2, 3, 4, 5, 6] rfl) hG hw
    · have hw := hw.1 c5
      refine lv_aload_n hx hb dL_law_1132 rfl (lv_at hl 5 rfl) ?_
      refine lv_iconst (v := 0) hx hb dL_law_1133 (by decide) ?_
      refine va_lald hx hb hG.2.1 hG.1 0 1 rfl rfl (by unfold vp_in; decide) dL_law_1134 ?_
      rw [show Int32.toNatClampNeg 0 = 0 from by decide]
      refine lv_lload hx hb dL_law_1135 (lv_at hl 0 rfl) ?_
      refine bl_eq (tgt := 1143) hx hb dL_law_1137 dL_law_1138 (by decide) (fun c6 => ?_) (fun c6 => ?_)
      · have hw := hw.1 c6
        refine lv_goto (tgt := 1661) hx hb dL_law_1143 (by decide) ?_
        refine W.widen (k := cells + 1) (n := slots + 6) (by omega) (by omega) ?_
        exact hback w.1 w.2 y2 _ _ ls (lv_sub hl [2, 3, 4, 5, 6] rfl) hG hw
      · have hw := hw.2 c6
        refine lv_iconst (v := 0) hx hb dL_law_1141 (by decide) ?_
        exact hw.elim
  · have hw := hw.2 c4
    refine lv_iconst (v := 0) hx hb dL_law_1125 (by decide) ?_
    exact hw.elim
def wL_c8 (ex : XS → (Nat → Int64) → YS → Prop) (xs : Nat → Int32) (v4 : Int32) (u : XS) (f : Nat → Int64) (y : YS) : Prop := (wL_place (fun r w => (wX1_place (fun r1 y2 => (wX1_thrown (fun r3 => ((r3 = r → ((r = 0 → (((w.2 0) = (r1).toInt64 → (ex w.1 w.2 y2)) ∧ (¬ (w.2 0) = (r1).toInt64 → False))) ∧ (¬ r = 0 → (ex w.1 w.2 y2)))) ∧ (¬ r3 = r → False))) y2)) y ((((xs (v4 + 1).toNatClampNeg)).toInt64 <<< ((32 : Int32).toInt64 &&& 63)) ||| (((xs (v4 + 2).toNatClampNeg)).toInt64 &&& 4294967295)) ((((xs (v4 + 3).toNatClampNeg)).toInt64 <<< ((32 : Int32).toInt64 &&& 63)) ||| (((xs (v4 + 4).toNatClampNeg)).toInt64 &&& 4294967295)))) u f ((((xs (v4 + 1).toNatClampNeg)).toInt64 <<< ((32 : Int32).toInt64 &&& 63)) ||| (((xs (v4 + 2).toNatClampNeg)).toInt64 &&& 4294967295)) ((((xs (v4 + 3).toNatClampNeg)).toInt64 <<< ((32 : Int32).toInt64 &&& 63)) ||| (((xs (v4 + 4).toNatClampNeg)).toInt64 &&& 4294967295)))
set_option maxHeartbeats 4000000 in
set_option maxRecDepth 100000 in
theorem kL_c8 {p : Program} {l : Launch} {e : Env} {s : State} {m : MethodId} {below : List Frame} {meth : Method} {c : Code} {b L : Nat} {xs : Nat → Int32} {D : va_G} {cI cJ : ClassId} {h0 a1 a2 a3 a4 a5 a6 k0 b1 b2 b3 b4 b5 b6 b7 b8 tC tS qo : Nat} (hst : l.stackTraces = false) (hx : p.tables.exec = Jvm.exec) (hb : c.code = cL_law) (hml : c.maxLocals = 8) (hown : s.vm.findClass RL = some m.cls) (hts : ∀ w ∈ lw_tbl, w.before #[Value.ref b] s = true) (hX : va_X b L xs s s.heap) (hbl : b < s.heap.size) (v4 : Int32) (hI : ∀ k : Nat, k < 8 → vp_in (v4 + Int32.ofNat k) L) {cells slots : Nat} (hc : cells + 1 ≤ 1064) (hs : slots + 6 ≤ 8696) {ex : XS → (Nat → Int64) → YS → Prop}
    (hback : ∀ (u : XS) (f : Nat → Int64) (y : YS) (H : Heap) (locs : List Loc) (ls : Array Slot), lv_has ls 8 [(0, .ref b), (1, .ref h0), (2, .ref k0), (3, .ref qo), (4, .int v4)] → GW D cI cJ h0 a1 a2 a3 a4 a5 a6 k0 b1 b2 b3 b4 b5 b6 b7 b8 tC tS qo u f y s H locs → ex u f y → W p l e room_1 s m #[Value.ref b] below meth c H locs (cells + 1) (slots + 6) (lw_Z below #[Value.ref b] s) (F0 m 1661 ls []))
    (u : XS) (f : Nat → Int64) (y : YS) (H : Heap) (locs : List Loc) (ls : Array Slot) (hl : lv_has ls 8 [(0, .ref b), (1, .ref h0), (2, .ref k0), (3, .ref qo), (4, .int v4)]) (hG : GW D cI cJ h0 a1 a2 a3 a4 a5 a6 k0 b1 b2 b3 b4 b5 b6 b7 b8 tC tS qo u f y s H locs) (hw : wL_c8 ex xs v4 u f y) : W p l e room_1 s m #[Value.ref b] below meth c H locs cells slots (lw_Z below #[Value.ref b] s) (F0 m 1146 ls []) := by
  have hbA : ¬ (fun q : Nat => s.heap.size ≤ q) b := Nat.not_le.mpr hbl
  have hL67 : (Cond.constantLong RL 67 4294967295).before #[Value.ref b] s = true := hts _ tl_67
  unfold wL_c8 at hw
  refine lv_aload_n hx hb dL_law_1146 rfl (lv_at hl 1 rfl) ?_
  refine lv_aload_n hx hb dL_law_1147 rfl (lv_at hl 0 rfl) ?_
  refine lv_iload hx hb dL_law_1148 (lv_at hl 4 rfl) ?_
  refine lv_iconst (v := 1) hx hb dL_law_1150 (by decide) ?_
  refine lv_iadd hx hb dL_law_1151 ?_
  refine va_sld hx hb hX hbl hbA hG.2.2.2.1 (hI 1 (by decide)) dL_law_1152 ?_
  refine lv_i2l (v := ((xs (v4 + 1).toNatClampNeg)).toInt64) hx hb dL_law_1153 rfl ?_
  refine lv_bipush (v := 32) hx hb dL_law_1154 (by decide) ?_
  refine lv_lshl (v := (((xs (v4 + 1).toNatClampNeg)).toInt64 <<< ((32 : Int32).toInt64 &&& 63))) hx hb dL_law_1156 rfl ?_
  refine lv_aload_n hx hb dL_law_1157 rfl (lv_at hl 0 rfl) ?_
  refine lv_iload hx hb dL_law_1158 (lv_at hl 4 rfl) ?_
  refine lv_iconst (v := 2) hx hb dL_law_1160 (by decide) ?_
  refine lv_iadd hx hb dL_law_1161 ?_
  refine va_sld hx hb hX hbl hbA hG.2.2.2.1 (hI 2 (by decide)) dL_law_1162 ?_
  refine lv_i2l (v := ((xs (v4 + 2).toNatClampNeg)).toInt64) hx hb dL_law_1163 rfl ?_
  refine lv_ldc2 (v := 4294967295) hx hb hown hL67 dL_law_1164 ?_
  refine lv_land hx hb dL_law_1167 ?_
  refine lv_lor hx hb dL_law_1168 ?_
  refine lv_aload_n hx hb dL_law_1169 rfl (lv_at hl 0 rfl) ?_
  refine lv_iload hx hb dL_law_1170 (lv_at hl 4 rfl) ?_
  refine lv_iconst (v := 3) hx hb dL_law_1172 (by decide) ?_
  refine lv_iadd hx hb dL_law_1173 ?_
  refine va_sld hx hb hX hbl hbA hG.2.2.2.1 (hI 3 (by decide)) dL_law_1174 ?_
  refine lv_i2l (v := ((xs (v4 + 3).toNatClampNeg)).toInt64) hx hb dL_law_1175 rfl ?_
  refine lv_bipush (v := 32) hx hb dL_law_1176 (by decide) ?_
  refine lv_lshl (v := (((xs (v4 + 3).toNatClampNeg)).toInt64 <<< ((32 : Int32).toInt64 &&& 63))) hx hb dL_law_1178 rfl ?_
  refine lv_aload_n hx hb dL_law_1179 rfl (lv_at hl 0 rfl) ?_
  refine lv_iload hx hb dL_law_1180 (lv_at hl 4 rfl) ?_
  refine lv_iconst (v := 4) hx hb dL_law_1182 (by decide) ?_
  refine lv_iadd hx hb dL_law_1183 ?_
  refine va_sld hx hb hX hbl hbA hG.2.2.2.1 (hI 4 (by decide)) dL_law_1184 ?_
  refine lv_i2l (v := ((xs (v4 + 4).toNatClampNeg)).toInt64) hx hb dL_law_1185 rfl ?_
  refine lv_ldc2 (v := 4294967295) hx hb hown hL67 dL_law_1186 ?_
  refine lv_land hx hb dL_law_1189 ?_
  refine lv_lor hx hb dL_law_1190 ?_
  refine lv_aload_n hx hb dL_law_1191 rfl (lv_at hl 3 rfl) ?_
  refine G_h (As := [.ref h0, .long ((((xs (v4 + 1).toNatClampNeg)).toInt64 <<< ((32 : Int32).toInt64 &&& 63)) ||| (((xs (v4 + 2).toNatClampNeg)).toInt64 &&& 4294967295)), .long ((((xs (v4 + 3).toNatClampNeg)).toInt64 <<< ((32 : Int32).toInt64 &&& 63)) ||| (((xs (v4 + 4).toNatClampNeg)).toInt64 &&& 4294967295)), .ref qo]) (rest := []) ⟨hx, hb, hml, hown, hts⟩ (mL_place l hst D cJ h0 a1 a2 a3 a4 a5 a6 tC tS qo H.size u f ((((xs (v4 + 1).toNatClampNeg)).toInt64 <<< ((32 : Int32).toInt64 &&& 63)) ||| (((xs (v4 + 2).toNatClampNeg)).toInt64 &&& 4294967295)) ((((xs (v4 + 3).toNatClampNeg)).toInt64 <<< ((32 : Int32).toInt64 &&& 63)) ||| (((xs (v4 + 4).toNatClampNeg)).toInt64 &&& 4294967295)) _) (vx_cwSW 4 hts tc_L_place rfl rfl rfl (by decide +kernel) ⟨Nat.le_of_ble_eq_true rfl, Nat.le_of_ble_eq_true rfl⟩) hG hw rfl hl.1 rfl (Nat.le_of_ble_eq_true rfl) dL_law_1192 ⟨hc, hs⟩ (fun r w H locs hw hG => ?_)
  refine lv_istore (lv' := [(5, .int r), (0, .ref b), (1, .ref h0), (2, .ref k0), (3, .ref qo), (4, .int v4)]) hx hb dL_law_1195 hl (by decide) rfl (fun ls hl => ?_)
  refine lv_aload_n hx hb dL_law_1197 rfl (lv_at hl 3 rfl) ?_
  refine lv_aload_n hx hb dL_law_1198 rfl (lv_at hl 1 rfl) ?_
  refine lv_iload hx hb dL_law_1199 (lv_at hl 5 rfl) ?_
  refine lv_iconst (v := 1) hx hb dL_law_1201 (by decide) ?_
  refine lv_iadd hx hb dL_law_1202 ?_
  refine va_sld hx hb hX hbl hbA hG.2.2.2.1 (hI 1 (by decide)) dL_law_1203 ?_
  refine lv_i2l (v := ((xs (v4 + 1).toNatClampNeg)).toInt64) hx hb dL_law_1204 rfl ?_
  refine lv_bipush (v := 32) hx hb dL_law_1205 (by decide) ?_
  refine lv_lshl (v := (((xs (v4 + 1).toNatClampNeg)).toInt64 <<< ((32 : Int32).toInt64 &&& 63))) hx hb dL_law_1207 rfl ?_
  refine lv_aload_n hx hb dL_law_1208 rfl (lv_at hl 1 rfl) ?_
  refine lv_iload hx hb dL_law_1209 (lv_at hl 5 rfl) ?_
  refine lv_iconst (v := 2) hx hb dL_law_1211 (by decide) ?_
  refine lv_iadd hx hb dL_law_1212 ?_
  refine va_sld hx hb hX hbl hbA hG.2.2.2.1 (hI 2 (by decide)) dL_law_1213 ?_
  refine lv_i2l (v := ((xs (v4 + 2).toNatClampNeg)).toInt64) hx hb dL_law_1214 rfl ?_
  refine lv_ldc2 (v := 4294967295) hx hb hown hL67 dL_law_1215 ?_
  refine lv_land hx hb dL_law_1218 ?_
  refine lv_lor hx hb dL_law_1219 ?_
  refine lv_aload_n hx hb dL_law_1220 rfl (lv_at hl 1 rfl) ?_
  refine lv_iload hx hb dL_law_1221 (lv_at hl 5 rfl) ?_
  refine lv_iconst (v := 3) hx hb dL_law_1223 (by decide) ?_
  refine lv_iadd hx hb dL_law_1224 ?_
  refine va_sld hx hb hX hbl hbA hG.2.2.2.1 (hI 3 (by decide)) dL_law_1225 ?_
  refine lv_i2l (v := ((xs (v4 + 3).toNatClampNeg)).toInt64) hx hb dL_law_1226 rfl ?_
  refine lv_bipush (v := 32) hx hb dL_law_1227 (by decide) ?_
  refine lv_lshl (v := (((xs (v4 + 3).toNatClampNeg)).toInt64 <<< ((32 : Int32).toInt64 &&& 63))) hx hb dL_law_1229 rfl ?_
  refine lv_aload_n hx hb dL_law_1230 rfl (lv_at hl 1 rfl) ?_
  refine lv_iload hx hb dL_law_1231 (lv_at hl 5 rfl) ?_
  refine lv_iconst (v := 4) hx hb dL_law_1233 (by decide) ?_
  refine lv_iadd hx hb dL_law_1234 ?_
  refine va_sld hx hb hX hbl hbA hG.2.2.2.1 (hI 4 (by decide)) dL_law_1235 ?_
  refine lv_i2l (v := ((xs (v4 + 4).toNatClampNeg)).toInt64) hx hb dL_law_1236 rfl ?_
  refine lv_ldc2 (v := 4294967295) hx hb hown hL67 dL_law_1237 ?_
  refine lv_land hx hb dL_law_1240 ?_
  refine lv_lor hx hb dL_law_1241 ?_
  refine G_i (As := [.long ((((xs (v4 + 1).toNatClampNeg)).toInt64 <<< ((32 : Int32).toInt64 &&& 63)) ||| (((xs (v4 + 2).toNatClampNeg)).toInt64 &&& 4294967295)), .long ((((xs (v4 + 3).toNatClampNeg)).toInt64 <<< ((32 : Int32).toInt64 &&& 63)) ||| (((xs (v4 + 4).toNatClampNeg)).toInt64 &&& 4294967295))]) (rest := []) ⟨hx, hb, hml, hown, hts⟩ (mX1_place l D cI cJ k0 b1 b2 b3 b4 b5 b6 b7 b8 H.size y ((((xs (v4 + 1).toNatClampNeg)).toInt64 <<< ((32 : Int32).toInt64 &&& 63)) ||| (((xs (v4 + 2).toNatClampNeg)).toInt64 &&& 4294967295)) ((((xs (v4 + 3).toNatClampNeg)).toInt64 <<< ((32 : Int32).toInt64 &&& 63)) ||| (((xs (v4 + 4).toNatClampNeg)).toInt64 &&& 4294967295)) _) (cwV 2 hts tc_X1_place rfl rfl rfl (by decide +kernel) ⟨Nat.le_of_ble_eq_true rfl, Nat.le_of_ble_eq_true rfl⟩) hG hw rfl hl.1 rfl (Nat.le_of_ble_eq_true rfl) dL_law_1242 ⟨by first | exact hc | exact Nat.le_of_succ_le hc, by first | exact hs | exact Nat.le_trans (Nat.le_add_right _ 6) hs⟩ (fun r1 y2 H locs hw hG => ?_)
  refine lv_istore (lv' := [(6, .int r1), (5, .int r), (0, .ref b), (1, .ref h0), (2, .ref k0), (3, .ref qo), (4, .int v4)]) hx hb dL_law_1245 hl (by decide) rfl (fun ls hl => ?_)
  refine lv_aload_n hx hb dL_law_1247 rfl (lv_at hl 4 rfl) ?_
  refine pc_Vi (As := []) (rest := []) ⟨hx, hb, hml, hown, hts⟩ (mX1_thrown l D cI cJ k0 b1 b2 b3 b4 b5 b6 b7 b8 y2 _) (cwV 0 hts tc_X1_thrown rfl rfl rfl (by decide +kernel) ⟨Nat.le_of_ble_eq_true rfl, Nat.le_of_ble_eq_true rfl⟩) (wY_rc hG.toYW) wY_bl (wY_in hG.toYW hw) rfl hl.1 rfl (Nat.le_of_ble_eq_true rfl) dL_law_1248 ⟨by first | exact hc | exact Nat.le_of_succ_le hc, by first | exact hs | exact Nat.le_trans (Nat.le_add_right _ 6) hs⟩ (fun r3 hw => ?_)
  refine lv_iload hx hb dL_law_1251 (lv_at hl 1 rfl) ?_
  refine lv_icmp_eq (tgt := 1258) hx hb dL_law_1253 (by decide) (fun c4 => ?_) (fun c4 => ?_)
  · have hw := hw.1 c4
    refine lv_iload hx hb dL_law_1258 (lv_at hl 1 rfl) ?_
    refine lv_if_ne (tgt := 1275) hx hb dL_law_1260 (by decide) (fun c5 => ?_) (fun c5 => ?_)
    · have hw := hw.2 c5
      refine lv_goto (tgt := 1661) hx hb dL_law_1275 (by decide) ?_
      refine W.widen (k := cells + 1) (n := slots + 6) (by omega) (by omega) ?_
      exact hback w.1 w.2 y2 _ _ ls (lv_sub hl [2, 3, 4, 5, 6] rfl) hG hw
    · have hw := hw.1 c5
      refine lv_aload_n hx hb dL_law_1263 rfl (lv_at hl 5 rfl) ?_
      refine lv_iconst (v := 0) hx hb dL_law_1264 (by decide) ?_
      refine va_lald hx hb hG.2.1 hG.1 0 1 rfl rfl (by unfold vp_in; decide) dL_law_1265 ?_
      rw [show Int32.toNatClampNeg 0 = 0 from by decide]
      refine lv_iload hx hb dL_law_1266 (lv_at hl 0 rfl) ?_
      refine lv_i2l (v := (r1).toInt64) hx hb dL_law_1268 rfl ?_
      refine bl_eq (tgt := 1275) hx hb dL_law_1269 dL_law_1270 (by decide) (fun c6 => ?_) (fun c6 => ?_)
      · have hw := hw.1 c6
        refine lv_goto (tgt := 1661) hx hb dL_law_1275 (by decide) ?_
        refine W.widen (k := cells + 1) (n := slots + 6) (by omega) (by omega) ?_
        exact hback w.1 w.2 y2 _ _ ls (lv_sub hl [2, 3, 4, 5, 6] rfl) hG hw
      · have hw := hw.2 c6
        refine lv_iconst (v := 0) hx hb dL_law_1273 (by decide) ?_
        exact hw.elim
  · have hw := hw.2 c4
    refine lv_iconst (v := 0) hx hb dL_law_1256 (by decide) ?_
    exact hw.elim
def wL_c9 (ex : XS → (Nat → Int64) → YS → Prop) (xs : Nat → Int32) (v4 : Int32) (u : XS) (f : Nat → Int64) (y : YS) : Prop := (wL_depth (fun r w => (wX1_depth (fun r1 y2 => (wX1_thrown (fun r3 => ((r3 = r → ((r = 0 → (((w.2 0) = r1 → (ex w.1 w.2 y2)) ∧ (¬ (w.2 0) = r1 → False))) ∧ (¬ r = 0 → (ex w.1 w.2 y2)))) ∧ (¬ r3 = r → False))) y2)) y (xs (v4 + 1).toNatClampNeg) ((((xs (v4 + 2).toNatClampNeg)).toInt64 <<< ((32 : Int32).toInt64 &&& 63)) ||| (((xs (v4 + 3).toNatClampNeg)).toInt64 &&& 4294967295)))) u f (xs (v4 + 1).toNatClampNeg) ((((xs (v4 + 2).toNatClampNeg)).toInt64 <<< ((32 : Int32).toInt64 &&& 63)) ||| (((xs (v4 + 3).toNatClampNeg)).toInt64 &&& 4294967295)))
set_option maxHeartbeats 4000000 in
set_option maxRecDepth 100000 in
theorem kL_c9 {p : Program} {l : Launch} {e : Env} {s : State} {m : MethodId} {below : List Frame} {meth : Method} {c : Code} {b L : Nat} {xs : Nat → Int32} {D : va_G} {cI cJ : ClassId} {h0 a1 a2 a3 a4 a5 a6 k0 b1 b2 b3 b4 b5 b6 b7 b8 tC tS qo : Nat} (hst : l.stackTraces = false) (hx : p.tables.exec = Jvm.exec) (hb : c.code = cL_law) (hml : c.maxLocals = 8) (hown : s.vm.findClass RL = some m.cls) (hts : ∀ w ∈ lw_tbl, w.before #[Value.ref b] s = true) (hX : va_X b L xs s s.heap) (hbl : b < s.heap.size) (v4 : Int32) (hI : ∀ k : Nat, k < 8 → vp_in (v4 + Int32.ofNat k) L) {cells slots : Nat} (hc : cells + 1 ≤ 1064) (hs : slots + 6 ≤ 8696) {ex : XS → (Nat → Int64) → YS → Prop}
    (hback : ∀ (u : XS) (f : Nat → Int64) (y : YS) (H : Heap) (locs : List Loc) (ls : Array Slot), lv_has ls 8 [(0, .ref b), (1, .ref h0), (2, .ref k0), (3, .ref qo), (4, .int v4)] → GW D cI cJ h0 a1 a2 a3 a4 a5 a6 k0 b1 b2 b3 b4 b5 b6 b7 b8 tC tS qo u f y s H locs → ex u f y → W p l e room_1 s m #[Value.ref b] below meth c H locs (cells + 1) (slots + 6) (lw_Z below #[Value.ref b] s) (F0 m 1661 ls []))
    (u : XS) (f : Nat → Int64) (y : YS) (H : Heap) (locs : List Loc) (ls : Array Slot) (hl : lv_has ls 8 [(0, .ref b), (1, .ref h0), (2, .ref k0), (3, .ref qo), (4, .int v4)]) (hG : GW D cI cJ h0 a1 a2 a3 a4 a5 a6 k0 b1 b2 b3 b4 b5 b6 b7 b8 tC tS qo u f y s H locs) (hw : wL_c9 ex xs v4 u f y) : W p l e room_1 s m #[Value.ref b] below meth c H locs cells slots (lw_Z below #[Value.ref b] s) (F0 m 1278 ls []) := by
  have hbA : ¬ (fun q : Nat => s.heap.size ≤ q) b := Nat.not_le.mpr hbl
  have hL67 : (Cond.constantLong RL 67 4294967295).before #[Value.ref b] s = true := hts _ tl_67
  unfold wL_c9 at hw
  refine lv_aload_n hx hb dL_law_1278 rfl (lv_at hl 1 rfl) ?_
  refine lv_aload_n hx hb dL_law_1279 rfl (lv_at hl 0 rfl) ?_
  refine lv_iload hx hb dL_law_1280 (lv_at hl 4 rfl) ?_
  refine lv_iconst (v := 1) hx hb dL_law_1282 (by decide) ?_
  refine lv_iadd hx hb dL_law_1283 ?_
  refine va_sld hx hb hX hbl hbA hG.2.2.2.1 (hI 1 (by decide)) dL_law_1284 ?_
  refine lv_aload_n hx hb dL_law_1285 rfl (lv_at hl 0 rfl) ?_
  refine lv_iload hx hb dL_law_1286 (lv_at hl 4 rfl) ?_
  refine lv_iconst (v := 2) hx hb dL_law_1288 (by decide) ?_
  refine lv_iadd hx hb dL_law_1289 ?_
  refine va_sld hx hb hX hbl hbA hG.2.2.2.1 (hI 2 (by decide)) dL_law_1290 ?_
  refine lv_i2l (v := ((xs (v4 + 2).toNatClampNeg)).toInt64) hx hb dL_law_1291 rfl ?_
  refine lv_bipush (v := 32) hx hb dL_law_1292 (by decide) ?_
  refine lv_lshl (v := (((xs (v4 + 2).toNatClampNeg)).toInt64 <<< ((32 : Int32).toInt64 &&& 63))) hx hb dL_law_1294 rfl ?_
  refine lv_aload_n hx hb dL_law_1295 rfl (lv_at hl 0 rfl) ?_
  refine lv_iload hx hb dL_law_1296 (lv_at hl 4 rfl) ?_
  refine lv_iconst (v := 3) hx hb dL_law_1298 (by decide) ?_
  refine lv_iadd hx hb dL_law_1299 ?_
  refine va_sld hx hb hX hbl hbA hG.2.2.2.1 (hI 3 (by decide)) dL_law_1300 ?_
  refine lv_i2l (v := ((xs (v4 + 3).toNatClampNeg)).toInt64) hx hb dL_law_1301 rfl ?_
  refine lv_ldc2 (v := 4294967295) hx hb hown hL67 dL_law_1302 ?_
  refine lv_land hx hb dL_law_1305 ?_
  refine lv_lor hx hb dL_law_1306 ?_
  refine lv_aload_n hx hb dL_law_1307 rfl (lv_at hl 3 rfl) ?_
  refine G_h (As := [.ref h0, .int (xs (v4 + 1).toNatClampNeg), .long ((((xs (v4 + 2).toNatClampNeg)).toInt64 <<< ((32 : Int32).toInt64 &&& 63)) ||| (((xs (v4 + 3).toNatClampNeg)).toInt64 &&& 4294967295)), .ref qo]) (rest := []) ⟨hx, hb, hml, hown, hts⟩ (mL_depth l hst D cJ h0 a1 a2 a3 a4 a5 a6 tC tS qo H.size u f (xs (v4 + 1).toNatClampNeg) ((((xs (v4 + 2).toNatClampNeg)).toInt64 <<< ((32 : Int32).toInt64 &&& 63)) ||| (((xs (v4 + 3).toNatClampNeg)).toInt64 &&& 4294967295)) _) (vx_cwSW 4 hts tc_L_depth rfl rfl rfl (by decide +kernel) ⟨Nat.le_of_ble_eq_true rfl, Nat.le_of_ble_eq_true rfl⟩) hG hw rfl hl.1 rfl (Nat.le_of_ble_eq_true rfl) dL_law_1308 ⟨hc, hs⟩ (fun r w H locs hw hG => ?_)
  refine lv_istore (lv' := [(5, .int r), (0, .ref b), (1, .ref h0), (2, .ref k0), (3, .ref qo), (4, .int v4)]) hx hb dL_law_1311 hl (by decide) rfl (fun ls hl => ?_)
  refine lv_aload_n hx hb dL_law_1313 rfl (lv_at hl 3 rfl) ?_
  refine lv_aload_n hx hb dL_law_1314 rfl (lv_at hl 1 rfl) ?_
  refine lv_iload hx hb dL_law_1315 (lv_at hl 5 rfl) ?_
  refine lv_iconst (v := 1) hx hb dL_law_1317 (by decide) ?_
  refine lv_iadd hx hb dL_law_1318 ?_
  refine va_sld hx hb hX hbl hbA hG.2.2.2.1 (hI 1 (by decide)) dL_law_1319 ?_
  refine lv_aload_n hx hb dL_law_1320 rfl (lv_at hl 1 rfl) ?_
  refine lv_iload hx hb dL_law_1321 (lv_at hl 5 rfl) ?_
  refine lv_iconst (v := 2) hx hb dL_law_1323 (by decide) ?_
  refine lv_iadd hx hb dL_law_1324 ?_
  refine va_sld hx hb hX hbl hbA hG.2.2.2.1 (hI 2 (by decide)) dL_law_1325 ?_
  refine lv_i2l (v := ((xs (v4 + 2).toNatClampNeg)).toInt64) hx hb dL_law_1326 rfl ?_
  refine lv_bipush (v := 32) hx hb dL_law_1327 (by decide) ?_
  refine lv_lshl (v := (((xs (v4 + 2).toNatClampNeg)).toInt64 <<< ((32 : Int32).toInt64 &&& 63))) hx hb dL_law_1329 rfl ?_
  refine lv_aload_n hx hb dL_law_1330 rfl (lv_at hl 1 rfl) ?_
  refine lv_iload hx hb dL_law_1331 (lv_at hl 5 rfl) ?_
  refine lv_iconst (v := 3) hx hb dL_law_1333 (by decide) ?_
  refine lv_iadd hx hb dL_law_1334 ?_
  refine va_sld hx hb hX hbl hbA hG.2.2.2.1 (hI 3 (by decide)) dL_law_1335 ?_
  refine lv_i2l (v := ((xs (v4 + 3).toNatClampNeg)).toInt64) hx hb dL_law_1336 rfl ?_
  refine lv_ldc2 (v := 4294967295) hx hb hown hL67 dL_law_1337 ?_
  refine lv_land hx hb dL_law_1340 ?_
  refine lv_lor hx hb dL_law_1341 ?_
  refine G_l (As := [.int (xs (v4 + 1).toNatClampNeg), .long ((((xs (v4 + 2).toNatClampNeg)).toInt64 <<< ((32 : Int32).toInt64 &&& 63)) ||| (((xs (v4 + 3).toNatClampNeg)).toInt64 &&& 4294967295))]) (rest := []) ⟨hx, hb, hml, hown, hts⟩ (mX1_depth l D cI cJ k0 b1 b2 b3 b4 b5 b6 b7 b8 H.size y (xs (v4 + 1).toNatClampNeg) ((((xs (v4 + 2).toNatClampNeg)).toInt64 <<< ((32 : Int32).toInt64 &&& 63)) ||| (((xs (v4 + 3).toNatClampNeg)).toInt64 &&& 4294967295)) _) (cwV 2 hts tc_X1_depth rfl rfl rfl (by decide +kernel) ⟨Nat.le_of_ble_eq_true rfl, Nat.le_of_ble_eq_true rfl⟩) hG hw rfl hl.1 rfl (Nat.le_of_ble_eq_true rfl) dL_law_1342 ⟨by first | exact hc | exact Nat.le_of_succ_le hc, by first | exact hs | exact Nat.le_trans (Nat.le_add_right _ 6) hs⟩ (fun r1 y2 H locs hw hG => ?_)
  refine lv_lstore (lv' := [(6, .long r1), (5, .int r), (0, .ref b), (1, .ref h0), (2, .ref k0), (3, .ref qo), (4, .int v4)]) hx hb dL_law_1345 hl (by decide) rfl (fun ls hl => ?_)
  refine lv_aload_n hx hb dL_law_1347 rfl (lv_at hl 4 rfl) ?_
  refine pc_Vi (As := []) (rest := []) ⟨hx, hb, hml, hown, hts⟩ (mX1_thrown l D cI cJ k0 b1 b2 b3 b4 b5 b6 b7 b8 y2 _) (cwV 0 hts tc_X1_thrown rfl rfl rfl (by decide +kernel) ⟨Nat.le_of_ble_eq_true rfl, Nat.le_of_ble_eq_true rfl⟩) (wY_rc hG.toYW) wY_bl (wY_in hG.toYW hw) rfl hl.1 rfl (Nat.le_of_ble_eq_true rfl) dL_law_1348 ⟨by first | exact hc | exact Nat.le_of_succ_le hc, by first | exact hs | exact Nat.le_trans (Nat.le_add_right _ 6) hs⟩ (fun r3 hw => ?_)
  refine lv_iload hx hb dL_law_1351 (lv_at hl 1 rfl) ?_
  refine lv_icmp_eq (tgt := 1358) hx hb dL_law_1353 (by decide) (fun c4 => ?_) (fun c4 => ?_)
  · have hw := hw.1 c4
    refine lv_iload hx hb dL_law_1358 (lv_at hl 1 rfl) ?_
    refine lv_if_ne (tgt := 1374) hx hb dL_law_1360 (by decide) (fun c5 => ?_) (fun c5 => ?_)
    · have hw := hw.2 c5
      refine lv_goto (tgt := 1661) hx hb dL_law_1374 (by decide) ?_
      refine W.widen (k := cells + 1) (n := slots + 6) (by omega) (by omega) ?_
      exact hback w.1 w.2 y2 _ _ ls (lv_sub hl [2, 3, 4, 5, 6] rfl) hG hw
    · have hw := hw.1 c5
      refine lv_aload_n hx hb dL_law_1363 rfl (lv_at hl 5 rfl) ?_
      refine lv_iconst (v := 0) hx hb dL_law_1364 (by decide) ?_
      refine va_lald hx hb hG.2.1 hG.1 0 1 rfl rfl (by unfold vp_in; decide) dL_law_1365 ?_
      rw [show Int32.toNatClampNeg 0 = 0 from by decide]
      refine lv_lload hx hb dL_law_1366 (lv_at hl 0 rfl) ?_
      refine bl_eq (tgt := 1374) hx hb dL_law_1368 dL_law_1369 (by decide) (fun c6 => ?_) (fun c6 => ?_)
      · have hw := hw.1 c6
        refine lv_goto (tgt := 1661) hx hb dL_law_1374 (by decide) ?_
        refine W.widen (k := cells + 1) (n := slots + 6) (by omega) (by omega) ?_
        exact hback w.1 w.2 y2 _ _ ls (lv_sub hl [2, 3, 4, 5, 6] rfl) hG hw
      · have hw := hw.2 c6
        refine lv_iconst (v := 0) hx hb dL_law_1372 (by decide) ?_
        exact hw.elim
  · have hw := hw.2 c4
    refine lv_iconst (v := 0) hx hb dL_law_1356 (by decide) ?_
    exact hw.elim
def wL_c10 (ex : XS → (Nat → Int64) → YS → Prop) (xs : Nat → Int32) (v4 : Int32) (u : XS) (f : Nat → Int64) (y : YS) : Prop := (wL_sail (fun r w => (wX1_sail (fun r1 y2 => (wX1_thrown (fun r3 => ((r3 = r → ((r = 0 → (((w.2 0) = (r1).toInt64 → (ex w.1 w.2 y2)) ∧ (¬ (w.2 0) = (r1).toInt64 → False))) ∧ (¬ r = 0 → (ex w.1 w.2 y2)))) ∧ (¬ r3 = r → False))) y2)) y ((((xs (v4 + 1).toNatClampNeg)).toInt64 <<< ((32 : Int32).toInt64 &&& 63)) ||| (((xs (v4 + 2).toNatClampNeg)).toInt64 &&& 4294967295)) ((((xs (v4 + 3).toNatClampNeg)).toInt64 <<< ((32 : Int32).toInt64 &&& 63)) ||| (((xs (v4 + 4).toNatClampNeg)).toInt64 &&& 4294967295)) ((((xs (v4 + 5).toNatClampNeg)).toInt64 <<< ((32 : Int32).toInt64 &&& 63)) ||| (((xs (v4 + 6).toNatClampNeg)).toInt64 &&& 4294967295)) (xs (v4 + 7).toNatClampNeg))) u f ((((xs (v4 + 1).toNatClampNeg)).toInt64 <<< ((32 : Int32).toInt64 &&& 63)) ||| (((xs (v4 + 2).toNatClampNeg)).toInt64 &&& 4294967295)) ((((xs (v4 + 3).toNatClampNeg)).toInt64 <<< ((32 : Int32).toInt64 &&& 63)) ||| (((xs (v4 + 4).toNatClampNeg)).toInt64 &&& 4294967295)) ((((xs (v4 + 5).toNatClampNeg)).toInt64 <<< ((32 : Int32).toInt64 &&& 63)) ||| (((xs (v4 + 6).toNatClampNeg)).toInt64 &&& 4294967295)) (xs (v4 + 7).toNatClampNeg))
set_option maxHeartbeats 4000000 in
set_option maxRecDepth 100000 in
theorem kL_c10 {p : Program} {l : Launch} {e : Env} {s : State} {m : MethodId} {below : List Frame} {meth : Method} {c : Code} {b L : Nat} {xs : Nat → Int32} {D : va_G} {cI cJ : ClassId} {h0 a1 a2 a3 a4 a5 a6 k0 b1 b2 b3 b4 b5 b6 b7 b8 tC tS qo : Nat} (hst : l.stackTraces = false) (hx : p.tables.exec = Jvm.exec) (hb : c.code = cL_law) (hml : c.maxLocals = 8) (hown : s.vm.findClass RL = some m.cls) (hts : ∀ w ∈ lw_tbl, w.before #[Value.ref b] s = true) (hX : va_X b L xs s s.heap) (hbl : b < s.heap.size) (v4 : Int32) (hI : ∀ k : Nat, k < 8 → vp_in (v4 + Int32.ofNat k) L) {cells slots : Nat} (hc : cells + 1 ≤ 1064) (hs : slots + 6 ≤ 8696) {ex : XS → (Nat → Int64) → YS → Prop}
    (hback : ∀ (u : XS) (f : Nat → Int64) (y : YS) (H : Heap) (locs : List Loc) (ls : Array Slot), lv_has ls 8 [(0, .ref b), (1, .ref h0), (2, .ref k0), (3, .ref qo), (4, .int v4)] → GW D cI cJ h0 a1 a2 a3 a4 a5 a6 k0 b1 b2 b3 b4 b5 b6 b7 b8 tC tS qo u f y s H locs → ex u f y → W p l e room_1 s m #[Value.ref b] below meth c H locs (cells + 1) (slots + 6) (lw_Z below #[Value.ref b] s) (F0 m 1661 ls []))
    (u : XS) (f : Nat → Int64) (y : YS) (H : Heap) (locs : List Loc) (ls : Array Slot) (hl : lv_has ls 8 [(0, .ref b), (1, .ref h0), (2, .ref k0), (3, .ref qo), (4, .int v4)]) (hG : GW D cI cJ h0 a1 a2 a3 a4 a5 a6 k0 b1 b2 b3 b4 b5 b6 b7 b8 tC tS qo u f y s H locs) (hw : wL_c10 ex xs v4 u f y) : W p l e room_1 s m #[Value.ref b] below meth c H locs cells slots (lw_Z below #[Value.ref b] s) (F0 m 1377 ls []) := by
  have hbA : ¬ (fun q : Nat => s.heap.size ≤ q) b := Nat.not_le.mpr hbl
  have hL67 : (Cond.constantLong RL 67 4294967295).before #[Value.ref b] s = true := hts _ tl_67
  unfold wL_c10 at hw
  refine lv_aload_n hx hb dL_law_1377 rfl (lv_at hl 1 rfl) ?_
  refine lv_aload_n hx hb dL_law_1378 rfl (lv_at hl 0 rfl) ?_
  refine lv_iload hx hb dL_law_1379 (lv_at hl 4 rfl) ?_
  refine lv_iconst (v := 1) hx hb dL_law_1381 (by decide) ?_
  refine lv_iadd hx hb dL_law_1382 ?_
  refine va_sld hx hb hX hbl hbA hG.2.2.2.1 (hI 1 (by decide)) dL_law_1383 ?_
  refine lv_i2l (v := ((xs (v4 + 1).toNatClampNeg)).toInt64) hx hb dL_law_1384 rfl ?_
  refine lv_bipush (v := 32) hx hb dL_law_1385 (by decide) ?_
  refine lv_lshl (v := (((xs (v4 + 1).toNatClampNeg)).toInt64 <<< ((32 : Int32).toInt64 &&& 63))) hx hb dL_law_1387 rfl ?_
  refine lv_aload_n hx hb dL_law_1388 rfl (lv_at hl 0 rfl) ?_
  refine lv_iload hx hb dL_law_1389 (lv_at hl 4 rfl) ?_
  refine lv_iconst (v := 2) hx hb dL_law_1391 (by decide) ?_
  refine lv_iadd hx hb dL_law_1392 ?_
  refine va_sld hx hb hX hbl hbA hG.2.2.2.1 (hI 2 (by decide)) dL_law_1393 ?_
  refine lv_i2l (v := ((xs (v4 + 2).toNatClampNeg)).toInt64) hx hb dL_law_1394 rfl ?_
  refine lv_ldc2 (v := 4294967295) hx hb hown hL67 dL_law_1395 ?_
  refine lv_land hx hb dL_law_1398 ?_
  refine lv_lor hx hb dL_law_1399 ?_
  refine lv_aload_n hx hb dL_law_1400 rfl (lv_at hl 0 rfl) ?_
  refine lv_iload hx hb dL_law_1401 (lv_at hl 4 rfl) ?_
  refine lv_iconst (v := 3) hx hb dL_law_1403 (by decide) ?_
  refine lv_iadd hx hb dL_law_1404 ?_
  refine va_sld hx hb hX hbl hbA hG.2.2.2.1 (hI 3 (by decide)) dL_law_1405 ?_
  refine lv_i2l (v := ((xs (v4 + 3).toNatClampNeg)).toInt64) hx hb dL_law_1406 rfl ?_
  refine lv_bipush (v := 32) hx hb dL_law_1407 (by decide) ?_
  refine lv_lshl (v := (((xs (v4 + 3).toNatClampNeg)).toInt64 <<< ((32 : Int32).toInt64 &&& 63))) hx hb dL_law_1409 rfl ?_
  refine lv_aload_n hx hb dL_law_1410 rfl (lv_at hl 0 rfl) ?_
  refine lv_iload hx hb dL_law_1411 (lv_at hl 4 rfl) ?_
  refine lv_iconst (v := 4) hx hb dL_law_1413 (by decide) ?_
  refine lv_iadd hx hb dL_law_1414 ?_
  refine va_sld hx hb hX hbl hbA hG.2.2.2.1 (hI 4 (by decide)) dL_law_1415 ?_
  refine lv_i2l (v := ((xs (v4 + 4).toNatClampNeg)).toInt64) hx hb dL_law_1416 rfl ?_
  refine lv_ldc2 (v := 4294967295) hx hb hown hL67 dL_law_1417 ?_
  refine lv_land hx hb dL_law_1420 ?_
  refine lv_lor hx hb dL_law_1421 ?_
  refine lv_aload_n hx hb dL_law_1422 rfl (lv_at hl 0 rfl) ?_
  refine lv_iload hx hb dL_law_1423 (lv_at hl 4 rfl) ?_
  refine lv_iconst (v := 5) hx hb dL_law_1425 (by decide) ?_
  refine lv_iadd hx hb dL_law_1426 ?_
  refine va_sld hx hb hX hbl hbA hG.2.2.2.1 (hI 5 (by decide)) dL_law_1427 ?_
  refine lv_i2l (v := ((xs (v4 + 5).toNatClampNeg)).toInt64) hx hb dL_law_1428 rfl ?_
  refine lv_bipush (v := 32) hx hb dL_law_1429 (by decide) ?_
  refine lv_lshl (v := (((xs (v4 + 5).toNatClampNeg)).toInt64 <<< ((32 : Int32).toInt64 &&& 63))) hx hb dL_law_1431 rfl ?_
  refine lv_aload_n hx hb dL_law_1432 rfl (lv_at hl 0 rfl) ?_
  refine lv_iload hx hb dL_law_1433 (lv_at hl 4 rfl) ?_
  refine lv_bipush (v := 6) hx hb dL_law_1435 (by decide) ?_
  refine lv_iadd hx hb dL_law_1437 ?_
  refine va_sld hx hb hX hbl hbA hG.2.2.2.1 (hI 6 (by decide)) dL_law_1438 ?_
  refine lv_i2l (v := ((xs (v4 + 6).toNatClampNeg)).toInt64) hx hb dL_law_1439 rfl ?_
  refine lv_ldc2 (v := 4294967295) hx hb hown hL67 dL_law_1440 ?_
  refine lv_land hx hb dL_law_1443 ?_
  refine lv_lor hx hb dL_law_1444 ?_
  refine lv_aload_n hx hb dL_law_1445 rfl (lv_at hl 0 rfl) ?_
  refine lv_iload hx hb dL_law_1446 (lv_at hl 4 rfl) ?_
  refine lv_bipush (v := 7) hx hb dL_law_1448 (by decide) ?_
  refine lv_iadd hx hb dL_law_1450 ?_
  refine va_sld hx hb hX hbl hbA hG.2.2.2.1 (hI 7 (by decide)) dL_law_1451 ?_
  refine lv_aload_n hx hb dL_law_1452 rfl (lv_at hl 3 rfl) ?_
  refine G_h (As := [.ref h0, .long ((((xs (v4 + 1).toNatClampNeg)).toInt64 <<< ((32 : Int32).toInt64 &&& 63)) ||| (((xs (v4 + 2).toNatClampNeg)).toInt64 &&& 4294967295)), .long ((((xs (v4 + 3).toNatClampNeg)).toInt64 <<< ((32 : Int32).toInt64 &&& 63)) ||| (((xs (v4 + 4).toNatClampNeg)).toInt64 &&& 4294967295)), .long ((((xs (v4 + 5).toNatClampNeg)).toInt64 <<< ((32 : Int32).toInt64 &&& 63)) ||| (((xs (v4 + 6).toNatClampNeg)).toInt64 &&& 4294967295)), .int (xs (v4 + 7).toNatClampNeg), .ref qo]) (rest := []) ⟨hx, hb, hml, hown, hts⟩ (mL_sail l hst D cJ h0 a1 a2 a3 a4 a5 a6 tC tS qo H.size u f ((((xs (v4 + 1).toNatClampNeg)).toInt64 <<< ((32 : Int32).toInt64 &&& 63)) ||| (((xs (v4 + 2).toNatClampNeg)).toInt64 &&& 4294967295)) ((((xs (v4 + 3).toNatClampNeg)).toInt64 <<< ((32 : Int32).toInt64 &&& 63)) ||| (((xs (v4 + 4).toNatClampNeg)).toInt64 &&& 4294967295)) ((((xs (v4 + 5).toNatClampNeg)).toInt64 <<< ((32 : Int32).toInt64 &&& 63)) ||| (((xs (v4 + 6).toNatClampNeg)).toInt64 &&& 4294967295)) (xs (v4 + 7).toNatClampNeg) _) (vx_cwSW 6 hts tc_L_sail rfl rfl rfl (by decide +kernel) ⟨Nat.le_of_ble_eq_true rfl, Nat.le_of_ble_eq_true rfl⟩) hG hw rfl hl.1 rfl (Nat.le_of_ble_eq_true rfl) dL_law_1453 ⟨hc, hs⟩ (fun r w H locs hw hG => ?_)
  refine lv_istore (lv' := [(5, .int r), (0, .ref b), (1, .ref h0), (2, .ref k0), (3, .ref qo), (4, .int v4)]) hx hb dL_law_1456 hl (by decide) rfl (fun ls hl => ?_)
  refine lv_aload_n hx hb dL_law_1458 rfl (lv_at hl 3 rfl) ?_
  refine lv_aload_n hx hb dL_law_1459 rfl (lv_at hl 1 rfl) ?_
  refine lv_iload hx hb dL_law_1460 (lv_at hl 5 rfl) ?_
  refine lv_iconst (v := 1) hx hb dL_law_1462 (by decide) ?_
  refine lv_iadd hx hb dL_law_1463 ?_
  refine va_sld hx hb hX hbl hbA hG.2.2.2.1 (hI 1 (by decide)) dL_law_1464 ?_
  refine lv_i2l (v := ((xs (v4 + 1).toNatClampNeg)).toInt64) hx hb dL_law_1465 rfl ?_
  refine lv_bipush (v := 32) hx hb dL_law_1466 (by decide) ?_
  refine lv_lshl (v := (((xs (v4 + 1).toNatClampNeg)).toInt64 <<< ((32 : Int32).toInt64 &&& 63))) hx hb dL_law_1468 rfl ?_
  refine lv_aload_n hx hb dL_law_1469 rfl (lv_at hl 1 rfl) ?_
  refine lv_iload hx hb dL_law_1470 (lv_at hl 5 rfl) ?_
  refine lv_iconst (v := 2) hx hb dL_law_1472 (by decide) ?_
  refine lv_iadd hx hb dL_law_1473 ?_
  refine va_sld hx hb hX hbl hbA hG.2.2.2.1 (hI 2 (by decide)) dL_law_1474 ?_
  refine lv_i2l (v := ((xs (v4 + 2).toNatClampNeg)).toInt64) hx hb dL_law_1475 rfl ?_
  refine lv_ldc2 (v := 4294967295) hx hb hown hL67 dL_law_1476 ?_
  refine lv_land hx hb dL_law_1479 ?_
  refine lv_lor hx hb dL_law_1480 ?_
  refine lv_aload_n hx hb dL_law_1481 rfl (lv_at hl 1 rfl) ?_
  refine lv_iload hx hb dL_law_1482 (lv_at hl 5 rfl) ?_
  refine lv_iconst (v := 3) hx hb dL_law_1484 (by decide) ?_
  refine lv_iadd hx hb dL_law_1485 ?_
  refine va_sld hx hb hX hbl hbA hG.2.2.2.1 (hI 3 (by decide)) dL_law_1486 ?_
  refine lv_i2l (v := ((xs (v4 + 3).toNatClampNeg)).toInt64) hx hb dL_law_1487 rfl ?_
  refine lv_bipush (v := 32) hx hb dL_law_1488 (by decide) ?_
  refine lv_lshl (v := (((xs (v4 + 3).toNatClampNeg)).toInt64 <<< ((32 : Int32).toInt64 &&& 63))) hx hb dL_law_1490 rfl ?_
  refine lv_aload_n hx hb dL_law_1491 rfl (lv_at hl 1 rfl) ?_
  refine lv_iload hx hb dL_law_1492 (lv_at hl 5 rfl) ?_
  refine lv_iconst (v := 4) hx hb dL_law_1494 (by decide) ?_
  refine lv_iadd hx hb dL_law_1495 ?_
  refine va_sld hx hb hX hbl hbA hG.2.2.2.1 (hI 4 (by decide)) dL_law_1496 ?_
  refine lv_i2l (v := ((xs (v4 + 4).toNatClampNeg)).toInt64) hx hb dL_law_1497 rfl ?_
  refine lv_ldc2 (v := 4294967295) hx hb hown hL67 dL_law_1498 ?_
  refine lv_land hx hb dL_law_1501 ?_
  refine lv_lor hx hb dL_law_1502 ?_
  refine lv_aload_n hx hb dL_law_1503 rfl (lv_at hl 1 rfl) ?_
  refine lv_iload hx hb dL_law_1504 (lv_at hl 5 rfl) ?_
  refine lv_iconst (v := 5) hx hb dL_law_1506 (by decide) ?_
  refine lv_iadd hx hb dL_law_1507 ?_
  refine va_sld hx hb hX hbl hbA hG.2.2.2.1 (hI 5 (by decide)) dL_law_1508 ?_
  refine lv_i2l (v := ((xs (v4 + 5).toNatClampNeg)).toInt64) hx hb dL_law_1509 rfl ?_
  refine lv_bipush (v := 32) hx hb dL_law_1510 (by decide) ?_
  refine lv_lshl (v := (((xs (v4 + 5).toNatClampNeg)).toInt64 <<< ((32 : Int32).toInt64 &&& 63))) hx hb dL_law_1512 rfl ?_
  refine lv_aload_n hx hb dL_law_1513 rfl (lv_at hl 1 rfl) ?_
  refine lv_iload hx hb dL_law_1514 (lv_at hl 5 rfl) ?_
  refine lv_bipush (v := 6) hx hb dL_law_1516 (by decide) ?_
  refine lv_iadd hx hb dL_law_1518 ?_
  refine va_sld hx hb hX hbl hbA hG.2.2.2.1 (hI 6 (by decide)) dL_law_1519 ?_
  refine lv_i2l (v := ((xs (v4 + 6).toNatClampNeg)).toInt64) hx hb dL_law_1520 rfl ?_
  refine lv_ldc2 (v := 4294967295) hx hb hown hL67 dL_law_1521 ?_
  refine lv_land hx hb dL_law_1524 ?_
  refine lv_lor hx hb dL_law_1525 ?_
  refine lv_aload_n hx hb dL_law_1526 rfl (lv_at hl 1 rfl) ?_
  refine lv_iload hx hb dL_law_1527 (lv_at hl 5 rfl) ?_
  refine lv_bipush (v := 7) hx hb dL_law_1529 (by decide) ?_
  refine lv_iadd hx hb dL_law_1531 ?_
  refine va_sld hx hb hX hbl hbA hG.2.2.2.1 (hI 7 (by decide)) dL_law_1532 ?_
  refine G_i (As := [.long ((((xs (v4 + 1).toNatClampNeg)).toInt64 <<< ((32 : Int32).toInt64 &&& 63)) ||| (((xs (v4 + 2).toNatClampNeg)).toInt64 &&& 4294967295)), .long ((((xs (v4 + 3).toNatClampNeg)).toInt64 <<< ((32 : Int32).toInt64 &&& 63)) ||| (((xs (v4 + 4).toNatClampNeg)).toInt64 &&& 4294967295)), .long ((((xs (v4 + 5).toNatClampNeg)).toInt64 <<< ((32 : Int32).toInt64 &&& 63)) ||| (((xs (v4 + 6).toNatClampNeg)).toInt64 &&& 4294967295)), .int (xs (v4 + 7).toNatClampNeg)]) (rest := []) ⟨hx, hb, hml, hown, hts⟩ (mX1_sail l D cI cJ k0 b1 b2 b3 b4 b5 b6 b7 b8 H.size y ((((xs (v4 + 1).toNatClampNeg)).toInt64 <<< ((32 : Int32).toInt64 &&& 63)) ||| (((xs (v4 + 2).toNatClampNeg)).toInt64 &&& 4294967295)) ((((xs (v4 + 3).toNatClampNeg)).toInt64 <<< ((32 : Int32).toInt64 &&& 63)) ||| (((xs (v4 + 4).toNatClampNeg)).toInt64 &&& 4294967295)) ((((xs (v4 + 5).toNatClampNeg)).toInt64 <<< ((32 : Int32).toInt64 &&& 63)) ||| (((xs (v4 + 6).toNatClampNeg)).toInt64 &&& 4294967295)) (xs (v4 + 7).toNatClampNeg) _) (cwV 4 hts tc_X1_sail rfl rfl rfl (by decide +kernel) ⟨Nat.le_of_ble_eq_true rfl, Nat.le_of_ble_eq_true rfl⟩) hG hw rfl hl.1 rfl (Nat.le_of_ble_eq_true rfl) dL_law_1533 ⟨by first | exact hc | exact Nat.le_of_succ_le hc, by first | exact hs | exact Nat.le_trans (Nat.le_add_right _ 6) hs⟩ (fun r1 y2 H locs hw hG => ?_)
  refine lv_istore (lv' := [(6, .int r1), (5, .int r), (0, .ref b), (1, .ref h0), (2, .ref k0), (3, .ref qo), (4, .int v4)]) hx hb dL_law_1536 hl (by decide) rfl (fun ls hl => ?_)
  refine lv_aload_n hx hb dL_law_1538 rfl (lv_at hl 4 rfl) ?_
  refine pc_Vi (As := []) (rest := []) ⟨hx, hb, hml, hown, hts⟩ (mX1_thrown l D cI cJ k0 b1 b2 b3 b4 b5 b6 b7 b8 y2 _) (cwV 0 hts tc_X1_thrown rfl rfl rfl (by decide +kernel) ⟨Nat.le_of_ble_eq_true rfl, Nat.le_of_ble_eq_true rfl⟩) (wY_rc hG.toYW) wY_bl (wY_in hG.toYW hw) rfl hl.1 rfl (Nat.le_of_ble_eq_true rfl) dL_law_1539 ⟨by first | exact hc | exact Nat.le_of_succ_le hc, by first | exact hs | exact Nat.le_trans (Nat.le_add_right _ 6) hs⟩ (fun r3 hw => ?_)
  refine lv_iload hx hb dL_law_1542 (lv_at hl 1 rfl) ?_
  refine lv_icmp_eq (tgt := 1549) hx hb dL_law_1544 (by decide) (fun c4 => ?_) (fun c4 => ?_)
  · have hw := hw.1 c4
    refine lv_iload hx hb dL_law_1549 (lv_at hl 1 rfl) ?_
    refine lv_if_ne (tgt := 1566) hx hb dL_law_1551 (by decide) (fun c5 => ?_) (fun c5 => ?_)
    · have hw := hw.2 c5
      refine lv_goto (tgt := 1661) hx hb dL_law_1566 (by decide) ?_
      refine W.widen (k := cells + 1) (n := slots + 6) (by omega) (by omega) ?_
      exact hback w.1 w.2 y2 _ _ ls (lv_sub hl [2, 3, 4, 5, 6] rfl) hG hw
    · have hw := hw.1 c5
      refine lv_aload_n hx hb dL_law_1554 rfl (lv_at hl 5 rfl) ?_
      refine lv_iconst (v := 0) hx hb dL_law_1555 (by decide) ?_
      refine va_lald hx hb hG.2.1 hG.1 0 1 rfl rfl (by unfold vp_in; decide) dL_law_1556 ?_
      rw [show Int32.toNatClampNeg 0 = 0 from by decide]
      refine lv_iload hx hb dL_law_1557 (lv_at hl 0 rfl) ?_
      refine lv_i2l (v := (r1).toInt64) hx hb dL_law_1559 rfl ?_
      refine bl_eq (tgt := 1566) hx hb dL_law_1560 dL_law_1561 (by decide) (fun c6 => ?_) (fun c6 => ?_)
      · have hw := hw.1 c6
        refine lv_goto (tgt := 1661) hx hb dL_law_1566 (by decide) ?_
        refine W.widen (k := cells + 1) (n := slots + 6) (by omega) (by omega) ?_
        exact hback w.1 w.2 y2 _ _ ls (lv_sub hl [2, 3, 4, 5, 6] rfl) hG hw
      · have hw := hw.2 c6
        refine lv_iconst (v := 0) hx hb dL_law_1564 (by decide) ?_
        exact hw.elim
  · have hw := hw.2 c4
    refine lv_iconst (v := 0) hx hb dL_law_1547 (by decide) ?_
    exact hw.elim
def wL_c11 (ex : XS → (Nat → Int64) → YS → Prop) (xs : Nat → Int32) (v4 : Int32) (u : XS) (f : Nat → Int64) (y : YS) : Prop := (wL_read (fun r w => (wX1_read (fun r1 y2 => (wX1_thrown (fun r3 => ((r3 = r → ((r = 0 → (((w.2 0) = r1 → (ex w.1 w.2 y2)) ∧ (¬ (w.2 0) = r1 → False))) ∧ (¬ r = 0 → (ex w.1 w.2 y2)))) ∧ (¬ r3 = r → False))) y2)) y (xs (v4 + 1).toNatClampNeg) (xs (v4 + 2).toNatClampNeg))) u f (xs (v4 + 1).toNatClampNeg) (xs (v4 + 2).toNatClampNeg))
set_option maxHeartbeats 4000000 in
set_option maxRecDepth 100000 in
theorem kL_c11 {p : Program} {l : Launch} {e : Env} {s : State} {m : MethodId} {below : List Frame} {meth : Method} {c : Code} {b L : Nat} {xs : Nat → Int32} {D : va_G} {cI cJ : ClassId} {h0 a1 a2 a3 a4 a5 a6 k0 b1 b2 b3 b4 b5 b6 b7 b8 tC tS qo : Nat} (hst : l.stackTraces = false) (hx : p.tables.exec = Jvm.exec) (hb : c.code = cL_law) (hml : c.maxLocals = 8) (hown : s.vm.findClass RL = some m.cls) (hts : ∀ w ∈ lw_tbl, w.before #[Value.ref b] s = true) (hX : va_X b L xs s s.heap) (hbl : b < s.heap.size) (v4 : Int32) (hI : ∀ k : Nat, k < 8 → vp_in (v4 + Int32.ofNat k) L) {cells slots : Nat} (hc : cells + 1 ≤ 1064) (hs : slots + 6 ≤ 8696) {ex : XS → (Nat → Int64) → YS → Prop}
    (hback : ∀ (u : XS) (f : Nat → Int64) (y : YS) (H : Heap) (locs : List Loc) (ls : Array Slot), lv_has ls 8 [(0, .ref b), (1, .ref h0), (2, .ref k0), (3, .ref qo), (4, .int v4)] → GW D cI cJ h0 a1 a2 a3 a4 a5 a6 k0 b1 b2 b3 b4 b5 b6 b7 b8 tC tS qo u f y s H locs → ex u f y → W p l e room_1 s m #[Value.ref b] below meth c H locs (cells + 1) (slots + 6) (lw_Z below #[Value.ref b] s) (F0 m 1661 ls []))
    (u : XS) (f : Nat → Int64) (y : YS) (H : Heap) (locs : List Loc) (ls : Array Slot) (hl : lv_has ls 8 [(0, .ref b), (1, .ref h0), (2, .ref k0), (3, .ref qo), (4, .int v4)]) (hG : GW D cI cJ h0 a1 a2 a3 a4 a5 a6 k0 b1 b2 b3 b4 b5 b6 b7 b8 tC tS qo u f y s H locs) (hw : wL_c11 ex xs v4 u f y) : W p l e room_1 s m #[Value.ref b] below meth c H locs cells slots (lw_Z below #[Value.ref b] s) (F0 m 1569 ls []) := by
  have hbA : ¬ (fun q : Nat => s.heap.size ≤ q) b := Nat.not_le.mpr hbl
  have hL67 : (Cond.constantLong RL 67 4294967295).before #[Value.ref b] s = true := hts _ tl_67
  unfold wL_c11 at hw
  refine lv_aload_n hx hb dL_law_1569 rfl (lv_at hl 1 rfl) ?_
  refine lv_aload_n hx hb dL_law_1570 rfl (lv_at hl 0 rfl) ?_
  refine lv_iload hx hb dL_law_1571 (lv_at hl 4 rfl) ?_
  refine lv_iconst (v := 1) hx hb dL_law_1573 (by decide) ?_
  refine lv_iadd hx hb dL_law_1574 ?_
  refine va_sld hx hb hX hbl hbA hG.2.2.2.1 (hI 1 (by decide)) dL_law_1575 ?_
  refine lv_aload_n hx hb dL_law_1576 rfl (lv_at hl 0 rfl) ?_
  refine lv_iload hx hb dL_law_1577 (lv_at hl 4 rfl) ?_
  refine lv_iconst (v := 2) hx hb dL_law_1579 (by decide) ?_
  refine lv_iadd hx hb dL_law_1580 ?_
  refine va_sld hx hb hX hbl hbA hG.2.2.2.1 (hI 2 (by decide)) dL_law_1581 ?_
  refine lv_aload_n hx hb dL_law_1582 rfl (lv_at hl 3 rfl) ?_
  refine G_h (As := [.ref h0, .int (xs (v4 + 1).toNatClampNeg), .int (xs (v4 + 2).toNatClampNeg), .ref qo]) (rest := []) ⟨hx, hb, hml, hown, hts⟩ (mL_read l hst D cJ h0 a1 a2 a3 a4 a5 a6 tC tS qo H.size u f (xs (v4 + 1).toNatClampNeg) (xs (v4 + 2).toNatClampNeg) _) (vx_cwSW 4 hts tc_L_read rfl rfl rfl (by decide +kernel) ⟨Nat.le_of_ble_eq_true rfl, Nat.le_of_ble_eq_true rfl⟩) hG hw rfl hl.1 rfl (Nat.le_of_ble_eq_true rfl) dL_law_1583 ⟨hc, hs⟩ (fun r w H locs hw hG => ?_)
  refine lv_istore (lv' := [(5, .int r), (0, .ref b), (1, .ref h0), (2, .ref k0), (3, .ref qo), (4, .int v4)]) hx hb dL_law_1586 hl (by decide) rfl (fun ls hl => ?_)
  refine lv_aload_n hx hb dL_law_1588 rfl (lv_at hl 3 rfl) ?_
  refine lv_aload_n hx hb dL_law_1589 rfl (lv_at hl 1 rfl) ?_
  refine lv_iload hx hb dL_law_1590 (lv_at hl 5 rfl) ?_
  refine lv_iconst (v := 1) hx hb dL_law_1592 (by decide) ?_
  refine lv_iadd hx hb dL_law_1593 ?_
  refine va_sld hx hb hX hbl hbA hG.2.2.2.1 (hI 1 (by decide)) dL_law_1594 ?_
  refine lv_aload_n hx hb dL_law_1595 rfl (lv_at hl 1 rfl) ?_
  refine lv_iload hx hb dL_law_1596 (lv_at hl 5 rfl) ?_
  refine lv_iconst (v := 2) hx hb dL_law_1598 (by decide) ?_
  refine lv_iadd hx hb dL_law_1599 ?_
  refine va_sld hx hb hX hbl hbA hG.2.2.2.1 (hI 2 (by decide)) dL_law_1600 ?_
  refine G_l (As := [.int (xs (v4 + 1).toNatClampNeg), .int (xs (v4 + 2).toNatClampNeg)]) (rest := []) ⟨hx, hb, hml, hown, hts⟩ (mX1_read l D cI cJ k0 b1 b2 b3 b4 b5 b6 b7 b8 H.size y (xs (v4 + 1).toNatClampNeg) (xs (v4 + 2).toNatClampNeg) _) (cwV 2 hts tc_X1_read rfl rfl rfl (by decide +kernel) ⟨Nat.le_of_ble_eq_true rfl, Nat.le_of_ble_eq_true rfl⟩) hG hw rfl hl.1 rfl (Nat.le_of_ble_eq_true rfl) dL_law_1601 ⟨by first | exact hc | exact Nat.le_of_succ_le hc, by first | exact hs | exact Nat.le_trans (Nat.le_add_right _ 6) hs⟩ (fun r1 y2 H locs hw hG => ?_)
  refine lv_lstore (lv' := [(6, .long r1), (5, .int r), (0, .ref b), (1, .ref h0), (2, .ref k0), (3, .ref qo), (4, .int v4)]) hx hb dL_law_1604 hl (by decide) rfl (fun ls hl => ?_)
  refine lv_aload_n hx hb dL_law_1606 rfl (lv_at hl 4 rfl) ?_
  refine pc_Vi (As := []) (rest := []) ⟨hx, hb, hml, hown, hts⟩ (mX1_thrown l D cI cJ k0 b1 b2 b3 b4 b5 b6 b7 b8 y2 _) (cwV 0 hts tc_X1_thrown rfl rfl rfl (by decide +kernel) ⟨Nat.le_of_ble_eq_true rfl, Nat.le_of_ble_eq_true rfl⟩) (wY_rc hG.toYW) wY_bl (wY_in hG.toYW hw) rfl hl.1 rfl (Nat.le_of_ble_eq_true rfl) dL_law_1607 ⟨by first | exact hc | exact Nat.le_of_succ_le hc, by first | exact hs | exact Nat.le_trans (Nat.le_add_right _ 6) hs⟩ (fun r3 hw => ?_)
  refine lv_iload hx hb dL_law_1610 (lv_at hl 1 rfl) ?_
  refine lv_icmp_eq (tgt := 1617) hx hb dL_law_1612 (by decide) (fun c4 => ?_) (fun c4 => ?_)
  · have hw := hw.1 c4
    refine lv_iload hx hb dL_law_1617 (lv_at hl 1 rfl) ?_
    refine lv_if_ne (tgt := 1633) hx hb dL_law_1619 (by decide) (fun c5 => ?_) (fun c5 => ?_)
    · have hw := hw.2 c5
      refine lv_goto (tgt := 1661) hx hb dL_law_1633 (by decide) ?_
      refine W.widen (k := cells + 1) (n := slots + 6) (by omega) (by omega) ?_
      exact hback w.1 w.2 y2 _ _ ls (lv_sub hl [2, 3, 4, 5, 6] rfl) hG hw
    · have hw := hw.1 c5
      refine lv_aload_n hx hb dL_law_1622 rfl (lv_at hl 5 rfl) ?_
      refine lv_iconst (v := 0) hx hb dL_law_1623 (by decide) ?_
      refine va_lald hx hb hG.2.1 hG.1 0 1 rfl rfl (by unfold vp_in; decide) dL_law_1624 ?_
      rw [show Int32.toNatClampNeg 0 = 0 from by decide]
      refine lv_lload hx hb dL_law_1625 (lv_at hl 0 rfl) ?_
      refine bl_eq (tgt := 1633) hx hb dL_law_1627 dL_law_1628 (by decide) (fun c6 => ?_) (fun c6 => ?_)
      · have hw := hw.1 c6
        refine lv_goto (tgt := 1661) hx hb dL_law_1633 (by decide) ?_
        refine W.widen (k := cells + 1) (n := slots + 6) (by omega) (by omega) ?_
        exact hback w.1 w.2 y2 _ _ ls (lv_sub hl [2, 3, 4, 5, 6] rfl) hG hw
      · have hw := hw.2 c6
        refine lv_iconst (v := 0) hx hb dL_law_1631 (by decide) ?_
        exact hw.elim
  · have hw := hw.2 c4
    refine lv_iconst (v := 0) hx hb dL_law_1615 (by decide) ?_
    exact hw.elim
def wL_c12 (ex : XS → (Nat → Int64) → YS → Prop) (xs : Nat → Int32) (v4 : Int32) (u : XS) (f : Nat → Int64) (y : YS) : Prop := (wX0_count (fun r1 => (wX1_count (fun r2 y3 => ((r1 = r2 → (ex u f y3)) ∧ (¬ r1 = r2 → False))) y (xs (v4 + 1).toNatClampNeg))) u (xs (v4 + 1).toNatClampNeg))
set_option maxHeartbeats 4000000 in
set_option maxRecDepth 100000 in
theorem kL_c12 {p : Program} {l : Launch} {e : Env} {s : State} {m : MethodId} {below : List Frame} {meth : Method} {c : Code} {b L : Nat} {xs : Nat → Int32} {D : va_G} {cI cJ : ClassId} {h0 a1 a2 a3 a4 a5 a6 k0 b1 b2 b3 b4 b5 b6 b7 b8 tC tS qo : Nat} (hst : l.stackTraces = false) (hx : p.tables.exec = Jvm.exec) (hb : c.code = cL_law) (hml : c.maxLocals = 8) (hown : s.vm.findClass RL = some m.cls) (hts : ∀ w ∈ lw_tbl, w.before #[Value.ref b] s = true) (hX : va_X b L xs s s.heap) (hbl : b < s.heap.size) (v4 : Int32) (hI : ∀ k : Nat, k < 8 → vp_in (v4 + Int32.ofNat k) L) {cells slots : Nat} (hc : cells + 1 ≤ 1064) (hs : slots + 6 ≤ 8696) {ex : XS → (Nat → Int64) → YS → Prop}
    (hback : ∀ (u : XS) (f : Nat → Int64) (y : YS) (H : Heap) (locs : List Loc) (ls : Array Slot), lv_has ls 8 [(0, .ref b), (1, .ref h0), (2, .ref k0), (3, .ref qo), (4, .int v4)] → GW D cI cJ h0 a1 a2 a3 a4 a5 a6 k0 b1 b2 b3 b4 b5 b6 b7 b8 tC tS qo u f y s H locs → ex u f y → W p l e room_1 s m #[Value.ref b] below meth c H locs (cells + 1) (slots + 6) (lw_Z below #[Value.ref b] s) (F0 m 1661 ls []))
    (u : XS) (f : Nat → Int64) (y : YS) (H : Heap) (locs : List Loc) (ls : Array Slot) (hl : lv_has ls 8 [(0, .ref b), (1, .ref h0), (2, .ref k0), (3, .ref qo), (4, .int v4)]) (hG : GW D cI cJ h0 a1 a2 a3 a4 a5 a6 k0 b1 b2 b3 b4 b5 b6 b7 b8 tC tS qo u f y s H locs) (hw : wL_c12 ex xs v4 u f y) : W p l e room_1 s m #[Value.ref b] below meth c H locs cells slots (lw_Z below #[Value.ref b] s) (F0 m 1636 ls []) := by
  have hbA : ¬ (fun q : Nat => s.heap.size ≤ q) b := Nat.not_le.mpr hbl
  have hL67 : (Cond.constantLong RL 67 4294967295).before #[Value.ref b] s = true := hts _ tl_67
  unfold wL_c12 at hw
  refine lv_aload_n hx hb dL_law_1636 rfl (lv_at hl 1 rfl) ?_
  refine lv_aload_n hx hb dL_law_1637 rfl (lv_at hl 0 rfl) ?_
  refine lv_iload hx hb dL_law_1638 (lv_at hl 4 rfl) ?_
  refine lv_iconst (v := 1) hx hb dL_law_1640 (by decide) ?_
  refine lv_iadd hx hb dL_law_1641 ?_
  refine va_sld hx hb hX hbl hbA hG.2.2.2.1 (hI 1 (by decide)) dL_law_1642 ?_
  refine pc_Vi (As := [.int (xs (v4 + 1).toNatClampNeg)]) (rest := []) ⟨hx, hb, hml, hown, hts⟩ (mX0_count l D cJ h0 a1 a2 a3 a4 a5 a6 tC tS u (xs (v4 + 1).toNatClampNeg) _) (cwV 1 hts tc_X0_count rfl rfl rfl (by decide +kernel) ⟨Nat.le_of_ble_eq_true rfl, Nat.le_of_ble_eq_true rfl⟩) (wX_rc hG.toXW) wX_bl (wX_in hG.toXW hw) rfl hl.1 rfl (Nat.le_of_ble_eq_true rfl) dL_law_1643 ⟨by first | exact hc | exact Nat.le_of_succ_le hc, by first | exact hs | exact Nat.le_trans (Nat.le_add_right _ 6) hs⟩ (fun r1 hw => ?_)
  refine lv_aload_n hx hb dL_law_1646 rfl (lv_at hl 2 rfl) ?_
  refine lv_aload_n hx hb dL_law_1647 rfl (lv_at hl 0 rfl) ?_
  refine lv_iload hx hb dL_law_1648 (lv_at hl 4 rfl) ?_
  refine lv_iconst (v := 1) hx hb dL_law_1650 (by decide) ?_
  refine lv_iadd hx hb dL_law_1651 ?_
  refine va_sld hx hb hX hbl hbA hG.2.2.2.1 (hI 1 (by decide)) dL_law_1652 ?_
  refine G_i (As := [.int (xs (v4 + 1).toNatClampNeg)]) (rest := [.int r1]) ⟨hx, hb, hml, hown, hts⟩ (mX1_count l D cI cJ k0 b1 b2 b3 b4 b5 b6 b7 b8 H.size y (xs (v4 + 1).toNatClampNeg) _) (cwV 1 hts tc_X1_count rfl rfl rfl (by decide +kernel) ⟨Nat.le_of_ble_eq_true rfl, Nat.le_of_ble_eq_true rfl⟩) hG hw rfl hl.1 rfl (Nat.le_of_ble_eq_true rfl) dL_law_1653 ⟨by first | exact hc | exact Nat.le_of_succ_le hc, by first | exact hs | exact Nat.le_trans (Nat.le_add_right _ 6) hs⟩ (fun r2 y3 H locs hw hG => ?_)
  refine lv_icmp_eq (tgt := 1661) hx hb dL_law_1656 (by decide) (fun c4 => ?_) (fun c4 => ?_)
  · have hw := hw.1 c4
    refine W.widen (k := cells + 1) (n := slots + 6) (by omega) (by omega) ?_
    exact hback u f y3 _ _ ls (lv_sub hl [0, 1, 2, 3, 4] rfl) hG hw
  · have hw := hw.2 c4
    refine lv_iconst (v := 0) hx hb dL_law_1659 (by decide) ?_
    exact hw.elim
