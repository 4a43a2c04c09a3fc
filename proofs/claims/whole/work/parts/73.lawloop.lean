/-- the tree and the model stand for one view -/
def RR (σ : HS) (V : AV) : Prop := IV V ∧ TR σ V ∧ MR σ V ∧ hl σ 9 2 = 1
theorem nT92 : pT 9 2 := Or.inr (Or.inr ⟨rfl, rfl⟩)
theorem MR.ous {σ : HS} {V : AV} {k : Nat} {v : Int64} (h : MR σ V) : MR (outS k σ v) V := by
  unfold outS
  split
  · exact h.out
  · exact h
theorem TR.ous {σ : HS} {V : AV} {k : Nat} {v : Int64} (h : TR σ V) : TR (outS k σ v) V := by
  unfold outS
  split
  · have e : ∀ {X Y : HS}, (∀ q a j, hI Y q a j = hI X q a j) → (∀ a j, hJ Y 2 a j = hJ X 2 a j) → hR Y = hR X → hl Y = hl X → hn Y = hn X → TR X V → TR Y V := by
      intro X Y e1 e2 e3 e4 e5 hX
      obtain ⟨⟨⟨t1, t2, t3, t4, t5, t6, t7, t8⟩, h2, h3, h4, h5⟩, hd⟩ := hX
      refine ⟨⟨⟨by rw [e3]; exact t1, by rw [e4]; exact t2, by rw [e1, e1]; exact t3, fun i hi => ⟨by rw [e3]; exact (t4 i hi).1, by unfold NS; rw [e3, e4]; exact (t4 i hi).2⟩, fun p hp => by rw [e3]; exact t5 p hp, fun k hk => by rw [e3]; exact t6 k hk, fun p hp => by rw [e1, e1]; exact t7 p hp, fun i hi => by rw [e1]; exact t8 i hi⟩, by unfold CN; rw [e5]; exact h2, fun i hi => ⟨fun k hk => by rw [e1]; exact (h3 i hi).1 k hk, by rw [e2, e2]; exact (h3 i hi).2⟩, fun p hp => ⟨by rw [e1]; exact (h4 p hp).1, by rw [e1]; exact (h4 p hp).2.1, fun k hk => by rw [e1]; exact (h4 p hp).2.2.1 k hk, by rw [e3]; exact (h4 p hp).2.2.2⟩, fun k hk => by rw [e3, e1, e1, e1]; exact h5 k hk⟩, fun i hi => ⟨by rw [e3]; exact (hd i hi).1, fun j hj => ⟨by rw [e1]; exact ((hd i hi).2 j hj).1, fun k hk => by rw [e1]; exact ((hd i hi).2 j hj).2 k hk⟩⟩⟩
    exact e (fun _ _ _ => rfl) (fun a j => by rw [J_sJ, if_neg (by omega)]) rfl rfl rfl h
  · exact h
theorem hl_outS {σ : HS} {k : Nat} {v : Int64} : hl (outS k σ v) = hl σ := by
  unfold outS
  split <;> rfl
theorem k_0 {k : Nat} (hk : k ≤ 3) (h : nI k = 0) : k = 0 := (nI_eq (by omega) (by omega)).mp (h.trans nI_0.symm)
theorem J_outS {τ ρ : HS} {k : Nat} {v : Int64} (hk : k ≤ 3) (hf : fr pT (outS k τ v) ρ) (h : nI k = 0) : hJ ρ 9 2 (0 : Int32).toNatClampNeg = v := by
  have h0 := k_0 hk h
  subst h0
  rw [show (0 : Int32).toNatClampNeg = 0 from by decide +kernel, (hf.1 9 2 nT92).2.1]
  show hJ (sJ τ 9 2 0 v) 9 2 0 = v
  rw [J_sJ, if_pos ⟨rfl, rfl, rfl⟩]
theorem lg_self {a : Int64} : lg_cmp a a = 0 := by
  unfold lg_cmp
  rw [if_neg (fun z : a > a => absurd (Int64.lt_iff_toInt_lt.mp z) (Int.lt_irrefl _)), if_pos rfl]
theorem ofI7 (j : Nat) : nI j + Int32.ofInt 7 = nI (j + 7) := by rw [show Int32.ofInt 7 = nI 7 by decide +kernel, nJ_add]
theorem sub32 (a b : Int32) : (a - b).toInt = a.toInt - b.toInt ∨ (a - b).toInt = a.toInt - b.toInt - 4294967296 ∨ (a - b).toInt = a.toInt - b.toInt + 4294967296 := by
  have h1 := inr32 a
  have h2 := inr32 b
  have h3 : (a - b).toInt = (a.toInt - b.toInt).bmod (2 ^ 32) := Int32.toInt_sub a b
  unfold Int.bmod at h3
  simp only at h3
  omega
theorem lw_gt {i L : Nat} (hi : i ≤ 4000) (hL : L ≤ 4000) : nI L - 7 < nI i ↔ L < i + 7 := by
  rw [Int32.lt_iff_toInt_lt]
  have h1 := sub32 (nI L) 7
  have h2 := inr32 (nI L - 7)
  have h3 : (7 : Int32).toInt = 7 := by decide +kernel
  rw [nI_toInt (show L < 2 ^ 31 by omega), h3] at h1
  rw [nI_toInt (show i < 2 ^ 31 by omega)]
  omega
set_option maxHeartbeats 4000000 in
theorem lc_node {l : Launch} (hl0 : l.stackTraces = false) {G : LG} {L : Nat} {xs : Nat → Int32} {σ : HS} {V : AV} {i mc ms : Nat} (hR0 : RR σ V) (hi : i + 7 ≤ L) (hL : L ≤ 3584) (hnext : ∀ σ' V', RR σ' V' → Ex l G m_L_law (pmL G L xs) 1087 [(4, .int (nI i)), (3, .ref (9 + 16 * 2)), (2, .ref (6 + 16 * 0)), (1, .ref (5 + 16 * 0)), (0, .ref (13))] [] σ' mc ms) : Ex l G m_L_law (pmL G L xs) 112 [(4, .int (nI i)), (3, .ref (9 + 16 * 2)), (2, .ref (6 + 16 * 0)), (1, .ref (5 + 16 * 0)), (0, .ref (13))] [] σ (mc + 20) (ms + 200) := by
  obtain ⟨k, x, V', hk, hv', hT, hMo⟩ := op_node (G := G) hl0 hR0.1 (xs (i + 1)) (xs (i + 2)) (xs (i + 3)) (xs (i + 4)) ((((xs (i + 5)).toInt64) <<< ((32 : Int32).toInt64 &&& 63)) ||| (((xs (i + 6)).toInt64) &&& (4294967295)))
  have hk3 : k ≤ 3 := by omega
  obtain ⟨τ, ct, htr, hfr⟩ := hT σ hR0.2.1
  have hO : hl τ 9 2 = 1 := (hfr.1 9 2 ⟨by omega, by omega⟩).2.2.2.trans hR0.2.2.2
  have hm1 : MR (outS k τ ((x).toInt64)) V := (hR0.2.2.1.frm hfr).ous
  obtain ⟨ρ, v, ct2, ⟨⟨y, rfl, hy⟩, hth⟩, hmr, hfr2⟩ := hMo _ hm1
  have hR1 : RR ρ V' := ⟨hv', htr.ous.frm hfr2, hmr, (hfr2.1 9 2 nT92).2.2.2.trans (by rw [hl_outS]; exact hO)⟩
  refine e_aload_n d_L_law_112 rfl rfl ?_
  refine e_aload_n d_L_law_113 rfl rfl ?_
  refine e_iload d_L_law_114 rfl ?_
  refine e_iconst (v := 1) d_L_law_116 (by decide) ?_
  refine e_iadd d_L_law_117 ?_
  rw [show (nI i) + (1) = nI (i + 1) from by rw [show (1 : Int32) = nI 1 from by decide +kernel, nJ_add]]
  refine e_sld d_L_law_118 (show vp_in (nI (i + 1)) L from nI_in (by omega) (by omega)) ?_
  rw [nI_clamp (show i + 1 < 2 ^ 31 by omega)]
  refine e_aload_n d_L_law_119 rfl rfl ?_
  refine e_iload d_L_law_120 rfl ?_
  refine e_iconst (v := 2) d_L_law_122 (by decide) ?_
  refine e_iadd d_L_law_123 ?_
  rw [show (nI i) + (2) = nI (i + 2) from by rw [show (2 : Int32) = nI 2 from by decide +kernel, nJ_add]]
  refine e_sld d_L_law_124 (show vp_in (nI (i + 2)) L from nI_in (by omega) (by omega)) ?_
  rw [nI_clamp (show i + 2 < 2 ^ 31 by omega)]
  refine e_aload_n d_L_law_125 rfl rfl ?_
  refine e_iload d_L_law_126 rfl ?_
  refine e_iconst (v := 3) d_L_law_128 (by decide) ?_
  refine e_iadd d_L_law_129 ?_
  rw [show (nI i) + (3) = nI (i + 3) from by rw [show (3 : Int32) = nI 3 from by decide +kernel, nJ_add]]
  refine e_sld d_L_law_130 (show vp_in (nI (i + 3)) L from nI_in (by omega) (by omega)) ?_
  rw [nI_clamp (show i + 3 < 2 ^ 31 by omega)]
  refine e_aload_n d_L_law_131 rfl rfl ?_
  refine e_iload d_L_law_132 rfl ?_
  refine e_iconst (v := 4) d_L_law_134 (by decide) ?_
  refine e_iadd d_L_law_135 ?_
  rw [show (nI i) + (4) = nI (i + 4) from by rw [show (4 : Int32) = nI 4 from by decide +kernel, nJ_add]]
  refine e_sld d_L_law_136 (show vp_in (nI (i + 4)) L from nI_in (by omega) (by omega)) ?_
  rw [nI_clamp (show i + 4 < 2 ^ 31 by omega)]
  refine e_aload_n d_L_law_137 rfl rfl ?_
  refine e_iload d_L_law_138 rfl ?_
  refine e_iconst (v := 5) d_L_law_140 (by decide) ?_
  refine e_iadd d_L_law_141 ?_
  rw [show (nI i) + (5) = nI (i + 5) from by rw [show (5 : Int32) = nI 5 from by decide +kernel, nJ_add]]
  refine e_sld d_L_law_142 (show vp_in (nI (i + 5)) L from nI_in (by omega) (by omega)) ?_
  rw [nI_clamp (show i + 5 < 2 ^ 31 by omega)]
  refine e_i2l d_L_law_143 ?_
  refine e_bipush (v := 32) d_L_law_144 (by decide) ?_
  refine e_lshl d_L_law_146 ?_
  refine e_aload_n d_L_law_147 rfl rfl ?_
  refine e_iload d_L_law_148 rfl ?_
  refine e_bipush (v := 6) d_L_law_150 (by decide) ?_
  refine e_iadd d_L_law_152 ?_
  rw [show (nI i) + (6) = nI (i + 6) from by rw [show (6 : Int32) = nI 6 from by decide +kernel, nJ_add]]
  refine e_sld d_L_law_153 (show vp_in (nI (i + 6)) L from nI_in (by omega) (by omega)) ?_
  rw [nI_clamp (show i + 6 < 2 ^ 31 by omega)]
  refine e_i2l d_L_law_154 ?_
  refine e_ldc2 (v := 4294967295) d_L_law_155 kc_L_63 ?_
  refine e_land d_L_law_158 ?_
  refine e_lor d_L_law_159 ?_
  refine e_aload_n d_L_law_160 rfl rfl ?_
  refine e_callSh (v := some (.int (nI k))) (σ' := outS k τ ((x).toInt64)) (As := [.ref (5 + 16 * 0), .int (xs (i + 1)), .int (xs (i + 2)), .int (xs (i + 3)), .int (xs (i + 4)), .long ((((xs (i + 5)).toInt64) <<< ((32 : Int32).toInt64 &&& 63)) ||| (((xs (i + 6)).toInt64) &&& (4294967295))), .ref (9 + 16 * 2)]) (st := []) (mc + 4) (ms + 80) d_L_law_161 ch_L_law_65 rfl (Nat.le_of_ble_eq_true rfl) (by show mc + 4 + 16 ≤ mc + 20; omega) (by show ms + 80 + 120 ≤ ms + 200; omega) (cw_L_node hl0 hk hO ct) ?_
  show Ex l G m_L_law (pmL G L xs) 164 [(4, .int (nI i)), (3, .ref (9 + 16 * 2)), (2, .ref (6 + 16 * 0)), (1, .ref (5 + 16 * 0)), (0, .ref (13))] [.int (nI k)] (outS k τ ((x).toInt64)) (mc + 4) (ms + 80)
  refine e_istore (lv' := [(5, .int (nI k)), (4, .int (nI i)), (3, .ref (9 + 16 * 2)), (2, .ref (6 + 16 * 0)), (1, .ref (5 + 16 * 0)), (0, .ref (13))]) d_L_law_164 (by decide) rfl ?_
  refine e_aload_n d_L_law_166 rfl rfl ?_
  refine e_aload_n d_L_law_167 rfl rfl ?_
  refine e_iload d_L_law_168 rfl ?_
  refine e_iconst (v := 1) d_L_law_170 (by decide) ?_
  refine e_iadd d_L_law_171 ?_
  rw [show (nI i) + (1) = nI (i + 1) from by rw [show (1 : Int32) = nI 1 from by decide +kernel, nJ_add]]
  refine e_sld d_L_law_172 (show vp_in (nI (i + 1)) L from nI_in (by omega) (by omega)) ?_
  rw [nI_clamp (show i + 1 < 2 ^ 31 by omega)]
  refine e_aload_n d_L_law_173 rfl rfl ?_
  refine e_iload d_L_law_174 rfl ?_
  refine e_iconst (v := 2) d_L_law_176 (by decide) ?_
  refine e_iadd d_L_law_177 ?_
  rw [show (nI i) + (2) = nI (i + 2) from by rw [show (2 : Int32) = nI 2 from by decide +kernel, nJ_add]]
  refine e_sld d_L_law_178 (show vp_in (nI (i + 2)) L from nI_in (by omega) (by omega)) ?_
  rw [nI_clamp (show i + 2 < 2 ^ 31 by omega)]
  refine e_aload_n d_L_law_179 rfl rfl ?_
  refine e_iload d_L_law_180 rfl ?_
  refine e_iconst (v := 3) d_L_law_182 (by decide) ?_
  refine e_iadd d_L_law_183 ?_
  rw [show (nI i) + (3) = nI (i + 3) from by rw [show (3 : Int32) = nI 3 from by decide +kernel, nJ_add]]
  refine e_sld d_L_law_184 (show vp_in (nI (i + 3)) L from nI_in (by omega) (by omega)) ?_
  rw [nI_clamp (show i + 3 < 2 ^ 31 by omega)]
  refine e_aload_n d_L_law_185 rfl rfl ?_
  refine e_iload d_L_law_186 rfl ?_
  refine e_iconst (v := 4) d_L_law_188 (by decide) ?_
  refine e_iadd d_L_law_189 ?_
  rw [show (nI i) + (4) = nI (i + 4) from by rw [show (4 : Int32) = nI 4 from by decide +kernel, nJ_add]]
  refine e_sld d_L_law_190 (show vp_in (nI (i + 4)) L from nI_in (by omega) (by omega)) ?_
  rw [nI_clamp (show i + 4 < 2 ^ 31 by omega)]
  refine e_aload_n d_L_law_191 rfl rfl ?_
  refine e_iload d_L_law_192 rfl ?_
  refine e_iconst (v := 5) d_L_law_194 (by decide) ?_
  refine e_iadd d_L_law_195 ?_
  rw [show (nI i) + (5) = nI (i + 5) from by rw [show (5 : Int32) = nI 5 from by decide +kernel, nJ_add]]
  refine e_sld d_L_law_196 (show vp_in (nI (i + 5)) L from nI_in (by omega) (by omega)) ?_
  rw [nI_clamp (show i + 5 < 2 ^ 31 by omega)]
  refine e_i2l d_L_law_197 ?_
  refine e_bipush (v := 32) d_L_law_198 (by decide) ?_
  refine e_lshl d_L_law_200 ?_
  refine e_aload_n d_L_law_201 rfl rfl ?_
  refine e_iload d_L_law_202 rfl ?_
  refine e_bipush (v := 6) d_L_law_204 (by decide) ?_
  refine e_iadd d_L_law_206 ?_
  rw [show (nI i) + (6) = nI (i + 6) from by rw [show (6 : Int32) = nI 6 from by decide +kernel, nJ_add]]
  refine e_sld d_L_law_207 (show vp_in (nI (i + 6)) L from nI_in (by omega) (by omega)) ?_
  rw [nI_clamp (show i + 6 < 2 ^ 31 by omega)]
  refine e_i2l d_L_law_208 ?_
  refine e_ldc2 (v := 4294967295) d_L_law_209 kc_L_63 ?_
  refine e_land d_L_law_212 ?_
  refine e_lor d_L_law_213 ?_
  refine e_callVd (v := some (.int (y))) (σ' := ρ) (q := 6) (a := 0) (As := [.int (xs (i + 1)), .int (xs (i + 2)), .int (xs (i + 3)), .int (xs (i + 4)), .long ((((xs (i + 5)).toInt64) <<< ((32 : Int32).toInt64 &&& 63)) ||| (((xs (i + 6)).toInt64) &&& (4294967295)))]) (st := []) (mc + 4) (ms + 80) d_L_law_214 cb_L_law_70 iv_M_node rfl ⟨by decide, rfl⟩ rfl (Nat.le_of_ble_eq_true rfl) (by show mc + 4 + 0 ≤ mc + 4; omega) (by show ms + 80 + 0 ≤ ms + 80; omega) (ct2) ?_
  show Ex l G m_L_law (pmL G L xs) 217 [(5, .int (nI k)), (4, .int (nI i)), (3, .ref (9 + 16 * 2)), (2, .ref (6 + 16 * 0)), (1, .ref (5 + 16 * 0)), (0, .ref (13))] [.int (y)] (ρ) (mc + 4) (ms + 80)
  refine e_istore (lv' := [(6, .int (y)), (5, .int (nI k)), (4, .int (nI i)), (3, .ref (9 + 16 * 2)), (2, .ref (6 + 16 * 0)), (1, .ref (5 + 16 * 0)), (0, .ref (13))]) d_L_law_217 (by decide) rfl ?_
  refine e_aload_n d_L_law_219 rfl rfl ?_
  refine e_callVd (v := some (.int (hI ρ 6 0 0))) (σ' := ρ) (q := 6) (a := 0) (As := []) (st := []) (mc + 4) (ms + 80) d_L_law_220 cb_L_law_71 iv_M_thrown rfl ⟨by decide, rfl⟩ rfl (Nat.le_of_ble_eq_true rfl) (by show mc + 4 + 0 ≤ mc + 4; omega) (by show ms + 80 + 0 ≤ ms + 80; omega) (ct_M_thrown hl0) ?_
  show Ex l G m_L_law (pmL G L xs) 223 [(6, .int (y)), (5, .int (nI k)), (4, .int (nI i)), (3, .ref (9 + 16 * 2)), (2, .ref (6 + 16 * 0)), (1, .ref (5 + 16 * 0)), (0, .ref (13))] [.int (hI ρ 6 0 0)] (ρ) (mc + 4) (ms + 80)
  rw [hth]
  refine e_iload d_L_law_223 rfl ?_
  refine e_icmpeq (tgt := 230) d_L_law_225 (by decide) (fun h225 => ?_) (fun h225 => absurd rfl h225)
  refine e_iload d_L_law_230 rfl ?_
  refine e_ifne (tgt := 247) d_L_law_232 (by decide) (fun h232 => ?_) (fun h232 => ?_)
  ·
    refine e_goto (tgt := 1087) d_L_law_247 (by decide) ?_
    exact e_bg (mc' := mc) (ms' := ms) (by omega) (by omega) (e_lv (lv' := [(4, .int (nI i)), (3, .ref (9 + 16 * 2)), (2, .ref (6 + 16 * 0)), (1, .ref (5 + 16 * 0)), (0, .ref (13))]) ⟨rfl, rfl, rfl, rfl, rfl, trivial⟩ (hnext _ _ hR1))
  ·
    refine e_aload_n d_L_law_235 rfl rfl ?_
    refine e_iconst (v := 0) d_L_law_236 (by decide) ?_
    refine e_lald d_L_law_237 (by rw [hR1.2.2.2]; unfold vp_in; decide +kernel) ?_
    rw [show hJ (ρ) 9 (2) (0 : Int32).toNatClampNeg = (y).toInt64 from by rw [J_outS hk3 hfr2 h232, hy (k_0 hk3 h232)]]
    refine e_iload d_L_law_238 rfl ?_
    refine e_i2l d_L_law_240 ?_
    refine e_lcmp d_L_law_241 ?_
    refine e_ifeq (tgt := 247) d_L_law_242 (by decide) (fun h242 => ?_) (fun h242 => absurd lg_self h242)
    refine e_goto (tgt := 1087) d_L_law_247 (by decide) ?_
    exact e_bg (mc' := mc) (ms' := ms) (by omega) (by omega) (e_lv (lv' := [(4, .int (nI i)), (3, .ref (9 + 16 * 2)), (2, .ref (6 + 16 * 0)), (1, .ref (5 + 16 * 0)), (0, .ref (13))]) ⟨rfl, rfl, rfl, rfl, rfl, trivial⟩ (hnext _ _ hR1))
set_option maxHeartbeats 4000000 in
theorem lc_link {l : Launch} (hl0 : l.stackTraces = false) {G : LG} {L : Nat} {xs : Nat → Int32} {σ : HS} {V : AV} {i mc ms : Nat} (hR0 : RR σ V) (hi : i + 7 ≤ L) (hL : L ≤ 3584) (hnext : ∀ σ' V', RR σ' V' → Ex l G m_L_law (pmL G L xs) 1087 [(4, .int (nI i)), (3, .ref (9 + 16 * 2)), (2, .ref (6 + 16 * 0)), (1, .ref (5 + 16 * 0)), (0, .ref (13))] [] σ' mc ms) : Ex l G m_L_law (pmL G L xs) 250 [(4, .int (nI i)), (3, .ref (9 + 16 * 2)), (2, .ref (6 + 16 * 0)), (1, .ref (5 + 16 * 0)), (0, .ref (13))] [] σ (mc + 20) (ms + 200) := by
  obtain ⟨k, x, V', hk, hv', hT, hMo⟩ := op_link (G := G) hl0 hR0.1 (xs (i + 1)) (xs (i + 2)) (xs (i + 3)) (xs (i + 4)) (xs (i + 5)) (xs (i + 6))
  have hk3 : k ≤ 3 := by omega
  obtain ⟨τ, ct, htr, hfr⟩ := hT σ hR0.2.1
  have hO : hl τ 9 2 = 1 := (hfr.1 9 2 ⟨by omega, by omega⟩).2.2.2.trans hR0.2.2.2
  have hm1 : MR (outS k τ ((x).toInt64)) V := (hR0.2.2.1.frm hfr).ous
  obtain ⟨ρ, v, ct2, ⟨⟨y, rfl, hy⟩, hth⟩, hmr, hfr2⟩ := hMo _ hm1
  have hR1 : RR ρ V' := ⟨hv', htr.ous.frm hfr2, hmr, (hfr2.1 9 2 nT92).2.2.2.trans (by rw [hl_outS]; exact hO)⟩
  refine e_aload_n d_L_law_250 rfl rfl ?_
  refine e_aload_n d_L_law_251 rfl rfl ?_
  refine e_iload d_L_law_252 rfl ?_
  refine e_iconst (v := 1) d_L_law_254 (by decide) ?_
  refine e_iadd d_L_law_255 ?_
  rw [show (nI i) + (1) = nI (i + 1) from by rw [show (1 : Int32) = nI 1 from by decide +kernel, nJ_add]]
  refine e_sld d_L_law_256 (show vp_in (nI (i + 1)) L from nI_in (by omega) (by omega)) ?_
  rw [nI_clamp (show i + 1 < 2 ^ 31 by omega)]
  refine e_aload_n d_L_law_257 rfl rfl ?_
  refine e_iload d_L_law_258 rfl ?_
  refine e_iconst (v := 2) d_L_law_260 (by decide) ?_
  refine e_iadd d_L_law_261 ?_
  rw [show (nI i) + (2) = nI (i + 2) from by rw [show (2 : Int32) = nI 2 from by decide +kernel, nJ_add]]
  refine e_sld d_L_law_262 (show vp_in (nI (i + 2)) L from nI_in (by omega) (by omega)) ?_
  rw [nI_clamp (show i + 2 < 2 ^ 31 by omega)]
  refine e_aload_n d_L_law_263 rfl rfl ?_
  refine e_iload d_L_law_264 rfl ?_
  refine e_iconst (v := 3) d_L_law_266 (by decide) ?_
  refine e_iadd d_L_law_267 ?_
  rw [show (nI i) + (3) = nI (i + 3) from by rw [show (3 : Int32) = nI 3 from by decide +kernel, nJ_add]]
  refine e_sld d_L_law_268 (show vp_in (nI (i + 3)) L from nI_in (by omega) (by omega)) ?_
  rw [nI_clamp (show i + 3 < 2 ^ 31 by omega)]
  refine e_aload_n d_L_law_269 rfl rfl ?_
  refine e_iload d_L_law_270 rfl ?_
  refine e_iconst (v := 4) d_L_law_272 (by decide) ?_
  refine e_iadd d_L_law_273 ?_
  rw [show (nI i) + (4) = nI (i + 4) from by rw [show (4 : Int32) = nI 4 from by decide +kernel, nJ_add]]
  refine e_sld d_L_law_274 (show vp_in (nI (i + 4)) L from nI_in (by omega) (by omega)) ?_
  rw [nI_clamp (show i + 4 < 2 ^ 31 by omega)]
  refine e_aload_n d_L_law_275 rfl rfl ?_
  refine e_iload d_L_law_276 rfl ?_
  refine e_iconst (v := 5) d_L_law_278 (by decide) ?_
  refine e_iadd d_L_law_279 ?_
  rw [show (nI i) + (5) = nI (i + 5) from by rw [show (5 : Int32) = nI 5 from by decide +kernel, nJ_add]]
  refine e_sld d_L_law_280 (show vp_in (nI (i + 5)) L from nI_in (by omega) (by omega)) ?_
  rw [nI_clamp (show i + 5 < 2 ^ 31 by omega)]
  refine e_aload_n d_L_law_281 rfl rfl ?_
  refine e_iload d_L_law_282 rfl ?_
  refine e_bipush (v := 6) d_L_law_284 (by decide) ?_
  refine e_iadd d_L_law_286 ?_
  rw [show (nI i) + (6) = nI (i + 6) from by rw [show (6 : Int32) = nI 6 from by decide +kernel, nJ_add]]
  refine e_sld d_L_law_287 (show vp_in (nI (i + 6)) L from nI_in (by omega) (by omega)) ?_
  rw [nI_clamp (show i + 6 < 2 ^ 31 by omega)]
  refine e_aload_n d_L_law_288 rfl rfl ?_
  refine e_callSh (v := some (.int (nI k))) (σ' := outS k τ ((x).toInt64)) (As := [.ref (5 + 16 * 0), .int (xs (i + 1)), .int (xs (i + 2)), .int (xs (i + 3)), .int (xs (i + 4)), .int (xs (i + 5)), .int (xs (i + 6)), .ref (9 + 16 * 2)]) (st := []) (mc + 14) (ms + 165) d_L_law_289 ch_L_law_75 rfl (Nat.le_of_ble_eq_true rfl) (by show mc + 14 + 6 ≤ mc + 20; omega) (by show ms + 165 + 35 ≤ ms + 200; omega) (cw_L_link hl0 hk hO ct) ?_
  show Ex l G m_L_law (pmL G L xs) 292 [(4, .int (nI i)), (3, .ref (9 + 16 * 2)), (2, .ref (6 + 16 * 0)), (1, .ref (5 + 16 * 0)), (0, .ref (13))] [.int (nI k)] (outS k τ ((x).toInt64)) (mc + 14) (ms + 165)
  refine e_istore (lv' := [(5, .int (nI k)), (4, .int (nI i)), (3, .ref (9 + 16 * 2)), (2, .ref (6 + 16 * 0)), (1, .ref (5 + 16 * 0)), (0, .ref (13))]) d_L_law_292 (by decide) rfl ?_
  refine e_aload_n d_L_law_294 rfl rfl ?_
  refine e_aload_n d_L_law_295 rfl rfl ?_
  refine e_iload d_L_law_296 rfl ?_
  refine e_iconst (v := 1) d_L_law_298 (by decide) ?_
  refine e_iadd d_L_law_299 ?_
  rw [show (nI i) + (1) = nI (i + 1) from by rw [show (1 : Int32) = nI 1 from by decide +kernel, nJ_add]]
  refine e_sld d_L_law_300 (show vp_in (nI (i + 1)) L from nI_in (by omega) (by omega)) ?_
  rw [nI_clamp (show i + 1 < 2 ^ 31 by omega)]
  refine e_aload_n d_L_law_301 rfl rfl ?_
  refine e_iload d_L_law_302 rfl ?_
  refine e_iconst (v := 2) d_L_law_304 (by decide) ?_
  refine e_iadd d_L_law_305 ?_
  rw [show (nI i) + (2) = nI (i + 2) from by rw [show (2 : Int32) = nI 2 from by decide +kernel, nJ_add]]
  refine e_sld d_L_law_306 (show vp_in (nI (i + 2)) L from nI_in (by omega) (by omega)) ?_
  rw [nI_clamp (show i + 2 < 2 ^ 31 by omega)]
  refine e_aload_n d_L_law_307 rfl rfl ?_
  refine e_iload d_L_law_308 rfl ?_
  refine e_iconst (v := 3) d_L_law_310 (by decide) ?_
  refine e_iadd d_L_law_311 ?_
  rw [show (nI i) + (3) = nI (i + 3) from by rw [show (3 : Int32) = nI 3 from by decide +kernel, nJ_add]]
  refine e_sld d_L_law_312 (show vp_in (nI (i + 3)) L from nI_in (by omega) (by omega)) ?_
  rw [nI_clamp (show i + 3 < 2 ^ 31 by omega)]
  refine e_aload_n d_L_law_313 rfl rfl ?_
  refine e_iload d_L_law_314 rfl ?_
  refine e_iconst (v := 4) d_L_law_316 (by decide) ?_
  refine e_iadd d_L_law_317 ?_
  rw [show (nI i) + (4) = nI (i + 4) from by rw [show (4 : Int32) = nI 4 from by decide +kernel, nJ_add]]
  refine e_sld d_L_law_318 (show vp_in (nI (i + 4)) L from nI_in (by omega) (by omega)) ?_
  rw [nI_clamp (show i + 4 < 2 ^ 31 by omega)]
  refine e_aload_n d_L_law_319 rfl rfl ?_
  refine e_iload d_L_law_320 rfl ?_
  refine e_iconst (v := 5) d_L_law_322 (by decide) ?_
  refine e_iadd d_L_law_323 ?_
  rw [show (nI i) + (5) = nI (i + 5) from by rw [show (5 : Int32) = nI 5 from by decide +kernel, nJ_add]]
  refine e_sld d_L_law_324 (show vp_in (nI (i + 5)) L from nI_in (by omega) (by omega)) ?_
  rw [nI_clamp (show i + 5 < 2 ^ 31 by omega)]
  refine e_aload_n d_L_law_325 rfl rfl ?_
  refine e_iload d_L_law_326 rfl ?_
  refine e_bipush (v := 6) d_L_law_328 (by decide) ?_
  refine e_iadd d_L_law_330 ?_
  rw [show (nI i) + (6) = nI (i + 6) from by rw [show (6 : Int32) = nI 6 from by decide +kernel, nJ_add]]
  refine e_sld d_L_law_331 (show vp_in (nI (i + 6)) L from nI_in (by omega) (by omega)) ?_
  rw [nI_clamp (show i + 6 < 2 ^ 31 by omega)]
  refine e_callVd (v := some (.int (y))) (σ' := ρ) (q := 6) (a := 0) (As := [.int (xs (i + 1)), .int (xs (i + 2)), .int (xs (i + 3)), .int (xs (i + 4)), .int (xs (i + 5)), .int (xs (i + 6))]) (st := []) (mc + 14) (ms + 165) d_L_law_332 cb_L_law_78 iv_M_link rfl ⟨by decide, rfl⟩ rfl (Nat.le_of_ble_eq_true rfl) (by show mc + 14 + 0 ≤ mc + 14; omega) (by show ms + 165 + 0 ≤ ms + 165; omega) (ct2) ?_
  show Ex l G m_L_law (pmL G L xs) 335 [(5, .int (nI k)), (4, .int (nI i)), (3, .ref (9 + 16 * 2)), (2, .ref (6 + 16 * 0)), (1, .ref (5 + 16 * 0)), (0, .ref (13))] [.int (y)] (ρ) (mc + 14) (ms + 165)
  refine e_istore (lv' := [(6, .int (y)), (5, .int (nI k)), (4, .int (nI i)), (3, .ref (9 + 16 * 2)), (2, .ref (6 + 16 * 0)), (1, .ref (5 + 16 * 0)), (0, .ref (13))]) d_L_law_335 (by decide) rfl ?_
  refine e_aload_n d_L_law_337 rfl rfl ?_
  refine e_callVd (v := some (.int (hI ρ 6 0 0))) (σ' := ρ) (q := 6) (a := 0) (As := []) (st := []) (mc + 14) (ms + 165) d_L_law_338 cb_L_law_71 iv_M_thrown rfl ⟨by decide, rfl⟩ rfl (Nat.le_of_ble_eq_true rfl) (by show mc + 14 + 0 ≤ mc + 14; omega) (by show ms + 165 + 0 ≤ ms + 165; omega) (ct_M_thrown hl0) ?_
  show Ex l G m_L_law (pmL G L xs) 341 [(6, .int (y)), (5, .int (nI k)), (4, .int (nI i)), (3, .ref (9 + 16 * 2)), (2, .ref (6 + 16 * 0)), (1, .ref (5 + 16 * 0)), (0, .ref (13))] [.int (hI ρ 6 0 0)] (ρ) (mc + 14) (ms + 165)
  rw [hth]
  refine e_iload d_L_law_341 rfl ?_
  refine e_icmpeq (tgt := 348) d_L_law_343 (by decide) (fun h343 => ?_) (fun h343 => absurd rfl h343)
  refine e_iload d_L_law_348 rfl ?_
  refine e_ifne (tgt := 365) d_L_law_350 (by decide) (fun h350 => ?_) (fun h350 => ?_)
  ·
    refine e_goto (tgt := 1087) d_L_law_365 (by decide) ?_
    exact e_bg (mc' := mc) (ms' := ms) (by omega) (by omega) (e_lv (lv' := [(4, .int (nI i)), (3, .ref (9 + 16 * 2)), (2, .ref (6 + 16 * 0)), (1, .ref (5 + 16 * 0)), (0, .ref (13))]) ⟨rfl, rfl, rfl, rfl, rfl, trivial⟩ (hnext _ _ hR1))
  ·
    refine e_aload_n d_L_law_353 rfl rfl ?_
    refine e_iconst (v := 0) d_L_law_354 (by decide) ?_
    refine e_lald d_L_law_355 (by rw [hR1.2.2.2]; unfold vp_in; decide +kernel) ?_
    rw [show hJ (ρ) 9 (2) (0 : Int32).toNatClampNeg = (y).toInt64 from by rw [J_outS hk3 hfr2 h350, hy (k_0 hk3 h350)]]
    refine e_iload d_L_law_356 rfl ?_
    refine e_i2l d_L_law_358 ?_
    refine e_lcmp d_L_law_359 ?_
    refine e_ifeq (tgt := 365) d_L_law_360 (by decide) (fun h360 => ?_) (fun h360 => absurd lg_self h360)
    refine e_goto (tgt := 1087) d_L_law_365 (by decide) ?_
    exact e_bg (mc' := mc) (ms' := ms) (by omega) (by omega) (e_lv (lv' := [(4, .int (nI i)), (3, .ref (9 + 16 * 2)), (2, .ref (6 + 16 * 0)), (1, .ref (5 + 16 * 0)), (0, .ref (13))]) ⟨rfl, rfl, rfl, rfl, rfl, trivial⟩ (hnext _ _ hR1))
set_option maxHeartbeats 4000000 in
theorem lc_up_0 {l : Launch} (hl0 : l.stackTraces = false) {G : LG} {L : Nat} {xs : Nat → Int32} {σ : HS} {V : AV} {i mc ms : Nat} (hR0 : RR σ V) (hi : i + 7 ≤ L) (hL : L ≤ 3584) (hz : xs (i + 2) = 0) (hnext : ∀ σ' V', RR σ' V' → Ex l G m_L_law (pmL G L xs) 1087 [(4, .int (nI i)), (3, .ref (9 + 16 * 2)), (2, .ref (6 + 16 * 0)), (1, .ref (5 + 16 * 0)), (0, .ref (13))] [] σ' mc ms) : Ex l G m_L_law (pmL G L xs) 368 [(4, .int (nI i)), (3, .ref (9 + 16 * 2)), (2, .ref (6 + 16 * 0)), (1, .ref (5 + 16 * 0)), (0, .ref (13))] [] σ (mc + 20) (ms + 200) := by
  obtain ⟨k, V', hk, hv', hT, hMo⟩ := op_up (G := G) hl0 hR0.1 (xs (i + 1)) (0) (Or.inl rfl)
  obtain ⟨τ, ct, htr, hfr⟩ := hT σ hR0.2.1
  have hO : hl τ 9 2 = 1 := (hfr.1 9 2 ⟨by omega, by omega⟩).2.2.2.trans hR0.2.2.2
  obtain ⟨ρ, v, ct2, ⟨rfl, hth⟩, hmr, hfr2⟩ := hMo _ (hR0.2.2.1.frm hfr)
  have hR1 : RR ρ V' := ⟨hv', htr.frm hfr2, hmr, (hfr2.1 9 2 nT92).2.2.2.trans hO⟩
  refine e_aload_n d_L_law_368 rfl rfl ?_
  refine e_aload_n d_L_law_369 rfl rfl ?_
  refine e_iload d_L_law_370 rfl ?_
  refine e_iconst (v := 1) d_L_law_372 (by decide) ?_
  refine e_iadd d_L_law_373 ?_
  rw [show (nI i) + (1) = nI (i + 1) from by rw [show (1 : Int32) = nI 1 from by decide +kernel, nJ_add]]
  refine e_sld d_L_law_374 (show vp_in (nI (i + 1)) L from nI_in (by omega) (by omega)) ?_
  rw [nI_clamp (show i + 1 < 2 ^ 31 by omega)]
  refine e_aload_n d_L_law_375 rfl rfl ?_
  refine e_iload d_L_law_376 rfl ?_
  refine e_iconst (v := 2) d_L_law_378 (by decide) ?_
  refine e_iadd d_L_law_379 ?_
  rw [show (nI i) + (2) = nI (i + 2) from by rw [show (2 : Int32) = nI 2 from by decide +kernel, nJ_add]]
  refine e_sld d_L_law_380 (show vp_in (nI (i + 2)) L from nI_in (by omega) (by omega)) ?_
  rw [nI_clamp (show i + 2 < 2 ^ 31 by omega)]
  refine e_ifeq (tgt := 388) d_L_law_381 (by decide) (fun h381 => ?_) (fun h381 => absurd hz h381)
  refine e_iconst (v := 0) d_L_law_388 (by decide) ?_
  refine e_callSh (v := some (.int (nI k))) (σ' := τ) (As := [.ref (5 + 16 * 0), .int (xs (i + 1)), .int (0)]) (st := []) (mc + 19) (ms + 194) d_L_law_389 ch_L_law_79 rfl (Nat.le_of_ble_eq_true rfl) (by show mc + 19 + 1 ≤ mc + 20; omega) (by show ms + 194 + 6 ≤ ms + 200; omega) (cw_L_up hl0 hk ct) ?_
  show Ex l G m_L_law (pmL G L xs) 392 [(4, .int (nI i)), (3, .ref (9 + 16 * 2)), (2, .ref (6 + 16 * 0)), (1, .ref (5 + 16 * 0)), (0, .ref (13))] [.int (nI k)] (τ) (mc + 19) (ms + 194)
  refine e_istore (lv' := [(5, .int (nI k)), (4, .int (nI i)), (3, .ref (9 + 16 * 2)), (2, .ref (6 + 16 * 0)), (1, .ref (5 + 16 * 0)), (0, .ref (13))]) d_L_law_392 (by decide) rfl ?_
  refine e_aload_n d_L_law_394 rfl rfl ?_
  refine e_aload_n d_L_law_395 rfl rfl ?_
  refine e_iload d_L_law_396 rfl ?_
  refine e_iconst (v := 1) d_L_law_398 (by decide) ?_
  refine e_iadd d_L_law_399 ?_
  rw [show (nI i) + (1) = nI (i + 1) from by rw [show (1 : Int32) = nI 1 from by decide +kernel, nJ_add]]
  refine e_sld d_L_law_400 (show vp_in (nI (i + 1)) L from nI_in (by omega) (by omega)) ?_
  rw [nI_clamp (show i + 1 < 2 ^ 31 by omega)]
  refine e_aload_n d_L_law_401 rfl rfl ?_
  refine e_iload d_L_law_402 rfl ?_
  refine e_iconst (v := 2) d_L_law_404 (by decide) ?_
  refine e_iadd d_L_law_405 ?_
  rw [show (nI i) + (2) = nI (i + 2) from by rw [show (2 : Int32) = nI 2 from by decide +kernel, nJ_add]]
  refine e_sld d_L_law_406 (show vp_in (nI (i + 2)) L from nI_in (by omega) (by omega)) ?_
  rw [nI_clamp (show i + 2 < 2 ^ 31 by omega)]
  refine e_ifeq (tgt := 414) d_L_law_407 (by decide) (fun h407 => ?_) (fun h407 => absurd hz h407)
  refine e_iconst (v := 0) d_L_law_414 (by decide) ?_
  refine e_callVd (v := none) (σ' := ρ) (q := 6) (a := 0) (As := [.int (xs (i + 1)), .int (0)]) (st := []) (mc + 19) (ms + 194) d_L_law_415 cb_L_law_82 iv_M_up rfl ⟨by decide, rfl⟩ rfl (Nat.le_of_ble_eq_true rfl) (by show mc + 19 + 0 ≤ mc + 19; omega) (by show ms + 194 + 0 ≤ ms + 194; omega) (ct2) ?_
  show Ex l G m_L_law (pmL G L xs) 418 [(5, .int (nI k)), (4, .int (nI i)), (3, .ref (9 + 16 * 2)), (2, .ref (6 + 16 * 0)), (1, .ref (5 + 16 * 0)), (0, .ref (13))] [] (ρ) (mc + 19) (ms + 194)
  refine e_aload_n d_L_law_418 rfl rfl ?_
  refine e_callVd (v := some (.int (hI ρ 6 0 0))) (σ' := ρ) (q := 6) (a := 0) (As := []) (st := []) (mc + 19) (ms + 194) d_L_law_419 cb_L_law_71 iv_M_thrown rfl ⟨by decide, rfl⟩ rfl (Nat.le_of_ble_eq_true rfl) (by show mc + 19 + 0 ≤ mc + 19; omega) (by show ms + 194 + 0 ≤ ms + 194; omega) (ct_M_thrown hl0) ?_
  show Ex l G m_L_law (pmL G L xs) 422 [(5, .int (nI k)), (4, .int (nI i)), (3, .ref (9 + 16 * 2)), (2, .ref (6 + 16 * 0)), (1, .ref (5 + 16 * 0)), (0, .ref (13))] [.int (hI ρ 6 0 0)] (ρ) (mc + 19) (ms + 194)
  rw [hth]
  refine e_iload d_L_law_422 rfl ?_
  refine e_icmpeq (tgt := 429) d_L_law_424 (by decide) (fun h424 => ?_) (fun h424 => absurd rfl h424)
  refine e_goto (tgt := 1087) d_L_law_429 (by decide) ?_
  exact e_bg (mc' := mc) (ms' := ms) (by omega) (by omega) (e_lv (lv' := [(4, .int (nI i)), (3, .ref (9 + 16 * 2)), (2, .ref (6 + 16 * 0)), (1, .ref (5 + 16 * 0)), (0, .ref (13))]) ⟨rfl, rfl, rfl, rfl, rfl, trivial⟩ (hnext _ _ hR1))
set_option maxHeartbeats 4000000 in
theorem lc_up_1 {l : Launch} (hl0 : l.stackTraces = false) {G : LG} {L : Nat} {xs : Nat → Int32} {σ : HS} {V : AV} {i mc ms : Nat} (hR0 : RR σ V) (hi : i + 7 ≤ L) (hL : L ≤ 3584) (hz : ¬ xs (i + 2) = 0) (hnext : ∀ σ' V', RR σ' V' → Ex l G m_L_law (pmL G L xs) 1087 [(4, .int (nI i)), (3, .ref (9 + 16 * 2)), (2, .ref (6 + 16 * 0)), (1, .ref (5 + 16 * 0)), (0, .ref (13))] [] σ' mc ms) : Ex l G m_L_law (pmL G L xs) 368 [(4, .int (nI i)), (3, .ref (9 + 16 * 2)), (2, .ref (6 + 16 * 0)), (1, .ref (5 + 16 * 0)), (0, .ref (13))] [] σ (mc + 20) (ms + 200) := by
  obtain ⟨k, V', hk, hv', hT, hMo⟩ := op_up (G := G) hl0 hR0.1 (xs (i + 1)) (1) (Or.inr rfl)
  obtain ⟨τ, ct, htr, hfr⟩ := hT σ hR0.2.1
  have hO : hl τ 9 2 = 1 := (hfr.1 9 2 ⟨by omega, by omega⟩).2.2.2.trans hR0.2.2.2
  obtain ⟨ρ, v, ct2, ⟨rfl, hth⟩, hmr, hfr2⟩ := hMo _ (hR0.2.2.1.frm hfr)
  have hR1 : RR ρ V' := ⟨hv', htr.frm hfr2, hmr, (hfr2.1 9 2 nT92).2.2.2.trans hO⟩
  refine e_aload_n d_L_law_368 rfl rfl ?_
  refine e_aload_n d_L_law_369 rfl rfl ?_
  refine e_iload d_L_law_370 rfl ?_
  refine e_iconst (v := 1) d_L_law_372 (by decide) ?_
  refine e_iadd d_L_law_373 ?_
  rw [show (nI i) + (1) = nI (i + 1) from by rw [show (1 : Int32) = nI 1 from by decide +kernel, nJ_add]]
  refine e_sld d_L_law_374 (show vp_in (nI (i + 1)) L from nI_in (by omega) (by omega)) ?_
  rw [nI_clamp (show i + 1 < 2 ^ 31 by omega)]
  refine e_aload_n d_L_law_375 rfl rfl ?_
  refine e_iload d_L_law_376 rfl ?_
  refine e_iconst (v := 2) d_L_law_378 (by decide) ?_
  refine e_iadd d_L_law_379 ?_
  rw [show (nI i) + (2) = nI (i + 2) from by rw [show (2 : Int32) = nI 2 from by decide +kernel, nJ_add]]
  refine e_sld d_L_law_380 (show vp_in (nI (i + 2)) L from nI_in (by omega) (by omega)) ?_
  rw [nI_clamp (show i + 2 < 2 ^ 31 by omega)]
  refine e_ifeq (tgt := 388) d_L_law_381 (by decide) (fun h381 => absurd h381 hz) (fun h381 => ?_)
  refine e_iconst (v := 1) d_L_law_384 (by decide) ?_
  refine e_goto (tgt := 389) d_L_law_385 (by decide) ?_
  refine e_callSh (v := some (.int (nI k))) (σ' := τ) (As := [.ref (5 + 16 * 0), .int (xs (i + 1)), .int (1)]) (st := []) (mc + 19) (ms + 194) d_L_law_389 ch_L_law_79 rfl (Nat.le_of_ble_eq_true rfl) (by show mc + 19 + 1 ≤ mc + 20; omega) (by show ms + 194 + 6 ≤ ms + 200; omega) (cw_L_up hl0 hk ct) ?_
  show Ex l G m_L_law (pmL G L xs) 392 [(4, .int (nI i)), (3, .ref (9 + 16 * 2)), (2, .ref (6 + 16 * 0)), (1, .ref (5 + 16 * 0)), (0, .ref (13))] [.int (nI k)] (τ) (mc + 19) (ms + 194)
  refine e_istore (lv' := [(5, .int (nI k)), (4, .int (nI i)), (3, .ref (9 + 16 * 2)), (2, .ref (6 + 16 * 0)), (1, .ref (5 + 16 * 0)), (0, .ref (13))]) d_L_law_392 (by decide) rfl ?_
  refine e_aload_n d_L_law_394 rfl rfl ?_
  refine e_aload_n d_L_law_395 rfl rfl ?_
  refine e_iload d_L_law_396 rfl ?_
  refine e_iconst (v := 1) d_L_law_398 (by decide) ?_
  refine e_iadd d_L_law_399 ?_
  rw [show (nI i) + (1) = nI (i + 1) from by rw [show (1 : Int32) = nI 1 from by decide +kernel, nJ_add]]
  refine e_sld d_L_law_400 (show vp_in (nI (i + 1)) L from nI_in (by omega) (by omega)) ?_
  rw [nI_clamp (show i + 1 < 2 ^ 31 by omega)]
  refine e_aload_n d_L_law_401 rfl rfl ?_
  refine e_iload d_L_law_402 rfl ?_
  refine e_iconst (v := 2) d_L_law_404 (by decide) ?_
  refine e_iadd d_L_law_405 ?_
  rw [show (nI i) + (2) = nI (i + 2) from by rw [show (2 : Int32) = nI 2 from by decide +kernel, nJ_add]]
  refine e_sld d_L_law_406 (show vp_in (nI (i + 2)) L from nI_in (by omega) (by omega)) ?_
  rw [nI_clamp (show i + 2 < 2 ^ 31 by omega)]
  refine e_ifeq (tgt := 414) d_L_law_407 (by decide) (fun h407 => absurd h407 hz) (fun h407 => ?_)
  refine e_iconst (v := 1) d_L_law_410 (by decide) ?_
  refine e_goto (tgt := 415) d_L_law_411 (by decide) ?_
  refine e_callVd (v := none) (σ' := ρ) (q := 6) (a := 0) (As := [.int (xs (i + 1)), .int (1)]) (st := []) (mc + 19) (ms + 194) d_L_law_415 cb_L_law_82 iv_M_up rfl ⟨by decide, rfl⟩ rfl (Nat.le_of_ble_eq_true rfl) (by show mc + 19 + 0 ≤ mc + 19; omega) (by show ms + 194 + 0 ≤ ms + 194; omega) (ct2) ?_
  show Ex l G m_L_law (pmL G L xs) 418 [(5, .int (nI k)), (4, .int (nI i)), (3, .ref (9 + 16 * 2)), (2, .ref (6 + 16 * 0)), (1, .ref (5 + 16 * 0)), (0, .ref (13))] [] (ρ) (mc + 19) (ms + 194)
  refine e_aload_n d_L_law_418 rfl rfl ?_
  refine e_callVd (v := some (.int (hI ρ 6 0 0))) (σ' := ρ) (q := 6) (a := 0) (As := []) (st := []) (mc + 19) (ms + 194) d_L_law_419 cb_L_law_71 iv_M_thrown rfl ⟨by decide, rfl⟩ rfl (Nat.le_of_ble_eq_true rfl) (by show mc + 19 + 0 ≤ mc + 19; omega) (by show ms + 194 + 0 ≤ ms + 194; omega) (ct_M_thrown hl0) ?_
  show Ex l G m_L_law (pmL G L xs) 422 [(5, .int (nI k)), (4, .int (nI i)), (3, .ref (9 + 16 * 2)), (2, .ref (6 + 16 * 0)), (1, .ref (5 + 16 * 0)), (0, .ref (13))] [.int (hI ρ 6 0 0)] (ρ) (mc + 19) (ms + 194)
  rw [hth]
  refine e_iload d_L_law_422 rfl ?_
  refine e_icmpeq (tgt := 429) d_L_law_424 (by decide) (fun h424 => ?_) (fun h424 => absurd rfl h424)
  refine e_goto (tgt := 1087) d_L_law_429 (by decide) ?_
  exact e_bg (mc' := mc) (ms' := ms) (by omega) (by omega) (e_lv (lv' := [(4, .int (nI i)), (3, .ref (9 + 16 * 2)), (2, .ref (6 + 16 * 0)), (1, .ref (5 + 16 * 0)), (0, .ref (13))]) ⟨rfl, rfl, rfl, rfl, rfl, trivial⟩ (hnext _ _ hR1))
set_option maxHeartbeats 4000000 in
theorem lc_priority {l : Launch} (hl0 : l.stackTraces = false) {G : LG} {L : Nat} {xs : Nat → Int32} {σ : HS} {V : AV} {i mc ms : Nat} (hR0 : RR σ V) (hi : i + 7 ≤ L) (hL : L ≤ 3584) (hnext : ∀ σ' V', RR σ' V' → Ex l G m_L_law (pmL G L xs) 1087 [(4, .int (nI i)), (3, .ref (9 + 16 * 2)), (2, .ref (6 + 16 * 0)), (1, .ref (5 + 16 * 0)), (0, .ref (13))] [] σ' mc ms) : Ex l G m_L_law (pmL G L xs) 432 [(4, .int (nI i)), (3, .ref (9 + 16 * 2)), (2, .ref (6 + 16 * 0)), (1, .ref (5 + 16 * 0)), (0, .ref (13))] [] σ (mc + 20) (ms + 200) := by
  obtain ⟨k, V', hk, hv', hT, hMo⟩ := op_priority (G := G) hl0 hR0.1 (xs (i + 1)) (xs (i + 2))
  obtain ⟨τ, ct, htr, hfr⟩ := hT σ hR0.2.1
  have hO : hl τ 9 2 = 1 := (hfr.1 9 2 ⟨by omega, by omega⟩).2.2.2.trans hR0.2.2.2
  obtain ⟨ρ, v, ct2, ⟨rfl, hth⟩, hmr, hfr2⟩ := hMo _ (hR0.2.2.1.frm hfr)
  have hR1 : RR ρ V' := ⟨hv', htr.frm hfr2, hmr, (hfr2.1 9 2 nT92).2.2.2.trans hO⟩
  refine e_aload_n d_L_law_432 rfl rfl ?_
  refine e_aload_n d_L_law_433 rfl rfl ?_
  refine e_iload d_L_law_434 rfl ?_
  refine e_iconst (v := 1) d_L_law_436 (by decide) ?_
  refine e_iadd d_L_law_437 ?_
  rw [show (nI i) + (1) = nI (i + 1) from by rw [show (1 : Int32) = nI 1 from by decide +kernel, nJ_add]]
  refine e_sld d_L_law_438 (show vp_in (nI (i + 1)) L from nI_in (by omega) (by omega)) ?_
  rw [nI_clamp (show i + 1 < 2 ^ 31 by omega)]
  refine e_aload_n d_L_law_439 rfl rfl ?_
  refine e_iload d_L_law_440 rfl ?_
  refine e_iconst (v := 2) d_L_law_442 (by decide) ?_
  refine e_iadd d_L_law_443 ?_
  rw [show (nI i) + (2) = nI (i + 2) from by rw [show (2 : Int32) = nI 2 from by decide +kernel, nJ_add]]
  refine e_sld d_L_law_444 (show vp_in (nI (i + 2)) L from nI_in (by omega) (by omega)) ?_
  rw [nI_clamp (show i + 2 < 2 ^ 31 by omega)]
  refine e_callSh (v := some (.int (nI k))) (σ' := τ) (As := [.ref (5 + 16 * 0), .int (xs (i + 1)), .int (xs (i + 2))]) (st := []) (mc + 18) (ms + 188) d_L_law_445 ch_L_law_83 rfl (Nat.le_of_ble_eq_true rfl) (by show mc + 18 + 2 ≤ mc + 20; omega) (by show ms + 188 + 12 ≤ ms + 200; omega) (cw_L_priority hl0 hk ct) ?_
  show Ex l G m_L_law (pmL G L xs) 448 [(4, .int (nI i)), (3, .ref (9 + 16 * 2)), (2, .ref (6 + 16 * 0)), (1, .ref (5 + 16 * 0)), (0, .ref (13))] [.int (nI k)] (τ) (mc + 18) (ms + 188)
  refine e_istore (lv' := [(5, .int (nI k)), (4, .int (nI i)), (3, .ref (9 + 16 * 2)), (2, .ref (6 + 16 * 0)), (1, .ref (5 + 16 * 0)), (0, .ref (13))]) d_L_law_448 (by decide) rfl ?_
  refine e_aload_n d_L_law_450 rfl rfl ?_
  refine e_aload_n d_L_law_451 rfl rfl ?_
  refine e_iload d_L_law_452 rfl ?_
  refine e_iconst (v := 1) d_L_law_454 (by decide) ?_
  refine e_iadd d_L_law_455 ?_
  rw [show (nI i) + (1) = nI (i + 1) from by rw [show (1 : Int32) = nI 1 from by decide +kernel, nJ_add]]
  refine e_sld d_L_law_456 (show vp_in (nI (i + 1)) L from nI_in (by omega) (by omega)) ?_
  rw [nI_clamp (show i + 1 < 2 ^ 31 by omega)]
  refine e_aload_n d_L_law_457 rfl rfl ?_
  refine e_iload d_L_law_458 rfl ?_
  refine e_iconst (v := 2) d_L_law_460 (by decide) ?_
  refine e_iadd d_L_law_461 ?_
  rw [show (nI i) + (2) = nI (i + 2) from by rw [show (2 : Int32) = nI 2 from by decide +kernel, nJ_add]]
  refine e_sld d_L_law_462 (show vp_in (nI (i + 2)) L from nI_in (by omega) (by omega)) ?_
  rw [nI_clamp (show i + 2 < 2 ^ 31 by omega)]
  refine e_callVd (v := none) (σ' := ρ) (q := 6) (a := 0) (As := [.int (xs (i + 1)), .int (xs (i + 2))]) (st := []) (mc + 18) (ms + 188) d_L_law_463 cb_L_law_86 iv_M_priority rfl ⟨by decide, rfl⟩ rfl (Nat.le_of_ble_eq_true rfl) (by show mc + 18 + 0 ≤ mc + 18; omega) (by show ms + 188 + 0 ≤ ms + 188; omega) (ct2) ?_
  show Ex l G m_L_law (pmL G L xs) 466 [(5, .int (nI k)), (4, .int (nI i)), (3, .ref (9 + 16 * 2)), (2, .ref (6 + 16 * 0)), (1, .ref (5 + 16 * 0)), (0, .ref (13))] [] (ρ) (mc + 18) (ms + 188)
  refine e_aload_n d_L_law_466 rfl rfl ?_
  refine e_callVd (v := some (.int (hI ρ 6 0 0))) (σ' := ρ) (q := 6) (a := 0) (As := []) (st := []) (mc + 18) (ms + 188) d_L_law_467 cb_L_law_71 iv_M_thrown rfl ⟨by decide, rfl⟩ rfl (Nat.le_of_ble_eq_true rfl) (by show mc + 18 + 0 ≤ mc + 18; omega) (by show ms + 188 + 0 ≤ ms + 188; omega) (ct_M_thrown hl0) ?_
  show Ex l G m_L_law (pmL G L xs) 470 [(5, .int (nI k)), (4, .int (nI i)), (3, .ref (9 + 16 * 2)), (2, .ref (6 + 16 * 0)), (1, .ref (5 + 16 * 0)), (0, .ref (13))] [.int (hI ρ 6 0 0)] (ρ) (mc + 18) (ms + 188)
  rw [hth]
  refine e_iload d_L_law_470 rfl ?_
  refine e_icmpeq (tgt := 477) d_L_law_472 (by decide) (fun h472 => ?_) (fun h472 => absurd rfl h472)
  refine e_goto (tgt := 1087) d_L_law_477 (by decide) ?_
  exact e_bg (mc' := mc) (ms' := ms) (by omega) (by omega) (e_lv (lv' := [(4, .int (nI i)), (3, .ref (9 + 16 * 2)), (2, .ref (6 + 16 * 0)), (1, .ref (5 + 16 * 0)), (0, .ref (13))]) ⟨rfl, rfl, rfl, rfl, rfl, trivial⟩ (hnext _ _ hR1))
set_option maxHeartbeats 4000000 in
theorem lc_round {l : Launch} (hl0 : l.stackTraces = false) {G : LG} {L : Nat} {xs : Nat → Int32} {σ : HS} {V : AV} {i mc ms : Nat} (hR0 : RR σ V) (hi : i + 7 ≤ L) (hL : L ≤ 3584) (hnext : ∀ σ' V', RR σ' V' → Ex l G m_L_law (pmL G L xs) 1087 [(4, .int (nI i)), (3, .ref (9 + 16 * 2)), (2, .ref (6 + 16 * 0)), (1, .ref (5 + 16 * 0)), (0, .ref (13))] [] σ' mc ms) : Ex l G m_L_law (pmL G L xs) 480 [(4, .int (nI i)), (3, .ref (9 + 16 * 2)), (2, .ref (6 + 16 * 0)), (1, .ref (5 + 16 * 0)), (0, .ref (13))] [] σ (mc + 20) (ms + 200) := by
  obtain ⟨k, x, V', hk, hv', hT, hMo⟩ := op_round (G := G) hl0 hR0.1 (xs (i + 1))
  have hk3 : k ≤ 3 := by omega
  obtain ⟨τ, ct, htr, hfr⟩ := hT σ hR0.2.1
  have hO : hl τ 9 2 = 1 := (hfr.1 9 2 ⟨by omega, by omega⟩).2.2.2.trans hR0.2.2.2
  have hm1 : MR (outS k τ ((x).toInt64)) V := (hR0.2.2.1.frm hfr).ous
  obtain ⟨ρ, v, ct2, ⟨⟨y, rfl, hy⟩, hth⟩, hmr, hfr2⟩ := hMo _ hm1
  have hR1 : RR ρ V' := ⟨hv', htr.ous.frm hfr2, hmr, (hfr2.1 9 2 nT92).2.2.2.trans (by rw [hl_outS]; exact hO)⟩
  refine e_aload_n d_L_law_480 rfl rfl ?_
  refine e_aload_n d_L_law_481 rfl rfl ?_
  refine e_iload d_L_law_482 rfl ?_
  refine e_iconst (v := 1) d_L_law_484 (by decide) ?_
  refine e_iadd d_L_law_485 ?_
  rw [show (nI i) + (1) = nI (i + 1) from by rw [show (1 : Int32) = nI 1 from by decide +kernel, nJ_add]]
  refine e_sld d_L_law_486 (show vp_in (nI (i + 1)) L from nI_in (by omega) (by omega)) ?_
  rw [nI_clamp (show i + 1 < 2 ^ 31 by omega)]
  refine e_aload_n d_L_law_487 rfl rfl ?_
  refine e_callSh (v := some (.int (nI k))) (σ' := outS k τ ((x).toInt64)) (As := [.ref (5 + 16 * 0), .int (xs (i + 1)), .ref (9 + 16 * 2)]) (st := []) (mc + 19) (ms + 194) d_L_law_488 ch_L_law_87 rfl (Nat.le_of_ble_eq_true rfl) (by show mc + 19 + 1 ≤ mc + 20; omega) (by show ms + 194 + 6 ≤ ms + 200; omega) (cw_L_round hl0 hk hO ct) ?_
  show Ex l G m_L_law (pmL G L xs) 491 [(4, .int (nI i)), (3, .ref (9 + 16 * 2)), (2, .ref (6 + 16 * 0)), (1, .ref (5 + 16 * 0)), (0, .ref (13))] [.int (nI k)] (outS k τ ((x).toInt64)) (mc + 19) (ms + 194)
  refine e_istore (lv' := [(5, .int (nI k)), (4, .int (nI i)), (3, .ref (9 + 16 * 2)), (2, .ref (6 + 16 * 0)), (1, .ref (5 + 16 * 0)), (0, .ref (13))]) d_L_law_491 (by decide) rfl ?_
  refine e_aload_n d_L_law_493 rfl rfl ?_
  refine e_aload_n d_L_law_494 rfl rfl ?_
  refine e_iload d_L_law_495 rfl ?_
  refine e_iconst (v := 1) d_L_law_497 (by decide) ?_
  refine e_iadd d_L_law_498 ?_
  rw [show (nI i) + (1) = nI (i + 1) from by rw [show (1 : Int32) = nI 1 from by decide +kernel, nJ_add]]
  refine e_sld d_L_law_499 (show vp_in (nI (i + 1)) L from nI_in (by omega) (by omega)) ?_
  rw [nI_clamp (show i + 1 < 2 ^ 31 by omega)]
  refine e_callVd (v := some (.int (y))) (σ' := ρ) (q := 6) (a := 0) (As := [.int (xs (i + 1))]) (st := []) (mc + 19) (ms + 194) d_L_law_500 cb_L_law_90 iv_M_round rfl ⟨by decide, rfl⟩ rfl (Nat.le_of_ble_eq_true rfl) (by show mc + 19 + 0 ≤ mc + 19; omega) (by show ms + 194 + 0 ≤ ms + 194; omega) (ct2) ?_
  show Ex l G m_L_law (pmL G L xs) 503 [(5, .int (nI k)), (4, .int (nI i)), (3, .ref (9 + 16 * 2)), (2, .ref (6 + 16 * 0)), (1, .ref (5 + 16 * 0)), (0, .ref (13))] [.int (y)] (ρ) (mc + 19) (ms + 194)
  refine e_istore (lv' := [(6, .int (y)), (5, .int (nI k)), (4, .int (nI i)), (3, .ref (9 + 16 * 2)), (2, .ref (6 + 16 * 0)), (1, .ref (5 + 16 * 0)), (0, .ref (13))]) d_L_law_503 (by decide) rfl ?_
  refine e_aload_n d_L_law_505 rfl rfl ?_
  refine e_callVd (v := some (.int (hI ρ 6 0 0))) (σ' := ρ) (q := 6) (a := 0) (As := []) (st := []) (mc + 19) (ms + 194) d_L_law_506 cb_L_law_71 iv_M_thrown rfl ⟨by decide, rfl⟩ rfl (Nat.le_of_ble_eq_true rfl) (by show mc + 19 + 0 ≤ mc + 19; omega) (by show ms + 194 + 0 ≤ ms + 194; omega) (ct_M_thrown hl0) ?_
  show Ex l G m_L_law (pmL G L xs) 509 [(6, .int (y)), (5, .int (nI k)), (4, .int (nI i)), (3, .ref (9 + 16 * 2)), (2, .ref (6 + 16 * 0)), (1, .ref (5 + 16 * 0)), (0, .ref (13))] [.int (hI ρ 6 0 0)] (ρ) (mc + 19) (ms + 194)
  rw [hth]
  refine e_iload d_L_law_509 rfl ?_
  refine e_icmpeq (tgt := 516) d_L_law_511 (by decide) (fun h511 => ?_) (fun h511 => absurd rfl h511)
  refine e_iload d_L_law_516 rfl ?_
  refine e_ifne (tgt := 533) d_L_law_518 (by decide) (fun h518 => ?_) (fun h518 => ?_)
  ·
    refine e_goto (tgt := 1087) d_L_law_533 (by decide) ?_
    exact e_bg (mc' := mc) (ms' := ms) (by omega) (by omega) (e_lv (lv' := [(4, .int (nI i)), (3, .ref (9 + 16 * 2)), (2, .ref (6 + 16 * 0)), (1, .ref (5 + 16 * 0)), (0, .ref (13))]) ⟨rfl, rfl, rfl, rfl, rfl, trivial⟩ (hnext _ _ hR1))
  ·
    refine e_aload_n d_L_law_521 rfl rfl ?_
    refine e_iconst (v := 0) d_L_law_522 (by decide) ?_
    refine e_lald d_L_law_523 (by rw [hR1.2.2.2]; unfold vp_in; decide +kernel) ?_
    rw [show hJ (ρ) 9 (2) (0 : Int32).toNatClampNeg = (y).toInt64 from by rw [J_outS hk3 hfr2 h518, hy (k_0 hk3 h518)]]
    refine e_iload d_L_law_524 rfl ?_
    refine e_i2l d_L_law_526 ?_
    refine e_lcmp d_L_law_527 ?_
    refine e_ifeq (tgt := 533) d_L_law_528 (by decide) (fun h528 => ?_) (fun h528 => absurd lg_self h528)
    refine e_goto (tgt := 1087) d_L_law_533 (by decide) ?_
    exact e_bg (mc' := mc) (ms' := ms) (by omega) (by omega) (e_lv (lv' := [(4, .int (nI i)), (3, .ref (9 + 16 * 2)), (2, .ref (6 + 16 * 0)), (1, .ref (5 + 16 * 0)), (0, .ref (13))]) ⟨rfl, rfl, rfl, rfl, rfl, trivial⟩ (hnext _ _ hR1))
set_option maxHeartbeats 4000000 in
theorem lc_settle {l : Launch} (hl0 : l.stackTraces = false) {G : LG} {L : Nat} {xs : Nat → Int32} {σ : HS} {V : AV} {i mc ms : Nat} (hR0 : RR σ V) (hi : i + 7 ≤ L) (hL : L ≤ 3584) (hnext : ∀ σ' V', RR σ' V' → Ex l G m_L_law (pmL G L xs) 1087 [(4, .int (nI i)), (3, .ref (9 + 16 * 2)), (2, .ref (6 + 16 * 0)), (1, .ref (5 + 16 * 0)), (0, .ref (13))] [] σ' mc ms) : Ex l G m_L_law (pmL G L xs) 536 [(4, .int (nI i)), (3, .ref (9 + 16 * 2)), (2, .ref (6 + 16 * 0)), (1, .ref (5 + 16 * 0)), (0, .ref (13))] [] σ (mc + 20) (ms + 200) := by
  obtain ⟨x, V', hv', hT, hMo⟩ := op_settle (G := G) hl0 hR0.1 
  obtain ⟨τ, ct, htr, hfr⟩ := hT σ hR0.2.1
  have hO : hl τ 9 2 = 1 := (hfr.1 9 2 ⟨by omega, by omega⟩).2.2.2.trans hR0.2.2.2
  obtain ⟨ρ, v, ct2, rfl, hmr, hfr2⟩ := hMo _ (hR0.2.2.1.frm hfr)
  have hR1 : RR ρ V' := ⟨hv', htr.frm hfr2, hmr, (hfr2.1 9 2 nT92).2.2.2.trans hO⟩
  refine e_aload_n d_L_law_536 rfl rfl ?_
  refine e_callVd (v := some (.int (x))) (σ' := τ) (q := 5) (a := 0) (As := []) (st := []) (mc + 20) (ms + 200) d_L_law_537 cb_L_law_91 iv_T_settle rfl ⟨by decide, rfl⟩ rfl (Nat.le_of_ble_eq_true rfl) (by show mc + 20 + 0 ≤ mc + 20; omega) (by show ms + 200 + 0 ≤ ms + 200; omega) (ct) ?_
  show Ex l G m_L_law (pmL G L xs) 540 [(4, .int (nI i)), (3, .ref (9 + 16 * 2)), (2, .ref (6 + 16 * 0)), (1, .ref (5 + 16 * 0)), (0, .ref (13))] [.int (x)] (τ) (mc + 20) (ms + 200)
  refine e_aload_n d_L_law_540 rfl rfl ?_
  refine e_callVd (v := some (.int (x))) (σ' := ρ) (q := 6) (a := 0) (As := []) (st := [.int (x)]) (mc + 20) (ms + 200) d_L_law_541 cb_L_law_94 iv_M_settle rfl ⟨by decide, rfl⟩ rfl (Nat.le_of_ble_eq_true rfl) (by show mc + 20 + 0 ≤ mc + 20; omega) (by show ms + 200 + 0 ≤ ms + 200; omega) (ct2) ?_
  show Ex l G m_L_law (pmL G L xs) 544 [(4, .int (nI i)), (3, .ref (9 + 16 * 2)), (2, .ref (6 + 16 * 0)), (1, .ref (5 + 16 * 0)), (0, .ref (13))] [.int (x), .int (x)] (ρ) (mc + 20) (ms + 200)
  refine e_icmpeq (tgt := 1087) d_L_law_544 (by decide) (fun h544 => ?_) (fun h544 => absurd rfl h544)
  exact e_bg (mc' := mc) (ms' := ms) (by omega) (by omega) (e_lv (lv' := [(4, .int (nI i)), (3, .ref (9 + 16 * 2)), (2, .ref (6 + 16 * 0)), (1, .ref (5 + 16 * 0)), (0, .ref (13))]) ⟨rfl, rfl, rfl, rfl, rfl, trivial⟩ (hnext _ _ hR1))
set_option maxHeartbeats 4000000 in
theorem lc_state {l : Launch} (hl0 : l.stackTraces = false) {G : LG} {L : Nat} {xs : Nat → Int32} {σ : HS} {V : AV} {i mc ms : Nat} (hR0 : RR σ V) (hi : i + 7 ≤ L) (hL : L ≤ 3584) (hnext : ∀ σ' V', RR σ' V' → Ex l G m_L_law (pmL G L xs) 1087 [(4, .int (nI i)), (3, .ref (9 + 16 * 2)), (2, .ref (6 + 16 * 0)), (1, .ref (5 + 16 * 0)), (0, .ref (13))] [] σ' mc ms) : Ex l G m_L_law (pmL G L xs) 549 [(4, .int (nI i)), (3, .ref (9 + 16 * 2)), (2, .ref (6 + 16 * 0)), (1, .ref (5 + 16 * 0)), (0, .ref (13))] [] σ (mc + 20) (ms + 200) := by
  obtain ⟨k, x, V', hk, hv', hT, hMo⟩ := op_state (G := G) hl0 hR0.1 (xs (i + 1)) (xs (i + 2))
  have hk3 : k ≤ 3 := by omega
  obtain ⟨τ, ct, htr, hfr⟩ := hT σ hR0.2.1
  have hO : hl τ 9 2 = 1 := (hfr.1 9 2 ⟨by omega, by omega⟩).2.2.2.trans hR0.2.2.2
  have hm1 : MR (outS k τ ((x).toInt64)) V := (hR0.2.2.1.frm hfr).ous
  obtain ⟨ρ, v, ct2, ⟨⟨y, rfl, hy⟩, hth⟩, hmr, hfr2⟩ := hMo _ hm1
  have hR1 : RR ρ V' := ⟨hv', htr.ous.frm hfr2, hmr, (hfr2.1 9 2 nT92).2.2.2.trans (by rw [hl_outS]; exact hO)⟩
  refine e_aload_n d_L_law_549 rfl rfl ?_
  refine e_aload_n d_L_law_550 rfl rfl ?_
  refine e_iload d_L_law_551 rfl ?_
  refine e_iconst (v := 1) d_L_law_553 (by decide) ?_
  refine e_iadd d_L_law_554 ?_
  rw [show (nI i) + (1) = nI (i + 1) from by rw [show (1 : Int32) = nI 1 from by decide +kernel, nJ_add]]
  refine e_sld d_L_law_555 (show vp_in (nI (i + 1)) L from nI_in (by omega) (by omega)) ?_
  rw [nI_clamp (show i + 1 < 2 ^ 31 by omega)]
  refine e_aload_n d_L_law_556 rfl rfl ?_
  refine e_iload d_L_law_557 rfl ?_
  refine e_iconst (v := 2) d_L_law_559 (by decide) ?_
  refine e_iadd d_L_law_560 ?_
  rw [show (nI i) + (2) = nI (i + 2) from by rw [show (2 : Int32) = nI 2 from by decide +kernel, nJ_add]]
  refine e_sld d_L_law_561 (show vp_in (nI (i + 2)) L from nI_in (by omega) (by omega)) ?_
  rw [nI_clamp (show i + 2 < 2 ^ 31 by omega)]
  refine e_aload_n d_L_law_562 rfl rfl ?_
  refine e_callSh (v := some (.int (nI k))) (σ' := outS k τ ((x).toInt64)) (As := [.ref (5 + 16 * 0), .int (xs (i + 1)), .int (xs (i + 2)), .ref (9 + 16 * 2)]) (st := []) (mc + 18) (ms + 188) d_L_law_563 ch_L_law_95 rfl (Nat.le_of_ble_eq_true rfl) (by show mc + 18 + 2 ≤ mc + 20; omega) (by show ms + 188 + 12 ≤ ms + 200; omega) (cw_L_state hl0 hk hO ct) ?_
  show Ex l G m_L_law (pmL G L xs) 566 [(4, .int (nI i)), (3, .ref (9 + 16 * 2)), (2, .ref (6 + 16 * 0)), (1, .ref (5 + 16 * 0)), (0, .ref (13))] [.int (nI k)] (outS k τ ((x).toInt64)) (mc + 18) (ms + 188)
  refine e_istore (lv' := [(5, .int (nI k)), (4, .int (nI i)), (3, .ref (9 + 16 * 2)), (2, .ref (6 + 16 * 0)), (1, .ref (5 + 16 * 0)), (0, .ref (13))]) d_L_law_566 (by decide) rfl ?_
  refine e_aload_n d_L_law_568 rfl rfl ?_
  refine e_aload_n d_L_law_569 rfl rfl ?_
  refine e_iload d_L_law_570 rfl ?_
  refine e_iconst (v := 1) d_L_law_572 (by decide) ?_
  refine e_iadd d_L_law_573 ?_
  rw [show (nI i) + (1) = nI (i + 1) from by rw [show (1 : Int32) = nI 1 from by decide +kernel, nJ_add]]
  refine e_sld d_L_law_574 (show vp_in (nI (i + 1)) L from nI_in (by omega) (by omega)) ?_
  rw [nI_clamp (show i + 1 < 2 ^ 31 by omega)]
  refine e_aload_n d_L_law_575 rfl rfl ?_
  refine e_iload d_L_law_576 rfl ?_
  refine e_iconst (v := 2) d_L_law_578 (by decide) ?_
  refine e_iadd d_L_law_579 ?_
  rw [show (nI i) + (2) = nI (i + 2) from by rw [show (2 : Int32) = nI 2 from by decide +kernel, nJ_add]]
  refine e_sld d_L_law_580 (show vp_in (nI (i + 2)) L from nI_in (by omega) (by omega)) ?_
  rw [nI_clamp (show i + 2 < 2 ^ 31 by omega)]
  refine e_callVd (v := some (.int (y))) (σ' := ρ) (q := 6) (a := 0) (As := [.int (xs (i + 1)), .int (xs (i + 2))]) (st := []) (mc + 18) (ms + 188) d_L_law_581 cb_L_law_98 iv_M_state rfl ⟨by decide, rfl⟩ rfl (Nat.le_of_ble_eq_true rfl) (by show mc + 18 + 0 ≤ mc + 18; omega) (by show ms + 188 + 0 ≤ ms + 188; omega) (ct2) ?_
  show Ex l G m_L_law (pmL G L xs) 584 [(5, .int (nI k)), (4, .int (nI i)), (3, .ref (9 + 16 * 2)), (2, .ref (6 + 16 * 0)), (1, .ref (5 + 16 * 0)), (0, .ref (13))] [.int (y)] (ρ) (mc + 18) (ms + 188)
  refine e_istore (lv' := [(6, .int (y)), (5, .int (nI k)), (4, .int (nI i)), (3, .ref (9 + 16 * 2)), (2, .ref (6 + 16 * 0)), (1, .ref (5 + 16 * 0)), (0, .ref (13))]) d_L_law_584 (by decide) rfl ?_
  refine e_aload_n d_L_law_586 rfl rfl ?_
  refine e_callVd (v := some (.int (hI ρ 6 0 0))) (σ' := ρ) (q := 6) (a := 0) (As := []) (st := []) (mc + 18) (ms + 188) d_L_law_587 cb_L_law_71 iv_M_thrown rfl ⟨by decide, rfl⟩ rfl (Nat.le_of_ble_eq_true rfl) (by show mc + 18 + 0 ≤ mc + 18; omega) (by show ms + 188 + 0 ≤ ms + 188; omega) (ct_M_thrown hl0) ?_
  show Ex l G m_L_law (pmL G L xs) 590 [(6, .int (y)), (5, .int (nI k)), (4, .int (nI i)), (3, .ref (9 + 16 * 2)), (2, .ref (6 + 16 * 0)), (1, .ref (5 + 16 * 0)), (0, .ref (13))] [.int (hI ρ 6 0 0)] (ρ) (mc + 18) (ms + 188)
  rw [hth]
  refine e_iload d_L_law_590 rfl ?_
  refine e_icmpeq (tgt := 597) d_L_law_592 (by decide) (fun h592 => ?_) (fun h592 => absurd rfl h592)
  refine e_iload d_L_law_597 rfl ?_
  refine e_ifne (tgt := 614) d_L_law_599 (by decide) (fun h599 => ?_) (fun h599 => ?_)
  ·
    refine e_goto (tgt := 1087) d_L_law_614 (by decide) ?_
    exact e_bg (mc' := mc) (ms' := ms) (by omega) (by omega) (e_lv (lv' := [(4, .int (nI i)), (3, .ref (9 + 16 * 2)), (2, .ref (6 + 16 * 0)), (1, .ref (5 + 16 * 0)), (0, .ref (13))]) ⟨rfl, rfl, rfl, rfl, rfl, trivial⟩ (hnext _ _ hR1))
  ·
    refine e_aload_n d_L_law_602 rfl rfl ?_
    refine e_iconst (v := 0) d_L_law_603 (by decide) ?_
    refine e_lald d_L_law_604 (by rw [hR1.2.2.2]; unfold vp_in; decide +kernel) ?_
    rw [show hJ (ρ) 9 (2) (0 : Int32).toNatClampNeg = (y).toInt64 from by rw [J_outS hk3 hfr2 h599, hy (k_0 hk3 h599)]]
    refine e_iload d_L_law_605 rfl ?_
    refine e_i2l d_L_law_607 ?_
    refine e_lcmp d_L_law_608 ?_
    refine e_ifeq (tgt := 614) d_L_law_609 (by decide) (fun h609 => ?_) (fun h609 => absurd lg_self h609)
    refine e_goto (tgt := 1087) d_L_law_614 (by decide) ?_
    exact e_bg (mc' := mc) (ms' := ms) (by omega) (by omega) (e_lv (lv' := [(4, .int (nI i)), (3, .ref (9 + 16 * 2)), (2, .ref (6 + 16 * 0)), (1, .ref (5 + 16 * 0)), (0, .ref (13))]) ⟨rfl, rfl, rfl, rfl, rfl, trivial⟩ (hnext _ _ hR1))
set_option maxHeartbeats 4000000 in
theorem lc_root {l : Launch} (hl0 : l.stackTraces = false) {G : LG} {L : Nat} {xs : Nat → Int32} {σ : HS} {V : AV} {i mc ms : Nat} (hR0 : RR σ V) (hi : i + 7 ≤ L) (hL : L ≤ 3584) (hnext : ∀ σ' V', RR σ' V' → Ex l G m_L_law (pmL G L xs) 1087 [(4, .int (nI i)), (3, .ref (9 + 16 * 2)), (2, .ref (6 + 16 * 0)), (1, .ref (5 + 16 * 0)), (0, .ref (13))] [] σ' mc ms) : Ex l G m_L_law (pmL G L xs) 617 [(4, .int (nI i)), (3, .ref (9 + 16 * 2)), (2, .ref (6 + 16 * 0)), (1, .ref (5 + 16 * 0)), (0, .ref (13))] [] σ (mc + 20) (ms + 200) := by
  obtain ⟨k, x, V', hk, hv', hT, hMo⟩ := op_root (G := G) hl0 hR0.1 (xs (i + 1))
  have hk3 : k ≤ 3 := by omega
  obtain ⟨τ, ct, htr, hfr⟩ := hT σ hR0.2.1
  have hO : hl τ 9 2 = 1 := (hfr.1 9 2 ⟨by omega, by omega⟩).2.2.2.trans hR0.2.2.2
  have hm1 : MR (outS k τ ((x).toInt64)) V := (hR0.2.2.1.frm hfr).ous
  obtain ⟨ρ, v, ct2, ⟨⟨y, rfl, hy⟩, hth⟩, hmr, hfr2⟩ := hMo _ hm1
  have hR1 : RR ρ V' := ⟨hv', htr.ous.frm hfr2, hmr, (hfr2.1 9 2 nT92).2.2.2.trans (by rw [hl_outS]; exact hO)⟩
  refine e_aload_n d_L_law_617 rfl rfl ?_
  refine e_aload_n d_L_law_618 rfl rfl ?_
  refine e_iload d_L_law_619 rfl ?_
  refine e_iconst (v := 1) d_L_law_621 (by decide) ?_
  refine e_iadd d_L_law_622 ?_
  rw [show (nI i) + (1) = nI (i + 1) from by rw [show (1 : Int32) = nI 1 from by decide +kernel, nJ_add]]
  refine e_sld d_L_law_623 (show vp_in (nI (i + 1)) L from nI_in (by omega) (by omega)) ?_
  rw [nI_clamp (show i + 1 < 2 ^ 31 by omega)]
  refine e_aload_n d_L_law_624 rfl rfl ?_
  refine e_callSh (v := some (.int (nI k))) (σ' := outS k τ ((x).toInt64)) (As := [.ref (5 + 16 * 0), .int (xs (i + 1)), .ref (9 + 16 * 2)]) (st := []) (mc + 19) (ms + 194) d_L_law_625 ch_L_law_99 rfl (Nat.le_of_ble_eq_true rfl) (by show mc + 19 + 1 ≤ mc + 20; omega) (by show ms + 194 + 6 ≤ ms + 200; omega) (cw_L_root hl0 hk hO ct) ?_
  show Ex l G m_L_law (pmL G L xs) 628 [(4, .int (nI i)), (3, .ref (9 + 16 * 2)), (2, .ref (6 + 16 * 0)), (1, .ref (5 + 16 * 0)), (0, .ref (13))] [.int (nI k)] (outS k τ ((x).toInt64)) (mc + 19) (ms + 194)
  refine e_istore (lv' := [(5, .int (nI k)), (4, .int (nI i)), (3, .ref (9 + 16 * 2)), (2, .ref (6 + 16 * 0)), (1, .ref (5 + 16 * 0)), (0, .ref (13))]) d_L_law_628 (by decide) rfl ?_
  refine e_aload_n d_L_law_630 rfl rfl ?_
  refine e_aload_n d_L_law_631 rfl rfl ?_
  refine e_iload d_L_law_632 rfl ?_
  refine e_iconst (v := 1) d_L_law_634 (by decide) ?_
  refine e_iadd d_L_law_635 ?_
  rw [show (nI i) + (1) = nI (i + 1) from by rw [show (1 : Int32) = nI 1 from by decide +kernel, nJ_add]]
  refine e_sld d_L_law_636 (show vp_in (nI (i + 1)) L from nI_in (by omega) (by omega)) ?_
  rw [nI_clamp (show i + 1 < 2 ^ 31 by omega)]
  refine e_callVd (v := some (.int (y))) (σ' := ρ) (q := 6) (a := 0) (As := [.int (xs (i + 1))]) (st := []) (mc + 19) (ms + 194) d_L_law_637 cb_L_law_101 iv_M_root rfl ⟨by decide, rfl⟩ rfl (Nat.le_of_ble_eq_true rfl) (by show mc + 19 + 0 ≤ mc + 19; omega) (by show ms + 194 + 0 ≤ ms + 194; omega) (ct2) ?_
  show Ex l G m_L_law (pmL G L xs) 640 [(5, .int (nI k)), (4, .int (nI i)), (3, .ref (9 + 16 * 2)), (2, .ref (6 + 16 * 0)), (1, .ref (5 + 16 * 0)), (0, .ref (13))] [.int (y)] (ρ) (mc + 19) (ms + 194)
  refine e_istore (lv' := [(6, .int (y)), (5, .int (nI k)), (4, .int (nI i)), (3, .ref (9 + 16 * 2)), (2, .ref (6 + 16 * 0)), (1, .ref (5 + 16 * 0)), (0, .ref (13))]) d_L_law_640 (by decide) rfl ?_
  refine e_aload_n d_L_law_642 rfl rfl ?_
  refine e_callVd (v := some (.int (hI ρ 6 0 0))) (σ' := ρ) (q := 6) (a := 0) (As := []) (st := []) (mc + 19) (ms + 194) d_L_law_643 cb_L_law_71 iv_M_thrown rfl ⟨by decide, rfl⟩ rfl (Nat.le_of_ble_eq_true rfl) (by show mc + 19 + 0 ≤ mc + 19; omega) (by show ms + 194 + 0 ≤ ms + 194; omega) (ct_M_thrown hl0) ?_
  show Ex l G m_L_law (pmL G L xs) 646 [(6, .int (y)), (5, .int (nI k)), (4, .int (nI i)), (3, .ref (9 + 16 * 2)), (2, .ref (6 + 16 * 0)), (1, .ref (5 + 16 * 0)), (0, .ref (13))] [.int (hI ρ 6 0 0)] (ρ) (mc + 19) (ms + 194)
  rw [hth]
  refine e_iload d_L_law_646 rfl ?_
  refine e_icmpeq (tgt := 653) d_L_law_648 (by decide) (fun h648 => ?_) (fun h648 => absurd rfl h648)
  refine e_iload d_L_law_653 rfl ?_
  refine e_ifne (tgt := 670) d_L_law_655 (by decide) (fun h655 => ?_) (fun h655 => ?_)
  ·
    refine e_goto (tgt := 1087) d_L_law_670 (by decide) ?_
    exact e_bg (mc' := mc) (ms' := ms) (by omega) (by omega) (e_lv (lv' := [(4, .int (nI i)), (3, .ref (9 + 16 * 2)), (2, .ref (6 + 16 * 0)), (1, .ref (5 + 16 * 0)), (0, .ref (13))]) ⟨rfl, rfl, rfl, rfl, rfl, trivial⟩ (hnext _ _ hR1))
  ·
    refine e_aload_n d_L_law_658 rfl rfl ?_
    refine e_iconst (v := 0) d_L_law_659 (by decide) ?_
    refine e_lald d_L_law_660 (by rw [hR1.2.2.2]; unfold vp_in; decide +kernel) ?_
    rw [show hJ (ρ) 9 (2) (0 : Int32).toNatClampNeg = (y).toInt64 from by rw [J_outS hk3 hfr2 h655, hy (k_0 hk3 h655)]]
    refine e_iload d_L_law_661 rfl ?_
    refine e_i2l d_L_law_663 ?_
    refine e_lcmp d_L_law_664 ?_
    refine e_ifeq (tgt := 670) d_L_law_665 (by decide) (fun h665 => ?_) (fun h665 => absurd lg_self h665)
    refine e_goto (tgt := 1087) d_L_law_670 (by decide) ?_
    exact e_bg (mc' := mc) (ms' := ms) (by omega) (by omega) (e_lv (lv' := [(4, .int (nI i)), (3, .ref (9 + 16 * 2)), (2, .ref (6 + 16 * 0)), (1, .ref (5 + 16 * 0)), (0, .ref (13))]) ⟨rfl, rfl, rfl, rfl, rfl, trivial⟩ (hnext _ _ hR1))
set_option maxHeartbeats 4000000 in
theorem lc_steps {l : Launch} (hl0 : l.stackTraces = false) {G : LG} {L : Nat} {xs : Nat → Int32} {σ : HS} {V : AV} {i mc ms : Nat} (hR0 : RR σ V) (hi : i + 7 ≤ L) (hL : L ≤ 3584) (hnext : ∀ σ' V', RR σ' V' → Ex l G m_L_law (pmL G L xs) 1087 [(4, .int (nI i)), (3, .ref (9 + 16 * 2)), (2, .ref (6 + 16 * 0)), (1, .ref (5 + 16 * 0)), (0, .ref (13))] [] σ' mc ms) : Ex l G m_L_law (pmL G L xs) 673 [(4, .int (nI i)), (3, .ref (9 + 16 * 2)), (2, .ref (6 + 16 * 0)), (1, .ref (5 + 16 * 0)), (0, .ref (13))] [] σ (mc + 20) (ms + 200) := by
  obtain ⟨k, x, V', hk, hv', hT, hMo⟩ := op_steps (G := G) hl0 hR0.1 (xs (i + 1))
  have hk3 : k ≤ 3 := by omega
  obtain ⟨τ, ct, htr, hfr⟩ := hT σ hR0.2.1
  have hO : hl τ 9 2 = 1 := (hfr.1 9 2 ⟨by omega, by omega⟩).2.2.2.trans hR0.2.2.2
  have hm1 : MR (outS k τ ((x).toInt64)) V := (hR0.2.2.1.frm hfr).ous
  obtain ⟨ρ, v, ct2, ⟨⟨y, rfl, hy⟩, hth⟩, hmr, hfr2⟩ := hMo _ hm1
  have hR1 : RR ρ V' := ⟨hv', htr.ous.frm hfr2, hmr, (hfr2.1 9 2 nT92).2.2.2.trans (by rw [hl_outS]; exact hO)⟩
  refine e_aload_n d_L_law_673 rfl rfl ?_
  refine e_aload_n d_L_law_674 rfl rfl ?_
  refine e_iload d_L_law_675 rfl ?_
  refine e_iconst (v := 1) d_L_law_677 (by decide) ?_
  refine e_iadd d_L_law_678 ?_
  rw [show (nI i) + (1) = nI (i + 1) from by rw [show (1 : Int32) = nI 1 from by decide +kernel, nJ_add]]
  refine e_sld d_L_law_679 (show vp_in (nI (i + 1)) L from nI_in (by omega) (by omega)) ?_
  rw [nI_clamp (show i + 1 < 2 ^ 31 by omega)]
  refine e_aload_n d_L_law_680 rfl rfl ?_
  refine e_callSh (v := some (.int (nI k))) (σ' := outS k τ ((x).toInt64)) (As := [.ref (5 + 16 * 0), .int (xs (i + 1)), .ref (9 + 16 * 2)]) (st := []) (mc + 19) (ms + 194) d_L_law_681 ch_L_law_102 rfl (Nat.le_of_ble_eq_true rfl) (by show mc + 19 + 1 ≤ mc + 20; omega) (by show ms + 194 + 6 ≤ ms + 200; omega) (cw_L_steps hl0 hk hO ct) ?_
  show Ex l G m_L_law (pmL G L xs) 684 [(4, .int (nI i)), (3, .ref (9 + 16 * 2)), (2, .ref (6 + 16 * 0)), (1, .ref (5 + 16 * 0)), (0, .ref (13))] [.int (nI k)] (outS k τ ((x).toInt64)) (mc + 19) (ms + 194)
  refine e_istore (lv' := [(5, .int (nI k)), (4, .int (nI i)), (3, .ref (9 + 16 * 2)), (2, .ref (6 + 16 * 0)), (1, .ref (5 + 16 * 0)), (0, .ref (13))]) d_L_law_684 (by decide) rfl ?_
  refine e_aload_n d_L_law_686 rfl rfl ?_
  refine e_aload_n d_L_law_687 rfl rfl ?_
  refine e_iload d_L_law_688 rfl ?_
  refine e_iconst (v := 1) d_L_law_690 (by decide) ?_
  refine e_iadd d_L_law_691 ?_
  rw [show (nI i) + (1) = nI (i + 1) from by rw [show (1 : Int32) = nI 1 from by decide +kernel, nJ_add]]
  refine e_sld d_L_law_692 (show vp_in (nI (i + 1)) L from nI_in (by omega) (by omega)) ?_
  rw [nI_clamp (show i + 1 < 2 ^ 31 by omega)]
  refine e_callVd (v := some (.int (y))) (σ' := ρ) (q := 6) (a := 0) (As := [.int (xs (i + 1))]) (st := []) (mc + 19) (ms + 194) d_L_law_693 cb_L_law_104 iv_M_steps rfl ⟨by decide, rfl⟩ rfl (Nat.le_of_ble_eq_true rfl) (by show mc + 19 + 0 ≤ mc + 19; omega) (by show ms + 194 + 0 ≤ ms + 194; omega) (ct2) ?_
  show Ex l G m_L_law (pmL G L xs) 696 [(5, .int (nI k)), (4, .int (nI i)), (3, .ref (9 + 16 * 2)), (2, .ref (6 + 16 * 0)), (1, .ref (5 + 16 * 0)), (0, .ref (13))] [.int (y)] (ρ) (mc + 19) (ms + 194)
  refine e_istore (lv' := [(6, .int (y)), (5, .int (nI k)), (4, .int (nI i)), (3, .ref (9 + 16 * 2)), (2, .ref (6 + 16 * 0)), (1, .ref (5 + 16 * 0)), (0, .ref (13))]) d_L_law_696 (by decide) rfl ?_
  refine e_aload_n d_L_law_698 rfl rfl ?_
  refine e_callVd (v := some (.int (hI ρ 6 0 0))) (σ' := ρ) (q := 6) (a := 0) (As := []) (st := []) (mc + 19) (ms + 194) d_L_law_699 cb_L_law_71 iv_M_thrown rfl ⟨by decide, rfl⟩ rfl (Nat.le_of_ble_eq_true rfl) (by show mc + 19 + 0 ≤ mc + 19; omega) (by show ms + 194 + 0 ≤ ms + 194; omega) (ct_M_thrown hl0) ?_
  show Ex l G m_L_law (pmL G L xs) 702 [(6, .int (y)), (5, .int (nI k)), (4, .int (nI i)), (3, .ref (9 + 16 * 2)), (2, .ref (6 + 16 * 0)), (1, .ref (5 + 16 * 0)), (0, .ref (13))] [.int (hI ρ 6 0 0)] (ρ) (mc + 19) (ms + 194)
  rw [hth]
  refine e_iload d_L_law_702 rfl ?_
  refine e_icmpeq (tgt := 709) d_L_law_704 (by decide) (fun h704 => ?_) (fun h704 => absurd rfl h704)
  refine e_iload d_L_law_709 rfl ?_
  refine e_ifne (tgt := 726) d_L_law_711 (by decide) (fun h711 => ?_) (fun h711 => ?_)
  ·
    refine e_goto (tgt := 1087) d_L_law_726 (by decide) ?_
    exact e_bg (mc' := mc) (ms' := ms) (by omega) (by omega) (e_lv (lv' := [(4, .int (nI i)), (3, .ref (9 + 16 * 2)), (2, .ref (6 + 16 * 0)), (1, .ref (5 + 16 * 0)), (0, .ref (13))]) ⟨rfl, rfl, rfl, rfl, rfl, trivial⟩ (hnext _ _ hR1))
  ·
    refine e_aload_n d_L_law_714 rfl rfl ?_
    refine e_iconst (v := 0) d_L_law_715 (by decide) ?_
    refine e_lald d_L_law_716 (by rw [hR1.2.2.2]; unfold vp_in; decide +kernel) ?_
    rw [show hJ (ρ) 9 (2) (0 : Int32).toNatClampNeg = (y).toInt64 from by rw [J_outS hk3 hfr2 h711, hy (k_0 hk3 h711)]]
    refine e_iload d_L_law_717 rfl ?_
    refine e_i2l d_L_law_719 ?_
    refine e_lcmp d_L_law_720 ?_
    refine e_ifeq (tgt := 726) d_L_law_721 (by decide) (fun h721 => ?_) (fun h721 => absurd lg_self h721)
    refine e_goto (tgt := 1087) d_L_law_726 (by decide) ?_
    exact e_bg (mc' := mc) (ms' := ms) (by omega) (by omega) (e_lv (lv' := [(4, .int (nI i)), (3, .ref (9 + 16 * 2)), (2, .ref (6 + 16 * 0)), (1, .ref (5 + 16 * 0)), (0, .ref (13))]) ⟨rfl, rfl, rfl, rfl, rfl, trivial⟩ (hnext _ _ hR1))
set_option maxHeartbeats 4000000 in
theorem lc_kept {l : Launch} (hl0 : l.stackTraces = false) {G : LG} {L : Nat} {xs : Nat → Int32} {σ : HS} {V : AV} {i mc ms : Nat} (hR0 : RR σ V) (hi : i + 7 ≤ L) (hL : L ≤ 3584) (hnext : ∀ σ' V', RR σ' V' → Ex l G m_L_law (pmL G L xs) 1087 [(4, .int (nI i)), (3, .ref (9 + 16 * 2)), (2, .ref (6 + 16 * 0)), (1, .ref (5 + 16 * 0)), (0, .ref (13))] [] σ' mc ms) : Ex l G m_L_law (pmL G L xs) 729 [(4, .int (nI i)), (3, .ref (9 + 16 * 2)), (2, .ref (6 + 16 * 0)), (1, .ref (5 + 16 * 0)), (0, .ref (13))] [] σ (mc + 20) (ms + 200) := by
  obtain ⟨k, x, V', hk, hv', hT, hMo⟩ := op_kept (G := G) hl0 hR0.1 (xs (i + 1)) (xs (i + 2))
  have hk3 : k ≤ 3 := by omega
  obtain ⟨τ, ct, htr, hfr⟩ := hT σ hR0.2.1
  have hO : hl τ 9 2 = 1 := (hfr.1 9 2 ⟨by omega, by omega⟩).2.2.2.trans hR0.2.2.2
  have hm1 : MR (outS k τ ((x).toInt64)) V := (hR0.2.2.1.frm hfr).ous
  obtain ⟨ρ, v, ct2, ⟨⟨y, rfl, hy⟩, hth⟩, hmr, hfr2⟩ := hMo _ hm1
  have hR1 : RR ρ V' := ⟨hv', htr.ous.frm hfr2, hmr, (hfr2.1 9 2 nT92).2.2.2.trans (by rw [hl_outS]; exact hO)⟩
  refine e_aload_n d_L_law_729 rfl rfl ?_
  refine e_aload_n d_L_law_730 rfl rfl ?_
  refine e_iload d_L_law_731 rfl ?_
  refine e_iconst (v := 1) d_L_law_733 (by decide) ?_
  refine e_iadd d_L_law_734 ?_
  rw [show (nI i) + (1) = nI (i + 1) from by rw [show (1 : Int32) = nI 1 from by decide +kernel, nJ_add]]
  refine e_sld d_L_law_735 (show vp_in (nI (i + 1)) L from nI_in (by omega) (by omega)) ?_
  rw [nI_clamp (show i + 1 < 2 ^ 31 by omega)]
  refine e_aload_n d_L_law_736 rfl rfl ?_
  refine e_iload d_L_law_737 rfl ?_
  refine e_iconst (v := 2) d_L_law_739 (by decide) ?_
  refine e_iadd d_L_law_740 ?_
  rw [show (nI i) + (2) = nI (i + 2) from by rw [show (2 : Int32) = nI 2 from by decide +kernel, nJ_add]]
  refine e_sld d_L_law_741 (show vp_in (nI (i + 2)) L from nI_in (by omega) (by omega)) ?_
  rw [nI_clamp (show i + 2 < 2 ^ 31 by omega)]
  refine e_aload_n d_L_law_742 rfl rfl ?_
  refine e_callSh (v := some (.int (nI k))) (σ' := outS k τ ((x).toInt64)) (As := [.ref (5 + 16 * 0), .int (xs (i + 1)), .int (xs (i + 2)), .ref (9 + 16 * 2)]) (st := []) (mc + 18) (ms + 188) d_L_law_743 ch_L_law_105 rfl (Nat.le_of_ble_eq_true rfl) (by show mc + 18 + 2 ≤ mc + 20; omega) (by show ms + 188 + 12 ≤ ms + 200; omega) (cw_L_kept hl0 hk hO ct) ?_
  show Ex l G m_L_law (pmL G L xs) 746 [(4, .int (nI i)), (3, .ref (9 + 16 * 2)), (2, .ref (6 + 16 * 0)), (1, .ref (5 + 16 * 0)), (0, .ref (13))] [.int (nI k)] (outS k τ ((x).toInt64)) (mc + 18) (ms + 188)
  refine e_istore (lv' := [(5, .int (nI k)), (4, .int (nI i)), (3, .ref (9 + 16 * 2)), (2, .ref (6 + 16 * 0)), (1, .ref (5 + 16 * 0)), (0, .ref (13))]) d_L_law_746 (by decide) rfl ?_
  refine e_aload_n d_L_law_748 rfl rfl ?_
  refine e_aload_n d_L_law_749 rfl rfl ?_
  refine e_iload d_L_law_750 rfl ?_
  refine e_iconst (v := 1) d_L_law_752 (by decide) ?_
  refine e_iadd d_L_law_753 ?_
  rw [show (nI i) + (1) = nI (i + 1) from by rw [show (1 : Int32) = nI 1 from by decide +kernel, nJ_add]]
  refine e_sld d_L_law_754 (show vp_in (nI (i + 1)) L from nI_in (by omega) (by omega)) ?_
  rw [nI_clamp (show i + 1 < 2 ^ 31 by omega)]
  refine e_aload_n d_L_law_755 rfl rfl ?_
  refine e_iload d_L_law_756 rfl ?_
  refine e_iconst (v := 2) d_L_law_758 (by decide) ?_
  refine e_iadd d_L_law_759 ?_
  rw [show (nI i) + (2) = nI (i + 2) from by rw [show (2 : Int32) = nI 2 from by decide +kernel, nJ_add]]
  refine e_sld d_L_law_760 (show vp_in (nI (i + 2)) L from nI_in (by omega) (by omega)) ?_
  rw [nI_clamp (show i + 2 < 2 ^ 31 by omega)]
  refine e_callVd (v := some (.int (y))) (σ' := ρ) (q := 6) (a := 0) (As := [.int (xs (i + 1)), .int (xs (i + 2))]) (st := []) (mc + 18) (ms + 188) d_L_law_761 cb_L_law_107 iv_M_kept rfl ⟨by decide, rfl⟩ rfl (Nat.le_of_ble_eq_true rfl) (by show mc + 18 + 0 ≤ mc + 18; omega) (by show ms + 188 + 0 ≤ ms + 188; omega) (ct2) ?_
  show Ex l G m_L_law (pmL G L xs) 764 [(5, .int (nI k)), (4, .int (nI i)), (3, .ref (9 + 16 * 2)), (2, .ref (6 + 16 * 0)), (1, .ref (5 + 16 * 0)), (0, .ref (13))] [.int (y)] (ρ) (mc + 18) (ms + 188)
  refine e_istore (lv' := [(6, .int (y)), (5, .int (nI k)), (4, .int (nI i)), (3, .ref (9 + 16 * 2)), (2, .ref (6 + 16 * 0)), (1, .ref (5 + 16 * 0)), (0, .ref (13))]) d_L_law_764 (by decide) rfl ?_
  refine e_aload_n d_L_law_766 rfl rfl ?_
  refine e_callVd (v := some (.int (hI ρ 6 0 0))) (σ' := ρ) (q := 6) (a := 0) (As := []) (st := []) (mc + 18) (ms + 188) d_L_law_767 cb_L_law_71 iv_M_thrown rfl ⟨by decide, rfl⟩ rfl (Nat.le_of_ble_eq_true rfl) (by show mc + 18 + 0 ≤ mc + 18; omega) (by show ms + 188 + 0 ≤ ms + 188; omega) (ct_M_thrown hl0) ?_
  show Ex l G m_L_law (pmL G L xs) 770 [(6, .int (y)), (5, .int (nI k)), (4, .int (nI i)), (3, .ref (9 + 16 * 2)), (2, .ref (6 + 16 * 0)), (1, .ref (5 + 16 * 0)), (0, .ref (13))] [.int (hI ρ 6 0 0)] (ρ) (mc + 18) (ms + 188)
  rw [hth]
  refine e_iload d_L_law_770 rfl ?_
  refine e_icmpeq (tgt := 777) d_L_law_772 (by decide) (fun h772 => ?_) (fun h772 => absurd rfl h772)
  refine e_iload d_L_law_777 rfl ?_
  refine e_ifne (tgt := 794) d_L_law_779 (by decide) (fun h779 => ?_) (fun h779 => ?_)
  ·
    refine e_goto (tgt := 1087) d_L_law_794 (by decide) ?_
    exact e_bg (mc' := mc) (ms' := ms) (by omega) (by omega) (e_lv (lv' := [(4, .int (nI i)), (3, .ref (9 + 16 * 2)), (2, .ref (6 + 16 * 0)), (1, .ref (5 + 16 * 0)), (0, .ref (13))]) ⟨rfl, rfl, rfl, rfl, rfl, trivial⟩ (hnext _ _ hR1))
  ·
    refine e_aload_n d_L_law_782 rfl rfl ?_
    refine e_iconst (v := 0) d_L_law_783 (by decide) ?_
    refine e_lald d_L_law_784 (by rw [hR1.2.2.2]; unfold vp_in; decide +kernel) ?_
    rw [show hJ (ρ) 9 (2) (0 : Int32).toNatClampNeg = (y).toInt64 from by rw [J_outS hk3 hfr2 h779, hy (k_0 hk3 h779)]]
    refine e_iload d_L_law_785 rfl ?_
    refine e_i2l d_L_law_787 ?_
    refine e_lcmp d_L_law_788 ?_
    refine e_ifeq (tgt := 794) d_L_law_789 (by decide) (fun h789 => ?_) (fun h789 => absurd lg_self h789)
    refine e_goto (tgt := 1087) d_L_law_794 (by decide) ?_
    exact e_bg (mc' := mc) (ms' := ms) (by omega) (by omega) (e_lv (lv' := [(4, .int (nI i)), (3, .ref (9 + 16 * 2)), (2, .ref (6 + 16 * 0)), (1, .ref (5 + 16 * 0)), (0, .ref (13))]) ⟨rfl, rfl, rfl, rfl, rfl, trivial⟩ (hnext _ _ hR1))
set_option maxHeartbeats 4000000 in
theorem lc_exchange {l : Launch} (hl0 : l.stackTraces = false) {G : LG} {L : Nat} {xs : Nat → Int32} {σ : HS} {V : AV} {i mc ms : Nat} (hR0 : RR σ V) (hi : i + 7 ≤ L) (hL : L ≤ 3584) (hnext : ∀ σ' V', RR σ' V' → Ex l G m_L_law (pmL G L xs) 1087 [(4, .int (nI i)), (3, .ref (9 + 16 * 2)), (2, .ref (6 + 16 * 0)), (1, .ref (5 + 16 * 0)), (0, .ref (13))] [] σ' mc ms) : Ex l G m_L_law (pmL G L xs) 797 [(4, .int (nI i)), (3, .ref (9 + 16 * 2)), (2, .ref (6 + 16 * 0)), (1, .ref (5 + 16 * 0)), (0, .ref (13))] [] σ (mc + 20) (ms + 200) := by
  obtain ⟨k, x, V', hk, hv', hT, hMo⟩ := op_exchange (G := G) hl0 hR0.1 (xs (i + 1)) ((((xs (i + 2)).toInt64) <<< ((32 : Int32).toInt64 &&& 63)) ||| (((xs (i + 3)).toInt64) &&& (4294967295))) (xs (i + 4)) (xs (i + 5))
  have hk3 : k ≤ 3 := by omega
  obtain ⟨τ, ct, htr, hfr⟩ := hT σ hR0.2.1
  have hO : hl τ 9 2 = 1 := (hfr.1 9 2 ⟨by omega, by omega⟩).2.2.2.trans hR0.2.2.2
  have hm1 : MR (outS k τ (x)) V := (hR0.2.2.1.frm hfr).ous
  obtain ⟨ρ, v, ct2, ⟨⟨y, rfl, hy⟩, hth⟩, hmr, hfr2⟩ := hMo _ hm1
  have hR1 : RR ρ V' := ⟨hv', htr.ous.frm hfr2, hmr, (hfr2.1 9 2 nT92).2.2.2.trans (by rw [hl_outS]; exact hO)⟩
  refine e_aload_n d_L_law_797 rfl rfl ?_
  refine e_aload_n d_L_law_798 rfl rfl ?_
  refine e_iload d_L_law_799 rfl ?_
  refine e_iconst (v := 1) d_L_law_801 (by decide) ?_
  refine e_iadd d_L_law_802 ?_
  rw [show (nI i) + (1) = nI (i + 1) from by rw [show (1 : Int32) = nI 1 from by decide +kernel, nJ_add]]
  refine e_sld d_L_law_803 (show vp_in (nI (i + 1)) L from nI_in (by omega) (by omega)) ?_
  rw [nI_clamp (show i + 1 < 2 ^ 31 by omega)]
  refine e_aload_n d_L_law_804 rfl rfl ?_
  refine e_iload d_L_law_805 rfl ?_
  refine e_iconst (v := 2) d_L_law_807 (by decide) ?_
  refine e_iadd d_L_law_808 ?_
  rw [show (nI i) + (2) = nI (i + 2) from by rw [show (2 : Int32) = nI 2 from by decide +kernel, nJ_add]]
  refine e_sld d_L_law_809 (show vp_in (nI (i + 2)) L from nI_in (by omega) (by omega)) ?_
  rw [nI_clamp (show i + 2 < 2 ^ 31 by omega)]
  refine e_i2l d_L_law_810 ?_
  refine e_bipush (v := 32) d_L_law_811 (by decide) ?_
  refine e_lshl d_L_law_813 ?_
  refine e_aload_n d_L_law_814 rfl rfl ?_
  refine e_iload d_L_law_815 rfl ?_
  refine e_iconst (v := 3) d_L_law_817 (by decide) ?_
  refine e_iadd d_L_law_818 ?_
  rw [show (nI i) + (3) = nI (i + 3) from by rw [show (3 : Int32) = nI 3 from by decide +kernel, nJ_add]]
  refine e_sld d_L_law_819 (show vp_in (nI (i + 3)) L from nI_in (by omega) (by omega)) ?_
  rw [nI_clamp (show i + 3 < 2 ^ 31 by omega)]
  refine e_i2l d_L_law_820 ?_
  refine e_ldc2 (v := 4294967295) d_L_law_821 kc_L_63 ?_
  refine e_land d_L_law_824 ?_
  refine e_lor d_L_law_825 ?_
  refine e_aload_n d_L_law_826 rfl rfl ?_
  refine e_iload d_L_law_827 rfl ?_
  refine e_iconst (v := 4) d_L_law_829 (by decide) ?_
  refine e_iadd d_L_law_830 ?_
  rw [show (nI i) + (4) = nI (i + 4) from by rw [show (4 : Int32) = nI 4 from by decide +kernel, nJ_add]]
  refine e_sld d_L_law_831 (show vp_in (nI (i + 4)) L from nI_in (by omega) (by omega)) ?_
  rw [nI_clamp (show i + 4 < 2 ^ 31 by omega)]
  refine e_aload_n d_L_law_832 rfl rfl ?_
  refine e_iload d_L_law_833 rfl ?_
  refine e_iconst (v := 5) d_L_law_835 (by decide) ?_
  refine e_iadd d_L_law_836 ?_
  rw [show (nI i) + (5) = nI (i + 5) from by rw [show (5 : Int32) = nI 5 from by decide +kernel, nJ_add]]
  refine e_sld d_L_law_837 (show vp_in (nI (i + 5)) L from nI_in (by omega) (by omega)) ?_
  rw [nI_clamp (show i + 5 < 2 ^ 31 by omega)]
  refine e_aload_n d_L_law_838 rfl rfl ?_
  refine e_callSh (v := some (.int (nI k))) (σ' := outS k τ (x)) (As := [.ref (5 + 16 * 0), .int (xs (i + 1)), .long ((((xs (i + 2)).toInt64) <<< ((32 : Int32).toInt64 &&& 63)) ||| (((xs (i + 3)).toInt64) &&& (4294967295))), .int (xs (i + 4)), .int (xs (i + 5)), .ref (9 + 16 * 2)]) (st := []) (mc + 18) (ms + 188) d_L_law_839 ch_L_law_108 rfl (Nat.le_of_ble_eq_true rfl) (by show mc + 18 + 2 ≤ mc + 20; omega) (by show ms + 188 + 12 ≤ ms + 200; omega) (cw_L_exchange hl0 hk hO ct) ?_
  show Ex l G m_L_law (pmL G L xs) 842 [(4, .int (nI i)), (3, .ref (9 + 16 * 2)), (2, .ref (6 + 16 * 0)), (1, .ref (5 + 16 * 0)), (0, .ref (13))] [.int (nI k)] (outS k τ (x)) (mc + 18) (ms + 188)
  refine e_istore (lv' := [(5, .int (nI k)), (4, .int (nI i)), (3, .ref (9 + 16 * 2)), (2, .ref (6 + 16 * 0)), (1, .ref (5 + 16 * 0)), (0, .ref (13))]) d_L_law_842 (by decide) rfl ?_
  refine e_aload_n d_L_law_844 rfl rfl ?_
  refine e_aload_n d_L_law_845 rfl rfl ?_
  refine e_iload d_L_law_846 rfl ?_
  refine e_iconst (v := 1) d_L_law_848 (by decide) ?_
  refine e_iadd d_L_law_849 ?_
  rw [show (nI i) + (1) = nI (i + 1) from by rw [show (1 : Int32) = nI 1 from by decide +kernel, nJ_add]]
  refine e_sld d_L_law_850 (show vp_in (nI (i + 1)) L from nI_in (by omega) (by omega)) ?_
  rw [nI_clamp (show i + 1 < 2 ^ 31 by omega)]
  refine e_aload_n d_L_law_851 rfl rfl ?_
  refine e_iload d_L_law_852 rfl ?_
  refine e_iconst (v := 2) d_L_law_854 (by decide) ?_
  refine e_iadd d_L_law_855 ?_
  rw [show (nI i) + (2) = nI (i + 2) from by rw [show (2 : Int32) = nI 2 from by decide +kernel, nJ_add]]
  refine e_sld d_L_law_856 (show vp_in (nI (i + 2)) L from nI_in (by omega) (by omega)) ?_
  rw [nI_clamp (show i + 2 < 2 ^ 31 by omega)]
  refine e_i2l d_L_law_857 ?_
  refine e_bipush (v := 32) d_L_law_858 (by decide) ?_
  refine e_lshl d_L_law_860 ?_
  refine e_aload_n d_L_law_861 rfl rfl ?_
  refine e_iload d_L_law_862 rfl ?_
  refine e_iconst (v := 3) d_L_law_864 (by decide) ?_
  refine e_iadd d_L_law_865 ?_
  rw [show (nI i) + (3) = nI (i + 3) from by rw [show (3 : Int32) = nI 3 from by decide +kernel, nJ_add]]
  refine e_sld d_L_law_866 (show vp_in (nI (i + 3)) L from nI_in (by omega) (by omega)) ?_
  rw [nI_clamp (show i + 3 < 2 ^ 31 by omega)]
  refine e_i2l d_L_law_867 ?_
  refine e_ldc2 (v := 4294967295) d_L_law_868 kc_L_63 ?_
  refine e_land d_L_law_871 ?_
  refine e_lor d_L_law_872 ?_
  refine e_aload_n d_L_law_873 rfl rfl ?_
  refine e_iload d_L_law_874 rfl ?_
  refine e_iconst (v := 4) d_L_law_876 (by decide) ?_
  refine e_iadd d_L_law_877 ?_
  rw [show (nI i) + (4) = nI (i + 4) from by rw [show (4 : Int32) = nI 4 from by decide +kernel, nJ_add]]
  refine e_sld d_L_law_878 (show vp_in (nI (i + 4)) L from nI_in (by omega) (by omega)) ?_
  rw [nI_clamp (show i + 4 < 2 ^ 31 by omega)]
  refine e_aload_n d_L_law_879 rfl rfl ?_
  refine e_iload d_L_law_880 rfl ?_
  refine e_iconst (v := 5) d_L_law_882 (by decide) ?_
  refine e_iadd d_L_law_883 ?_
  rw [show (nI i) + (5) = nI (i + 5) from by rw [show (5 : Int32) = nI 5 from by decide +kernel, nJ_add]]
  refine e_sld d_L_law_884 (show vp_in (nI (i + 5)) L from nI_in (by omega) (by omega)) ?_
  rw [nI_clamp (show i + 5 < 2 ^ 31 by omega)]
  refine e_callVd (v := some (.long (y))) (σ' := ρ) (q := 6) (a := 0) (As := [.int (xs (i + 1)), .long ((((xs (i + 2)).toInt64) <<< ((32 : Int32).toInt64 &&& 63)) ||| (((xs (i + 3)).toInt64) &&& (4294967295))), .int (xs (i + 4)), .int (xs (i + 5))]) (st := []) (mc + 18) (ms + 188) d_L_law_885 cb_L_law_111 iv_M_exchange rfl ⟨by decide, rfl⟩ rfl (Nat.le_of_ble_eq_true rfl) (by show mc + 18 + 0 ≤ mc + 18; omega) (by show ms + 188 + 0 ≤ ms + 188; omega) (ct2) ?_
  show Ex l G m_L_law (pmL G L xs) 888 [(5, .int (nI k)), (4, .int (nI i)), (3, .ref (9 + 16 * 2)), (2, .ref (6 + 16 * 0)), (1, .ref (5 + 16 * 0)), (0, .ref (13))] [.long (y)] (ρ) (mc + 18) (ms + 188)
  refine e_lstore (lv' := [(6, .long (y)), (5, .int (nI k)), (4, .int (nI i)), (3, .ref (9 + 16 * 2)), (2, .ref (6 + 16 * 0)), (1, .ref (5 + 16 * 0)), (0, .ref (13))]) d_L_law_888 (by decide) rfl ?_
  refine e_aload_n d_L_law_890 rfl rfl ?_
  refine e_callVd (v := some (.int (hI ρ 6 0 0))) (σ' := ρ) (q := 6) (a := 0) (As := []) (st := []) (mc + 18) (ms + 188) d_L_law_891 cb_L_law_71 iv_M_thrown rfl ⟨by decide, rfl⟩ rfl (Nat.le_of_ble_eq_true rfl) (by show mc + 18 + 0 ≤ mc + 18; omega) (by show ms + 188 + 0 ≤ ms + 188; omega) (ct_M_thrown hl0) ?_
  show Ex l G m_L_law (pmL G L xs) 894 [(6, .long (y)), (5, .int (nI k)), (4, .int (nI i)), (3, .ref (9 + 16 * 2)), (2, .ref (6 + 16 * 0)), (1, .ref (5 + 16 * 0)), (0, .ref (13))] [.int (hI ρ 6 0 0)] (ρ) (mc + 18) (ms + 188)
  rw [hth]
  refine e_iload d_L_law_894 rfl ?_
  refine e_icmpeq (tgt := 901) d_L_law_896 (by decide) (fun h896 => ?_) (fun h896 => absurd rfl h896)
  refine e_iload d_L_law_901 rfl ?_
  refine e_ifne (tgt := 917) d_L_law_903 (by decide) (fun h903 => ?_) (fun h903 => ?_)
  ·
    refine e_goto (tgt := 1087) d_L_law_917 (by decide) ?_
    exact e_bg (mc' := mc) (ms' := ms) (by omega) (by omega) (e_lv (lv' := [(4, .int (nI i)), (3, .ref (9 + 16 * 2)), (2, .ref (6 + 16 * 0)), (1, .ref (5 + 16 * 0)), (0, .ref (13))]) ⟨rfl, rfl, rfl, rfl, rfl, trivial⟩ (hnext _ _ hR1))
  ·
    refine e_aload_n d_L_law_906 rfl rfl ?_
    refine e_iconst (v := 0) d_L_law_907 (by decide) ?_
    refine e_lald d_L_law_908 (by rw [hR1.2.2.2]; unfold vp_in; decide +kernel) ?_
    rw [show hJ (ρ) 9 (2) (0 : Int32).toNatClampNeg = y from by rw [J_outS hk3 hfr2 h903, hy (k_0 hk3 h903)]]
    refine e_lload d_L_law_909 rfl ?_
    refine e_lcmp d_L_law_911 ?_
    refine e_ifeq (tgt := 917) d_L_law_912 (by decide) (fun h912 => ?_) (fun h912 => absurd lg_self h912)
    refine e_goto (tgt := 1087) d_L_law_917 (by decide) ?_
    exact e_bg (mc' := mc) (ms' := ms) (by omega) (by omega) (e_lv (lv' := [(4, .int (nI i)), (3, .ref (9 + 16 * 2)), (2, .ref (6 + 16 * 0)), (1, .ref (5 + 16 * 0)), (0, .ref (13))]) ⟨rfl, rfl, rfl, rfl, rfl, trivial⟩ (hnext _ _ hR1))
set_option maxHeartbeats 4000000 in
theorem lc_delay {l : Launch} (hl0 : l.stackTraces = false) {G : LG} {L : Nat} {xs : Nat → Int32} {σ : HS} {V : AV} {i mc ms : Nat} (hR0 : RR σ V) (hi : i + 7 ≤ L) (hL : L ≤ 3584) (hnext : ∀ σ' V', RR σ' V' → Ex l G m_L_law (pmL G L xs) 1087 [(4, .int (nI i)), (3, .ref (9 + 16 * 2)), (2, .ref (6 + 16 * 0)), (1, .ref (5 + 16 * 0)), (0, .ref (13))] [] σ' mc ms) : Ex l G m_L_law (pmL G L xs) 920 [(4, .int (nI i)), (3, .ref (9 + 16 * 2)), (2, .ref (6 + 16 * 0)), (1, .ref (5 + 16 * 0)), (0, .ref (13))] [] σ (mc + 20) (ms + 200) := by
  obtain ⟨k, x, V', hk, hv', hT, hMo⟩ := op_delay (G := G) hl0 hR0.1 (xs (i + 1))
  have hk3 : k ≤ 3 := by omega
  obtain ⟨τ, ct, htr, hfr⟩ := hT σ hR0.2.1
  have hO : hl τ 9 2 = 1 := (hfr.1 9 2 ⟨by omega, by omega⟩).2.2.2.trans hR0.2.2.2
  have hm1 : MR (outS k τ (x)) V := (hR0.2.2.1.frm hfr).ous
  obtain ⟨ρ, v, ct2, ⟨⟨y, rfl, hy⟩, hth⟩, hmr, hfr2⟩ := hMo _ hm1
  have hR1 : RR ρ V' := ⟨hv', htr.ous.frm hfr2, hmr, (hfr2.1 9 2 nT92).2.2.2.trans (by rw [hl_outS]; exact hO)⟩
  refine e_aload_n d_L_law_920 rfl rfl ?_
  refine e_aload_n d_L_law_921 rfl rfl ?_
  refine e_iload d_L_law_922 rfl ?_
  refine e_iconst (v := 1) d_L_law_924 (by decide) ?_
  refine e_iadd d_L_law_925 ?_
  rw [show (nI i) + (1) = nI (i + 1) from by rw [show (1 : Int32) = nI 1 from by decide +kernel, nJ_add]]
  refine e_sld d_L_law_926 (show vp_in (nI (i + 1)) L from nI_in (by omega) (by omega)) ?_
  rw [nI_clamp (show i + 1 < 2 ^ 31 by omega)]
  refine e_aload_n d_L_law_927 rfl rfl ?_
  refine e_callSh (v := some (.int (nI k))) (σ' := outS k τ (x)) (As := [.ref (5 + 16 * 0), .int (xs (i + 1)), .ref (9 + 16 * 2)]) (st := []) (mc + 19) (ms + 194) d_L_law_928 ch_L_law_112 rfl (Nat.le_of_ble_eq_true rfl) (by show mc + 19 + 1 ≤ mc + 20; omega) (by show ms + 194 + 6 ≤ ms + 200; omega) (cw_L_delay hl0 hk hO ct) ?_
  show Ex l G m_L_law (pmL G L xs) 931 [(4, .int (nI i)), (3, .ref (9 + 16 * 2)), (2, .ref (6 + 16 * 0)), (1, .ref (5 + 16 * 0)), (0, .ref (13))] [.int (nI k)] (outS k τ (x)) (mc + 19) (ms + 194)
  refine e_istore (lv' := [(5, .int (nI k)), (4, .int (nI i)), (3, .ref (9 + 16 * 2)), (2, .ref (6 + 16 * 0)), (1, .ref (5 + 16 * 0)), (0, .ref (13))]) d_L_law_931 (by decide) rfl ?_
  refine e_aload_n d_L_law_933 rfl rfl ?_
  refine e_aload_n d_L_law_934 rfl rfl ?_
  refine e_iload d_L_law_935 rfl ?_
  refine e_iconst (v := 1) d_L_law_937 (by decide) ?_
  refine e_iadd d_L_law_938 ?_
  rw [show (nI i) + (1) = nI (i + 1) from by rw [show (1 : Int32) = nI 1 from by decide +kernel, nJ_add]]
  refine e_sld d_L_law_939 (show vp_in (nI (i + 1)) L from nI_in (by omega) (by omega)) ?_
  rw [nI_clamp (show i + 1 < 2 ^ 31 by omega)]
  refine e_callVd (v := some (.long (y))) (σ' := ρ) (q := 6) (a := 0) (As := [.int (xs (i + 1))]) (st := []) (mc + 19) (ms + 194) d_L_law_940 cb_L_law_114 iv_M_delay rfl ⟨by decide, rfl⟩ rfl (Nat.le_of_ble_eq_true rfl) (by show mc + 19 + 0 ≤ mc + 19; omega) (by show ms + 194 + 0 ≤ ms + 194; omega) (ct2) ?_
  show Ex l G m_L_law (pmL G L xs) 943 [(5, .int (nI k)), (4, .int (nI i)), (3, .ref (9 + 16 * 2)), (2, .ref (6 + 16 * 0)), (1, .ref (5 + 16 * 0)), (0, .ref (13))] [.long (y)] (ρ) (mc + 19) (ms + 194)
  refine e_lstore (lv' := [(6, .long (y)), (5, .int (nI k)), (4, .int (nI i)), (3, .ref (9 + 16 * 2)), (2, .ref (6 + 16 * 0)), (1, .ref (5 + 16 * 0)), (0, .ref (13))]) d_L_law_943 (by decide) rfl ?_
  refine e_aload_n d_L_law_945 rfl rfl ?_
  refine e_callVd (v := some (.int (hI ρ 6 0 0))) (σ' := ρ) (q := 6) (a := 0) (As := []) (st := []) (mc + 19) (ms + 194) d_L_law_946 cb_L_law_71 iv_M_thrown rfl ⟨by decide, rfl⟩ rfl (Nat.le_of_ble_eq_true rfl) (by show mc + 19 + 0 ≤ mc + 19; omega) (by show ms + 194 + 0 ≤ ms + 194; omega) (ct_M_thrown hl0) ?_
  show Ex l G m_L_law (pmL G L xs) 949 [(6, .long (y)), (5, .int (nI k)), (4, .int (nI i)), (3, .ref (9 + 16 * 2)), (2, .ref (6 + 16 * 0)), (1, .ref (5 + 16 * 0)), (0, .ref (13))] [.int (hI ρ 6 0 0)] (ρ) (mc + 19) (ms + 194)
  rw [hth]
  refine e_iload d_L_law_949 rfl ?_
  refine e_icmpeq (tgt := 956) d_L_law_951 (by decide) (fun h951 => ?_) (fun h951 => absurd rfl h951)
  refine e_iload d_L_law_956 rfl ?_
  refine e_ifne (tgt := 972) d_L_law_958 (by decide) (fun h958 => ?_) (fun h958 => ?_)
  ·
    refine e_goto (tgt := 1087) d_L_law_972 (by decide) ?_
    exact e_bg (mc' := mc) (ms' := ms) (by omega) (by omega) (e_lv (lv' := [(4, .int (nI i)), (3, .ref (9 + 16 * 2)), (2, .ref (6 + 16 * 0)), (1, .ref (5 + 16 * 0)), (0, .ref (13))]) ⟨rfl, rfl, rfl, rfl, rfl, trivial⟩ (hnext _ _ hR1))
  ·
    refine e_aload_n d_L_law_961 rfl rfl ?_
    refine e_iconst (v := 0) d_L_law_962 (by decide) ?_
    refine e_lald d_L_law_963 (by rw [hR1.2.2.2]; unfold vp_in; decide +kernel) ?_
    rw [show hJ (ρ) 9 (2) (0 : Int32).toNatClampNeg = y from by rw [J_outS hk3 hfr2 h958, hy (k_0 hk3 h958)]]
    refine e_lload d_L_law_964 rfl ?_
    refine e_lcmp d_L_law_966 ?_
    refine e_ifeq (tgt := 972) d_L_law_967 (by decide) (fun h967 => ?_) (fun h967 => absurd lg_self h967)
    refine e_goto (tgt := 1087) d_L_law_972 (by decide) ?_
    exact e_bg (mc' := mc) (ms' := ms) (by omega) (by omega) (e_lv (lv' := [(4, .int (nI i)), (3, .ref (9 + 16 * 2)), (2, .ref (6 + 16 * 0)), (1, .ref (5 + 16 * 0)), (0, .ref (13))]) ⟨rfl, rfl, rfl, rfl, rfl, trivial⟩ (hnext _ _ hR1))
set_option maxHeartbeats 4000000 in
theorem lc_offset {l : Launch} (hl0 : l.stackTraces = false) {G : LG} {L : Nat} {xs : Nat → Int32} {σ : HS} {V : AV} {i mc ms : Nat} (hR0 : RR σ V) (hi : i + 7 ≤ L) (hL : L ≤ 3584) (hnext : ∀ σ' V', RR σ' V' → Ex l G m_L_law (pmL G L xs) 1087 [(4, .int (nI i)), (3, .ref (9 + 16 * 2)), (2, .ref (6 + 16 * 0)), (1, .ref (5 + 16 * 0)), (0, .ref (13))] [] σ' mc ms) : Ex l G m_L_law (pmL G L xs) 975 [(4, .int (nI i)), (3, .ref (9 + 16 * 2)), (2, .ref (6 + 16 * 0)), (1, .ref (5 + 16 * 0)), (0, .ref (13))] [] σ (mc + 20) (ms + 200) := by
  obtain ⟨k, x, V', hk, hv', hT, hMo⟩ := op_offset (G := G) hl0 hR0.1 (xs (i + 1))
  have hk3 : k ≤ 3 := by omega
  obtain ⟨τ, ct, htr, hfr⟩ := hT σ hR0.2.1
  have hO : hl τ 9 2 = 1 := (hfr.1 9 2 ⟨by omega, by omega⟩).2.2.2.trans hR0.2.2.2
  have hm1 : MR (outS k τ (x)) V := (hR0.2.2.1.frm hfr).ous
  obtain ⟨ρ, v, ct2, ⟨⟨y, rfl, hy⟩, hth⟩, hmr, hfr2⟩ := hMo _ hm1
  have hR1 : RR ρ V' := ⟨hv', htr.ous.frm hfr2, hmr, (hfr2.1 9 2 nT92).2.2.2.trans (by rw [hl_outS]; exact hO)⟩
  refine e_aload_n d_L_law_975 rfl rfl ?_
  refine e_aload_n d_L_law_976 rfl rfl ?_
  refine e_iload d_L_law_977 rfl ?_
  refine e_iconst (v := 1) d_L_law_979 (by decide) ?_
  refine e_iadd d_L_law_980 ?_
  rw [show (nI i) + (1) = nI (i + 1) from by rw [show (1 : Int32) = nI 1 from by decide +kernel, nJ_add]]
  refine e_sld d_L_law_981 (show vp_in (nI (i + 1)) L from nI_in (by omega) (by omega)) ?_
  rw [nI_clamp (show i + 1 < 2 ^ 31 by omega)]
  refine e_aload_n d_L_law_982 rfl rfl ?_
  refine e_callSh (v := some (.int (nI k))) (σ' := outS k τ (x)) (As := [.ref (5 + 16 * 0), .int (xs (i + 1)), .ref (9 + 16 * 2)]) (st := []) (mc + 19) (ms + 194) d_L_law_983 ch_L_law_115 rfl (Nat.le_of_ble_eq_true rfl) (by show mc + 19 + 1 ≤ mc + 20; omega) (by show ms + 194 + 6 ≤ ms + 200; omega) (cw_L_offset hl0 hk hO ct) ?_
  show Ex l G m_L_law (pmL G L xs) 986 [(4, .int (nI i)), (3, .ref (9 + 16 * 2)), (2, .ref (6 + 16 * 0)), (1, .ref (5 + 16 * 0)), (0, .ref (13))] [.int (nI k)] (outS k τ (x)) (mc + 19) (ms + 194)
  refine e_istore (lv' := [(5, .int (nI k)), (4, .int (nI i)), (3, .ref (9 + 16 * 2)), (2, .ref (6 + 16 * 0)), (1, .ref (5 + 16 * 0)), (0, .ref (13))]) d_L_law_986 (by decide) rfl ?_
  refine e_aload_n d_L_law_988 rfl rfl ?_
  refine e_aload_n d_L_law_989 rfl rfl ?_
  refine e_iload d_L_law_990 rfl ?_
  refine e_iconst (v := 1) d_L_law_992 (by decide) ?_
  refine e_iadd d_L_law_993 ?_
  rw [show (nI i) + (1) = nI (i + 1) from by rw [show (1 : Int32) = nI 1 from by decide +kernel, nJ_add]]
  refine e_sld d_L_law_994 (show vp_in (nI (i + 1)) L from nI_in (by omega) (by omega)) ?_
  rw [nI_clamp (show i + 1 < 2 ^ 31 by omega)]
  refine e_callVd (v := some (.long (y))) (σ' := ρ) (q := 6) (a := 0) (As := [.int (xs (i + 1))]) (st := []) (mc + 19) (ms + 194) d_L_law_995 cb_L_law_117 iv_M_offset rfl ⟨by decide, rfl⟩ rfl (Nat.le_of_ble_eq_true rfl) (by show mc + 19 + 0 ≤ mc + 19; omega) (by show ms + 194 + 0 ≤ ms + 194; omega) (ct2) ?_
  show Ex l G m_L_law (pmL G L xs) 998 [(5, .int (nI k)), (4, .int (nI i)), (3, .ref (9 + 16 * 2)), (2, .ref (6 + 16 * 0)), (1, .ref (5 + 16 * 0)), (0, .ref (13))] [.long (y)] (ρ) (mc + 19) (ms + 194)
  refine e_lstore (lv' := [(6, .long (y)), (5, .int (nI k)), (4, .int (nI i)), (3, .ref (9 + 16 * 2)), (2, .ref (6 + 16 * 0)), (1, .ref (5 + 16 * 0)), (0, .ref (13))]) d_L_law_998 (by decide) rfl ?_
  refine e_aload_n d_L_law_1000 rfl rfl ?_
  refine e_callVd (v := some (.int (hI ρ 6 0 0))) (σ' := ρ) (q := 6) (a := 0) (As := []) (st := []) (mc + 19) (ms + 194) d_L_law_1001 cb_L_law_71 iv_M_thrown rfl ⟨by decide, rfl⟩ rfl (Nat.le_of_ble_eq_true rfl) (by show mc + 19 + 0 ≤ mc + 19; omega) (by show ms + 194 + 0 ≤ ms + 194; omega) (ct_M_thrown hl0) ?_
  show Ex l G m_L_law (pmL G L xs) 1004 [(6, .long (y)), (5, .int (nI k)), (4, .int (nI i)), (3, .ref (9 + 16 * 2)), (2, .ref (6 + 16 * 0)), (1, .ref (5 + 16 * 0)), (0, .ref (13))] [.int (hI ρ 6 0 0)] (ρ) (mc + 19) (ms + 194)
  rw [hth]
  refine e_iload d_L_law_1004 rfl ?_
  refine e_icmpeq (tgt := 1011) d_L_law_1006 (by decide) (fun h1006 => ?_) (fun h1006 => absurd rfl h1006)
  refine e_iload d_L_law_1011 rfl ?_
  refine e_ifne (tgt := 1027) d_L_law_1013 (by decide) (fun h1013 => ?_) (fun h1013 => ?_)
  ·
    refine e_goto (tgt := 1087) d_L_law_1027 (by decide) ?_
    exact e_bg (mc' := mc) (ms' := ms) (by omega) (by omega) (e_lv (lv' := [(4, .int (nI i)), (3, .ref (9 + 16 * 2)), (2, .ref (6 + 16 * 0)), (1, .ref (5 + 16 * 0)), (0, .ref (13))]) ⟨rfl, rfl, rfl, rfl, rfl, trivial⟩ (hnext _ _ hR1))
  ·
    refine e_aload_n d_L_law_1016 rfl rfl ?_
    refine e_iconst (v := 0) d_L_law_1017 (by decide) ?_
    refine e_lald d_L_law_1018 (by rw [hR1.2.2.2]; unfold vp_in; decide +kernel) ?_
    rw [show hJ (ρ) 9 (2) (0 : Int32).toNatClampNeg = y from by rw [J_outS hk3 hfr2 h1013, hy (k_0 hk3 h1013)]]
    refine e_lload d_L_law_1019 rfl ?_
    refine e_lcmp d_L_law_1021 ?_
    refine e_ifeq (tgt := 1027) d_L_law_1022 (by decide) (fun h1022 => ?_) (fun h1022 => absurd lg_self h1022)
    refine e_goto (tgt := 1087) d_L_law_1027 (by decide) ?_
    exact e_bg (mc' := mc) (ms' := ms) (by omega) (by omega) (e_lv (lv' := [(4, .int (nI i)), (3, .ref (9 + 16 * 2)), (2, .ref (6 + 16 * 0)), (1, .ref (5 + 16 * 0)), (0, .ref (13))]) ⟨rfl, rfl, rfl, rfl, rfl, trivial⟩ (hnext _ _ hR1))
set_option maxHeartbeats 4000000 in
theorem lc_discipline {l : Launch} (hl0 : l.stackTraces = false) {G : LG} {L : Nat} {xs : Nat → Int32} {σ : HS} {V : AV} {i mc ms : Nat} (hR0 : RR σ V) (hi : i + 7 ≤ L) (hL : L ≤ 3584) (hnext : ∀ σ' V', RR σ' V' → Ex l G m_L_law (pmL G L xs) 1087 [(4, .int (nI i)), (3, .ref (9 + 16 * 2)), (2, .ref (6 + 16 * 0)), (1, .ref (5 + 16 * 0)), (0, .ref (13))] [] σ' mc ms) : Ex l G m_L_law (pmL G L xs) 1030 [(4, .int (nI i)), (3, .ref (9 + 16 * 2)), (2, .ref (6 + 16 * 0)), (1, .ref (5 + 16 * 0)), (0, .ref (13))] [] σ (mc + 20) (ms + 200) := by
  obtain ⟨x, V', hv', hT, hMo⟩ := op_discipline (G := G) hl0 hR0.1 ((((xs (i + 1)).toInt64) <<< ((32 : Int32).toInt64 &&& 63)) ||| (((xs (i + 2)).toInt64) &&& (4294967295)))
  obtain ⟨τ, ct, htr, hfr⟩ := hT σ hR0.2.1
  have hO : hl τ 9 2 = 1 := (hfr.1 9 2 ⟨by omega, by omega⟩).2.2.2.trans hR0.2.2.2
  obtain ⟨ρ, v, ct2, rfl, hmr, hfr2⟩ := hMo _ (hR0.2.2.1.frm hfr)
  have hR1 : RR ρ V' := ⟨hv', htr.frm hfr2, hmr, (hfr2.1 9 2 nT92).2.2.2.trans hO⟩
  refine e_aload_n d_L_law_1030 rfl rfl ?_
  refine e_aload_n d_L_law_1031 rfl rfl ?_
  refine e_iload d_L_law_1032 rfl ?_
  refine e_iconst (v := 1) d_L_law_1034 (by decide) ?_
  refine e_iadd d_L_law_1035 ?_
  rw [show (nI i) + (1) = nI (i + 1) from by rw [show (1 : Int32) = nI 1 from by decide +kernel, nJ_add]]
  refine e_sld d_L_law_1036 (show vp_in (nI (i + 1)) L from nI_in (by omega) (by omega)) ?_
  rw [nI_clamp (show i + 1 < 2 ^ 31 by omega)]
  refine e_i2l d_L_law_1037 ?_
  refine e_bipush (v := 32) d_L_law_1038 (by decide) ?_
  refine e_lshl d_L_law_1040 ?_
  refine e_aload_n d_L_law_1041 rfl rfl ?_
  refine e_iload d_L_law_1042 rfl ?_
  refine e_iconst (v := 2) d_L_law_1044 (by decide) ?_
  refine e_iadd d_L_law_1045 ?_
  rw [show (nI i) + (2) = nI (i + 2) from by rw [show (2 : Int32) = nI 2 from by decide +kernel, nJ_add]]
  refine e_sld d_L_law_1046 (show vp_in (nI (i + 2)) L from nI_in (by omega) (by omega)) ?_
  rw [nI_clamp (show i + 2 < 2 ^ 31 by omega)]
  refine e_i2l d_L_law_1047 ?_
  refine e_ldc2 (v := 4294967295) d_L_law_1048 kc_L_63 ?_
  refine e_land d_L_law_1051 ?_
  refine e_lor d_L_law_1052 ?_
  refine e_callVd (v := some (.int (x))) (σ' := τ) (q := 5) (a := 0) (As := [.long ((((xs (i + 1)).toInt64) <<< ((32 : Int32).toInt64 &&& 63)) ||| (((xs (i + 2)).toInt64) &&& (4294967295)))]) (st := []) (mc + 20) (ms + 200) d_L_law_1053 cb_L_law_118 iv_T_discipline rfl ⟨by decide, rfl⟩ rfl (Nat.le_of_ble_eq_true rfl) (by show mc + 20 + 0 ≤ mc + 20; omega) (by show ms + 200 + 0 ≤ ms + 200; omega) (ct) ?_
  show Ex l G m_L_law (pmL G L xs) 1056 [(4, .int (nI i)), (3, .ref (9 + 16 * 2)), (2, .ref (6 + 16 * 0)), (1, .ref (5 + 16 * 0)), (0, .ref (13))] [.int (x)] (τ) (mc + 20) (ms + 200)
  refine e_aload_n d_L_law_1056 rfl rfl ?_
  refine e_aload_n d_L_law_1057 rfl rfl ?_
  refine e_iload d_L_law_1058 rfl ?_
  refine e_iconst (v := 1) d_L_law_1060 (by decide) ?_
  refine e_iadd d_L_law_1061 ?_
  rw [show (nI i) + (1) = nI (i + 1) from by rw [show (1 : Int32) = nI 1 from by decide +kernel, nJ_add]]
  refine e_sld d_L_law_1062 (show vp_in (nI (i + 1)) L from nI_in (by omega) (by omega)) ?_
  rw [nI_clamp (show i + 1 < 2 ^ 31 by omega)]
  refine e_i2l d_L_law_1063 ?_
  refine e_bipush (v := 32) d_L_law_1064 (by decide) ?_
  refine e_lshl d_L_law_1066 ?_
  refine e_aload_n d_L_law_1067 rfl rfl ?_
  refine e_iload d_L_law_1068 rfl ?_
  refine e_iconst (v := 2) d_L_law_1070 (by decide) ?_
  refine e_iadd d_L_law_1071 ?_
  rw [show (nI i) + (2) = nI (i + 2) from by rw [show (2 : Int32) = nI 2 from by decide +kernel, nJ_add]]
  refine e_sld d_L_law_1072 (show vp_in (nI (i + 2)) L from nI_in (by omega) (by omega)) ?_
  rw [nI_clamp (show i + 2 < 2 ^ 31 by omega)]
  refine e_i2l d_L_law_1073 ?_
  refine e_ldc2 (v := 4294967295) d_L_law_1074 kc_L_63 ?_
  refine e_land d_L_law_1077 ?_
  refine e_lor d_L_law_1078 ?_
  refine e_callVd (v := some (.int (x))) (σ' := ρ) (q := 6) (a := 0) (As := [.long ((((xs (i + 1)).toInt64) <<< ((32 : Int32).toInt64 &&& 63)) ||| (((xs (i + 2)).toInt64) &&& (4294967295)))]) (st := [.int (x)]) (mc + 20) (ms + 200) d_L_law_1079 cb_L_law_122 iv_M_discipline rfl ⟨by decide, rfl⟩ rfl (Nat.le_of_ble_eq_true rfl) (by show mc + 20 + 0 ≤ mc + 20; omega) (by show ms + 200 + 0 ≤ ms + 200; omega) (ct2) ?_
  show Ex l G m_L_law (pmL G L xs) 1082 [(4, .int (nI i)), (3, .ref (9 + 16 * 2)), (2, .ref (6 + 16 * 0)), (1, .ref (5 + 16 * 0)), (0, .ref (13))] [.int (x), .int (x)] (ρ) (mc + 20) (ms + 200)
  refine e_icmpeq (tgt := 1087) d_L_law_1082 (by decide) (fun h1082 => ?_) (fun h1082 => absurd rfl h1082)
  exact e_bg (mc' := mc) (ms' := ms) (by omega) (by omega) (e_lv (lv' := [(4, .int (nI i)), (3, .ref (9 + 16 * 2)), (2, .ref (6 + 16 * 0)), (1, .ref (5 + 16 * 0)), (0, .ref (13))]) ⟨rfl, rfl, rfl, rfl, rfl, trivial⟩ (hnext _ _ hR1))
theorem lc_up {l : Launch} (hl0 : l.stackTraces = false) {G : LG} {L : Nat} {xs : Nat → Int32} {σ : HS} {V : AV} {i mc ms : Nat} (hR0 : RR σ V) (hi : i + 7 ≤ L) (hL : L ≤ 3584) (hnext : ∀ σ' V', RR σ' V' → Ex l G m_L_law (pmL G L xs) 1087 [(4, .int (nI i)), (3, .ref (9 + 16 * 2)), (2, .ref (6 + 16 * 0)), (1, .ref (5 + 16 * 0)), (0, .ref (13))] [] σ' mc ms) : Ex l G m_L_law (pmL G L xs) 368 [(4, .int (nI i)), (3, .ref (9 + 16 * 2)), (2, .ref (6 + 16 * 0)), (1, .ref (5 + 16 * 0)), (0, .ref (13))] [] σ (mc + 20) (ms + 200) := by
  by_cases hz : xs (i + 2) = 0
  · exact lc_up_0 hl0 hR0 hi hL hz hnext
  · exact lc_up_1 hl0 hR0 hi hL hz hnext
set_option maxHeartbeats 4000000 in
theorem lw_loop {l : Launch} (hl0 : l.stackTraces = false) {G : LG} {L : Nat} {xs : Nat → Int32} (hL : L ≤ 3584) : ∀ m i (σ : HS) (V : AV), i ≤ 3584 → L < i + 7 * m + 7 → RR σ V → Ex l G m_L_law (pmL G L xs) 23 [(4, .int (nI i)), (3, .ref (9 + 16 * 2)), (2, .ref (6 + 16 * 0)), (1, .ref (5 + 16 * 0)), (0, .ref (13))] [] σ (20 * m) (200 * m) := by
  intro m
  induction m with
  | zero =>
    intro i σ V hi hm hR
    refine e_iload d_L_law_23 rfl ?_
    refine e_aload_n d_L_law_25 rfl rfl ?_
    refine e_slen d_L_law_26 ?_
    refine e_bipush (v := 7) d_L_law_27 (by decide) ?_
    refine e_isub d_L_law_29 ?_
    refine e_icmpgt (tgt := 1093) d_L_law_30 (by decide) (fun h30 => ?_) (fun h30 => absurd ((lw_gt (by omega) (by omega)).mpr (by omega)) h30)
    refine e_iconst (v := 1) d_L_law_1093 (by decide) ?_
    exact e_lend d_L_law_1094
  | succ m ih =>
    intro i σ V hi hm hR
    by_cases hx : i + 7 ≤ L
    ·
      refine e_iload d_L_law_23 rfl ?_
      refine e_aload_n d_L_law_25 rfl rfl ?_
      refine e_slen d_L_law_26 ?_
      refine e_bipush (v := 7) d_L_law_27 (by decide) ?_
      refine e_isub d_L_law_29 ?_
      refine e_icmpgt (tgt := 1093) d_L_law_30 (by decide) (fun h30 => absurd h30 (fun z => absurd ((lw_gt (by omega) (by omega)).mp z) (by omega))) (fun h30 => ?_)
      refine e_aload_n d_L_law_33 rfl rfl ?_
      refine e_iload d_L_law_34 rfl ?_
      refine e_sld d_L_law_36 (show vp_in (nI i) L from nI_in (by omega) (by omega)) ?_
      rw [nI_clamp (show i < 2 ^ 31 by omega)]
      refine e_bipush (v := 15) d_L_law_37 (by decide) ?_
      refine e_iand d_L_law_39 ?_
      refine e_bg (mc' := 20 * m + 20) (ms' := 200 * m + 200) (by omega) (by omega) ?_
      have hnext : ∀ σ' V', RR σ' V' → Ex l G m_L_law (pmL G L xs) 1087 [(4, .int (nI i)), (3, .ref (9 + 16 * 2)), (2, .ref (6 + 16 * 0)), (1, .ref (5 + 16 * 0)), (0, .ref (13))] [] σ' (20 * m) (200 * m) := by
        intro σ' V' hR'
        refine e_iinc (v := nI (i + 7)) (lv' := [(4, .int (nI (i + 7))), (3, .ref (9 + 16 * 2)), (2, .ref (6 + 16 * 0)), (1, .ref (5 + 16 * 0)), (0, .ref (13))]) d_L_law_1087 rfl (ofI7 i) (by decide) rfl ?_
        refine e_goto (tgt := 23) d_L_law_1090 (by decide) ?_
        exact ih (i + 7) σ' V' (by omega) (by omega) hR'
      refine e_switch (N := 13) rfl (by decide) d_L_law_40 (fun n hn hy => ?_) 1087 (by decide) (e_bg (mc' := 20 * m) (ms' := 200 * m) (by omega) (by omega) (hnext σ V hR))
      match n, hn with
      | 0, _ => exact ⟨72, 112, rfl, by decide, lc_node hl0 hR hx hL hnext⟩
      | 1, _ => exact ⟨210, 250, rfl, by decide, lc_link hl0 hR hx hL hnext⟩
      | 2, _ => exact ⟨328, 368, rfl, by decide, lc_up hl0 hR hx hL hnext⟩
      | 3, _ => exact ⟨392, 432, rfl, by decide, lc_priority hl0 hR hx hL hnext⟩
      | 4, _ => exact ⟨440, 480, rfl, by decide, lc_round hl0 hR hx hL hnext⟩
      | 5, _ => exact ⟨496, 536, rfl, by decide, lc_settle hl0 hR hx hL hnext⟩
      | 6, _ => exact ⟨509, 549, rfl, by decide, lc_state hl0 hR hx hL hnext⟩
      | 7, _ => exact ⟨577, 617, rfl, by decide, lc_root hl0 hR hx hL hnext⟩
      | 8, _ => exact ⟨633, 673, rfl, by decide, lc_steps hl0 hR hx hL hnext⟩
      | 9, _ => exact ⟨689, 729, rfl, by decide, lc_kept hl0 hR hx hL hnext⟩
      | 10, _ => exact ⟨757, 797, rfl, by decide, lc_exchange hl0 hR hx hL hnext⟩
      | 11, _ => exact ⟨880, 920, rfl, by decide, lc_delay hl0 hR hx hL hnext⟩
      | 12, _ => exact ⟨935, 975, rfl, by decide, lc_offset hl0 hR hx hL hnext⟩
      | 13, _ => exact ⟨990, 1030, rfl, by decide, lc_discipline hl0 hR hx hL hnext⟩
      | n + 14, hn => omega
    ·
      refine e_iload d_L_law_23 rfl ?_
      refine e_aload_n d_L_law_25 rfl rfl ?_
      refine e_slen d_L_law_26 ?_
      refine e_bipush (v := 7) d_L_law_27 (by decide) ?_
      refine e_isub d_L_law_29 ?_
      refine e_icmpgt (tgt := 1093) d_L_law_30 (by decide) (fun h30 => ?_) (fun h30 => absurd ((lw_gt (by omega) (by omega)).mpr (by omega)) h30)
      refine e_iconst (v := 1) d_L_law_1093 (by decide) ?_
      exact e_lend d_L_law_1094
