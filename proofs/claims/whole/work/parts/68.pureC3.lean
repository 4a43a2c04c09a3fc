theorem wi_nd {x m : Int32} : ndV m x = 0 ↔ ¬ wiV x m = 0 := by
  unfold ndV wiV
  by_cases a : x < 0
  · rw [if_pos a, if_pos a]; exact ⟨fun z => absurd z (by decide), fun z => absurd rfl z⟩
  · rw [if_neg a, if_neg a]
    by_cases b : m < x
    · rw [if_pos b, if_pos b]; exact ⟨fun z => absurd z (by decide), fun z => absurd rfl z⟩
    · rw [if_neg b, if_neg b]; exact ⟨fun _ => by decide, fun _ => rfl⟩
theorem wi_le {x m : Int32} (h : ¬ wiV x m = 0) : 0 ≤ x ∧ x ≤ m := by
  unfold wiV at h
  by_cases a : x < 0
  · rw [if_pos a] at h; exact absurd rfl h
  · rw [if_neg a] at h
    by_cases b : m < x
    · rw [if_pos b] at h; exact absurd rfl h
    · exact ⟨Int32.not_lt.mp a, Int32.not_lt.mp b⟩
theorem wi_rest {x : Int32} (h : ¬ wiV x 1000000 = 0) : 0 ≤ x.toInt ∧ x.toInt ≤ 1000000 := by
  obtain ⟨a, b⟩ := wi_le h
  have a := le32 a
  have b := le32 b
  have z0 : (0 : Int32).toInt = 0 := by decide +kernel
  have z1 : (1000000 : Int32).toInt = 1000000 := by decide +kernel
  rw [z0] at a
  rw [z1] at b
  exact ⟨a, b⟩
theorem hiR_0 {σ : HS} {id : Int32} : ∀ m i, hiR σ id m i = 0 ↔ ∀ x, i ≤ x → x < i + m → ¬ hI σ 0 (9 * x) 3 = id
  | 0, i => ⟨fun _ x h1 h2 => by omega, fun _ => rfl⟩
  | m + 1, i => by
    rw [hiR]
    by_cases c : hI σ 0 (9 * i) 3 = id
    · rw [if_pos c]; exact ⟨fun z => absurd z (by decide), fun z => absurd c (z i (by omega) (by omega))⟩
    · rw [if_neg c, hiR_0 m (i + 1)]
      exact ⟨fun z x h1 h2 => by by_cases e : x = i; (rw [e]; exact c); exact z x (by omega) (by omega), fun z x h1 h2 => z x (by omega) (by omega)⟩
def noId (V : AV) (id : Int32) : Prop := ∀ x, x < ab_n V → ¬ ab_O V x 3 = id
theorem TR.hid {σ : HS} {V : AV} (h : TR σ V) {id : Int32} : hiR σ id (ab_n V) 0 = 0 ↔ noId V id := by
  rw [hiR_0]
  have e : ∀ x, x < ab_n V → hI σ 0 (9 * x) 3 = ab_O V x 3 := fun x hx => (h.1.2.2.1 x hx).1 3 (by omega)
  exact ⟨fun z x hx => by rw [← e x hx]; exact z x (by omega) (by omega), fun z x h1 h2 => by rw [e x (by omega)]; exact z x (by omega)⟩
theorem MR.mid {σ : HS} {V : AV} (h : MR σ V) {id : Int32} : mbL σ id 0 (ab_n V) = 0 ↔ noId V id := by
  rw [mbL_0]
  have e : ∀ x, x < ab_n V → hI σ 7 0 x = ab_O V x 3 := fun x hx => (h.1.2.2.1 x hx).2.2.2.1
  exact ⟨fun z x hx => by rw [← e x hx]; exact z x hx, fun z x hx => by rw [e x hx]; exact z x hx⟩
theorem wi_id {i : Int32} : ¬ wiV i 9999 = 0 ↔ ¬ i < 0 ∧ ¬ 9999 < i := by
  unfold wiV
  by_cases a : i < 0
  · rw [if_pos a]; exact ⟨fun z => absurd rfl z, fun z => absurd a z.1⟩
  · rw [if_neg a]
    by_cases b : 9999 < i
    · rw [if_pos b]; exact ⟨fun z => absurd rfl z, fun z => absurd b z.2⟩
    · rw [if_neg b]; exact ⟨fun _ => ⟨a, b⟩, fun _ => by decide⟩
theorem op_exchange {l : Launch} (hl0 : l.stackTraces = false) {G : LG} {V : AV} (hv : IV V) (v : Int32) (t : Int64) (r s : Int32) : opJ 3 l G m_T_exchange m_M_exchange [.int v, .long t, .int r, .int s] V := by
  have h10 := hv.1.1
  rcases vN (n := ab_n V) (by omega) v with hx | ⟨i, hi, rfl⟩
  · exact ⟨1, 0, V, by omega, hv, fun σ h => ⟨σ, ct_T_exchange_x hl0 (tn h hx), h, fr.rf⟩, fun σ h => ⟨_, _, ct_M_exchange_x hl0 (fun z => nn1 h hx z.1), ⟨kJ (by omega), th1⟩, h.th, fr.oI nT6⟩⟩
  · by_cases hw : wiV r 1000000 = 0 ∨ wiV s 1000000 = 0
    · refine ⟨1, 0, V, by omega, hv, fun σ h => ⟨σ, ct_T_exchange_y (b := 0) hl0 h.1.1 hi hw, h, fr.rf⟩, fun σ h => ⟨_, _, ct_M_exchange_x hl0 (fun z => ?_), ⟨kJ (by omega), th1⟩, h.th, fr.oI nT6⟩⟩
      rcases hw with hw | hw
      · exact wi_nd.mp z.2.1 hw
      · exact wi_nd.mp z.2.2 hw
    · have hw1 : ¬ wiV r 1000000 = 0 := fun z => hw (Or.inl z)
      have hw2 : ¬ wiV s 1000000 = 0 := fun z => hw (Or.inr z)
      have r1 := wi_rest hw1
      have r2 := wi_rest hw2
      have hm : ∀ σ, MR σ V → nnV σ (nI i) = 0 ∧ ndV 1000000 r = 0 ∧ ndV 1000000 s = 0 := fun σ h => ⟨nn0 h hv hi, wi_nd.mpr hw1, wi_nd.mpr hw2⟩
      cases ho : osA V i with
      | none =>
        refine ⟨2, 0, V, by omega, hv, fun σ h => ⟨σ, ct_T_exchange_n hl0 h.1.1 hi hw1 hw2 (h.2 i hi).1 ((h.os hv hi).trans ho), h, fr.rf⟩, fun σ h => ⟨_, _, ct_M_exchange_n hl0 h.1.1 (by omega) (hm σ h) (h.lbx hv hi) ((h.cs hv hi).1.mpr ho), ⟨kJ (by omega), th2⟩, h.th.th, (fr.oI nT6).trans (fr.oI nT6)⟩⟩
      | some p =>
        obtain ⟨j, k, hj, hb, -, hk, hu⟩ := osA_some ho
        have hcs : ∀ σ, MR σ V → ¬ csV σ i = 0 := fun σ h z => by have := (h.cs hv hi).1.mp z; rw [ho] at this; cases this
        by_cases hO : exO V i p t r s = 0
        · refine ⟨0, exF V i p t r s, exV V i p t r s, by omega, hv.exv, fun σ h => ?_, fun σ h => ?_⟩
          · obtain ⟨x0, x1, -, -⟩ := h.1.xv hv hi hk (t := t) r1 r2
            have c := ct_T_exchange (G := G) (t := t) hl0 h.1.1 hi hw1 hw2 (h.2 i hi).1 ((h.os hv hi).trans ho) (by unfold scV; rw [if_pos (x0.mpr hO)]; decide)
            rw [x1] at c
            exact ⟨_, c, h.ex hv hi hk r1 r2, fr.sc⟩
          · have hp := (h.cs hv hi).2 p ho
            have h2 : MR (sI (sI σ 6 0 0 0) 6 0 0 0) V := h.th.th
            obtain ⟨m0, m1, -, -⟩ := h2.mx hv hi hk (t := t) (r := r) (s := s)
            have c := ct_M_exchange_g (G := G) (t := t) hl0 h.1.1 (by omega) (hm σ h) (h.lbx hv hi) (hcs σ h) (by rw [hp, m0]; exact hO)
            rw [hp] at c
            exact ⟨_, _, c, ⟨⟨_, rfl, fun _ => m1⟩, th0⟩, (h2.sw hv hi hk).th, (((fr.oI nT6).trans (fr.oI nT6)).trans fr.sQ).trans (fr.oI nT6)⟩
        · refine ⟨3, 0, exV V i p t r s, by omega, hv.exv, fun σ h => ?_, fun σ h => ?_⟩
          · obtain ⟨x0, -⟩ := h.1.xv hv hi hk (t := t) r1 r2
            have c := ct_T_exchange_o (G := G) (t := t) hl0 h.1.1 hi hw1 hw2 (h.2 i hi).1 ((h.os hv hi).trans ho) (by unfold scV; rw [if_neg (fun z => hO (x0.mp z))])
            exact ⟨_, c, h.ex hv hi hk r1 r2, fr.sc⟩
          · have hp := (h.cs hv hi).2 p ho
            have h2 : MR (sI (sI σ 6 0 0 0) 6 0 0 0) V := h.th.th
            obtain ⟨m0, m1, -, -⟩ := h2.mx hv hi hk (t := t) (r := r) (s := s)
            have c := ct_M_exchange_o (G := G) (t := t) hl0 h.1.1 (by omega) (hm σ h) (h.lbx hv hi) (hcs σ h) (by rw [hp, m0]; exact hO)
            rw [hp] at c
            exact ⟨_, _, c, ⟨kJ (by omega), th3⟩, (h2.sw hv hi hk).th, (((fr.oI nT6).trans (fr.oI nT6)).trans fr.sQ).trans (fr.oI nT6)⟩
theorem op_node {l : Launch} (hl0 : l.stackTraces = false) {G : LG} {V : AV} (hv : IV V) (i p k e : Int32) (off : Int64) : opI 2 l G m_T_node m_M_node [.int i, .int p, .int k, .int e, .long off] V := by
  have h10 := hv.1.1
  by_cases hx : wiV i 9999 = 0 ∨ wiV p 255 = 0 ∨ wiV k 255 = 0 ∨ wiV e 255 = 0
  · refine ⟨1, 0, V, by omega, hv, fun σ h => ⟨σ, ct_T_node_x hl0 hx, h, fr.rf⟩, fun σ h => ⟨_, _, ct_M_node_x hl0 h.1.1 h10 h.1.2.1.1 (fun z => ?_), ⟨kI (by omega), th1⟩, h.th, fr.oI nT6⟩⟩
    obtain ⟨z1, z2, z3, z4, z5⟩ := z
    rcases hx with y | y | y | y
    · exact wi_id.mpr ⟨z1, z2⟩ y
    · exact z3 y
    · exact z4 y
    · exact z5 y
  · have x1 : ¬ wiV i 9999 = 0 := fun z => hx (Or.inl z)
    have x2 : ¬ wiV p 255 = 0 := fun z => hx (Or.inr (Or.inl z))
    have x3 : ¬ wiV k 255 = 0 := fun z => hx (Or.inr (Or.inr (Or.inl z)))
    have x4 : ¬ wiV e 255 = 0 := fun z => hx (Or.inr (Or.inr (Or.inr z)))
    obtain ⟨y1, y2⟩ := wi_id.mp x1
    rcases Classical.em (noId V i) with hid | hid
    · by_cases hn : ab_n V = 10
      · exact ⟨2, 0, V, by omega, hv, fun σ h => ⟨σ, ct_T_node_z hl0 h.1.1 x1 x2 x3 x4 (h.hid.mpr hid) hn, h, fr.rf⟩, fun σ h => ⟨_, _, ct_M_node_z hl0 h.1.1 h10 h.1.2.1.1 y1 y2 x2 x3 x4 (h.mid.mpr hid) hn, ⟨kI (by omega), th2⟩, h.th, fr.oI nT6⟩⟩
      · have hlt : ab_n V < 10 := by omega
        exact ⟨0, nI (ab_n V), ndA V i p k e off, by omega, hv.nd hlt, fun σ h => ⟨_, ct_T_node hl0 h.1.1 h.1.2.1.1 h.1.2.1.2.1 h.1.2.1.2.2 x1 x2 x3 x4 (h.hid.mpr hid) hlt, h.nd hv hlt, fr.mkN⟩, fun σ h => ⟨_, _, ct_M_node hl0 h.1.1 h10 h.1.2.1.1 y1 y2 x2 x3 x4 (h.mid.mpr hid) hlt, ⟨⟨_, rfl, fun _ => rfl⟩, by rw [faS_I6]; unfold mn0; rw [I_sI, if_neg (by omega)]; simp only [I_sJ]; rw [I_sI, if_neg (by omega), I_sI, if_neg (by omega), I_sI, if_neg (by omega), I_sI, if_neg (by omega)]; exact th0⟩, h.nd hv hlt, fr.n0.trans (fr.fa _)⟩⟩
    · exact ⟨1, 0, V, by omega, hv, fun σ h => ⟨σ, ct_T_node_y hl0 h.1.1 x1 x2 x3 x4 (fun z => hid (h.hid.mp z)), h, fr.rf⟩, fun σ h => ⟨_, _, ct_M_node_y hl0 h.1.1 h10 h.1.2.1.1 y1 y2 x2 x3 x4 (fun z => hid (h.mid.mp z)), ⟨kI (by omega), th1⟩, h.th, fr.oI nT6⟩⟩
theorem op_link {l : Launch} (hl0 : l.stackTraces = false) {G : LG} {V : AV} (hv : IV V) (v u v2 u2 t b : Int32) : opI 2 l G m_T_link m_M_link [.int v, .int u, .int v2, .int u2, .int t, .int b] V := by
  have h10 := hv.1.1
  have h16 := hv.1.2
  rcases vN (n := ab_n V) (by omega) v with hx | ⟨i, hi, rfl⟩
  · exact ⟨1, 0, V, by omega, hv, fun σ h => ⟨σ, ct_T_link_a hl0 (tn h hx), h, fr.rf⟩, fun σ h => ⟨_, _, ct_M_link_x hl0 (fun z => np1 h hx z.1), ⟨kI (by omega), th1⟩, h.th, fr.oI nT6⟩⟩
  rcases vP u with hx | ⟨j, hj, rfl⟩
  · exact ⟨1, 0, V, by omega, hv, fun σ h => ⟨σ, ct_T_link_b hl0 h.1.1 hi hx, h, fr.rf⟩, fun σ h => ⟨_, _, ct_M_link_x hl0 (fun z => np2 h hv hi hx z.1), ⟨kI (by omega), th1⟩, h.th, fr.oI nT6⟩⟩
  rcases vN (n := ab_n V) (by omega) v2 with hx | ⟨i2, hi2, rfl⟩
  · exact ⟨1, 0, V, by omega, hv, fun σ h => ⟨σ, ct_T_link_c hl0 h.1.1 hi hj (tn h hx), h, fr.rf⟩, fun σ h => ⟨_, _, ct_M_link_x hl0 (fun z => np1 h hx z.2.1), ⟨kI (by omega), th1⟩, h.th, fr.oI nT6⟩⟩
  rcases vP u2 with hx | ⟨j2, hj2, rfl⟩
  · exact ⟨1, 0, V, by omega, hv, fun σ h => ⟨σ, ct_T_link_d hl0 h.1.1 hi hj hi2 hx, h, fr.rf⟩, fun σ h => ⟨_, _, ct_M_link_x hl0 (fun z => np2 h hv hi2 hx z.2.1), ⟨kI (by omega), th1⟩, h.th, fr.oI nT6⟩⟩
  by_cases hne : nI i = nI i2
  · exact ⟨1, 0, V, by omega, hv, fun σ h => ⟨σ, ct_T_link_e hl0 h.1.1 hi hj hi2 hj2 hne, h, fr.rf⟩, fun σ h => ⟨_, _, ct_M_link_x hl0 (fun z => z.2.2.1 hne), ⟨kI (by omega), th1⟩, h.th, fr.oI nT6⟩⟩
  by_cases hw : wiV t 1000000000 = 0 ∨ wiV b 1000000000 = 0
  · refine ⟨1, 0, V, by omega, hv, fun σ h => ⟨σ, ct_T_link_f hl0 h.1.1 hi hj hi2 hj2 hne hw, h, fr.rf⟩, fun σ h => ⟨_, _, ct_M_link_x hl0 (fun z => ?_), ⟨kI (by omega), th1⟩, h.th, fr.oI nT6⟩⟩
    rcases hw with hw | hw
    · exact wi_nd.mp z.2.2.2.1 hw
    · exact wi_nd.mp z.2.2.2.2 hw
  have hw1 : ¬ wiV t 1000000000 = 0 := fun z => hw (Or.inl z)
  have hw2 : ¬ wiV b 1000000000 = 0 := fun z => hw (Or.inr z)
  have hm : ∀ σ, MR σ V → npV σ (nI i) (nI j) = 0 ∧ npV σ (nI i2) (nI j2) = 0 ∧ ¬ nI i = nI i2 ∧ ndV 1000000000 t = 0 ∧ ndV 1000000000 b = 0 := fun σ h => ⟨np0 h hv hi hj, np0 h hv hi2 hj2, hne, wi_nd.mpr hw1, wi_nd.mpr hw2⟩
  have hk : ∀ σ, MR σ V → ∀ p, p < 40 → (hI σ 7 6 p < 0 ↔ ab_k V p = none) := fun σ h p hp => by rw [(h.1.2.2.2.1 p hp).2.2.2]; exact lk_neg (hv.L16 p)
  have hR' : ∀ σ, TR σ V → ∀ p, p < 4 * ab_n V → hR σ 1 p 7 = (ab_k V p).map (fun k => 3 + 16 * k) := fun σ h p hp => (h.1.2.2.2.1 p hp).2.2.2
  by_cases hL : ab_L V = 16
  · exact ⟨2, 0, V, by omega, hv, fun σ h => ⟨σ, ct_T_link_g hl0 h.1.1 hi hj hi2 hj2 hne hw1 hw2 hL, h, fr.rf⟩, fun σ h => ⟨_, _, ct_M_link_z hl0 h.1.1 (by omega) hj (by omega) hj2 (hm σ h) (fun z => z.1 (by rw [h.1.2.1.2, hL]; decide +kernel)), ⟨kI (by omega), th2⟩, h.th, fr.oI nT6⟩⟩
  have hlt : ab_L V < 16 := by omega
  cases k1 : ab_k V (4 * i + j) with
  | some y =>
    exact ⟨2, 0, V, by omega, hv, fun σ h => ⟨σ, ct_T_link_h (k := y) hl0 h.1.1 hi hj hi2 hj2 hne hw1 hw2 hlt (by rw [hR' σ h _ (by omega), k1]; rfl), h, fr.rf⟩, fun σ h => ⟨_, _, ct_M_link_z hl0 h.1.1 (by omega) hj (by omega) hj2 (hm σ h) (fun z => by have := (hk σ h _ (by omega)).mp z.2.1; rw [k1] at this; cases this), ⟨kI (by omega), th2⟩, h.th, fr.oI nT6⟩⟩
  | none =>
    cases k2 : ab_k V (4 * i2 + j2) with
    | some y =>
      exact ⟨2, 0, V, by omega, hv, fun σ h => ⟨σ, ct_T_link_i (k := y) hl0 h.1.1 hi hj hi2 hj2 hne hw1 hw2 hlt (by rw [hR' σ h _ (by omega), k1]; rfl) (by rw [hR' σ h _ (by omega), k2]; rfl), h, fr.rf⟩, fun σ h => ⟨_, _, ct_M_link_z hl0 h.1.1 (by omega) hj (by omega) hj2 (hm σ h) (fun z => by have := (hk σ h _ (by omega)).mp z.2.2; rw [k2] at this; cases this), ⟨kI (by omega), th2⟩, h.th, fr.oI nT6⟩⟩
    | none =>
      have hni : i ≠ i2 := fun z => hne (by rw [z])
      have hv' : IV (lkA V (4 * i + j) (4 * i2 + j2) t b) := hv.lk hlt (by omega) (by omega) (by omega) k1 k2 (wi_le hw1) (wi_le hw2)
      refine ⟨0, nI (ab_L V), lkA V (4 * i + j) (4 * i2 + j2) t b, by omega, hv', fun σ h => ⟨_, ct_T_link hl0 h.1.1 hi hj hi2 hj2 h.1.2.1.1 hne hw1 hw2 hlt (by rw [hR' σ h _ (by omega), k1]; rfl) (by rw [hR' σ h _ (by omega), k2]; rfl), h.lk hlt (by omega) (by omega), fr.mkL⟩, fun σ h => ⟨_, _, ct_M_link hl0 h.1.1 (by omega) hj (by omega) hj2 (hm σ h) h10 h.1.2.1.1 h.1.2.1.2 hlt ((hk σ h _ (by omega)).mpr k1) ((hk σ h _ (by omega)).mpr k2), ⟨⟨_, rfl, fun _ => rfl⟩, ?_⟩, h.lkm (by omega) (by omega) hv', fr.l0.trans (fr.fa _)⟩⟩
      rw [faS_I6]
      unfold ml0
      rw [I_sI, if_neg (by omega), I_sI, if_neg (by omega), I_sI, if_neg (by omega), I_sI, if_neg (by omega), I_sI, if_neg (by omega), I_sI, if_neg (by omega), I_sI, if_neg (by omega), I_sI, if_neg (by omega)]
      exact th0
