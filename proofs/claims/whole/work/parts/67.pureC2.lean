/-! the calls: what the tree answers and what the model answers -/
def ansI (k : Nat) (x : Int32) : LO := if k = 0 then .inr (some (.int x)) else .inl (k - 1)
def ansJ (k : Nat) (x : Int64) : LO := if k = 0 then .inr (some (.long x)) else .inl (k - 1)
def ansV (k : Nat) : LO := if k = 0 then .inr none else .inl (k - 1)
def opT (l : Launch) (G : LG) (mT : MI) (as : List Value) (V V' : AV) (r : LO) : Prop := ∀ σ, TR σ V → ∃ τ, Ct l G mT (.ref (5 + 16 * 0) :: as) σ (qd r τ) ∧ TR τ V' ∧ fr pM σ τ
def opM (l : Launch) (G : LG) (mM : MI) (as : List Value) (V V' : AV) (ok : Option Value → HS → Prop) : Prop := ∀ σ, MR σ V → ∃ τ v, Ct l G mM (.ref (6 + 16 * 0) :: as) σ (qd (.inr v) τ) ∧ ok v τ ∧ MR τ V' ∧ fr pT σ τ
def okI (k : Nat) (x : Int32) : Option Value → HS → Prop := fun v τ => (∃ y, v = some (.int y) ∧ (k = 0 → y = x)) ∧ hI τ 6 0 0 = nI k
def okJ (k : Nat) (x : Int64) : Option Value → HS → Prop := fun v τ => (∃ y, v = some (.long y) ∧ (k = 0 → y = x)) ∧ hI τ 6 0 0 = nI k
def okV (k : Nat) : Option Value → HS → Prop := fun v τ => v = none ∧ hI τ 6 0 0 = nI k
def okN (x : Int32) : Option Value → HS → Prop := fun v _ => v = some (.int x)
def opI (K : Nat) (l : Launch) (G : LG) (mT mM : MI) (as : List Value) (V : AV) : Prop := ∃ k x V', k ≤ K ∧ IV V' ∧ opT l G mT as V V' (ansI k x) ∧ opM l G mM as V V' (okI k x)
def opJ (K : Nat) (l : Launch) (G : LG) (mT mM : MI) (as : List Value) (V : AV) : Prop := ∃ k x V', k ≤ K ∧ IV V' ∧ opT l G mT as V V' (ansJ k x) ∧ opM l G mM as V V' (okJ k x)
def opV (K : Nat) (l : Launch) (G : LG) (mT mM : MI) (as : List Value) (V : AV) : Prop := ∃ k V', k ≤ K ∧ IV V' ∧ opT l G mT as V V' (ansV k) ∧ opM l G mM as V V' (okV k)
def opN (l : Launch) (G : LG) (mT mM : MI) (as : List Value) (V : AV) : Prop := ∃ x V', IV V' ∧ opT l G mT as V V' (ansI 0 x) ∧ opM l G mM as V V' (okN x)
theorem vN {n : Nat} (hn : n ≤ 16) (v : Int32) : (v < 0 ∨ nI n ≤ v) ∨ ∃ i, i < n ∧ v = nI i := by
  by_cases a : v < 0
  · exact Or.inl (Or.inl a)
  · by_cases b : nI n ≤ v
    · exact Or.inl (Or.inr b)
    · exact Or.inr (small (by omega) a b)
theorem vP (u : Int32) : (u < 0 ∨ 4 ≤ u) ∨ ∃ j, j < 4 ∧ u = nI j := by
  rw [nI4]; exact vN (by omega) u
theorem nn1 {σ : HS} {V : AV} (h : MR σ V) {v : Int32} (hx : v < 0 ∨ nI (ab_n V) ≤ v) : ¬ nnV σ v = 0 := by
  unfold nnV
  rw [h.1.2.1.1]
  by_cases a : v < 0
  · rw [if_pos a]; decide
  · rw [if_neg a, if_pos (hx.resolve_left a)]; decide
theorem nn0 {σ : HS} {V : AV} (h : MR σ V) (hv : IV V) {i : Nat} (hi : i < ab_n V) : nnV σ (nI i) = 0 := by
  have := hv.1.1
  unfold nnV
  rw [h.1.2.1.1, if_neg (nI_pos (by omega)), if_neg (nI_ge hi (by omega))]
theorem np1 {σ : HS} {V : AV} (h : MR σ V) {v u : Int32} (hx : v < 0 ∨ nI (ab_n V) ≤ v) : ¬ npV σ v u = 0 := by
  unfold npV; rw [if_neg (nn1 h hx)]; decide
theorem np2 {σ : HS} {V : AV} (h : MR σ V) (hv : IV V) {i : Nat} {u : Int32} (hi : i < ab_n V) (hx : u < 0 ∨ 4 ≤ u) : ¬ npV σ (nI i) u = 0 := by
  unfold npV; rw [if_pos (nn0 h hv hi)]
  by_cases a : u < 0
  · rw [if_pos a]; decide
  · rw [if_neg a, if_neg (fun z => absurd (Int32.le_trans (hx.resolve_left a) z) (by decide))]; decide
theorem np0 {σ : HS} {V : AV} (h : MR σ V) (hv : IV V) {i j : Nat} (hi : i < ab_n V) (hj : j < 4) : npV σ (nI i) (nI j) = 0 := by
  unfold npV; rw [if_pos (nn0 h hv hi), if_neg (nI_pos (by omega)), if_pos (by rw [show (3 : Int32) = nI 3 by decide +kernel]; exact nI_le (by omega) (by omega))]
theorem tn {σ : HS} {V : AV} (h : TR σ V) {v : Int32} (hx : v < 0 ∨ nI (ab_n V) ≤ v) : v < 0 ∨ hI σ 5 0 3 ≤ v := by rw [h.1.1.2.2.1.1]; exact hx
theorem th1 {σ : HS} : hI (sI σ 6 0 0 1) 6 0 0 = nI 1 := th_1.trans (by decide +kernel)
theorem th0 {σ : HS} : hI (sI σ 6 0 0 0) 6 0 0 = nI 0 := th_1.trans (by decide +kernel)
theorem th2 {σ : HS} : hI (sI σ 6 0 0 2) 6 0 0 = nI 2 := th_1.trans (by decide +kernel)
theorem th3 {σ : HS} : hI (sI σ 6 0 0 3) 6 0 0 = nI 3 := th_1.trans (by decide +kernel)
theorem kI {k : Nat} {x : Int32} (h : ¬ k = 0) : ∃ y, (some (Value.int 0) : Option Value) = some (.int y) ∧ (k = 0 → y = x) := ⟨0, rfl, fun z => absurd z h⟩
theorem kJ {k : Nat} {x : Int64} (h : ¬ k = 0) : ∃ y, (some (Value.long 0) : Option Value) = some (.long y) ∧ (k = 0 → y = x) := ⟨0, rfl, fun z => absurd z h⟩
theorem op_state {l : Launch} (hl0 : l.stackTraces = false) {G : LG} {V : AV} (hv : IV V) (v u : Int32) : opI 1 l G m_T_state m_M_state [.int v, .int u] V := by
  have h10 := hv.1.1
  rcases vN (n := ab_n V) (by omega) v with hx | ⟨i, hi, rfl⟩
  · exact ⟨1, 0, V, by omega, hv, fun σ h => ⟨σ, ct_T_state_x hl0 (tn h hx), h, fr.rf⟩, fun σ h => ⟨_, _, ct_M_state_x hl0 (np1 h hx), ⟨kI (by omega), th1⟩, h.th, fr.oI nT6⟩⟩
  · rcases vP u with hx | ⟨j, hj, rfl⟩
    · exact ⟨1, 0, V, by omega, hv, fun σ h => ⟨σ, ct_T_state_y hl0 h.1.1 hi hx, h, fr.rf⟩, fun σ h => ⟨_, _, ct_M_state_x hl0 (np2 h hv hi hx), ⟨kI (by omega), th1⟩, h.th, fr.oI nT6⟩⟩
    · refine ⟨0, stA V (4 * i + j), V, by omega, hv, fun σ h => ⟨σ, ?_, h, fr.rf⟩, fun σ h => ⟨_, _, ct_M_state hl0 h.1.1 (by omega) hj (np0 h hv hi hj), ⟨⟨_, rfl, fun _ => (h.2 i hi).2 j hj⟩, th0⟩, h.th, fr.oI nT6⟩⟩
      have c := ct_T_state (G := G) hl0 h.1.1 hi hj
      rw [((h.2 i hi).2 j hj).1] at c
      exact c
theorem op_kept {l : Launch} (hl0 : l.stackTraces = false) {G : LG} {V : AV} (hv : IV V) (v u : Int32) : opI 1 l G m_T_kept m_M_kept [.int v, .int u] V := by
  have h10 := hv.1.1
  rcases vN (n := ab_n V) (by omega) v with hx | ⟨i, hi, rfl⟩
  · exact ⟨1, 0, V, by omega, hv, fun σ h => ⟨σ, ct_T_kept_x hl0 (tn h hx), h, fr.rf⟩, fun σ h => ⟨_, _, ct_M_kept_x hl0 (np1 h hx), ⟨kI (by omega), th1⟩, h.th, fr.oI nT6⟩⟩
  · rcases vP u with hx | ⟨j, hj, rfl⟩
    · exact ⟨1, 0, V, by omega, hv, fun σ h => ⟨σ, ct_T_kept_y hl0 h.1.1 hi hx, h, fr.rf⟩, fun σ h => ⟨_, _, ct_M_kept_x hl0 (np2 h hv hi hx), ⟨kI (by omega), th1⟩, h.th, fr.oI nT6⟩⟩
    · refine ⟨0, if ab_K V (4 * i + j) = 0 then -1 else 10000 * ab_T V (4 * i + j) 4 + ab_T V (4 * i + j) 3, V, by omega, hv, fun σ h => ⟨σ, ?_, h, fr.rf⟩, fun σ h => ?_⟩
      · have c := ct_T_kept (G := G) hl0 h.1.1 hi hj
        unfold kpV at c
        rw [h.1.K hi hj, h.1.kd hi hj (by omega), h.1.kd hi hj (by omega)] at c
        exact c
      · have hK := (h.1.2.2.2.1 (4 * i + j) (by omega)).1
        by_cases c : ab_K V (4 * i + j) = 0
        · rw [if_pos c]
          exact ⟨_, _, ct_M_kept_n hl0 h.1.1 (by omega) hj (np0 h hv hi hj) (hK.trans c), ⟨⟨_, rfl, fun _ => rfl⟩, th0⟩, h.th, fr.oI nT6⟩
        · rw [if_neg c]
          refine ⟨_, _, ct_M_kept_s hl0 h.1.1 (by omega) hj (np0 h hv hi hj) (fun z => c (hK.symm.trans z)), ⟨⟨_, rfl, fun _ => ?_⟩, th0⟩, h.th, fr.oI nT6⟩
          rw [h.1.dt (by omega) (by omega), h.1.dt (by omega) (by omega)]
theorem op_root {l : Launch} (hl0 : l.stackTraces = false) {G : LG} {V : AV} (hv : IV V) (v : Int32) : opI 1 l G m_T_root m_M_root [.int v] V := by
  have h10 := hv.1.1
  rcases vN (n := ab_n V) (by omega) v with hx | ⟨i, hi, rfl⟩
  · exact ⟨1, 0, V, by omega, hv, fun σ h => ⟨σ, ct_T_root_x hl0 (tn h hx), h, fr.rf⟩, fun σ h => ⟨_, _, ct_M_root_x hl0 (nn1 h hx), ⟨kI (by omega), th1⟩, h.th, fr.oI nT6⟩⟩
  · refine ⟨0, bD V i 3, V, by omega, hv, fun σ h => ⟨σ, ?_, h, fr.rf⟩, fun σ h => ?_⟩
    · have c := ct_T_root (G := G) hl0 h.1.1 hi (h.2 i hi).1
      have e : hI σ 0 (dsI i (bsA V i)) 3 = bD V i 3 := h.1.bd hi (by omega) _ (fun x hx => bsJ_lt 4 x hx)
      rw [e] at c
      exact c
    · cases hb : bsA V i with
      | none =>
        have e := (h.2 i hi).1
        rw [hb] at e
        refine ⟨_, _, ct_M_root_n hl0 h.1.1 (by omega) (nn0 h hv hi) e n1_lt0, ⟨⟨_, rfl, fun _ => ?_⟩, th0⟩, h.th, fr.oI nT6⟩
        unfold bD; rw [hb]; exact (h.1.2.2.1 i hi).2.2.2.1
      | some j =>
        have hj := bsJ_lt 4 j hb
        have e := (h.2 i hi).1
        rw [hb] at e
        refine ⟨_, _, ct_M_root_s hl0 h.1.1 (by omega) (nn0 h hv hi) e (by omega), ⟨⟨_, rfl, fun _ => ?_⟩, th0⟩, h.th, fr.oI nT6⟩
        unfold bD; rw [hb]; exact h.1.dt (by omega) (by omega)
theorem op_steps {l : Launch} (hl0 : l.stackTraces = false) {G : LG} {V : AV} (hv : IV V) (v : Int32) : opI 1 l G m_T_steps m_M_steps [.int v] V := by
  have h10 := hv.1.1
  rcases vN (n := ab_n V) (by omega) v with hx | ⟨i, hi, rfl⟩
  · exact ⟨1, 0, V, by omega, hv, fun σ h => ⟨σ, ct_T_steps_x hl0 (tn h hx), h, fr.rf⟩, fun σ h => ⟨_, _, ct_M_steps_x hl0 (nn1 h hx), ⟨kI (by omega), th1⟩, h.th, fr.oI nT6⟩⟩
  · refine ⟨0, bD V i 4, V, by omega, hv, fun σ h => ⟨σ, ?_, h, fr.rf⟩, fun σ h => ⟨_, _, ct_M_steps hl0 h.1.1 (by omega) (nn0 h hv hi) (h.lbx hv hi).bok, ⟨⟨_, rfl, fun _ => h.ms hv hi⟩, th0⟩, h.th, fr.oI nT6⟩⟩
    have c := ct_T_steps (G := G) hl0 h.1.1 hi (h.2 i hi).1
    have e : hI σ 0 (dsI i (bsA V i)) 4 = bD V i 4 := h.1.bd hi (by omega) _ (fun x hx => bsJ_lt 4 x hx)
    rw [e] at c
    exact c
theorem op_delay {l : Launch} (hl0 : l.stackTraces = false) {G : LG} {V : AV} (hv : IV V) (v : Int32) : opJ 1 l G m_T_delay m_M_delay [.int v] V := by
  have h10 := hv.1.1
  rcases vN (n := ab_n V) (by omega) v with hx | ⟨i, hi, rfl⟩
  · exact ⟨1, 0, V, by omega, hv, fun σ h => ⟨σ, ct_T_delay_x hl0 (tn h hx), h, fr.rf⟩, fun σ h => ⟨_, _, ct_M_delay_x hl0 (nn1 h hx), ⟨kJ (by omega), th1⟩, h.th, fr.oI nT6⟩⟩
  · refine ⟨0, ab_D V i, V, by omega, hv, fun σ h => ⟨σ, ?_, h, fr.rf⟩, fun σ h => ⟨_, _, ct_M_delay hl0 h.1.1 (by omega) (nn0 h hv hi), ⟨⟨_, rfl, fun _ => (h.1.2.2.1 i hi).2.2.2.2.2⟩, th0⟩, h.th, fr.oI nT6⟩⟩
    have c := ct_T_delay (G := G) hl0 h.1.1 hi
    rw [(h.1.2.2.1 i hi).2.2] at c
    exact c
theorem op_offset {l : Launch} (hl0 : l.stackTraces = false) {G : LG} {V : AV} (hv : IV V) (v : Int32) : opJ 1 l G m_T_offset m_M_offset [.int v] V := by
  have h10 := hv.1.1
  rcases vN (n := ab_n V) (by omega) v with hx | ⟨i, hi, rfl⟩
  · exact ⟨1, 0, V, by omega, hv, fun σ h => ⟨σ, ct_T_offset_x hl0 (tn h hx), h, fr.rf⟩, fun σ h => ⟨_, _, ct_M_offset_x hl0 (nn1 h hx), ⟨kJ (by omega), th1⟩, h.th, fr.oI nT6⟩⟩
  · refine ⟨0, ab_F V i, V, by omega, hv, fun σ h => ⟨σ, ?_, h, fr.rf⟩, fun σ h => ⟨_, _, ct_M_offset hl0 h.1.1 (by omega) (nn0 h hv hi), ⟨⟨_, rfl, fun _ => (h.1.2.2.1 i hi).2.2.2.2.1⟩, th0⟩, h.th, fr.oI nT6⟩⟩
    have c := ct_T_offset (G := G) hl0 h.1.1 hi
    rw [(h.1.2.2.1 i hi).2.1] at c
    exact c
theorem op_up {l : Launch} (hl0 : l.stackTraces = false) {G : LG} {V : AV} (hv : IV V) (v z : Int32) (hz : z = 0 ∨ z = 1) : opV 1 l G m_T_up m_M_up [.int v, .int z] V := by
  have h16 := hv.1.2
  rcases vN (n := ab_L V) (by omega) v with hx | ⟨k, hk, rfl⟩
  · exact ⟨1, V, by omega, hv, fun σ h => ⟨σ, ct_T_up_x hl0 (by rw [h.1.1.2.2.1.2.1]; exact hx), h, fr.rf⟩, fun σ h => ⟨_, _, ct_M_up_x hl0 (by rw [h.1.2.1.2]; exact hx), ⟨rfl, th1⟩, h.th, fr.oI nT6⟩⟩
  · exact ⟨0, upV V k z, by omega, hv.upv hz, fun σ h => ⟨_, ct_T_up hl0 h.1.1 hk hz, h.upv, fr.oI nM3⟩, fun σ h => ⟨_, _, ct_M_up hl0 h.1.1 h.1.2.1.2 (by omega) hk hz, ⟨rfl, by rw [I_sI, if_neg (by omega)]; exact th0⟩, h.th.upv, (fr.oI nT6).trans (fr.oI nT8)⟩⟩
theorem op_priority {l : Launch} (hl0 : l.stackTraces = false) {G : LG} {V : AV} (hv : IV V) (v u : Int32) : opV 1 l G m_T_priority m_M_priority [.int v, .int u] V := by
  have h10 := hv.1.1
  rcases vN (n := ab_n V) (by omega) v with hx | ⟨i, hi, rfl⟩
  · exact ⟨1, V, by omega, hv, fun σ h => ⟨σ, ct_T_priority_x hl0 (tn h hx), h, fr.rf⟩, fun σ h => ⟨_, _, ct_M_priority_x hl0 (Or.inl (nn1 h hx)), ⟨rfl, th1⟩, h.th, fr.oI nT6⟩⟩
  · by_cases hw : wiV u 255 = 0
    · exact ⟨1, V, by omega, hv, fun σ h => ⟨σ, ct_T_priority_y hl0 h.1.1 hi hw, h, fr.rf⟩, fun σ h => ⟨_, _, ct_M_priority_x hl0 (Or.inr hw), ⟨rfl, th1⟩, h.th, fr.oI nT6⟩⟩
    · exact ⟨0, prV V i u, by omega, hv.prv, fun σ h => ⟨_, ct_T_priority hl0 h.1.1 hi hw, h.prv hi, (fr.oI nM0).trans fr.fs⟩, fun σ h => ⟨_, _, ct_M_priority hl0 h.1.1 (by omega) h10 h.1.2.1.1 (nn0 h hv hi) hw, ⟨rfl, by rw [faS_I6, I_sI, if_neg (by omega)]; exact th0⟩, h.th.prv hv, ((fr.oI nT6).trans (fr.oI nT7)).trans (fr.fa _)⟩⟩
theorem op_round {l : Launch} (hl0 : l.stackTraces = false) {G : LG} {V : AV} (hv : IV V) (v : Int32) : opI 1 l G m_T_round m_M_round [.int v] V := by
  have h10 := hv.1.1
  by_cases hx : v < 1 ∨ ¬ v ≤ 50
  · exact ⟨1, 0, V, by omega, hv, fun σ h => ⟨σ, ct_T_round_x hl0 hx, h, fr.rf⟩, fun σ h => ⟨_, _, ct_M_round_x hl0 hx, ⟨kI (by omega), th1⟩, h.th, fr.oI nT6⟩⟩
  · have h1 : ¬ v < 1 := fun z => hx (Or.inl z)
    have h5 : v ≤ 50 := Decidable.not_not.mp (fun z => hx (Or.inr z))
    have hn0 : ¬ v < 0 := fun z => h1 (Int32.lt_trans z (by decide))
    have hn51 : ¬ nI 51 ≤ v := fun z => absurd (Int32.le_trans z h5) (by decide +kernel)
    obtain ⟨r, hr, rfl⟩ := small (by omega) hn0 hn51
    have hr1 : 1 ≤ r := by
      rcases Nat.eq_zero_or_pos r with z | z
      · subst z; exact absurd (by decide +kernel) h1
      · exact z
    refine ⟨0, rcN V r, hrI V r, by omega, hv.hrk r, fun σ h => ?_, fun σ h => ?_⟩
    · have c := ct_T_round (G := G) hl0 h.1.1 hr1 (by omega)
      obtain ⟨g1, g2⟩ := h.rdk r
      rw [g2] at c
      exact ⟨_, c, g1, fr.rd r⟩
    · obtain ⟨g1, g2⟩ := (h.th (v := 0)).mrk hv r
      refine ⟨_, _, ct_M_round hl0 hr1 (by omega) (fun k _ => h.th.mrp hv k), ⟨⟨_, rfl, fun _ => g2⟩, by rw [mrS_q]; exact th0⟩, g1, (fr.oI nT6).trans (fr.mr r)⟩
theorem op_settle {l : Launch} (hl0 : l.stackTraces = false) {G : LG} {V : AV} (hv : IV V) : opN l G m_T_settle m_M_settle [] V := by
  have h10 := hv.1.1
  refine ⟨(seA 60 0 V).2, (seA 60 0 V).1, ?_, fun σ h => ?_, fun σ h => ?_⟩
  · have := hv
    have key : ∀ m k (W : AV), IV W → IV (seA m k W).1 := by
      intro m
      induction m with
      | zero => intro k W hW; exact hW
      | succ m ih =>
        intro k W hW
        rw [seA]
        split
        · exact hW.hr
        · split
          · exact hW.hr
          · exact ih _ _ hW.hr
    exact key 60 0 V hv
  · obtain ⟨g1, g2⟩ := TR.se 60 0 σ V rfl h
    have c := ct_T_settle (G := G) hl0 h.1.1
    rw [g2] at c
    exact ⟨_, c, g1, fr.se 60 0 σ⟩
  · obtain ⟨g1, g2, -, -⟩ := MR.se 60 0 (sI σ 6 0 0 0) V rfl hv h.th (by omega) (by omega)
    have c := ct_M_settle (G := G) (n := ab_n V) (I := fun τ => ∃ W, ab_n W = ab_n V ∧ IV W ∧ MR τ W) hl0 (fun τ hτ => by
      obtain ⟨W, e, hW, hM⟩ := hτ
      refine ⟨hM.1.1, fun p hp => ?_, ?_⟩
      · rw [(hM.1.2.2.2.1 p hp).1]; exact (hW.2.2.2.2.1 p).1
      · rw [← e]; exact hM.rw.pkx hW) (fun τ hτ => by
      obtain ⟨W, e, hW, hM⟩ := hτ
      exact ⟨hrV W, e, hW.hr, by rw [← e]; exact (hM.stp hW).1⟩) ⟨V, rfl, hv, h.th⟩
    exact ⟨_, _, c, congrArg (fun z => some (Value.int z)) g2, g1, (fr.oI nT6).trans (fr.mq 60 1 _)⟩
theorem op_discipline {l : Launch} (hl0 : l.stackTraces = false) {G : LG} {V : AV} (hv : IV V) (t : Int64) : opN l G m_T_discipline m_M_discipline [.long t] V := by
  have h10 := hv.1.1
  have hs : sbs V ((V, (0 : Int32)) : AV × Int32).1 := sbs.rf hv
  refine ⟨(daO t (ab_n V) (V, 0) 15).2, (daO t (ab_n V) (V, 0) 15).1, (hs.dO 15).2.1, fun σ h => ?_, fun σ h => ?_⟩
  · obtain ⟨g1, g2⟩ := TR.dO (s := (σ, 0)) (Z := (V, 0)) (t := t) h hs rfl 15
    have c := ct_T_discipline (G := G) (bs := fun i => dsI i (bsA V i)) (t := t) hl0 h.1.1 (fun i hi => (h.2 i hi).1)
    rw [g2] at c
    exact ⟨_, c, g1, fr.dO (s := (σ, 0)) 15⟩
  · obtain ⟨g1, g2⟩ := MR.dO (s := (sI σ 6 0 0 0, 0)) (Z := (V, 0)) (t := t) h.th hs rfl 16
    rw [daO_16 hs] at g1 g2
    have c := ct_M_discipline (G := G) (n := ab_n V) (t := t) (I := fun τ => ∃ W, sbs V W ∧ MR τ W) hl0 h10 ⟨fun τ hτ => by
      obtain ⟨W, ⟨e, hW, -⟩, hM⟩ := hτ
      exact ⟨hM.1.1, by rw [hM.1.2.1.1, e], fun i hi => hM.lbx hW (by rw [e]; exact hi)⟩, fun τ i hτ hi hc => by
      obtain ⟨W, hsW, hM⟩ := hτ
      have e := hsW.1
      have hW := hsW.2.1
      have hi' : i < ab_n W := by rw [e]; exact hi
      obtain ⟨c1, c2⟩ := hM.cs hW hi'
      cases ho : osA W i with
      | none => exact absurd (c1.mpr ho) hc
      | some p =>
        obtain ⟨j, k, hj, hb, -, hk, hu⟩ := osA_some ho
        refine ⟨exV W i p t 0 0, hsW.ex, ?_⟩
        rw [c2 p ho]
        exact hM.sw hW hi' hk⟩ ⟨V, hs, h.th⟩
    exact ⟨_, _, c, congrArg (fun z => some (Value.int z)) g2, g1, (fr.oI nT6).trans (fr.mdy (s := (sI σ 6 0 0 0, 0)) 16)⟩
