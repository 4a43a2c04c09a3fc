/-! a node more: the tree -/
theorem fr.pi {P : Nat → Nat → Prop} {σ : HS} {p d : Nat} {o u : Int32} (h0 : ∀ a, ¬ P 0 a) (h1 : ∀ a, ¬ P 1 a) : fr P σ (piS σ p o u d) :=
  (((((((((fr.oI (h1 _)).trans (fr.oI (h1 _))).trans (fr.ow h0)).trans (fr.oR (h1 _))).trans (fr.ow h0)).trans (fr.oR (h1 _))).trans (fr.oI (h1 _))).trans (fr.oI (h1 _))).trans (fr.oI (h1 _))).trans (fr.oR (h1 _))
theorem fr.ni {P : Nat → Nat → Prop} {σ : HS} {i : Nat} {v : Int32} {off : Int64} (h0 : ∀ a, ¬ P 0 a) (h1 : ∀ a, ¬ P 1 a) (h2 : ∀ a, ¬ P 2 a) (h12 : ∀ a, ¬ P 12 a) : ∀ j, fr P σ (niS σ i v off j)
  | 0 => (((((((fr.oI (h2 _)).trans (fr.oJ (h2 _))).trans (fr.oJ (h2 _))).trans (fr.ow h0)).trans (fr.oR (h2 _))).trans (fr.oR (h2 _))).trans (fr.ow h12)).trans (fr.oR (h2 _))
  | j + 1 => (((fr.ni h0 h1 h2 h12 j).trans (fr.ow h1)).trans (fr.pi h0 h1)).trans (fr.oR (h12 _))
theorem fr.so {P : Nat → Nat → Prop} {σ : HS} {a : Nat} {i p k e : Int32} (h0 : ∀ a, ¬ P 0 a) : fr P σ (setOwnS σ a i p k e) :=
  (((((((fr.oI (h0 _)).trans (fr.oI (h0 _))).trans (fr.oI (h0 _))).trans (fr.oI (h0 _))).trans (fr.oI (h0 _))).trans (fr.oI (h0 _))).trans (fr.oI (h0 _))).trans (fr.oI (h0 _))
theorem fr.mk {P : Nat → Nat → Prop} {σ : HS} {n : Nat} {i p k e : Int32} {off : Int64} (h0 : ∀ a, ¬ P 0 a) (h1 : ∀ a, ¬ P 1 a) (h2 : ∀ a, ¬ P 2 a) (h12 : ∀ a, ¬ P 12 a) : fr P σ (mk2 σ n i p k e off) := ((fr.ow h2).trans (fr.ni h0 h1 h2 h12 4)).trans (fr.so h0)
theorem mk2_n {σ : HS} {n : Nat} {i p k e : Int32} {off : Int64} {q : Nat} : hn (mk2 σ n i p k e off) q = if q = 0 then hn σ 0 + 9 else if q = 1 then hn σ 1 + 4 else if q = 12 then hn σ 12 + 1 else if q = 2 then hn σ 2 + 1 else hn σ q := by
  show hn (niS (nw σ 2 0) n (nI n) off 4) q = _
  rw [niS_n]
  simp only [n_nw]
  by_cases a : q = 0
  · subst a; simp
  · by_cases b : q = 1
    · subst b; simp
    · by_cases c : q = 12
      · subst c; simp
      · simp [a, b, c]
theorem piS_ds {σ : HS} {p d x k : Nat} {o u : Int32} : hI (piS σ p o u d) 0 x k = if x = hn σ 0 + 1 then 0 else if x = hn σ 0 then 0 else hI σ 0 x k := by
  unfold piS
  simp [I_sI, I_sR, I_nw, n_sI, n_sR, n_nw]
theorem niS_ds {σ : HS} {i : Nat} {v : Int32} {off : Int64} (hd : hn σ 0 = 9 * i) {k : Nat} : ∀ j x, (x < 9 * i → hI (niS σ i v off j) 0 x k = hI σ 0 x k) ∧ (9 * i ≤ x → x < 9 * i + 1 + 2 * j → hI (niS σ i v off j) 0 x k = 0)
  | 0, x => by
    unfold niS
    simp only [I_sR, I_nw, n_sR, n_sJ, n_sI, I_sJ, I_sI, n_nw, hd]
    constructor
    · intro hx; simp [show ¬ x = 9 * i by omega]
    · intro h1 h2; simp [show x = 9 * i by omega]
  | j + 1, x => by
    have ih := niS_ds (v := v) (off := off) hd (k := k) j x
    have e : hI (niS σ i v off (j + 1)) 0 x k = if x = 9 * i + 1 + 2 * j + 1 then 0 else if x = 9 * i + 1 + 2 * j then 0 else hI (niS σ i v off j) 0 x k := by
      show hI (piS (nw (niS σ i v off j) 1 0) (4 * i + j) v (nI j) (9 * i + 1 + 2 * j)) 0 x k = _
      have hz : hn (nw (niS σ i v off j) 1 0) 0 = 9 * i + 1 + 2 * j := by rw [n_nw, if_neg (by decide), niS_n, if_pos rfl, hd]
      have hy : hI (nw (niS σ i v off j) 1 0) 0 x k = hI (niS σ i v off j) 0 x k := by rw [I_nw, if_neg (fun z => absurd z.1 (by decide))]
      rw [piS_ds, hz, hy]
    rw [e]
    constructor
    · intro hx
      rw [if_neg (by omega), if_neg (by omega)]; exact ih.1 hx
    · intro h1 h2
      by_cases a : x = 9 * i + 1 + 2 * j + 1
      · rw [if_pos a]
      · rw [if_neg a]
        by_cases b : x = 9 * i + 1 + 2 * j
        · rw [if_pos b]
        · rw [if_neg b]; exact ih.2 h1 (by omega)
theorem so_at {σ : HS} {a : Nat} {i p k e : Int32} : ∀ j, j < 8 → hI (setOwnS σ a i p k e) 0 a j = v8 p k e i 0 i (-1) (-1) zD j
  | 0, _ => by unfold setOwnS; simp [I_sI, v8]
  | 1, _ => by unfold setOwnS; simp [I_sI, v8]
  | 2, _ => by unfold setOwnS; simp [I_sI, v8]
  | 3, _ => by unfold setOwnS; simp [I_sI, v8]
  | 4, _ => by unfold setOwnS; simp [I_sI, v8]
  | 5, _ => by unfold setOwnS; simp [I_sI, v8]
  | 6, _ => by unfold setOwnS; simp [I_sI, v8]
  | 7, _ => by unfold setOwnS; simp [I_sI, v8]
  | j + 8, h => by omega
theorem so_ne {σ : HS} {a x j : Nat} {i p k e : Int32} (h : x ≠ a) : hI (setOwnS σ a i p k e) 0 x j = hI σ 0 x j := by
  unfold setOwnS
  simp [I_sI, h]
/-- the view behind it -/
def ndA (V : AV) (i p k e : Int32) (off : Int64) : AV := ((ab_n V + 1, ab_L V), fun x j => if x = ab_n V then (if j = 0 then p else if j = 1 then k else if j = 2 then e else i) else ab_O V x j, (fun x => if x = ab_n V then off else ab_F V x, fun x => if x = ab_n V then -1 else ab_D V x), V.2.2.2.1, V.2.2.2.2)
theorem IV.nd {V : AV} (h : IV V) {i p k e : Int32} {off : Int64} (hn : ab_n V < 10) : IV (ndA V i p k e off) := by
  obtain ⟨h1, h2, h3, h4, h5, h6⟩ := h
  refine ⟨⟨hn, h1.2⟩, fun x hx => ?_, h3, fun q x hx => ?_, fun q => ?_, fun q hq => ?_⟩
  · obtain ⟨a, b, c⟩ := h2 x hx
    exact ⟨show ab_X V x < 4 * (ab_n V + 1) by omega, show ab_Y V x < 4 * (ab_n V + 1) by omega, c⟩
  · obtain ⟨a, b, c⟩ := h4 q x hx
    exact ⟨a, show q < 4 * (ab_n V + 1) by omega, c⟩
  · refine ⟨(h5 q).1, fun hk => ?_⟩
    obtain ⟨a, b⟩ := (h5 q).2 hk
    exact ⟨show q < 4 * (ab_n V + 1) by omega, b⟩
  · have : 4 * (ab_n V + 1) ≤ q := hq
    exact h6 q (by omega)
theorem ndA_sN {V : AV} {i p k e : Int32} {off : Int64} {x : Nat} (h : x < ab_n V) : sN V (ndA V i p k e off) x := ⟨fun j => by show (if x = ab_n V then _ else ab_O V x j) = _; rw [if_neg (by omega)], fun j hj => ⟨rfl, rfl, rfl⟩⟩
theorem ndA_ow {V : AV} {i p k e : Int32} {off : Int64} : ∀ j, j < 8 → ownD (ndA V i p k e off) (ab_n V) j = v8 p k e i 0 i (-1) (-1) zD j := by
  have h0 : ab_O (ndA V i p k e off) (ab_n V) 0 = p := by show (if ab_n V = ab_n V then (if 0 = 0 then p else _) else _) = _; rw [if_pos rfl, if_pos rfl]
  have h1 : ab_O (ndA V i p k e off) (ab_n V) 1 = k := by show (if ab_n V = ab_n V then (if 1 = 0 then p else if 1 = 1 then k else _) else _) = _; rw [if_pos rfl, if_neg (by decide), if_pos rfl]
  have h2 : ab_O (ndA V i p k e off) (ab_n V) 2 = e := by show (if ab_n V = ab_n V then (if 2 = 0 then p else if 2 = 1 then k else if 2 = 2 then e else i) else _) = _; rw [if_pos rfl, if_neg (by decide), if_neg (by decide), if_pos rfl]
  have h3 : ab_O (ndA V i p k e off) (ab_n V) 3 = i := by show (if ab_n V = ab_n V then (if 3 = 0 then p else if 3 = 1 then k else if 3 = 2 then e else i) else _) = _; rw [if_pos rfl, if_neg (by decide), if_neg (by decide), if_neg (by decide)]
  exact v8_congr h0 h1 h2 h3 rfl h3 rfl rfl
def nd0 (σ : HS) (n : Nat) (i p k e : Int32) (off : Int64) : HS := sI (sR (mk2 σ n i p k e off) 10 0 n (some (2 + 16 * n))) 5 0 3 (nI n + 1)
theorem TB.nd {σ : HS} {V : AV} (h : TB σ V) (hv : IV V) {i p k e : Int32} {off : Int64} (h10 : ab_n V < 10) : TB (nd0 σ (ab_n V) i p k e off) (ndA V i p k e off) := by
  obtain ⟨h1, ⟨hC, h05, h010⟩, h3, h4, h5⟩ := h
  obtain ⟨t1, t2, t3, t4, t5, t6, t7, t8⟩ := h1
  obtain ⟨c0, c1, c2, c3, c12⟩ := hC
  have hC : CN σ (ab_n V) (ab_L V) := ⟨c0, c1, c2, c3, c12⟩
  have hf : fr (fun q _ => q = 3 ∨ q = 4 ∨ q = 5 ∨ q = 10 ∨ q = 11) σ (mk2 σ (ab_n V) i p k e off) := fr.mk (fun _ => by omega) (fun _ => by omega) (fun _ => by omega) (fun _ => by omega)
  have f3 := fr.all (q := 3) hf (fun _ => by omega)
  have f5 := fr.all (q := 5) hf (fun _ => by omega)
  have f10 := fr.all (q := 10) hf (fun _ => by omega)
  have f11 := fr.all (q := 11) hf (fun _ => by omega)
  have hp1 : hn (nw σ 2 0) 1 = 4 * ab_n V := by rw [n_nw, if_neg (by decide)]; exact c1
  have hd0 : hn (nw σ 2 0) 0 = 9 * ab_n V := by rw [n_nw, if_neg (by decide)]; exact c0
  have R' : ∀ q a j, ¬ (q = 10 ∧ j = ab_n V) → hR (nd0 σ (ab_n V) i p k e off) q a j = hR (mk2 σ (ab_n V) i p k e off) q a j := fun q a j hx => by
    unfold nd0; rw [R_sI, R_sR, if_neg (fun z => hx ⟨z.1, z.2.2⟩)]
  have I' : ∀ q a j, ¬ (q = 5 ∧ j = 3) → hI (nd0 σ (ab_n V) i p k e off) q a j = hI (mk2 σ (ab_n V) i p k e off) q a j := fun q a j hx => by
    unfold nd0; rw [I_sI, if_neg (fun z => hx ⟨z.1, z.2.2⟩)]; rfl
  have l' : ∀ q a, hl (nd0 σ (ab_n V) i p k e off) q a = hl (mk2 σ (ab_n V) i p k e off) q a := fun q a => rfl
  have J' : ∀ q a j, hJ (nd0 σ (ab_n V) i p k e off) q a j = hJ (mk2 σ (ab_n V) i p k e off) q a j := fun q a j => rfl
  have n' : ∀ q, hn (nd0 σ (ab_n V) i p k e off) q = hn (mk2 σ (ab_n V) i p k e off) q := fun q => rfl
  have o1 : ∀ a, a < 4 * ab_n V → olds σ (mk2 σ (ab_n V) i p k e off) 1 a := fun a ha => mk2_old hC (by decide) (by omega)
  have o2 : ∀ a, a < ab_n V → olds σ (mk2 σ (ab_n V) i p k e off) 2 a := fun a ha => mk2_old hC (by decide) (by omega)
  have o12 : ∀ a, a < ab_n V → olds σ (mk2 σ (ab_n V) i p k e off) 12 a := fun a ha => mk2_old hC (by decide) (by omega)
  have nn := niS_node (σ := nw σ 2 0) (i := ab_n V) (v := nI (ab_n V)) (off := off) 4
  have np := niS_port (σ := nw σ 2 0) (i := ab_n V) (v := nI (ab_n V)) (off := off) hp1 4
  have mI : ∀ q a j, q ≠ 0 → hI (mk2 σ (ab_n V) i p k e off) q a j = hI (niS (nw σ 2 0) (ab_n V) (nI (ab_n V)) off 4) q a j := fun q a j hq => setOwnS_I hq
  have mR : ∀ q a j, hR (mk2 σ (ab_n V) i p k e off) q a j = hR (niS (nw σ 2 0) (ab_n V) (nI (ab_n V)) off 4) q a j := fun q a j => rfl
  have mJ : ∀ q a j, hJ (mk2 σ (ab_n V) i p k e off) q a j = hJ (niS (nw σ 2 0) (ab_n V) (nI (ab_n V)) off 4) q a j := fun q a j => rfl
  have d0 : ∀ x j, x < 9 * ab_n V → hI (mk2 σ (ab_n V) i p k e off) 0 x j = hI σ 0 x j := fun x j hx => by
    show hI (setOwnS (mk1 σ (ab_n V) off) (9 * ab_n V) i p k e) 0 x j = _
    rw [so_ne (by omega)]
    show hI (niS (nw σ 2 0) (ab_n V) (nI (ab_n V)) off 4) 0 x j = _
    rw [(niS_ds hd0 4 x).1 hx, I_nw, if_neg (by omega)]
  have d1 : ∀ x j, 9 * ab_n V < x → x < 9 * ab_n V + 9 → hI (mk2 σ (ab_n V) i p k e off) 0 x j = 0 := fun x j hx1 hx2 => by
    show hI (setOwnS (mk1 σ (ab_n V) off) (9 * ab_n V) i p k e) 0 x j = _
    rw [so_ne (by omega)]
    exact (niS_ds hd0 4 x).2 (by omega) (by omega)
  refine ⟨⟨⟨?_, ?_, ?_⟩, ⟨?_, ?_⟩, ⟨?_, ?_, ?_, t3.2.2.2⟩, fun x hx => ⟨?_, ?_⟩, fun q hq => ?_, fun x hx => ⟨?_, ?_⟩, fun q hq => ⟨?_, ?_⟩, fun x hx => ?_⟩, ⟨⟨?_, ?_, ?_, ?_, ?_⟩, ?_, ?_⟩, fun x hx => ⟨fun j hj => ?_, ?_, ?_⟩, fun q hq => ?_, fun x hx => ⟨?_, ?_, ?_, ?_, ?_⟩⟩
  · rw [R' _ _ _ (by omega), f5.2.2.1]; exact t1.1
  · rw [R' _ _ _ (by omega), f5.2.2.1]; exact t1.2.1
  · rw [R' _ _ _ (by omega), f5.2.2.1]; exact t1.2.2
  · rw [l', f10.2.2.2.1]; exact t2.1
  · rw [l', f11.2.2.2.1]; exact t2.2
  · unfold nd0; rw [I_sI, if_pos ⟨rfl, rfl, rfl⟩]; exact (nI_succ _).symm
  · rw [I' _ _ _ (by omega), f5.1]; exact t3.2.1
  · show ab_n V + 1 ≤ 10; omega
  · have hx' : x < ab_n V + 1 := hx
    by_cases c : x = ab_n V
    · subst c; unfold nd0; rw [R_sI, R_sR, if_pos ⟨rfl, rfl, rfl⟩]
    · rw [R' _ _ _ (by omega), f10.2.2.1]; exact (t4 x (by omega)).1
  · have hx' : x < ab_n V + 1 := hx
    by_cases c : x = ab_n V
    · subst c
      obtain ⟨a1, a2, a3, a4⟩ := mk2_NS (i := i) (p := p) (k := k) (e := e) (off := off) hC
      exact ⟨by rw [R' _ _ _ (by omega)]; exact a1, by rw [R' _ _ _ (by omega)]; exact a2, by rw [l']; exact a3, fun j hj => ⟨by rw [R' _ _ _ (by omega)]; exact (a4 j hj).1, by rw [R' _ _ _ (by omega)]; exact (a4 j hj).2.1, by rw [R' _ _ _ (by omega)]; exact (a4 j hj).2.2⟩⟩
    · obtain ⟨a1, a2, a3, a4⟩ := (t4 x (by omega)).2
      have x2 := o2 x (by omega)
      have x12 := o12 x (by omega)
      refine ⟨by rw [R' _ _ _ (by omega), x2.2.2.1]; exact a1, by rw [R' _ _ _ (by omega), x2.2.2.1]; exact a2, by rw [l', x12.2.2.2]; exact a3, fun j hj => ?_⟩
      have x1 := o1 (4 * x + j) (by omega)
      exact ⟨by rw [R' _ _ _ (by omega), x12.2.2.1]; exact (a4 j hj).1, by rw [R' _ _ _ (by omega), x1.2.2.1]; exact (a4 j hj).2.1, by rw [R' _ _ _ (by omega), x1.2.2.1]; exact (a4 j hj).2.2⟩
  · have hq' : q < 4 * (ab_n V + 1) := hq
    rw [R' _ _ _ (by omega)]
    by_cases c : q < 4 * ab_n V
    · rw [(o1 q c).2.2.1]; exact t5 q c
    · have := mk2_lk (i := i) (p := p) (k := k) (e := e) (off := off) hC (q - 4 * ab_n V) (by omega)
      rw [show 4 * ab_n V + (q - 4 * ab_n V) = q by omega] at this
      exact Or.inl this
  · rw [R' _ _ _ (by omega), f11.2.2.1]; exact (t6 x hx).1
  · obtain ⟨-, a, b, ha, hb, e1, e2⟩ := t6 x hx
    exact ⟨a, b, show a < 4 * (ab_n V + 1) by omega, show b < 4 * (ab_n V + 1) by omega, by rw [R' _ _ _ (by omega), f3.2.2.1]; exact e1, by rw [R' _ _ _ (by omega), f3.2.2.1]; exact e2⟩
  · have hq' : q < 4 * (ab_n V + 1) := hq
    rw [I' _ _ _ (by omega)]
    by_cases c : q < 4 * ab_n V
    · rw [(o1 q c).1]; exact (t7 q c).1
    · have := (np (q - 4 * ab_n V) (by omega)).2.2.2.2.1
      rw [show 4 * ab_n V + (q - 4 * ab_n V) = q by omega] at this
      rw [mI _ _ _ (by decide), this, show q / 4 = ab_n V by omega]
  · have hq' : q < 4 * (ab_n V + 1) := hq
    rw [I' _ _ _ (by omega)]
    by_cases c : q < 4 * ab_n V
    · rw [(o1 q c).1]; exact (t7 q c).2
    · have := (np (q - 4 * ab_n V) (by omega)).2.2.2.2.2.1
      rw [show 4 * ab_n V + (q - 4 * ab_n V) = q by omega] at this
      rw [mI _ _ _ (by decide), this, show q % 4 = q - 4 * ab_n V by omega]
  · have hx' : x < ab_n V + 1 := hx
    rw [I' _ _ _ (by omega)]
    by_cases c : x = ab_n V
    · rw [c, mI _ _ _ (by decide)]; exact nn.2.2.2.1
    · rw [(o2 x (by omega)).1]; exact t8 x (by omega)
  · rw [n', mk2_n, if_pos rfl, c0]; show _ = 9 * (ab_n V + 1); omega
  · rw [n', mk2_n, if_neg (by decide), if_pos rfl, c1]; show _ = 4 * (ab_n V + 1); omega
  · rw [n', mk2_n, if_neg (by decide), if_neg (by decide), if_neg (by decide), if_pos rfl, c2]; rfl
  · rw [n', mk2_n, if_neg (by decide), if_neg (by decide), if_neg (by decide), if_neg (by decide), c3]; rfl
  · rw [n', mk2_n, if_neg (by decide), if_neg (by decide), if_pos rfl, c12]; rfl
  · rw [n', mk2_n, if_neg (by decide), if_neg (by decide), if_neg (by decide), if_neg (by decide)]; exact h05
  · rw [n', mk2_n, if_neg (by decide), if_neg (by decide), if_neg (by decide), if_neg (by decide)]; exact h010
  · have hx' : x < ab_n V + 1 := hx
    rw [I' _ _ _ (by omega)]
    by_cases c : x = ab_n V
    · rw [c, ndA_ow j hj]; exact so_at j hj
    · rw [d0 _ _ (by omega), (ndA_sN (show x < ab_n V by omega)).ow]; exact (h3 x (by omega)).1 j hj
  · have hx' : x < ab_n V + 1 := hx
    rw [J']
    show _ = if x = ab_n V then off else ab_F V x
    by_cases c : x = ab_n V
    · rw [if_pos c, c, mJ]; exact nn.2.2.2.2.1
    · rw [if_neg c, (o2 x (by omega)).2.1]; exact (h3 x (by omega)).2.1
  · have hx' : x < ab_n V + 1 := hx
    rw [J']
    show _ = if x = ab_n V then -1 else ab_D V x
    by_cases c : x = ab_n V
    · rw [if_pos c, c, mJ]; exact nn.2.2.2.2.2
    · rw [if_neg c, (o2 x (by omega)).2.1]; exact (h3 x (by omega)).2.2
  · have hq' : q < 4 * (ab_n V + 1) := hq
    rw [I' _ _ _ (by omega), I' _ _ _ (by omega), R' _ _ _ (by omega)]
    by_cases c : q < 4 * ab_n V
    · rw [(o1 q c).1, (o1 q c).1, (o1 q c).2.2.1]
      refine ⟨(h4 q c).1, (h4 q c).2.1, fun j hj => ?_, (h4 q c).2.2.2⟩
      rw [I' _ _ _ (by omega), d0 _ _ (by unfold kpt; omega)]; exact (h4 q c).2.2.1 j hj
    · have hnp := np (q - 4 * ab_n V) (by omega)
      rw [show 4 * ab_n V + (q - 4 * ab_n V) = q by omega] at hnp
      obtain ⟨-, -, -, e7, -, -, e4, e5, -⟩ := hnp
      have hK : ab_K V q = 0 := by
        rcases (hv.2.2.2.2.1 q).1 with z | z
        · exact z
        · exact absurd ((hv.2.2.2.2.1 q).2 (by rw [z]; decide)).1 c
      have hk : ab_k V q = none := by
        cases hk : ab_k V q with
        | none => rfl
        | some y => exact absurd (hv.2.2.2.1 q y hk).2.1 c
      have h6 := hv.2.2.2.2.2 q (by omega)
      refine ⟨?_, ?_, fun j hj => ?_, ?_⟩
      · rw [mI _ _ _ (by decide), e4]; exact hK.symm
      · rw [mI _ _ _ (by decide), e5]; exact h6.1.symm
      · rw [I' _ _ _ (by omega), d1 _ _ (by unfold kpt; omega) (by unfold kpt; omega)]; exact (h6.2 j hj).symm
      · rw [mR, e7]; show none = (ab_k V q).map _; rw [hk]; rfl
  · rw [R' _ _ _ (by omega), f3.2.2.1]; exact (h5 x hx).1
  · rw [R' _ _ _ (by omega), f3.2.2.1]; exact (h5 x hx).2.1
  · rw [I' _ _ _ (by omega), f3.1]; exact (h5 x hx).2.2.1
  · rw [I' _ _ _ (by omega), f3.1]; exact (h5 x hx).2.2.2.1
  · rw [I' _ _ _ (by omega), f3.1]; exact (h5 x hx).2.2.2.2
/-- what is written beside does not touch what a node finds -/
theorem fs_ext {σ τ : HS} {i : Nat} (h0 : ∀ a k, hI τ 0 a k = hI σ 0 a k) (h1 : ∀ a k, hI τ 1 a k = hI σ 1 a k) (h7 : ∀ a, hR τ 1 a 7 = hR σ 1 a 7) : (∀ j, fbN τ i j = fbN σ i j) ∧ (∀ j, tvJ τ i j = tvJ σ i j) ∧ ∀ j, svJ τ i j = svJ σ i j := by
  have e0 : ∀ a, hI τ 0 a = hI σ 0 a := fun a => funext (h0 a)
  have b : ∀ j, fbN τ i j = fbN σ i j := fun j => by
    induction j with
    | zero => rw [fbN, fbN]
    | succ j ih => rw [fbN, fbN, h1, ih, e0, e0]
  have t : ∀ j, tvJ τ i j = tvJ σ i j := fun j => by unfold tvJ; rw [b, e0, h1, e0, e0]
  exact ⟨b, t, fun j => by unfold svJ; rw [b, t, h7, h1, e0]⟩
theorem fs_cm {σ : HS} {i c : Nat} {v : Option Nat} {q k : Nat} {w : Int32} (hq : 9 < q) : ∀ m, fsS (sI (sR σ q 0 c v) 5 0 k w) i m = sI (sR (fsS σ i m) q 0 c v) 5 0 k w := by
  have x := fs_ext (σ := σ) (τ := sI (sR σ q 0 c v) 5 0 k w) (i := i) (fun a k => by rw [I_sI, if_neg (by omega)]; rfl) (fun a k => by rw [I_sI, if_neg (by omega)]; rfl) (fun a => by rw [R_sI, R_sR, if_neg (by omega)])
  obtain ⟨x1, x2, x3⟩ := x
  intro m
  induction m with
  | zero =>
    rw [fsS, fsS, x1]
    refine hs_ext rfl rfl (fun q' a' k' => rfl) (fun _ _ _ => rfl) (fun q' a' k' => ?_)
    rw [R_sR, R_sI, R_sR, R_sI, R_sR, R_sR]
    by_cases c1 : q' = 2 ∧ a' = i ∧ k' = 3
    · rw [if_pos c1, if_neg (by omega), if_pos c1]
    · rw [if_neg c1, if_neg c1]
  | succ m ih =>
    rw [fsS, fsS, ih, x2, x3]
    refine hs_ext rfl rfl (fun q' a' k' => ?_) (fun _ _ _ => rfl) (fun q' a' k' => rfl)
    simp only [I_sI, I_sD, I_sR]
    by_cases c1 : q' = 5 ∧ a' = 0 ∧ k' = k
    · rw [if_pos c1, if_neg (by omega), if_neg (by omega), if_pos c1]
    · rw [if_neg c1, if_neg c1]
theorem TR.nd {σ : HS} {V : AV} (h : TR σ V) (hv : IV V) {i p k e : Int32} {off : Int64} (h10 : ab_n V < 10) : TR (mkN σ (ab_n V) i p k e off) (ndA V i p k e off) := by
  have g := h.1.nd hv (i := i) (p := p) (k := k) (e := e) (off := off) h10
  have em : mkN σ (ab_n V) i p k e off = fsS (nd0 σ (ab_n V) i p k e off) (ab_n V) 4 := by
    unfold mkN nd0; rw [fs_cm (by decide)]
  obtain ⟨h1, ⟨hC, h05, h010⟩, h3, h4, h5⟩ := h.1
  rw [em]
  refine ⟨g.fs, fun x hx => ?_⟩
  have hx' : x < ab_n V + 1 := hx
  by_cases c : x = ab_n V
  · subst c; exact g.fsD hx
  · have hxn : x < ab_n V := by omega
    refine TDn.fs (TDn.sn (V := V) ?_ (ndA_sN hxn)) c
    have hd := h.2 x hxn
    have o2 : olds σ (mk2 σ (ab_n V) i p k e off) 2 x := mk2_old hC (by decide) (by rw [hC.2.2.1]; exact hxn)
    have hd0 : hn (nw σ 2 0) 0 = 9 * ab_n V := by rw [n_nw, if_neg (by decide)]; exact hC.1
    refine ⟨?_, fun j hj => ⟨?_, fun y hy => ?_⟩⟩
    · unfold nd0; rw [R_sI, R_sR, if_neg (by omega), o2.2.2.1]; exact hd.1
    · have o1 : olds σ (mk2 σ (ab_n V) i p k e off) 1 (4 * x + j) := mk2_old hC (by decide) (by rw [hC.2.1]; omega)
      unfold nd0; rw [I_sI, if_neg (by omega), I_sR, o1.1]; exact (hd.2 j hj).1
    · unfold nd0; rw [I_sI, if_neg (by omega), I_sR]
      show hI (setOwnS (mk1 σ (ab_n V) off) (9 * ab_n V) i p k e) 0 _ y = _
      rw [so_ne (by omega)]
      show hI (niS (nw σ 2 0) (ab_n V) (nI (ab_n V)) off 4) 0 _ y = _
      rw [(niS_ds hd0 4 _).1 (by omega), I_nw, if_neg (by omega)]
      exact (hd.2 j hj).2 y hy
