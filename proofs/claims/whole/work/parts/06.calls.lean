section RR
variable {l : Launch} {G : LG} {M : MI} {PM : LPM} {Q : LO → HS → Prop} {pc : Nat} {lv : List (Nat × Value)} {st : List Value} {σ : HS} {mc ms : Nat}
theorem e_iret {x : Int32} (hd : decode M.2.1 pc = .ok (.ireturn, 1)) (hr : M.2.2.2.1 = some .int) (hq : Q (.inr (some (.int x))) σ) : Ex l G M (pmV G M Q) pc lv [.int x] σ mc ms := fun p e s m args below meth c B ad n0 ad0 H locs ls cells slots hC he hw hS hv hP hL hc hs => W.widen (k := M.2.2.2.2.1.cells) (n := M.2.2.2.2.1.slots) (Nat.le_trans (Nat.le_add_right _ _) hc) (Nat.le_trans (Nat.le_add_right _ _) hs) (vx_ret (W.iret hC.1.1 hC.1.2.1 (hC.2.1.trans hr) (fun t ht hW => ⟨⟨some (.int x), σ, ad, rfl, hq, by rw [ht]; exact hw, he, trivial⟩, hS.F ht⟩) hS.2.2 hd (hlocks := hC.2.2.1)))
theorem e_zret {x : Int32} (hd : decode M.2.1 pc = .ok (.ireturn, 1)) (hr : M.2.2.2.1 = some .boolean) (hz : x = 0 ∨ x = 1) (hq : Q (.inr (some (.int x))) σ) : Ex l G M (pmV G M Q) pc lv [.int x] σ mc ms := fun p e s m args below meth c B ad n0 ad0 H locs ls cells slots hC he hw hS hv hP hL hc hs => W.widen (k := M.2.2.2.2.1.cells) (n := M.2.2.2.2.1.slots) (Nat.le_trans (Nat.le_add_right _ _) hc) (Nat.le_trans (Nat.le_add_right _ _) hs) (vx_ret (W.zret hC.1.1 hC.1.2.1 (hC.2.1.trans hr) (nb_ok hz) (fun t ht hW => ⟨⟨some (.int x), σ, ad, rfl, hq, by rw [ht]; exact hw, he, trivial⟩, hS.F ht⟩) hS.2.2 hd (hlocks := hC.2.2.1)))
theorem e_lret {x : Int64} (hd : decode M.2.1 pc = .ok (.lreturn, 1)) (hr : M.2.2.2.1 = some .long) (hq : Q (.inr (some (.long x))) σ) : Ex l G M (pmV G M Q) pc lv [.long x] σ mc ms := fun p e s m args below meth c B ad n0 ad0 H locs ls cells slots hC he hw hS hv hP hL hc hs => W.widen (k := M.2.2.2.2.1.cells) (n := M.2.2.2.2.1.slots) (Nat.le_trans (Nat.le_add_right _ _) hc) (Nat.le_trans (Nat.le_add_right _ _) hs) (vx_ret (W.lret hC.1.1 hC.1.2.1 (hC.2.1.trans hr) (fun t ht hW => ⟨⟨some (.long x), σ, ad, rfl, hq, by rw [ht]; exact hw, he, trivial⟩, hS.F ht⟩) hS.2.2 hd (hlocks := hC.2.2.1)))
theorem e_vret (hd : decode M.2.1 pc = .ok (.return_, 1)) (hr : M.2.2.2.1 = none) (hq : Q (.inr (none)) σ) : Ex l G M (pmV G M Q) pc lv [] σ mc ms := fun p e s m args below meth c B ad n0 ad0 H locs ls cells slots hC he hw hS hv hP hL hc hs => W.widen (k := M.2.2.2.2.1.cells) (n := M.2.2.2.2.1.slots) (Nat.le_trans (Nat.le_add_right _ _) hc) (Nat.le_trans (Nat.le_add_right _ _) hs) (vx_ret (W.vret hC.1.1 hC.1.2.1 (hC.2.1.trans hr) (fun t ht hW => ⟨⟨none, σ, ad, rfl, hq, by rw [ht]; exact hw, he, trivial⟩, hS.F ht⟩) hS.2.2 hd (hlocks := hC.2.2.1)))
theorem e_aret {x : Nat} {rt : FieldType} (hd : decode M.2.1 pc = .ok (.areturn, 1)) (hr : M.2.2.2.1 = some rt) (hrt : (∃ n, rt = .object n) ∨ ∃ t, rt = .array t) (hq : Q (.inr (some (.ref x))) σ) : Ex l G M (pmV G M Q) pc lv [.ref x] σ mc ms := fun p e s m args below meth c B ad n0 ad0 H locs ls cells slots hC he hw hS hv hP hL hc hs => W.widen (k := M.2.2.2.2.1.cells) (n := M.2.2.2.2.1.slots) (Nat.le_trans (Nat.le_add_right _ _) hc) (Nat.le_trans (Nat.le_add_right _ _) hs) (vx_ret (W.aret hC.1.1 hC.1.2.1 (hC.2.1.trans hr) hrt (Or.inr ⟨_, rfl⟩) (fun t ht hW => ⟨⟨some (.ref x), σ, ad, rfl, hq, by rw [ht]; exact hw, he, hL.1⟩, hS.F ht⟩) hS.2.2 hd (hlocks := hC.2.2.1)))
theorem e_aretN {rt : FieldType} (hd : decode M.2.1 pc = .ok (.areturn, 1)) (hr : M.2.2.2.1 = some rt) (hrt : (∃ n, rt = .object n) ∨ ∃ t, rt = .array t) (hq : Q (.inr (some .null)) σ) : Ex l G M (pmV G M Q) pc lv [.null] σ mc ms := fun p e s m args below meth c B ad n0 ad0 H locs ls cells slots hC he hw hS hv hP hL hc hs => W.widen (k := M.2.2.2.2.1.cells) (n := M.2.2.2.2.1.slots) (Nat.le_trans (Nat.le_add_right _ _) hc) (Nat.le_trans (Nat.le_add_right _ _) hs) (vx_ret (W.aret hC.1.1 hC.1.2.1 (hC.2.1.trans hr) hrt (Or.inl rfl) (fun t ht hW => ⟨⟨some .null, σ, ad, rfl, hq, by rw [ht]; exact hw, he, trivial⟩, hS.F ht⟩) hS.2.2 hd (hlocks := hC.2.2.1)))
end RR
/-! contracts -/
def PcM (G : LG) (B : Nat) (ad : Nat → Nat) (av : List Value) (σ : HS) : Array Value → State → Prop := fun v U => v = (trS ad av).toArray ∧ LW G B ad σ U.heap ∧ okL σ av ∧ B ≤ U.heap.size ∧ va_K G.1 lcl (tyA G.2.1) U ∧ ZS B U
/-- the method, from any heap that holds σ, with these arguments, comes to an end as Q says -/
def Ct (l : Launch) (G : LG) (M : MI) (av : List Value) (σ : HS) (Q : LO → HS → Prop) : Prop :=
  ∀ (B : Nat) (ad : Nat → Nat), vx_Met l M.1 (wsM M) M.2.2.2.2.1 (PcM G B ad av σ) (QC G B (hn σ) ad Q) (XQ G B (hn σ) ad Q) M.2.2.2.2.1.cells M.2.2.2.2.1.slots (fun q => B ≤ q)
theorem lv_args_tr (ad : Nat → Nat) : ∀ (av : List Value) (i : Nat), lv_args i (trS ad av) = trL ad (lv_args i av)
  | [], _ => rfl
  | v :: r, i => by
    show (i, trV ad v) :: lv_args (if (trV ad v).category = 2 then i + 2 else i + 1) (trS ad r) = (i, trV ad v) :: trL ad (lv_args (if v.category = 2 then i + 2 else i + 1) r)
    rw [trV_cat, lv_args_tr ad r]
theorem lg_sl_tr (ad : Nat → Nat) (av : List Value) : (lg_sl (trS ad av)).length = (lg_sl av).length := by
  induction av with
  | nil => rfl
  | cons v r ih =>
    have e1 : ∀ (v : Value) (r : List Value), lg_sl (v :: r) = (if v.category = 2 then [Slot.val v, .second] else [.val v]) ++ lg_sl r := fun v r => by simp [lg_sl]
    show (lg_sl (trV ad v :: trS ad r)).length = _
    rw [e1, e1, List.length_append, List.length_append, ih, trV_cat]
    split <;> rfl
theorem okP_args {σ : HS} : ∀ {av : List Value} {i : Nat}, okL σ av → okP σ (lv_args i av)
  | [], _, _ => trivial
  | _ :: _, _, h => ⟨h.1, okP_args h.2⟩
theorem Ct.of {l : Launch} {G : LG} {M : MI} {av : List Value} {σ : HS} {Q : LO → HS → Prop} (hl0 : l.stackTraces = false) (hM : M.2.2.2.2.2 = some []) (hy : plainName M.1.cls = true) (hn0 : (lg_sl av).length ≤ M.2.2.1)
    (h : Ex l G M (pmV G M Q) 0 (lv_args 0 av) [] σ M.2.2.2.2.1.cells M.2.2.2.2.1.slots) : Ct l G M av σ Q := by
  intro B ad
  have hwc : wcM M = .code M.1 M.2.1 M.2.2.1 M.2.2.2.1 := by unfold wcM; rw [hM]
  refine vx_ofW (cc := M.2.1) (maxL := M.2.2.1) (ret := M.2.2.2.1) (ws' := gt) hy (by unfold wsM; rw [hwc]) ?_
  intro p e s m args below meth c s₁ Bd hml hexc hv0
  obtain ⟨rfl, hw, hok, hB, hK, hZ⟩ := hv0
  have hen := lv_entry (trS ad av) (n := M.2.2.1) (by rw [lg_sl_tr]; exact hn0)
  rw [lv_args_tr] at hen
  rw [lg_entry_eq]
  have hts : ∀ w ∈ gt, w.before (trS ad av).toArray s = true := fun w hw => atoms_spec (ws := wsM M) Bd.pre w (List.mem_cons_of_mem _ hw)
  have htab : ∀ hh, M.2.2.2.2.2 = some hh → c.exceptionTable.toList = tableOf hh := fun hh e9 => by
    rw [hM] at e9
    cases e9
    cases hx9 : c.exceptionTable.toList with
    | nil => rfl
    | cons a b => exact absurd (hexc a (by rw [hx9]; exact List.mem_cons_self)) id
  exact h p e s m _ below meth c B ad (hn σ) ad s.heap [] _ 0 0 ⟨⟨Bd.exec, Bd.bytes, hml, findClass_of_methodNamed Bd.named, hts⟩, Bd.returns, Bd.notSynchronized, (name_of_methodNamed Bd.named Bd.method).1, htab, hB, hK, hZ, hl0⟩ ext.rf hw va_S.rf hen (okP_args hok) trivial (by omega) (by omega)
theorem Ct.imp {l : Launch} {G : LG} {M : MI} {av : List Value} {σ : HS} {Q Q' : LO → HS → Prop} (h : Ct l G M av σ Q) (hQ : ∀ o τ, Q o τ → Q' o τ) : Ct l G M av σ Q' := by
  intro B ad
  refine MetFree.mono (h B ad) (fun _ _ z => z) (fun _ _ _ _ _ z => z) (fun a s o s' _ z => ?_)
  rcases z with ⟨⟨⟨v, σ', ad', z1, z2, z3⟩, z4⟩, z5⟩ | ⟨q, z0, E, ce, L, ⟨⟨k, σ', ad', z1, z2, z3⟩, z4⟩, z5⟩
  · exact Or.inl ⟨⟨⟨v, σ', ad', z1, hQ _ _ z2, z3⟩, z4⟩, z5⟩
  · exact Or.inr ⟨q, z0, E, ce, L, ⟨⟨k, σ', ad', z1, hQ _ _ z2, z3⟩, z4⟩, z5⟩
theorem PcM_blind {G : LG} {B : Nat} {ad : Nat → Nat} {av : List Value} {σ : HS} : FrameBlind (PcM G B ad av σ) := fun a U g mk h => by
  obtain ⟨h1, h2, h3, h4, h5, h6, h7, h8, h9, h10, h11⟩ := h
  exact ⟨h1, h2, h3, h4, va_K.moved (u := U) (U := U.calling g mk a) (Vm.Alike.refl U.vm) h5, vx_Zq.moved (u := U) (U := U.calling g mk a) (Vm.Alike.refl U.vm) h6, vx_Zq.moved (u := U) (U := U.calling g mk a) (Vm.Alike.refl U.vm) h7, fun x hx => va_Nw.same (u := U) (U := U.calling g mk a) (nw_on (nstT_ok x hx)) rfl (h8 x hx), fun x hx => by obtain ⟨sa, hs⟩ := h9 x hx; exact ⟨sa, vk_R.same rfl hs⟩, fun C hC => (h10 C hC).moved (u := U) (U := U.calling g mk a) (Vm.Alike.refl U.vm), fun x hx => (h11 x hx).moved (u := U) (U := U.calling g mk a) (Vm.Alike.refl U.vm)⟩
/-- what a call needs of the tables and of the room -/
def CB (M M2 : MI) (idx n : Nat) : Prop := Cond.methodLink M.1.cls idx M2.1 ∈ gt ∧ (M2.2.2.2.2.2 = some [] ∧ Cond.code M2.1 M2.2.1 M2.2.2.1 M2.2.2.2.1 ∈ gt ∧ Cond.initialized M2.1.cls ∈ gt) ∧ (M2.1.cls ≠ "java/lang/invoke/MethodHandle" ∧ M2.1.cls ≠ "java/lang/invoke/VarHandle" ∧ (parseMethodDescriptor M2.1.desc).map (fun d => d.parameters.length) = some n) ∧ (M2.2.2.2.2.1.frames + 1 ≤ M.2.2.2.2.1.frames ∧ 8 + (M2.2.2.1 + 11) + M2.2.2.2.2.1.locals ≤ M.2.2.2.2.1.locals)
section CR
variable {l : Launch} {G : LG} {M M2 : MI} {PM : LPM} {Q Q2 : LO → HS → Prop} {pc : Nat} {lv : List (Nat × Value)} {st : List Value} {σ : HS} {mc ms : Nat}
variable {p : Program} {e : Env} {R : Room} {s : State} {m : MethodId} {args : Array Value} {below : List Frame} {meth : Method} {c : Code} {B : Nat} {ad n0 ad0 : Nat → Nat} {H : Heap} {locs : List Loc} {ls : Array Slot} {cells slots : Nat} {Qm : State → Prop}
theorem gi_of {ws : List Cond} (h : ∀ w ∈ ws, w ∈ gt) : GoodIn gt ws := fun w hw => ⟨h w hw, good_of_word (gt_good w (h w hw))⟩
theorem ws_of (h : M2.2.2.2.2.2 = some []) : wsM M2 = .code M2.1 M2.2.1 M2.2.2.1 M2.2.2.2.1 :: gt := by
  unfold wsM wcM
  rw [h]
theorem CB.ws {idx n : Nat} (h : CB M M2 idx n) : ∀ w ∈ wsM M2, w ∈ gt := by
  intro w hw
  rw [ws_of h.2.1.1] at hw
  rcases List.mem_cons.mp hw with z | z
  · rw [z]; exact h.2.1.2.1
  · exact z
theorem CB.b {idx n : Nat} (h : CB M M2 idx n) (hC : CX l G M p s m args meth c B) : CallB M.2.2.2.2.1 s args M.1.cls idx M2.1 M2.2.1 M2.2.2.1 M2.2.2.2.1 (wsM M2) M2.2.2.2.2.1 M2.2.2.2.2.1.cells M2.2.2.2.2.1.slots n :=
  callB_of n hC.1.2.2.2.2 (gi_of h.ws) (ws_of h.2.1.1) rfl rfl (hC.1.2.2.2.2 _ h.2.1.2.2) (hC.1.2.2.2.2 _ h.1) h.2.2.1 h.2.2.2
theorem pre_core (hC : CX l G M p s m args meth c B) (hw : LW G B ad σ H) (hS : va_S (fun q => B ≤ q) s.heap H locs) {av : List Value} (hav : okL σ av) : PreS s H (PcM G B ad av σ) (trS ad av) :=
  ⟨PcM_blind, fun U hU hW => ⟨rfl, by rw [hU]; exact hw, hav, by rw [hU]; exact Nat.le_trans hC.2.2.2.2.2.1 hS.1, va_K.moved hW.alike hC.2.2.2.2.2.2.1, hC.2.2.2.2.2.2.2.1.call hS hU hW⟩⟩
theorem run_core {st0 : List Value} {a : Array Value} {mc2 ms2 : Nat} (hr : vx_Run p l e R s m args below meth c H locs cells slots mc2 ms2 (F0 m pc ls st0) (trS ad st) (QC G B (hn σ) ad Q2 a) (XQ G B (hn σ) ad Q2) (fun q => B ≤ q)) (hS : va_S (fun q => B ≤ q) s.heap H locs)
    (kx : ∀ (k : Nat) (ce : Cell) (q9 : Addr) (σ' : HS) (ad' : Nat → Nat) (H1 : Heap) (locs1 : List Loc), Q2 (.inl k) σ' → LW G B ad' σ' H1 → ext (hn σ) ad (hn σ') ad' → va_S (fun q => B ≤ q) s.heap H1 locs1 → H1[q9]? = some ce → ce.vm = .none → s.vm.findClass (xn k) = some ce.cls → vx_W p l e R s m args below meth c H1 locs1 (cells + mc2) (slots + ms2) Qm (F0 m pc ls (trS ad st)) q9)
    (kk : ∀ (v : Option Value) (σ' : HS) (ad' : Nat → Nat) (H1 : Heap) (locs1 : List Loc), Q2 (.inr v) σ' → LW G B ad' σ' H1 → ext (hn σ) ad (hn σ') ad' → okO σ' v → va_S (fun q => B ≤ q) s.heap H1 locs1 → W p l e R s m args below meth c H1 locs1 (cells + mc2) (slots + ms2) Qm (F0 m (pc + 3) ls ((v.map (trV ad')).toList ++ trS ad st))) : W p l e R s m args below meth c H locs cells slots Qm (F0 m pc ls st0) := by
  intro T hT X
  rcases hr T hT X with ⟨v, st₀, t, T', L, h0, X', hL, e1, e2, ⟨⟨w, σ', ad', hv, hq, hlw, he, hok⟩, hF⟩, st1⟩ | ⟨q, st₀, t, T', L, E, ce, h0, X', hL, e1, e2, ⟨⟨k, σ', ad', hE, hq, hlw, he⟩, hF⟩, hce, hcv, hcl, st1⟩
  · cases hv
    obtain ⟨k1, k2, k3⟩ := vx_keep h0 e1 hS (fun q _ h => h) (fun q h => h) hL hF
    obtain ⟨t2, a1, b1⟩ := kk w σ' ad' T'.heap (locs ++ L) hq (by rw [e1]; exact hlw) he hok k3 T' rfl X'
    exact ⟨t2, st1 t2 a1, b1⟩
  · subst hE
    obtain ⟨k1, k2, k3⟩ := vx_keep h0 e1 hS (fun q _ h => h) (fun q h => h) hL hF
    obtain ⟨t2, a1, b1⟩ := kx k ce q σ' ad' T'.heap (locs ++ L) hq (by rw [e1]; exact hlw) he k3 (by rw [e1]; exact hce) hcv hcl T' rfl X'
    exact ⟨t2, st1.trans a1, b1⟩
/-- behind a call: the caller goes on -/
theorem call_fin {mc2 ms2 mc' ms' : Nat} (hC : CX l G M p s m args meth c B) (he : ext n0 ad0 (hn σ) ad) (hw : LW G B ad σ H) (hv : lv_has ls M.2.2.1 (trL ad lv)) (hP : okP σ lv) (hL : okL σ st) (hc : cells + mc ≤ M.2.2.2.2.1.cells) (hs : slots + ms ≤ M.2.2.2.2.1.slots) (hb1 : mc' + mc2 ≤ mc) (hb2 : ms' + ms2 ≤ ms)
    {v : Option Value} {σ' : HS} (k : Ex l G M PM (pc + 3) lv (v.toList ++ st) σ' mc' ms') {ad' : Nat → Nat} {H1 : Heap} {locs1 : List Loc} (hw1 : LW G B ad' σ' H1) (hx : ext (hn σ) ad (hn σ') ad') (hok : okO σ' v) (hS1 : va_S (fun q => B ≤ q) s.heap H1 locs1) :
    W p l e M.2.2.2.2.1 s m args below meth c H1 locs1 (cells + mc2) (slots + ms2) (PM below args s B n0 ad0) (F0 m (pc + 3) ls ((v.map (trV ad')).toList ++ trS ad st)) := by
  have h13 : ad' 13 = ad 13 := hw1.2.2.2.trans hw.2.2.2.symm
  have hst : (v.map (trV ad')).toList ++ trS ad st = trS ad' (v.toList ++ st) := by
    rw [← trS_ext hx h13 hL]
    cases v <;> rfl
  rw [hst]
  have hL' : okL σ' (v.toList ++ st) := by
    cases v with
    | none => exact okL.mono hx.1 hL
    | some x => exact ⟨hok, okL.mono hx.1 hL⟩
  exact k p e s m args below meth c B ad' n0 ad0 H1 locs1 ls (cells + mc2) (slots + ms2) hC (he.trans hx) hw1 hS1 (trL_ext hx h13 hP ▸ hv) (okP.mono hx.1 hP) hL' (by omega) (by omega)
theorem cat_tr (ad : Nat → Nat) (st : List Value) : ((trS ad st).map fun v => v.category).sum = (st.map fun v => v.category).sum := by
  rw [List.map_map]; congr 1; exact List.map_congr_left (fun v _ => trV_cat ad v)
theorem rv_tr (ad : Nat → Nat) (As st : List Value) : trS ad (As.reverse ++ st) = (trS ad As).reverse ++ trS ad st := by
  show (As.reverse ++ st).map (trV ad) = (As.map (trV ad)).reverse ++ st.map (trV ad)
  rw [List.map_append, List.map_reverse]
theorem okL_app {σ : HS} : ∀ {a b : List Value}, okL σ (a ++ b) → okL σ a ∧ okL σ b
  | [], _, h => ⟨trivial, h⟩
  | _ :: _, _, h => ⟨⟨h.1, (okL_app h.2).1⟩, (okL_app h.2).2⟩
theorem okL_app2 {σ : HS} : ∀ {a b : List Value}, okL σ a → okL σ b → okL σ (a ++ b)
  | [], _, _, h => h
  | _ :: _, _, h, h' => ⟨h.1, okL_app2 h.2 h'⟩
theorem okL_rev {σ : HS} : ∀ {a : List Value}, okL σ a.reverse → okL σ a
  | [], _ => trivial
  | v :: r, h => by
    rw [List.reverse_cons] at h
    exact ⟨(okL_app h).2.1, okL_rev (okL_app h).1⟩
theorem met_of {lva : List Value} (h : Ct l G M2 lva σ Q2) (hno : ∀ k τ, ¬ Q2 (.inl k) τ) : Met l M2.1 (wsM M2) M2.2.2.2.2.1 (PcM G B ad lva σ) (QC G B (hn σ) ad Q2) M2.2.2.2.2.1.cells M2.2.2.2.2.1.slots (fun q => B ≤ q) := by
  refine MetFree.mono (h B ad) (fun _ _ z => z) (fun _ _ _ _ _ z => z) (fun a s o s' _ z => ?_)
  rcases z with z | ⟨q, z0, E, ce, L, ⟨⟨k, σ', ad', z1, z2, z3⟩, z4⟩, z5⟩
  · exact z
  · exact absurd z2 (hno _ _)
theorem vr_of {rest : List Value} {mc2 ms2 : Nat} {g : JFrame} {Qa : State → Outcome → State → Prop} {XC : String → State → State → Prop} {free : Addr → Prop} (h : va_Run p l e R s m args below meth c H locs cells slots mc2 ms2 g rest Qa free) : vx_Run p l e R s m args below meth c H locs cells slots mc2 ms2 g rest Qa XC free :=
  fun T hT X => Or.inl (h T hT X)
end CR
section CR2
variable {l : Launch} {G : LG} {M M2 : MI} {PM : LPM} {Q Q2 : LO → HS → Prop} {pc : Nat} {lv : List (Nat × Value)} {st : List Value} {σ : HS} {mc ms : Nat}
/-- a call that returns -/
theorem e_callV {q a idx n : Nat} {r : vw_C} {As : List Value} (mc' ms' : Nat) (hd : decode M.2.1 pc = .ok (.invokevirtual idx, 3)) (hcb : CB M M2 idx n) (hin : Cond.instanceMethod M2.1 ∈ gt ∧ Cond.selects M2.1.cls M2.1 M2.1 ∈ gt) (hc0 : lcl[q]? = some r) (hq7 : q < 7 ∧ r.1 = M2.1.cls) (hn1 : As.length = n) (hst8 : (st.map fun v => v.category).sum ≤ 8) (hb1 : mc' + M2.2.2.2.2.1.cells ≤ mc) (hb2 : ms' + M2.2.2.2.2.1.slots ≤ ms) (hct : Ct l G M2 (.ref (q + 16 * a) :: As) σ Q2) (hno : ∀ k τ, ¬ Q2 (.inl k) τ) (k : ∀ v σ', Q2 (.inr v) σ' → Ex l G M PM (pc + 3) lv (v.toList ++ st) σ' mc' ms') : Ex l G M PM pc lv (As.reverse ++ .ref (q + 16 * a) :: st) σ mc ms := fun p e s m args below meth c B ad n0 ad0 H locs ls cells slots hC he hw hS hv hP hL hc hs => by
  have hLa := okL_app hL
  have hLs : okL σ st := hLa.2.2
  have hAs : okL σ As := okL_rev hLa.1
  have hp : al σ (q + 16 * a) := okR (Nat.lt_trans hq7.1 (by decide)) hLa.2.1
  obtain ⟨cell, g1, g2, g3, -⟩ := hw.obj hp hq7.1 hc0
  have hpr := pre_core hC hw hS (av := .ref (q + 16 * a) :: As) ⟨Or.inl hp, hAs⟩
  have hcl : s.vm.findClass M2.1.cls = some cell.cls := by rw [g2, ← hq7.2]; exact (hC.2.2.2.2.2.2.1.1 q r hc0).2.1
  have hrun := vx_runV (l := l) (e := e) (below := below) (meth := meth) (locs := locs) (cells := cells) (slots := slots) (As := trS ad As) (rest := trS ad st) (g := F0 m pc ls (trS ad (As.reverse ++ .ref (q + 16 * a) :: st))) hC.1 (hct B ad) ⟨hcb.b hC, hC.1.2.2.2.2 _ hin.1, hC.1.2.2.2.2 _ hin.2⟩ (C := M2.1.cls) (b := ad (q + 16 * a)) ⟨hpr.1, ⟨cell, g1, by rw [g3]; rfl, hcl⟩, hpr.2⟩ rfl (by rw [List.length_map]; exact hn1) hv.1 (by rw [rv_tr]; rfl) (lv_room (by rw [cat_tr]; exact hst8)) hd ⟨by omega, by omega⟩
  exact run_core hrun hS (fun k _ _ τ _ _ _ hq _ _ _ _ _ _ => absurd hq (hno k τ)) (fun v σ2 ad2 H1 locs1 hq2 hw2 hx2 hok2 hS2 => call_fin hC he hw hv hP hLs hc hs hb1 hb2 (k v σ2 hq2) hw2 hx2 hok2 hS2)
/-- a call that may throw, where nothing is caught -/
theorem e_callVX {q a idx n : Nat} {r : vw_C} {As : List Value} (mc' ms' : Nat) (hd : decode M.2.1 pc = .ok (.invokevirtual idx, 3)) (hcb : CB M M2 idx n) (hin : Cond.instanceMethod M2.1 ∈ gt ∧ Cond.selects M2.1.cls M2.1 M2.1 ∈ gt) (hc0 : lcl[q]? = some r) (hq7 : q < 7 ∧ r.1 = M2.1.cls) (hn1 : As.length = n) (hst8 : (st.map fun v => v.category).sum ≤ 8) (hb1 : mc' + M2.2.2.2.2.1.cells ≤ mc) (hb2 : ms' + M2.2.2.2.2.1.slots ≤ ms) (hct : Ct l G M2 (.ref (q + 16 * a) :: As) σ Q2) (hM : M.2.2.2.2.2 = some []) (kx : ∀ k σ', Q2 (.inl k) σ' → Q (.inl k) σ') (k : ∀ v σ', Q2 (.inr v) σ' → Ex l G M (pmV G M Q) (pc + 3) lv (v.toList ++ st) σ' mc' ms') : Ex l G M (pmV G M Q) pc lv (As.reverse ++ .ref (q + 16 * a) :: st) σ mc ms := fun p e s m args below meth c B ad n0 ad0 H locs ls cells slots hC he hw hS hv hP hL hc hs => by
  have hLa := okL_app hL
  have hLs : okL σ st := hLa.2.2
  have hAs : okL σ As := okL_rev hLa.1
  have hp : al σ (q + 16 * a) := okR (Nat.lt_trans hq7.1 (by decide)) hLa.2.1
  obtain ⟨cell, g1, g2, g3, -⟩ := hw.obj hp hq7.1 hc0
  have hpr := pre_core hC hw hS (av := .ref (q + 16 * a) :: As) ⟨Or.inl hp, hAs⟩
  have hcl : s.vm.findClass M2.1.cls = some cell.cls := by rw [g2, ← hq7.2]; exact (hC.2.2.2.2.2.2.1.1 q r hc0).2.1
  have hrun := vx_runV (l := l) (e := e) (below := below) (meth := meth) (locs := locs) (cells := cells) (slots := slots) (As := trS ad As) (rest := trS ad st) (g := F0 m pc ls (trS ad (As.reverse ++ .ref (q + 16 * a) :: st))) hC.1 (hct B ad) ⟨hcb.b hC, hC.1.2.2.2.2 _ hin.1, hC.1.2.2.2.2 _ hin.2⟩ (C := M2.1.cls) (b := ad (q + 16 * a)) ⟨hpr.1, ⟨cell, g1, by rw [g3]; rfl, hcl⟩, hpr.2⟩ rfl (by rw [List.length_map]; exact hn1) hv.1 (by rw [rv_tr]; rfl) (lv_room (by rw [cat_tr]; exact hst8)) hd ⟨by omega, by omega⟩
  exact run_core hrun hS (fun k ce q9 σ2 ad2 H1 locs1 hq2 hw2 hx2 hS2 hce hcv hcl2 => vx_widen (k := M.2.2.2.2.1.cells) (n := M.2.2.2.2.1.slots) (by omega) (by omega) (vx_out (fun x hx => by rw [hC.2.2.2.2.1 _ hM] at hx; exact absurd hx List.not_mem_nil) hC.2.2.1 hce hcv hcl2 (fun t ht hW => ⟨⟨k, σ2, ad2, rfl, kx k σ2 hq2, by rw [ht]; exact hw2, he.trans hx2⟩, hS2.F ht⟩) hS2.2.2 (Nat.le_refl _) (Nat.le_refl _))) (fun v σ2 ad2 H1 locs1 hq2 hw2 hx2 hok2 hS2 => call_fin hC he hw hv hP hLs hc hs hb1 hb2 (k v σ2 hq2) hw2 hx2 hok2 hS2)
theorem e_callS {idx n : Nat} {As : List Value} (mc' ms' : Nat) (hd : decode M.2.1 pc = .ok (.invokestatic idx, 3)) (hcb : CB M M2 idx n) (hin : Cond.static M2.1 ∈ gt) (hn1 : As.length = n) (hst8 : (st.map fun v => v.category).sum ≤ 8) (hb1 : mc' + M2.2.2.2.2.1.cells ≤ mc) (hb2 : ms' + M2.2.2.2.2.1.slots ≤ ms) (hct : Ct l G M2 As σ Q2) (hno : ∀ k τ, ¬ Q2 (.inl k) τ) (k : ∀ v σ', Q2 (.inr v) σ' → Ex l G M PM (pc + 3) lv (v.toList ++ st) σ' mc' ms') : Ex l G M PM pc lv (As.reverse ++ st) σ mc ms := fun p e s m args below meth c B ad n0 ad0 H locs ls cells slots hC he hw hS hv hP hL hc hs => by
  have hLa := okL_app hL
  have hLs : okL σ st := hLa.2
  have hpr := pre_core hC hw hS (av := As) (okL_rev hLa.1)
  have hrun := vx_runS (l := l) (e := e) (below := below) (meth := meth) (locs := locs) (cells := cells) (slots := slots) (As := trS ad As) (rest := trS ad st) (g := F0 m pc ls (trS ad (As.reverse ++ st))) hC.1 (hct B ad) ⟨hcb.b hC, hC.1.2.2.2.2 _ hin⟩ hpr rfl (by rw [List.length_map]; exact hn1) hv.1 (by rw [rv_tr]) (lv_room (by rw [cat_tr]; exact hst8)) hd ⟨by omega, by omega⟩
  exact run_core hrun hS (fun k _ _ τ _ _ _ hq _ _ _ _ _ _ => absurd hq (hno k τ)) (fun v σ2 ad2 H1 locs1 hq2 hw2 hx2 hok2 hS2 => call_fin hC he hw hv hP hLs hc hs hb1 hb2 (k v σ2 hq2) hw2 hx2 hok2 hS2)
theorem e_callI {x idx n : Nat} {As : List Value} (mc' ms' : Nat) (hd : decode M.2.1 pc = .ok (.invokespecial idx, 3)) (hcb : CB M M2 idx n) (hin : Cond.instanceMethod M2.1 ∈ gt ∧ M2.1.name = "<init>" ∧ M2.2.2.2.1 = none) (hn1 : As.length = n) (hst8 : (st.map fun v => v.category).sum ≤ 8) (hb1 : mc' + M2.2.2.2.2.1.cells ≤ mc) (hb2 : ms' + M2.2.2.2.2.1.slots ≤ ms) (hct : Ct l G M2 (.ref x :: As) σ Q2) (hno : ∀ k τ, ¬ Q2 (.inl k) τ) (k : ∀ v σ', Q2 (.inr v) σ' → Ex l G M PM (pc + 3) lv (v.toList ++ st) σ' mc' ms') : Ex l G M PM pc lv (As.reverse ++ .ref x :: st) σ mc ms := fun p e s m args below meth c B ad n0 ad0 H locs ls cells slots hC he hw hS hv hP hL hc hs => by
  have hLa := okL_app hL
  have hLs : okL σ st := hLa.2.2
  have hpr := pre_core hC hw hS (av := .ref x :: As) ⟨hLa.2.1, okL_rev hLa.1⟩
  have hmet := met_of (B := B) (ad := ad) hct hno
  have hcw := hcb.b hC
  rw [hin.2.2] at hcw
  have hrun := va_runI (l := l) (e := e) (below := below) (meth := meth) (locs := locs) (cells := cells) (slots := slots) (As := trS ad As) (b := ad x) (rest := trS ad st) (g := F0 m pc ls (trS ad (As.reverse ++ .ref x :: st))) hC.1 hmet ⟨hcw, hin.2.1, hC.1.2.2.2.2 _ hin.1⟩ hpr rfl (by rw [List.length_map]; exact hn1) hv.1 (by rw [rv_tr]; rfl) (lv_room (by rw [cat_tr]; exact hst8)) hd ⟨by omega, by omega⟩
  exact run_core (vr_of hrun) hS (fun k _ _ τ _ _ _ hq _ _ _ _ _ _ => absurd hq (hno k τ)) (fun v σ2 ad2 H1 locs1 hq2 hw2 hx2 hok2 hS2 => call_fin hC he hw hv hP hLs hc hs hb1 hb2 (k v σ2 hq2) hw2 hx2 hok2 hS2)
theorem e_callIN {x idx n : Nat} {As : List Value} (mc' ms' : Nat) (hd : decode M.2.1 pc = .ok (.invokespecial idx, 3)) (hnst : ∃ host, Cond.methodLinkNest M.1.cls idx M2.1 host ∈ nstT) (hcb : (M2.2.2.2.2.2 = some [] ∧ Cond.code M2.1 M2.2.1 M2.2.2.1 M2.2.2.2.1 ∈ gt ∧ Cond.initialized M2.1.cls ∈ gt) ∧ (M2.1.cls ≠ "java/lang/invoke/MethodHandle" ∧ M2.1.cls ≠ "java/lang/invoke/VarHandle" ∧ (parseMethodDescriptor M2.1.desc).map (fun d => d.parameters.length) = some n) ∧ (M2.2.2.2.2.1.frames + 1 ≤ M.2.2.2.2.1.frames ∧ 8 + (M2.2.2.1 + 11) + M2.2.2.2.2.1.locals ≤ M.2.2.2.2.1.locals)) (hin : Cond.instanceMethod M2.1 ∈ gt ∧ M2.1.name = "<init>" ∧ M2.2.2.2.1 = none) (hn1 : As.length = n) (hst8 : (st.map fun v => v.category).sum ≤ 8) (hb1 : mc' + M2.2.2.2.2.1.cells ≤ mc) (hb2 : ms' + M2.2.2.2.2.1.slots ≤ ms) (hct : Ct l G M2 (.ref x :: As) σ Q2) (hno : ∀ k τ, ¬ Q2 (.inl k) τ) (k : ∀ v σ', Q2 (.inr v) σ' → Ex l G M PM (pc + 3) lv (v.toList ++ st) σ' mc' ms') : Ex l G M PM pc lv (As.reverse ++ .ref x :: st) σ mc ms := fun p e s m args below meth c B ad n0 ad0 H locs ls cells slots hC he hw hS hv hP hL hc hs => by
  have hLa := okL_app hL
  have hLs : okL σ st := hLa.2.2
  have hpr := pre_core hC hw hS (av := .ref x :: As) ⟨hLa.2.1, okL_rev hLa.1⟩
  have hmet := met_of (B := B) (ad := ad) hct hno
  obtain ⟨host, hnst⟩ := hnst
  have hws : ∀ w ∈ wsM M2, w ∈ gt := fun w hw => by
    rw [ws_of hcb.1.1] at hw
    rcases List.mem_cons.mp hw with z | z
    · rw [z]; exact hcb.1.2.1
    · exact z
  have hcw := va_cnB (own := M.1.cls) (host := host) (index := idx) (R := M.2.2.2.2.1) n hC.1.2.2.2.2 (gi_of hws) (ws_of hcb.1.1) rfl rfl (hC.2.2.2.2.2.2.2.1.2.2.1 _ hnst) (hC.1.2.2.2.2 _ hcb.1.2.2) hcb.2.1 hcb.2.2
  rw [hin.2.2] at hcw
  have hrun := va_runIN (l := l) (e := e) (below := below) (meth := meth) (locs := locs) (cells := cells) (slots := slots) (As := trS ad As) (b := ad x) (rest := trS ad st) (g := F0 m pc ls (trS ad (As.reverse ++ .ref x :: st))) hC.1 hmet ⟨hcw, hin.2.1, hC.1.2.2.2.2 _ hin.1⟩ hpr rfl (by rw [List.length_map]; exact hn1) hv.1 (by rw [rv_tr]; rfl) (lv_room (by rw [cat_tr]; exact hst8)) hd ⟨by omega, by omega⟩
  exact run_core (vr_of hrun) hS (fun k _ _ τ _ _ _ hq _ _ _ _ _ _ => absurd hq (hno k τ)) (fun v σ2 ad2 H1 locs1 hq2 hw2 hx2 hok2 hS2 => call_fin hC he hw hv hP hLs hc hs hb1 hb2 (k v σ2 hq2) hw2 hx2 hok2 hS2)
/-- a post that fixes the end -/
def qd (r : LO) (τ0 : HS) : LO → HS → Prop := fun o τ => o = r ∧ τ = τ0
theorem e_callVd {v : Option Value} {σ' : HS} {q a idx n : Nat} {r : vw_C} {As : List Value} (mc' ms' : Nat) (hd : decode M.2.1 pc = .ok (.invokevirtual idx, 3)) (hcb : CB M M2 idx n) (hin : Cond.instanceMethod M2.1 ∈ gt ∧ Cond.selects M2.1.cls M2.1 M2.1 ∈ gt) (hc0 : lcl[q]? = some r) (hq7 : q < 7 ∧ r.1 = M2.1.cls) (hn1 : As.length = n) (hst8 : (st.map fun v => v.category).sum ≤ 8) (hb1 : mc' + M2.2.2.2.2.1.cells ≤ mc) (hb2 : ms' + M2.2.2.2.2.1.slots ≤ ms) (hct : Ct l G M2 (.ref (q + 16 * a) :: As) σ (qd (.inr v) σ')) (k : Ex l G M PM (pc + 3) lv (v.toList ++ st) σ' mc' ms') : Ex l G M PM pc lv (As.reverse ++ .ref (q + 16 * a) :: st) σ mc ms := e_callV mc' ms' hd hcb hin hc0 hq7 hn1 hst8 hb1 hb2 hct (fun k τ h => by cases h.1) (fun w τ h => by obtain ⟨h1, h2⟩ := h; cases h1; subst h2; exact k)
theorem e_callSd {v : Option Value} {σ' : HS} {idx n : Nat} {As : List Value} (mc' ms' : Nat) (hd : decode M.2.1 pc = .ok (.invokestatic idx, 3)) (hcb : CB M M2 idx n) (hin : Cond.static M2.1 ∈ gt) (hn1 : As.length = n) (hst8 : (st.map fun v => v.category).sum ≤ 8) (hb1 : mc' + M2.2.2.2.2.1.cells ≤ mc) (hb2 : ms' + M2.2.2.2.2.1.slots ≤ ms) (hct : Ct l G M2 As σ (qd (.inr v) σ')) (k : Ex l G M PM (pc + 3) lv (v.toList ++ st) σ' mc' ms') : Ex l G M PM pc lv (As.reverse ++ st) σ mc ms := e_callS mc' ms' hd hcb hin hn1 hst8 hb1 hb2 hct (fun k τ h => by cases h.1) (fun w τ h => by obtain ⟨h1, h2⟩ := h; cases h1; subst h2; exact k)
theorem e_callId {v : Option Value} {σ' : HS} {x idx n : Nat} {As : List Value} (mc' ms' : Nat) (hd : decode M.2.1 pc = .ok (.invokespecial idx, 3)) (hcb : CB M M2 idx n) (hin : Cond.instanceMethod M2.1 ∈ gt ∧ M2.1.name = "<init>" ∧ M2.2.2.2.1 = none) (hn1 : As.length = n) (hst8 : (st.map fun v => v.category).sum ≤ 8) (hb1 : mc' + M2.2.2.2.2.1.cells ≤ mc) (hb2 : ms' + M2.2.2.2.2.1.slots ≤ ms) (hct : Ct l G M2 (.ref x :: As) σ (qd (.inr v) σ')) (k : Ex l G M PM (pc + 3) lv (v.toList ++ st) σ' mc' ms') : Ex l G M PM pc lv (As.reverse ++ .ref x :: st) σ mc ms := e_callI mc' ms' hd hcb hin hn1 hst8 hb1 hb2 hct (fun k τ h => by cases h.1) (fun w τ h => by obtain ⟨h1, h2⟩ := h; cases h1; subst h2; exact k)
theorem e_callINd {v : Option Value} {σ' : HS} {x idx n : Nat} {As : List Value} (mc' ms' : Nat) (hd : decode M.2.1 pc = .ok (.invokespecial idx, 3)) (hnst : ∃ host, Cond.methodLinkNest M.1.cls idx M2.1 host ∈ nstT) (hcb : (M2.2.2.2.2.2 = some [] ∧ Cond.code M2.1 M2.2.1 M2.2.2.1 M2.2.2.2.1 ∈ gt ∧ Cond.initialized M2.1.cls ∈ gt) ∧ (M2.1.cls ≠ "java/lang/invoke/MethodHandle" ∧ M2.1.cls ≠ "java/lang/invoke/VarHandle" ∧ (parseMethodDescriptor M2.1.desc).map (fun d => d.parameters.length) = some n) ∧ (M2.2.2.2.2.1.frames + 1 ≤ M.2.2.2.2.1.frames ∧ 8 + (M2.2.2.1 + 11) + M2.2.2.2.2.1.locals ≤ M.2.2.2.2.1.locals)) (hin : Cond.instanceMethod M2.1 ∈ gt ∧ M2.1.name = "<init>" ∧ M2.2.2.2.1 = none) (hn1 : As.length = n) (hst8 : (st.map fun v => v.category).sum ≤ 8) (hb1 : mc' + M2.2.2.2.2.1.cells ≤ mc) (hb2 : ms' + M2.2.2.2.2.1.slots ≤ ms) (hct : Ct l G M2 (.ref x :: As) σ (qd (.inr v) σ')) (k : Ex l G M PM (pc + 3) lv (v.toList ++ st) σ' mc' ms') : Ex l G M PM pc lv (As.reverse ++ .ref x :: st) σ mc ms := e_callIN mc' ms' hd hnst hcb hin hn1 hst8 hb1 hb2 hct (fun k τ h => by cases h.1) (fun w τ h => by obtain ⟨h1, h2⟩ := h; cases h1; subst h2; exact k)
theorem LW.kept {B : Nat} {ad : Nat → Nat} {H H1 : Heap} (h : LW G B ad σ H) (hk : ∀ q : Nat, q < H.size → H1[q]? = H[q]?) : LW G B ad σ H1 :=
  ⟨fun p hp => ⟨(h.1 p hp).1.kept (hk _ (h.1 p hp).1.lt), (h.1 p hp).2⟩, h.2⟩
/-- 'throw new E("text")' where nothing is caught -/
theorem e_throw {kx ik is ic : Nat} {text : String} {names : List String} (d0 : decode M.2.1 pc = .ok (.new ik, 3)) (d3 : decode M.2.1 (pc + 3) = .ok (.dup, 1)) (d4 : decode M.2.1 (pc + 4) = .ok (.ldc is, 2)) (d6 : decode M.2.1 (pc + 6) = .ok (.invokespecial ic, 3)) (d9 : decode M.2.1 (pc + 9) = .ok (.athrow, 1))
    (hk : Cond.classLink M.1.cls ik (xn kx) ∈ gt) (hini : Cond.initialized (xn kx) ∈ gt) (hstr : (M.1.cls, is, text) ∈ strT) (hfit : Bundle.fit (xn kx) = true ∧ ∀ n ∈ names, Bundle.fit n = true)
    (hat1 : ∀ w ∈ (vx_atS M.1.cls ic (xn kx) names).filter goodWord, w ∈ gt) (hat2 : ∀ w ∈ (vx_atS M.1.cls ic (xn kx) names).filter (fun w => !goodWord w), w ∈ nstT) (hgood : ∀ w ∈ Cond.classLink M.1.cls ik (xn kx) :: Cond.initialized (xn kx) :: vx_atS M.1.cls ic (xn kx) names, vx_ot w = true)
    (hRm : names.length + 3 < M.2.2.2.2.1.frames ∧ (st.map fun v => v.category).sum + (13 * (names.length + 1) + 43) ≤ M.2.2.2.2.1.locals) (hb : 1 ≤ mc ∧ 6 ≤ ms) (hM : M.2.2.2.2.2 = some []) (hq : Q (.inl kx) σ) : Ex l G M (pmV G M Q) pc lv st σ mc ms := fun p e s m args below meth c B ad n0 ad0 H locs ls cells slots hC he hw hS hv hP hL hc hs => by
  obtain ⟨⟨hx, hbb, hml, hown, hts⟩, hr9, hlk, hnm, htab, hB, hK, hZ, hl0⟩ := hC
  obtain ⟨sa, hsa⟩ := hZ.2.2.2.1 _ hstr
  refine vx_throwS (A := fun q => B ≤ q) hx hbb hl0 hown hfit.1 hfit.2 (hts _ hk) (hts _ hini) hsa (vx_hat (B := nstT) (fun w hw => hts w (hat1 w hw)) hat2 (fun w hw => va_Nw.use (nw_on (nstT_ok w hw)) (hZ.2.2.1 w hw))) hgood hZ.1 hZ.2.1 hS (hv.1.trans hml.symm) d0 d3 d4 d6 d9 (fun x hx => by rw [htab _ hM] at hx; exact absurd hx List.not_mem_nil) hRm.1 (by rw [cat_tr]; exact hRm.2) (by omega) (by omega) hlk (fun t hal hsz hkq => ⟨⟨kx, σ, ad, rfl, hq, hw.kept hkq, he⟩, ⟨Nat.le_trans hS.1 hsz, fun q h1 h2 => (hkq q (Nat.lt_of_lt_of_le h1 hS.1)).trans (hS.2.1 q h1 h2)⟩⟩) hS.2.2 (by omega) (by omega)
end CR2
