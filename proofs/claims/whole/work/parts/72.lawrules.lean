/-! THE CLAIM OUT OF ONE WALK OF THE LAW'S BODY. Your part is whole_start (and what it stands on); all else here is the same for every law, but numbers. -/
def R_law : String := "ClockTreeLaw"
def lw_P (b : Addr) (xs : List Int32) (args : Array Value) (s : State) : Prop := args = #[.ref b] ∧ s.IntsAt b xs ∧ xs.length ≤ 3584 ∧ (Jvm.Cond.and given_1 narrow_1).before args s = true
def lw_Q (_ : Array Value) (s : State) (o : Outcome) (t : State) : Prop := o = .returned (some (.int 1)) ∧ Framed s o t [] 601024 7293034
def lw_Z (below : List Frame) (a : Array Value) (s : State) : State → Prop := fun t => ∃ o, t.status = .running ∧ Ended t below o ∧ lw_Q a s o t
/-- the law's own end, with 1 on the stack, nothing written that was there before, its room as the claim has it -/
theorem lw_ret {p : Program} {l : Launch} {e : Env} {s : State} {m : MethodId} {below : List Frame} {meth : Method} {c : Code} {b : Nat} (hx : p.tables.exec = Jvm.exec) (hb : c.code = code) (hr : meth.sig.returnType = ret) (hlocks : meth.locks = false) {pc : Nat} {H : Heap} {ls : Array Slot} (hdg : decode code pc = .ok (.ireturn, 1)) : W p l e room_1 s m #[Value.ref b] below meth c H [] 601024 7293034 (lw_Z below #[Value.ref b] s) (F0 m pc ls [.int 1]) := by
  intro T hT X
  obtain ⟨fs, hret, hrun, hended, hW, hframe⟩ := X.leave (v := some (.int 1)) (hlocks := hlocks) (fun h => by rw [hr] at h; cases h)
  have hmeth' : T.vm.method? m = some meth := X.method'
  refine ⟨T.setFrames fs, ?_, .returned (some (.int 1)), hrun, hended, rfl, ⟨_, rfl⟩, hW, hframe⟩
  jvm_step X.here [X.here.top, hx, hb, hdg, hmeth', hr, ret, narrow_b1]
  (try refine ⟨rfl, ?_⟩); (try refine ⟨rfl, ?_⟩)
  first | (intro acts; rw [hret _ acts rfl rfl rfl]) | rw [hret _ _ rfl rfl rfl]
  exact Steps.refl _

/-- what the law's walk knows of the start: the script, and that all that is written is new -/
def LX (G : LG) (L : Nat) (xs : Nat → Int32) (args : Array Value) (s : State) (B : Nat) : Prop := va_X G.2.2 L xs s s.heap ∧ G.2.2 < s.heap.size ∧ B = s.heap.size ∧ args = #[Value.ref G.2.2]
def pmL (G : LG) (L : Nat) (xs : Nat → Int32) : LPM := fun below args s B _ _ t => LX G L xs args s B → lw_Z below args s t
section LAW
variable {l : Launch} {G : LG} {L : Nat} {xs : Nat → Int32} {pc : Nat} {lv : List (Nat × Value)} {st : List Value} {σ : HS} {mc ms : Nat}
theorem W.vac {p : Program} {e : Env} {R : Room} {s : State} {m : MethodId} {args : Array Value} {below : List Frame} {meth : Method} {c : Code} {H : Heap} {locs : List Loc} {cells slots : Nat} {A : Prop} {Q : State → Prop} {g : JFrame} (h : ¬ A) : W p l e R s m args below meth c H locs cells slots (fun t => A → Q t) g := fun T hT X => ⟨_, Steps.refl _, fun z => absurd z h⟩
theorem e_sld {j : Int32} (hd : decode m_L_law.2.1 pc = .ok (.iaload, 1)) (hin : vp_in j L) (k : Ex l G m_L_law (pmL G L xs) (pc + 1) lv (.int (xs j.toNatClampNeg) :: st) σ mc ms) : Ex l G m_L_law (pmL G L xs) pc lv (.int j :: .ref 13 :: st) σ mc ms := fun p e s m args below meth c B ad n0 ad0 H locs ls cells slots hC he hw hS hv hP hL hc hs => by
  rcases Classical.em (LX G L xs args s B) with hA | hA
  · have h13 : ad 13 = G.2.2 := hw.2.2.2
    have hk := k p e s m args below meth c B ad n0 ad0 H locs ls cells slots hC he hw hS hv hP ⟨trivial, hL.2.2⟩ hc hs
    show W p l e _ s m args below meth c H locs cells slots _ (F0 m pc ls (.int j :: .ref (ad 13) :: trS ad st))
    rw [h13]
    exact va_sld hC.1.1 hC.1.2.1 hA.1 hA.2.1 (by rw [hA.2.2.1]; exact Nat.not_le.mpr hA.2.1) hS hin hd hk
  · exact W.vac hA
theorem e_slen (hd : decode m_L_law.2.1 pc = .ok (.arraylength, 1)) (k : Ex l G m_L_law (pmL G L xs) (pc + 1) lv (.int (nI L) :: st) σ mc ms) : Ex l G m_L_law (pmL G L xs) pc lv (.ref 13 :: st) σ mc ms := fun p e s m args below meth c B ad n0 ad0 H locs ls cells slots hC he hw hS hv hP hL hc hs => by
  rcases Classical.em (LX G L xs args s B) with hA | hA
  · have h13 : ad 13 = G.2.2 := hw.2.2.2
    have hk := k p e s m args below meth c B ad n0 ad0 H locs ls cells slots hC he hw hS hv hP ⟨trivial, hL.2⟩ hc hs
    show W p l e _ s m args below meth c H locs cells slots _ (F0 m pc ls (.ref (ad 13) :: trS ad st))
    rw [h13]
    exact va_slen hC.1.1 hC.1.2.1 hA.1 hA.2.1 (by rw [hA.2.2.1]; exact Nat.not_le.mpr hA.2.1) hS hd hk
  · exact W.vac hA
/-- the switch of the law -/
theorem e_switch {M : MI} {PM : LPM} {dflt : Int} {offs : Array Int} {len N : Nat} {hi : Int} {y : Int32} (hN : hi = (N : Int)) (hN31 : N < 2 ^ 30) (hd : decode M.2.1 pc = .ok (.tableswitch dflt 0 hi offs, len)) (hin : ∀ n, n ≤ N → y = nI n → ∃ (off : Int) (tgt : Nat), offs[n]? = some off ∧ (pc : Int) + off = (tgt : Int) ∧ Ex l G M PM tgt lv st σ mc ms) (tgt0 : Nat) (ht0 : (pc : Int) + dflt = (tgt0 : Int)) (hout : Ex l G M PM tgt0 lv st σ mc ms) : Ex l G M PM pc lv (.int y :: st) σ mc ms := fun p e s m args below meth c B ad n0 ad0 H locs ls cells slots hC he hw hS hv hP hL hc hs => by
  by_cases h : y.toInt < 0 ∨ hi < y.toInt
  · exact lv_tableOut hC.1.1 hC.1.2.1 hd h ht0 (hout p e s m args below meth c B ad n0 ad0 H locs ls cells slots hC he hw hS hv hP hL.2 hc hs)
  · have h1 : ¬ y.toInt < 0 := fun z => h (Or.inl z)
    have h2 : ¬ hi < y.toInt := fun z => h (Or.inr z)
    have hn : y.toInt.toNat ≤ N := by omega
    have hy : y = nI y.toInt.toNat := Int32.toInt_inj.mp (by rw [nI_toInt (by omega)]; omega)
    obtain ⟨off, tgt, ho, ht, k⟩ := hin _ hn hy
    exact lv_tableIn hC.1.1 hC.1.2.1 hd h1 h2 (by rw [show (y.toInt - 0).toNat = y.toInt.toNat by omega]; exact ho) ht (k p e s m args below meth c B ad n0 ad0 H locs ls cells slots hC he hw hS hv hP hL.2 hc hs)
/-- the law's end -/
theorem e_lend (hd : decode m_L_law.2.1 pc = .ok (.ireturn, 1)) : Ex l G m_L_law (pmL G L xs) pc lv [.int 1] σ mc ms := fun p e s m args below meth c B ad n0 ad0 H locs ls cells slots hC he hw hS hv hP hL hc hs => by
  rcases Classical.em (LX G L xs args s B) with hA | hA
  · obtain ⟨-, -, hB, ha⟩ := hA
    subst ha
    have hk : W p l e room_1 s m #[Value.ref G.2.2] below meth c H [] room_1.cells room_1.slots (lw_Z below #[Value.ref G.2.2] s) (F0 m pc ls [.int 1]) := lw_ret hC.1.1 hC.1.2.1 hC.2.1 hC.2.2.1 hd
    refine W.widen (k := room_1.cells) (n := room_1.slots) (Nat.le_trans (Nat.le_add_right _ _) hc) (Nat.le_trans (Nat.le_add_right _ _) hs) (va_forget (fun q hq => by rw [← hB]; exact hS.2.2 q hq) ?_)
    intro T hT X
    obtain ⟨t, a1, b1⟩ := hk T hT X
    exact ⟨t, a1, fun _ => b1⟩
  · exact W.vac hA
end LAW
