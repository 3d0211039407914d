-- ===== end of PART A; then your names; then what follows =====
/-! THE CLAIM OUT OF ONE WALK OF THE LAW'S BODY. Your part is whole_start (and what it stands on); all else here is the same for every law, but numbers. -/
def R_law : String := "ClaqueRowLaw"
def lw_P (b : Addr) (xs : List Int32) (args : Array Value) (s : State) : Prop := args = #[.ref b] ∧ s.IntsAt b xs ∧ xs.length ≤ 3072 ∧ (Jvm.Cond.and given_1 narrow_1).before args s = true
/-- what a walk over the start with the record d0 says of its end, said of the start itself -/
theorem lw_closed {s t : State} {o : Outcome} {d0 : Drawn} {L : List Loc} {k n : Nat} (hd0 : s.drawn.sameBut d0 lw_cs) (hv : ∃ v, o = .returned v) (hW : (s.setDrawn d0).WarmedH t.vm) (hs : (s.setDrawn d0).sameButNew ({ t with vm := s.vm } : State) L k n) : State.butDraws s t lw_cs (fun t1 => Framed s o t1 L k n) := by
  have h2 : t.drawn = d0 := congrArg State.drawn hs.1
  refine ⟨⟨hv, hW, State.sameButNew.setDrawn hs s.drawn⟩, ?_, by decide⟩
  rw [h2]
  exact hd0
def lw_Q (_ : Array Value) (s : State) (o : Outcome) (t : State) : Prop := o = .returned (some (.int 1)) ∧ State.butDraws s t lw_cs (fun t1 => Framed s o t1 [] 603072 7219306)
def lw_Z (below : List Frame) (a : Array Value) (s : State) : State → Prop := fun t => ∃ o, t.status = .running ∧ Ended t below o ∧ lw_Q a s o t
/-- the law's own end, with 1 on the stack, nothing written that was there before, its room as the claim has it; d0: the record of draws at this point (at the entry s.drawn: begin with 'refine W.base ?_' and 'have hd0 := Drawn.sameBut.refl s.drawn lw_cs') -/
theorem lw_ret {p : Program} {l : Launch} {e : Env} {s : State} {m : MethodId} {below : List Frame} {meth : Method} {c : Code} {b : Nat} {d0 : Drawn} (hd0 : s.drawn.sameBut d0 lw_cs) (hx : p.tables.exec = Jvm.exec) (hb : c.code = code) (hr : meth.sig.returnType = ret) (hlocks : meth.locks = false) {pc : Nat} {H : Heap} {ls : Array Slot} (hdg : decode code pc = .ok (.ireturn, 1)) : W p l e room_1 (s.setDrawn d0) m #[Value.ref b] below meth c H [] 603072 7219306 (lw_Z below #[Value.ref b] s) (F0 m pc ls [.int 1]) := by
  intro T hT X
  obtain ⟨fs, hret, hrun, hended, hW, hframe⟩ := X.leave (v := some (.int 1)) (hlocks := hlocks) (fun h => by rw [hr] at h; cases h)
  have hmeth' : T.vm.method? m = some meth := X.method'
  refine ⟨T.setFrames fs, ?_, .returned (some (.int 1)), hrun, hended, rfl, lw_closed hd0 ⟨_, rfl⟩ hW hframe⟩
  jvm_step X.here [X.here.top, hx, hb, hdg, hmeth', hr, ret, narrow_b1]
  (try refine ⟨rfl, ?_⟩); (try refine ⟨rfl, ?_⟩)
  first | (intro acts; rw [hret _ acts rfl rfl rfl]) | rw [hret _ _ rfl rfl rfl]
  exact Steps.refl _
/-- what holds at the law's entry: the machine, the code, the tables' words (any of lw_tbl by 'hts w (by decide +kernel)'), the script of L ints xs at the cell b, what the Statement gives of the start (any of its parts by flat_of_before) -/
def lw_At (p : Program) (s : State) (m : MethodId) (meth : Method) (c : Code) (b L : Nat) (xs : Nat → Int32) : Prop :=
  p.tables.exec = Jvm.exec ∧ c.code = code ∧ meth.sig.returnType = ret ∧ c.maxLocals = 9 ∧ s.vm.findClass R_law = some m.cls ∧ (∀ w ∈ lw_tbl, w.before #[Value.ref b] s = true) ∧ va_X b L xs s s.heap ∧ b < s.heap.size ∧ meth.locks = false ∧ (Jvm.Cond.and given_1 narrow_1).before #[Value.ref b] s = true
theorem W_mono {p : Program} {l : Launch} {e : Env} {R : Room} {s : State} {m : MethodId} {args : Array Value} {below : List Frame} {meth : Method} {c : Code} {H : Heap} {locs : List Loc} {cells slots : Nat} {Q Q' : State → Prop} {g : JFrame} (h : ∀ t, Q t → Q' t) (k : W p l e R s m args below meth c H locs cells slots Q g) : W p l e R s m args below meth c H locs cells slots Q' g := by
  intro T hT X
  obtain ⟨t, a1, b1⟩ := k T hT X
  exact ⟨t, a1, h t b1⟩
/-- nothing that was there has been written -/
theorem lw_old {s t : State} {L : List Loc} {k n : Nat} (h : s.sameButNew t L k n) (hL : ∀ z ∈ L, s.heap.size ≤ z.base) : s.sameButNew t [] k n := by
  obtain ⟨h1, h2, h3, h4, h5, h6⟩ := h
  refine ⟨h1, h2, h3, h4, h5, fun a c hc => ?_⟩
  obtain ⟨c', e1, e2, e3, e4⟩ := h6 a c hc
  exact ⟨c', e1, e2, e3, fun i _ => e4 i (fun hm => absurd (hL _ hm) (Nat.not_le.mpr (Array.getElem?_eq_some_iff.mp hc).1))⟩
/-- what a walk of the law's body says is what the claim wants -/
theorem lw_conv {G : zG} {s : State} {below : List Frame} {b : Nat} (hG : G.2.2.1 = s.heap.size) (t : State) (h : vx_MQ below (zQ G pqL) (zX G zNoX) #[Value.ref b] s 603072 7219306 (zA G) t) : lw_Z below #[Value.ref b] s t := by
  obtain ⟨o, h1, h2, h3⟩ := h
  rcases h3 with ⟨⟨⟨r, w, ad, ho, hr, -⟩, -⟩, L, hF, hL⟩ | ⟨q, -, E, ce, L, ⟨⟨w, ad, hx, -⟩, -⟩, -⟩
  · have hr2 : r = some (.int 1) := hr
    subst hr2
    subst ho
    refine ⟨_, h1, h2, rfl, ?_⟩
    obtain ⟨hv, hW, hs⟩ := hF
    have hL2 : ∀ z ∈ L, s.heap.size ≤ z.base := fun z hz => by
      have h9 : G.2.2.1 ≤ z.base := hL z hz
      rw [hG] at h9
      exact h9
    exact lw_closed (d0 := s.drawn) (Drawn.sameBut.refl s.drawn lw_cs) hv hW (lw_old hs hL2)
  · exact hx.elim
set_option maxRecDepth 100000 in
set_option maxHeartbeats 4000000 in
theorem whole_start {p : Program} {e : Env} {s : State} {m : MethodId} {below : List Frame} {meth : Method} {c : Code} (l : Launch) (hflags : l.flags = flags0) {b L : Nat} {xs : Nat → Int32} (hL : L ≤ 3072) (C0 : lw_At p s m meth c b L xs) : W p l e room_1 s m #[Value.ref b] below meth c s.heap [] 0 0 (lw_Z below #[Value.ref b] s) (entryFrame m ([Value.ref b] : List Value).toArray 9) := by
  obtain ⟨hx, hb, hr, hml, hown, hts, hX, hbl, hlocks, hgv⟩ := id C0
  have hl0 : l.stackTraces = false := by
    unfold Launch.stackTraces
    rw [hflags]
    decide +kernel
  obtain ⟨G, hG, hK, hSt⟩ := law_facts hts hgv
  refine W_mono (lw_conv hG) ?_
  obtain ⟨X, hXe⟩ : ∃ X : zXT, X = fun H k n pc ls st => ∀ locs, va_S (zA G) s.heap H locs → W p l e room_1 s m #[Value.ref b] below meth c H locs k n (vx_MQ below (zQ G pqL) (zX G zNoX) #[Value.ref b] s 603072 7219306 (zA G)) (F0 m pc ls st) := ⟨_, rfl⟩
  have O : zLaw G l c.exceptionTable.toList False X := ⟨p, e, s, m, #[Value.ref b], below, meth, c, hx, hb, hr, fun w hw => hts w (zAll_tbl w hw), hown, hlocks, hml, rfl, fun h => h.elim, by rw [hG]; exact Nat.le_refl _, hK, hSt, hl0, hXe⟩
  have hbA : ¬ zA G b := by
    unfold zA
    rw [hG]
    exact Nat.not_le.mpr hbl
  have S : zSld G X b L xs := by
    intro kc ks pc lsv rest w ad j hd hj k H lsA hR hLv
    have k2 := k H lsA hR hLv
    subst hXe
    intro locs hS
    refine va_sld hx hb hX hbl hbA hS (vp_in_nI hj (by omega)) hd ?_
    rw [nI_clamp (by omega)]
    exact k2 locs hS
  have SL : zSln G X b L := by
    intro kc ks pc lsv rest w ad hd k H lsA hR hLv
    have k2 := k H lsA hR hLv
    subst hXe
    intro locs hS
    exact va_slen hx hb hX hbl hbA hS hd (k2 locs hS)
  have hl := lv_entry ([.ref b]) (n := 9) (Nat.le_of_ble_eq_true rfl)
  rw [lg_entry_eq]
  generalize (lg_sl ([.ref b]) ++ List.replicate (9 - (lg_sl ([.ref b])).length) Slot.unset).toArray = ls at hl ⊢
  have hl2 : lv_has ls 9 [(0, .ref b)] := hl
  have hR0 : zRep G (fun _ => none) (fun _ => 0) s.heap := ⟨fun i e h => (by cases h), fun i j h => absurd rfl h⟩
  have hB := law_body O hl0 S SL hL (fun _ => 0) s.heap ls hR0 hl2
  subst hXe
  exact hB [] va_S.rf
