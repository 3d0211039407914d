section ZROWS4
variable {G : zG} {l : Launch} {own : String} {cc : ByteArray} {nL : Nat} {ret : Option FieldType} {ws : List Cond} {R : Room} {mc ms : Nat} {et : List ExceptionTableEntry} {PQ : Option Value → zH → (Nat → Nat) → Prop} {PX : String → zH → (Nat → Nat) → Prop} {ini : Prop} {X : zXT} {kc ks pc : Nat} {lsv : List (Nat × Value)} {rest : List Value} {w : zH} {ad : Nat → Nat}
theorem z_last (O : zOK G l own cc nL ret ws R mc ms et PQ PX ini X) {i n : Nat} {f : Nat → Int64} {x : Int32} {v : Int64} {w' : zH} (hdg : decode cc pc = .ok (.lastore, 1)) (hw : w i = some (.inl (3, (n, .inr (.inl f))))) (j : Nat) (hx : x = nI j) (hj : j < n) (hn : n < 2 ^ 31) (hw' : ∀ b, w' b = if b = i then some (.inl (3, (n, .inr (.inl (vp_updL f j v))))) else w b)
    (kk : zV G X nL kc ks (pc + 1) lsv rest w' ad) : zV G X nL kc ks pc lsv (.long v :: .int x :: .ref (ad i) :: rest) w ad := by
  obtain ⟨p, e, s, m, args, below, meth, c, hx0, hb, hr, hts, hown, hlocks, hml, het, hini, hbase, hK, hSt, hfl, rfl⟩ := O
  intro H lsA hR hL locs hS
  obtain ⟨hin, h2⟩ := z_in hx hj hn
  have hAt := hR.1 i _ hw
  refine W.last hx0 hb hAt.2 ((hK.2 3 _ (zTys_get G (by decide))).1 n (fun j => .long (f j))) (fun q => by cases q) (by show ¬ (x < 0 ∨ (arrV _ _ _).slots.size ≤ _); rw [arrV_size]; exact hin) rfl rfl hdg fun H1 e z oq => ?_
  refine kk H1 lsA (hR.put hw ?_ oq hw') hL _ (hS.put z oq hAt.1)
  show H1[ad i]? = some (vp_cell _ _)
  rw [e, h2]
  show some ((vp_cell _ _).setSlot _ _) = _
  rw [vp_cell_l, vp_cell_l, arrV_store]
  congr 2
  funext q
  by_cases hq : q = j
  · subst hq
    simp [updV, vp_updL]
  · simp [updV, vp_updL, hq]
theorem z_dast (O : zOK G l own cc nL ret ws R mc ms et PQ PX ini X) {i n : Nat} {f : Nat → UInt64} {x : Int32} {v : UInt64} {w' : zH} (hdg : decode cc pc = .ok (.dastore, 1)) (hw : w i = some (.inl (4, (n, .inr (.inr (.inr (.inl f))))))) (j : Nat) (hx : x = nI j) (hj : j < n) (hn : n < 2 ^ 31) (hw' : ∀ b, w' b = if b = i then some (.inl (4, (n, .inr (.inr (.inr (.inl (vf_upd f j v))))))) else w b)
    (kk : zV G X nL kc ks (pc + 1) lsv rest w' ad) : zV G X nL kc ks pc lsv (.double v :: .int x :: .ref (ad i) :: rest) w ad := by
  obtain ⟨p, e, s, m, args, below, meth, c, hx0, hb, hr, hts, hown, hlocks, hml, het, hini, hbase, hK, hSt, hfl, rfl⟩ := O
  intro H lsA hR hL locs hS
  obtain ⟨hin, h2⟩ := z_in hx hj hn
  have hAt := hR.1 i _ hw
  refine W.dast hx0 hb hAt.2 ((hK.2 4 _ (zTys_get G (by decide))).1 n (fun j => .double (f j))) (fun q => by cases q) (by show ¬ (x < 0 ∨ (arrV _ _ _).slots.size ≤ _); rw [arrV_size]; exact hin) rfl rfl hdg fun H1 e z oq => ?_
  refine kk H1 lsA (hR.put hw ?_ oq hw') hL _ (hS.put z oq hAt.1)
  show H1[ad i]? = some (vp_cell _ _)
  rw [e, h2]
  show some ((vp_cell _ _).setSlot _ _) = _
  rw [vp_cell_d, vp_cell_d, arrV_store]
  congr 2
  funext q
  by_cases hq : q = j
  · subst hq
    simp [updV, vf_upd]
  · simp [updV, vf_upd, hq]
theorem z_lcmp (O : zOK G l own cc nL ret ws R mc ms et PQ PX ini X) {x y : Int64} (hdg : decode cc pc = .ok (.lcmp, 1)) (k : zV G X nL kc ks (pc + 1) lsv (.int (lg_cmp x y) :: rest) w ad) : zV G X nL kc ks pc lsv (.long y :: .long x :: rest) w ad := by
  obtain ⟨p, e, s, m, args, below, meth, c, hx, hb, -, -, -, -, -, -, -, -, -, -, -, rfl⟩ := O
  intro H lsA hR hL locs hS
  exact W.lcmp hx hb hdg (k H lsA hR hL locs hS)
/-- a handler of E, in a table whose types are exceptions of ours -/
def zHan (own : String) (et : List ExceptionTableEntry) (pc : Nat) (E : String) (h : Nat) : Prop := ∃ pre x suf, et = pre ++ x :: suf ∧ (∀ z ∈ pre, z.catchType ≠ 0 ∧ ∃ nm, nm ∈ zExs ∧ Cond.classLink own z.catchType nm ∈ zAll ∧ E ≠ nm) ∧ E ∈ zExs ∧ covers x pc = true ∧ x.catchType ≠ 0 ∧ Cond.classLink own x.catchType E ∈ zAll ∧ x.handlerPc = h
variable {y : MethodName} {bytes : ByteArray} {maxL : Nat} {ret' : Option FieldType} {rm : Room} {post : Option Value → zH → (Nat → Nat) → Prop} {px : String → zH → (Nat → Nat) → Prop} {As st : List Value} {i idx : Nat}
/-- a method of an object is called; what it throws is caught here -/
theorem z_callVX (O : zOK G l own cc nL ret ws R mc ms et PQ PX ini X) (hC : zCt G l y (zws y bytes maxL ret') rm (.ref (ad i) :: As) w ad post px) {C : String} {T : u_T} {N ci : Nat} {fs : List Value} (hws : ∀ x ∈ zAll, x ∈ ws) (hm1 : Cond.methodLink own idx y ∈ zAll) (hm2 : Cond.instanceMethod y ∈ zAll) (hm3 : Cond.selects C y y ∈ zAll) (hm4 : Cond.initialized C ∈ zAll) (hm5 : Cond.code y bytes maxL ret' ∈ zAll)
    (hd : y.cls = C ∧ y.cls ≠ "java/lang/invoke/MethodHandle" ∧ y.cls ≠ "java/lang/invoke/VarHandle" ∧ (parseMethodDescriptor y.desc).map (fun d => d.parameters.length) = some As.length) (hc : vwCl[ci]? = some (C, T, N)) (hw : w i = some (.inr (ci, fs))) (hR : rm.frames + 1 ≤ R.frames ∧ 8 + (maxL + 11) + rm.locals ≤ R.locals) (hf : kc + rm.cells ≤ R.cells ∧ ks + rm.slots ≤ R.slots)
    (hdg : decode cc pc = .ok (.invokevirtual idx, 3)) (hst : st = As.reverse ++ .ref (ad i) :: rest) (hcat : (rest.map fun v => v.category).sum ≤ 8)
    (hpx : ∀ E w' ad', px E w' ad' → ∃ h, zHan own et pc E h ∧ ∀ q : Nat, zV G X nL (kc + rm.cells) (ks + rm.slots) h lsv [.ref q] w' ad')
    (kk : ∀ (r : Option Value) (w' : zH) (ad' : Nat → Nat), post r w' ad' → zV G X nL (kc + rm.cells) (ks + rm.slots) (pc + 3) lsv (r.toList ++ rest) w' ad') : zV G X nL kc ks pc lsv st w ad := by
  obtain ⟨p, e, s, m, args, below, meth, c, hx0, hb, hr, hts, hown, hlocks, hml, het, hini, hbase, hK, hSt, hfl, rfl⟩ := O
  intro H lsA hRp hL locs hS
  subst hst
  refine zRunX (vx_runV (As := As) (rest := rest) ⟨hx0, hb, hml, hown, hts⟩ hC (cwV As.length hts (zws_in (own := own) (zpre4 hm1 hm2 hm3 hm4) hm5 hws) rfl rfl rfl hd hR) ⟨zBlind, ?_, fun U hU hW => ⟨rfl, zWo_at hRp hbase hK hSt hS hU hW⟩⟩ rfl rfl hL.1 rfl (lv_room hcat) hdg hf) hS ?_ ?_
  · obtain ⟨q', h1, cell, g1, g2, g3, -⟩ := (hRp.1 i _ hw).2
    exact ⟨cell, g1, by rw [g3]; rfl, by rw [g2]; exact (hK.1 ci _ hc).2.1⟩
  · exact fun r w' ad' hp H1 locs1 hR1 hS1 => kk r w' ad' hp H1 lsA hR1 hL locs1 hS1
  · intro E w' ad' hp H1 locs1 q ce hR1 hS1 hce hcv hcl
    obtain ⟨h, ⟨pre, x, suf, e1, e2, e3, e4, e5, e6, e7⟩, k9⟩ := hpx E w' ad' hp
    subst e7
    refine vx_catch hown pre x suf (het.trans e1) (fun z hz => ?_) e4 e5 (hts _ (hws _ e6)) (va_Nw.use rfl (hSt.2.2.1 E e3)) hce hcv hcl (k9 q H1 lsA hR1 hL locs1 hS1)
    obtain ⟨z1, nm, z2, z3, z4⟩ := e2 z hz
    exact Or.inr ⟨z1, nm, hts _ (hws _ z3), hSt.2.2.2.1 E e3 nm z2 z4⟩
end ZROWS4
theorem zp_outD {Z : zM} {sb : Nat → Option Nat} {mcn : Nat → Int32} {cp : Nat → Nat} {e0 : Nat} {Y : zM} {th : Int32} {o : Nat → Int64} {od : Nat → UInt64} {ad : Nat → Nat} {k : Nat} {v : UInt64} : ∀ j, zent Z sb mcn cp e0 Y th o (vf_upd od k v) ad j = if j = 341 then some (.inl (4, (1, .inr (.inr (.inr (.inl (vf_upd od k v))))))) else zent Z sb mcn cp e0 Y th o od ad j := by
  intro j
  by_cases hj : j = 341
  · subst hj
    rw [if_pos rfl]
    rfl
  · rw [if_neg hj]
    by_cases h3 : j < 300
    · simp only [zent, if_pos h3]
    · simp only [zent, zD, if_neg h3, if_neg hj]
