/-! ===== calls, entries, throws over the abstract heap ===== -/
/-- a contract that never throws, as the kit's own -/
theorem zCt.met {G : zG} {l : Launch} {y : MethodName} {ws : List Cond} {rm : Room} {av : List Value} {w : zH} {ad : Nat → Nat} {PQ : Option Value → zH → (Nat → Nat) → Prop} {PX : String → zH → (Nat → Nat) → Prop} (h : zCt G l y ws rm av w ad PQ PX) (hp : ∀ E w ad, ¬ PX E w ad) : Met l y ws rm (va_Pc av (zWo G w ad)) (zQ G PQ) rm.cells rm.slots (zA G) := by
  intro p e ha hc hk s m args below hf happ hP hK
  obtain ⟨n, o, h1, h2, h3, h4⟩ := h p e ha hc hk s m args below hf happ hP hK
  refine ⟨n, o, h1, h2, h3, ?_⟩
  rcases h4 with h4 | ⟨q, -, E, ce, L, ⟨⟨w9, ad9, hx, -⟩, -⟩, -⟩
  · exact h4
  · exact absurd hx (hp _ _ _)
theorem zCt.post {G : zG} {l : Launch} {y : MethodName} {ws : List Cond} {rm : Room} {av : List Value} {w : zH} {ad : Nat → Nat} {PQ PQ' : Option Value → zH → (Nat → Nat) → Prop} {PX PX' : String → zH → (Nat → Nat) → Prop} (h : zCt G l y ws rm av w ad PQ PX) (hq : ∀ r w ad, PQ r w ad → PQ' r w ad) (hx : ∀ E w ad, PX E w ad → PX' E w ad) : zCt G l y ws rm av w ad PQ' PX' := by
  intro p e ha hc hk s m args below hf happ hP hK
  obtain ⟨n, o, h1, h2, h3, h4⟩ := h p e ha hc hk s m args below hf happ hP hK
  refine ⟨n, o, h1, h2, h3, ?_⟩
  rcases h4 with ⟨⟨⟨r, w9, ad9, a1, a2, a3⟩, a4⟩, a5⟩ | ⟨q, b1, E, ce, L, ⟨⟨w9, ad9, c1, c2⟩, c3⟩, b2⟩
  · exact Or.inl ⟨⟨⟨r, w9, ad9, a1, hq _ _ _ a2, a3⟩, a4⟩, a5⟩
  · exact Or.inr ⟨q, b1, E, ce, L, ⟨⟨w9, ad9, hx _ _ _ c1, c2⟩, c3⟩, b2⟩
abbrev zNoX : String → zH → (Nat → Nat) → Prop := fun _ _ _ => False
abbrev zws (y : MethodName) (cc : ByteArray) (nL : Nat) (ret : Option FieldType) : List Cond := Cond.code y cc nL ret :: zAll
abbrev zwsH (y : MethodName) (cc : ByteArray) (nL : Nat) (ret : Option FieldType) (hh : List (Nat × Nat × Nat × Nat)) : List Cond := Cond.codeWith y cc nL ret hh :: zAll
theorem zAllGood : GoodIn zAll zAll := fun w h => ⟨h, good_of_word (zGood w h)⟩
theorem zws_in {y : MethodName} {cc : ByteArray} {nL : Nat} {ret : Option FieldType} {own : String} {pre : List Cond} (hp : ∀ x ∈ pre, x ∈ zAll) (hc : Cond.code y cc nL ret ∈ zAll) {ws : List Cond} (hws : ∀ x ∈ zAll, x ∈ ws) : GoodIn ws (pre ++ zws y cc nL ret) := by
  intro x hx
  have h : x ∈ zAll := by
    rcases List.mem_append.mp hx with h | h
    · exact hp x h
    · rcases List.mem_cons.mp h with h | h
      · rw [h]; exact hc
      · exact h
  exact ⟨hws x h, good_of_word (zGood x h)⟩
theorem zwsH_in {y : MethodName} {cc : ByteArray} {nL : Nat} {ret : Option FieldType} {hh : List (Nat × Nat × Nat × Nat)} {pre : List Cond} (hp : ∀ x ∈ pre, x ∈ zAll) (hc : Cond.codeWith y cc nL ret hh ∈ zAll) {ws : List Cond} (hws : ∀ x ∈ zAll, x ∈ ws) : GoodIn ws (pre ++ zwsH y cc nL ret hh) := by
  intro x hx
  have h : x ∈ zAll := by
    rcases List.mem_append.mp hx with h | h
    · exact hp x h
    · rcases List.mem_cons.mp h with h | h
      · rw [h]; exact hc
      · exact h
  exact ⟨hws x h, good_of_word (zGood x h)⟩
/-- a method from its entry -/
theorem z_body {G : zG} {l : Launch} {y : MethodName} {cc : ByteArray} {nL : Nat} {ret : Option FieldType} {rm : Room} {av : List Value} {w : zH} {ad : Nat → Nat} {PQ : Option Value → zH → (Nat → Nat) → Prop} {PX : String → zH → (Nat → Nat) → Prop} (hl : l.stackTraces = false) (hy : plainName y.cls = true) (hlen : (lg_sl av).length ≤ nL)
    (body : ∀ X, zOK G l y.cls cc nL ret (zws y cc nL ret) rm rm.cells rm.slots [] PQ PX (y.name = "<init>") X → zV G X nL 0 0 0 (lv_args 0 av) [] w ad) : zCt G l y (zws y cc nL ret) rm av w ad PQ PX := by
  refine vx_ofW hy rfl ?_
  intro p e s m args below meth c s₁ B hml ht hv
  obtain ⟨rfl, hR, hbase, hK, hSt⟩ := hv
  have hL := lv_entry av (n := nL) hlen
  rw [lg_entry_eq]
  refine body _ ⟨p, e, s, m, _, below, meth, c, B.exec, B.bytes, B.returns, atoms_spec (ws := zws y cc nL ret) B.pre, findClass_of_methodNamed B.named, B.notSynchronized, hml, ?_, fun h => ?_, hbase, hK, hSt, hl, rfl⟩ s.heap _ hR hL [] va_S.rf
  · cases hc : c.exceptionTable.toList with
    | nil => rfl
    | cons a t => exact (ht a (by rw [hc]; exact List.mem_cons_self)).elim
  · rw [(name_of_methodNamed B.named B.method).1]; exact h
theorem z_bodyH {G : zG} {l : Launch} {y : MethodName} {cc : ByteArray} {nL : Nat} {ret : Option FieldType} {hh : List (Nat × Nat × Nat × Nat)} {rm : Room} {av : List Value} {w : zH} {ad : Nat → Nat} {PQ : Option Value → zH → (Nat → Nat) → Prop} {PX : String → zH → (Nat → Nat) → Prop} (hl : l.stackTraces = false) (hy : plainName y.cls = true) (hlen : (lg_sl av).length ≤ nL)
    (body : ∀ X, zOK G l y.cls cc nL ret (zwsH y cc nL ret hh) rm rm.cells rm.slots (tableOf hh) PQ PX (y.name = "<init>") X → zV G X nL 0 0 0 (lv_args 0 av) [] w ad) : zCt G l y (zwsH y cc nL ret hh) rm av w ad PQ PX := by
  refine vx_ofWH hy rfl ?_
  intro p e s m args below meth c s₁ B hml hv
  obtain ⟨rfl, hR, hbase, hK, hSt⟩ := hv
  have hL := lv_entry av (n := nL) hlen
  rw [lg_entry_eq]
  have hts := atoms_spec (ws := zwsH y cc nL ret hh) B.pre
  refine body _ ⟨p, e, s, m, _, below, meth, c, B.exec, B.bytes, B.returns, hts, findClass_of_methodNamed B.named, B.notSynchronized, hml, vx_table (x := y) B (hts _ List.mem_cons_self), fun h => ?_, hbase, hK, hSt, hl, rfl⟩ s.heap _ hR hL [] va_S.rf
  rw [(name_of_methodNamed B.named B.method).1]; exact h
section ZCALLS
variable {p : Program} {l : Launch} {e : Env} {R : Room} {s : State} {m : MethodId} {args : Array Value} {below : List Frame} {meth : Method} {c : Code} {H : Heap} {locs : List Loc} {kc ks : Nat} {Q : State → Prop} {G : zG}
theorem zRunX {mc' ms' pc : Nat} {ls : Array Slot} {rest st0 : List Value} {av : Array Value} {post : Option Value → zH → (Nat → Nat) → Prop} {px : String → zH → (Nat → Nat) → Prop}
    (hr : vx_Run p l e R s m args below meth c H locs kc ks mc' ms' (F0 m pc ls st0) rest (zQ G post av) (zX G px) (zA G)) (hS : va_S (zA G) s.heap H locs)
    (kk : ∀ (r : Option Value) (w' : zH) (ad' : Nat → Nat), post r w' ad' → ∀ (H1 : Heap) (locs1 : List Loc), zRep G w' ad' H1 → va_S (zA G) s.heap H1 locs1 → W p l e R s m args below meth c H1 locs1 (kc + mc') (ks + ms') Q (F0 m (pc + 3) ls (r.toList ++ rest)))
    (kx : ∀ (E : String) (w' : zH) (ad' : Nat → Nat), px E w' ad' → ∀ (H1 : Heap) (locs1 : List Loc) (q : Addr) (ce : Cell), zRep G w' ad' H1 → va_S (zA G) s.heap H1 locs1 → H1[q]? = some ce → ce.vm = .none → s.vm.findClass E = some ce.cls → vx_W p l e R s m args below meth c H1 locs1 (kc + mc') (ks + ms') Q (F0 m pc ls rest) q) :
    W p l e R s m args below meth c H locs kc ks Q (F0 m pc ls st0) := by
  intro T hT X
  rcases hr T hT X with ⟨v, st₀, t, T', L, h0, X', hL, e1, e2, ⟨⟨r, w', ad', hv, hp, hRp⟩, hF⟩, st⟩ | ⟨q, st₀, t, T', L, E, ce, h0, X', hL, e1, e2, ⟨⟨w', ad', hp, hRp⟩, hF⟩, hce, hcv, hcl, st⟩
  · cases hv
    obtain ⟨k1, k2, k3⟩ := vx_keep (free := zA G) h0 e1 hS (fun _ _ h => h) (fun _ h => h) hL hF
    obtain ⟨t2, a1, b1⟩ := kk _ w' ad' hp T'.heap (locs ++ L) (by rw [e1]; exact hRp) k3 T' rfl X'
    exact ⟨t2, st t2 a1, b1⟩
  · obtain ⟨k1, k2, k3⟩ := vx_keep (free := zA G) h0 e1 hS (fun _ _ h => h) (fun _ h => h) hL hF
    obtain ⟨t2, a1, b1⟩ := kx E w' ad' hp T'.heap (locs ++ L) q ce (by rw [e1]; exact hRp) k3 (by rw [e1]; exact hce) hcv hcl T' rfl X'
    exact ⟨t2, st.trans a1, b1⟩
theorem zRunM {mc' ms' pc : Nat} {ls : Array Slot} {rest st0 : List Value} {av : Array Value} {post : Option Value → zH → (Nat → Nat) → Prop}
    (hr : va_Run p l e R s m args below meth c H locs kc ks mc' ms' (F0 m pc ls st0) rest (zQ G post av) (zA G)) (hS : va_S (zA G) s.heap H locs)
    (kk : ∀ (r : Option Value) (w' : zH) (ad' : Nat → Nat), post r w' ad' → ∀ (H1 : Heap) (locs1 : List Loc), zRep G w' ad' H1 → va_S (zA G) s.heap H1 locs1 → W p l e R s m args below meth c H1 locs1 (kc + mc') (ks + ms') Q (F0 m (pc + 3) ls (r.toList ++ rest))) :
    W p l e R s m args below meth c H locs kc ks Q (F0 m pc ls st0) := by
  intro T hT X
  obtain ⟨v, st₀, t, T', L, h0, X', hL, e1, e2, ⟨⟨r, w', ad', hv, hp, hRp⟩, hF⟩, st⟩ := hr T hT X
  cases hv
  obtain ⟨k1, k2, k3⟩ := vx_keep (free := zA G) h0 e1 hS (fun _ _ h => h) (fun _ h => h) hL hF
  obtain ⟨t2, a1, b1⟩ := kk _ w' ad' hp T'.heap (locs ++ L) (by rw [e1]; exact hRp) k3 T' rfl X'
  exact ⟨t2, st t2 a1, b1⟩
theorem zWo_at {w : zH} {ad : Nat → Nat} (hR : zRep G w ad H) (hbase : G.2.2.1 ≤ s.heap.size) (hK : va_K G.1 vwCl (zTys G) s) (hSt : zSt G s s.heap) (hS : va_S (zA G) s.heap H locs) {U : State} (hU : U.heap = H) (hW : s.WarmedH U.vm) : zWo G w ad U := by
  refine ⟨by rw [hU]; exact hR, by rw [hU]; exact Nat.le_trans hbase hS.1, va_K.moved hW.alike hK, ?_⟩
  rw [hU]
  exact (zSt.kept hSt (fun a h1 h2 => hS.2.1 a h1 h2)).moved hW
end ZCALLS
section ZCALLROWS
variable {G : zG} {l : Launch} {own : String} {cc : ByteArray} {nL : Nat} {ret : Option FieldType} {ws : List Cond} {R : Room} {mc ms : Nat} {et : List ExceptionTableEntry} {PQ : Option Value → zH → (Nat → Nat) → Prop} {PX : String → zH → (Nat → Nat) → Prop} {ini : Prop} {X : zXT} {kc ks pc : Nat} {lsv : List (Nat × Value)} {rest st : List Value} {w : zH} {ad : Nat → Nat}
variable {y : MethodName} {bytes : ByteArray} {maxL : Nat} {ret' : Option FieldType} {rm : Room} {post : Option Value → zH → (Nat → Nat) → Prop} {px : String → zH → (Nat → Nat) → Prop} {As : List Value} {i idx : Nat}
theorem zpre4 {a b c d : Cond} (ha : a ∈ zAll) (hb : b ∈ zAll) (hc : c ∈ zAll) (hd : d ∈ zAll) : ∀ x ∈ ([a, b, c, d] : List Cond), x ∈ zAll := by
  intro x hx
  simp only [List.mem_cons, List.mem_nil_iff, or_false] at hx
  rcases hx with h | h | h | h <;> rw [h] <;> assumption
theorem zpre3 {a b c : Cond} (ha : a ∈ zAll) (hb : b ∈ zAll) (hc : c ∈ zAll) : ∀ x ∈ ([a, b, c] : List Cond), x ∈ zAll := by
  intro x hx
  simp only [List.mem_cons, List.mem_nil_iff, or_false] at hx
  rcases hx with h | h | h <;> rw [h] <;> assumption
/-- a method of an object is called; what it throws goes on to the caller -/
theorem z_callV (O : zOK G l own cc nL ret ws R mc ms [] PQ PX ini X) (hC : zCt G l y (zws y bytes maxL ret') rm (.ref (ad i) :: As) w ad post px) {C : String} {T : u_T} {N ci : Nat} {fs : List Value} (hws : ∀ x ∈ zAll, x ∈ ws) (hm1 : Cond.methodLink own idx y ∈ zAll) (hm2 : Cond.instanceMethod y ∈ zAll) (hm3 : Cond.selects C y y ∈ zAll) (hm4 : Cond.initialized C ∈ zAll) (hm5 : Cond.code y bytes maxL ret' ∈ zAll)
    (hd : y.cls = C ∧ y.cls ≠ "java/lang/invoke/MethodHandle" ∧ y.cls ≠ "java/lang/invoke/VarHandle" ∧ (parseMethodDescriptor y.desc).map (fun d => d.parameters.length) = some As.length) (hc : vwCl[ci]? = some (C, T, N)) (hw : w i = some (.inr (ci, fs))) (hR : rm.frames + 1 ≤ R.frames ∧ 8 + (maxL + 11) + rm.locals ≤ R.locals) (hf : kc + rm.cells ≤ R.cells ∧ ks + rm.slots ≤ R.slots)
    (hdg : decode cc pc = .ok (.invokevirtual idx, 3)) (hst : st = As.reverse ++ .ref (ad i) :: rest) (hcat : (rest.map fun v => v.category).sum ≤ 8) (hpx : ∀ E w' ad', px E w' ad' → PX E w' ad' ∧ kc + rm.cells ≤ mc ∧ ks + rm.slots ≤ ms)
    (kk : ∀ (r : Option Value) (w' : zH) (ad' : Nat → Nat), post r w' ad' → zV G X nL (kc + rm.cells) (ks + rm.slots) (pc + 3) lsv (r.toList ++ rest) w' ad') : zV G X nL kc ks pc lsv st w ad := by
  obtain ⟨p, e, s, m, args, below, meth, c, hx0, hb, hr, hts, hown, hlocks, hml, het, hini, hbase, hK, hSt, hfl, rfl⟩ := O
  intro H lsA hRp hL locs hS
  subst hst
  refine zRunX (vx_runV (As := As) (rest := rest) ⟨hx0, hb, hml, hown, hts⟩ hC (cwV As.length hts (zws_in (own := own) (zpre4 hm1 hm2 hm3 hm4) hm5 hws) rfl rfl rfl hd hR) ⟨zBlind, ?_, fun U hU hW => ⟨rfl, zWo_at hRp hbase hK hSt hS hU hW⟩⟩ rfl rfl hL.1 rfl (lv_room hcat) hdg hf) hS ?_ ?_
  · obtain ⟨q', h1, cell, g1, g2, g3, -⟩ := (hRp.1 i _ hw).2
    exact ⟨cell, g1, by rw [g3]; rfl, by rw [g2]; exact (hK.1 ci _ hc).2.1⟩
  · exact fun r w' ad' hp H1 locs1 hR1 hS1 => kk r w' ad' hp H1 lsA hR1 hL locs1 hS1
  · intro E w' ad' hp H1 locs1 q ce hR1 hS1 hce hcv hcl
    obtain ⟨a1, a2, a3⟩ := hpx E w' ad' hp
    exact vx_out (by rw [het]; exact fun x hx => by cases hx) hlocks hce hcv hcl (fun t ht _ => ⟨⟨w', ad', a1, by rw [ht]; exact hR1⟩, by rw [show va_F (zA G) s t ↔ va_F (zA G) s t from Iff.rfl]; exact hS1.F ht⟩) hS1.2.2 a2 a3
/-- a static method is called -/
theorem z_callS (O : zOK G l own cc nL ret ws R mc ms [] PQ PX ini X) (hC : zCt G l y (zws y bytes maxL ret') rm As w ad post px) (hws : ∀ x ∈ zAll, x ∈ ws) (hm1 : Cond.methodLink own idx y ∈ zAll) (hm2 : Cond.static y ∈ zAll) (hm4 : Cond.initialized y.cls ∈ zAll) (hm5 : Cond.code y bytes maxL ret' ∈ zAll)
    (hd : y.cls ≠ "java/lang/invoke/MethodHandle" ∧ y.cls ≠ "java/lang/invoke/VarHandle" ∧ (parseMethodDescriptor y.desc).map (fun d => d.parameters.length) = some As.length) (hR : rm.frames + 1 ≤ R.frames ∧ 8 + (maxL + 11) + rm.locals ≤ R.locals) (hf : kc + rm.cells ≤ R.cells ∧ ks + rm.slots ≤ R.slots)
    (hdg : decode cc pc = .ok (.invokestatic idx, 3)) (hst : st = As.reverse ++ rest) (hcat : (rest.map fun v => v.category).sum ≤ 8) (hpx : ∀ E w' ad', px E w' ad' → PX E w' ad' ∧ kc + rm.cells ≤ mc ∧ ks + rm.slots ≤ ms)
    (kk : ∀ (r : Option Value) (w' : zH) (ad' : Nat → Nat), post r w' ad' → zV G X nL (kc + rm.cells) (ks + rm.slots) (pc + 3) lsv (r.toList ++ rest) w' ad') : zV G X nL kc ks pc lsv st w ad := by
  obtain ⟨p, e, s, m, args, below, meth, c, hx0, hb, hr, hts, hown, hlocks, hml, het, hini, hbase, hK, hSt, hfl, rfl⟩ := O
  intro H lsA hRp hL locs hS
  subst hst
  refine zRunX (vx_runS (As := As) (rest := rest) ⟨hx0, hb, hml, hown, hts⟩ hC (va_cwS As.length hts (zws_in (own := own) (zpre3 hm1 hm2 hm4) hm5 hws) rfl rfl rfl hd hR) ⟨zBlind, fun U hU hW => ⟨rfl, zWo_at hRp hbase hK hSt hS hU hW⟩⟩ rfl rfl hL.1 rfl (lv_room hcat) hdg hf) hS ?_ ?_
  · exact fun r w' ad' hp H1 locs1 hR1 hS1 => kk r w' ad' hp H1 lsA hR1 hL locs1 hS1
  · intro E w' ad' hp H1 locs1 q ce hR1 hS1 hce hcv hcl
    obtain ⟨a1, a2, a3⟩ := hpx E w' ad' hp
    exact vx_out (by rw [het]; exact fun x hx => by cases hx) hlocks hce hcv hcl (fun t ht _ => ⟨⟨w', ad', a1, by rw [ht]; exact hR1⟩, hS1.F ht⟩) hS1.2.2 a2 a3
/-- a constructor is called, which throws nothing -/
theorem z_callI (O : zOK G l own cc nL ret ws R mc ms et PQ PX ini X) (hC : zCt G l y (zws y bytes maxL none) rm (.ref (ad i) :: As) w ad post zNoX) (hws : ∀ x ∈ zAll, x ∈ ws) (hm1 : Cond.methodLink own idx y ∈ zAll) (hm2 : Cond.instanceMethod y ∈ zAll) (hm4 : Cond.initialized y.cls ∈ zAll) (hm5 : Cond.code y bytes maxL none ∈ zAll) (hy1 : y.name = "<init>")
    (hd : y.cls ≠ "java/lang/invoke/MethodHandle" ∧ y.cls ≠ "java/lang/invoke/VarHandle" ∧ (parseMethodDescriptor y.desc).map (fun d => d.parameters.length) = some As.length) (hR : rm.frames + 1 ≤ R.frames ∧ 8 + (maxL + 11) + rm.locals ≤ R.locals) (hf : kc + rm.cells ≤ R.cells ∧ ks + rm.slots ≤ R.slots)
    (hdg : decode cc pc = .ok (.invokespecial idx, 3)) (hst : st = As.reverse ++ .ref (ad i) :: rest) (hcat : (rest.map fun v => v.category).sum ≤ 8)
    (kk : ∀ (r : Option Value) (w' : zH) (ad' : Nat → Nat), post r w' ad' → zV G X nL (kc + rm.cells) (ks + rm.slots) (pc + 3) lsv (r.toList ++ rest) w' ad') : zV G X nL kc ks pc lsv st w ad := by
  obtain ⟨p, e, s, m, args, below, meth, c, hx0, hb, hr, hts, hown, hlocks, hml, het, hini, hbase, hK, hSt, hfl, rfl⟩ := O
  intro H lsA hRp hL locs hS
  subst hst
  refine zRunM (va_runI (As := As) (rest := rest) ⟨hx0, hb, hml, hown, hts⟩ (hC.met (fun _ _ _ h => h)) (cwI As.length hts (zws_in (own := own) (pre := []) (fun _ h => nomatch h) hm5 hws) rfl rfl rfl (hts _ (hws _ hm4)) (hts _ (hws _ hm1)) (hts _ (hws _ hm2)) hy1 hd hR) ⟨zBlind, fun U hU hW => ⟨rfl, zWo_at hRp hbase hK hSt hS hU hW⟩⟩ rfl rfl hL.1 rfl (lv_room hcat) hdg hf) hS ?_
  exact fun r w' ad' hp H1 locs1 hR1 hS1 => kk r w' ad' hp H1 lsA hR1 hL locs1 hS1
/-- Object's constructor -/
theorem z_objInit (O : zOK G l own cc nL ret ws R mc ms et PQ PX ini X) {q : Nat} (hws : ∀ x ∈ zAll, x ∈ ws) (hm1 : Cond.methodLink own idx Lib.objectInit ∈ zAll) (hm2 : Cond.instanceMethod Lib.objectInit ∈ zAll) (hm3 : Cond.code Lib.objectInit ⟨#[0xb1]⟩ 1 none ∈ zAll) (hdg : decode cc pc = .ok (.invokespecial idx, 3)) (hf : 1 ≤ R.frames) (hlo : (rest.map fun v => v.category).sum + 12 ≤ R.locals)
    (kk : zV G X nL kc ks (pc + 3) lsv rest w ad) : zV G X nL kc ks pc lsv (.ref q :: rest) w ad := by
  obtain ⟨p, e, s, m, args, below, meth, c, hx0, hb, hr, hts, hown, hlocks, hml, het, hini, hbase, hK, hSt, hfl, rfl⟩ := O
  intro H lsA hRp hL locs hS
  refine W.objInit hx0 hb hown (hts _ (hws _ hm1)) (hts _ (hws _ hm2)) (hts _ (hws _ hm3)) rfl (hL.1.trans hml.symm) rfl hdg hf ?_ (kk H lsA hRp hL locs hS)
  show 2 * 0 + _ + 12 ≤ _
  omega
end ZCALLROWS
