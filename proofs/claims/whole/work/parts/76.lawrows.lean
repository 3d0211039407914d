/-! ===== rows for the law's own body ===== -/
theorem zIA : ∀ x ∈ zAll, x ∈ zAll := fun _ h => h
section ZLAWROWS
variable {G : zG} {l : Launch} {own : String} {cc : ByteArray} {nL : Nat} {ret : Option FieldType} {ws : List Cond} {R : Room} {mc ms : Nat} {et : List ExceptionTableEntry} {PQ : Option Value → zH → (Nat → Nat) → Prop} {PX : String → zH → (Nat → Nat) → Prop} {ini : Prop} {X : zXT} {kc ks kc' ks' pc : Nat} {lsv : List (Nat × Value)} {rest st : List Value} {w : zH} {ad : Nat → Nat}
variable {y : MethodName} {bytes : ByteArray} {maxL : Nat} {ret' : Option FieldType} {rm : Room} {post : Option Value → zH → (Nat → Nat) → Prop} {As : List Value} {i idx : Nat} {hh : List (Nat × Nat × Nat × Nat)}
/-- room is rounded up -/
theorem z_widen (O : zOK G l own cc nL ret ws R mc ms et PQ PX ini X) (h1 : kc ≤ kc') (h2 : ks ≤ ks') (k : zV G X nL kc' ks' pc lsv st w ad) : zV G X nL kc ks pc lsv st w ad := by
  obtain ⟨p, e, s, m, args, below, meth, c, hx, hb, -, -, -, -, -, -, -, -, -, -, -, rfl⟩ := O
  intro H lsA hR hL locs hS
  exact W.widen h1 h2 (k H lsA hR hL locs hS)
/-- a static method with handlers of its own is called, which throws nothing -/
theorem z_callSH (O : zOK G l own cc nL ret ws R mc ms et PQ PX ini X) (hC : zCt G l y (zwsH y bytes maxL ret' hh) rm As w ad post zNoX) (hws : ∀ x ∈ zAll, x ∈ ws) (hm1 : Cond.methodLink own idx y ∈ zAll) (hm2 : Cond.static y ∈ zAll) (hm4 : Cond.initialized y.cls ∈ zAll) (hm5 : Cond.codeWith y bytes maxL ret' hh ∈ zAll)
    (hd : y.cls ≠ "java/lang/invoke/MethodHandle" ∧ y.cls ≠ "java/lang/invoke/VarHandle" ∧ (parseMethodDescriptor y.desc).map (fun d => d.parameters.length) = some As.length) (hR : rm.frames + 1 ≤ R.frames ∧ 8 + (maxL + 11) + rm.locals ≤ R.locals) (hf : kc + rm.cells ≤ kc' ∧ ks + rm.slots ≤ ks') (hf2 : kc' ≤ R.cells ∧ ks' ≤ R.slots)
    (hdg : decode cc pc = .ok (.invokestatic idx, 3)) (hst : st = As.reverse ++ rest) (hcat : (rest.map fun v => v.category).sum ≤ 8)
    (kk : ∀ (r : Option Value) (w' : zH) (ad' : Nat → Nat), post r w' ad' → zV G X nL kc' ks' (pc + 3) lsv (r.toList ++ rest) w' ad') : zV G X nL kc ks pc lsv st w ad := by
  have kk2 : ∀ (r : Option Value) (w' : zH) (ad' : Nat → Nat), post r w' ad' → zV G X nL (kc + rm.cells) (ks + rm.slots) (pc + 3) lsv (r.toList ++ rest) w' ad' := fun r w' ad' hp => z_widen O hf.1 hf.2 (kk r w' ad' hp)
  obtain ⟨p, e, s, m, args, below, meth, c, hx0, hb, hr, hts, hown, hlocks, hml, het, hini, hbase, hK, hSt, hfl, rfl⟩ := O
  intro H lsA hRp hL locs hS
  subst hst
  refine zRunX (vx_runSX (As := As) (rest := rest) ⟨hx0, hb, hml, hown, hts⟩ hC (vx_cwSW As.length hts (zwsH_in (zpre3 hm1 hm2 hm4) hm5 hws) rfl rfl rfl hd hR) ⟨zBlind, fun U hU hW => ⟨rfl, zWo_at hRp hbase hK hSt hS hU hW⟩⟩ rfl rfl hL.1 rfl (lv_room hcat) hdg ⟨Nat.le_trans hf.1 hf2.1, Nat.le_trans hf.2 hf2.2⟩) hS ?_ ?_
  · exact fun r w' ad' hp H1 locs1 hR1 hS1 => kk2 r w' ad' hp H1 lsA hR1 hL locs1 hS1
  · exact fun E w' ad' hp => hp.elim
/-- a method of an object is called, which throws nothing and makes nothing -/
theorem z_callV0 (O : zOK G l own cc nL ret ws R mc ms et PQ PX ini X) (hC : zCt G l y (zws y bytes maxL ret') rm (.ref (ad i) :: As) w ad post zNoX) {C : String} {T : u_T} {N ci : Nat} {fs : List Value} (hws : ∀ x ∈ zAll, x ∈ ws) (hm1 : Cond.methodLink own idx y ∈ zAll) (hm2 : Cond.instanceMethod y ∈ zAll) (hm3 : Cond.selects C y y ∈ zAll) (hm4 : Cond.initialized C ∈ zAll) (hm5 : Cond.code y bytes maxL ret' ∈ zAll)
    (hd : y.cls = C ∧ y.cls ≠ "java/lang/invoke/MethodHandle" ∧ y.cls ≠ "java/lang/invoke/VarHandle" ∧ (parseMethodDescriptor y.desc).map (fun d => d.parameters.length) = some As.length) (hc : vwCl[ci]? = some (C, T, N)) (hw : w i = some (.inr (ci, fs))) (hR : rm.frames + 1 ≤ R.frames ∧ 8 + (maxL + 11) + rm.locals ≤ R.locals) (h0 : rm.cells = 0 ∧ rm.slots = 0) (hf2 : kc ≤ R.cells ∧ ks ≤ R.slots)
    (hdg : decode cc pc = .ok (.invokevirtual idx, 3)) (hst : st = As.reverse ++ .ref (ad i) :: rest) (hcat : (rest.map fun v => v.category).sum ≤ 8)
    (kk : ∀ (r : Option Value) (w' : zH) (ad' : Nat → Nat), post r w' ad' → zV G X nL kc ks (pc + 3) lsv (r.toList ++ rest) w' ad') : zV G X nL kc ks pc lsv st w ad := by
  have kk2 : ∀ (r : Option Value) (w' : zH) (ad' : Nat → Nat), post r w' ad' → zV G X nL (kc + rm.cells) (ks + rm.slots) (pc + 3) lsv (r.toList ++ rest) w' ad' := fun r w' ad' hp => by rw [h0.1, h0.2]; exact kk r w' ad' hp
  obtain ⟨p, e, s, m, args, below, meth, c, hx0, hb, hr, hts, hown, hlocks, hml, het, hini, hbase, hK, hSt, hfl, rfl⟩ := O
  intro H lsA hRp hL locs hS
  subst hst
  refine zRunX (vx_runV (As := As) (rest := rest) ⟨hx0, hb, hml, hown, hts⟩ hC (cwV As.length hts (zws_in (own := own) (zpre4 hm1 hm2 hm3 hm4) hm5 hws) rfl rfl rfl hd hR) ⟨zBlind, ?_, fun U hU hW => ⟨rfl, zWo_at hRp hbase hK hSt hS hU hW⟩⟩ rfl rfl hL.1 rfl (lv_room hcat) hdg ⟨by rw [h0.1]; exact hf2.1, by rw [h0.2]; exact hf2.2⟩) hS ?_ ?_
  · obtain ⟨q', h1, cell, g1, g2, g3, -⟩ := (hRp.1 i _ hw).2
    exact ⟨cell, g1, by rw [g3]; rfl, by rw [g2]; exact (hK.1 ci _ hc).2.1⟩
  · exact fun r w' ad' hp H1 locs1 hR1 hS1 => kk2 r w' ad' hp H1 lsA hR1 hL locs1 hS1
  · exact fun E w' ad' hp => hp.elim
end ZLAWROWS
/-- the law's end: 1 -/
abbrev pqL : Option Value → zH → (Nat → Nat) → Prop := fun r _ _ => r = some (.int 1)
abbrev zLaw (G : zG) (l : Launch) (et : List ExceptionTableEntry) (ini : Prop) (X : zXT) : Prop := zOK G l RL cL_law 9 (some .boolean) zAll room_1 603072 7219306 et pqL zNoX ini X
/-- the law's script: L ints xs at b -/
def zSld (G : zG) (X : zXT) (b L : Nat) (xs : Nat → Int32) : Prop := ∀ (kc ks pc : Nat) (lsv : List (Nat × Value)) (rest : List Value) (w : zH) (ad : Nat → Nat) (j : Nat), decode cL_law pc = .ok (.iaload, 1) → j < L → zV G X 9 kc ks (pc + 1) lsv (.int (xs j) :: rest) w ad → zV G X 9 kc ks pc lsv (.int (nI j) :: .ref b :: rest) w ad
def zSln (G : zG) (X : zXT) (b L : Nat) : Prop := ∀ (kc ks pc : Nat) (lsv : List (Nat × Value)) (rest : List Value) (w : zH) (ad : Nat → Nat), decode cL_law pc = .ok (.arraylength, 1) → zV G X 9 kc ks (pc + 1) lsv (.int (nI L) :: rest) w ad → zV G X 9 kc ks pc lsv (.ref b :: rest) w ad
/-- the law's locals in its loop -/
abbrev zB (b i : Nat) (ad : Nat → Nat) : List (Nat × Value) := [(0, .ref b), (1, .ref (ad 0)), (2, .ref (ad 300)), (3, .ref (ad 340)), (4, .ref (ad 341)), (5, .int (nI i))]
section ZLAW
variable {G : zG} {l : Launch} {et : List ExceptionTableEntry} {ini : Prop} {X : zXT} {kc ks pc : Nat} {lsv : List (Nat × Value)} {rest : List Value} {w : zH} {ad : Nat → Nat} {b L i : Nat} {xs : Nat → Int32}
theorem nI_ofInt : ∀ j : Nat, j < 6 → Int32.ofInt (j : Int) = nI j := by decide +kernel
/-- script[i + j] is pushed -/
theorem z_arg (O : zLaw G l et ini X) (S : zSld G X b L xs) (j : Nat) (d0 : decode cL_law pc = .ok (.aload_n 0, 1)) (d1 : decode cL_law (pc + 1) = .ok (.iload 5, 2)) (d3 : decode cL_law (pc + 3) = .ok (.iconst (j : Int), 1)) (d4 : decode cL_law (pc + 4) = .ok (.iadd, 1)) (d5 : decode cL_law (pc + 5) = .ok (.iaload, 1)) (h0 : zL lsv 0 = some (.ref b)) (h5 : zL lsv 5 = some (.int (nI i))) (hj6 : j < 6) (hj : i + j < L)
    (k : zV G X 9 kc ks (pc + 6) lsv (.int (xs (i + j)) :: rest) w ad) : zV G X 9 kc ks pc lsv rest w ad := by
  refine z_aload_n O d0 h0 ?_
  refine z_iload O d1 h5 ?_
  refine z_iconst O d3 (v := nI j) (nI_ofInt j hj6) ?_
  refine z_iadd O d4 ?_
  rw [nI_add]
  exact S _ _ _ _ _ _ _ (i + j) d5 hj k
/-- behind an int answer of the class (v1 in out) and of the reference (v on the stack) -/
theorem z_tail (O : zLaw G l et ini X) (hl : l.stackTraces = false) {Z : zM} {sb : Nat → Option Nat} {mcn : Nat → Int32} {cp : Nat → Nat} {Y : zM} {th : Int32} {o : Nat → Int64} {od : Nat → UInt64} {kv v : Int32} {off : Int} (hkc : kc ≤ 603072) (hks : ks ≤ 7219306) (hth : th = kv) (hv : kv = 0 → o 0 = v.toInt64)
    (d0 : decode cL_law pc = .ok (.istore 7, 2)) (d2 : decode cL_law (pc + 2) = .ok (.aload_n 2, 1)) (d3 : decode cL_law (pc + 3) = .ok (.invokevirtual 114, 3)) (d6 : decode cL_law (pc + 6) = .ok (.iload 6, 2)) (d8 : decode cL_law (pc + 8) = .ok (.if_icmp .eq 5, 3)) (d13 : decode cL_law (pc + 13) = .ok (.iload 6, 2)) (d15 : decode cL_law (pc + 15) = .ok (.ifCond .ne 15, 3)) (d18 : decode cL_law (pc + 18) = .ok (.aload_n 3, 1)) (d19 : decode cL_law (pc + 19) = .ok (.iconst 0, 1)) (d20 : decode cL_law (pc + 20) = .ok (.laload, 1)) (d21 : decode cL_law (pc + 21) = .ok (.iload 7, 2)) (d23 : decode cL_law (pc + 23) = .ok (.i2l, 1)) (d24 : decode cL_law (pc + 24) = .ok (.lcmp, 1)) (d25 : decode cL_law (pc + 25) = .ok (.ifCond .eq 5, 3)) (d30 : decode cL_law (pc + 30) = .ok (.goto off, 3)) (ht : ((pc + 30 : Nat) : Int) + off = 1924)
    (k : zV G X 9 kc ks 1924 (zB b i ad) [] (zent Z sb mcn cp G.2.2.2.1 Y th o od ad) ad) : zV G X 9 kc ks pc ((6, .int kv) :: zB b i ad) [.int v] (zent Z sb mcn cp G.2.2.2.1 Y th o od ad) ad := by
  refine z_istore O d0 (by decide) ?_
  refine z_aload_n O d2 rfl ?_
  refine z_callV0 O (c_X8_thrown hl) zIA zm11_30 zm11_31 zm11_32 zm7_16 zm7_55 ⟨rfl, by decide +kernel, by decide +kernel, (show _ = some 0 by decide +kernel)⟩ rfl zg_model ⟨Nat.le_of_ble_eq_true rfl, Nat.le_of_ble_eq_true rfl⟩ ⟨rfl, rfl⟩ ⟨hkc, hks⟩ d3 rfl (Nat.le_of_ble_eq_true rfl) (fun r w1 ad1 hp => ?_)
  obtain ⟨rfl, rfl, rfl⟩ := hp
  refine z_iload O d6 rfl ?_
  refine z_icmp_eq O d8 (tgt := pc + 13) (by omega) (fun _ => ?_) (fun q => absurd hth q)
  refine z_iload O d13 rfl ?_
  have hgo : zV G X 9 kc ks (pc + 30) ((7, .int v) :: (6, .int kv) :: zB b i ad) [] (zent Z sb mcn cp G.2.2.2.1 Y th o od ad) ad := by
    refine z_goto O d30 (tgt := 1924) ht ?_
    exact zV.loc k ⟨rfl, rfl, rfl, rfl, rfl, rfl, trivial⟩
  refine z_if_ne O d15 (tgt := pc + 30) (by omega) (fun _ => ?_) (fun h0 => ?_)
  · exact zV.loc hgo ⟨rfl, rfl, rfl, rfl, rfl, rfl, rfl, rfl, trivial⟩
  · refine z_aload_n O d18 rfl ?_
    refine z_iconst O d19 (v := 0) (by decide) ?_
    refine z_lald O d20 zg_out 0 rfl (by decide) (by decide) ?_
    refine z_iload O d21 rfl ?_
    refine z_i2l O d23 rfl ?_
    refine z_lcmp O d24 ?_
    refine z_if_eq O d25 (tgt := pc + 30) (by omega) (fun _ => ?_) (fun q => absurd ((lg_cmp_eq _ _).mpr (hv h0)) q)
    exact zV.loc hgo ⟨rfl, rfl, rfl, rfl, rfl, rfl, rfl, rfl, trivial⟩
end ZLAW
