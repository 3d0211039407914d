theorem zI {c : Cond} : ∀ x ∈ zAll, x ∈ c :: zAll := fun _ h => List.mem_cons_of_mem _ h
section ZMORE
variable {G : zG} {l : Launch} {own : String} {cc : ByteArray} {nL : Nat} {ret : Option FieldType} {ws : List Cond} {R : Room} {mc ms : Nat} {et : List ExceptionTableEntry} {PQ : Option Value → zH → (Nat → Nat) → Prop} {PX : String → zH → (Nat → Nat) → Prop} {ini : Prop} {X : zXT} {kc ks pc : Nat} {lsv : List (Nat × Value)} {rest : List Value} {w : zH} {ad : Nat → Nat}
theorem z_mmax (O : zOK G l own cc nL ret ws R mc ms et PQ PX ini X) {index : Nat} (hws : ∀ x ∈ zAll, x ∈ ws) (h1 : Cond.methodLink own index Lib.Math.max.name ∈ zAll) (h2 : Cond.static Lib.Math.max.name ∈ zAll) (h3 : Cond.initialized "java/lang/Math" ∈ zAll) (h4 : Cond.code Lib.Math.max.name Lib.Math.max.code 2 (some .int) ∈ zAll) (hdg : decode cc pc = .ok (.invokestatic index, 3)) (hf : 1 ≤ R.frames) (hlo : (rest.map fun v => v.category).sum + 13 ≤ R.locals) (hc : kc ≤ R.cells) (hs : ks ≤ R.slots) {x y : Int32}
    (kk : zV G X nL kc ks (pc + 3) lsv (.int (if x < y then y else x) :: rest) w ad) : zV G X nL kc ks pc lsv (.int y :: .int x :: rest) w ad := by
  obtain ⟨p, e, s, m, args, below, meth, c, hx0, hb, hr, hts, hown, hlocks, hml, het, hini, hbase, hK, hSt, hfl, rfl⟩ := O
  intro H lsA hR hL locs hS
  exact va_mmax hx0 hb (hml.trans hL.1.symm) hown (hts _ (hws _ h1)) (hts _ (hws _ h2)) (hts _ (hws _ h3)) (hts _ (hws _ h4)) hf hlo hc hs hdg (kk H lsA hR hL locs hS)
theorem z_mmin (O : zOK G l own cc nL ret ws R mc ms et PQ PX ini X) {index : Nat} (hws : ∀ x ∈ zAll, x ∈ ws) (h1 : Cond.methodLink own index Lib.Math.min.name ∈ zAll) (h2 : Cond.static Lib.Math.min.name ∈ zAll) (h3 : Cond.initialized "java/lang/Math" ∈ zAll) (h4 : Cond.code Lib.Math.min.name Lib.Math.min.code 2 (some .int) ∈ zAll) (hdg : decode cc pc = .ok (.invokestatic index, 3)) (hf : 1 ≤ R.frames) (hlo : (rest.map fun v => v.category).sum + 13 ≤ R.locals) (hc : kc ≤ R.cells) (hs : ks ≤ R.slots) {x y : Int32}
    (kk : zV G X nL kc ks (pc + 3) lsv (.int (if y < x then y else x) :: rest) w ad) : zV G X nL kc ks pc lsv (.int y :: .int x :: rest) w ad := by
  obtain ⟨p, e, s, m, args, below, meth, c, hx0, hb, hr, hts, hown, hlocks, hml, het, hini, hbase, hK, hSt, hfl, rfl⟩ := O
  intro H lsA hR hL locs hS
  exact va_mmin hx0 hb (hml.trans hL.1.symm) hown (hts _ (hws _ h1)) (hts _ (hws _ h2)) (hts _ (hws _ h3)) (hts _ (hws _ h4)) hf hlo hc hs hdg (kk H lsA hR hL locs hS)
/-- a cell of a class is cast to it -/
theorem z_cast0 (O : zOK G l own cc nL ret ws R mc ms et PQ PX ini X) {C : String} {T : u_T} {N ci i index : Nat} {fs : List Value} (hc : vwCl[ci]? = some (C, T, N)) (hcl : Cond.classLink own index C ∈ ws) (hw : w i = some (.inr (ci, fs))) (hdg : decode cc pc = .ok (.checkcast index, 3))
    (kk : zV G X nL kc ks (pc + 3) lsv (.ref (ad i) :: rest) w ad) : zV G X nL kc ks pc lsv (.ref (ad i) :: rest) w ad := by
  obtain ⟨p, e, s, m, args, below, meth, c, hx0, hb, hr, hts, hown, hlocks, hml, het, hini, hbase, hK, hSt, hfl, rfl⟩ := O
  intro H lsA hR hL locs hS
  obtain ⟨q', h1, cell, g1, g2, g3, -⟩ := (hR.1 i _ hw).2
  exact va_castS hx0 hb hown (hts _ hcl) (hK.1 ci _ hc).2 ⟨cell, g1, by rw [g3]; rfl, by rw [g2]; exact (hK.1 ci _ hc).2.1⟩ hdg (kk H lsA hR hL locs hS)
/-- 'throw new E("text")' out of a method without handlers -/
theorem z_throw (O : zOK G l RX7 cc nL ret ws R mc ms [] PQ PX ini X) {E text : String} {ik is ic : Nat} (hws : ∀ x ∈ zAll, x ∈ ws) (hE : E ∈ zExs) (hT : (is, text) ∈ zStr) (hk : Cond.classLink RX7 ik E ∈ zAll) (hi : Cond.initialized E ∈ zAll)
    (hat : ∀ x ∈ (vx_atS RX7 ic E ["java/lang/RuntimeException", "java/lang/Exception"]).filter goodWord, x ∈ zAll) (hbad : ∀ x ∈ (vx_atS RX7 ic E ["java/lang/RuntimeException", "java/lang/Exception"]).filter (fun x => !goodWord x), x ∈ Cond.castable E E :: zDec.map (fun Y => Cond.declares (Bundle.initS Y)))
    (hgood : ∀ x ∈ Cond.classLink RX7 ik E :: Cond.initialized E :: vx_atS RX7 ic E ["java/lang/RuntimeException", "java/lang/Exception"], vx_ot x = true) (hfit : Bundle.fit E = true)
    (d0 : decode cc pc = .ok (.new ik, 3)) (d3 : decode cc (pc + 3) = .ok (.dup, 1)) (d4 : decode cc (pc + 4) = .ok (.ldc is, 2)) (d6 : decode cc (pc + 6) = .ok (.invokespecial ic, 3)) (d9 : decode cc (pc + 9) = .ok (.athrow, 1))
    (hRf : 5 < R.frames) (hRl : (rest.map fun v => v.category).sum + 82 ≤ R.locals) (hRc : kc + 1 ≤ R.cells) (hRs : ks + 6 ≤ R.slots) (hc : kc + 1 ≤ mc) (hs : ks + 6 ≤ ms) (hx : PX E w ad) : zV G X nL kc ks pc lsv rest w ad := by
  obtain ⟨p, e, s, m, args, below, meth, c, hx0, hb, hr, hts, hown, hlocks, hml, het, hini, hbase, hK, hSt, hfl, rfl⟩ := O
  intro H lsA hR hL locs hS
  obtain ⟨sa, hsa⟩ := hSt.2.1 _ hT
  refine vx_throwS (sa := sa) (names := ["java/lang/RuntimeException", "java/lang/Exception"]) hx0 hb hfl hown hfit (by decide +kernel) (hts _ (hws _ hk)) (hts _ (hws _ hi)) hsa ?_ hgood hSt.1.1 hSt.1.2.1 hS (hL.1.trans hml.symm) d0 d3 d4 d6 d9 (by rw [het]; exact fun x hx => by cases hx) (by show 2 + 3 < _; omega) (by show _ + (13 * (2 + 1) + 43) ≤ _; omega) hRc hRs hlocks ?_ hS.2.2 hc hs
  · refine vx_hat (fun x h => hts _ (hws _ (hat x h))) hbad ?_
    refine vx_c (va_Nw.use rfl (hSt.2.2.1 E hE)) (fun x hx9 => ?_)
    obtain ⟨Y, hY, rfl⟩ := List.mem_map.mp hx9
    exact va_Nw.use rfl (hSt.2.2.2.2.2.2.2.2.2.1 Y hY)
  · intro t _ h1 h2
    exact ⟨⟨w, ad, hx, hR.kept h2⟩, Nat.le_trans hS.1 h1, fun q g1 g2 => (h2 q (Nat.lt_of_lt_of_le g1 hS.1)).trans (hS.2.1 q g1 g2)⟩
theorem z_throwW (O : zOK G l RX7 cc nL ret ws R mc ms [] PQ PX ini X) {E text : String} {ik is ic : Nat} (hws : ∀ x ∈ zAll, x ∈ ws) (hE : E ∈ zExs) (hT : (is, text) ∈ zStr) (hk : Cond.classLink RX7 ik E ∈ zAll) (hi : Cond.initialized E ∈ zAll)
    (hat : ∀ x ∈ (vx_atS RX7 ic E ["java/lang/RuntimeException", "java/lang/Exception"]).filter goodWord, x ∈ zAll) (hbad : ∀ x ∈ (vx_atS RX7 ic E ["java/lang/RuntimeException", "java/lang/Exception"]).filter (fun x => !goodWord x), x ∈ Cond.castable E E :: zDec.map (fun Y => Cond.declares (Bundle.initS Y)))
    (hgood : ∀ x ∈ Cond.classLink RX7 ik E :: Cond.initialized E :: vx_atS RX7 ic E ["java/lang/RuntimeException", "java/lang/Exception"], vx_ot x = true) (hfit : Bundle.fit E = true)
    (d0 : decode cc pc = .ok (.new ik, 3)) (d3 : decode cc (pc + 3) = .ok (.dup, 1)) (d4 : decode cc (pc + 4) = .ok (.ldc_w is, 3)) (d7 : decode cc (pc + 7) = .ok (.invokespecial ic, 3)) (d10 : decode cc (pc + 10) = .ok (.athrow, 1))
    (hRf : 5 < R.frames) (hRl : (rest.map fun v => v.category).sum + 82 ≤ R.locals) (hRc : kc + 1 ≤ R.cells) (hRs : ks + 6 ≤ R.slots) (hc : kc + 1 ≤ mc) (hs : ks + 6 ≤ ms) (hx : PX E w ad) : zV G X nL kc ks pc lsv rest w ad := by
  obtain ⟨p, e, s, m, args, below, meth, c, hx0, hb, hr, hts, hown, hlocks, hml, het, hini, hbase, hK, hSt, hfl, rfl⟩ := O
  intro H lsA hR hL locs hS
  obtain ⟨sa, hsa⟩ := hSt.2.1 _ hT
  refine vx_throwSW (sa := sa) (names := ["java/lang/RuntimeException", "java/lang/Exception"]) hx0 hb hfl hown hfit (by decide +kernel) (hts _ (hws _ hk)) (hts _ (hws _ hi)) hsa ?_ hgood hSt.1.1 hSt.1.2.1 hS (hL.1.trans hml.symm) d0 d3 d4 d7 d10 (by rw [het]; exact fun x hx => by cases hx) (by show 2 + 3 < _; omega) (by show _ + (13 * (2 + 1) + 43) ≤ _; omega) hRc hRs hlocks ?_ hS.2.2 hc hs
  · refine vx_hat (fun x h => hts _ (hws _ (hat x h))) hbad ?_
    refine vx_c (va_Nw.use rfl (hSt.2.2.1 E hE)) (fun x hx9 => ?_)
    obtain ⟨Y, hY, rfl⟩ := List.mem_map.mp hx9
    exact va_Nw.use rfl (hSt.2.2.2.2.2.2.2.2.2.1 Y hY)
  · intro t _ h1 h2
    exact ⟨⟨w, ad, hx, hR.kept h2⟩, Nat.le_trans hS.1 h1, fun q g1 g2 => (h2 q (Nat.lt_of_lt_of_le g1 hS.1)).trans (hS.2.1 q g1 g2)⟩
theorem z_throwW13 (O : zOK G l RX7 cc nL ret ws R mc ms [] PQ PX ini X) {E text : String} {ik is ic : Nat} (hws : ∀ x ∈ zAll, x ∈ ws) (hE : E ∈ zExs) (hT : (is, text) ∈ zStr) (hk : Cond.classLink RX7 ik E ∈ zAll) (hi : Cond.initialized E ∈ zAll)
    (hat : ∀ x ∈ (vx_at13 RX7 ic E "java/lang/RuntimeException" ["java/lang/Exception"]).filter goodWord, x ∈ zAll) (hbad : ∀ x ∈ (vx_at13 RX7 ic E "java/lang/RuntimeException" ["java/lang/Exception"]).filter (fun x => !goodWord x), x ∈ Cond.castable E E :: zDec.map (fun Y => Cond.declares (Bundle.initS Y)))
    (hgood : ∀ x ∈ Cond.classLink RX7 ik E :: Cond.initialized E :: vx_at13 RX7 ic E "java/lang/RuntimeException" ["java/lang/Exception"], vx_ot x = true) (hfit : Bundle.fit E = true)
    (d0 : decode cc pc = .ok (.new ik, 3)) (d3 : decode cc (pc + 3) = .ok (.dup, 1)) (d4 : decode cc (pc + 4) = .ok (.ldc_w is, 3)) (d7 : decode cc (pc + 7) = .ok (.invokespecial ic, 3)) (d10 : decode cc (pc + 10) = .ok (.athrow, 1))
    (hRf : 5 < R.frames) (hRl : (rest.map fun v => v.category).sum + 82 ≤ R.locals) (hRc : kc + 1 ≤ R.cells) (hRs : ks + 6 ≤ R.slots) (hc : kc + 1 ≤ mc) (hs : ks + 6 ≤ ms) (hx : PX E w ad) : zV G X nL kc ks pc lsv rest w ad := by
  obtain ⟨p, e, s, m, args, below, meth, c, hx0, hb, hr, hts, hown, hlocks, hml, het, hini, hbase, hK, hSt, hfl, rfl⟩ := O
  intro H lsA hR hL locs hS
  obtain ⟨sa, hsa⟩ := hSt.2.1 _ hT
  refine vx_throw13 (sa := sa) (Y0 := "java/lang/RuntimeException") (names := ["java/lang/Exception"]) hx0 hb hfl hown hfit (by decide +kernel) (by decide +kernel) (hts _ (hws _ hk)) (hts _ (hws _ hi)) hsa ?_ hgood hSt.1.1 hSt.1.2.1 hS (hL.1.trans hml.symm) d0 d3 d4 d7 d10 (by rw [het]; exact fun x hx => by cases hx) (by show 1 + 1 + 3 < _; omega) (by show _ + (13 * (1 + 1 + 1) + 43) ≤ _; omega) hRc hRs hlocks ?_ hS.2.2 hc hs
  · refine vx_hat (fun x h => hts _ (hws _ (hat x h))) hbad ?_
    refine vx_c (va_Nw.use rfl (hSt.2.2.1 E hE)) (fun x hx9 => ?_)
    obtain ⟨Y, hY, rfl⟩ := List.mem_map.mp hx9
    exact va_Nw.use rfl (hSt.2.2.2.2.2.2.2.2.2.1 Y hY)
  · intro t _ h1 h2
    exact ⟨⟨w, ad, hx, hR.kept h2⟩, Nat.le_trans hS.1 h1, fun q g1 g2 => (h2 q (Nat.lt_of_lt_of_le g1 hS.1)).trans (hS.2.1 q g1 g2)⟩
theorem z_iinc1 (O : zOK G l own cc nL ret ws R mc ms et PQ PX ini X) {i : Nat} {x : Int32} (hdg : decode cc pc = .ok (.iinc i 1, 3)) (hl : zL lsv i = some (.int x)) (hn : i < nL) (kk : zV G X nL kc ks (pc + 3) (zS lsv i (.int (x + 1))) rest w ad) : zV G X nL kc ks pc lsv rest w ad := z_iinc O hdg hl rfl hn kk
/-- the same, of a counter -/
theorem z_iincN (O : zOK G l own cc nL ret ws R mc ms et PQ PX ini X) {i a : Nat} (hdg : decode cc pc = .ok (.iinc i 1, 3)) (hl : zL lsv i = some (.int (nI a))) (hn : i < nL) (kk : zV G X nL kc ks (pc + 3) (zS lsv i (.int (nI (a + 1)))) rest w ad) : zV G X nL kc ks pc lsv rest w ad := z_iinc O hdg hl (nI_1 a) hn kk
/-- a loop's head: the counter against its bound -/
theorem z_ge_lt {a b : Nat} (ha : a < 2 ^ 31) (hb : b < 2 ^ 31) (h : ¬ nI b ≤ nI a) : a < b := by
  rcases Nat.lt_or_ge a b with q | q
  · exact q
  · exact absurd ((nI_leI hb ha).mpr q) h
theorem z_ge_ge {a b : Nat} (ha : a < 2 ^ 31) (hb : b < 2 ^ 31) (h : nI b ≤ nI a) : b ≤ a := (nI_leI hb ha).mp h
end ZMORE
theorem zbad_253 : ∀ x ∈ (vx_atS RX7 253 "java/lang/IllegalArgumentException" ["java/lang/RuntimeException", "java/lang/Exception"]).filter (fun x => !goodWord x), x ∈ Cond.castable "java/lang/IllegalArgumentException" "java/lang/IllegalArgumentException" :: zDec.map (fun Y => Cond.declares (Bundle.initS Y)) := by decide +kernel
theorem zok_253 : ∀ x ∈ Cond.classLink RX7 249 "java/lang/IllegalArgumentException" :: Cond.initialized "java/lang/IllegalArgumentException" :: vx_atS RX7 253 "java/lang/IllegalArgumentException" ["java/lang/RuntimeException", "java/lang/Exception"], vx_ot x = true := by decide +kernel
theorem zbad_260 : ∀ x ∈ (vx_atS RX7 260 "java/lang/IndexOutOfBoundsException" ["java/lang/RuntimeException", "java/lang/Exception"]).filter (fun x => !goodWord x), x ∈ Cond.castable "java/lang/IndexOutOfBoundsException" "java/lang/IndexOutOfBoundsException" :: zDec.map (fun Y => Cond.declares (Bundle.initS Y)) := by decide +kernel
theorem zok_260 : ∀ x ∈ Cond.classLink RX7 256 "java/lang/IndexOutOfBoundsException" :: Cond.initialized "java/lang/IndexOutOfBoundsException" :: vx_atS RX7 260 "java/lang/IndexOutOfBoundsException" ["java/lang/RuntimeException", "java/lang/Exception"], vx_ot x = true := by decide +kernel
theorem zbad_82 : ∀ x ∈ (vx_atS RX7 82 "java/lang/UnsupportedOperationException" ["java/lang/RuntimeException", "java/lang/Exception"]).filter (fun x => !goodWord x), x ∈ Cond.castable "java/lang/UnsupportedOperationException" "java/lang/UnsupportedOperationException" :: zDec.map (fun Y => Cond.declares (Bundle.initS Y)) := by decide +kernel
theorem zok_82 : ∀ x ∈ Cond.classLink RX7 78 "java/lang/UnsupportedOperationException" :: Cond.initialized "java/lang/UnsupportedOperationException" :: vx_atS RX7 82 "java/lang/UnsupportedOperationException" ["java/lang/RuntimeException", "java/lang/Exception"], vx_ot x = true := by decide +kernel
theorem zbad_108 : ∀ x ∈ (vx_atS RX7 108 "java/lang/IllegalStateException" ["java/lang/RuntimeException", "java/lang/Exception"]).filter (fun x => !goodWord x), x ∈ Cond.castable "java/lang/IllegalStateException" "java/lang/IllegalStateException" :: zDec.map (fun Y => Cond.declares (Bundle.initS Y)) := by decide +kernel
theorem zok_108 : ∀ x ∈ Cond.classLink RX7 104 "java/lang/IllegalStateException" :: Cond.initialized "java/lang/IllegalStateException" :: vx_atS RX7 108 "java/lang/IllegalStateException" ["java/lang/RuntimeException", "java/lang/Exception"], vx_ot x = true := by decide +kernel
theorem zbad_272 : ∀ x ∈ (vx_at13 RX7 272 "java/util/NoSuchElementException" "java/lang/RuntimeException" ["java/lang/Exception"]).filter (fun x => !goodWord x), x ∈ Cond.castable "java/util/NoSuchElementException" "java/util/NoSuchElementException" :: zDec.map (fun Y => Cond.declares (Bundle.initS Y)) := by decide +kernel
theorem zok_272 : ∀ x ∈ Cond.classLink RX7 268 "java/util/NoSuchElementException" :: Cond.initialized "java/util/NoSuchElementException" :: vx_at13 RX7 272 "java/util/NoSuchElementException" "java/lang/RuntimeException" ["java/lang/Exception"], vx_ot x = true := by decide +kernel
theorem zbad_242 : ∀ x ∈ (vx_atS RX7 242 "java/lang/ArithmeticException" ["java/lang/RuntimeException", "java/lang/Exception"]).filter (fun x => !goodWord x), x ∈ Cond.castable "java/lang/ArithmeticException" "java/lang/ArithmeticException" :: zDec.map (fun Y => Cond.declares (Bundle.initS Y)) := by decide +kernel
theorem zok_242 : ∀ x ∈ Cond.classLink RX7 238 "java/lang/ArithmeticException" :: Cond.initialized "java/lang/ArithmeticException" :: vx_atS RX7 242 "java/lang/ArithmeticException" ["java/lang/RuntimeException", "java/lang/Exception"], vx_ot x = true := by decide +kernel
