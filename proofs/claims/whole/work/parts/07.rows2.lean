section ZROWS2
variable {G : zG} {l : Launch} {own : String} {cc : ByteArray} {nL : Nat} {ret : Option FieldType} {ws : List Cond} {R : Room} {mc ms : Nat} {et : List ExceptionTableEntry} {PQ : Option Value → zH → (Nat → Nat) → Prop} {PX : String → zH → (Nat → Nat) → Prop} {ini : Prop} {X : zXT} {kc ks pc : Nat} {lsv : List (Nat × Value)} {rest : List Value} {w : zH} {ad : Nat → Nat}
theorem zup_s {α : Type} (f : Nat → α) (k : Nat) (v : α) : va_up f k v k = v := by simp [va_up]
theorem zup_n {α : Type} {f : Nat → α} {k j : Nat} {v : α} (h : j ≠ k) : va_up f k v j = f j := by simp [va_up, h]
theorem zS_new {A : Nat → Prop} {H0 H H1 : Heap} {locs : List Loc} (hS : va_S A H0 H locs) (z : H1.size = H.size + 1) (o1 : ∀ q, q < H.size → H1[q]? = H[q]?) : va_S A H0 H1 locs :=
  ⟨Nat.le_trans hS.1 (by omega), fun x h1 h2 => (o1 x (Nat.lt_of_lt_of_le h1 hS.1)).trans (hS.2.1 x h1 h2), hS.2.2⟩
/-- a cell of a class is made -/
theorem z_new (O : zOK G l own cc nL ret ws R mc ms et PQ PX ini X) {C : String} {T : u_T} {N ci index : Nat} {fs : List Value} {w' : Nat → zH} (i : Nat) (hin : ∀ x ∈ u_ws C T N, x ∈ ws) (ty : Nat → FieldType) (hty : ∀ k, k < N → parseFieldDescriptor (T k).2.2.1 = some (ty k)) (hcl : Cond.classLink own index C ∈ ws) (hinst : Cond.instantiable C N ∈ ws) (hini0 : Cond.initialized C ∈ ws) (hc : vwCl[ci]? = some (C, T, N)) (hfs : ∀ j, j < N → defaultValue (ty j) = vp_V fs j) (hcells : kc + 1 ≤ R.cells) (hslots : ks + N ≤ R.slots) (hdg : decode cc pc = .ok (.new index, 3)) (hi : w i = none) (hw' : ∀ q j, w' q j = if j = i then some (.inr (ci, fs)) else w j)
    (kk : ∀ q, zV G X nL (kc + 1) (ks + N) (pc + 3) lsv (.ref (va_up ad i q i) :: rest) (w' q) (va_up ad i q)) : zV G X nL kc ks pc lsv rest w ad := by
  obtain ⟨p, e, s, m, args, below, meth, c, hx0, hb, hr, hts, hown, hlocks, hml, het, hini, hbase, hK, hSt, hfl, rfl⟩ := O
  intro H lsA hR hL locs hS
  have hKn := hK.1 ci _ hc
  refine W.newcK hx0 hb hown (hts _ hcl) (hts _ hinst) (hts _ hini0) rfl hdg hcells hslots hKn.2.1 rfl fun H1 kC hkC e1 z1 o1 => ?_
  have k9 := kk H.size H1 lsA (zRep.new hR hi (Nat.le_trans hbase hS.1) (e := .inr (ci, fs)) ⟨_, hc, (u_born ty hts hin hKn hkC e1 hty).to hfs⟩ o1 (hw' H.size)) hL _ (zS_new hS z1 o1)
  rw [zup_s] at k9
  exact k9
/-- an array of numbers is made -/
theorem z_newa (O : zOK G l own cc nL ret ws R mc ms et PQ PX ini X) {atype : ArrayType} {w' : Nat → zH} (i t : Nat) (ht : t < 5) (harr : Cond.arrayClass (newarray.typeOf atype) ∈ ws) (hty : newarray.typeOf atype = zTy t) {n : Int32} {N : Nat} {a0 : vp_A} (ha : ∀ cA : ClassId, vp_cell cA a0 = arrV cA N (fun _ => defaultValue (zTy t))) (hn : ¬ n < 0) (hN : n.toNatClampNeg = N) (hbytes : N * componentBytes (zTy t) ≤ 536870912) (hcells : kc + 1 ≤ R.cells) (hslots : ks + N ≤ R.slots) (hdg : decode cc pc = .ok (.newarray atype, 2)) (hi : w i = none) (hw' : ∀ q j, w' q j = if j = i then some (.inl (t, a0)) else w j)
    (kk : ∀ q, zV G X nL (kc + 1) (ks + N) (pc + 2) lsv (.ref (va_up ad i q i) :: rest) (w' q) (va_up ad i q)) : zV G X nL kc ks pc lsv (.int n :: rest) w ad := by
  obtain ⟨p, e, s, m, args, below, meth, c, hx0, hb, hr, hts, hown, hlocks, hml, het, hini, hbase, hK, hSt, hfl, rfl⟩ := O
  intro H lsA hR hL locs hS
  refine va_newaK hx0 hb (hts _ harr) rfl hdg rfl hn hN (by rw [hty]; exact hbytes) hcells hslots rfl fun H1 cA e1 z1 o1 hAr hNm => ?_
  have hcA : cA = G.2.1 t := by
    rw [hty] at hNm
    have h9 := (hK.2 t _ (zTys_get G (by omega))).2
    rcases (show t = 0 ∨ t = 1 ∨ t = 2 ∨ t = 3 ∨ t = 4 by omega) with rfl | rfl | rfl | rfl | rfl <;> exact Option.some.inj (hNm.symm.trans h9)
  have k9 := kk H.size H1 lsA (zRep.new hR hi (Nat.le_trans hbase hS.1) (e := .inl (t, a0)) (show H1[H.size]? = some (vp_cell (G.2.1 t) a0) by rw [ha, ← hcA, e1, hty]) o1 (hw' H.size)) hL _ (zS_new hS z1 o1)
  rw [zup_s] at k9
  exact k9
/-- an array of cells is made: of seats (5), of any (6) -/
theorem z_anew (O : zOK G l own cc nL ret ws R mc ms et PQ PX ini X) {index : Nat} {w' : Nat → zH} (i t : Nat) {C : String} (hC : (t = 5 ∧ C = "ClaqueRow$Seat") ∨ (t = 6 ∧ C = "java/lang/Object")) (hcl : Cond.classLink own index C ∈ ws) {n : Int32} {N : Nat} (hn : ¬ n < 0) (hN : n.toNatClampNeg = N) (hbytes : N * 4 ≤ 536870912) (hcells : kc + 1 ≤ R.cells) (hslots : ks + N ≤ R.slots) (hdg : decode cc pc = .ok (.anewarray index, 3)) (hi : w i = none) (hw' : ∀ q j, w' q j = if j = i then some (.inl (t, (N, .inr (.inr (.inr (.inr (fun _ => none))))))) else w j)
    (kk : ∀ q, zV G X nL (kc + 1) (ks + N) (pc + 3) lsv (.ref (va_up ad i q i) :: rest) (w' q) (va_up ad i q)) : zV G X nL kc ks pc lsv (.int n :: rest) w ad := by
  obtain ⟨p, e, s, m, args, below, meth, c, hx0, hb, hr, hts, hown, hlocks, hml, het, hini, hbase, hK, hSt, hfl, rfl⟩ := O
  intro H lsA hR hL locs hS
  subst hN
  have hover : va_AO C s := by rcases hC with ⟨-, rfl⟩ | ⟨-, rfl⟩; exact hSt.2.2.2.2.2.2.2.1; exact hSt.2.2.2.2.2.2.2.2.1
  refine W.anew hx0 hb hown (hts _ hcl) (va_AO.use hover) rfl hdg rfl hn hbytes hcells hslots fun cA kA comp f1 f2 f3 f4 => ?_
  have hcA : cA = G.2.1 t := by
    rcases hC with ⟨rfl, rfl⟩ | ⟨rfl, rfl⟩
    · obtain ⟨-, -, -, -, -, h4⟩ := (hK.2 5 _ (zTys_get G (by decide))).2
      exact Option.some.inj (f1.symm.trans h4)
    · obtain ⟨-, -, -, -, -, h4⟩ := (hK.2 6 _ (zTys_get G (by decide))).2
      exact Option.some.inj (f1.symm.trans h4)
  generalize hH1 : H.push ({ cls := cA, slots := Array.replicate n.toNatClampNeg .null, vm := .none } : Cell) = H1
  have z1 : H1.size = H.size + 1 := by rw [← hH1, Array.size_push]
  have e1 : H1[H.size]? = some (arrV cA n.toNatClampNeg (fun _ => .null)) := by rw [← hH1, Array.getElem?_push_size, ← arrV_new]
  have o1 : ∀ q : Nat, q < H.size → H1[q]? = H[q]? := fun q hq => by rw [← hH1, Array.getElem?_push, if_neg (Nat.ne_of_lt hq)]
  have k9 := kk H.size H1 lsA (zRep.new hR hi (Nat.le_trans hbase hS.1) (e := .inl (t, (n.toNatClampNeg, .inr (.inr (.inr (.inr (fun _ => none))))))) (show H1[H.size]? = some (vp_cell (G.2.1 t) _) by rw [vp_cell_q, ← hcA]; exact e1) o1 (hw' H.size)) hL _ (zS_new hS z1 o1)
  rw [zup_s] at k9
  exact k9
/-- a cell is put into an array of any, or of seats -/
theorem z_aast (O : zOK G l own cc nL ret ws R mc ms et PQ PX ini X) {i n b ci : Nat} {f : Nat → Option Nat} {x : Int32} {w' : zH} {C : String} {T : u_T} {N : Nat} {fs : List Value} (hC : C ∈ zObs) (hc : vwCl[ci]? = some (C, T, N)) (hdg : decode cc pc = .ok (.aastore, 1)) (hw : w i = some (.inl (6, (n, .inr (.inr (.inr (.inr f))))))) (hb0 : w b = some (.inr (ci, fs))) (j : Nat) (hx : x = nI j) (hj : j < n) (hn : n < 2 ^ 31) (hw' : ∀ k, w' k = if k = i then some (.inl (6, (n, .inr (.inr (.inr (.inr (va_up f j (some (ad b))))))))) else w k)
    (kk : zV G X nL kc ks (pc + 1) lsv rest w' ad) : zV G X nL kc ks pc lsv (.ref (ad b) :: .int x :: .ref (ad i) :: rest) w ad := by
  obtain ⟨p, e, s, m, args, below, meth, c, hx0, hb, hr, hts, hown, hlocks, hml, het, hini, hbase, hK, hSt, hfl, rfl⟩ := O
  intro H lsA hR hL locs hS
  obtain ⟨hin, h2⟩ := z_in hx hj hn
  have hAt := hR.1 i _ hw
  obtain ⟨r', hr', cellV, g1, g2, g3, -⟩ := (hR.1 b _ hb0).2
  have hcls := (hK.1 ci _ hc).2
  obtain ⟨kA, comp, k1, k2, k3, -⟩ := (hK.2 6 _ (zTys_get G (by decide))).2
  obtain ⟨kE, hkE, -⟩ := Vm.findClass_spec k3
  obtain ⟨c0, t1, f1, f2, f3⟩ := Cond.castable_spec (va_Nw.use (A := args) rfl (hSt.2.2.2.2.2.2.2.2.2.2 C hC))
  cases hcls.1.symm.trans f1
  cases k3.symm.trans f2
  obtain ⟨kC, hkC, -⟩ := hcls.2
  have hlt : x.toNatClampNeg < n := by rw [h2]; exact hj
  refine W.aast hx0 hb hAt.2 (fun q h => by cases h) (fun h => by cases h) k1 k2 rfl hkE ⟨fun q => hin (Or.inl q), by show _ < (arrV _ _ _).slots.size; rw [arrV_size]; exact hlt⟩ g1 (fun q h => by rw [g3] at h; cases h) (by rw [g2]; exact hkC) (by rw [g2]; exact f3) rfl rfl hdg fun H1 e z oq => ?_
  refine kk H1 lsA (hR.put hw ?_ oq hw') hL _ (hS.put z oq hAt.1)
  show H1[ad i]? = some (vp_cell _ _)
  rw [e, h2]
  show some ((vp_cell _ _).setSlot _ _) = _
  rw [vp_cell_q, vp_cell_q, arrV_store]
  congr 2
  funext q
  by_cases hq : q = j
  · subst hq
    simp [updV, va_up, va_rf]
  · simp [updV, va_up, hq]
/-- a seat is put into the row of seats -/
theorem z_aast5 (O : zOK G l own cc nL ret ws R mc ms et PQ PX ini X) {i n b : Nat} {f : Nat → Option Nat} {x : Int32} {w' : zH} {fs : List Value} (hdg : decode cc pc = .ok (.aastore, 1)) (hw : w i = some (.inl (5, (n, .inr (.inr (.inr (.inr f))))))) (hb0 : w b = some (.inr (7, fs))) (j : Nat) (hx : x = nI j) (hj : j < n) (hn : n < 2 ^ 31) (hw' : ∀ k, w' k = if k = i then some (.inl (5, (n, .inr (.inr (.inr (.inr (va_up f j (some (ad b))))))))) else w k)
    (kk : zV G X nL kc ks (pc + 1) lsv rest w' ad) : zV G X nL kc ks pc lsv (.ref (ad b) :: .int x :: .ref (ad i) :: rest) w ad := by
  obtain ⟨p, e, s, m, args, below, meth, c, hx0, hb, hr, hts, hown, hlocks, hml, het, hini, hbase, hK, hSt, hfl, rfl⟩ := O
  intro H lsA hR hL locs hS
  obtain ⟨hin, h2⟩ := z_in hx hj hn
  have hAt := hR.1 i _ hw
  obtain ⟨r', hr', cellV, g1, g2, g3, -⟩ := (hR.1 b _ hb0).2
  have hcls := (hK.1 7 _ rfl).2
  obtain ⟨kA, comp, k1, k2, k3, -⟩ := (hK.2 5 _ (zTys_get G (by decide))).2
  have hcomp : comp = G.1.1 7 := Option.some.inj (k3.symm.trans hcls.1)
  subst hcomp
  obtain ⟨kC, hkC, -⟩ := hcls.2
  have hlt : x.toNatClampNeg < n := by rw [h2]; exact hj
  refine W.aast hx0 hb hAt.2 (fun q h => by cases h) (fun h => by cases h) k1 k2 rfl hkC ⟨fun q => hin (Or.inl q), by show _ < (arrV _ _ _).slots.size; rw [arrV_size]; exact hlt⟩ g1 (fun q h => by rw [g3] at h; cases h) (by rw [g2]; exact hkC) (by rw [g2]; exact va_assign hcls) rfl rfl hdg fun H1 e z oq => ?_
  refine kk H1 lsA (hR.put hw ?_ oq hw') hL _ (hS.put z oq hAt.1)
  show H1[ad i]? = some (vp_cell _ _)
  rw [e, h2]
  show some ((vp_cell _ _).setSlot _ _) = _
  rw [vp_cell_q, vp_cell_q, arrV_store]
  congr 2
  funext q
  by_cases hq : q = j
  · subst hq
    simp [updV, va_up, va_rf]
  · simp [updV, va_up, hq]
theorem z_aastN (O : zOK G l own cc nL ret ws R mc ms et PQ PX ini X) {i n : Nat} {f : Nat → Option Nat} {x : Int32} {w' : zH} (hdg : decode cc pc = .ok (.aastore, 1)) (hw : w i = some (.inl (6, (n, .inr (.inr (.inr (.inr f))))))) (j : Nat) (hx : x = nI j) (hj : j < n) (hn : n < 2 ^ 31) (hw' : ∀ k, w' k = if k = i then some (.inl (6, (n, .inr (.inr (.inr (.inr (va_up f j none))))))) else w k)
    (kk : zV G X nL kc ks (pc + 1) lsv rest w' ad) : zV G X nL kc ks pc lsv (.null :: .int x :: .ref (ad i) :: rest) w ad := by
  obtain ⟨p, e, s, m, args, below, meth, c, hx0, hb, hr, hts, hown, hlocks, hml, het, hini, hbase, hK, hSt, hfl, rfl⟩ := O
  intro H lsA hR hL locs hS
  obtain ⟨hin, h2⟩ := z_in hx hj hn
  have hAt := hR.1 i _ hw
  refine va_WaastN (C := "java/lang/Object") hx0 hb hAt.2 ((hK.2 6 _ (zTys_get G (by decide))).1 n (fun j => va_rf (f j))) (fun h => by cases h) (by show ¬ (x < 0 ∨ (arrV _ _ _).slots.size ≤ _); rw [arrV_size]; exact hin) rfl rfl hdg fun H1 e z oq => ?_
  refine kk H1 lsA (hR.put hw ?_ oq hw') hL _ (hS.put z oq hAt.1)
  show H1[ad i]? = some (vp_cell _ _)
  rw [e, h2]
  show some ((vp_cell _ _).setSlot _ _) = _
  rw [vp_cell_q, vp_cell_q, arrV_store]
  congr 2
  funext q
  by_cases hq : q = j
  · subst hq
    simp [updV, va_up, va_rf]
  · simp [updV, va_up, hq]
/-- the lists' shared empty array -/
theorem z_empty (O : zOK G l own cc nL ret ws R mc ms et PQ PX ini X) {index : Nat} (hl : Cond.fieldLink own index "java/util/ArrayList" "DEFAULTCAPACITY_EMPTY_ELEMENTDATA" "[Ljava/lang/Object;" ∈ ws) (hdg : decode cc pc = .ok (.getstatic index, 3))
    (kk : zV G X nL kc ks (pc + 3) lsv (.ref G.2.2.2.1 :: rest) w ad) : zV G X nL kc ks pc lsv rest w ad := by
  obtain ⟨p, e, s, m, args, below, meth, c, hx0, hb, hr, hts, hown, hlocks, hml, het, hini, hbase, hK, hSt, hfl, rfl⟩ := O
  intro H lsA hR hL locs hS
  exact va_gets hx0 hb hSt.1.2.2.1 hS hown (hts _ hl) (fun _ h => h) hdg (kk H lsA hR hL locs hS)
theorem z_alenE (O : zOK G l own cc nL ret ws R mc ms et PQ PX ini X) (hdg : decode cc pc = .ok (.arraylength, 1))
    (kk : zV G X nL kc ks (pc + 1) lsv (.int 0 :: rest) w ad) : zV G X nL kc ks pc lsv (.ref G.2.2.2.1 :: rest) w ad := by
  obtain ⟨p, e, s, m, args, below, meth, c, hx0, hb, hr, hts, hown, hlocks, hml, het, hini, hbase, hK, hSt, hfl, rfl⟩ := O
  intro H lsA hR hL locs hS
  obtain ⟨cell, h1, h2, h3, h4, h5, -, h7⟩ := va_T.kept hSt.1.2.2.2 (fun a h1 h2 => hS.2.1 a h1 h2)
  exact W.alen (n := 0) hx0 hb h1 h2 (by rw [h5]; rfl) rfl rfl hdg (kk H lsA hR hL locs hS)
/-- a field that a superclass declares, by the class's own name -/
theorem z_getS (O : zOK G l own cc nL ret ws R mc ms et PQ PX ini X) {C ref : String} {T : u_T} {N ci i fk index : Nat} {fs : List Value} {v : Value} (hin : ∀ x ∈ u_ws C T N, x ∈ ws) (hc : vwCl[ci]? = some (C, T, N)) (hk : fk < N) (hlink : Cond.fieldLink own index ref (T fk).2.1 (T fk).2.2.1 ∈ ws) (hsm : Cond.sameField ref (T fk).1 (T fk).2.1 (T fk).2.2.1 ∈ ws) (hdg : decode cc pc = .ok (.getfield index, 3)) (hw : w i = some (.inr (ci, fs))) (hv : fs[fk]? = some v)
    (kk : zV G X nL kc ks (pc + 3) lsv (v :: rest) w ad) : zV G X nL kc ks pc lsv (.ref (ad i) :: rest) w ad := by
  obtain ⟨p, e, s, m, args, below, meth, c, hx, hb, hr, hts, hown, hlocks, hml, het, hini, hbase, hK, hSt, hfl, rfl⟩ := O
  intro H lsA hR hL locs hS
  exact va_get (ref := ref) hx hb hts hin hown hK (zP1 (hR.1 i _ hw).2) 0 (fs := fs) rfl hc fk hk (hts _ hlink) (fun y h => u_same (hts _ hsm) y h) hv hdg (kk H lsA hR hL locs hS)
theorem z_putS (O : zOK G l own cc nL ret ws R mc ms et PQ PX ini X) {C ref : String} {T : u_T} {N ci i fk index : Nat} {fs : List Value} {v : Value} {w' : zH} (hin : ∀ x ∈ u_ws C T N, x ∈ ws) (ty0 : Nat → FieldType) (hty : ∀ k, k < N → parseFieldDescriptor (T k).2.2.1 = some (ty0 k)) (hnm : ∀ a, a < N → ∀ b, b < N → a ≠ b → (T a).2.1 ≠ (T b).2.1) (hc : vwCl[ci]? = some (C, T, N)) (hk : fk < N) (hlink : Cond.fieldLink own index ref (T fk).2.1 (T fk).2.2.1 ∈ ws) (hsm : Cond.sameField ref (T fk).1 (T fk).2.1 (T fk).2.2.1 ∈ ws) (hfin : (T fk).2.2.2 = false) (hdg : decode cc pc = .ok (.putfield index, 3)) (hn : narrow (ty0 fk) v = v) (hfit : fits (ty0 fk) v = true)
    (hw : w i = some (.inr (ci, fs))) (hl : fk < fs.length) (hw' : ∀ j, w' j = if j = i then some (.inr (ci, fs.set fk v)) else w j) (kk : zV G X nL kc ks (pc + 3) lsv rest w' ad) : zV G X nL kc ks pc lsv (v :: .ref (ad i) :: rest) w ad := by
  obtain ⟨p, e, s, m, args, below, meth, c, hx, hb, hr, hts, hown, hlocks, hml, het, hini, hbase, hK, hSt, hfl, rfl⟩ := O
  intro H lsA hR hL locs hS
  have hap := va_apart (own := own) hts hin ty0 hty hnm hK hc
  have hAt := hR.1 i _ hw
  obtain ⟨r, h1, cell, q1, q2, q3, q4⟩ := hAt.2
  have hr2 : r = (C, T, N) := Option.some.inj (h1.symm.trans hc)
  subst hr2
  obtain ⟨hSl, hfc, kC, hkC, hkind⟩ := hK.1 ci _ hc
  obtain ⟨cf, kf, fi, f, hi, hsl⟩ := hSl fk hk
  have hlay := hts _ (hin _ (u_in_lay hk))
  unfold u_lay at hlay
  rw [if_neg (by rw [hfin]; decide)] at hlay
  have hst := (u_facts hfc hkC (u_lays hts hin hk) hi).1
  have h6 := u_store hfc hkC hkind hlay hi (hty fk hk) hn hfit
  refine W.putK hx hb (f := f) ⟨hown, hts _ hlink, ⟨_, _, _, u_same (hts _ hsm) _ hi⟩, hst⟩ (by rw [q2]; exact h6) q1 q3 (by rw [hsl]; exact k2_hasslot (q4 fk hk)) rfl rfl hdg fun H' e1 e2 e3 => ?_
  rw [hsl] at e1 ⊢
  exact kk H' lsA (hR.put (e := .inr (ci, fs.set fk v)) hw ⟨_, hc, t_OB.to (V := updV (vp_V fs) fk v) ⟨_, e1, q2, q3, t_set q4 hap hk v⟩ (fun j _ => vp_updV_set hl v j)⟩ e3 hw') hL _ (hS.put e2 e3 hAt.1)
/-- the class object of rows of objects, named and asked for -/
theorem z_ldcM (O : zOK G l own cc nL ret ws R mc ms et PQ PX ini X) {index : Nat} (hcl : Cond.classLink own index "[Ljava/lang/Object;" ∈ ws) (hdg : decode cc pc = .ok (.ldc index, 2))
    (kk : zV G X nL kc ks (pc + 2) lsv (.ref G.2.2.2.2 :: rest) w ad) : zV G X nL kc ks pc lsv rest w ad := by
  obtain ⟨p, e, s, m, args, below, meth, c, hx0, hb, hr, hts, hown, hlocks, hml, het, hini, hbase, hK, hSt, hfl, rfl⟩ := O
  intro H lsA hR hL locs hS
  exact va_ldcM hx0 hb hown (hts _ hcl) hSt.2.2.2.2.2.1 hdg (kk H lsA hR hL locs hS)
theorem z_getC (O : zOK G l own cc nL ret ws R mc ms et PQ PX ini X) {index i : Nat} {a : vp_A} (hm : Cond.methodLink own index ⟨"java/lang/Object", "getClass", "()Ljava/lang/Class;"⟩ ∈ ws) (hsel : Cond.selects "[Ljava/lang/Object;" ⟨"java/lang/Object", "getClass", "()Ljava/lang/Class;"⟩ ⟨"java/lang/Object", "getClass", "()Ljava/lang/Class;"⟩ ∈ ws) (hinst : Cond.instanceMethod ⟨"java/lang/Object", "getClass", "()Ljava/lang/Class;"⟩ ∈ ws) (hnat : Cond.native ⟨"java/lang/Object", "getClass", "()Ljava/lang/Class;"⟩ ∈ ws) (hw : w i = some (.inl (6, a))) (hf : 1 ≤ R.frames) (hlo : (rest.map fun v => v.category).sum + 14 ≤ R.locals) (hdg : decode cc pc = .ok (.invokevirtual index, 3))
    (kk : zV G X nL kc ks (pc + 3) lsv (.ref G.2.2.2.2 :: rest) w ad) : zV G X nL kc ks pc lsv (.ref (ad i) :: rest) w ad := by
  obtain ⟨p, e, s, m, args, below, meth, c, hx0, hb, hr, hts, hown, hlocks, hml, het, hini, hbase, hK, hSt, hfl, rfl⟩ := O
  intro H lsA hR hL locs hS
  have hc1 : H[ad i]? = some (vp_cell (G.2.1 6) a) := (hR.1 i _ hw).2
  have h9 := (hK.2 6 _ (zTys_get G (by decide))).2
  refine va_getC hx0 hb (hml.trans hL.1.symm) hown (hts _ hm) (va_Dc.use hSt.2.2.2.2.2.2.1) (hts _ hsel) (hts _ hinst) (hts _ hnat) hSt.2.2.2.2.2.1 ⟨_, hc1, ?_, ?_⟩ hf hlo hdg (kk H lsA hR hL locs hS)
  · obtain ⟨n, f | f | f | f | f⟩ := a <;> rfl
  · have e9 : (vp_cell (G.2.1 6) a).cls = G.2.1 6 := by obtain ⟨n, f | f | f | f | f⟩ := a <;> rfl
    rw [e9]
    exact va_nmO h9 rfl
/-- cells are copied from one array of any to another -/
theorem z_copy (O : zOK G l own cc nL ret ws R mc ms et PQ PX ini X) {index i0 i1 n0 n1 n : Nat} {f g : Nat → Option Nat} {w' : zH} {C : String} {T : u_T} {N ci : Nat} (hC : C ∈ zObs) (hc : vwCl[ci]? = some (C, T, N)) (hm : Cond.methodLink own index arraycopyName ∈ ws) (hnat : Cond.native arraycopyName ∈ ws) (hstat : Cond.static arraycopyName ∈ ws) (hini0 : Cond.initialized "java/lang/System" ∈ ws) (hw0 : w i0 = some (.inl (6, (n0, .inr (.inr (.inr (.inr f))))))) (hw1 : w i1 = some (.inl (6, (n1, .inr (.inr (.inr (.inr g)))))))
    (hn0 : n ≤ n0) (hn1 : n ≤ n1) (hn : n < 2 ^ 30) (hel : ∀ i : Nat, i < n → ∃ b fs, f i = some (ad b) ∧ w b = some (.inr (ci, fs))) (hw' : ∀ k, w' k = if k = i1 then some (.inl (6, (n1, .inr (.inr (.inr (.inr (fun k => if k < n then f k else g k))))))) else w k) (hf : 1 ≤ R.frames) (hlo : (rest.map fun v => v.category).sum + (nativeFrameWords "java/lang/System" "arraycopy" 5 + 11) ≤ R.locals) (hdg : decode cc pc = .ok (.invokestatic index, 3))
    (kk : zV G X nL kc ks (pc + 3) lsv rest w' ad) : zV G X nL kc ks pc lsv (.int (nI n) :: .int 0 :: .ref (ad i1) :: .int 0 :: .ref (ad i0) :: rest) w ad := by
  obtain ⟨p, e, s, m, args, below, meth, c, hx0, hb, hr, hts, hown, hlocks, hml, het, hini, hbase, hK, hSt, hfl, rfl⟩ := O
  intro H lsA hR hL locs hS T hT Xs
  have hc0 : H[ad i0]? = some (vp_cell (G.2.1 6) (n0, .inr (.inr (.inr (.inr f))))) := (hR.1 i0 _ hw0).2
  have hAt := hR.1 i1 _ hw1
  have hc1 : H[ad i1]? = some (vp_cell (G.2.1 6) (n1, .inr (.inr (.inr (.inr g))))) := hAt.2
  obtain ⟨-, k0, hk0, cm0, hkk0⟩ := (hK.2 6 _ (zTys_get G (by decide))).1 n0 (fun j => va_rf (f j))
  obtain ⟨-, k1, hk1, cm1, hkk1⟩ := (hK.2 6 _ (zTys_get G (by decide))).1 n1 (fun j => va_rf (g j))
  have t0 : (nI n).toInt = (n : Int) := nI_toInt (by omega)
  have c0' : (nI n).toNatClampNeg = n := nI_clamp (by omega)
  have z0 : (0 : Int32).toNatClampNeg = 0 := by decide
  have z1 : (0 : Int32).toInt = 0 := by decide
  obtain ⟨vm', X', step⟩ := Xs.arraycopy hx0 hown (hts _ hm) (hts _ hnat) (hts _ hstat) (hts _ hini0) (src := ad i0) (dst := ad i1) (cs := vp_cell (G.2.1 6) (n0, .inr (.inr (.inr (.inr f))))) (cd := vp_cell (G.2.1 6) (n1, .inr (.inr (.inr (.inr g))))) (srcPos := 0) (destPos := 0) (n := nI n) (by rw [hT]; exact hc0) (by rw [hT]; exact hc1)
    (fun _ h => by cases h) (fun _ h => by cases h) (fun h => by cases h) (fun h => by cases h) hk0 hk1 hkk0 hkk1 rfl (by decide) (by decide) (nI_pos (by omega))
    (by rw [z1, t0]; show ¬ _ > ((arrV (G.2.1 6) n0 (fun j => va_rf (f j))).slots.size : Int); rw [arrV_size]; omega)
    (by rw [z1, t0]; show ¬ _ > ((arrV (G.2.1 6) n1 (fun j => va_rf (g j))).slots.size : Int); rw [arrV_size]; omega)
    (fun vm₁ hal i hi => by
      rw [c0'] at hi
      rw [z0, Nat.zero_add]
      obtain ⟨b, fs, hfb, hwb⟩ := hel i hi
      have e : (vp_cell (G.2.1 6) (n0, .inr (.inr (.inr (.inr f))))).slots.getD i .null = va_rf (f i) := by
        show (arrV (G.2.1 6) n0 (fun j => va_rf (f j))).slots.getD _ _ = _
        rw [Array.getD_eq_getD_getElem?, arrV_read _ _ (by omega)]
        rfl
      rw [e, hfb]
      obtain ⟨r', hr', cellV, g1, g2, g3, -⟩ := (hR.1 b _ hwb).2
      have hcls := (hK.1 ci _ hc).2
      obtain ⟨kA, comp, r1, r2, r3, -⟩ := (hK.2 6 _ (zTys_get G (by decide))).2
      cases hk1.symm.trans r1
      cases hkk1.symm.trans r2
      obtain ⟨c9, t1, f1, f2, f3⟩ := Cond.castable_spec (va_Nw.use (A := args) rfl (hSt.2.2.2.2.2.2.2.2.2.2 C hC))
      cases hcls.1.symm.trans f1
      cases r3.symm.trans f2
      obtain ⟨kC, hkC, -⟩ := Vm.findClass_spec hcls.1
      obtain ⟨kE, hkE, -⟩ := Vm.findClass_spec r3
      obtain ⟨kC', hkC', -⟩ := hal.2.2 _ _ hkC
      obtain ⟨kE', hkE', -⟩ := hal.2.2 _ _ hkE
      refine ⟨rfl, cellV, (show T.heap[ad b]? = some cellV by rw [hT]; exact g1), (fun q h => by rw [g3] at h; cases h), ⟨kC', by rw [g2]; exact hkC'⟩, ?_, ?_⟩
      · exact ⟨kE', hkE'⟩
      · show vm₁.assignable _ _ = true
        rw [hal.assignable, g2]
        exact f3)
    (g := F0 m pc lsA (.int (nI n) :: .int 0 :: .ref (ad i1) :: .int 0 :: .ref (ad i0) :: rest)) rfl (by show lsA.size = _; rw [hL.1, hml]) (rest := rest) rfl (by rw [hb]; exact hdg) hf (by show 2 * 0 + _ + _ ≤ _; omega)
  have e1 : copied (vp_cell (G.2.1 6) (n0, .inr (.inr (.inr (.inr f))))) (vp_cell (G.2.1 6) (n1, .inr (.inr (.inr (.inr g))))) 0 0 (nI n) = vp_cell (G.2.1 6) (n1, .inr (.inr (.inr (.inr (fun k => if k < n then f k else g k))))) := by
    have h4 : (0 : Int32).toNatClampNeg + (nI n).toNatClampNeg ≤ n0 := by rw [z0, c0']; omega
    rw [vp_cell_q, vp_cell_q, vp_cell_q]
    refine (va_copied (fun z => va_rf z) (G.2.1 6) (G.2.1 6) f g h4).trans ?_
    rw [z0, c0']
    congr 2
    funext k
    unfold va_cpy
    by_cases hk : k < n <;> simp [hk]
  rw [e1] at X' step
  have hl : ad i1 < H.size := (Array.getElem?_eq_some_iff.mp hc1).1
  generalize hcell : vp_cell (G.2.1 6) (n1, .inr (.inr (.inr (.inr (fun k => if k < n then f k else g k))))) = cell9 at X' step
  have hheap : ((T.setVm vm').setCell (ad i1) cell9).heap = H.setIfInBounds (ad i1) cell9 := by rw [← hT]; rfl
  have oq : ∀ q : Nat, q ≠ ad i1 → (H.setIfInBounds (ad i1) cell9)[q]? = H[q]? := fun q hq => by simp [Array.getElem?_setIfInBounds, Ne.symm hq]
  obtain ⟨t, a1, b1⟩ := kk (H.setIfInBounds (ad i1) cell9) lsA (hR.put hw1 (e := .inl (6, (n1, .inr (.inr (.inr (.inr (fun k => if k < n then f k else g k))))))) (show (H.setIfInBounds (ad i1) cell9)[ad i1]? = some (vp_cell (G.2.1 6) _) by rw [hcell]; simp [Array.getElem?_setIfInBounds, hl]) oq hw') hL _ ⟨by simp; exact hS.1, fun q g1 g2 => by
      rw [oq q (fun e => g2 (by rw [e]; exact hAt.1))]
      exact hS.2.1 q g1 g2, fun q hq => by
      rcases List.mem_append.mp hq with h | h
      · exact hS.2.2 q h
      · obtain ⟨z, -, hz⟩ := List.mem_map.mp h
        rw [← hz]
        exact hAt.1⟩ _ hheap X'
  exact ⟨t, step t a1, b1⟩
end ZROWS2
