section ZROWS2
variable {G : zG} {l : Launch} {own : String} {cc : ByteArray} {nL : Nat} {ret : Option FieldType} {ws : List Cond} {R : Room} {mc ms : Nat} {et : List ExceptionTableEntry} {PQ : Option Value → zH → (Nat → Nat) → Prop} {PX : String → zH → (Nat → Nat) → Prop} {ini : Prop} {X : zXT} {kc ks pc : Nat} {lsv : List (Nat × Value)} {rest : List Value} {w : zH} {ad : Nat → Nat}
theorem zup_s {α : Type} (f : Nat → α) (k : Nat) (v : α) : va_up f k v k = v := by simp [va_up]
theorem zup_n {α : Type} {f : Nat → α} {k j : Nat} {v : α} (h : j ≠ k) : va_up f k v j = f j := by simp [va_up, h]
theorem zS_new {A : Nat → Prop} {H0 H H1 : Heap} {locs : List Loc} (hS : va_S A H0 H locs) (z : H1.size = H.size + 1) (o1 : ∀ q, q < H.size → H1[q]? = H[q]?) : va_S A H0 H1 locs :=
  ⟨Nat.le_trans hS.1 (by omega), fun x h1 h2 => (o1 x (Nat.lt_of_lt_of_le h1 hS.1)).trans (hS.2.1 x h1 h2), hS.2.2⟩
/-- a cell of a class is made -/
theorem z_new (O : zOK G l own cc nL ret ws R mc ms et PQ PX ini X) {C : String} {T : u_T} {N ci index : Nat} {fs : List Value} {w' : Nat → zH} (i : Nat) (hin : ∀ x ∈ u_ws C T N, x ∈ ws) (ty : Nat → FieldType) (hty : ∀ k, k < N → parseFieldDescriptor (T k).2.2.1 = some (ty k)) (hcl : Cond.classLink own index C ∈ ws) (hinst : Cond.instantiable C N ∈ ws) (hini0 : Cond.initialized C ∈ ws) (hc : vwCl[ci]? = some (C, T, N)) (hfs : ∀ j, j < N → defaultValue (ty j) = vp_V fs j) (hcells : kc + 1 ≤ R.cells) (hslots : ks + N ≤ R.slots) (hdg : decode cc pc = .ok (.new index, 3)) (hi : w i = none) (hw' : ∀ q j, w' q j = if j = i then some (.inr (ci, fs)) else w j)
    (kk : ∀ q, zV G X nL (kc + 1) (ks + N) (pc + 3) lsv (.ref (va_up ad i q i) :: rest) (w' q) (va_up ad i q)) : zV G X nL kc ks pc lsv rest w ad := by
  obtain ⟨p, e, s, m, args, below, meth, c, hx0, hb, hr, hts, hown, hlocks, hml, het, hini, hbase, hK, hSt, hfl, rfl⟩ := O
  intro H lsA hR hL locs hS
  have hKn := hK.1 ci _ hc
  refine W.newcK hx0 hb hown (hts _ hcl) (hts _ hinst) (hts _ hini0) rfl hdg hcells hslots hKn.2.1 rfl fun H1 kC hkC e1 z1 o1 => ?_
  have k9 := kk H.size H1 lsA (zRep.new hR hi (Nat.le_trans hbase hS.1) (e := .inr (ci, fs)) ⟨_, hc, (u_born ty hts hin hKn hkC e1 hty).to hfs⟩ o1 (hw' H.size)) hL _ (zS_new hS z1 o1)
  rw [zup_s] at k9
  exact k9
/-- an array of numbers is made -/
theorem z_newa (O : zOK G l own cc nL ret ws R mc ms et PQ PX ini X) {atype : ArrayType} {w' : Nat → zH} (i t : Nat) (ht : t < 5) (harr : Cond.arrayClass (newarray.typeOf atype) ∈ ws) (hty : newarray.typeOf atype = zTy t) {n : Int32} {N : Nat} {a0 : vp_A} (ha : ∀ cA : ClassId, vp_cell cA a0 = arrV cA N (fun _ => defaultValue (zTy t))) (hn : ¬ n < 0) (hN : n.toNatClampNeg = N) (hbytes : N * componentBytes (zTy t) ≤ 536870912) (hcells : kc + 1 ≤ R.cells) (hslots : ks + N ≤ R.slots) (hdg : decode cc pc = .ok (.newarray atype, 2)) (hi : w i = none) (hw' : ∀ q j, w' q j = if j = i then some (.inl (t, a0)) else w j)
    (kk : ∀ q, zV G X nL (kc + 1) (ks + N) (pc + 2) lsv (.ref (va_up ad i q i) :: rest) (w' q) (va_up ad i q)) : zV G X nL kc ks pc lsv (.int n :: rest) w ad := by
  obtain ⟨p, e, s, m, args, below, meth, c, hx0, hb, hr, hts, hown, hlocks, hml, het, hini, hbase, hK, hSt, hfl, rfl⟩ := O
  intro H lsA hR hL locs hS
  refine va_newaK hx0 hb (hts _ harr) rfl hdg rfl hn hN (by rw [hty]; exact hbytes) hcells hslots rfl fun H1 cA e1 z1 o1 hAr hNm => ?_
  have hcA : cA = G.2.1 t := by
    rw [hty] at hNm
    have h9 := (hK.2 t _ (zTys_get G (by omega))).2
    rcases (show t = 0 ∨ t = 1 ∨ t = 2 ∨ t = 3 ∨ t = 4 by omega) with rfl | rfl | rfl | rfl | rfl <;> exact Option.some.inj (hNm.symm.trans h9)
  have k9 := kk H.size H1 lsA (zRep.new hR hi (Nat.le_trans hbase hS.1) (e := .inl (t, a0)) (show H1[H.size]? = some (vp_cell (G.2.1 t) a0) by rw [ha, ← hcA, e1, hty]) o1 (hw' H.size)) hL _ (zS_new hS z1 o1)
  rw [zup_s] at k9
  exact k9
/-- an array of cells is made: of seats (5), of any (6) -/
theorem z_anew (O : zOK G l own cc nL ret ws R mc ms et PQ PX ini X) {index : Nat} {w' : Nat → zH} (i t : Nat) {C : String} (hC : (t = 5 ∧ C = "ClaqueRow$Seat") ∨ (t = 6 ∧ C = "java/lang/Object")) (hcl : Cond.classLink own index C ∈ ws) {n : Int32} {N : Nat} (hn : ¬ n < 0) (hN : n.toNatClampNeg = N) (hbytes : N * 4 ≤ 536870912) (hcells : kc + 1 ≤ R.cells) (hslots : ks + N ≤ R.slots) (hdg : decode cc pc = .ok (.anewarray index, 3)) (hi : w i = none) (hw' : ∀ q j, w' q j = if j = i then some (.inl (t, (N, .inr (.inr (.inr (.inr (fun _ => none))))))) else w j)
    (kk : ∀ q, zV G X nL (kc + 1) (ks + N) (pc + 3) lsv (.ref (va_up ad i q i) :: rest) (w' q) (va_up ad i q)) : zV G X nL kc ks pc lsv (.int n :: rest) w ad := by
  obtain ⟨p, e, s, m, args, below, meth, c, hx0, hb, hr, hts, hown, hlocks, hml, het, hini, hbase, hK, hSt, hfl, rfl⟩ := O
  intro H lsA hR hL locs hS
  subst hN
  have hover : va_AO C s := by rcases hC with ⟨-, rfl⟩ | ⟨-, rfl⟩; exact hSt.2.2.2.2.2.2.2.1; exact hSt.2.2.2.2.2.2.2.2.1
  refine W.anew hx0 hb hown (hts _ hcl) (va_AO.use hover) rfl hdg rfl hn hbytes hcells hslots fun cA kA comp f1 f2 f3 f4 => ?_
  have hcA : cA = G.2.1 t := by
    rcases hC with ⟨rfl, rfl⟩ | ⟨rfl, rfl⟩
    · obtain ⟨-, -, -, -, -, h4⟩ := (hK.2 5 _ (zTys_get G (by decide))).2
      exact Option.some.inj (f1.symm.trans h4)
    · obtain ⟨-, -, -, -, -, h4⟩ := (hK.2 6 _ (zTys_get G (by decide))).2
      exact Option.some.inj (f1.symm.trans h4)
  generalize hH1 : H.push ({ cls := cA, slots := Array.replicate n.toNatClampNeg .null, vm := .none } : Cell) = H1
  have z1 : H1.size = H.size + 1 := by rw [← hH1, Array.size_push]
  have e1 : H1[H.size]? = some (arrV cA n.toNatClampNeg (fun _ => .null)) := by rw [← hH1, Array.getElem?_push_size, ← arrV_new]
  have o1 : ∀ q : Nat, q < H.size → H1[q]? = H[q]? := fun q hq => by rw [← hH1, Array.getElem?_push, if_neg (Nat.ne_of_lt hq)]
  have k9 := kk H.size H1 lsA (zRep.new hR hi (Nat.le_trans hbase hS.1) (e := .inl (t, (n.toNatClampNeg, .inr (.inr (.inr (.inr (fun _ => none))))))) (show H1[H.size]? = some (vp_cell (G.2.1 t) _) by rw [vp_cell_q, ← hcA]; exact e1) o1 (hw' H.size)) hL _ (zS_new hS z1 o1)
  rw [zup_s] at k9
  exact k9
/-- a cell is put into an array of any, or of seats -/
theorem z_aast (O : zOK G l own cc nL ret ws R mc ms et PQ PX ini X) {i n b ci : Nat} {f : Nat → Option Nat} {x : Int32} {w' : zH} {C : String} {T : u_T} {N : Nat} {fs : List Value} (hC : C ∈ zObs) (hc : vwCl[ci]? = some (C, T, N)) (hdg : decode cc pc = .ok (.aastore, 1)) (hw : w i = some (.inl (6, (n, .inr (.inr (.inr (.inr f))))))) (hb0 : w b = some (.inr (ci, fs))) (j : Nat) (hx : x = nI j) (hj : j < n) (hn : n < 2 ^ 31) (hw' : ∀ k, w' k = if k = i then some (.inl (6, (n, .inr (.inr (.inr (.inr (va_up f j (some (ad b))))))))) else w k)
    (kk : zV G X nL kc ks (pc + 1) lsv rest w' ad) : zV G X nL kc ks pc lsv (.ref (ad b) :: .int x :: .ref (ad i) :: rest) w ad := by
  obtain ⟨p, e, s, m, args, below, meth, c, hx0, hb, hr, hts, hown, hlocks, hml, het, hini, hbase, hK, hSt, hfl, rfl⟩ := O
  intro H lsA hR hL locs hS
  obtain ⟨hin, h2⟩ := z_in hx hj hn
  have hAt := hR.1 i _ hw
  obtain ⟨r', hr', cellV, g1, g2, g3, -⟩ := (hR.1 b _ hb0).2
  have hcls := (hK.1 ci _ hc).2
  obtain ⟨kA, comp, k1, k2, k3, -⟩ := (hK.2 6 _ (zTys_get G (by decide))).2
  obtain ⟨kE, hkE, -⟩ := Vm.findClass_spec k3
  obtain ⟨c0, t1, f1, f2, f3⟩ := Cond.castable_spec (va_Nw.use (A := args) rfl (hSt.2.2.2.2.2.2.2.2.2.2 C hC))
  cases hcls.1.symm.trans f1
  cases k3.symm.trans f2
  obtain ⟨kC, hkC, -⟩ := hcls.2
  have hlt : x.toNatClampNeg < n := by rw [h2]; exact hj
  refine W.aast hx0 hb hAt.2 (fun q h => by cases h) (fun h => by cases h) k1 k2 rfl hkE ⟨fun q => hin (Or.inl q), by show _ < (arrV _ _ _).slots.size; rw [arrV_size]; exact hlt⟩ g1 (fun q h => by rw [g3] at h; cases h) (by rw [g2]; exact hkC) (by rw [g2]; exact f3) rfl rfl hdg fun H1 e z oq => ?_
  refine kk H1 lsA (hR.put hw ?_ oq hw') hL _ (hS.put z oq hAt.1)
  show H1[ad i]? = some (vp_cell _ _)
  rw [e, h2]
  show some ((vp_cell _ _).setSlot _ _) = _
  rw [vp_cell_q, vp_cell_q, arrV_store]
  congr 2
  funext q
  by_cases hq : q = j
  · subst hq
    simp [updV, va_up, va_rf]
  · simp [updV, va_up, hq]
/-- a seat is put into the row of seats -/
theorem z_aast5 (O : zOK G l own cc nL ret ws R mc ms et PQ PX ini X) {i n b : Nat} {f : Nat → Option Nat} {x : Int32} {w' : zH} {fs : List Value} (hdg : decode cc pc = .ok (.aastore, 1)) (hw : w i = some (.inl (5, (n, .inr (.inr (.inr (.inr f))))))) (hb0 : w b = some (.inr (7, fs))) (j : Nat) (hx : x = nI j) (hj : j < n) (hn : n < 2 ^ 31) (hw' : ∀ k, w' k = if k = i then some (.inl (5, (n, .inr (.inr (.inr (.inr (va_up f j (some (ad b))))))))) else w k)
    (kk : zV G X nL kc ks (pc + 1) lsv rest w' ad) : zV G X nL kc ks pc lsv (.ref (ad b) :: .int x :: .ref (ad i) :: rest) w ad := by
  obtain ⟨p, e, s, m, args, below, meth, c, hx0, hb, hr, hts, hown, hlocks, hml, het, hini, hbase, hK, hSt, hfl, rfl⟩ := O
  intro H lsA hR hL locs hS
  obtain ⟨hin, h2⟩ := z_in hx hj hn
  have hAt := hR.1 i _ hw
  obtain ⟨r', hr', cellV, g1, g2, g3, -⟩ := (hR.1 b _ hb0).2
  have hcls := (hK.1 7 _ rfl).2
  obtain ⟨kA, comp, k1, k2, k3, -⟩ := (hK.2 5 _ (zTys_get G (by decide))).2
  have hcomp : comp = G.1.1 7 := Option.some.inj (k3.symm.trans hcls.1)
  subst hcomp
  obtain ⟨kC, hkC, -⟩ := hcls.2
  have hlt : x.toNatClampNeg < n := by rw [h2]; exact hj
  refine W.aast hx0 hb hAt.2 (fun q h => by cases h) (fun h => by cases h) k1 k2 rfl hkC ⟨fun q => hin (Or.inl q), by show _ < (arrV _ _ _).slots.size; rw [arrV_size]; exact hlt⟩ g1 (fun q h => by rw [g3] at h; cases h) (by rw [g2]; exact hkC) (by rw [g2]; exact va_assign hcls) rfl rfl hdg fun H1 e z oq => ?_
  refine kk H1 lsA (hR.put hw ?_ oq hw') hL _ (hS.put z oq hAt.1)
  show H1[ad i]? = some (vp_cell _ _)
  rw [e, h2]
  show some ((vp_cell _ _).setSlot _ _) = _
  rw [vp_cell_q, vp_cell_q, arrV_store]
  congr 2
  funext q
  by_cases hq : q = j
  · subst hq
    simp [updV, va_up, va_rf]
  · simp [updV, va_up, hq]
theorem z_aastN (O : zOK G l own cc nL ret ws R mc ms et PQ PX ini X) {i n : Nat} {f : Nat → Option Nat} {x : Int32} {w' : zH} (hdg : decode cc pc = .ok (.aastore, 1)) (hw : w i = some (.inl (6, (n, .inr (.inr (.inr (.inr f))))))) (j : Nat) (hx : x = nI j) (hj : j < n) (hn : n < 2 ^ 31) (hw' : ∀ k, w' k = if k = i then some (.inl (6, (n, .inr (.inr (.inr (.inr (va_up f j none))))))) else w k)
    (kk : zV G X nL kc ks (pc + 1) lsv rest w' ad) : zV G X nL kc ks pc lsv (.null :: .int x :: .ref (ad i) :: rest) w ad := by
  obtain ⟨p, e, s, m, args, below, meth, c, hx0, hb, hr, hts, hown, hlocks, hml, het, hini, hbase, hK, hSt, hfl, rfl⟩ := O
  intro H lsA hR hL locs hS
  obtain ⟨hin, h2⟩ := z_in hx hj hn
  have hAt := hR.1 i _ hw
  refine va_WaastN (C := "java/lang/Object") hx0 hb hAt.2 ((hK.2 6 _ (zTys_get G (by decide))).1 n (fun j => va_rf (f j))) (fun h => by cases h) (by show ¬ (x < 0 ∨ (arrV _ _ _).slots.size ≤ _); rw [arrV_size]; exact hin) rfl rfl hdg fun H1 e z oq => ?_
  refine kk H1 lsA (hR.put hw ?_ oq hw') hL _ (hS.put z oq hAt.1)
  show H1[ad i]? = some (vp_cell _ _)
  rw [e, h2]
  show some ((vp_cell _ _).setSlot _ _) = _
  rw [vp_cell_q, vp_cell_q, arrV_store]
  congr 2
  funext q
  by_cases hq : q = j
  · subst hq
    simp [updV, va_up, va_rf]
  · simp [updV, va_up, hq]
/-- the lists' shared empty array -/
theorem z_empty (O : zOK G l own cc nL ret ws R mc ms et PQ PX ini X) {index : Nat} (hl : Cond.fieldLink own index "java/util/ArrayList" "DEFAULTCAPACITY_EMPTY_ELEMENTDATA" "[Ljava/lang/Object;" ∈ ws) (hdg : decode cc pc = .ok (.getstatic index, 3))
    (kk : zV G X nL kc ks (pc + 3) lsv (.ref G.2.2.2 :: rest) w ad) : zV G X nL kc ks pc lsv rest w ad := by
  obtain ⟨p, e, s, m, args, below, meth, c, hx0, hb, hr, hts, hown, hlocks, hml, het, hini, hbase, hK, hSt, hfl, rfl⟩ := O
  intro H lsA hR hL locs hS
  exact va_gets hx0 hb hSt.1.2.2.1 hS hown (hts _ hl) (fun _ h => h) hdg (kk H lsA hR hL locs hS)
theorem z_alenE (O : zOK G l own cc nL ret ws R mc ms et PQ PX ini X) (hdg : decode cc pc = .ok (.arraylength, 1))
    (kk : zV G X nL kc ks (pc + 1) lsv (.int 0 :: rest) w ad) : zV G X nL kc ks pc lsv (.ref G.2.2.2 :: rest) w ad := by
  obtain ⟨p, e, s, m, args, below, meth, c, hx0, hb, hr, hts, hown, hlocks, hml, het, hini, hbase, hK, hSt, hfl, rfl⟩ := O
  intro H lsA hR hL locs hS
  obtain ⟨cell, h1, h2, h3, h4, h5, -, h7⟩ := va_T.kept hSt.1.2.2.2 (fun a h1 h2 => hS.2.1 a h1 h2)
  exact W.alen (n := 0) hx0 hb h1 h2 (by rw [h5]; rfl) rfl rfl hdg (kk H lsA hR hL locs hS)
/-- a field that a superclass declares, by the class's own name -/
theorem z_getS (O : zOK G l own cc nL ret ws R mc ms et PQ PX ini X) {C ref : String} {T : u_T} {N ci i fk index : Nat} {fs : List Value} {v : Value} (hin : ∀ x ∈ u_ws C T N, x ∈ ws) (hc : vwCl[ci]? = some (C, T, N)) (hk : fk < N) (hlink : Cond.fieldLink own index ref (T fk).2.1 (T fk).2.2.1 ∈ ws) (hsm : Cond.sameField ref (T fk).1 (T fk).2.1 (T fk).2.2.1 ∈ ws) (hdg : decode cc pc = .ok (.getfield index, 3)) (hw : w i = some (.inr (ci, fs))) (hv : fs[fk]? = some v)
    (kk : zV G X nL kc ks (pc + 3) lsv (v :: rest) w ad) : zV G X nL kc ks pc lsv (.ref (ad i) :: rest) w ad := by
  obtain ⟨p, e, s, m, args, below, meth, c, hx, hb, hr, hts, hown, hlocks, hml, het, hini, hbase, hK, hSt, hfl, rfl⟩ := O
  intro H lsA hR hL locs hS
  exact va_get (ref := ref) hx hb hts hin hown hK (zP1 (hR.1 i _ hw).2) 0 (fs := fs) rfl hc fk hk (hts _ hlink) (fun y h => u_same (hts _ hsm) y h) hv hdg (kk H lsA hR hL locs hS)
theorem z_putS (O : zOK G l own cc nL ret ws R mc ms et PQ PX ini X) {C ref : String} {T : u_T} {N ci i fk index : Nat} {fs : List Value} {v : Value} {w' : zH} (hin : ∀ x ∈ u_ws C T N, x ∈ ws) (ty0 : Nat → FieldType) (hty : ∀ k, k < N → parseFieldDescriptor (T k).2.2.1 = some (ty0 k)) (hnm : ∀ a, a < N → ∀ b, b < N → a ≠ b → (T a).2.1 ≠ (T b).2.1) (hc : vwCl[ci]? = some (C, T, N)) (hk : fk < N) (hlink : Cond.fieldLink own index ref (T fk).2.1 (T fk).2.2.1 ∈ ws) (hsm : Cond.sameField ref (T fk).1 (T fk).2.1 (T fk).2.2.1 ∈ ws) (hfin : (T fk).2.2.2 = false) (hdg : decode cc pc = .ok (.putfield index, 3)) (hn : narrow (ty0 fk) v = v) (hfit : fits (ty0 fk) v = true)
    (hw : w i = some (.inr (ci, fs))) (hl : fk < fs.length) (hw' : ∀ j, w' j = if j = i then some (.inr (ci, fs.set fk v)) else w j) (kk : zV G X nL kc ks (pc + 3) lsv rest w' ad) : zV G X nL kc ks pc lsv (v :: .ref (ad i) :: rest) w ad := by
  obtain ⟨p, e, s, m, args, below, meth, c, hx, hb, hr, hts, hown, hlocks, hml, het, hini, hbase, hK, hSt, hfl, rfl⟩ := O
  intro H lsA hR hL locs hS
  have hap := va_apart (own := own) hts hin ty0 hty hnm hK hc
  have hAt := hR.1 i _ hw
  obtain ⟨r, h1, cell, q1, q2, q3, q4⟩ := hAt.2
  have hr2 : r = (C, T, N) := Option.some.inj (h1.symm.trans hc)
  subst hr2
  obtain ⟨hSl, hfc, kC, hkC, hkind⟩ := hK.1 ci _ hc
  obtain ⟨cf, kf, fi, f, hi, hsl⟩ := hSl fk hk
  have hlay := hts _ (hin _ (u_in_lay hk))
  unfold u_lay at hlay
  rw [if_neg (by rw [hfin]; decide)] at hlay
  have hst := (u_facts hfc hkC (u_lays hts hin hk) hi).1
  have h6 := u_store hfc hkC hkind hlay hi (hty fk hk) hn hfit
  refine W.putK hx hb (f := f) ⟨hown, hts _ hlink, ⟨_, _, _, u_same (hts _ hsm) _ hi⟩, hst⟩ (by rw [q2]; exact h6) q1 q3 (by rw [hsl]; exact k2_hasslot (q4 fk hk)) rfl rfl hdg fun H' e1 e2 e3 => ?_
  rw [hsl] at e1 ⊢
  exact kk H' lsA (hR.put (e := .inr (ci, fs.set fk v)) hw ⟨_, hc, t_OB.to (V := updV (vp_V fs) fk v) ⟨_, e1, q2, q3, t_set q4 hap hk v⟩ (fun j _ => vp_updV_set hl v j)⟩ e3 hw') hL _ (hS.put e2 e3 hAt.1)
end ZROWS2
