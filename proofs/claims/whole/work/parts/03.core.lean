/-! ===== the abstract heap: cells by a number each, addresses aside; judgements over it ===== -/
/-- the fixed things: class numbers and slots, the classes of arrays by their kind, the least address of the run's own cells, the address of the lists' shared empty array, that of the class object of rows of objects -/
abbrev zG : Type := va_G × (Nat → ClassId) × Nat × Nat × Nat
def zTy (t : Nat) : FieldType := match t with
  | 0 => .int
  | 1 => .char
  | 2 => .boolean
  | 3 => .long
  | 4 => .double
  | 5 => .object "ClaqueRow$Seat"
  | _ => .object "java/lang/Object"
abbrev zE : Type := (Nat × vp_A) ⊕ (Nat × List Value)
abbrev zH : Type := Nat → Option zE
def zEn (G : zG) (e : zE) : va_E := match e with
  | .inl a => .inl (G.2.1 a.1, a.2)
  | .inr o => .inr o
def zA (G : zG) (q : Nat) : Prop := G.2.2.1 ≤ q
def zRep (G : zG) (w : zH) (ad : Nat → Nat) (H : Heap) : Prop :=
  (∀ i e, w i = some e → zA G (ad i) ∧ va_at G.1 vwCl (ad i, zEn G e) H) ∧
  (∀ i j, w i ≠ none → w j ≠ none → ad i = ad j → i = j)
def zTys (G : zG) : List (ClassId × FieldType) := (List.range 7).map (fun t => (G.2.1 t, zTy t))
theorem zTys_get (G : zG) {t : Nat} (h : t < 7) : (zTys G)[t]? = some (G.2.1 t, zTy t) := by
  simp [zTys, h]
/-- the exceptions, which of them are which, and the texts -/
def zExs : List String := ["java/lang/IllegalArgumentException", "java/lang/IndexOutOfBoundsException", "java/lang/UnsupportedOperationException", "java/lang/IllegalStateException", "java/util/NoSuchElementException", "java/lang/ArithmeticException"]
def zStr : List (Nat × String) := [(251, "a number is out of range"), (258, "there is no such seat"), (261, "there is no such hand"), (80, "this hand is there"), (254, "there is no such kind"), (106, "there are 12 hands"), (116, "there are 6 singers"), (263, "there is no such singer"), (129, "the tick has gone by"), (134, "there are 12 cues"), (243, "there is no house"), (163, "there is no payer"), (194, "nothing is owed"), (202, "the purse is empty"), (270, "there is no plan"), (240, "there are no payers")]
def zNst : List (String × Nat × MethodName × String) := [("ClaqueRow$House", 24, ⟨"ClaqueRow$Seat", "<init>", "()V"⟩, "ClaqueRow"), ("ClaqueRow", 18, ⟨"ClaqueRow$Troupe", "<init>", "()V"⟩, "ClaqueRow"), ("ClaqueRow", 32, ⟨"ClaqueRow$Evening", "<init>", "()V"⟩, "ClaqueRow")]
/-- the statics that the run reads: what a throw stores, and the lists' empty array -/
def zSt0 (G : zG) (U : State) (H : Heap) : Prop :=
  vx_Zq Bundle.tN "UNASSIGNED_STACK" Bundle.steD (zA G) U H ∧ vx_Zq Bundle.tN "SUPPRESSED_SENTINEL" Bundle.listD (zA G) U H ∧
  va_Z "java/util/ArrayList" "DEFAULTCAPACITY_EMPTY_ELEMENTDATA" "[Ljava/lang/Object;" (.ref G.2.2.2.1) (zA G) U H ∧ va_T (.object "java/lang/Object") G.2.2.2.1 0 (fun _ => .null) (zA G) U H
def zObs : List String := ["ClaqueRow$Hand", "ClaqueRow$Singer", "ClaqueRow$Cue"]
def zDec : List String := ["java/lang/RuntimeException", "java/lang/Exception", Bundle.tN]
/-- what the tables say beside the words: the texts; which exception is which; nest mates; the class object of rows of objects; arrays over our classes -/
def zSt1 (G : zG) (U : State) : Prop :=
  (∀ t ∈ zStr, ∃ a, vk_R RX7 t.1 t.2 a U) ∧ (∀ E ∈ zExs, va_Nw (.castable E E) U) ∧ (∀ E ∈ zExs, ∀ F ∈ zExs, E ≠ F → va_Nc E F U) ∧
  (∀ t ∈ zNst, va_Nw (.methodLinkNest t.1 t.2.1 t.2.2.1 t.2.2.2) U) ∧ va_Mi "[Ljava/lang/Object;" G.2.2.2.2 U ∧ va_Dc U ∧ va_AO "ClaqueRow$Seat" U ∧ va_AO "java/lang/Object" U ∧ (∀ Y ∈ zDec, va_Nw (.declares (Bundle.initS Y)) U) ∧ (∀ C ∈ zObs, va_Nw (.castable C "java/lang/Object") U)
def zSt (G : zG) (U : State) (H : Heap) : Prop := zSt0 G U H ∧ zSt1 G U
theorem zSt1.moved {G : zG} {u U : State} (hW : u.WarmedH U.vm) (h : zSt1 G u) : zSt1 G U := by
  obtain ⟨h1, h2, h3, h4, h5, h6, h7, h8, h9, h10⟩ := h
  exact ⟨fun t ht => (h1 t ht).elim fun a ha => ⟨a, vk_R.warm hW ha⟩, fun E hE => va_Nw.warmC hW (h2 E hE), fun E hE F hF n => va_Nc.moved hW.alike (h3 E hE F hF n), fun t ht => va_Nw.warmM hW (h4 t ht), va_Mi.moved hW.alike h5, va_Dc.moved hW.alike h6, va_AO.moved hW.alike h7, va_AO.moved hW.alike h8, fun Y hY => va_Nw.warmD hW (h9 Y hY), fun C hC => va_Nw.warmC hW (h10 C hC)⟩
theorem zSt.moved {G : zG} {u U : State} {H : Heap} (hW : u.WarmedH U.vm) (h : zSt G u H) : zSt G U H :=
  ⟨⟨vx_Zq.moved hW.alike h.1.1, vx_Zq.moved hW.alike h.1.2.1, va_Z.moved hW.alike h.1.2.2.1, va_T.moved hW.alike h.1.2.2.2⟩, zSt1.moved hW h.2⟩
theorem zSt.kept {G : zG} {U : State} {H H1 : Heap} (h : zSt G U H) (hq : ∀ a : Nat, a < H.size → ¬ zA G a → H1[a]? = H[a]?) : zSt G U H1 :=
  ⟨⟨vx_Zq.kept h.1.1 hq, vx_Zq.kept h.1.2.1 hq, va_Z.kept h.1.2.2.1 hq, va_T.kept h.1.2.2.2 hq⟩, h.2⟩
/-- what a method may stand on -/
def zWo (G : zG) (w : zH) (ad : Nat → Nat) (U : State) : Prop :=
  zRep G w ad U.heap ∧ G.2.2.1 ≤ U.heap.size ∧ va_K G.1 vwCl (zTys G) U ∧ zSt G U U.heap
def zQ (G : zG) (PQ : Option Value → zH → (Nat → Nat) → Prop) : Array Value → State → Outcome → State → Prop := fun _ st o t =>
  (∃ (r : Option Value) (w : zH) (ad : Nat → Nat), o = .returned r ∧ PQ r w ad ∧ zRep G w ad t.heap) ∧ va_F (zA G) st t
def zX (G : zG) (PX : String → zH → (Nat → Nat) → Prop) : String → State → State → Prop := fun E st t =>
  (∃ (w : zH) (ad : Nat → Nat), PX E w ad ∧ zRep G w ad t.heap) ∧ va_F (zA G) st t
/-- the contract of a method at an abstract world -/
def zCt (G : zG) (l : Launch) (y : MethodName) (ws : List Cond) (rm : Room) (av : List Value) (w : zH) (ad : Nat → Nat) (PQ : Option Value → zH → (Nat → Nat) → Prop) (PX : String → zH → (Nat → Nat) → Prop) : Prop :=
  vx_Met l y ws rm (va_Pc av (zWo G w ad)) (zQ G PQ) (zX G PX) rm.cells rm.slots (zA G)
theorem zWo.moved {G : zG} {w : zH} {ad : Nat → Nat} {u U : State} (hW : u.WarmedH U.vm) (hh : U.heap = u.heap) (h : zWo G w ad u) : zWo G w ad U := by
  obtain ⟨h1, h2, h3, h4⟩ := h
  exact ⟨by rw [hh]; exact h1, by rw [hh]; exact h2, va_K.moved hW.alike h3, by rw [hh]; exact zSt.moved hW h4⟩
theorem zBlind {G : zG} {av : List Value} {w : zH} {ad : Nat → Nat} : FrameBlind (va_Pc av (zWo G w ad)) := by
  intro a U g mk h
  exact ⟨h.1, zWo.moved (u := U) (U := U.calling g mk a) (State.WarmedH.refl U) rfl h.2⟩
theorem zat_kept {G : zG} {q : Nat} {e : zE} {H H1 : Heap} (h : va_at G.1 vwCl (q, zEn G e) H) (hq : H1[q]? = H[q]?) : va_at G.1 vwCl (q, zEn G e) H1 := va_at.kept h hq
theorem zRep.kept {G : zG} {w : zH} {ad : Nat → Nat} {H H1 : Heap} (h : zRep G w ad H) (hq : ∀ q : Nat, q < H.size → H1[q]? = H[q]?) : zRep G w ad H1 :=
  ⟨fun i e hi => ⟨(h.1 i e hi).1, (h.1 i e hi).2.kept (hq _ (h.1 i e hi).2.lt)⟩, h.2⟩
theorem zRep.put {G : zG} {w w' : zH} {ad : Nat → Nat} {H H1 : Heap} {i : Nat} {e0 e : zE} (h : zRep G w ad H) (hw : w i = some e0) (he : va_at G.1 vwCl (ad i, zEn G e) H1) (oq : ∀ q : Nat, q ≠ ad i → H1[q]? = H[q]?)
    (hw' : ∀ j, w' j = if j = i then some e else w j) : zRep G w' ad H1 := by
  have hn : ∀ j, w' j ≠ none → w j ≠ none := by
    intro j hj
    rw [hw'] at hj
    by_cases hji : j = i
    · subst hji; rw [hw]; intro z; cases z
    · rwa [if_neg hji] at hj
  refine ⟨fun j f hj => ?_, fun a b ha hb => h.2 a b (hn a ha) (hn b hb)⟩
  rw [hw'] at hj
  by_cases hji : j = i
  · subst hji
    rw [if_pos rfl] at hj
    cases hj
    exact ⟨(h.1 _ _ hw).1, he⟩
  · rw [if_neg hji] at hj
    refine ⟨(h.1 _ _ hj).1, (h.1 _ _ hj).2.kept (oq _ fun z => hji (h.2 j i ?_ ?_ z))⟩
    · rw [hj]; intro z; cases z
    · rw [hw]; intro z; cases z
/-- a new cell -/
theorem zRep.new {G : zG} {w w' : zH} {ad : Nat → Nat} {H H1 : Heap} {i : Nat} {e : zE} (h : zRep G w ad H) (hi : w i = none) (hb : zA G H.size) (he : va_at G.1 vwCl (H.size, zEn G e) H1) (oq : ∀ q : Nat, q < H.size → H1[q]? = H[q]?)
    (hw' : ∀ j, w' j = if j = i then some e else w j) : zRep G w' (va_up ad i H.size) H1 := by
  have hlt : ∀ j, j ≠ i → w' j ≠ none → ad j < H.size ∧ w j ≠ none := by
    intro j hji hj
    rw [hw', if_neg hji] at hj
    cases hwj : w j with
    | none => exact absurd hwj hj
    | some f => exact ⟨(h.1 j f hwj).2.lt, fun z => by cases z⟩
  refine ⟨fun j f hj => ?_, fun a b ha hb2 hab => ?_⟩
  · by_cases hji : j = i
    · subst hji
      rw [hw', if_pos rfl] at hj
      cases hj
      simp only [va_up, if_true]
      exact ⟨hb, he⟩
    · rw [hw', if_neg hji] at hj
      simp only [va_up, if_neg hji]
      exact ⟨(h.1 _ _ hj).1, (h.1 _ _ hj).2.kept (oq _ (h.1 _ _ hj).2.lt)⟩
  · by_cases hai : a = i <;> by_cases hbi : b = i
    · rw [hai, hbi]
    · have := (hlt b hbi hb2).1
      simp only [va_up, hai, if_true, if_neg hbi] at hab
      omega
    · have := (hlt a hai ha).1
      simp only [va_up, hbi, if_true, if_neg hai] at hab
      omega
    · simp only [va_up, if_neg hai, if_neg hbi] at hab
      exact h.2 a b (hlt a hai ha).2 (hlt b hbi hb2).2 hab
/-- a part of the world is left out of sight -/
theorem zRep.less {G : zG} {w w' : zH} {ad : Nat → Nat} {H : Heap} (h : zRep G w ad H) (hw' : ∀ j e, w' j = some e → w j = some e) : zRep G w' ad H := by
  have hn : ∀ j, w' j ≠ none → w j ≠ none := by
    intro j hj
    cases hx : w' j with
    | none => exact absurd hx hj
    | some f => rw [hw' j f hx]; intro z; cases z
  exact ⟨fun i e hi => h.1 i e (hw' i e hi), fun a b ha hb => h.2 a b (hn a ha) (hn b hb)⟩
theorem zRep.same {G : zG} {w w' : zH} {ad ad' : Nat → Nat} {H : Heap} (h : zRep G w ad H) (hw' : ∀ j, w' j = w j) (ha : ∀ j, w j ≠ none → ad' j = ad j) : zRep G w' ad' H := by
  have e : w' = w := funext hw'
  subst e
  refine ⟨fun i e hi => ?_, fun a b h1 h2 hab => h.2 a b h1 h2 (by rw [← ha a h1, ← ha b h2]; exact hab)⟩
  have hn : w' i ≠ none := by rw [hi]; intro z; cases z
  rw [ha i hn]
  exact h.1 i e hi
abbrev zXT : Type := Heap → Nat → Nat → Nat → Array Slot → List Value → Prop
/-- X is the walk of a body: of a method of class own, whose code is cc, which owes PQ and PX -/
def zOK (G : zG) (l : Launch) (own : String) (cc : ByteArray) (nL : Nat) (ret : Option FieldType) (ws : List Cond) (R : Room) (mc ms : Nat) (et : List ExceptionTableEntry) (PQ : Option Value → zH → (Nat → Nat) → Prop) (PX : String → zH → (Nat → Nat) → Prop) (ini : Prop) (X : zXT) : Prop :=
  ∃ (p : Program) (e : Env) (s : State) (m : MethodId) (args : Array Value) (below : List Frame) (meth : Method) (c : Code),
    p.tables.exec = Jvm.exec ∧ c.code = cc ∧ meth.sig.returnType = ret ∧ (∀ w ∈ ws, w.before args s = true) ∧ s.vm.findClass own = some m.cls ∧ meth.locks = false ∧ c.maxLocals = nL ∧
    c.exceptionTable.toList = et ∧ (ini → meth.name = "<init>") ∧ G.2.2.1 ≤ s.heap.size ∧ va_K G.1 vwCl (zTys G) s ∧ zSt G s s.heap ∧ l.stackTraces = false ∧
    X = fun H k n pc ls st => ∀ locs, va_S (zA G) s.heap H locs → W p l e R s m args below meth c H locs k n (vx_MQ below (zQ G PQ) (zX G PX) args s mc ms (zA G)) (F0 m pc ls st)
def zV (G : zG) (X : zXT) (nL k n pc : Nat) (ls : List (Nat × Value)) (st : List Value) (w : zH) (ad : Nat → Nat) : Prop :=
  ∀ (H : Heap) (lsA : Array Slot), zRep G w ad H → lv_has lsA nL ls → X H k n pc lsA st
/-- a local by its number -/
def zL : List (Nat × Value) → Nat → Option Value
  | [], _ => none
  | q :: t, i => if q.1 = i then some q.2 else zL t i
theorem zL_mem : ∀ {ls : List (Nat × Value)} {i : Nat} {v : Value}, zL ls i = some v → (i, v) ∈ ls
  | [], _, _, h => by cases h
  | q :: t, i, v, h => by
    unfold zL at h
    by_cases hq : q.1 = i
    · rw [if_pos hq] at h
      cases h
      rw [← hq]
      exact List.mem_cons_self
    · rw [if_neg hq] at h
      exact List.mem_cons_of_mem _ (zL_mem h)
theorem zL_at {lsA : Array Slot} {nL i : Nat} {lsv : List (Nat × Value)} {v : Value} (h : lv_has lsA nL lsv) (hl : zL lsv i = some v) : lsA[i]? = some (.val v) := h.2.2 (i, v) (zL_mem hl)
def zS (ls : List (Nat × Value)) (i : Nat) (v : Value) : List (Nat × Value) := (i, v) :: ls.filter (fun q => !(q.1 == i) && !(q.1 + 1 == i && q.2.category == 2))
def zS2 (ls : List (Nat × Value)) (i : Nat) (v : Value) : List (Nat × Value) := (i, v) :: ls.filter (fun q => !(q.1 == i) && (!(q.1 == i + 1) && !(q.1 + 1 == i && q.2.category == 2)))
/-- all of these are among those -/
def zSubs (ls : List (Nat × Value)) : List (Nat × Value) → Prop
  | [] => True
  | q :: t => zL ls q.1 = some q.2 ∧ zSubs ls t
theorem zSubs_has {lsA : Array Slot} {nL : Nat} {ls : List (Nat × Value)} (h : lv_has lsA nL ls) : ∀ {l' : List (Nat × Value)}, zSubs ls l' → lv_has lsA nL l' := by
  intro l' hs
  refine ⟨h.1, h.2.1, ?_⟩
  induction l' with
  | nil => intro q hq; cases hq
  | cons x t ih =>
    intro q hq
    rcases List.mem_cons.mp hq with e | hq
    · subst e
      exact zL_at h hs.1
    · exact ih hs.2 q hq
section ZROWS
variable {G : zG} {l : Launch} {own : String} {cc : ByteArray} {nL : Nat} {ret : Option FieldType} {ws : List Cond} {R : Room} {mc ms : Nat} {et : List ExceptionTableEntry} {PQ : Option Value → zH → (Nat → Nat) → Prop} {PX : String → zH → (Nat → Nat) → Prop} {ini : Prop} {X : zXT} {kc ks pc : Nat} {lsv : List (Nat × Value)} {rest : List Value} {w : zH} {ad : Nat → Nat}
/-- fewer locals, another say of the same world -/
theorem zV.to {ls' : List (Nat × Value)} {st' : List Value} {w' : zH} (k : zV G X nL kc ks pc ls' st' w' ad) (hl : zSubs lsv ls') (hs : st' = rest) (hw : w' = w) : zV G X nL kc ks pc lsv rest w ad := by
  subst hs hw
  exact fun H lsA hR hL => k H lsA hR (zSubs_has hL hl)
theorem zV.loc {ls' : List (Nat × Value)} (k : zV G X nL kc ks pc ls' rest w ad) (hl : zSubs lsv ls') : zV G X nL kc ks pc lsv rest w ad := fun H lsA hR hL => k H lsA hR (zSubs_has hL hl)
theorem zV.world {w' : zH} {ad' : Nat → Nat} (k : zV G X nL kc ks pc lsv rest w' ad') (hw : ∀ H, zRep G w ad H → zRep G w' ad' H) : zV G X nL kc ks pc lsv rest w ad := fun H lsA hR hL => k H lsA (hw H hR) hL
theorem z_iconst (O : zOK G l own cc nL ret ws R mc ms et PQ PX ini X) {n : Int} {v : Int32} (hdg : decode cc pc = .ok (.iconst n, 1)) (hv : Int32.ofInt n = v) (k : zV G X nL kc ks (pc + 1) lsv (.int v :: rest) w ad) : zV G X nL kc ks pc lsv (rest) w ad := by
  obtain ⟨p, e, s, m, args, below, meth, c, hx, hb, -, -, -, -, -, -, -, -, -, -, -, rfl⟩ := O
  intro H lsA hR hL locs hS
  exact lv_iconst hx hb (hdg := hdg) (hv := hv) (k := (k H lsA hR hL locs hS))
theorem z_bipush (O : zOK G l own cc nL ret ws R mc ms et PQ PX ini X) {n : Int} {v : Int32} (hdg : decode cc pc = .ok (.bipush n, 2)) (hv : (Int8.ofInt n).toInt32 = v) (k : zV G X nL kc ks (pc + 2) lsv (.int v :: rest) w ad) : zV G X nL kc ks pc lsv (rest) w ad := by
  obtain ⟨p, e, s, m, args, below, meth, c, hx, hb, -, -, -, -, -, -, -, -, -, -, -, rfl⟩ := O
  intro H lsA hR hL locs hS
  exact lv_bipush hx hb (hdg := hdg) (hv := hv) (k := (k H lsA hR hL locs hS))
theorem z_sipush (O : zOK G l own cc nL ret ws R mc ms et PQ PX ini X) {n : Int} {v : Int32} (hdg : decode cc pc = .ok (.sipush n, 3)) (hv : (Int16.ofInt n).toInt32 = v) (k : zV G X nL kc ks (pc + 3) lsv (.int v :: rest) w ad) : zV G X nL kc ks pc lsv (rest) w ad := by
  obtain ⟨p, e, s, m, args, below, meth, c, hx, hb, -, -, -, -, -, -, -, -, -, -, -, rfl⟩ := O
  intro H lsA hR hL locs hS
  exact lv_sipush hx hb (hdg := hdg) (hv := hv) (k := (k H lsA hR hL locs hS))
theorem z_lconst (O : zOK G l own cc nL ret ws R mc ms et PQ PX ini X) {n : Fin 2} {v : Int64} (hdg : decode cc pc = .ok (.lconst n, 1)) (hv : Int64.ofNat (n : Nat) = v) (k : zV G X nL kc ks (pc + 1) lsv (.long v :: rest) w ad) : zV G X nL kc ks pc lsv (rest) w ad := by
  obtain ⟨p, e, s, m, args, below, meth, c, hx, hb, -, -, -, -, -, -, -, -, -, -, -, rfl⟩ := O
  intro H lsA hR hL locs hS
  exact lv_lconst hx hb (hdg := hdg) (hv := hv) (k := (k H lsA hR hL locs hS))
theorem z_iadd (O : zOK G l own cc nL ret ws R mc ms et PQ PX ini X) {x y : Int32} (hdg : decode cc pc = .ok (.iadd, 1))  (k : zV G X nL kc ks (pc + 1) lsv (.int (x + y) :: rest) w ad) : zV G X nL kc ks pc lsv (.int y :: .int x :: rest) w ad := by
  obtain ⟨p, e, s, m, args, below, meth, c, hx, hb, -, -, -, -, -, -, -, -, -, -, -, rfl⟩ := O
  intro H lsA hR hL locs hS
  exact lv_iadd hx hb (hdg := hdg) (k := (k H lsA hR hL locs hS))
theorem z_isub (O : zOK G l own cc nL ret ws R mc ms et PQ PX ini X) {x y : Int32} (hdg : decode cc pc = .ok (.isub, 1))  (k : zV G X nL kc ks (pc + 1) lsv (.int (x - y) :: rest) w ad) : zV G X nL kc ks pc lsv (.int y :: .int x :: rest) w ad := by
  obtain ⟨p, e, s, m, args, below, meth, c, hx, hb, -, -, -, -, -, -, -, -, -, -, -, rfl⟩ := O
  intro H lsA hR hL locs hS
  exact lv_isub hx hb (hdg := hdg) (k := (k H lsA hR hL locs hS))
theorem z_imul (O : zOK G l own cc nL ret ws R mc ms et PQ PX ini X) {x y : Int32} (hdg : decode cc pc = .ok (.imul, 1))  (k : zV G X nL kc ks (pc + 1) lsv (.int (x * y) :: rest) w ad) : zV G X nL kc ks pc lsv (.int y :: .int x :: rest) w ad := by
  obtain ⟨p, e, s, m, args, below, meth, c, hx, hb, -, -, -, -, -, -, -, -, -, -, -, rfl⟩ := O
  intro H lsA hR hL locs hS
  exact lv_imul hx hb (hdg := hdg) (k := (k H lsA hR hL locs hS))
theorem z_iand (O : zOK G l own cc nL ret ws R mc ms et PQ PX ini X) {x y : Int32} (hdg : decode cc pc = .ok (.iand, 1))  (k : zV G X nL kc ks (pc + 1) lsv (.int (x &&& y) :: rest) w ad) : zV G X nL kc ks pc lsv (.int y :: .int x :: rest) w ad := by
  obtain ⟨p, e, s, m, args, below, meth, c, hx, hb, -, -, -, -, -, -, -, -, -, -, -, rfl⟩ := O
  intro H lsA hR hL locs hS
  exact lv_iand hx hb (hdg := hdg) (k := (k H lsA hR hL locs hS))
theorem z_ior (O : zOK G l own cc nL ret ws R mc ms et PQ PX ini X) {x y : Int32} (hdg : decode cc pc = .ok (.ior, 1))  (k : zV G X nL kc ks (pc + 1) lsv (.int (x ||| y) :: rest) w ad) : zV G X nL kc ks pc lsv (.int y :: .int x :: rest) w ad := by
  obtain ⟨p, e, s, m, args, below, meth, c, hx, hb, -, -, -, -, -, -, -, -, -, -, -, rfl⟩ := O
  intro H lsA hR hL locs hS
  exact lv_ior hx hb (hdg := hdg) (k := (k H lsA hR hL locs hS))
theorem z_ixor (O : zOK G l own cc nL ret ws R mc ms et PQ PX ini X) {x y : Int32} (hdg : decode cc pc = .ok (.ixor, 1))  (k : zV G X nL kc ks (pc + 1) lsv (.int (x ^^^ y) :: rest) w ad) : zV G X nL kc ks pc lsv (.int y :: .int x :: rest) w ad := by
  obtain ⟨p, e, s, m, args, below, meth, c, hx, hb, -, -, -, -, -, -, -, -, -, -, -, rfl⟩ := O
  intro H lsA hR hL locs hS
  exact lv_ixor hx hb (hdg := hdg) (k := (k H lsA hR hL locs hS))
theorem z_idiv (O : zOK G l own cc nL ret ws R mc ms et PQ PX ini X) {x y : Int32} (hdg : decode cc pc = .ok (.idiv, 1)) (hne : ¬ y = 0) (k : zV G X nL kc ks (pc + 1) lsv (.int (x / y) :: rest) w ad) : zV G X nL kc ks pc lsv (.int y :: .int x :: rest) w ad := by
  obtain ⟨p, e, s, m, args, below, meth, c, hx, hb, -, -, -, -, -, -, -, -, -, -, -, rfl⟩ := O
  intro H lsA hR hL locs hS
  exact lv_idiv hx hb (hdg := hdg) (hne := hne) (k := (k H lsA hR hL locs hS))
theorem z_irem (O : zOK G l own cc nL ret ws R mc ms et PQ PX ini X) {x y : Int32} (hdg : decode cc pc = .ok (.irem, 1)) (hne : ¬ y = 0) (k : zV G X nL kc ks (pc + 1) lsv (.int (x - x / y * y) :: rest) w ad) : zV G X nL kc ks pc lsv (.int y :: .int x :: rest) w ad := by
  obtain ⟨p, e, s, m, args, below, meth, c, hx, hb, -, -, -, -, -, -, -, -, -, -, -, rfl⟩ := O
  intro H lsA hR hL locs hS
  exact lv_irem hx hb (hdg := hdg) (hne := hne) (k := (k H lsA hR hL locs hS))
theorem z_ineg (O : zOK G l own cc nL ret ws R mc ms et PQ PX ini X) {x : Int32} (hdg : decode cc pc = .ok (.ineg, 1))  (k : zV G X nL kc ks (pc + 1) lsv (.int (-x) :: rest) w ad) : zV G X nL kc ks pc lsv (.int x :: rest) w ad := by
  obtain ⟨p, e, s, m, args, below, meth, c, hx, hb, -, -, -, -, -, -, -, -, -, -, -, rfl⟩ := O
  intro H lsA hR hL locs hS
  exact lv_ineg hx hb (hdg := hdg) (k := (k H lsA hR hL locs hS))
theorem z_ladd (O : zOK G l own cc nL ret ws R mc ms et PQ PX ini X) {x y : Int64} (hdg : decode cc pc = .ok (.ladd, 1))  (k : zV G X nL kc ks (pc + 1) lsv (.long (x + y) :: rest) w ad) : zV G X nL kc ks pc lsv (.long y :: .long x :: rest) w ad := by
  obtain ⟨p, e, s, m, args, below, meth, c, hx, hb, -, -, -, -, -, -, -, -, -, -, -, rfl⟩ := O
  intro H lsA hR hL locs hS
  exact lv_ladd hx hb (hdg := hdg) (k := (k H lsA hR hL locs hS))
theorem z_lsub (O : zOK G l own cc nL ret ws R mc ms et PQ PX ini X) {x y : Int64} (hdg : decode cc pc = .ok (.lsub, 1))  (k : zV G X nL kc ks (pc + 1) lsv (.long (x - y) :: rest) w ad) : zV G X nL kc ks pc lsv (.long y :: .long x :: rest) w ad := by
  obtain ⟨p, e, s, m, args, below, meth, c, hx, hb, -, -, -, -, -, -, -, -, -, -, -, rfl⟩ := O
  intro H lsA hR hL locs hS
  exact lv_lsub hx hb (hdg := hdg) (k := (k H lsA hR hL locs hS))
theorem z_lmul (O : zOK G l own cc nL ret ws R mc ms et PQ PX ini X) {x y : Int64} (hdg : decode cc pc = .ok (.lmul, 1))  (k : zV G X nL kc ks (pc + 1) lsv (.long (x * y) :: rest) w ad) : zV G X nL kc ks pc lsv (.long y :: .long x :: rest) w ad := by
  obtain ⟨p, e, s, m, args, below, meth, c, hx, hb, -, -, -, -, -, -, -, -, -, -, -, rfl⟩ := O
  intro H lsA hR hL locs hS
  exact lv_lmul hx hb (hdg := hdg) (k := (k H lsA hR hL locs hS))
theorem z_ldiv (O : zOK G l own cc nL ret ws R mc ms et PQ PX ini X) {x y : Int64} (hdg : decode cc pc = .ok (.ldiv, 1)) (hne : ¬ y = 0) (k : zV G X nL kc ks (pc + 1) lsv (.long (x / y) :: rest) w ad) : zV G X nL kc ks pc lsv (.long y :: .long x :: rest) w ad := by
  obtain ⟨p, e, s, m, args, below, meth, c, hx, hb, -, -, -, -, -, -, -, -, -, -, -, rfl⟩ := O
  intro H lsA hR hL locs hS
  exact lv_ldiv hx hb (hdg := hdg) (hne := hne) (k := (k H lsA hR hL locs hS))
theorem z_ishl (O : zOK G l own cc nL ret ws R mc ms et PQ PX ini X) {x y : Int32} (hdg : decode cc pc = .ok (.ishl, 1))  (k : zV G X nL kc ks (pc + 1) lsv (.int (x <<< (y &&& 31)) :: rest) w ad) : zV G X nL kc ks pc lsv (.int y :: .int x :: rest) w ad := by
  obtain ⟨p, e, s, m, args, below, meth, c, hx, hb, -, -, -, -, -, -, -, -, -, -, -, rfl⟩ := O
  intro H lsA hR hL locs hS
  exact lv_ishl hx hb (hdg := hdg) (k := (k H lsA hR hL locs hS))
theorem z_ishr (O : zOK G l own cc nL ret ws R mc ms et PQ PX ini X) {x y : Int32} (hdg : decode cc pc = .ok (.ishr, 1))  (k : zV G X nL kc ks (pc + 1) lsv (.int (x >>> (y &&& 31)) :: rest) w ad) : zV G X nL kc ks pc lsv (.int y :: .int x :: rest) w ad := by
  obtain ⟨p, e, s, m, args, below, meth, c, hx, hb, -, -, -, -, -, -, -, -, -, -, -, rfl⟩ := O
  intro H lsA hR hL locs hS
  exact lv_ishr hx hb (hdg := hdg) (k := (k H lsA hR hL locs hS))
theorem z_iushr (O : zOK G l own cc nL ret ws R mc ms et PQ PX ini X) {x y v : Int32} (hdg : decode cc pc = .ok (.iushr, 1)) (hv : (x.toUInt32 >>> (y.toUInt32 &&& Int32.toUInt32 31)).toInt32 = v) (k : zV G X nL kc ks (pc + 1) lsv (.int v :: rest) w ad) : zV G X nL kc ks pc lsv (.int y :: .int x :: rest) w ad := by
  obtain ⟨p, e, s, m, args, below, meth, c, hx, hb, -, -, -, -, -, -, -, -, -, -, -, rfl⟩ := O
  intro H lsA hR hL locs hS
  exact lv_iushr hx hb (hdg := hdg) (hv := hv) (k := (k H lsA hR hL locs hS))
theorem z_i2l (O : zOK G l own cc nL ret ws R mc ms et PQ PX ini X) {x : Int32} {v : Int64} (hdg : decode cc pc = .ok (.i2l, 1)) (hv : x.toInt64 = v) (k : zV G X nL kc ks (pc + 1) lsv (.long v :: rest) w ad) : zV G X nL kc ks pc lsv (.int x :: rest) w ad := by
  obtain ⟨p, e, s, m, args, below, meth, c, hx, hb, -, -, -, -, -, -, -, -, -, -, -, rfl⟩ := O
  intro H lsA hR hL locs hS
  exact lv_i2l hx hb (hdg := hdg) (hv := hv) (k := (k H lsA hR hL locs hS))
theorem z_l2i (O : zOK G l own cc nL ret ws R mc ms et PQ PX ini X) {x : Int64} {v : Int32} (hdg : decode cc pc = .ok (.l2i, 1)) (hv : x.toInt32 = v) (k : zV G X nL kc ks (pc + 1) lsv (.int v :: rest) w ad) : zV G X nL kc ks pc lsv (.long x :: rest) w ad := by
  obtain ⟨p, e, s, m, args, below, meth, c, hx, hb, -, -, -, -, -, -, -, -, -, -, -, rfl⟩ := O
  intro H lsA hR hL locs hS
  exact lv_l2i hx hb (hdg := hdg) (hv := hv) (k := (k H lsA hR hL locs hS))
theorem z_i2c (O : zOK G l own cc nL ret ws R mc ms et PQ PX ini X) {x : Int32} {v : Int32} (hdg : decode cc pc = .ok (.i2c, 1)) (hv : (x.toUInt32 % 65536).toInt32 = v) (k : zV G X nL kc ks (pc + 1) lsv (.int v :: rest) w ad) : zV G X nL kc ks pc lsv (.int x :: rest) w ad := by
  obtain ⟨p, e, s, m, args, below, meth, c, hx, hb, -, -, -, -, -, -, -, -, -, -, -, rfl⟩ := O
  intro H lsA hR hL locs hS
  exact lv_i2c hx hb (hdg := hdg) (hv := hv) (k := (k H lsA hR hL locs hS))
theorem z_i2b (O : zOK G l own cc nL ret ws R mc ms et PQ PX ini X) {x : Int32} {v : Int32} (hdg : decode cc pc = .ok (.i2b, 1)) (hv : x.toInt8.toInt32 = v) (k : zV G X nL kc ks (pc + 1) lsv (.int v :: rest) w ad) : zV G X nL kc ks pc lsv (.int x :: rest) w ad := by
  obtain ⟨p, e, s, m, args, below, meth, c, hx, hb, -, -, -, -, -, -, -, -, -, -, -, rfl⟩ := O
  intro H lsA hR hL locs hS
  exact lv_i2b hx hb (hdg := hdg) (hv := hv) (k := (k H lsA hR hL locs hS))
theorem z_dup (O : zOK G l own cc nL ret ws R mc ms et PQ PX ini X) {va : Value} (hdg : decode cc pc = .ok (.dup, 1)) (hva : va.category = 1) (k : zV G X nL kc ks (pc + 1) lsv (va :: va :: rest) w ad) : zV G X nL kc ks pc lsv (va :: rest) w ad := by
  obtain ⟨p, e, s, m, args, below, meth, c, hx, hb, -, -, -, -, -, -, -, -, -, -, -, rfl⟩ := O
  intro H lsA hR hL locs hS
  exact lv_dup hx hb (hdg := hdg) (hva := hva) (k := (k H lsA hR hL locs hS))
theorem z_pop (O : zOK G l own cc nL ret ws R mc ms et PQ PX ini X) {va : Value} (hdg : decode cc pc = .ok (.pop, 1)) (hva : va.category = 1) (k : zV G X nL kc ks (pc + 1) lsv (rest) w ad) : zV G X nL kc ks pc lsv (va :: rest) w ad := by
  obtain ⟨p, e, s, m, args, below, meth, c, hx, hb, -, -, -, -, -, -, -, -, -, -, -, rfl⟩ := O
  intro H lsA hR hL locs hS
  exact lv_pop hx hb (hdg := hdg) (hva := hva) (k := (k H lsA hR hL locs hS))
theorem z_dup_x1 (O : zOK G l own cc nL ret ws R mc ms et PQ PX ini X) {va vb : Value} (hdg : decode cc pc = .ok (.dup_x1, 1)) (hva : va.category = 1) (hvb : vb.category = 1) (k : zV G X nL kc ks (pc + 1) lsv (va :: vb :: va :: rest) w ad) : zV G X nL kc ks pc lsv (va :: vb :: rest) w ad := by
  obtain ⟨p, e, s, m, args, below, meth, c, hx, hb, -, -, -, -, -, -, -, -, -, -, -, rfl⟩ := O
  intro H lsA hR hL locs hS
  exact lv_dup_x1 hx hb (hdg := hdg) (hva := hva) (hvb := hvb) (k := (k H lsA hR hL locs hS))
theorem z_dup2_11 (O : zOK G l own cc nL ret ws R mc ms et PQ PX ini X) {va vb : Value} (hdg : decode cc pc = .ok (.dup2, 1)) (hva : va.category = 1) (hvb : vb.category = 1) (k : zV G X nL kc ks (pc + 1) lsv (va :: vb :: va :: vb :: rest) w ad) : zV G X nL kc ks pc lsv (va :: vb :: rest) w ad := by
  obtain ⟨p, e, s, m, args, below, meth, c, hx, hb, -, -, -, -, -, -, -, -, -, -, -, rfl⟩ := O
  intro H lsA hR hL locs hS
  exact lv_dup2_11 hx hb (hdg := hdg) (hva := hva) (hvb := hvb) (k := (k H lsA hR hL locs hS))
theorem z_dup2_2 (O : zOK G l own cc nL ret ws R mc ms et PQ PX ini X) {va : Value} (hdg : decode cc pc = .ok (.dup2, 1)) (hva : va.category = 2) (k : zV G X nL kc ks (pc + 1) lsv (va :: va :: rest) w ad) : zV G X nL kc ks pc lsv (va :: rest) w ad := by
  obtain ⟨p, e, s, m, args, below, meth, c, hx, hb, -, -, -, -, -, -, -, -, -, -, -, rfl⟩ := O
  intro H lsA hR hL locs hS
  exact lv_dup2_2 hx hb (hdg := hdg) (hva := hva) (k := (k H lsA hR hL locs hS))
theorem z_pop2_2 (O : zOK G l own cc nL ret ws R mc ms et PQ PX ini X) {va : Value} (hdg : decode cc pc = .ok (.pop2, 1)) (hva : va.category = 2) (k : zV G X nL kc ks (pc + 1) lsv (rest) w ad) : zV G X nL kc ks pc lsv (va :: rest) w ad := by
  obtain ⟨p, e, s, m, args, below, meth, c, hx, hb, -, -, -, -, -, -, -, -, -, -, -, rfl⟩ := O
  intro H lsA hR hL locs hS
  exact lv_pop2_2 hx hb (hdg := hdg) (hva := hva) (k := (k H lsA hR hL locs hS))
theorem z_dup_x2 (O : zOK G l own cc nL ret ws R mc ms et PQ PX ini X) {va vb vd : Value} (hdg : decode cc pc = .ok (.dup_x2, 1)) (hva : va.category = 1) (hvb : vb.category = 1) (hvd : vd.category = 1) (k : zV G X nL kc ks (pc + 1) lsv (va :: vb :: vd :: va :: rest) w ad) : zV G X nL kc ks pc lsv (va :: vb :: vd :: rest) w ad := by
  obtain ⟨p, e, s, m, args, below, meth, c, hx, hb, -, -, -, -, -, -, -, -, -, -, -, rfl⟩ := O
  intro H lsA hR hL locs hS
  exact lv_dup_x2 hx hb (hdg := hdg) (hva := hva) (hvb := hvb) (hvd := hvd) (k := (k H lsA hR hL locs hS))
theorem z_if_eq (O : zOK G l own cc nL ret ws R mc ms et PQ PX ini X) {x : Int32} {off : Int} {tgt : Nat} (hdg : decode cc pc = .ok (.ifCond .eq off, 3)) (ht : (pc : Int) + off = (tgt : Int)) (kt : x = 0 → zV G X nL kc ks tgt lsv rest w ad) (kf : ¬ x = 0 → zV G X nL kc ks (pc + 3) lsv rest w ad) : zV G X nL kc ks pc lsv (.int x :: rest) w ad := by
  obtain ⟨p, e, s, m, args, below, meth, c, hx, hb, -, -, -, -, -, -, -, -, -, -, -, rfl⟩ := O
  intro H lsA hR hL locs hS
  exact lv_if_eq hx hb (hdg := hdg) (ht := ht) (kt := fun h => kt h H lsA hR hL locs hS) (kf := fun h => kf h H lsA hR hL locs hS)
theorem z_icmp_eq (O : zOK G l own cc nL ret ws R mc ms et PQ PX ini X) {x y : Int32} {off : Int} {tgt : Nat} (hdg : decode cc pc = .ok (.if_icmp .eq off, 3)) (ht : (pc : Int) + off = (tgt : Int)) (kt : x = y → zV G X nL kc ks tgt lsv rest w ad) (kf : ¬ x = y → zV G X nL kc ks (pc + 3) lsv rest w ad) : zV G X nL kc ks pc lsv (.int y :: .int x :: rest) w ad := by
  obtain ⟨p, e, s, m, args, below, meth, c, hx, hb, -, -, -, -, -, -, -, -, -, -, -, rfl⟩ := O
  intro H lsA hR hL locs hS
  exact lv_icmp_eq hx hb (hdg := hdg) (ht := ht) (kt := fun h => kt h H lsA hR hL locs hS) (kf := fun h => kf h H lsA hR hL locs hS)
theorem z_if_ne (O : zOK G l own cc nL ret ws R mc ms et PQ PX ini X) {x : Int32} {off : Int} {tgt : Nat} (hdg : decode cc pc = .ok (.ifCond .ne off, 3)) (ht : (pc : Int) + off = (tgt : Int)) (kt : ¬ x = 0 → zV G X nL kc ks tgt lsv rest w ad) (kf : x = 0 → zV G X nL kc ks (pc + 3) lsv rest w ad) : zV G X nL kc ks pc lsv (.int x :: rest) w ad := by
  obtain ⟨p, e, s, m, args, below, meth, c, hx, hb, -, -, -, -, -, -, -, -, -, -, -, rfl⟩ := O
  intro H lsA hR hL locs hS
  exact lv_if_ne hx hb (hdg := hdg) (ht := ht) (kt := fun h => kt h H lsA hR hL locs hS) (kf := fun h => kf h H lsA hR hL locs hS)
theorem z_icmp_ne (O : zOK G l own cc nL ret ws R mc ms et PQ PX ini X) {x y : Int32} {off : Int} {tgt : Nat} (hdg : decode cc pc = .ok (.if_icmp .ne off, 3)) (ht : (pc : Int) + off = (tgt : Int)) (kt : ¬ x = y → zV G X nL kc ks tgt lsv rest w ad) (kf : x = y → zV G X nL kc ks (pc + 3) lsv rest w ad) : zV G X nL kc ks pc lsv (.int y :: .int x :: rest) w ad := by
  obtain ⟨p, e, s, m, args, below, meth, c, hx, hb, -, -, -, -, -, -, -, -, -, -, -, rfl⟩ := O
  intro H lsA hR hL locs hS
  exact lv_icmp_ne hx hb (hdg := hdg) (ht := ht) (kt := fun h => kt h H lsA hR hL locs hS) (kf := fun h => kf h H lsA hR hL locs hS)
theorem z_if_lt (O : zOK G l own cc nL ret ws R mc ms et PQ PX ini X) {x : Int32} {off : Int} {tgt : Nat} (hdg : decode cc pc = .ok (.ifCond .lt off, 3)) (ht : (pc : Int) + off = (tgt : Int)) (kt : x < 0 → zV G X nL kc ks tgt lsv rest w ad) (kf : ¬ x < 0 → zV G X nL kc ks (pc + 3) lsv rest w ad) : zV G X nL kc ks pc lsv (.int x :: rest) w ad := by
  obtain ⟨p, e, s, m, args, below, meth, c, hx, hb, -, -, -, -, -, -, -, -, -, -, -, rfl⟩ := O
  intro H lsA hR hL locs hS
  exact lv_if_lt hx hb (hdg := hdg) (ht := ht) (kt := fun h => kt h H lsA hR hL locs hS) (kf := fun h => kf h H lsA hR hL locs hS)
theorem z_icmp_lt (O : zOK G l own cc nL ret ws R mc ms et PQ PX ini X) {x y : Int32} {off : Int} {tgt : Nat} (hdg : decode cc pc = .ok (.if_icmp .lt off, 3)) (ht : (pc : Int) + off = (tgt : Int)) (kt : x < y → zV G X nL kc ks tgt lsv rest w ad) (kf : ¬ x < y → zV G X nL kc ks (pc + 3) lsv rest w ad) : zV G X nL kc ks pc lsv (.int y :: .int x :: rest) w ad := by
  obtain ⟨p, e, s, m, args, below, meth, c, hx, hb, -, -, -, -, -, -, -, -, -, -, -, rfl⟩ := O
  intro H lsA hR hL locs hS
  exact lv_icmp_lt hx hb (hdg := hdg) (ht := ht) (kt := fun h => kt h H lsA hR hL locs hS) (kf := fun h => kf h H lsA hR hL locs hS)
theorem z_if_ge (O : zOK G l own cc nL ret ws R mc ms et PQ PX ini X) {x : Int32} {off : Int} {tgt : Nat} (hdg : decode cc pc = .ok (.ifCond .ge off, 3)) (ht : (pc : Int) + off = (tgt : Int)) (kt : 0 ≤ x → zV G X nL kc ks tgt lsv rest w ad) (kf : ¬ 0 ≤ x → zV G X nL kc ks (pc + 3) lsv rest w ad) : zV G X nL kc ks pc lsv (.int x :: rest) w ad := by
  obtain ⟨p, e, s, m, args, below, meth, c, hx, hb, -, -, -, -, -, -, -, -, -, -, -, rfl⟩ := O
  intro H lsA hR hL locs hS
  exact lv_if_ge hx hb (hdg := hdg) (ht := ht) (kt := fun h => kt h H lsA hR hL locs hS) (kf := fun h => kf h H lsA hR hL locs hS)
theorem z_icmp_ge (O : zOK G l own cc nL ret ws R mc ms et PQ PX ini X) {x y : Int32} {off : Int} {tgt : Nat} (hdg : decode cc pc = .ok (.if_icmp .ge off, 3)) (ht : (pc : Int) + off = (tgt : Int)) (kt : y ≤ x → zV G X nL kc ks tgt lsv rest w ad) (kf : ¬ y ≤ x → zV G X nL kc ks (pc + 3) lsv rest w ad) : zV G X nL kc ks pc lsv (.int y :: .int x :: rest) w ad := by
  obtain ⟨p, e, s, m, args, below, meth, c, hx, hb, -, -, -, -, -, -, -, -, -, -, -, rfl⟩ := O
  intro H lsA hR hL locs hS
  exact lv_icmp_ge hx hb (hdg := hdg) (ht := ht) (kt := fun h => kt h H lsA hR hL locs hS) (kf := fun h => kf h H lsA hR hL locs hS)
theorem z_if_gt (O : zOK G l own cc nL ret ws R mc ms et PQ PX ini X) {x : Int32} {off : Int} {tgt : Nat} (hdg : decode cc pc = .ok (.ifCond .gt off, 3)) (ht : (pc : Int) + off = (tgt : Int)) (kt : 0 < x → zV G X nL kc ks tgt lsv rest w ad) (kf : ¬ 0 < x → zV G X nL kc ks (pc + 3) lsv rest w ad) : zV G X nL kc ks pc lsv (.int x :: rest) w ad := by
  obtain ⟨p, e, s, m, args, below, meth, c, hx, hb, -, -, -, -, -, -, -, -, -, -, -, rfl⟩ := O
  intro H lsA hR hL locs hS
  exact lv_if_gt hx hb (hdg := hdg) (ht := ht) (kt := fun h => kt h H lsA hR hL locs hS) (kf := fun h => kf h H lsA hR hL locs hS)
theorem z_icmp_gt (O : zOK G l own cc nL ret ws R mc ms et PQ PX ini X) {x y : Int32} {off : Int} {tgt : Nat} (hdg : decode cc pc = .ok (.if_icmp .gt off, 3)) (ht : (pc : Int) + off = (tgt : Int)) (kt : y < x → zV G X nL kc ks tgt lsv rest w ad) (kf : ¬ y < x → zV G X nL kc ks (pc + 3) lsv rest w ad) : zV G X nL kc ks pc lsv (.int y :: .int x :: rest) w ad := by
  obtain ⟨p, e, s, m, args, below, meth, c, hx, hb, -, -, -, -, -, -, -, -, -, -, -, rfl⟩ := O
  intro H lsA hR hL locs hS
  exact lv_icmp_gt hx hb (hdg := hdg) (ht := ht) (kt := fun h => kt h H lsA hR hL locs hS) (kf := fun h => kf h H lsA hR hL locs hS)
theorem z_if_le (O : zOK G l own cc nL ret ws R mc ms et PQ PX ini X) {x : Int32} {off : Int} {tgt : Nat} (hdg : decode cc pc = .ok (.ifCond .le off, 3)) (ht : (pc : Int) + off = (tgt : Int)) (kt : x ≤ 0 → zV G X nL kc ks tgt lsv rest w ad) (kf : ¬ x ≤ 0 → zV G X nL kc ks (pc + 3) lsv rest w ad) : zV G X nL kc ks pc lsv (.int x :: rest) w ad := by
  obtain ⟨p, e, s, m, args, below, meth, c, hx, hb, -, -, -, -, -, -, -, -, -, -, -, rfl⟩ := O
  intro H lsA hR hL locs hS
  exact lv_if_le hx hb (hdg := hdg) (ht := ht) (kt := fun h => kt h H lsA hR hL locs hS) (kf := fun h => kf h H lsA hR hL locs hS)
theorem z_icmp_le (O : zOK G l own cc nL ret ws R mc ms et PQ PX ini X) {x y : Int32} {off : Int} {tgt : Nat} (hdg : decode cc pc = .ok (.if_icmp .le off, 3)) (ht : (pc : Int) + off = (tgt : Int)) (kt : x ≤ y → zV G X nL kc ks tgt lsv rest w ad) (kf : ¬ x ≤ y → zV G X nL kc ks (pc + 3) lsv rest w ad) : zV G X nL kc ks pc lsv (.int y :: .int x :: rest) w ad := by
  obtain ⟨p, e, s, m, args, below, meth, c, hx, hb, -, -, -, -, -, -, -, -, -, -, -, rfl⟩ := O
  intro H lsA hR hL locs hS
  exact lv_icmp_le hx hb (hdg := hdg) (ht := ht) (kt := fun h => kt h H lsA hR hL locs hS) (kf := fun h => kf h H lsA hR hL locs hS)
theorem z_goto (O : zOK G l own cc nL ret ws R mc ms et PQ PX ini X) {off : Int} {tgt : Nat} (hdg : decode cc pc = .ok (.goto off, 3)) (ht : (pc : Int) + off = (tgt : Int)) (k : zV G X nL kc ks tgt lsv rest w ad) : zV G X nL kc ks pc lsv rest w ad := by
  obtain ⟨p, e, s, m, args, below, meth, c, hx, hb, -, -, -, -, -, -, -, -, -, -, -, rfl⟩ := O
  intro H lsA hR hL locs hS
  exact lv_goto hx hb (hdg := hdg) (ht := ht) (k := (k H lsA hR hL locs hS))
theorem z_fconst0 (O : zOK G l own cc nL ret ws R mc ms et PQ PX ini X) (hdg : decode cc pc = .ok (.fconst 0, 1))  (k : zV G X nL kc ks (pc + 1) lsv (.float FP.fconst0 :: rest) w ad) : zV G X nL kc ks pc lsv (rest) w ad := by
  obtain ⟨p, e, s, m, args, below, meth, c, hx, hb, -, -, -, -, -, -, -, -, -, -, -, rfl⟩ := O
  intro H lsA hR hL locs hS
  exact lv_fconst0 hx hb (hdg := hdg) (k := (k H lsA hR hL locs hS))
theorem z_dconst0 (O : zOK G l own cc nL ret ws R mc ms et PQ PX ini X) (hdg : decode cc pc = .ok (.dconst 0, 1))  (k : zV G X nL kc ks (pc + 1) lsv (.double FP.dconst0 :: rest) w ad) : zV G X nL kc ks pc lsv (rest) w ad := by
  obtain ⟨p, e, s, m, args, below, meth, c, hx, hb, -, -, -, -, -, -, -, -, -, -, -, rfl⟩ := O
  intro H lsA hR hL locs hS
  exact lv_dconst0 hx hb (hdg := hdg) (k := (k H lsA hR hL locs hS))
theorem z_fdiv (O : zOK G l own cc nL ret ws R mc ms et PQ PX ini X) {x y : UInt32} (hdg : decode cc pc = .ok (.fdiv, 1)) (hne : vf_n32 (FP.fdiv x y)) (k : zV G X nL kc ks (pc + 1) lsv (.float (FP.fdiv x y) :: rest) w ad) : zV G X nL kc ks pc lsv (.float y :: .float x :: rest) w ad := by
  obtain ⟨p, e, s, m, args, below, meth, c, hx, hb, -, -, -, -, -, -, -, -, -, -, -, rfl⟩ := O
  intro H lsA hR hL locs hS
  exact lv_fdiv hx hb (hdg := hdg) (hne := hne) (k := (k H lsA hR hL locs hS))
theorem z_ddiv (O : zOK G l own cc nL ret ws R mc ms et PQ PX ini X) {x y : UInt64} (hdg : decode cc pc = .ok (.ddiv, 1)) (hne : vf_n64 (FP.ddiv x y)) (k : zV G X nL kc ks (pc + 1) lsv (.double (FP.ddiv x y) :: rest) w ad) : zV G X nL kc ks pc lsv (.double y :: .double x :: rest) w ad := by
  obtain ⟨p, e, s, m, args, below, meth, c, hx, hb, -, -, -, -, -, -, -, -, -, -, -, rfl⟩ := O
  intro H lsA hR hL locs hS
  exact lv_ddiv hx hb (hdg := hdg) (hne := hne) (k := (k H lsA hR hL locs hS))
theorem z_fcmp (O : zOK G l own cc nL ret ws R mc ms et PQ PX ini X) {x y : UInt32} {op : CmpOp} (hdg : decode cc pc = .ok (.fcmp op, 1))  (k : zV G X nL kc ks (pc + 1) lsv (.int (Op.cmpValue (FP.fcmp x y) op) :: rest) w ad) : zV G X nL kc ks pc lsv (.float y :: .float x :: rest) w ad := by
  obtain ⟨p, e, s, m, args, below, meth, c, hx, hb, -, -, -, -, -, -, -, -, -, -, -, rfl⟩ := O
  intro H lsA hR hL locs hS
  exact lv_fcmp hx hb (hdg := hdg) (k := (k H lsA hR hL locs hS))
theorem z_i2f (O : zOK G l own cc nL ret ws R mc ms et PQ PX ini X) {x : Int32} (hdg : decode cc pc = .ok (.i2f, 1))  (k : zV G X nL kc ks (pc + 1) lsv (.float (FP.i2f x) :: rest) w ad) : zV G X nL kc ks pc lsv (.int x :: rest) w ad := by
  obtain ⟨p, e, s, m, args, below, meth, c, hx, hb, -, -, -, -, -, -, -, -, -, -, -, rfl⟩ := O
  intro H lsA hR hL locs hS
  exact lv_i2f hx hb (hdg := hdg) (k := (k H lsA hR hL locs hS))
theorem z_dcmp (O : zOK G l own cc nL ret ws R mc ms et PQ PX ini X) {x y : UInt64} {op : CmpOp} (hdg : decode cc pc = .ok (.dcmp op, 1))  (k : zV G X nL kc ks (pc + 1) lsv (.int (Op.cmpValue (FP.dcmp x y) op) :: rest) w ad) : zV G X nL kc ks pc lsv (.double y :: .double x :: rest) w ad := by
  obtain ⟨p, e, s, m, args, below, meth, c, hx, hb, -, -, -, -, -, -, -, -, -, -, -, rfl⟩ := O
  intro H lsA hR hL locs hS
  exact lv_dcmp hx hb (hdg := hdg) (k := (k H lsA hR hL locs hS))
theorem z_i2d (O : zOK G l own cc nL ret ws R mc ms et PQ PX ini X) {x : Int32} (hdg : decode cc pc = .ok (.i2d, 1))  (k : zV G X nL kc ks (pc + 1) lsv (.double (FP.i2d x) :: rest) w ad) : zV G X nL kc ks pc lsv (.int x :: rest) w ad := by
  obtain ⟨p, e, s, m, args, below, meth, c, hx, hb, -, -, -, -, -, -, -, -, -, -, -, rfl⟩ := O
  intro H lsA hR hL locs hS
  exact lv_i2d hx hb (hdg := hdg) (k := (k H lsA hR hL locs hS))
theorem z_f2d (O : zOK G l own cc nL ret ws R mc ms et PQ PX ini X) {x : UInt32} (hdg : decode cc pc = .ok (.f2d, 1)) (hne : vf_n64 (FP.f2d x)) (k : zV G X nL kc ks (pc + 1) lsv (.double (FP.f2d x) :: rest) w ad) : zV G X nL kc ks pc lsv (.float x :: rest) w ad := by
  obtain ⟨p, e, s, m, args, below, meth, c, hx, hb, -, -, -, -, -, -, -, -, -, -, -, rfl⟩ := O
  intro H lsA hR hL locs hS
  exact lv_f2d hx hb (hdg := hdg) (hne := hne) (k := (k H lsA hR hL locs hS))
theorem z_null (O : zOK G l own cc nL ret ws R mc ms et PQ PX ini X) (hdg : decode cc pc = .ok (.aconst_null, 1)) (k : zV G X nL kc ks (pc + 1) lsv (.null :: rest) w ad) : zV G X nL kc ks pc lsv rest w ad := by
  obtain ⟨p, e, s, m, args, below, meth, c, hx, hb, -, -, -, -, -, -, -, -, -, -, -, rfl⟩ := O
  intro H lsA hR hL locs hS
  exact lv_null hx hb (hdg := hdg) (k := (k H lsA hR hL locs hS))
theorem z_acmp_eq (O : zOK G l own cc nL ret ws R mc ms et PQ PX ini X) {rx ry : Option Nat} {off : Int} {tgt : Nat} (hdg : decode cc pc = .ok (.if_acmp .eq off, 3)) (ht : (pc : Int) + off = (tgt : Int)) (kt : rx = ry → zV G X nL kc ks tgt lsv rest w ad) (kf : ¬ rx = ry → zV G X nL kc ks (pc + 3) lsv rest w ad) : zV G X nL kc ks pc lsv (va_rf ry :: va_rf rx :: rest) w ad := by
  obtain ⟨p, e, s, m, args, below, meth, c, hx, hb, -, -, -, -, -, -, -, -, -, -, -, rfl⟩ := O
  intro H lsA hR hL locs hS
  exact lv_acmp_eq hx hb (hdg := hdg) (ht := ht) (kt := fun h => kt h H lsA hR hL locs hS) (kf := fun h => kf h H lsA hR hL locs hS)
theorem z_acmp_ne (O : zOK G l own cc nL ret ws R mc ms et PQ PX ini X) {rx ry : Option Nat} {off : Int} {tgt : Nat} (hdg : decode cc pc = .ok (.if_acmp .ne off, 3)) (ht : (pc : Int) + off = (tgt : Int)) (kt : ¬ rx = ry → zV G X nL kc ks tgt lsv rest w ad) (kf : rx = ry → zV G X nL kc ks (pc + 3) lsv rest w ad) : zV G X nL kc ks pc lsv (va_rf ry :: va_rf rx :: rest) w ad := by
  obtain ⟨p, e, s, m, args, below, meth, c, hx, hb, -, -, -, -, -, -, -, -, -, -, -, rfl⟩ := O
  intro H lsA hR hL locs hS
  exact lv_acmp_ne hx hb (hdg := hdg) (ht := ht) (kt := fun h => kt h H lsA hR hL locs hS) (kf := fun h => kf h H lsA hR hL locs hS)
theorem z_ifnull (O : zOK G l own cc nL ret ws R mc ms et PQ PX ini X) {x : Nat} {off : Int} (hdg : decode cc pc = .ok (.ifnull off, 3)) (k : zV G X nL kc ks (pc + 3) lsv rest w ad) : zV G X nL kc ks pc lsv (.ref x :: rest) w ad := by
  obtain ⟨p, e, s, m, args, below, meth, c, hx, hb, -, -, -, -, -, -, -, -, -, -, -, rfl⟩ := O
  intro H lsA hR hL locs hS
  exact lv_ifnull hx hb (hdg := hdg) (k := (k H lsA hR hL locs hS))
theorem z_ifnonnull (O : zOK G l own cc nL ret ws R mc ms et PQ PX ini X) {x : Nat} {off : Int} {tgt : Nat} (hdg : decode cc pc = .ok (.ifnonnull off, 3)) (ht : (pc : Int) + off = (tgt : Int)) (k : zV G X nL kc ks tgt lsv rest w ad) : zV G X nL kc ks pc lsv (.ref x :: rest) w ad := by
  obtain ⟨p, e, s, m, args, below, meth, c, hx, hb, -, -, -, -, -, -, -, -, -, -, -, rfl⟩ := O
  intro H lsA hR hL locs hS
  exact lv_ifnonnull hx hb (hdg := hdg) (ht := ht) (k := (k H lsA hR hL locs hS))
theorem z_ifnullN (O : zOK G l own cc nL ret ws R mc ms et PQ PX ini X) {off : Int} {tgt : Nat} (hdg : decode cc pc = .ok (.ifnull off, 3)) (ht : (pc : Int) + off = (tgt : Int)) (k : zV G X nL kc ks tgt lsv rest w ad) : zV G X nL kc ks pc lsv (.null :: rest) w ad := by
  obtain ⟨p, e, s, m, args, below, meth, c, hx, hb, -, -, -, -, -, -, -, -, -, -, -, rfl⟩ := O
  intro H lsA hR hL locs hS
  exact lv_ifnullN hx hb (hdg := hdg) (ht := ht) (k := (k H lsA hR hL locs hS))
theorem z_ifnonnullN (O : zOK G l own cc nL ret ws R mc ms et PQ PX ini X) {off : Int} (hdg : decode cc pc = .ok (.ifnonnull off, 3)) (k : zV G X nL kc ks (pc + 3) lsv rest w ad) : zV G X nL kc ks pc lsv (.null :: rest) w ad := by
  obtain ⟨p, e, s, m, args, below, meth, c, hx, hb, -, -, -, -, -, -, -, -, -, -, -, rfl⟩ := O
  intro H lsA hR hL locs hS
  exact lv_ifnonnullN hx hb (hdg := hdg) (k := (k H lsA hR hL locs hS))
theorem z_castN (O : zOK G l own cc nL ret ws R mc ms et PQ PX ini X) {index : Nat} (hdg : decode cc pc = .ok (.checkcast index, 3)) (k : zV G X nL kc ks (pc + 3) lsv (.null :: rest) w ad) : zV G X nL kc ks pc lsv (.null :: rest) w ad := by
  obtain ⟨p, e, s, m, args, below, meth, c, hx, hb, -, -, -, -, -, -, -, -, -, -, -, rfl⟩ := O
  intro H lsA hR hL locs hS
  exact lv_castN hx hb (hdg := hdg) (k := (k H lsA hR hL locs hS))
theorem z_tableIn (O : zOK G l own cc nL ret ws R mc ms et PQ PX ini X) {dflt lo hi : Int} {offs : Array Int} {len : Nat} {x : Int32} {off : Int} {tgt : Nat} (hdg : decode cc pc = .ok (.tableswitch dflt lo hi offs, len)) (h1 : ¬ x.toInt < lo) (h2 : ¬ hi < x.toInt) (ho : offs[(x.toInt - lo).toNat]? = some off) (ht : (pc : Int) + off = (tgt : Int)) (k : zV G X nL kc ks tgt lsv rest w ad) : zV G X nL kc ks pc lsv (.int x :: rest) w ad := by
  obtain ⟨p, e, s, m, args, below, meth, c, hx, hb, -, -, -, -, -, -, -, -, -, -, -, rfl⟩ := O
  intro H lsA hR hL locs hS
  exact lv_tableIn hx hb (hdg := hdg) (h1 := h1) (h2 := h2) (ho := ho) (ht := ht) (k := (k H lsA hR hL locs hS))
theorem z_tableOut (O : zOK G l own cc nL ret ws R mc ms et PQ PX ini X) {dflt lo hi : Int} {offs : Array Int} {len : Nat} {x : Int32} {tgt : Nat} (hdg : decode cc pc = .ok (.tableswitch dflt lo hi offs, len)) (h : x.toInt < lo ∨ hi < x.toInt) (ht : (pc : Int) + dflt = (tgt : Int)) (k : zV G X nL kc ks tgt lsv rest w ad) : zV G X nL kc ks pc lsv (.int x :: rest) w ad := by
  obtain ⟨p, e, s, m, args, below, meth, c, hx, hb, -, -, -, -, -, -, -, -, -, -, -, rfl⟩ := O
  intro H lsA hR hL locs hS
  exact lv_tableOut hx hb (hdg := hdg) (h := h) (ht := ht) (k := (k H lsA hR hL locs hS))
theorem z_iload_n (O : zOK G l own cc nL ret ws R mc ms et PQ PX ini X) {k : Fin 4} {x : Int32} (hdg : decode cc pc = .ok (.iload_n k, 1)) (hl : zL lsv k = some (.int x)) (kk : zV G X nL kc ks (pc + 1) lsv (.int x :: rest) w ad) : zV G X nL kc ks pc lsv rest w ad := by
  obtain ⟨p, e, s, m, args, below, meth, c, hx, hb, -, -, -, -, -, -, -, -, -, -, -, rfl⟩ := O
  intro H lsA hR hL locs hS
  exact lv_iload_n hx hb hdg rfl (zL_at hL hl) (kk H lsA hR hL locs hS)
theorem z_iload (O : zOK G l own cc nL ret ws R mc ms et PQ PX ini X) {k : Nat} {x : Int32} (hdg : decode cc pc = .ok (.iload k, 2)) (hl : zL lsv k = some (.int x)) (kk : zV G X nL kc ks (pc + 2) lsv (.int x :: rest) w ad) : zV G X nL kc ks pc lsv rest w ad := by
  obtain ⟨p, e, s, m, args, below, meth, c, hx, hb, -, -, -, -, -, -, -, -, -, -, -, rfl⟩ := O
  intro H lsA hR hL locs hS
  exact lv_iload hx hb hdg (zL_at hL hl) (kk H lsA hR hL locs hS)
theorem z_aload_n (O : zOK G l own cc nL ret ws R mc ms et PQ PX ini X) {k : Fin 4} {x : Nat} (hdg : decode cc pc = .ok (.aload_n k, 1)) (hl : zL lsv k = some (.ref x)) (kk : zV G X nL kc ks (pc + 1) lsv (.ref x :: rest) w ad) : zV G X nL kc ks pc lsv rest w ad := by
  obtain ⟨p, e, s, m, args, below, meth, c, hx, hb, -, -, -, -, -, -, -, -, -, -, -, rfl⟩ := O
  intro H lsA hR hL locs hS
  exact lv_aload_n hx hb hdg rfl (zL_at hL hl) (kk H lsA hR hL locs hS)
theorem z_aload (O : zOK G l own cc nL ret ws R mc ms et PQ PX ini X) {k : Nat} {x : Nat} (hdg : decode cc pc = .ok (.aload k, 2)) (hl : zL lsv k = some (.ref x)) (kk : zV G X nL kc ks (pc + 2) lsv (.ref x :: rest) w ad) : zV G X nL kc ks pc lsv rest w ad := by
  obtain ⟨p, e, s, m, args, below, meth, c, hx, hb, -, -, -, -, -, -, -, -, -, -, -, rfl⟩ := O
  intro H lsA hR hL locs hS
  exact lv_aload hx hb hdg (zL_at hL hl) (kk H lsA hR hL locs hS)
theorem z_aload_nN (O : zOK G l own cc nL ret ws R mc ms et PQ PX ini X) {k : Fin 4} (hdg : decode cc pc = .ok (.aload_n k, 1)) (hl : zL lsv k = some .null) (kk : zV G X nL kc ks (pc + 1) lsv (.null :: rest) w ad) : zV G X nL kc ks pc lsv rest w ad := by
  obtain ⟨p, e, s, m, args, below, meth, c, hx, hb, -, -, -, -, -, -, -, -, -, -, -, rfl⟩ := O
  intro H lsA hR hL locs hS
  exact lv_aload_nN hx hb hdg rfl (zL_at hL hl) (kk H lsA hR hL locs hS)
theorem z_aloadN (O : zOK G l own cc nL ret ws R mc ms et PQ PX ini X) {k : Nat} (hdg : decode cc pc = .ok (.aload k, 2)) (hl : zL lsv k = some .null) (kk : zV G X nL kc ks (pc + 2) lsv (.null :: rest) w ad) : zV G X nL kc ks pc lsv rest w ad := by
  obtain ⟨p, e, s, m, args, below, meth, c, hx, hb, -, -, -, -, -, -, -, -, -, -, -, rfl⟩ := O
  intro H lsA hR hL locs hS
  exact lv_aloadN hx hb hdg (zL_at hL hl) (kk H lsA hR hL locs hS)
theorem z_lload_n (O : zOK G l own cc nL ret ws R mc ms et PQ PX ini X) {k : Fin 4} {x : Int64} (hdg : decode cc pc = .ok (.lload_n k, 1)) (hl : zL lsv k = some (.long x)) (kk : zV G X nL kc ks (pc + 1) lsv (.long x :: rest) w ad) : zV G X nL kc ks pc lsv rest w ad := by
  obtain ⟨p, e, s, m, args, below, meth, c, hx, hb, -, -, -, -, -, -, -, -, -, -, -, rfl⟩ := O
  intro H lsA hR hL locs hS
  exact lv_lload_n hx hb hdg rfl (zL_at hL hl) (kk H lsA hR hL locs hS)
theorem z_fload (O : zOK G l own cc nL ret ws R mc ms et PQ PX ini X) {k : Nat} {x : UInt32} (hdg : decode cc pc = .ok (.fload k, 2)) (hl : zL lsv k = some (.float x)) (kk : zV G X nL kc ks (pc + 2) lsv (.float x :: rest) w ad) : zV G X nL kc ks pc lsv rest w ad := by
  obtain ⟨p, e, s, m, args, below, meth, c, hx, hb, -, -, -, -, -, -, -, -, -, -, -, rfl⟩ := O
  intro H lsA hR hL locs hS
  exact lv_fload hx hb hdg (zL_at hL hl) (kk H lsA hR hL locs hS)
theorem z_dload (O : zOK G l own cc nL ret ws R mc ms et PQ PX ini X) {k : Nat} {x : UInt64} (hdg : decode cc pc = .ok (.dload k, 2)) (hl : zL lsv k = some (.double x)) (kk : zV G X nL kc ks (pc + 2) lsv (.double x :: rest) w ad) : zV G X nL kc ks pc lsv rest w ad := by
  obtain ⟨p, e, s, m, args, below, meth, c, hx, hb, -, -, -, -, -, -, -, -, -, -, -, rfl⟩ := O
  intro H lsA hR hL locs hS
  exact lv_dload hx hb hdg (zL_at hL hl) (kk H lsA hR hL locs hS)
theorem z_istore_n (O : zOK G l own cc nL ret ws R mc ms et PQ PX ini X) {k : Fin 4} {x : Int32} (hdg : decode cc pc = .ok (.istore_n k, 1)) (hn : (k : Nat) < nL) (kk : zV G X nL kc ks (pc + 1) (zS lsv k (.int x)) rest w ad) : zV G X nL kc ks pc lsv (.int x :: rest) w ad := by
  obtain ⟨p, e, s, m, args, below, meth, c, hx, hb, -, -, -, -, -, -, -, -, -, -, -, rfl⟩ := O
  intro H lsA hR hL locs hS
  exact lv_istore_n hx hb hdg rfl hL hn rfl (fun ls' h' => kk H ls' hR h' locs hS)
theorem z_istore (O : zOK G l own cc nL ret ws R mc ms et PQ PX ini X) {k : Nat} {x : Int32} (hdg : decode cc pc = .ok (.istore k, 2)) (hn : k < nL) (kk : zV G X nL kc ks (pc + 2) (zS lsv k (.int x)) rest w ad) : zV G X nL kc ks pc lsv (.int x :: rest) w ad := by
  obtain ⟨p, e, s, m, args, below, meth, c, hx, hb, -, -, -, -, -, -, -, -, -, -, -, rfl⟩ := O
  intro H lsA hR hL locs hS
  exact lv_istore hx hb hdg hL hn rfl (fun ls' h' => kk H ls' hR h' locs hS)
theorem z_astore_n (O : zOK G l own cc nL ret ws R mc ms et PQ PX ini X) {k : Fin 4} {x : Nat} (hdg : decode cc pc = .ok (.astore_n k, 1)) (hn : (k : Nat) < nL) (kk : zV G X nL kc ks (pc + 1) (zS lsv k (.ref x)) rest w ad) : zV G X nL kc ks pc lsv (.ref x :: rest) w ad := by
  obtain ⟨p, e, s, m, args, below, meth, c, hx, hb, -, -, -, -, -, -, -, -, -, -, -, rfl⟩ := O
  intro H lsA hR hL locs hS
  exact lv_astore_n hx hb hdg rfl hL hn rfl (fun ls' h' => kk H ls' hR h' locs hS)
theorem z_astore (O : zOK G l own cc nL ret ws R mc ms et PQ PX ini X) {k : Nat} {x : Nat} (hdg : decode cc pc = .ok (.astore k, 2)) (hn : k < nL) (kk : zV G X nL kc ks (pc + 2) (zS lsv k (.ref x)) rest w ad) : zV G X nL kc ks pc lsv (.ref x :: rest) w ad := by
  obtain ⟨p, e, s, m, args, below, meth, c, hx, hb, -, -, -, -, -, -, -, -, -, -, -, rfl⟩ := O
  intro H lsA hR hL locs hS
  exact lv_astore hx hb hdg hL hn rfl (fun ls' h' => kk H ls' hR h' locs hS)
theorem z_astore_nN (O : zOK G l own cc nL ret ws R mc ms et PQ PX ini X) {k : Fin 4} (hdg : decode cc pc = .ok (.astore_n k, 1)) (hn : (k : Nat) < nL) (kk : zV G X nL kc ks (pc + 1) (zS lsv k .null) rest w ad) : zV G X nL kc ks pc lsv (.null :: rest) w ad := by
  obtain ⟨p, e, s, m, args, below, meth, c, hx, hb, -, -, -, -, -, -, -, -, -, -, -, rfl⟩ := O
  intro H lsA hR hL locs hS
  exact lv_astore_nN hx hb hdg rfl hL hn rfl (fun ls' h' => kk H ls' hR h' locs hS)
theorem z_astoreN (O : zOK G l own cc nL ret ws R mc ms et PQ PX ini X) {k : Nat} (hdg : decode cc pc = .ok (.astore k, 2)) (hn : k < nL) (kk : zV G X nL kc ks (pc + 2) (zS lsv k .null) rest w ad) : zV G X nL kc ks pc lsv (.null :: rest) w ad := by
  obtain ⟨p, e, s, m, args, below, meth, c, hx, hb, -, -, -, -, -, -, -, -, -, -, -, rfl⟩ := O
  intro H lsA hR hL locs hS
  exact lv_astoreN hx hb hdg hL hn rfl (fun ls' h' => kk H ls' hR h' locs hS)
theorem z_lstore_n (O : zOK G l own cc nL ret ws R mc ms et PQ PX ini X) {k : Fin 4} {x : Int64} (hdg : decode cc pc = .ok (.lstore_n k, 1)) (hn : (k : Nat) + 1 < nL) (kk : zV G X nL kc ks (pc + 1) (zS2 lsv k (.long x)) rest w ad) : zV G X nL kc ks pc lsv (.long x :: rest) w ad := by
  obtain ⟨p, e, s, m, args, below, meth, c, hx, hb, -, -, -, -, -, -, -, -, -, -, -, rfl⟩ := O
  intro H lsA hR hL locs hS
  exact lv_lstore_n hx hb hdg rfl hL hn rfl (fun ls' h' => kk H ls' hR h' locs hS)
theorem z_fstore (O : zOK G l own cc nL ret ws R mc ms et PQ PX ini X) {k : Nat} {x : UInt32} (hdg : decode cc pc = .ok (.fstore k, 2)) (hn : k < nL) (kk : zV G X nL kc ks (pc + 2) (zS lsv k (.float x)) rest w ad) : zV G X nL kc ks pc lsv (.float x :: rest) w ad := by
  obtain ⟨p, e, s, m, args, below, meth, c, hx, hb, -, -, -, -, -, -, -, -, -, -, -, rfl⟩ := O
  intro H lsA hR hL locs hS
  exact lv_fstore hx hb hdg hL hn rfl (fun ls' h' => kk H ls' hR h' locs hS)
theorem z_dstore (O : zOK G l own cc nL ret ws R mc ms et PQ PX ini X) {k : Nat} {x : UInt64} (hdg : decode cc pc = .ok (.dstore k, 2)) (hn : k + 1 < nL) (kk : zV G X nL kc ks (pc + 2) (zS2 lsv k (.double x)) rest w ad) : zV G X nL kc ks pc lsv (.double x :: rest) w ad := by
  obtain ⟨p, e, s, m, args, below, meth, c, hx, hb, -, -, -, -, -, -, -, -, -, -, -, rfl⟩ := O
  intro H lsA hR hL locs hS
  exact lv_dstore hx hb hdg hL hn rfl (fun ls' h' => kk H ls' hR h' locs hS)
theorem z_iinc (O : zOK G l own cc nL ret ws R mc ms et PQ PX ini X) {i : Nat} {n : Int} {x v : Int32} (hdg : decode cc pc = .ok (.iinc i n, 3)) (hl : zL lsv i = some (.int x)) (hv : x + Int32.ofInt n = v) (hn : i < nL) (kk : zV G X nL kc ks (pc + 3) (zS lsv i (.int v)) rest w ad) : zV G X nL kc ks pc lsv rest w ad := by
  obtain ⟨p, e, s, m, args, below, meth, c, hx, hb, -, -, -, -, -, -, -, -, -, -, -, rfl⟩ := O
  intro H lsA hR hL locs hS
  obtain ⟨k, hk⟩ := List.getElem?_of_mem (zL_mem hl)
  exact lv_iinc hx hb hdg hL hk hv hn rfl (fun ls' h' => kk H ls' hR h' locs hS)
theorem z_ldc (O : zOK G l own cc nL ret ws R mc ms et PQ PX ini X) {i : Nat} {v : Int32} (hc : Cond.constant own i v ∈ ws) (hdg : decode cc pc = .ok (.ldc i, 2)) (kk : zV G X nL kc ks (pc + 2) lsv (.int v :: rest) w ad) : zV G X nL kc ks pc lsv rest w ad := by
  obtain ⟨p, e, s, m, args, below, meth, c, hx, hb, -, hts, hown, -, -, -, -, -, -, -, -, rfl⟩ := O
  intro H lsA hR hL locs hS
  exact lv_ldc hx hb hown (hts _ hc) hdg (kk H lsA hR hL locs hS)
/-- a null or a cell is loaded: by cases -/
theorem z_rf_ifnull (O : zOK G l own cc nL ret ws R mc ms et PQ PX ini X) {r : Option Nat} {off : Int} {tgt : Nat} (hdg : decode cc pc = .ok (.ifnull off, 3)) (ht : (pc : Int) + off = (tgt : Int)) (kt : r = none → zV G X nL kc ks tgt lsv rest w ad) (kf : ∀ a, r = some a → zV G X nL kc ks (pc + 3) lsv rest w ad) : zV G X nL kc ks pc lsv (va_rf r :: rest) w ad := by
  cases r with
  | none => exact z_ifnullN O hdg ht (kt rfl)
  | some a => exact z_ifnull O hdg (kf a rfl)
theorem z_rf_ifnonnull (O : zOK G l own cc nL ret ws R mc ms et PQ PX ini X) {r : Option Nat} {off : Int} {tgt : Nat} (hdg : decode cc pc = .ok (.ifnonnull off, 3)) (ht : (pc : Int) + off = (tgt : Int)) (kt : ∀ a, r = some a → zV G X nL kc ks tgt lsv rest w ad) (kf : r = none → zV G X nL kc ks (pc + 3) lsv rest w ad) : zV G X nL kc ks pc lsv (va_rf r :: rest) w ad := by
  cases r with
  | none => exact z_ifnonnullN O hdg (kf rfl)
  | some a => exact z_ifnonnull O hdg ht (kt a rfl)
theorem zP1 {D : va_G} {q : Nat × va_E} {H : Heap} (h : va_at D vwCl q H) : va_P D vwCl [q] H := by
  intro k x hk
  match k, hk with
  | 0, hk => cases hk; exact h
  | k + 1, hk => simp at hk
/-- a field is read -/
theorem z_get (O : zOK G l own cc nL ret ws R mc ms et PQ PX ini X) {C : String} {T : u_T} {N ci i fk index : Nat} {fs : List Value} {v : Value} (hin : ∀ x ∈ u_ws C T N, x ∈ ws) (hc : vwCl[ci]? = some (C, T, N)) (hk : fk < N) (hlink : Cond.fieldLink own index (T fk).1 (T fk).2.1 (T fk).2.2.1 ∈ ws) (hdg : decode cc pc = .ok (.getfield index, 3)) (hw : w i = some (.inr (ci, fs))) (hv : fs[fk]? = some v)
    (kk : zV G X nL kc ks (pc + 3) lsv (v :: rest) w ad) : zV G X nL kc ks pc lsv (.ref (ad i) :: rest) w ad := by
  obtain ⟨p, e, s, m, args, below, meth, c, hx, hb, hr, hts, hown, hlocks, hml, het, hini, hbase, hK, hSt, hfl, rfl⟩ := O
  intro H lsA hR hL locs hS
  exact va_get (ref := (T fk).1) hx hb hts hin hown hK (zP1 (hR.1 i _ hw).2) 0 (fs := fs) rfl hc fk hk (hts _ hlink) (fun _ h => h) hv hdg (kk H lsA hR hL locs hS)
/-- a field is written -/
theorem z_put (O : zOK G l own cc nL ret ws R mc ms et PQ PX ini X) {C : String} {T : u_T} {N ci i fk index : Nat} {fs : List Value} {v : Value} {w' : zH} (hin : ∀ x ∈ u_ws C T N, x ∈ ws) (ty0 : Nat → FieldType) (hty : ∀ k, k < N → parseFieldDescriptor (T k).2.2.1 = some (ty0 k)) (hnm : ∀ a, a < N → ∀ b, b < N → a ≠ b → (T a).2.1 ≠ (T b).2.1) (hc : vwCl[ci]? = some (C, T, N)) (hk : fk < N) (hlink : Cond.fieldLink own index (T fk).1 (T fk).2.1 (T fk).2.2.1 ∈ ws) (hfin : (T fk).2.2.2 = false) (hdg : decode cc pc = .ok (.putfield index, 3)) (hn : narrow (ty0 fk) v = v) (hfit : fits (ty0 fk) v = true)
    (hw : w i = some (.inr (ci, fs))) (hl : fk < fs.length) (hw' : ∀ j, w' j = if j = i then some (.inr (ci, fs.set fk v)) else w j) (kk : zV G X nL kc ks (pc + 3) lsv rest w' ad) : zV G X nL kc ks pc lsv (v :: .ref (ad i) :: rest) w ad := by
  obtain ⟨p, e, s, m, args, below, meth, c, hx, hb, hr, hts, hown, hlocks, hml, het, hini, hbase, hK, hSt, hfl, rfl⟩ := O
  intro H lsA hR hL locs hS
  have hap := va_apart (own := own) hts hin ty0 hty hnm hK hc
  have hAt := hR.1 i _ hw
  obtain ⟨r, h1, cell, q1, q2, q3, q4⟩ := hAt.2
  have hr2 : r = (C, T, N) := Option.some.inj (h1.symm.trans hc)
  subst hr2
  obtain ⟨hSl, hfc, kC, hkC, hkind⟩ := hK.1 ci _ hc
  obtain ⟨cf, kf, fi, f, hi, hsl⟩ := hSl fk hk
  have hlay := hts _ (hin _ (u_in_lay hk))
  unfold u_lay at hlay
  rw [if_neg (by rw [hfin]; decide)] at hlay
  have hst := (u_facts hfc hkC (u_lays hts hin hk) hi).1
  have h6 := u_store hfc hkC hkind hlay hi (hty fk hk) hn hfit
  refine W.putK hx hb (f := f) ⟨hown, hts _ hlink, ⟨_, _, _, hi⟩, hst⟩ (by rw [q2]; exact h6) q1 q3 (by rw [hsl]; exact k2_hasslot (q4 fk hk)) rfl rfl hdg fun H' e1 e2 e3 => ?_
  rw [hsl] at e1 ⊢
  exact kk H' lsA (hR.put (e := .inr (ci, fs.set fk v)) hw ⟨_, hc, t_OB.to (V := updV (vp_V fs) fk v) ⟨_, e1, q2, q3, t_set q4 hap hk v⟩ (fun j _ => vp_updV_set hl v j)⟩ e3 hw') hL _ (hS.put e2 e3 hAt.1)
/-- a final field is written, in the class's own constructor -/
theorem z_putF (O : zOK G l own cc nL ret ws R mc ms et PQ PX ini X) (hi0 : ini) {T : u_T} {N ci i fk index : Nat} {fs : List Value} {v : Value} {w' : zH} (hin : ∀ x ∈ u_ws own T N, x ∈ ws) (ty0 : Nat → FieldType) (hty : ∀ k, k < N → parseFieldDescriptor (T k).2.2.1 = some (ty0 k)) (hnm : ∀ a, a < N → ∀ b, b < N → a ≠ b → (T a).2.1 ≠ (T b).2.1) (hc : vwCl[ci]? = some (own, T, N)) (hk : fk < N) (hlink : Cond.fieldLink own index (T fk).1 (T fk).2.1 (T fk).2.2.1 ∈ ws) (hfin : (T fk).2.2.2 = true) (hdecl : (T fk).1 = own) (hdg : decode cc pc = .ok (.putfield index, 3)) (hn : narrow (ty0 fk) v = v) (hfit : fits (ty0 fk) v = true)
    (hw : w i = some (.inr (ci, fs))) (hl : fk < fs.length) (hw' : ∀ j, w' j = if j = i then some (.inr (ci, fs.set fk v)) else w j) (kk : zV G X nL kc ks (pc + 3) lsv rest w' ad) : zV G X nL kc ks pc lsv (v :: .ref (ad i) :: rest) w ad := by
  obtain ⟨p, e, s, m, args, below, meth, c, hx, hb, hr, hts, hown, hlocks, hml, het, hini, hbase, hK, hSt, hfl, rfl⟩ := O
  intro H lsA hR hL locs hS
  have hap := va_apart (own := own) hts hin ty0 hty hnm hK hc
  have hAt := hR.1 i _ hw
  obtain ⟨r, h1, cell, q1, q2, q3, q4⟩ := hAt.2
  have hr2 : r = (own, T, N) := Option.some.inj (h1.symm.trans hc)
  subst hr2
  obtain ⟨hSl, hfc, kC, hkC, hkind⟩ := hK.1 ci _ hc
  obtain ⟨cf, kf, fi, f, hi, hsl⟩ := hSl fk hk
  have hlay := hts _ (hin _ (u_in_lay hk))
  unfold u_lay at hlay
  rw [if_pos hfin] at hlay
  have hst := (u_facts hfc hkC (u_lays hts hin hk) hi).1
  have hcf : m.cls = cf := by
    obtain ⟨_, _, c', _, _, _, -, -, hf', -, -, -, hown2, -⟩ := Cond.laysFinal_spec hlay
    have e1 : c' = cf := by have := hi.symm.trans hf'; simp at this; exact this.1.symm
    rw [hdecl] at hown2
    rw [← e1]; exact Option.some.inj (hown.symm.trans hown2)
  have h6 := u_fits hfc hkC hkind (Or.inr hlay) hi (hty fk hk) hn hfit
  refine W.putFinK hx hb hown (hts _ hlink) hi hst hcf (hini hi0) (by rw [q2]; exact h6) q1 q3 (by rw [hsl]; exact k2_hasslot (q4 fk hk)) rfl rfl hdg fun H' e1 e2 e3 => ?_
  rw [hsl] at e1 ⊢
  exact kk H' lsA (hR.put (e := .inr (ci, fs.set fk v)) hw ⟨_, hc, t_OB.to (V := updV (vp_V fs) fk v) ⟨_, e1, q2, q3, t_set q4 hap hk v⟩ (fun j _ => vp_updV_set hl v j)⟩ e3 hw') hL _ (hS.put e2 e3 hAt.1)
theorem z_in {x : Int32} {j n : Nat} (hx : x = nI j) (hj : j < n) (hn : n < 2 ^ 31) : vp_in x n ∧ x.toNatClampNeg = j := by
  subst hx
  exact ⟨vp_in_nI hj hn, nI_clamp (by omega)⟩
/-- an array of ints is read -/
theorem z_iald (O : zOK G l own cc nL ret ws R mc ms et PQ PX ini X) {i n : Nat} {f : Nat → Int32} {x : Int32} (hdg : decode cc pc = .ok (.iaload, 1)) (hw : w i = some (.inl (0, (n, .inl f)))) (j : Nat) (hx : x = nI j) (hj : j < n) (hn : n < 2 ^ 31)
    (kk : zV G X nL kc ks (pc + 1) lsv (.int (f j) :: rest) w ad) : zV G X nL kc ks pc lsv (.int x :: .ref (ad i) :: rest) w ad := by
  obtain ⟨p, e, s, m, args, below, meth, c, hx0, hb, hr, hts, hown, hlocks, hml, het, hini, hbase, hK, hSt, hfl, rfl⟩ := O
  intro H lsA hR hL locs hS
  obtain ⟨h1, h2⟩ := z_in hx hj hn
  have k9 := kk H lsA hR hL locs hS
  rw [← h2] at k9
  exact va_iald hx0 hb hK (zP1 (hR.1 i _ hw).2) 0 0 rfl (zTys_get G (by decide)) h1 hdg k9
theorem z_cald (O : zOK G l own cc nL ret ws R mc ms et PQ PX ini X) {i n : Nat} {f : Nat → Int32} {x : Int32} (hdg : decode cc pc = .ok (.caload, 1)) (hw : w i = some (.inl (1, (n, .inl f)))) (j : Nat) (hx : x = nI j) (hj : j < n) (hn : n < 2 ^ 31)
    (kk : zV G X nL kc ks (pc + 1) lsv (.int (f j) :: rest) w ad) : zV G X nL kc ks pc lsv (.int x :: .ref (ad i) :: rest) w ad := by
  obtain ⟨p, e, s, m, args, below, meth, c, hx0, hb, hr, hts, hown, hlocks, hml, het, hini, hbase, hK, hSt, hfl, rfl⟩ := O
  intro H lsA hR hL locs hS
  obtain ⟨h1, h2⟩ := z_in hx hj hn
  have k9 := kk H lsA hR hL locs hS
  rw [← h2] at k9
  exact va_cald hx0 hb hK (zP1 (hR.1 i _ hw).2) 0 1 rfl (zTys_get G (by decide)) h1 hdg k9
theorem z_zald (O : zOK G l own cc nL ret ws R mc ms et PQ PX ini X) {i n : Nat} {f : Nat → Int32} {x : Int32} (hdg : decode cc pc = .ok (.baload, 1)) (hw : w i = some (.inl (2, (n, .inl f)))) (j : Nat) (hx : x = nI j) (hj : j < n) (hn : n < 2 ^ 31)
    (kk : zV G X nL kc ks (pc + 1) lsv (.int (f j) :: rest) w ad) : zV G X nL kc ks pc lsv (.int x :: .ref (ad i) :: rest) w ad := by
  obtain ⟨p, e, s, m, args, below, meth, c, hx0, hb, hr, hts, hown, hlocks, hml, het, hini, hbase, hK, hSt, hfl, rfl⟩ := O
  intro H lsA hR hL locs hS
  obtain ⟨h1, h2⟩ := z_in hx hj hn
  have k9 := kk H lsA hR hL locs hS
  rw [← h2] at k9
  exact va_zald hx0 hb hK (zP1 (hR.1 i _ hw).2) 0 2 rfl (zTys_get G (by decide)) h1 hdg k9
theorem z_lald (O : zOK G l own cc nL ret ws R mc ms et PQ PX ini X) {i n : Nat} {f : Nat → Int64} {x : Int32} (hdg : decode cc pc = .ok (.laload, 1)) (hw : w i = some (.inl (3, (n, .inr (.inl f))))) (j : Nat) (hx : x = nI j) (hj : j < n) (hn : n < 2 ^ 31)
    (kk : zV G X nL kc ks (pc + 1) lsv (.long (f j) :: rest) w ad) : zV G X nL kc ks pc lsv (.int x :: .ref (ad i) :: rest) w ad := by
  obtain ⟨p, e, s, m, args, below, meth, c, hx0, hb, hr, hts, hown, hlocks, hml, het, hini, hbase, hK, hSt, hfl, rfl⟩ := O
  intro H lsA hR hL locs hS
  obtain ⟨h1, h2⟩ := z_in hx hj hn
  have k9 := kk H lsA hR hL locs hS
  rw [← h2] at k9
  exact va_lald hx0 hb hK (zP1 (hR.1 i _ hw).2) 0 3 rfl (zTys_get G (by decide)) h1 hdg k9
theorem z_dald (O : zOK G l own cc nL ret ws R mc ms et PQ PX ini X) {i n : Nat} {f : Nat → UInt64} {x : Int32} (hdg : decode cc pc = .ok (.daload, 1)) (hw : w i = some (.inl (4, (n, .inr (.inr (.inr (.inl f))))))) (j : Nat) (hx : x = nI j) (hj : j < n) (hn : n < 2 ^ 31)
    (kk : zV G X nL kc ks (pc + 1) lsv (.double (f j) :: rest) w ad) : zV G X nL kc ks pc lsv (.int x :: .ref (ad i) :: rest) w ad := by
  obtain ⟨p, e, s, m, args, below, meth, c, hx0, hb, hr, hts, hown, hlocks, hml, het, hini, hbase, hK, hSt, hfl, rfl⟩ := O
  intro H lsA hR hL locs hS
  obtain ⟨h1, h2⟩ := z_in hx hj hn
  have k9 := kk H lsA hR hL locs hS
  rw [← h2] at k9
  exact va_dald hx0 hb hK (zP1 (hR.1 i _ hw).2) 0 4 rfl (zTys_get G (by decide)) h1 hdg k9
/-- an array of cells is read: of seats (5), of any (6) -/
theorem z_aald (O : zOK G l own cc nL ret ws R mc ms et PQ PX ini X) {t i n : Nat} {f : Nat → Option Nat} {x : Int32} (ht : t = 5 ∨ t = 6) (hdg : decode cc pc = .ok (.aaload, 1)) (hw : w i = some (.inl (t, (n, .inr (.inr (.inr (.inr f))))))) (j : Nat) (hx : x = nI j) (hj : j < n) (hn : n < 2 ^ 31)
    (kk : zV G X nL kc ks (pc + 1) lsv (va_rf (f j) :: rest) w ad) : zV G X nL kc ks pc lsv (.int x :: .ref (ad i) :: rest) w ad := by
  obtain ⟨p, e, s, m, args, below, meth, c, hx0, hb, hr, hts, hown, hlocks, hml, het, hini, hbase, hK, hSt, hfl, rfl⟩ := O
  intro H lsA hR hL locs hS
  obtain ⟨h1, h2⟩ := z_in hx hj hn
  have k9 := kk H lsA hR hL locs hS
  rw [← h2] at k9
  rcases ht with rfl | rfl
  · exact va_aldq (C := "ClaqueRow$Seat") hx0 hb hK (zP1 (hR.1 i _ hw).2) 0 5 rfl (zTys_get G (by decide)) h1 hdg k9
  · exact va_aldq (C := "java/lang/Object") hx0 hb hK (zP1 (hR.1 i _ hw).2) 0 6 rfl (zTys_get G (by decide)) h1 hdg k9
theorem z_alen (O : zOK G l own cc nL ret ws R mc ms et PQ PX ini X) {t i : Nat} {a : vp_A} (ht : t < 7) (hdg : decode cc pc = .ok (.arraylength, 1)) (hw : w i = some (.inl (t, a)))
    (kk : zV G X nL kc ks (pc + 1) lsv (.int (nI a.1) :: rest) w ad) : zV G X nL kc ks pc lsv (.ref (ad i) :: rest) w ad := by
  obtain ⟨p, e, s, m, args, below, meth, c, hx0, hb, hr, hts, hown, hlocks, hml, het, hini, hbase, hK, hSt, hfl, rfl⟩ := O
  intro H lsA hR hL locs hS
  exact va_alen hx0 hb hK (zP1 (hR.1 i _ hw).2) 0 t rfl (zTys_get G ht) rfl hdg (kk H lsA hR hL locs hS)
/-- arrays are written -/
theorem z_iast (O : zOK G l own cc nL ret ws R mc ms et PQ PX ini X) {i n : Nat} {f : Nat → Int32} {x v : Int32} {w' : zH} (hdg : decode cc pc = .ok (.iastore, 1)) (hw : w i = some (.inl (0, (n, .inl f)))) (j : Nat) (hx : x = nI j) (hj : j < n) (hn : n < 2 ^ 31) (hw' : ∀ b, w' b = if b = i then some (.inl (0, (n, .inl (upd f j v)))) else w b)
    (kk : zV G X nL kc ks (pc + 1) lsv rest w' ad) : zV G X nL kc ks pc lsv (.int v :: .int x :: .ref (ad i) :: rest) w ad := by
  obtain ⟨p, e, s, m, args, below, meth, c, hx0, hb, hr, hts, hown, hlocks, hml, het, hini, hbase, hK, hSt, hfl, rfl⟩ := O
  intro H lsA hR hL locs hS
  obtain ⟨hin, h2⟩ := z_in hx hj hn
  have hAt := hR.1 i _ hw
  refine W.iast hx0 hb hAt.2 ((hK.2 0 _ (zTys_get G (by decide))).1 n (fun j => .int (f j))) (fun q => by cases q) (by show ¬ (x < 0 ∨ (arrV _ _ _).slots.size ≤ _); rw [arrV_size]; exact hin) rfl rfl hdg fun H1 e z oq => ?_
  refine kk H1 lsA (hR.put hw ?_ oq hw') hL _ (hS.put z oq hAt.1)
  show H1[ad i]? = some (vp_cell _ _)
  rw [e, h2]
  show some ((vp_cell _ _).setSlot _ _) = _
  rw [vp_cell_i, vp_cell_i, arrV_store]
  congr 2
  funext q
  by_cases hq : q = j
  · subst hq
    simp [updV, upd]
  · simp [updV, upd, hq]
theorem z_cast (O : zOK G l own cc nL ret ws R mc ms et PQ PX ini X) {i n : Nat} {f : Nat → Int32} {x v : Int32} {w' : zH} (hdg : decode cc pc = .ok (.castore, 1)) (hw : w i = some (.inl (1, (n, .inl f)))) (j : Nat) (hx : x = nI j) (hj : j < n) (hn : n < 2 ^ 31) (hv : narrow .char (.int v) = .int v) (hw' : ∀ b, w' b = if b = i then some (.inl (1, (n, .inl (upd f j v)))) else w b)
    (kk : zV G X nL kc ks (pc + 1) lsv rest w' ad) : zV G X nL kc ks pc lsv (.int v :: .int x :: .ref (ad i) :: rest) w ad := by
  obtain ⟨p, e, s, m, args, below, meth, c, hx0, hb, hr, hts, hown, hlocks, hml, het, hini, hbase, hK, hSt, hfl, rfl⟩ := O
  intro H lsA hR hL locs hS
  obtain ⟨hin, h2⟩ := z_in hx hj hn
  have hAt := hR.1 i _ hw
  refine W.cast hx0 hb hAt.2 ((hK.2 1 _ (zTys_get G (by decide))).1 n (fun j => .int (f j))) (fun q => by cases q) (by show ¬ (x < 0 ∨ (arrV _ _ _).slots.size ≤ _); rw [arrV_size]; exact hin) rfl rfl hdg fun H1 e z oq => ?_
  refine kk H1 lsA (hR.put hw ?_ oq hw') hL _ (hS.put z oq hAt.1)
  show H1[ad i]? = some (vp_cell _ _)
  rw [e, h2, hv]
  show some ((vp_cell _ _).setSlot _ _) = _
  rw [vp_cell_i, vp_cell_i, arrV_store]
  congr 2
  funext q
  by_cases hq : q = j
  · subst hq
    simp [updV, upd]
  · simp [updV, upd, hq]
theorem z_zast (O : zOK G l own cc nL ret ws R mc ms et PQ PX ini X) {i n : Nat} {f : Nat → Int32} {x v : Int32} {w' : zH} (hdg : decode cc pc = .ok (.bastore, 1)) (hw : w i = some (.inl (2, (n, .inl f)))) (j : Nat) (hx : x = nI j) (hj : j < n) (hn : n < 2 ^ 31) (hv : narrow .boolean (.int v) = .int v) (hw' : ∀ b, w' b = if b = i then some (.inl (2, (n, .inl (upd f j v)))) else w b)
    (kk : zV G X nL kc ks (pc + 1) lsv rest w' ad) : zV G X nL kc ks pc lsv (.int v :: .int x :: .ref (ad i) :: rest) w ad := by
  obtain ⟨p, e, s, m, args, below, meth, c, hx0, hb, hr, hts, hown, hlocks, hml, het, hini, hbase, hK, hSt, hfl, rfl⟩ := O
  intro H lsA hR hL locs hS
  obtain ⟨hin, h2⟩ := z_in hx hj hn
  have hAt := hR.1 i _ hw
  refine W.zast hx0 hb hAt.2 ((hK.2 2 _ (zTys_get G (by decide))).1 n (fun j => .int (f j))) (fun q => by cases q) (by show ¬ (x < 0 ∨ (arrV _ _ _).slots.size ≤ _); rw [arrV_size]; exact hin) rfl rfl hdg fun H1 e z oq => ?_
  refine kk H1 lsA (hR.put hw ?_ oq hw') hL _ (hS.put z oq hAt.1)
  show H1[ad i]? = some (vp_cell _ _)
  rw [e, h2, hv]
  show some ((vp_cell _ _).setSlot _ _) = _
  rw [vp_cell_i, vp_cell_i, arrV_store]
  congr 2
  funext q
  by_cases hq : q = j
  · subst hq
    simp [updV, upd]
  · simp [updV, upd, hq]
/-- returns -/
theorem z_iret (O : zOK G l own cc nL (some .int) ws R mc ms et PQ PX ini X) {x : Int32} (hdg : decode cc pc = .ok (.ireturn, 1)) (h1 : kc ≤ mc) (h2 : ks ≤ ms) (hq : PQ (some (.int x)) w ad) : zV G X nL kc ks pc lsv [.int x] w ad := by
  obtain ⟨p, e, s, m, args, below, meth, c, hx0, hb, hr, hts, hown, hlocks, hml, het, hini, hbase, hK, hSt, hfl, rfl⟩ := O
  intro H lsA hR hL locs hS
  refine vx_ret (W.widen h1 h2 ?_)
  exact W.iret hx0 hb hr (fun t ht hW => ⟨⟨_, w, ad, rfl, hq, by rw [ht]; exact hR⟩, hS.F ht⟩) hS.2.2 hdg hlocks
theorem z_zret (O : zOK G l own cc nL ret ws R mc ms et PQ PX ini X) {ty : FieldType} (hret : ret = some ty) {x : Int32} (hn : narrow ty (.int x) = .int x) (hdg : decode cc pc = .ok (.ireturn, 1)) (h1 : kc ≤ mc) (h2 : ks ≤ ms) (hq : PQ (some (.int x)) w ad) : zV G X nL kc ks pc lsv [.int x] w ad := by
  subst hret
  obtain ⟨p, e, s, m, args, below, meth, c, hx0, hb, hr, hts, hown, hlocks, hml, het, hini, hbase, hK, hSt, hfl, rfl⟩ := O
  intro H lsA hR hL locs hS
  refine vx_ret (W.widen h1 h2 ?_)
  exact W.zret hx0 hb hr hn (fun t ht hW => ⟨⟨_, w, ad, rfl, hq, by rw [ht]; exact hR⟩, hS.F ht⟩) hS.2.2 hdg hlocks
theorem z_vret (O : zOK G l own cc nL none ws R mc ms et PQ PX ini X) (hdg : decode cc pc = .ok (.return_, 1)) (h1 : kc ≤ mc) (h2 : ks ≤ ms) (hq : PQ none w ad) : zV G X nL kc ks pc lsv [] w ad := by
  obtain ⟨p, e, s, m, args, below, meth, c, hx0, hb, hr, hts, hown, hlocks, hml, het, hini, hbase, hK, hSt, hfl, rfl⟩ := O
  intro H lsA hR hL locs hS
  refine vx_ret (W.widen h1 h2 ?_)
  exact W.vret hx0 hb hr (fun t ht hW => ⟨⟨_, w, ad, rfl, hq, by rw [ht]; exact hR⟩, hS.F ht⟩) hS.2.2 hdg hlocks
theorem z_aret (O : zOK G l own cc nL ret ws R mc ms et PQ PX ini X) {rt : FieldType} (hret : ret = some rt) (hrt : (∃ n, rt = .object n) ∨ ∃ t, rt = .array t) {r : Option Nat} (hdg : decode cc pc = .ok (.areturn, 1)) (h1 : kc ≤ mc) (h2 : ks ≤ ms) (hq : PQ (some (va_rf r)) w ad) : zV G X nL kc ks pc lsv [va_rf r] w ad := by
  subst hret
  obtain ⟨p, e, s, m, args, below, meth, c, hx0, hb, hr, hts, hown, hlocks, hml, het, hini, hbase, hK, hSt, hfl, rfl⟩ := O
  intro H lsA hR hL locs hS
  refine vx_ret (W.widen h1 h2 ?_)
  exact W.aret hx0 hb hr hrt (va_rf_or r) (fun t ht hW => ⟨⟨_, w, ad, rfl, hq, by rw [ht]; exact hR⟩, hS.F ht⟩) hS.2.2 hdg hlocks
theorem z_lret (O : zOK G l own cc nL (some .long) ws R mc ms et PQ PX ini X) {x : Int64} (hdg : decode cc pc = .ok (.lreturn, 1)) (h1 : kc ≤ mc) (h2 : ks ≤ ms) (hq : PQ (some (.long x)) w ad) : zV G X nL kc ks pc lsv [.long x] w ad := by
  obtain ⟨p, e, s, m, args, below, meth, c, hx0, hb, hr, hts, hown, hlocks, hml, het, hini, hbase, hK, hSt, hfl, rfl⟩ := O
  intro H lsA hR hL locs hS
  refine vx_ret (W.widen h1 h2 ?_)
  exact W.lret hx0 hb hr (fun t ht hW => ⟨⟨_, w, ad, rfl, hq, by rw [ht]; exact hR⟩, hS.F ht⟩) hS.2.2 hdg hlocks
theorem z_fret (O : zOK G l own cc nL (some .float) ws R mc ms et PQ PX ini X) {x : UInt32} (hdg : decode cc pc = .ok (.freturn, 1)) (h1 : kc ≤ mc) (h2 : ks ≤ ms) (hq : PQ (some (.float x)) w ad) : zV G X nL kc ks pc lsv [.float x] w ad := by
  obtain ⟨p, e, s, m, args, below, meth, c, hx0, hb, hr, hts, hown, hlocks, hml, het, hini, hbase, hK, hSt, hfl, rfl⟩ := O
  intro H lsA hR hL locs hS
  refine vx_ret (W.widen h1 h2 ?_)
  exact W.fret hx0 hb hr (fun t ht hW => ⟨⟨_, w, ad, rfl, hq, by rw [ht]; exact hR⟩, hS.F ht⟩) hS.2.2 hdg hlocks
theorem z_dret (O : zOK G l own cc nL (some .double) ws R mc ms et PQ PX ini X) {x : UInt64} (hdg : decode cc pc = .ok (.dreturn, 1)) (h1 : kc ≤ mc) (h2 : ks ≤ ms) (hq : PQ (some (.double x)) w ad) : zV G X nL kc ks pc lsv [.double x] w ad := by
  obtain ⟨p, e, s, m, args, below, meth, c, hx0, hb, hr, hts, hown, hlocks, hml, het, hini, hbase, hK, hSt, hfl, rfl⟩ := O
  intro H lsA hR hL locs hS
  refine vx_ret (W.widen h1 h2 ?_)
  exact W.dret hx0 hb hr (fun t ht hW => ⟨⟨_, w, ad, rfl, hq, by rw [ht]; exact hR⟩, hS.F ht⟩) hS.2.2 hdg hlocks
end ZROWS
