/-! ===== what the tables and the start say beside the words ===== -/
set_option maxRecDepth 100000 in
theorem zk_str : ∀ w ∈ zStr.map (fun t => Cond.stringRef RX7 t.1 t.2), w ∈ lw_tbl := in_places [389, 485, 509, 519, 551, 561, 678, 713, 714, 715, 760, 851, 888, 904, 969, 1011] (by decide +kernel)
set_option maxRecDepth 100000 in
theorem zk_exs : ∀ w ∈ zExs.map (fun E => Cond.castable E E), w ∈ lw_tbl := in_places [346, 478, 512, 554, 962, 1000] (by decide +kernel)
set_option maxRecDepth 100000 in
theorem zk_nst : ∀ w ∈ zNst.map (fun t => Cond.methodLinkNest t.1 t.2.1 t.2.2.1 t.2.2.2), w ∈ lw_tbl := in_places [89, 149, 188] (by decide +kernel)
set_option maxRecDepth 100000 in
theorem zk_dec : ∀ w ∈ zDec.map (fun Y => Cond.declares (Bundle.initS Y)), w ∈ lw_tbl := in_places [348, 350, 352] (by decide +kernel)
set_option maxRecDepth 100000 in
theorem zk_obs : ∀ w ∈ zObs.map (fun C => Cond.castable C "java/lang/Object"), w ∈ lw_tbl := in_places [1404, 1405, 1406] (by decide +kernel)
def zMisc : List Cond := [Cond.arrayOver (.object "ClaqueRow$Seat"), Cond.arrayOver (.object "java/lang/Object"), Cond.declares ⟨"java/lang/Object", "getClass", "()Ljava/lang/Class;"⟩, Cond.laysStatic Bundle.tN "UNASSIGNED_STACK" Bundle.steD, Cond.laysStatic Bundle.tN "SUPPRESSED_SENTINEL" Bundle.listD, Cond.laysStatic "java/util/ArrayList" "DEFAULTCAPACITY_EMPTY_ELEMENTDATA" "[Ljava/lang/Object;", Cond.initialized Bundle.tN, Cond.initialized "java/util/ArrayList", Cond.instantiable RJ0 4, Cond.instantiable RJx00060 6, Cond.instantiable RJx4a65c 3, Cond.instantiable RX0 5, Cond.instantiable RX1 7, Cond.instantiable RX2 6, Cond.instantiable RX3 3, Cond.instantiable RX4 9, Cond.instantiable RX5 4, Cond.instantiable RX6 1, Cond.instantiable RX7 6, Cond.instantiable RX8 37]
set_option maxRecDepth 100000 in
theorem zk_misc : ∀ w ∈ zMisc, w ∈ lw_tbl := in_places [87, 654, 1413, 371, 373, 166, 51, 48, 463, 445, 154, 717, 187, 568, 81, 88, 679, 148, 73, 1021] (by decide +kernel)
theorem zk_m0 : Cond.arrayOver (.object "ClaqueRow$Seat") ∈ lw_tbl := zk_misc _ (List.mem_of_getElem? (i := 0) rfl)
theorem zk_m1 : Cond.arrayOver (.object "java/lang/Object") ∈ lw_tbl := zk_misc _ (List.mem_of_getElem? (i := 1) rfl)
theorem zk_m2 : Cond.declares ⟨"java/lang/Object", "getClass", "()Ljava/lang/Class;"⟩ ∈ lw_tbl := zk_misc _ (List.mem_of_getElem? (i := 2) rfl)
theorem zk_m3 : Cond.laysStatic Bundle.tN "UNASSIGNED_STACK" Bundle.steD ∈ lw_tbl := zk_misc _ (List.mem_of_getElem? (i := 3) rfl)
theorem zk_m4 : Cond.laysStatic Bundle.tN "SUPPRESSED_SENTINEL" Bundle.listD ∈ lw_tbl := zk_misc _ (List.mem_of_getElem? (i := 4) rfl)
theorem zk_m5 : Cond.laysStatic "java/util/ArrayList" "DEFAULTCAPACITY_EMPTY_ELEMENTDATA" "[Ljava/lang/Object;" ∈ lw_tbl := zk_misc _ (List.mem_of_getElem? (i := 5) rfl)
theorem zk_m6 : Cond.initialized Bundle.tN ∈ lw_tbl := zk_misc _ (List.mem_of_getElem? (i := 6) rfl)
theorem zk_m7 : Cond.initialized "java/util/ArrayList" ∈ lw_tbl := zk_misc _ (List.mem_of_getElem? (i := 7) rfl)
theorem zk_m8 : Cond.instantiable RJ0 4 ∈ lw_tbl := zk_misc _ (List.mem_of_getElem? (i := 8) rfl)
theorem zk_m9 : Cond.instantiable RJx00060 6 ∈ lw_tbl := zk_misc _ (List.mem_of_getElem? (i := 9) rfl)
theorem zk_m10 : Cond.instantiable RJx4a65c 3 ∈ lw_tbl := zk_misc _ (List.mem_of_getElem? (i := 10) rfl)
theorem zk_m11 : Cond.instantiable RX0 5 ∈ lw_tbl := zk_misc _ (List.mem_of_getElem? (i := 11) rfl)
theorem zk_m12 : Cond.instantiable RX1 7 ∈ lw_tbl := zk_misc _ (List.mem_of_getElem? (i := 12) rfl)
theorem zk_m13 : Cond.instantiable RX2 6 ∈ lw_tbl := zk_misc _ (List.mem_of_getElem? (i := 13) rfl)
theorem zk_m14 : Cond.instantiable RX3 3 ∈ lw_tbl := zk_misc _ (List.mem_of_getElem? (i := 14) rfl)
theorem zk_m15 : Cond.instantiable RX4 9 ∈ lw_tbl := zk_misc _ (List.mem_of_getElem? (i := 15) rfl)
theorem zk_m16 : Cond.instantiable RX5 4 ∈ lw_tbl := zk_misc _ (List.mem_of_getElem? (i := 16) rfl)
theorem zk_m17 : Cond.instantiable RX6 1 ∈ lw_tbl := zk_misc _ (List.mem_of_getElem? (i := 17) rfl)
theorem zk_m18 : Cond.instantiable RX7 6 ∈ lw_tbl := zk_misc _ (List.mem_of_getElem? (i := 18) rfl)
theorem zk_m19 : Cond.instantiable RX8 37 ∈ lw_tbl := zk_misc _ (List.mem_of_getElem? (i := 19) rfl)
def zGiv : List Cond := [Cond.arrayOf (.static "java/util/ArrayList" "DEFAULTCAPACITY_EMPTY_ELEMENTDATA" "[Ljava/lang/Object;") (.object "java/lang/Object"), Cond.eq (.length (.static "java/util/ArrayList" "DEFAULTCAPACITY_EMPTY_ELEMENTDATA" "[Ljava/lang/Object;")) (.int 0), Cond.isRef (.static Bundle.tN "UNASSIGNED_STACK" Bundle.steD), Cond.isRef (.static Bundle.tN "SUPPRESSED_SENTINEL" Bundle.listD), Cond.isRef (.mirror "[Ljava/lang/Object;")]
set_option maxRecDepth 100000 in
theorem zk_giv : ∀ w ∈ zGiv, w ∈ flatC (Jvm.Cond.and given_1 narrow_1) := in_places [5, 7, 8, 9, 123] (by decide +kernel)
theorem zk_g0 : Cond.arrayOf (.static "java/util/ArrayList" "DEFAULTCAPACITY_EMPTY_ELEMENTDATA" "[Ljava/lang/Object;") (.object "java/lang/Object") ∈ flatC (Jvm.Cond.and given_1 narrow_1) := zk_giv _ (List.mem_of_getElem? (i := 0) rfl)
theorem zk_g1 : Cond.eq (.length (.static "java/util/ArrayList" "DEFAULTCAPACITY_EMPTY_ELEMENTDATA" "[Ljava/lang/Object;")) (.int 0) ∈ flatC (Jvm.Cond.and given_1 narrow_1) := zk_giv _ (List.mem_of_getElem? (i := 1) rfl)
theorem zk_g2 : Cond.isRef (.static Bundle.tN "UNASSIGNED_STACK" Bundle.steD) ∈ flatC (Jvm.Cond.and given_1 narrow_1) := zk_giv _ (List.mem_of_getElem? (i := 2) rfl)
theorem zk_g3 : Cond.isRef (.static Bundle.tN "SUPPRESSED_SENTINEL" Bundle.listD) ∈ flatC (Jvm.Cond.and given_1 narrow_1) := zk_giv _ (List.mem_of_getElem? (i := 3) rfl)
theorem zk_g4 : Cond.isRef (.mirror "[Ljava/lang/Object;") ∈ flatC (Jvm.Cond.and given_1 narrow_1) := zk_giv _ (List.mem_of_getElem? (i := 4) rfl)
def zPairs : List (String × String) := zExs.flatMap (fun E => (zExs.filter (fun F => decide (E ≠ F))).map (fun F => (E, F)))
set_option maxRecDepth 100000 in
theorem zk_pairs : ∀ w ∈ zPairs.map (fun q => Cond.not (.castable q.1 q.2)), w ∈ flatC (Jvm.Cond.and given_1 narrow_1) := in_places [33, 48, 64, 80, 96, 18, 50, 66, 82, 98, 19, 34, 67, 83, 99, 20, 35, 51, 84, 100, 24, 39, 55, 71, 104, 25, 40, 56, 72, 88] (by decide +kernel)
theorem zArrP {args : Array Value} {s : State} {ty : FieldType} (hty : ∀ C, ty ≠ .object C) (h : (Cond.arrayClass ty).before args s = true) : ∃ cA, ArrOfT s cA ty ∧ va_RA s cA ty := by
  obtain ⟨cA, kA, comp, h1, h2, h3⟩ := Cond.arrayClass_spec h
  refine ⟨cA, fun n z => ⟨fun k h => (by cases h), kA, h2, comp, h3⟩, ?_⟩
  cases ty with
  | object C => exact absurd rfl (hty C)
  | _ => exact h1
theorem zArrO {args : Array Value} {s : State} {C : String} (h : (Cond.arrayOver (.object C)).before args s = true) : ∃ cA, ArrOfT s cA (.object C) ∧ va_RA s cA (.object C) := by
  obtain ⟨comp, cA, kA, h1, h2, h3, h4, h5⟩ := Cond.arrayOver_spec h
  exact ⟨cA, fun n z => ⟨fun k h => (by cases h), kA, h3, comp, h4⟩, kA, comp, h3, h4, h1, h5⟩
set_option maxRecDepth 100000 in
set_option maxHeartbeats 4000000 in
/-- the classes, the arrays' classes, the statics: what every method stands on, at the law's start -/
theorem law_facts {s : State} {b : Nat} (hts : ∀ w ∈ lw_tbl, w.before #[Value.ref b] s = true) (hgv : (Jvm.Cond.and given_1 narrow_1).before #[Value.ref b] s = true) : ∃ G : zG, G.2.2.1 = s.heap.size ∧ va_K G.1 vwCl (zTys G) s ∧ zSt G s s.heap := by
  have hg := flat_of_before _ hgv
  have hC : ∀ k : Nat, ∃ x : ClassId × (Nat → Nat), ∀ q : vw_C, vwCl[k]? = some q → u_Kn s q.1 q.2.1 q.2.2 x.1 x.2 := by
    intro k
    rcases (show k = 0 ∨ k = 1 ∨ k = 2 ∨ k = 3 ∨ k = 4 ∨ k = 5 ∨ k = 6 ∨ k = 7 ∨ k = 8 ∨ k = 9 ∨ k = 10 ∨ k = 11 ∨ 12 ≤ k by omega) with rfl | rfl | rfl | rfl | rfl | rfl | rfl | rfl | rfl | rfl | rfl | rfl | h12
    · obtain ⟨cC, iS, hk⟩ := u_known (C := RJ0) (T := TJ0) (N := 2) (n := 4) hts (fun w h => zAll_tbl w (zu_RJ0 w h)) (hts _ zk_m8)
      exact ⟨(cC, iS), fun q hq => by cases hq; exact hk⟩
    · obtain ⟨cC, iS, hk⟩ := u_known (C := RJx00060) (T := TJx00060) (N := 6) (n := 6) hts (fun w h => zAll_tbl w (zu_RJx00060 w h)) (hts _ zk_m9)
      exact ⟨(cC, iS), fun q hq => by cases hq; exact hk⟩
    · obtain ⟨cC, iS, hk⟩ := u_known (C := RJx4a65c) (T := TJx4a65c) (N := 3) (n := 3) hts (fun w h => zAll_tbl w (zu_RJx4a65c w h)) (hts _ zk_m10)
      exact ⟨(cC, iS), fun q hq => by cases hq; exact hk⟩
    · obtain ⟨cC, iS, hk⟩ := u_known (C := RX0) (T := TX0) (N := 5) (n := 5) hts (fun w h => zAll_tbl w (zu_RX0 w h)) (hts _ zk_m11)
      exact ⟨(cC, iS), fun q hq => by cases hq; exact hk⟩
    · obtain ⟨cC, iS, hk⟩ := u_known (C := RX1) (T := TX1) (N := 7) (n := 7) hts (fun w h => zAll_tbl w (zu_RX1 w h)) (hts _ zk_m12)
      exact ⟨(cC, iS), fun q hq => by cases hq; exact hk⟩
    · obtain ⟨cC, iS, hk⟩ := u_known (C := RX2) (T := TX2) (N := 6) (n := 6) hts (fun w h => zAll_tbl w (zu_RX2 w h)) (hts _ zk_m13)
      exact ⟨(cC, iS), fun q hq => by cases hq; exact hk⟩
    · obtain ⟨cC, iS, hk⟩ := u_known (C := RX3) (T := TX3) (N := 3) (n := 3) hts (fun w h => zAll_tbl w (zu_RX3 w h)) (hts _ zk_m14)
      exact ⟨(cC, iS), fun q hq => by cases hq; exact hk⟩
    · obtain ⟨cC, iS, hk⟩ := u_known (C := RX4) (T := TX4) (N := 9) (n := 9) hts (fun w h => zAll_tbl w (zu_RX4 w h)) (hts _ zk_m15)
      exact ⟨(cC, iS), fun q hq => by cases hq; exact hk⟩
    · obtain ⟨cC, iS, hk⟩ := u_known (C := RX5) (T := TX5) (N := 4) (n := 4) hts (fun w h => zAll_tbl w (zu_RX5 w h)) (hts _ zk_m16)
      exact ⟨(cC, iS), fun q hq => by cases hq; exact hk⟩
    · obtain ⟨cC, iS, hk⟩ := u_known (C := RX6) (T := TX6) (N := 1) (n := 1) hts (fun w h => zAll_tbl w (zu_RX6 w h)) (hts _ zk_m17)
      exact ⟨(cC, iS), fun q hq => by cases hq; exact hk⟩
    · obtain ⟨cC, iS, hk⟩ := u_known (C := RX7) (T := TX7) (N := 6) (n := 6) hts (fun w h => zAll_tbl w (zu_RX7 w h)) (hts _ zk_m18)
      exact ⟨(cC, iS), fun q hq => by cases hq; exact hk⟩
    · obtain ⟨cC, iS, hk⟩ := u_known (C := RX8) (T := TX8) (N := 37) (n := 37) hts (fun w h => zAll_tbl w (zu_RX8 w h)) (hts _ zk_m19)
      exact ⟨(cC, iS), fun q hq => by cases hq; exact hk⟩
    · obtain ⟨cC, iS, hk⟩ := u_known (C := RX7) (T := TX7) (N := 6) (n := 6) hts (fun w h => zAll_tbl w (zu_RX7 w h)) (hts _ zk_m18)
      exact ⟨(cC, iS), fun q hq => absurd (List.getElem?_eq_some_iff.mp hq).1 (Nat.not_lt.mpr h12)⟩
  have hT : ∀ t : Nat, ∃ cA : ClassId, t < 7 → ArrOfT s cA (zTy t) ∧ va_RA s cA (zTy t) := by
    intro t
    rcases (show t = 0 ∨ t = 1 ∨ t = 2 ∨ t = 3 ∨ t = 4 ∨ t = 5 ∨ t = 6 ∨ 7 ≤ t by omega) with rfl | rfl | rfl | rfl | rfl | rfl | rfl | h7
    · obtain ⟨cA, h⟩ := zArrP (fun C h => (by cases h)) (hts _ (zAll_tbl _ zm7_19))
      exact ⟨cA, fun _ => h⟩
    · obtain ⟨cA, h⟩ := zArrP (fun C h => (by cases h)) (hts _ (zAll_tbl _ zm7_18))
      exact ⟨cA, fun _ => h⟩
    · obtain ⟨cA, h⟩ := zArrP (fun C h => (by cases h)) (hts _ (zAll_tbl _ zm7_21))
      exact ⟨cA, fun _ => h⟩
    · obtain ⟨cA, h⟩ := zArrP (fun C h => (by cases h)) (hts _ (zAll_tbl _ zm11_18))
      exact ⟨cA, fun _ => h⟩
    · obtain ⟨cA, h⟩ := zArrP (fun C h => (by cases h)) (hts _ (zAll_tbl _ zm11_19))
      exact ⟨cA, fun _ => h⟩
    · obtain ⟨cA, h⟩ := zArrO (hts _ zk_m0)
      exact ⟨cA, fun _ => h⟩
    · obtain ⟨cA, h⟩ := zArrO (hts _ zk_m1)
      exact ⟨cA, fun _ => h⟩
    · obtain ⟨cA, h⟩ := zArrO (hts _ zk_m1)
      exact ⟨cA, fun h9 => absurd h9 (by omega)⟩
  obtain ⟨mi, hmi⟩ := va_Mi.of (hg _ zk_g4)
  have hA : ∀ a : Nat, a < s.heap.size → ¬ s.heap.size ≤ a := fun a h => Nat.not_le.mpr h
  obtain ⟨e0, he, hT0⟩ := va_Tof (A := fun q => s.heap.size ≤ q) (N := 0) (f := fun _ => Value.null) (by decide) (hg _ zk_g0) (va_eqt (hg _ zk_g1)) (fun j hj => absurd hj (Nat.not_lt_zero j)) hA
  obtain ⟨kC, hkC⟩ : ∃ f : Nat → ClassId × (Nat → Nat), ∀ (k : Nat) (q : vw_C), vwCl[k]? = some q → u_Kn s q.1 q.2.1 q.2.2 (f k).1 (f k).2 := ⟨fun k => (hC k).choose, fun k => (hC k).choose_spec⟩
  obtain ⟨kT, hkT⟩ : ∃ f : Nat → ClassId, ∀ t, t < 7 → ArrOfT s (f t) (zTy t) ∧ va_RA s (f t) (zTy t) := ⟨fun t => (hT t).choose, fun t => (hT t).choose_spec⟩
  obtain ⟨cX, kX, hX7⟩ : ∃ c k, s.vm.findClass RX7 = some c ∧ s.vm.classes[c]? = some k := by
    obtain ⟨h1, h2⟩ := (hkC 10 _ rfl).2
    obtain ⟨k, h3, -⟩ := h2
    exact ⟨_, k, h1, h3⟩
  refine ⟨((fun k => (kC k).1, fun k => (kC k).2), kT, s.heap.size, e0, mi), rfl, ⟨fun c q hq => hkC c q hq, fun k q hq => ?_⟩, ⟨⟨vx_Zqof (hts _ zk_m3) (hts _ zk_m6) (hg _ zk_g2) hA, vx_Zqof (hts _ zk_m4) (hts _ zk_m6) (hg _ zk_g3) hA, va_Zof (hts _ zk_m5) (hts _ zk_m7) he hA, hT0⟩, ⟨fun t ht => ?_, fun E hE => ?_, fun E hE F hF n => ?_, fun t ht => ?_, hmi, va_Dc.of (hts _ zk_m2), va_AO.of (hts _ zk_m0), va_AO.of (hts _ zk_m1), fun Y hY => ?_, fun C hC => ?_⟩⟩⟩
  · rcases Nat.lt_or_ge k 7 with h7 | h7
    · rw [zTys_get _ h7] at hq
      cases hq
      exact hkT k h7
    · exact absurd (List.getElem?_eq_some_iff.mp hq).1 (Nat.not_lt.mpr (by simpa [zTys] using h7))
  · have h := hts _ (zk_str _ (List.mem_map.mpr ⟨t, ht, rfl⟩))
    obtain ⟨k9, cf9, i9, a, q1, q2, q3, q4, q5, ha⟩ := Cond.stringRef_spec hX7.1 h
    exact ⟨a, vk_R.of h ha⟩
  · exact va_any rfl (hts _ (zk_exs _ (List.mem_map.mpr ⟨E, hE, rfl⟩)))
  · exact va_Nc.of (hg _ (zk_pairs _ (List.mem_map.mpr ⟨(E, F), List.mem_flatMap.mpr ⟨E, hE, List.mem_map.mpr ⟨F, List.mem_filter.mpr ⟨hF, decide_eq_true n⟩, rfl⟩⟩, rfl⟩)))
  · exact va_any rfl (hts _ (zk_nst _ (List.mem_map.mpr ⟨t, ht, rfl⟩)))
  · exact va_any rfl (hts _ (zk_dec _ (List.mem_map.mpr ⟨Y, hY, rfl⟩)))
  · exact va_any rfl (hts _ (zk_obs _ (List.mem_map.mpr ⟨C, hC, rfl⟩)))
