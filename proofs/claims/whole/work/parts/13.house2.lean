def fIter (g : zM → Nat → zM) (Z : zM) : Nat → zM
  | 0 => Z
  | i + 1 => g (fIter g Z i) i
theorem fKeep_7 (Z : zM) (i k : Nat) : fIter fKeep Z i 7 k = Z 7 k := by
  induction i with
  | zero => rfl
  | succ i ih => show zu (zu (fIter fKeep Z i) 5 i (fIter fKeep Z i 3 i)) 8 i (fIter fKeep Z i 7 i) 7 k = _; rw [zu_f (by decide), zu_f (by decide), ih]
/-- all seats empty: the numbers, and which hand sits where -/
def fBuild (Z : zM) (sb : Nat → Option Nat) : Nat → zM × (Nat → Option Nat)
  | 0 => (Z, sb)
  | i + 1 => (fTake (fBuild Z sb i).1 i 46, fUn (fBuild Z sb i).1 (fBuild Z sb i).2 i)
theorem fTake_at (Z : zM) (k : Nat) (c : Int32) (f j : Nat) : fTake Z k c f j = if j = k then (if f = 0 then c else if f = 2 then -1 else if f = 1 ∨ f = 3 ∨ f = 4 ∨ f = 6 ∨ f = 7 then 0 else Z f j) else Z f j := by
  unfold fTake fRest zu
  by_cases hj : j = k
  · subst hj
    simp only [and_true, if_true]
    repeat' split
    all_goals first | rfl | omega
  · simp [hj]
/-- what holds of seats at all times: characters, hands that there are -/
def zSeats (Z : zM) : Prop := ∀ k, k < 80 → zChr (Z 0 k) ∧ (zh (Z 2 k) = none → Z 2 k = -1) ∧ ∀ j, zh (Z 2 k) = some j → j < zN Z 0 ∧ j < 20
theorem zSeats_take {Z : zM} (h : zSeats Z) {k : Nat} {c : Int32} (hc : zChr c) : zSeats (fTake Z k c) := by
  intro b hb
  obtain ⟨h1, h2, h3⟩ := h b hb
  have hN : zN (fTake Z k c) 0 = zN Z 0 := by simp [zN, fTake_at]
  rw [hN, fTake_at, fTake_at]
  by_cases hbk : b = k
  · simp only [if_pos hbk, if_true]
    exact ⟨hc, fun _ => rfl, fun j hj => by simp [zh] at hj⟩
  · simp only [if_neg hbk]
    exact ⟨h1, h2, h3⟩
theorem zChr_46 : zChr 46 := by unfold zChr; decide
theorem zSeats_build {Z : zM} {sb : Nat → Option Nat} (h : zSeats Z) : ∀ i, zSeats (fBuild Z sb i).1
  | 0 => h
  | i + 1 => zSeats_take (zSeats_build h i) zChr_46
theorem rI_0 (a : Nat) : nI a - 1 = rI a 0 := by unfold rI; rw [nI_0]; simp
set_option maxRecDepth 100000 in
set_option maxHeartbeats 4000000 in
theorem c_X3_forgetEvening {G : zG} {l : Launch} (hl : l.stackTraces = false) {Z : zM} {sb : Nat → Option Nat} {mcn : Nat → Int32} {cp : Nat → Nat} {Y : zM} {th : Int32} {o : Nat → Int64} {od : Nat → UInt64} {ad : Nat → Nat} : zCt G l yX3_forgetEvening (zws yX3_forgetEvening cX3_forgetEvening 5 none) ({ frames := 1, cells := 0, slots := 0, locals := 20 }) [.ref (ad 1)] (zent Z sb mcn cp G.2.2.2.1 Y th o od ad) ad (fun r w1 ad1 => none = r ∧ zent (fIter fRest Z 80) sb mcn cp G.2.2.2.1 Y th o od ad = w1 ∧ ad = ad1) (zNoX) := by
  refine z_body hl (by decide +kernel) (Nat.le_of_ble_eq_true rfl) (fun X O => ?_)
  have L : ∀ (n : Nat) (i : Nat), i ≤ 80 → 80 < i + n → zV G X 5 0 0 10 [(0, .ref (ad 1)), (1, .ref (ad 2)), (2, .int (nI 80)), (3, .int (nI i))] [] (zent (fIter fRest Z i) sb mcn cp G.2.2.2.1 Y th o od ad) ad := by
    intro n
    induction n with
    | zero => intro i h1 h2; omega
    | succ n ih =>
      intro i h1 h2
      refine z_iload_n O dX3_forgetEvening_10 rfl ?_
      refine z_iload_n O dX3_forgetEvening_11 rfl ?_
      refine z_icmp_ge O dX3_forgetEvening_12 (tgt := 31) (by decide) (fun h => ?_) (fun h => ?_)
      · have hi : i = 80 := by have := z_ge_ge (by omega) (by decide) h; omega
        subst hi
        exact z_vret O dX3_forgetEvening_31 (Nat.le_of_ble_eq_true rfl) (Nat.le_of_ble_eq_true rfl) (⟨rfl, rfl, rfl⟩)
      · have hi : i < 80 := z_ge_lt (by omega) (by decide) h
        refine z_aload_n O dX3_forgetEvening_15 rfl ?_
        refine z_iload_n O dX3_forgetEvening_16 rfl ?_
        refine z_aald O (Or.inl rfl) dX3_forgetEvening_17 (zg_arr) i rfl hi (by decide) ?_
        refine z_astore O dX3_forgetEvening_18 (by decide) ?_
        refine z_aload O dX3_forgetEvening_20 rfl ?_
        refine z_callV O (c_X4_forgetEvening hl hi) zI zm2_68 zm2_61 zm2_62 zm0_61 zm2_57 ⟨rfl, by decide +kernel, by decide +kernel, (show _ = some 0 by decide +kernel)⟩ rfl (zg_seat hi) ⟨Nat.le_of_ble_eq_true rfl, Nat.le_of_ble_eq_true rfl⟩ ⟨Nat.le_of_ble_eq_true rfl, Nat.le_of_ble_eq_true rfl⟩ dX3_forgetEvening_22 rfl (Nat.le_of_ble_eq_true rfl) (fun _ _ _ h => h.elim) (fun r w1 ad1 hp => ?_)
        obtain ⟨rfl, rfl, rfl⟩ := hp
        refine z_iincN O dX3_forgetEvening_25 (a := i) rfl (by decide) ?_
        refine z_goto O dX3_forgetEvening_28 (tgt := 10) (by decide) ?_
        exact zV.loc (ih (i + 1) (by omega) (by omega)) ⟨rfl, rfl, rfl, rfl, trivial⟩
  refine z_aload_n O dX3_forgetEvening_0 rfl ?_
  refine z_get O (fk := 0) (fun x h => zI x (zu_RX3 x h)) rfl (by decide) (zI _ zm0_57) dX3_forgetEvening_1 (zg_house) rfl ?_
  refine z_astore_n O dX3_forgetEvening_4 (by decide) ?_
  refine z_aload_n O dX3_forgetEvening_5 rfl ?_
  refine z_alen O (t := 5) (by decide) dX3_forgetEvening_6 (zg_arr) ?_
  refine z_istore_n O dX3_forgetEvening_7 (by decide) ?_
  refine z_iconst O dX3_forgetEvening_8 (v := 0) (by decide) ?_
  refine z_istore_n O dX3_forgetEvening_9 (by decide) ?_
  exact zV.loc (L 81 0 (by omega) (by omega)) ⟨rfl, rfl, rfl, rfl, trivial⟩

set_option maxRecDepth 100000 in
set_option maxHeartbeats 4000000 in
theorem c_X3_keepTickAhead {G : zG} {l : Launch} (hl : l.stackTraces = false) {Z : zM} {sb : Nat → Option Nat} {mcn : Nat → Int32} {cp : Nat → Nat} {Y : zM} {th : Int32} {o : Nat → Int64} {od : Nat → UInt64} {ad : Nat → Nat} (hb7 : ∀ k, k < 80 → zBol (Z 7 k)) : zCt G l yX3_keepTickAhead (zws yX3_keepTickAhead cX3_keepTickAhead 5 none) ({ frames := 1, cells := 0, slots := 0, locals := 20 }) [.ref (ad 1)] (zent Z sb mcn cp G.2.2.2.1 Y th o od ad) ad (fun r w1 ad1 => none = r ∧ zent (fIter fKeep Z 80) sb mcn cp G.2.2.2.1 Y th o od ad = w1 ∧ ad = ad1) (zNoX) := by
  refine z_body hl (by decide +kernel) (Nat.le_of_ble_eq_true rfl) (fun X O => ?_)
  have L : ∀ (n : Nat) (i : Nat), i ≤ 80 → 80 < i + n → zV G X 5 0 0 10 [(0, .ref (ad 1)), (1, .ref (ad 2)), (2, .int (nI 80)), (3, .int (nI i))] [] (zent (fIter fKeep Z i) sb mcn cp G.2.2.2.1 Y th o od ad) ad := by
    intro n
    induction n with
    | zero => intro i h1 h2; omega
    | succ n ih =>
      intro i h1 h2
      refine z_iload_n O dX3_keepTickAhead_10 rfl ?_
      refine z_iload_n O dX3_keepTickAhead_11 rfl ?_
      refine z_icmp_ge O dX3_keepTickAhead_12 (tgt := 31) (by decide) (fun h => ?_) (fun h => ?_)
      · have hi : i = 80 := by have := z_ge_ge (by omega) (by decide) h; omega
        subst hi
        exact z_vret O dX3_keepTickAhead_31 (Nat.le_of_ble_eq_true rfl) (Nat.le_of_ble_eq_true rfl) (⟨rfl, rfl, rfl⟩)
      · have hi : i < 80 := z_ge_lt (by omega) (by decide) h
        refine z_aload_n O dX3_keepTickAhead_15 rfl ?_
        refine z_iload_n O dX3_keepTickAhead_16 rfl ?_
        refine z_aald O (Or.inl rfl) dX3_keepTickAhead_17 (zg_arr) i rfl hi (by decide) ?_
        refine z_astore O dX3_keepTickAhead_18 (by decide) ?_
        refine z_aload O dX3_keepTickAhead_20 rfl ?_
        refine z_callV O (c_X4_keepTickAhead hl hi (by rw [fKeep_7]; exact hb7 i hi)) zI zm0_58 zm0_59 zm0_60 zm0_61 zm0_51 ⟨rfl, by decide +kernel, by decide +kernel, (show _ = some 0 by decide +kernel)⟩ rfl (zg_seat hi) ⟨Nat.le_of_ble_eq_true rfl, Nat.le_of_ble_eq_true rfl⟩ ⟨Nat.le_of_ble_eq_true rfl, Nat.le_of_ble_eq_true rfl⟩ dX3_keepTickAhead_22 rfl (Nat.le_of_ble_eq_true rfl) (fun _ _ _ h => h.elim) (fun r w1 ad1 hp => ?_)
        obtain ⟨rfl, rfl, rfl⟩ := hp
        refine z_iincN O dX3_keepTickAhead_25 (a := i) rfl (by decide) ?_
        refine z_goto O dX3_keepTickAhead_28 (tgt := 10) (by decide) ?_
        exact zV.loc (ih (i + 1) (by omega) (by omega)) ⟨rfl, rfl, rfl, rfl, trivial⟩
  refine z_aload_n O dX3_keepTickAhead_0 rfl ?_
  refine z_get O (fk := 0) (fun x h => zI x (zu_RX3 x h)) rfl (by decide) (zI _ zm0_57) dX3_keepTickAhead_1 (zg_house) rfl ?_
  refine z_astore_n O dX3_keepTickAhead_4 (by decide) ?_
  refine z_aload_n O dX3_keepTickAhead_5 rfl ?_
  refine z_alen O (t := 5) (by decide) dX3_keepTickAhead_6 (zg_arr) ?_
  refine z_istore_n O dX3_keepTickAhead_7 (by decide) ?_
  refine z_iconst O dX3_keepTickAhead_8 (v := 0) (by decide) ?_
  refine z_istore_n O dX3_keepTickAhead_9 (by decide) ?_
  exact zV.loc (L 81 0 (by omega) (by omega)) ⟨rfl, rfl, rfl, rfl, trivial⟩

set_option maxRecDepth 100000 in
set_option maxHeartbeats 4000000 in
theorem c_X3_isInOrder {G : zG} {l : Launch} (hl : l.stackTraces = false) {Z : zM} {sb : Nat → Option Nat} {mcn : Nat → Int32} {cp : Nat → Nat} {Y : zM} {th : Int32} {o : Nat → Int64} {od : Nat → UInt64} {ad : Nat → Nat} (hwn : ∀ k, k < 80 → zh (Z 2 k) = none → ¬ Z 0 k = 104) (hjj : ∀ k, k < 80 → ∀ j, zh (Z 2 k) = some j → j < zN Z 0 ∧ j < 20 ∧ Z 0 k = 104 ∧ sb j = some k) (hn0 : ∀ k, k < 80 → ¬ Z 3 k < 0) (hn9 : ∀ k, k < 80 → ¬ 9 < Z 3 k) : zCt G l yX3_isInOrder (zws yX3_isInOrder cX3_isInOrder 5 (some .boolean)) ({ frames := 1, cells := 0, slots := 0, locals := 21 }) [.ref (ad 1)] (zent Z sb mcn cp G.2.2.2.1 Y th o od ad) ad (fun r w1 ad1 => some (.int 1) = r ∧ zent Z sb mcn cp G.2.2.2.1 Y th o od ad = w1 ∧ ad = ad1) (zNoX) := by
  refine z_body hl (by decide +kernel) (Nat.le_of_ble_eq_true rfl) (fun X O => ?_)
  have L : ∀ (n : Nat) (i : Nat), i ≤ 80 → 80 < i + n → zV G X 5 0 0 10 [(0, .ref (ad 1)), (1, .ref (ad 2)), (2, .int (nI 80)), (3, .int (nI i))] [] (zent Z sb mcn cp G.2.2.2.1 Y th o od ad) ad := by
    intro n
    induction n with
    | zero => intro i h1 h2; omega
    | succ n ih =>
      intro i h1 h2
      refine z_iload_n O dX3_isInOrder_10 rfl ?_
      refine z_iload_n O dX3_isInOrder_11 rfl ?_
      refine z_icmp_ge O dX3_isInOrder_12 (tgt := 36) (by decide) (fun h => ?_) (fun h => ?_)
      · have hi : i = 80 := by have := z_ge_ge (by omega) (by decide) h; omega
        subst hi
        refine z_iconst O dX3_isInOrder_36 (v := 1) (by decide) ?_
        exact z_zret O rfl rfl dX3_isInOrder_37 (Nat.le_of_ble_eq_true rfl) (Nat.le_of_ble_eq_true rfl) (⟨rfl, rfl, rfl⟩)
      · have hi : i < 80 := z_ge_lt (by omega) (by decide) h
        refine z_aload_n O dX3_isInOrder_15 rfl ?_
        refine z_iload_n O dX3_isInOrder_16 rfl ?_
        refine z_aald O (Or.inl rfl) dX3_isInOrder_17 (zg_arr) i rfl hi (by decide) ?_
        refine z_astore O dX3_isInOrder_18 (by decide) ?_
        refine z_aload O dX3_isInOrder_20 rfl ?_
        refine z_callV O (c_X4_isInOrder hl hi (hwn i hi) (hjj i hi) (hn0 i hi) (hn9 i hi)) zI zm3_4 zm3_5 zm3_6 zm0_61 zm3_2 ⟨rfl, by decide +kernel, by decide +kernel, (show _ = some 0 by decide +kernel)⟩ rfl (zg_seat hi) ⟨Nat.le_of_ble_eq_true rfl, Nat.le_of_ble_eq_true rfl⟩ ⟨Nat.le_of_ble_eq_true rfl, Nat.le_of_ble_eq_true rfl⟩ dX3_isInOrder_22 rfl (Nat.le_of_ble_eq_true rfl) (fun _ _ _ h => h.elim) (fun r w1 ad1 hp => ?_)
        obtain ⟨rfl, rfl, rfl⟩ := hp
        refine z_if_ne O dX3_isInOrder_25 (tgt := 30) (by decide) (fun _ => ?_) (fun g => absurd g (by decide))
        refine z_iincN O dX3_isInOrder_30 (a := i) rfl (by decide) ?_
        refine z_goto O dX3_isInOrder_33 (tgt := 10) (by decide) ?_
        exact zV.loc (ih (i + 1) (by omega) (by omega)) ⟨rfl, rfl, rfl, rfl, trivial⟩
  refine z_aload_n O dX3_isInOrder_0 rfl ?_
  refine z_get O (fk := 0) (fun x h => zI x (zu_RX3 x h)) rfl (by decide) (zI _ zm0_57) dX3_isInOrder_1 (zg_house) rfl ?_
  refine z_astore_n O dX3_isInOrder_4 (by decide) ?_
  refine z_aload_n O dX3_isInOrder_5 rfl ?_
  refine z_alen O (t := 5) (by decide) dX3_isInOrder_6 (zg_arr) ?_
  refine z_istore_n O dX3_isInOrder_7 (by decide) ?_
  refine z_iconst O dX3_isInOrder_8 (v := 0) (by decide) ?_
  refine z_istore_n O dX3_isInOrder_9 (by decide) ?_
  exact zV.loc (L 81 0 (by omega) (by omega)) ⟨rfl, rfl, rfl, rfl, trivial⟩

set_option maxRecDepth 100000 in
set_option maxHeartbeats 4000000 in
theorem c_X3_build {G : zG} {l : Launch} (hl : l.stackTraces = false) {Z : zM} {sb : Nat → Option Nat} {mcn : Nat → Int32} {cp : Nat → Nat} {Y : zM} {th : Int32} {o : Nat → Int64} {od : Nat → UInt64} {ad : Nat → Nat} (hs : zSeats Z) {x y : Int32} : zCt G l yX3_build (zws yX3_build cX3_build 7 none) ({ frames := 2, cells := 0, slots := 0, locals := 42 }) [.ref (ad 1), .int x, .int y] (zent Z sb mcn cp G.2.2.2.1 Y th o od ad) ad (fun r w1 ad1 => none = r ∧ zent (zu (zu (fBuild Z sb 80).1 23 0 x) 24 0 y) (fBuild Z sb 80).2 mcn cp G.2.2.2.1 Y th o od ad = w1 ∧ ad = ad1) (zNoX) := by
  refine z_body hl (by decide +kernel) (Nat.le_of_ble_eq_true rfl) (fun X O => ?_)
  have L : ∀ (n : Nat) (i : Nat), i ≤ 80 → 80 < i + n → zV G X 7 0 0 12 [(0, .ref (ad 1)), (1, .int x), (2, .int y), (3, .ref (ad 2)), (4, .int (nI 80)), (5, .int (nI i))] [] (zent (fBuild Z sb i).1 (fBuild Z sb i).2 mcn cp G.2.2.2.1 Y th o od ad) ad := by
    intro n
    induction n with
    | zero => intro i h1 h2; omega
    | succ n ih =>
      intro i h1 h2
      refine z_iload O dX3_build_12 rfl ?_
      refine z_iload O dX3_build_14 rfl ?_
      refine z_icmp_ge O dX3_build_16 (tgt := 39) (by decide) (fun h => ?_) (fun h => ?_)
      · have hi : i = 80 := by have := z_ge_ge (by omega) (by decide) h; omega
        subst hi
        refine z_aload_n O dX3_build_39 rfl ?_
        refine z_iload_n O dX3_build_40 rfl ?_
        refine z_put O (fk := 1) (fun x h => zI x (zu_RX3 x h)) tyX3 tyX3_ok nmX3 rfl (by decide) (zI _ zm0_63) rfl dX3_build_41 rfl rfl (zg_house) (Nat.le_of_ble_eq_true rfl) (zp_house (p := 1) (Or.inl rfl) rfl) ?_
        refine z_aload_n O dX3_build_44 rfl ?_
        refine z_iload_n O dX3_build_45 rfl ?_
        refine z_put O (fk := 2) (fun x h => zI x (zu_RX3 x h)) tyX3 tyX3_ok nmX3 rfl (by decide) (zI _ zm0_64) rfl dX3_build_46 rfl rfl (zg_house) (Nat.le_of_ble_eq_true rfl) (zp_house (p := 2) (Or.inr rfl) rfl) ?_
        exact z_vret O dX3_build_49 (Nat.le_of_ble_eq_true rfl) (Nat.le_of_ble_eq_true rfl) (⟨rfl, rfl, rfl⟩)
      · have hi : i < 80 := z_ge_lt (by omega) (by decide) h
        refine z_aload_n O dX3_build_19 rfl ?_
        refine z_iload O dX3_build_20 rfl ?_
        refine z_aald O (Or.inl rfl) dX3_build_22 (zg_arr) i rfl hi (by decide) ?_
        refine z_astore O dX3_build_23 (by decide) ?_
        refine z_aload O dX3_build_25 rfl ?_
        refine z_bipush O dX3_build_27 (v := 46) (by decide) ?_
        refine z_callV O (c_X4_take hl hi zChr_46 (zSeats_build hs i i hi).1 (zSeats_build hs i i hi).2.1 (zSeats_build hs i i hi).2.2) zI zm2_64 zm2_65 zm2_66 zm0_61 zm2_58 ⟨rfl, by decide +kernel, by decide +kernel, (show _ = some 1 by decide +kernel)⟩ rfl (zg_seat hi) ⟨Nat.le_of_ble_eq_true rfl, Nat.le_of_ble_eq_true rfl⟩ ⟨Nat.le_of_ble_eq_true rfl, Nat.le_of_ble_eq_true rfl⟩ dX3_build_29 rfl (Nat.le_of_ble_eq_true rfl) (fun _ _ _ h => h.elim) (fun r w1 ad1 hp => ?_)
        obtain ⟨rfl, rfl, rfl⟩ := hp
        refine z_pop O dX3_build_32 rfl ?_
        refine z_iincN O dX3_build_33 (a := i) rfl (by decide) ?_
        refine z_goto O dX3_build_36 (tgt := 12) (by decide) ?_
        exact zV.loc (ih (i + 1) (by omega) (by omega)) ⟨rfl, rfl, rfl, rfl, rfl, rfl, trivial⟩
  refine z_aload_n O dX3_build_0 rfl ?_
  refine z_get O (fk := 0) (fun x h => zI x (zu_RX3 x h)) rfl (by decide) (zI _ zm0_57) dX3_build_1 (zg_house) rfl ?_
  refine z_astore_n O dX3_build_4 (by decide) ?_
  refine z_aload_n O dX3_build_5 rfl ?_
  refine z_alen O (t := 5) (by decide) dX3_build_6 (zg_arr) ?_
  refine z_istore O dX3_build_7 (by decide) ?_
  refine z_iconst O dX3_build_9 (v := 0) (by decide) ?_
  refine z_istore O dX3_build_10 (by decide) ?_
  exact zV.loc (L 81 0 (by omega) (by omega)) ⟨rfl, rfl, rfl, rfl, rfl, rfl, trivial⟩

set_option maxRecDepth 100000 in
set_option maxHeartbeats 4000000 in
theorem c_X3_around {G : zG} {l : Launch} (hl : l.stackTraces = false) {Z : zM} {sb : Nat → Option Nat} {mcn : Nat → Int32} {cp : Nat → Nat} {Y : zM} {th : Int32} {o : Nat → Int64} {od : Nat → UInt64} {ad : Nat → Nat} (hh : zHouse Z) {a b : Nat} (ha : a < 10) (hb : b < 10) : zCt G l yX3_around (zws yX3_around cX3_around 7 (some .int)) ({ frames := 1, cells := 0, slots := 0, locals := 23 }) [.ref (ad 1), .int (nI a), .int (nI b)] (zent Z sb mcn cp G.2.2.2.1 Y th o od ad) ad (fun r w1 ad1 => some (.int (fAround Z a b)) = r ∧ zent Z sb mcn cp G.2.2.2.1 Y th o od ad = w1 ∧ ad = ad1) (zNoX) := by
  refine z_body hl (by decide +kernel) (Nat.le_of_ble_eq_true rfl) (fun X O => ?_)
  have L : ∀ (n : Nat) (i : Nat) (acc x : Int32), i ≤ 3 → 3 < i + n → x = rI a i → acc = fRows Z a b i → zV G X 7 0 0 7 [(0, .ref (ad 1)), (1, .int (nI a)), (2, .int (nI b)), (3, .int acc), (4, .int x)] [] (zent Z sb mcn cp G.2.2.2.1 Y th o od ad) ad := by
    intro n
    induction n with
    | zero => intro i acc x h1 h2 hx hacc; omega
    | succ n ih =>
      intro i acc x h1 h2 hx hacc
      refine z_iload O dX3_around_7 rfl ?_
      refine z_iload_n O dX3_around_9 rfl ?_
      refine z_iconst O dX3_around_10 (v := 1) (by decide) ?_
      refine z_iadd O dX3_around_11 ?_
      refine z_icmp_gt O dX3_around_12 (tgt := 79) (by decide) (fun h => ?_) (fun h => ?_)
      · rw [hx] at h
        have hi : i = 3 := (rI_lt a ha i (by omega)).mp h
        subst hi
        refine z_iload_n O dX3_around_79 rfl ?_
        exact z_iret O dX3_around_80 (Nat.le_of_ble_eq_true rfl) (Nat.le_of_ble_eq_true rfl) (⟨by rw [hacc]; rfl, rfl, rfl⟩)
      · have hi : i < 3 := by
          rcases Nat.lt_or_ge i 3 with q | q
          · exact q
          · exact absurd ((rI_lt a ha i (by omega)).mpr (by omega)) (by rw [← hx]; exact h)
        have ihO := ih
        have L2 : ∀ (n : Nat) (j : Nat) (acc2 y : Int32), j ≤ 3 → 3 < j + n → y = rI b j → acc2 = fRow Z a b i acc j → zV G X 7 0 0 20 [(0, .ref (ad 1)), (1, .int (nI a)), (2, .int (nI b)), (3, .int acc2), (4, .int x), (5, .int y)] [] (zent Z sb mcn cp G.2.2.2.1 Y th o od ad) ad := by
          intro n
          induction n with
          | zero => intro j acc2 y h3 h4 hy hacc2; omega
          | succ n ih =>
            intro j acc2 y h3 h4 hy hacc2
            refine z_iload O dX3_around_20 rfl ?_
            refine z_iload_n O dX3_around_22 rfl ?_
            refine z_iconst O dX3_around_23 (v := 1) (by decide) ?_
            refine z_iadd O dX3_around_24 ?_
            refine z_icmp_gt O dX3_around_25 (tgt := 73) (by decide) (fun h9 => ?_) (fun h9 => ?_)
            · rw [hy] at h9
              have hj : j = 3 := (rI_lt b hb j (by omega)).mp h9
              subst hj
              refine z_iinc1 O dX3_around_73 rfl (by decide) ?_
              refine z_goto O dX3_around_76 (tgt := 7) (by decide) ?_
              exact zV.loc (ihO (i + 1) _ _ (by omega) (by omega) (by rw [hx, rI_s]) (by rw [hacc2, hacc]; rfl)) ⟨rfl, rfl, rfl, rfl, rfl, trivial⟩
            · have hj : j < 3 := by
                rcases Nat.lt_or_ge j 3 with q | q
                · exact q
                · exact absurd ((rI_lt b hb j (by omega)).mpr (by omega)) (by rw [← hy]; exact h9)
              refine z_iload O dX3_around_28 rfl ?_
              refine z_iload_n O dX3_around_30 rfl ?_
              refine z_icmp_ne O dX3_around_31 (tgt := 44) (by decide) (fun g1 => ?_) (fun g1 => ?_)
              · refine z_aload_n O dX3_around_44 rfl ?_
                refine z_iload O dX3_around_45 rfl ?_
                refine z_iload O dX3_around_47 rfl ?_
                refine z_callV O (c_X3_seatOrNull hl hh (x := x) (y := y)) zI zm0_67 zm0_68 zm0_69 zm1_0 zm0_62 ⟨rfl, by decide +kernel, by decide +kernel, (show _ = some 2 by decide +kernel)⟩ rfl (zg_house) ⟨Nat.le_of_ble_eq_true rfl, Nat.le_of_ble_eq_true rfl⟩ ⟨Nat.le_of_ble_eq_true rfl, Nat.le_of_ble_eq_true rfl⟩ dX3_around_49 rfl (Nat.le_of_ble_eq_true rfl) (fun _ _ _ h => h.elim) (fun r w1 ad1 hp => ?_)
                obtain ⟨rfl, rfl, rfl⟩ := hp
                cases hq : fPl Z x y with
                | none =>
                  refine z_astoreN O dX3_around_52 (by decide) ?_
                  refine z_aloadN O dX3_around_54 rfl ?_
                  refine z_ifnullN O dX3_around_56 (tgt := 67) (by decide) ?_
                  refine z_iinc1 O dX3_around_67 rfl (by decide) ?_
                  refine z_goto O dX3_around_70 (tgt := 20) (by decide) ?_
                  exact zV.loc (ih (j + 1) _ _ (by omega) (by omega) (by rw [hy, rI_s]) (by rw [hacc2]; show _ = fCell Z a b i j _; unfold fCell; rw [if_neg (fun q => g1 (by rw [hx]; exact (rI_eq a ha i (by omega)).mpr q.1)), ← hx, ← hy, hq])) ⟨rfl, rfl, rfl, rfl, rfl, rfl, trivial⟩
                | some k =>
                  have hk : k < 80 := fPl_lt hh hq
                  refine z_astore O dX3_around_52 (by decide) ?_
                  refine z_aload O dX3_around_54 rfl ?_
                  refine z_ifnull O dX3_around_56 ?_
                  refine z_iload_n O dX3_around_59 rfl ?_
                  refine z_aload O dX3_around_60 rfl ?_
                  refine z_callV O (c_X4_heardByNeighbours hl hk) zI zm1_1 zm1_2 zm1_3 zm0_61 zm0_65 ⟨rfl, by decide +kernel, by decide +kernel, (show _ = some 0 by decide +kernel)⟩ rfl (zg_seat hk) ⟨Nat.le_of_ble_eq_true rfl, Nat.le_of_ble_eq_true rfl⟩ ⟨Nat.le_of_ble_eq_true rfl, Nat.le_of_ble_eq_true rfl⟩ dX3_around_62 rfl (Nat.le_of_ble_eq_true rfl) (fun _ _ _ h => h.elim) (fun r w1 ad1 hp => ?_)
                  obtain ⟨rfl, rfl, rfl⟩ := hp
                  refine z_iadd O dX3_around_65 ?_
                  refine z_istore_n O dX3_around_66 (by decide) ?_
                  refine z_iinc1 O dX3_around_67 rfl (by decide) ?_
                  refine z_goto O dX3_around_70 (tgt := 20) (by decide) ?_
                  exact zV.loc (ih (j + 1) _ _ (by omega) (by omega) (by rw [hy, rI_s]) (by rw [hacc2]; show _ = fCell Z a b i j _; unfold fCell; rw [if_neg (fun q => g1 (by rw [hx]; exact (rI_eq a ha i (by omega)).mpr q.1)), ← hx, ← hy, hq])) ⟨rfl, rfl, rfl, rfl, rfl, rfl, trivial⟩
              · refine z_iload O dX3_around_34 rfl ?_
                refine z_iload_n O dX3_around_36 rfl ?_
                refine z_icmp_ne O dX3_around_37 (tgt := 44) (by decide) (fun g2 => ?_) (fun g2 => ?_)
                · refine z_aload_n O dX3_around_44 rfl ?_
                  refine z_iload O dX3_around_45 rfl ?_
                  refine z_iload O dX3_around_47 rfl ?_
                  refine z_callV O (c_X3_seatOrNull hl hh (x := x) (y := y)) zI zm0_67 zm0_68 zm0_69 zm1_0 zm0_62 ⟨rfl, by decide +kernel, by decide +kernel, (show _ = some 2 by decide +kernel)⟩ rfl (zg_house) ⟨Nat.le_of_ble_eq_true rfl, Nat.le_of_ble_eq_true rfl⟩ ⟨Nat.le_of_ble_eq_true rfl, Nat.le_of_ble_eq_true rfl⟩ dX3_around_49 rfl (Nat.le_of_ble_eq_true rfl) (fun _ _ _ h => h.elim) (fun r w1 ad1 hp => ?_)
                  obtain ⟨rfl, rfl, rfl⟩ := hp
                  cases hq : fPl Z x y with
                  | none =>
                    refine z_astoreN O dX3_around_52 (by decide) ?_
                    refine z_aloadN O dX3_around_54 rfl ?_
                    refine z_ifnullN O dX3_around_56 (tgt := 67) (by decide) ?_
                    refine z_iinc1 O dX3_around_67 rfl (by decide) ?_
                    refine z_goto O dX3_around_70 (tgt := 20) (by decide) ?_
                    exact zV.loc (ih (j + 1) _ _ (by omega) (by omega) (by rw [hy, rI_s]) (by rw [hacc2]; show _ = fCell Z a b i j _; unfold fCell; rw [if_neg (fun q => g2 (by rw [hy]; exact (rI_eq b hb j (by omega)).mpr q.2)), ← hx, ← hy, hq])) ⟨rfl, rfl, rfl, rfl, rfl, rfl, trivial⟩
                  | some k =>
                    have hk : k < 80 := fPl_lt hh hq
                    refine z_astore O dX3_around_52 (by decide) ?_
                    refine z_aload O dX3_around_54 rfl ?_
                    refine z_ifnull O dX3_around_56 ?_
                    refine z_iload_n O dX3_around_59 rfl ?_
                    refine z_aload O dX3_around_60 rfl ?_
                    refine z_callV O (c_X4_heardByNeighbours hl hk) zI zm1_1 zm1_2 zm1_3 zm0_61 zm0_65 ⟨rfl, by decide +kernel, by decide +kernel, (show _ = some 0 by decide +kernel)⟩ rfl (zg_seat hk) ⟨Nat.le_of_ble_eq_true rfl, Nat.le_of_ble_eq_true rfl⟩ ⟨Nat.le_of_ble_eq_true rfl, Nat.le_of_ble_eq_true rfl⟩ dX3_around_62 rfl (Nat.le_of_ble_eq_true rfl) (fun _ _ _ h => h.elim) (fun r w1 ad1 hp => ?_)
                    obtain ⟨rfl, rfl, rfl⟩ := hp
                    refine z_iadd O dX3_around_65 ?_
                    refine z_istore_n O dX3_around_66 (by decide) ?_
                    refine z_iinc1 O dX3_around_67 rfl (by decide) ?_
                    refine z_goto O dX3_around_70 (tgt := 20) (by decide) ?_
                    exact zV.loc (ih (j + 1) _ _ (by omega) (by omega) (by rw [hy, rI_s]) (by rw [hacc2]; show _ = fCell Z a b i j _; unfold fCell; rw [if_neg (fun q => g2 (by rw [hy]; exact (rI_eq b hb j (by omega)).mpr q.2)), ← hx, ← hy, hq])) ⟨rfl, rfl, rfl, rfl, rfl, rfl, trivial⟩
                · refine z_null O dX3_around_40 ?_
                  refine z_goto O dX3_around_41 (tgt := 52) (by decide) ?_
                  refine z_astoreN O dX3_around_52 (by decide) ?_
                  refine z_aloadN O dX3_around_54 rfl ?_
                  refine z_ifnullN O dX3_around_56 (tgt := 67) (by decide) ?_
                  refine z_iinc1 O dX3_around_67 rfl (by decide) ?_
                  refine z_goto O dX3_around_70 (tgt := 20) (by decide) ?_
                  exact zV.loc (ih (j + 1) _ _ (by omega) (by omega) (by rw [hy, rI_s]) (by rw [hacc2]; show _ = fCell Z a b i j _; unfold fCell; rw [if_pos ⟨(rI_eq a ha i (by omega)).mp (by rw [← hx]; exact g1), (rI_eq b hb j (by omega)).mp (by rw [← hy]; exact g2)⟩])) ⟨rfl, rfl, rfl, rfl, rfl, rfl, trivial⟩
        refine z_iload_n O dX3_around_15 rfl ?_
        refine z_iconst O dX3_around_16 (v := 1) (by decide) ?_
        refine z_isub O dX3_around_17 ?_
        refine z_istore O dX3_around_18 (by decide) ?_
        exact zV.loc (L2 4 0 acc _ (by omega) (by omega) (rI_0 b) rfl) ⟨rfl, rfl, rfl, rfl, rfl, rfl, trivial⟩
  refine z_iconst O dX3_around_0 (v := 0) (by decide) ?_
  refine z_istore_n O dX3_around_1 (by decide) ?_
  refine z_iload_n O dX3_around_2 rfl ?_
  refine z_iconst O dX3_around_3 (v := 1) (by decide) ?_
  refine z_isub O dX3_around_4 ?_
  refine z_istore O dX3_around_5 (by decide) ?_
  exact zV.loc (L 4 0 0 _ (by omega) (by omega) (rI_0 a) rfl) ⟨rfl, rfl, rfl, rfl, rfl, trivial⟩
