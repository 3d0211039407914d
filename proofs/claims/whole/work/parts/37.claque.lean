/-- what a refused call leaves: the world as it was, the code's exception -/
def zPX (Es : List String) (k : Nat) (w : zH) (ad : Nat → Nat) : String → zH → (Nat → Nat) → Prop := fun E w1 ad1 => (w = w1 ∧ ad = ad1) ∧ k ≠ 0 ∧ Es[k - 1]? = some E
abbrev fR (x a b : Int32) : Prop := a ≤ x ∧ x ≤ b
abbrev fI (x n : Int32) : Prop := 0 ≤ x ∧ x < n
abbrev fKd (c : Int32) : Prop := c = 99 ∨ c = 119 ∨ c = 108 ∨ c = 101
def fBt (Z : zM) (n P Q : Nat) : Bool := decide ((fOf Z 13 P n ≠ fOf Z 13 Q n ∧ fOf Z 13 P n < fOf Z 13 Q n) ∨ (fOf Z 13 P n = fOf Z 13 Q n ∧ ((fCnt P ≠ fCnt Q ∧ fCnt P < fCnt Q) ∨ (fCnt P = fCnt Q ∧ (nI P &&& (nI P ^^^ nI Q)) &&& -(nI P ^^^ nI Q) ≠ 0))))
theorem fBt_iff {Z : zM} {n : Nat} (P Q : Nat) : fBt Z n P Q = true ↔ fBetter Z n P Q := by
  unfold fBt fBetter
  exact decide_eq_true_iff
def fBest (Z : zM) (c : Int32) : Nat := fPlan Z (zN Z 0) (6 * c) (fBt Z (zN Z 0)) (2 ^ zN Z 0)
theorem fI_nat {Z : zM} {cp : Nat → Nat} {i : Nat} {x : Int32} (hL : zLst Z cp i) (h : fI x (Z (25 + i) 0)) : ∃ j, x = nI j ∧ j < zN Z i := by
  obtain ⟨a, ha, rfl⟩ := nI_of (x := x) (fun z => absurd h.1 (Int32.not_le.mpr z))
  refine ⟨a, rfl, ?_⟩
  have h2 := h.2
  rw [hL.1] at h2
  exact (nI_ltI ha (by have := hL.2.2.2; omega)).mp h2
set_option maxRecDepth 100000 in
set_option maxHeartbeats 4000000 in
theorem c_X7_checkRange {G : zG} {l : Launch} (hl : l.stackTraces = false) {Z : zM} {sb : Nat → Option Nat} {mcn : Nat → Int32} {cp : Nat → Nat} {Y : zM} {th : Int32} {o : Nat → Int64} {od : Nat → UInt64} {ad : Nat → Nat} {x a b : Int32} : zCt G l yX7_checkRange (zws yX7_checkRange cX7_checkRange 3 none) ({ frames := 6, cells := 1, slots := 6, locals := 82 }) [.int x, .int a, .int b] (zent Z sb mcn cp G.2.2.2.1 Y th o od ad) ad (fun r w1 ad1 => fR x a b ∧ none = r ∧ zent Z sb mcn cp G.2.2.2.1 Y th o od ad = w1 ∧ ad = ad1) (fun E w1 ad1 => "java/lang/IllegalArgumentException" = E ∧ ¬ fR x a b ∧ zent Z sb mcn cp G.2.2.2.1 Y th o od ad = w1 ∧ ad = ad1) := by
  refine z_body hl (by decide +kernel) (Nat.le_of_ble_eq_true rfl) (fun X O => ?_)
  refine z_iload_n O dX7_checkRange_0 rfl ?_
  refine z_iload_n O dX7_checkRange_1 rfl ?_
  refine z_icmp_lt O dX7_checkRange_2 (tgt := 10) (by decide) (fun h => ?_) (fun h => ?_)
  · exact z_throw O (text := "a number is out of range") zI (by decide +kernel) (by decide +kernel) zm4_9 zm4_10 zt_253 zbad_253 zok_253 (by decide +kernel) dX7_checkRange_10 dX7_checkRange_13 dX7_checkRange_14 dX7_checkRange_16 dX7_checkRange_19 (Nat.le_of_ble_eq_true rfl) (Nat.le_of_ble_eq_true rfl) (Nat.le_of_ble_eq_true rfl) (Nat.le_of_ble_eq_true rfl) (Nat.le_of_ble_eq_true rfl) (Nat.le_of_ble_eq_true rfl) (⟨rfl, fun q => absurd q.1 (Int32.not_le.mpr h), rfl, rfl⟩)
  · refine z_iload_n O dX7_checkRange_5 rfl ?_
    refine z_iload_n O dX7_checkRange_6 rfl ?_
    refine z_icmp_le O dX7_checkRange_7 (tgt := 20) (by decide) (fun g => ?_) (fun g => ?_)
    · exact z_vret O dX7_checkRange_20 (Nat.le_of_ble_eq_true rfl) (Nat.le_of_ble_eq_true rfl) (⟨⟨Int32.not_lt.mp h, g⟩, rfl, rfl, rfl⟩)
    · exact z_throw O (text := "a number is out of range") zI (by decide +kernel) (by decide +kernel) zm4_9 zm4_10 zt_253 zbad_253 zok_253 (by decide +kernel) dX7_checkRange_10 dX7_checkRange_13 dX7_checkRange_14 dX7_checkRange_16 dX7_checkRange_19 (Nat.le_of_ble_eq_true rfl) (Nat.le_of_ble_eq_true rfl) (Nat.le_of_ble_eq_true rfl) (Nat.le_of_ble_eq_true rfl) (Nat.le_of_ble_eq_true rfl) (Nat.le_of_ble_eq_true rfl) (⟨rfl, fun q => absurd q.2 g, rfl, rfl⟩)

set_option maxRecDepth 100000 in
set_option maxHeartbeats 4000000 in
theorem c_X7_checkCueKind {G : zG} {l : Launch} (hl : l.stackTraces = false) {Z : zM} {sb : Nat → Option Nat} {mcn : Nat → Int32} {cp : Nat → Nat} {Y : zM} {th : Int32} {o : Nat → Int64} {od : Nat → UInt64} {ad : Nat → Nat} {x : Int32} : zCt G l yX7_checkCueKind (zws yX7_checkCueKind cX7_checkCueKind 1 none) ({ frames := 6, cells := 1, slots := 6, locals := 82 }) [.int x] (zent Z sb mcn cp G.2.2.2.1 Y th o od ad) ad (fun r w1 ad1 => fKd x ∧ none = r ∧ zent Z sb mcn cp G.2.2.2.1 Y th o od ad = w1 ∧ ad = ad1) (fun E w1 ad1 => "java/lang/IllegalArgumentException" = E ∧ ¬ fKd x ∧ zent Z sb mcn cp G.2.2.2.1 Y th o od ad = w1 ∧ ad = ad1) := by
  refine z_body hl (by decide +kernel) (Nat.le_of_ble_eq_true rfl) (fun X O => ?_)
  refine z_iload_n O dX7_checkCueKind_0 rfl ?_
  refine z_bipush O dX7_checkCueKind_1 (v := 99) (by decide) ?_
  have hend : fKd x → zV G X 1 0 0 34 [(0, .int x)] [] (zent Z sb mcn cp G.2.2.2.1 Y th o od ad) ad := fun hk => by
    exact z_vret O dX7_checkCueKind_34 (Nat.le_of_ble_eq_true rfl) (Nat.le_of_ble_eq_true rfl) (⟨hk, rfl, rfl, rfl⟩)
  refine z_icmp_eq O dX7_checkCueKind_3 (tgt := 34) (by decide) (fun h0 => ?_) (fun h0 => ?_)
  · exact hend (Or.inl h0)
  · refine z_iload_n O dX7_checkCueKind_6 rfl ?_
    refine z_bipush O dX7_checkCueKind_7 (v := 119) (by decide) ?_
    refine z_icmp_eq O dX7_checkCueKind_9 (tgt := 34) (by decide) (fun h1 => ?_) (fun h1 => ?_)
    · exact hend (Or.inr (Or.inl h1))
    · refine z_iload_n O dX7_checkCueKind_12 rfl ?_
      refine z_bipush O dX7_checkCueKind_13 (v := 108) (by decide) ?_
      refine z_icmp_eq O dX7_checkCueKind_15 (tgt := 34) (by decide) (fun h2 => ?_) (fun h2 => ?_)
      · exact hend (Or.inr (Or.inr (Or.inl h2)))
      · refine z_iload_n O dX7_checkCueKind_18 rfl ?_
        refine z_bipush O dX7_checkCueKind_19 (v := 101) (by decide) ?_
        refine z_icmp_eq O dX7_checkCueKind_21 (tgt := 34) (by decide) (fun h3 => ?_) (fun h3 => ?_)
        · exact hend (Or.inr (Or.inr (Or.inr h3)))
        · exact z_throw O (text := "there is no such kind") zI (by decide +kernel) (by decide +kernel) zm4_9 zm4_10 zt_253 zbad_253 zok_253 (by decide +kernel) dX7_checkCueKind_24 dX7_checkCueKind_27 dX7_checkCueKind_28 dX7_checkCueKind_30 dX7_checkCueKind_33 (Nat.le_of_ble_eq_true rfl) (Nat.le_of_ble_eq_true rfl) (Nat.le_of_ble_eq_true rfl) (Nat.le_of_ble_eq_true rfl) (Nat.le_of_ble_eq_true rfl) (Nat.le_of_ble_eq_true rfl) (⟨rfl, fun q => q.elim h0 (fun q => q.elim h1 (fun q => q.elim h2 h3)), rfl, rfl⟩)

set_option maxRecDepth 100000 in
set_option maxHeartbeats 4000000 in
theorem c_X7_checkHouse {G : zG} {l : Launch} (hl : l.stackTraces = false) {Z : zM} {sb : Nat → Option Nat} {mcn : Nat → Int32} {cp : Nat → Nat} {Y : zM} {th : Int32} {o : Nat → Int64} {od : Nat → UInt64} {ad : Nat → Nat} : zCt G l yX7_checkHouse (zws yX7_checkHouse cX7_checkHouse 1 none) ({ frames := 6, cells := 1, slots := 6, locals := 82 }) [.ref (ad 0)] (zent Z sb mcn cp G.2.2.2.1 Y th o od ad) ad (fun r w1 ad1 => ¬ Z 23 0 = 0 ∧ none = r ∧ zent Z sb mcn cp G.2.2.2.1 Y th o od ad = w1 ∧ ad = ad1) (fun E w1 ad1 => "java/lang/IllegalStateException" = E ∧ Z 23 0 = 0 ∧ zent Z sb mcn cp G.2.2.2.1 Y th o od ad = w1 ∧ ad = ad1) := by
  refine z_body hl (by decide +kernel) (Nat.le_of_ble_eq_true rfl) (fun X O => ?_)
  refine z_aload_n O dX7_checkHouse_0 rfl ?_
  refine z_get O (fk := 0) (fun x h => zI x (zu_RX7 x h)) rfl (by decide) (zI _ zm3_61) dX7_checkHouse_1 (zg_x) rfl ?_
  refine z_get O (fk := 1) (fun x h => zI x (zu_RX3 x h)) rfl (by decide) (zI _ zm5_60) dX7_checkHouse_4 (zg_house) rfl ?_
  refine z_if_ne O dX7_checkHouse_7 (tgt := 20) (by decide) (fun h => ?_) (fun h => ?_)
  · exact z_vret O dX7_checkHouse_20 (Nat.le_of_ble_eq_true rfl) (Nat.le_of_ble_eq_true rfl) (⟨h, rfl, rfl, rfl⟩)
  · exact z_throw O (text := "there is no house") zI (by decide +kernel) (by decide +kernel) zm5_27 zm5_28 zt_108 zbad_108 zok_108 (by decide +kernel) dX7_checkHouse_10 dX7_checkHouse_13 dX7_checkHouse_14 dX7_checkHouse_16 dX7_checkHouse_19 (Nat.le_of_ble_eq_true rfl) (Nat.le_of_ble_eq_true rfl) (Nat.le_of_ble_eq_true rfl) (Nat.le_of_ble_eq_true rfl) (Nat.le_of_ble_eq_true rfl) (Nat.le_of_ble_eq_true rfl) (⟨rfl, h, rfl, rfl⟩)

set_option maxRecDepth 100000 in
set_option maxHeartbeats 4000000 in
theorem c_X7_existingSeat {G : zG} {l : Launch} (hl : l.stackTraces = false) {Z : zM} {sb : Nat → Option Nat} {mcn : Nat → Int32} {cp : Nat → Nat} {Y : zM} {th : Int32} {o : Nat → Int64} {od : Nat → UInt64} {ad : Nat → Nat} (hh : zHouse Z) {x y : Int32} : zCt G l yX7_existingSeat (zws yX7_existingSeat cX7_existingSeat 4 (some (.object "ClaqueRow$Seat"))) ({ frames := 6, cells := 1, slots := 6, locals := 82 }) [.ref (ad 0), .int x, .int y] (zent Z sb mcn cp G.2.2.2.1 Y th o od ad) ad (fun r w1 ad1 => ∃ k, fPl Z x y = some k ∧ k < 80 ∧ some (.ref (ad (100 + k))) = r ∧ zent Z sb mcn cp G.2.2.2.1 Y th o od ad = w1 ∧ ad = ad1) (fun E w1 ad1 => "java/lang/IndexOutOfBoundsException" = E ∧ fPl Z x y = none ∧ zent Z sb mcn cp G.2.2.2.1 Y th o od ad = w1 ∧ ad = ad1) := by
  refine z_body hl (by decide +kernel) (Nat.le_of_ble_eq_true rfl) (fun X O => ?_)
  refine z_aload_n O dX7_existingSeat_0 rfl ?_
  refine z_get O (fk := 0) (fun x h => zI x (zu_RX7 x h)) rfl (by decide) (zI _ zm3_61) dX7_existingSeat_1 (zg_x) rfl ?_
  refine z_iload_n O dX7_existingSeat_4 rfl ?_
  refine z_iload_n O dX7_existingSeat_5 rfl ?_
  refine z_callV O (c_X3_seatOrNull hl hh (x := x) (y := y)) zI zm4_32 zm0_68 zm0_69 zm1_0 zm0_62 ⟨rfl, by decide +kernel, by decide +kernel, (show _ = some 2 by decide +kernel)⟩ rfl (zg_house) ⟨Nat.le_of_ble_eq_true rfl, Nat.le_of_ble_eq_true rfl⟩ ⟨Nat.le_of_ble_eq_true rfl, Nat.le_of_ble_eq_true rfl⟩ dX7_existingSeat_6 rfl (Nat.le_of_ble_eq_true rfl) (fun _ _ _ h => h.elim) (fun r w1 ad1 hp => ?_)
  obtain ⟨rfl, rfl, rfl⟩ := hp
  cases hz : fPl Z x y with
  | none =>
    refine z_astore_nN O dX7_existingSeat_9 (by decide) ?_
    refine z_aload_nN O dX7_existingSeat_10 rfl ?_
    refine z_ifnonnullN O dX7_existingSeat_11 ?_
    exact z_throwW O (text := "there is no such seat") zI (by decide +kernel) (by decide +kernel) zm4_30 zm4_31 zt_260 zbad_260 zok_260 (by decide +kernel) dX7_existingSeat_14 dX7_existingSeat_17 dX7_existingSeat_18 dX7_existingSeat_21 dX7_existingSeat_24 (Nat.le_of_ble_eq_true rfl) (Nat.le_of_ble_eq_true rfl) (Nat.le_of_ble_eq_true rfl) (Nat.le_of_ble_eq_true rfl) (Nat.le_of_ble_eq_true rfl) (Nat.le_of_ble_eq_true rfl) (⟨rfl, hz, rfl, rfl⟩)
  | some k =>
    refine z_astore_n O dX7_existingSeat_9 (by decide) ?_
    refine z_aload_n O dX7_existingSeat_10 rfl ?_
    refine z_ifnonnull O dX7_existingSeat_11 (tgt := 25) (by decide) ?_
    refine z_aload_n O dX7_existingSeat_25 rfl ?_
    exact z_aret O (r := some (ad (100 + k))) rfl (by first | exact Or.inl ⟨_, rfl⟩ | exact Or.inr ⟨_, rfl⟩) dX7_existingSeat_26 (Nat.le_of_ble_eq_true rfl) (Nat.le_of_ble_eq_true rfl) (⟨k, hz, fPl_lt hh hz, rfl, rfl, rfl⟩)

set_option maxRecDepth 100000 in
set_option maxHeartbeats 4000000 in
theorem c_X7_existingHand {G : zG} {l : Launch} (hl : l.stackTraces = false) {Z : zM} {sb : Nat → Option Nat} {mcn : Nat → Int32} {cp : Nat → Nat} {Y : zM} {th : Int32} {o : Nat → Int64} {od : Nat → UInt64} {ad : Nat → Nat} (hL : zLst Z cp 0) {x : Int32} : zCt G l yX7_existingHand (zws yX7_existingHand cX7_existingHand 2 (some (.object "ClaqueRow$Hand"))) ({ frames := 6, cells := 1, slots := 6, locals := 82 }) [.ref (ad 0), .int x] (zent Z sb mcn cp G.2.2.2.1 Y th o od ad) ad (fun r w1 ad1 => ∃ j, x = nI j ∧ j < zN Z 0 ∧ j < 20 ∧ some (.ref (ad (200 + j))) = r ∧ zent Z sb mcn cp G.2.2.2.1 Y th o od ad = w1 ∧ ad = ad1) (fun E w1 ad1 => "java/lang/IndexOutOfBoundsException" = E ∧ ¬ fI x (Z 25 0) ∧ zent Z sb mcn cp G.2.2.2.1 Y th o od ad = w1 ∧ ad = ad1) := by
  refine z_body hl (by decide +kernel) (Nat.le_of_ble_eq_true rfl) (fun X O => ?_)
  refine z_iload_n O dX7_existingHand_0 rfl ?_
  refine z_if_lt O dX7_existingHand_1 (tgt := 18) (by decide) (fun h => ?_) (fun h => ?_)
  · exact z_throwW O (text := "there is no such hand") zI (by decide +kernel) (by decide +kernel) zm4_30 zm4_31 zt_260 zbad_260 zok_260 (by decide +kernel) dX7_existingHand_18 dX7_existingHand_21 dX7_existingHand_22 dX7_existingHand_25 dX7_existingHand_28 (Nat.le_of_ble_eq_true rfl) (Nat.le_of_ble_eq_true rfl) (Nat.le_of_ble_eq_true rfl) (Nat.le_of_ble_eq_true rfl) (Nat.le_of_ble_eq_true rfl) (Nat.le_of_ble_eq_true rfl) (⟨rfl, fun q => absurd q.1 (Int32.not_le.mpr h), rfl, rfl⟩)
  · refine z_iload_n O dX7_existingHand_4 rfl ?_
    refine z_aload_n O dX7_existingHand_5 rfl ?_
    refine z_get O (fk := 1) (fun x h => zI x (zu_RX7 x h)) rfl (by decide) (zI _ zm3_64) dX7_existingHand_6 (zg_x) rfl ?_
    refine z_get O (fk := 0) (fun x h => zI x (zu_RX6 x h)) rfl (by decide) (zI _ zm4_40) dX7_existingHand_9 (zg_tr) rfl ?_
    refine z_callV O (c_size_l hl (i := 0) (by decide) hL) zI zm4_16 zm1_46 zm1_47 zm0_31 zm1_19 ⟨rfl, by decide +kernel, by decide +kernel, (show _ = some 0 by decide +kernel)⟩ rfl ((zg_list0 (i := 0) (by decide) hL)) ⟨Nat.le_of_ble_eq_true rfl, Nat.le_of_ble_eq_true rfl⟩ ⟨Nat.le_of_ble_eq_true rfl, Nat.le_of_ble_eq_true rfl⟩ dX7_existingHand_12 rfl (Nat.le_of_ble_eq_true rfl) (fun _ _ _ h => h.elim) (fun r w1 ad1 hp => ?_)
    obtain ⟨rfl, rfl, rfl⟩ := hp
    rw [← hL.1]
    refine z_icmp_lt O dX7_existingHand_15 (tgt := 29) (by decide) (fun g => ?_) (fun g => ?_)
    · obtain ⟨j, rfl, hj⟩ := fI_nat (i := 0) hL ⟨Int32.not_lt.mp h, g⟩
      have hj20 : j < 20 := by have := hL.2.2.2; omega
      refine z_aload_n O dX7_existingHand_29 rfl ?_
      refine z_get O (fk := 1) (fun x h => zI x (zu_RX7 x h)) rfl (by decide) (zI _ zm3_64) dX7_existingHand_30 (zg_x) rfl ?_
      refine z_get O (fk := 0) (fun x h => zI x (zu_RX6 x h)) rfl (by decide) (zI _ zm4_40) dX7_existingHand_33 (zg_tr) rfl ?_
      refine z_iload_n O dX7_existingHand_36 rfl ?_
      refine z_callV O (c_get_hand hl hL hj) zI zm4_17 zm1_49 zm1_50 zm0_31 zm1_26 ⟨rfl, by decide +kernel, by decide +kernel, (show _ = some 1 by decide +kernel)⟩ rfl ((zg_list0 (i := 0) (by decide) hL)) ⟨Nat.le_of_ble_eq_true rfl, Nat.le_of_ble_eq_true rfl⟩ ⟨Nat.le_of_ble_eq_true rfl, Nat.le_of_ble_eq_true rfl⟩ dX7_existingHand_37 rfl (Nat.le_of_ble_eq_true rfl) (fun _ _ _ h => h.elim) (fun r w1 ad1 hp => ?_)
      obtain ⟨rfl, rfl, rfl⟩ := hp
      refine z_cast0 O rfl (zI _ zm5_29) (zg_hand hj hj20) dX7_existingHand_40 ?_
      exact z_aret O (r := some (ad (200 + j))) rfl (by first | exact Or.inl ⟨_, rfl⟩ | exact Or.inr ⟨_, rfl⟩) dX7_existingHand_43 (Nat.le_of_ble_eq_true rfl) (Nat.le_of_ble_eq_true rfl) (⟨j, rfl, hj, hj20, rfl, rfl, rfl⟩)
    · exact z_throwW O (text := "there is no such hand") zI (by decide +kernel) (by decide +kernel) zm4_30 zm4_31 zt_260 zbad_260 zok_260 (by decide +kernel) dX7_existingHand_18 dX7_existingHand_21 dX7_existingHand_22 dX7_existingHand_25 dX7_existingHand_28 (Nat.le_of_ble_eq_true rfl) (Nat.le_of_ble_eq_true rfl) (Nat.le_of_ble_eq_true rfl) (Nat.le_of_ble_eq_true rfl) (Nat.le_of_ble_eq_true rfl) (Nat.le_of_ble_eq_true rfl) (⟨rfl, fun q => absurd q.2 g, rfl, rfl⟩)

set_option maxRecDepth 100000 in
set_option maxHeartbeats 4000000 in
theorem c_X7_existingSinger {G : zG} {l : Launch} (hl : l.stackTraces = false) {Z : zM} {sb : Nat → Option Nat} {mcn : Nat → Int32} {cp : Nat → Nat} {Y : zM} {th : Int32} {o : Nat → Int64} {od : Nat → UInt64} {ad : Nat → Nat} (hL : zLst Z cp 1) {x : Int32} : zCt G l yX7_existingSinger (zws yX7_existingSinger cX7_existingSinger 2 (some (.object "ClaqueRow$Singer"))) ({ frames := 6, cells := 1, slots := 6, locals := 82 }) [.ref (ad 0), .int x] (zent Z sb mcn cp G.2.2.2.1 Y th o od ad) ad (fun r w1 ad1 => ∃ j, x = nI j ∧ j < zN Z 1 ∧ j < 20 ∧ some (.ref (ad (220 + j))) = r ∧ zent Z sb mcn cp G.2.2.2.1 Y th o od ad = w1 ∧ ad = ad1) (fun E w1 ad1 => "java/lang/IndexOutOfBoundsException" = E ∧ ¬ fI x (Z 26 0) ∧ zent Z sb mcn cp G.2.2.2.1 Y th o od ad = w1 ∧ ad = ad1) := by
  refine z_body hl (by decide +kernel) (Nat.le_of_ble_eq_true rfl) (fun X O => ?_)
  refine z_iload_n O dX7_existingSinger_0 rfl ?_
  refine z_if_lt O dX7_existingSinger_1 (tgt := 15) (by decide) (fun h => ?_) (fun h => ?_)
  · exact z_throwW O (text := "there is no such singer") zI (by decide +kernel) (by decide +kernel) zm4_30 zm4_31 zt_260 zbad_260 zok_260 (by decide +kernel) dX7_existingSinger_15 dX7_existingSinger_18 dX7_existingSinger_19 dX7_existingSinger_22 dX7_existingSinger_25 (Nat.le_of_ble_eq_true rfl) (Nat.le_of_ble_eq_true rfl) (Nat.le_of_ble_eq_true rfl) (Nat.le_of_ble_eq_true rfl) (Nat.le_of_ble_eq_true rfl) (Nat.le_of_ble_eq_true rfl) (⟨rfl, fun q => absurd q.1 (Int32.not_le.mpr h), rfl, rfl⟩)
  · refine z_iload_n O dX7_existingSinger_4 rfl ?_
    refine z_aload_n O dX7_existingSinger_5 rfl ?_
    refine z_get O (fk := 2) (fun x h => zI x (zu_RX7 x h)) rfl (by decide) (zI _ zm3_66) dX7_existingSinger_6 (zg_x) rfl ?_
    refine z_callV O (c_size_l hl (i := 1) (by decide) hL) zI zm4_16 zm1_46 zm1_47 zm0_31 zm1_19 ⟨rfl, by decide +kernel, by decide +kernel, (show _ = some 0 by decide +kernel)⟩ rfl ((zg_list0 (i := 1) (by decide) hL)) ⟨Nat.le_of_ble_eq_true rfl, Nat.le_of_ble_eq_true rfl⟩ ⟨Nat.le_of_ble_eq_true rfl, Nat.le_of_ble_eq_true rfl⟩ dX7_existingSinger_9 rfl (Nat.le_of_ble_eq_true rfl) (fun _ _ _ h => h.elim) (fun r w1 ad1 hp => ?_)
    obtain ⟨rfl, rfl, rfl⟩ := hp
    rw [← hL.1]
    refine z_icmp_lt O dX7_existingSinger_12 (tgt := 26) (by decide) (fun g => ?_) (fun g => ?_)
    · obtain ⟨j, rfl, hj⟩ := fI_nat (i := 1) hL ⟨Int32.not_lt.mp h, g⟩
      have hj20 : j < 20 := by have := hL.2.2.2; omega
      refine z_aload_n O dX7_existingSinger_26 rfl ?_
      refine z_get O (fk := 2) (fun x h => zI x (zu_RX7 x h)) rfl (by decide) (zI _ zm3_66) dX7_existingSinger_27 (zg_x) rfl ?_
      refine z_iload_n O dX7_existingSinger_30 rfl ?_
      refine z_callV O (c_get_singer hl hL hj) zI zm4_17 zm1_49 zm1_50 zm0_31 zm1_26 ⟨rfl, by decide +kernel, by decide +kernel, (show _ = some 1 by decide +kernel)⟩ rfl ((zg_list0 (i := 1) (by decide) hL)) ⟨Nat.le_of_ble_eq_true rfl, Nat.le_of_ble_eq_true rfl⟩ ⟨Nat.le_of_ble_eq_true rfl, Nat.le_of_ble_eq_true rfl⟩ dX7_existingSinger_31 rfl (Nat.le_of_ble_eq_true rfl) (fun _ _ _ h => h.elim) (fun r w1 ad1 hp => ?_)
      obtain ⟨rfl, rfl, rfl⟩ := hp
      refine z_cast0 O rfl (zI _ zm5_40) (zg_singer hj hj20) dX7_existingSinger_34 ?_
      exact z_aret O (r := some (ad (220 + j))) rfl (by first | exact Or.inl ⟨_, rfl⟩ | exact Or.inr ⟨_, rfl⟩) dX7_existingSinger_37 (Nat.le_of_ble_eq_true rfl) (Nat.le_of_ble_eq_true rfl) (⟨j, rfl, hj, hj20, rfl, rfl, rfl⟩)
    · exact z_throwW O (text := "there is no such singer") zI (by decide +kernel) (by decide +kernel) zm4_30 zm4_31 zt_260 zbad_260 zok_260 (by decide +kernel) dX7_existingSinger_15 dX7_existingSinger_18 dX7_existingSinger_19 dX7_existingSinger_22 dX7_existingSinger_25 (Nat.le_of_ble_eq_true rfl) (Nat.le_of_ble_eq_true rfl) (Nat.le_of_ble_eq_true rfl) (Nat.le_of_ble_eq_true rfl) (Nat.le_of_ble_eq_true rfl) (Nat.le_of_ble_eq_true rfl) (⟨rfl, fun q => absurd q.2 g, rfl, rfl⟩)

set_option maxRecDepth 100000 in
set_option maxHeartbeats 4000000 in
theorem c_X7_existingPlan {G : zG} {l : Launch} (hl : l.stackTraces = false) {Z : zM} {sb : Nat → Option Nat} {mcn : Nat → Int32} {cp : Nat → Nat} {Y : zM} {th : Int32} {o : Nat → Int64} {od : Nat → UInt64} {ad : Nat → Nat} (hL : zLst Z cp 0) {x : Int32} : zCt G l yX7_existingPlan (zws yX7_existingPlan cX7_existingPlan 3 (some .int)) ({ frames := 6, cells := 1, slots := 6, locals := 138 }) [.ref (ad 0), .int x] (zent Z sb mcn cp G.2.2.2.1 Y th o od ad) ad (fun r w1 ad1 => ¬ fBest Z x = 0 ∧ some (.int (nI (fBest Z x))) = r ∧ zent Z sb mcn cp G.2.2.2.1 Y th o od ad = w1 ∧ ad = ad1) (fun E w1 ad1 => "java/util/NoSuchElementException" = E ∧ fBest Z x = 0 ∧ zent Z sb mcn cp G.2.2.2.1 Y th o od ad = w1 ∧ ad = ad1) := by
  refine z_body hl (by decide +kernel) (Nat.le_of_ble_eq_true rfl) (fun X O => ?_)
  refine z_aload_n O dX7_existingPlan_0 rfl ?_
  refine z_get O (fk := 1) (fun x h => zI x (zu_RX7 x h)) rfl (by decide) (zI _ zm3_64) dX7_existingPlan_1 (zg_x) rfl ?_
  refine z_bipush O dX7_existingPlan_4 (v := 6) (by decide) ?_
  refine z_iload_n O dX7_existingPlan_6 rfl ?_
  refine z_imul O dX7_existingPlan_7 ?_
  refine z_callV O (c_X6_cheapestPlan hl hL (wd := 6 * x) (bt := fBt Z (zN Z 0)) fBt_iff) zI zm6_45 zm6_46 zm6_47 zm3_29 zm3_54 ⟨rfl, by decide +kernel, by decide +kernel, (show _ = some 1 by decide +kernel)⟩ rfl (zg_tr) ⟨Nat.le_of_ble_eq_true rfl, Nat.le_of_ble_eq_true rfl⟩ ⟨Nat.le_of_ble_eq_true rfl, Nat.le_of_ble_eq_true rfl⟩ dX7_existingPlan_8 rfl (Nat.le_of_ble_eq_true rfl) (fun _ _ _ h => h.elim) (fun r w1 ad1 hp => ?_)
  obtain ⟨rfl, rfl, rfl⟩ := hp
  have hb4 : fBest Z x < 4096 := Nat.lt_of_lt_of_le (fPlan_lt _ _ _ _ _ (Nat.two_pow_pos _)) (z_pow2 hL.2.2.2)
  rw [show fPlan Z (zN Z 0) (6 * x) (fBt Z (zN Z 0)) (2 ^ zN Z 0) = fBest Z x from rfl]
  refine z_istore_n O dX7_existingPlan_11 (by decide) ?_
  refine z_iload_n O dX7_existingPlan_12 rfl ?_
  refine z_if_ne O dX7_existingPlan_13 (tgt := 27) (by decide) (fun h => ?_) (fun h => ?_)
  · refine z_iload_n O dX7_existingPlan_27 rfl ?_
    exact z_iret O dX7_existingPlan_28 (Nat.le_of_ble_eq_true rfl) (Nat.le_of_ble_eq_true rfl) (⟨fun q => h (by rw [q]; rfl), rfl, rfl, rfl⟩)
  · exact z_throwW13 O (text := "there is no plan") zI (by decide +kernel) (by decide +kernel) zm6_43 zm6_44 zt_272 zbad_272 zok_272 (by decide +kernel) dX7_existingPlan_16 dX7_existingPlan_19 dX7_existingPlan_20 dX7_existingPlan_23 dX7_existingPlan_26 (Nat.le_of_ble_eq_true rfl) (Nat.le_of_ble_eq_true rfl) (Nat.le_of_ble_eq_true rfl) (Nat.le_of_ble_eq_true rfl) (Nat.le_of_ble_eq_true rfl) (Nat.le_of_ble_eq_true rfl) (⟨rfl, (nI_eq (by omega) (by decide)).mp h, rfl, rfl⟩)
