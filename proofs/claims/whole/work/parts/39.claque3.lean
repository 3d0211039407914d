theorem zChr_112 : zChr 112 := by unfold zChr; decide
theorem zChr_114 : zChr 114 := by unfold zChr; decide
theorem zChr_104 : zChr 104 := by unfold zChr; decide
theorem zh_nI {j : Nat} (h : j < 2 ^ 31) : zh (nI j) = some j := by
  unfold zh
  rw [if_neg (Int32.not_lt.mpr (nI_pos' h)), nI_clamp h]
theorem zh_some {x : Int32} {j : Nat} (h : zh x = some j) : x = nI j ∧ j < 2 ^ 31 := by
  unfold zh at h
  by_cases q : x < 0
  · rw [if_pos q] at h; cases h
  · rw [if_neg q] at h
    obtain ⟨a, ha, rfl⟩ := nI_of (x := x) q
    rw [nI_clamp ha] at h
    cases h
    exact ⟨rfl, ha⟩
theorem zN_take {Z : zM} {k : Nat} {c : Int32} {i : Nat} : zN (fTake Z k c) i = zN Z i := by
  have : 25 + i ≠ 0 ∧ 25 + i ≠ 2 ∧ 25 + i ≠ 1 ∧ 25 + i ≠ 3 ∧ 25 + i ≠ 4 ∧ 25 + i ≠ 6 ∧ 25 + i ≠ 7 := by omega
  simp [zN, fTake_at, this]
/-- hands and seats know each other -/
def zSb (Z : zM) (sb : Nat → Option Nat) : Prop := (∀ j k, j < zN Z 0 → sb j = some k → k < 80 ∧ zh (Z 2 k) = some j) ∧ (∀ k, k < 80 → ∀ j, zh (Z 2 k) = some j → sb j = some k)
/-- hand j to seat k -/
def fMv1 (Z : zM) (sb : Nat → Option Nat) (j : Nat) : zM := match sb j with | none => Z | some k0 => fTake Z k0 46
def fMvS (Z : zM) (sb : Nat → Option Nat) (j : Nat) : Nat → Option Nat := match sb j with | none => sb | some k0 => fUn Z sb k0
def fMove (Z : zM) (sb : Nat → Option Nat) (j k : Nat) : zM := zu (fTake (fMv1 Z sb j) k 104) 2 k (nI j)
def fMoveS (Z : zM) (sb : Nat → Option Nat) (j k : Nat) : Nat → Option Nat := va_up (fUn (fMv1 Z sb j) (fMvS Z sb j) k) j (some k)
set_option maxRecDepth 100000 in
set_option maxHeartbeats 4000000 in
theorem c_X7_seatRival {G : zG} {l : Launch} (hl : l.stackTraces = false) {Z : zM} {sb : Nat → Option Nat} {mcn : Nat → Int32} {cp : Nat → Nat} {Y : zM} {th : Int32} {o : Nat → Int64} {od : Nat → UInt64} {ad : Nat → Nat} (hh : zHouse Z) (hse : zSeats Z) {x y : Int32} : zCt G l yX7_seatRival (zws yX7_seatRival cX7_seatRival 3 (some .char)) ({ frames := 7, cells := 1, slots := 6, locals := 105 }) [.ref (ad 0), .int x, .int y] (zent Z sb mcn cp G.2.2.2.1 Y th o od ad) ad (fun r w1 ad1 => kSeat Z x y = 0 ∧ some (.int (Z 0 (fAt x y))) = r ∧ zent (fTake Z (fAt x y) 114) (fUn Z sb (fAt x y)) mcn cp G.2.2.2.1 Y th o od ad = w1 ∧ ad = ad1) (zPX ["java/lang/IndexOutOfBoundsException"] (kSeat Z x y) (zent Z sb mcn cp G.2.2.2.1 Y th o od ad) ad) := by
  refine z_body hl (by decide +kernel) (Nat.le_of_ble_eq_true rfl) (fun X O => ?_)
  refine z_aload_n O dX7_seatRival_0 rfl ?_
  refine z_iload_n O dX7_seatRival_1 rfl ?_
  refine z_iload_n O dX7_seatRival_2 rfl ?_
  refine z_callV O (c_X7_existingSeat hl hh (x := x) (y := y)) zI zm4_34 zm4_35 zm4_36 zm4_21 zm4_29 ⟨rfl, by decide +kernel, by decide +kernel, (show _ = some 2 by decide +kernel)⟩ rfl (zg_x) ⟨Nat.le_of_ble_eq_true rfl, Nat.le_of_ble_eq_true rfl⟩ ⟨Nat.le_of_ble_eq_true rfl, Nat.le_of_ble_eq_true rfl⟩ dX7_seatRival_3 rfl (Nat.le_of_ble_eq_true rfl) (fun E w' ad' h => by obtain ⟨rfl, hc, rfl, rfl⟩ := h; exact ⟨⟨⟨rfl, rfl⟩, by unfold kSeat; rw [if_pos hc]; exact ⟨by decide, rfl⟩⟩, Nat.le_of_ble_eq_true rfl, Nat.le_of_ble_eq_true rfl⟩) (fun r w1 ad1 hp => ?_)
  obtain ⟨k, hz, hk, rfl, rfl, rfl⟩ := hp
  obtain rfl := fPl_at hz
  have hz1 : ¬ fPl Z x y = none := fun q => by rw [hz] at q; cases q
  obtain ⟨hs1, hs2, hs3⟩ := hse _ hk
  refine z_bipush O dX7_seatRival_6 (v := 114) (by decide) ?_
  refine z_callV O (c_X4_take hl hk zChr_114 hs1 hs2 hs3) zI zm4_37 zm2_65 zm2_66 zm0_61 zm2_58 ⟨rfl, by decide +kernel, by decide +kernel, (show _ = some 1 by decide +kernel)⟩ rfl (zg_seat hk) ⟨Nat.le_of_ble_eq_true rfl, Nat.le_of_ble_eq_true rfl⟩ ⟨Nat.le_of_ble_eq_true rfl, Nat.le_of_ble_eq_true rfl⟩ dX7_seatRival_8 rfl (Nat.le_of_ble_eq_true rfl) (fun _ _ _ h => h.elim) (fun r w1 ad1 hp => ?_)
  obtain ⟨rfl, rfl, rfl⟩ := hp
  exact z_zret O rfl hs1.1 dX7_seatRival_11 (Nat.le_of_ble_eq_true rfl) (Nat.le_of_ble_eq_true rfl) (⟨by unfold kSeat; rw [if_neg hz1], rfl, rfl, rfl⟩)

set_option maxRecDepth 100000 in
set_option maxHeartbeats 4000000 in
theorem c_X7_clearSeat {G : zG} {l : Launch} (hl : l.stackTraces = false) {Z : zM} {sb : Nat → Option Nat} {mcn : Nat → Int32} {cp : Nat → Nat} {Y : zM} {th : Int32} {o : Nat → Int64} {od : Nat → UInt64} {ad : Nat → Nat} (hh : zHouse Z) (hse : zSeats Z) {x y : Int32} : zCt G l yX7_clearSeat (zws yX7_clearSeat cX7_clearSeat 3 (some .char)) ({ frames := 7, cells := 1, slots := 6, locals := 105 }) [.ref (ad 0), .int x, .int y] (zent Z sb mcn cp G.2.2.2.1 Y th o od ad) ad (fun r w1 ad1 => kSeat Z x y = 0 ∧ some (.int (Z 0 (fAt x y))) = r ∧ zent (fTake Z (fAt x y) 46) (fUn Z sb (fAt x y)) mcn cp G.2.2.2.1 Y th o od ad = w1 ∧ ad = ad1) (zPX ["java/lang/IndexOutOfBoundsException"] (kSeat Z x y) (zent Z sb mcn cp G.2.2.2.1 Y th o od ad) ad) := by
  refine z_body hl (by decide +kernel) (Nat.le_of_ble_eq_true rfl) (fun X O => ?_)
  refine z_aload_n O dX7_clearSeat_0 rfl ?_
  refine z_iload_n O dX7_clearSeat_1 rfl ?_
  refine z_iload_n O dX7_clearSeat_2 rfl ?_
  refine z_callV O (c_X7_existingSeat hl hh (x := x) (y := y)) zI zm4_34 zm4_35 zm4_36 zm4_21 zm4_29 ⟨rfl, by decide +kernel, by decide +kernel, (show _ = some 2 by decide +kernel)⟩ rfl (zg_x) ⟨Nat.le_of_ble_eq_true rfl, Nat.le_of_ble_eq_true rfl⟩ ⟨Nat.le_of_ble_eq_true rfl, Nat.le_of_ble_eq_true rfl⟩ dX7_clearSeat_3 rfl (Nat.le_of_ble_eq_true rfl) (fun E w' ad' h => by obtain ⟨rfl, hc, rfl, rfl⟩ := h; exact ⟨⟨⟨rfl, rfl⟩, by unfold kSeat; rw [if_pos hc]; exact ⟨by decide, rfl⟩⟩, Nat.le_of_ble_eq_true rfl, Nat.le_of_ble_eq_true rfl⟩) (fun r w1 ad1 hp => ?_)
  obtain ⟨k, hz, hk, rfl, rfl, rfl⟩ := hp
  obtain rfl := fPl_at hz
  have hz1 : ¬ fPl Z x y = none := fun q => by rw [hz] at q; cases q
  obtain ⟨hs1, hs2, hs3⟩ := hse _ hk
  refine z_bipush O dX7_clearSeat_6 (v := 46) (by decide) ?_
  refine z_callV O (c_X4_take hl hk zChr_46 hs1 hs2 hs3) zI zm4_37 zm2_65 zm2_66 zm0_61 zm2_58 ⟨rfl, by decide +kernel, by decide +kernel, (show _ = some 1 by decide +kernel)⟩ rfl (zg_seat hk) ⟨Nat.le_of_ble_eq_true rfl, Nat.le_of_ble_eq_true rfl⟩ ⟨Nat.le_of_ble_eq_true rfl, Nat.le_of_ble_eq_true rfl⟩ dX7_clearSeat_8 rfl (Nat.le_of_ble_eq_true rfl) (fun _ _ _ h => h.elim) (fun r w1 ad1 hp => ?_)
  obtain ⟨rfl, rfl, rfl⟩ := hp
  exact z_zret O rfl hs1.1 dX7_clearSeat_11 (Nat.le_of_ble_eq_true rfl) (Nat.le_of_ble_eq_true rfl) (⟨by unfold kSeat; rw [if_neg hz1], rfl, rfl, rfl⟩)

set_option maxRecDepth 100000 in
set_option maxHeartbeats 4000000 in
theorem c_X7_seatPayer {G : zG} {l : Launch} (hl : l.stackTraces = false) {Z : zM} {sb : Nat → Option Nat} {mcn : Nat → Int32} {cp : Nat → Nat} {Y : zM} {th : Int32} {o : Nat → Int64} {od : Nat → UInt64} {ad : Nat → Nat} (hh : zHouse Z) (hse : zSeats Z) {x y : Int32} {t : Int32} : zCt G l yX7_seatPayer (zws yX7_seatPayer cX7_seatPayer 6 (some .char)) ({ frames := 7, cells := 2, slots := 12, locals := 105 }) [.ref (ad 0), .int x, .int y, .int t] (zent Z sb mcn cp G.2.2.2.1 Y th o od ad) ad (fun r w1 ad1 => kPayer Z x y t = 0 ∧ some (.int (Z 0 (fAt x y))) = r ∧ zent (zu (fTake Z (fAt x y) 112) 1 (fAt x y) t) (fUn Z sb (fAt x y)) mcn cp G.2.2.2.1 Y th o od ad = w1 ∧ ad = ad1) (zPX ["java/lang/IndexOutOfBoundsException", "java/lang/IllegalArgumentException"] (kPayer Z x y t) (zent Z sb mcn cp G.2.2.2.1 Y th o od ad) ad) := by
  refine z_body hl (by decide +kernel) (Nat.le_of_ble_eq_true rfl) (fun X O => ?_)
  refine z_aload_n O dX7_seatPayer_0 rfl ?_
  refine z_iload_n O dX7_seatPayer_1 rfl ?_
  refine z_iload_n O dX7_seatPayer_2 rfl ?_
  refine z_callV O (c_X7_existingSeat hl hh (x := x) (y := y)) zI zm4_34 zm4_35 zm4_36 zm4_21 zm4_29 ⟨rfl, by decide +kernel, by decide +kernel, (show _ = some 2 by decide +kernel)⟩ rfl (zg_x) ⟨Nat.le_of_ble_eq_true rfl, Nat.le_of_ble_eq_true rfl⟩ ⟨Nat.le_of_ble_eq_true rfl, Nat.le_of_ble_eq_true rfl⟩ dX7_seatPayer_3 rfl (Nat.le_of_ble_eq_true rfl) (fun E w' ad' h => by obtain ⟨rfl, hc, rfl, rfl⟩ := h; exact ⟨⟨⟨rfl, rfl⟩, by unfold kPayer; rw [if_pos hc]; exact ⟨by decide, rfl⟩⟩, Nat.le_of_ble_eq_true rfl, Nat.le_of_ble_eq_true rfl⟩) (fun r w1 ad1 hp => ?_)
  obtain ⟨k, hz, hk, rfl, rfl, rfl⟩ := hp
  obtain rfl := fPl_at hz
  have hz1 : ¬ fPl Z x y = none := fun q => by rw [hz] at q; cases q
  obtain ⟨hs1, hs2, hs3⟩ := hse _ hk
  refine z_astore O dX7_seatPayer_6 (by decide) ?_
  refine z_iload_n O dX7_seatPayer_8 rfl ?_
  refine z_iconst O dX7_seatPayer_9 (v := 1) (by decide) ?_
  refine z_bipush O dX7_seatPayer_10 (v := 9) (by decide) ?_
  refine z_callS O (c_X7_checkRange hl (x := t) (a := 1) (b := 9)) zI zm4_19 zm4_20 zm4_21 zm4_8 ⟨by decide +kernel, by decide +kernel, (show _ = some 3 by decide +kernel)⟩ ⟨Nat.le_of_ble_eq_true rfl, Nat.le_of_ble_eq_true rfl⟩ ⟨Nat.le_of_ble_eq_true rfl, Nat.le_of_ble_eq_true rfl⟩ dX7_seatPayer_12 rfl (Nat.le_of_ble_eq_true rfl) (fun E w' ad' h => by obtain ⟨rfl, hc, rfl, rfl⟩ := h; exact ⟨⟨⟨rfl, rfl⟩, by unfold kPayer; rw [if_neg hz1, if_pos hc]; exact ⟨by decide, rfl⟩⟩, Nat.le_of_ble_eq_true rfl, Nat.le_of_ble_eq_true rfl⟩) (fun r w1 ad1 hp => ?_)
  obtain ⟨hr, rfl, rfl, rfl⟩ := hp
  refine z_aload O dX7_seatPayer_15 rfl ?_
  refine z_bipush O dX7_seatPayer_17 (v := 112) (by decide) ?_
  refine z_callV O (c_X4_take hl hk zChr_112 hs1 hs2 hs3) zI zm4_37 zm2_65 zm2_66 zm0_61 zm2_58 ⟨rfl, by decide +kernel, by decide +kernel, (show _ = some 1 by decide +kernel)⟩ rfl (zg_seat hk) ⟨Nat.le_of_ble_eq_true rfl, Nat.le_of_ble_eq_true rfl⟩ ⟨Nat.le_of_ble_eq_true rfl, Nat.le_of_ble_eq_true rfl⟩ dX7_seatPayer_19 rfl (Nat.le_of_ble_eq_true rfl) (fun _ _ _ h => h.elim) (fun r w1 ad1 hp => ?_)
  obtain ⟨rfl, rfl, rfl⟩ := hp
  refine z_istore O dX7_seatPayer_22 (by decide) ?_
  refine z_aload O dX7_seatPayer_24 rfl ?_
  refine z_iload_n O dX7_seatPayer_26 rfl ?_
  refine z_put O (fk := 1) (fun x h => zI x (zu_RX4 x h)) tyX4 tyX4_ok nmX4 rfl (by decide) (zI _ zm4_33) rfl dX7_seatPayer_27 rfl rfl (zg_seat hk) (Nat.le_of_ble_eq_true rfl) (zp_seat_threshold hk) ?_
  refine z_iload O dX7_seatPayer_30 rfl ?_
  exact z_zret O rfl hs1.1 dX7_seatPayer_32 (Nat.le_of_ble_eq_true rfl) (Nat.le_of_ble_eq_true rfl) (⟨by unfold kPayer; rw [if_neg hz1, if_neg (fun q => q hr)], rfl, rfl, rfl⟩)

theorem zN_zu2 {Z : zM} {k : Nat} {v : Int32} {i : Nat} : zN (zu Z 2 k v) i = zN Z i := by
  have : 25 + i ≠ 2 := by omega
  simp [zN, zu, this]
set_option maxRecDepth 100000 in
set_option maxHeartbeats 4000000 in
theorem c_X7_seatHand {G : zG} {l : Launch} (hl : l.stackTraces = false) {Z : zM} {sb : Nat → Option Nat} {mcn : Nat → Int32} {cp : Nat → Nat} {Y : zM} {th : Int32} {o : Nat → Int64} {od : Nat → UInt64} {ad : Nat → Nat} (hh : zHouse Z) (hse : zSeats Z) (hL : zLst Z cp 0) (hsb : zSb Z sb) {h x y : Int32} : zCt G l yX7_seatHand (zws yX7_seatHand cX7_seatHand 7 (some .char)) ({ frames := 7, cells := 3, slots := 18, locals := 105 }) [.ref (ad 0), .int h, .int x, .int y] (zent Z sb mcn cp G.2.2.2.1 Y th o od ad) ad (fun r w1 ad1 => kMove Z h x y = 0 ∧ some (.int (fMv1 Z sb h.toNatClampNeg 0 (fAt x y))) = r ∧ zent (fMove Z sb h.toNatClampNeg (fAt x y)) (fMoveS Z sb h.toNatClampNeg (fAt x y)) mcn cp G.2.2.2.1 Y th o od ad = w1 ∧ ad = ad1) (zPX ["java/lang/IndexOutOfBoundsException", "java/lang/UnsupportedOperationException"] (kMove Z h x y) (zent Z sb mcn cp G.2.2.2.1 Y th o od ad) ad) := by
  refine z_body hl (by decide +kernel) (Nat.le_of_ble_eq_true rfl) (fun X O => ?_)
  refine z_aload_n O dX7_seatHand_0 rfl ?_
  refine z_iload_n O dX7_seatHand_1 rfl ?_
  refine z_callV O (c_X7_existingHand hl hL (x := h)) zI zm4_47 zm4_48 zm4_49 zm4_21 zm4_42 ⟨rfl, by decide +kernel, by decide +kernel, (show _ = some 1 by decide +kernel)⟩ rfl (zg_x) ⟨Nat.le_of_ble_eq_true rfl, Nat.le_of_ble_eq_true rfl⟩ ⟨Nat.le_of_ble_eq_true rfl, Nat.le_of_ble_eq_true rfl⟩ dX7_seatHand_2 rfl (Nat.le_of_ble_eq_true rfl) (fun E w' ad' h => by obtain ⟨rfl, hc, rfl, rfl⟩ := h; exact ⟨⟨⟨rfl, rfl⟩, by unfold kMove; rw [if_pos hc]; exact ⟨by decide, rfl⟩⟩, Nat.le_of_ble_eq_true rfl, Nat.le_of_ble_eq_true rfl⟩) (fun r w1 ad1 hp => ?_)
  obtain ⟨j, rfl, hj, hj20, rfl, rfl, rfl⟩ := hp
  have hcl : (nI j).toNatClampNeg = j := nI_clamp (by omega)
  have hin := fI_in hL hj
  refine z_astore O dX7_seatHand_5 (by decide) ?_
  refine z_aload_n O dX7_seatHand_7 rfl ?_
  refine z_iload_n O dX7_seatHand_8 rfl ?_
  refine z_iload_n O dX7_seatHand_9 rfl ?_
  refine z_callV O (c_X7_existingSeat hl hh (x := x) (y := y)) zI zm4_34 zm4_35 zm4_36 zm4_21 zm4_29 ⟨rfl, by decide +kernel, by decide +kernel, (show _ = some 2 by decide +kernel)⟩ rfl (zg_x) ⟨Nat.le_of_ble_eq_true rfl, Nat.le_of_ble_eq_true rfl⟩ ⟨Nat.le_of_ble_eq_true rfl, Nat.le_of_ble_eq_true rfl⟩ dX7_seatHand_10 rfl (Nat.le_of_ble_eq_true rfl) (fun E w' ad' h => by obtain ⟨rfl, hc, rfl, rfl⟩ := h; exact ⟨⟨⟨rfl, rfl⟩, by unfold kMove; rw [if_neg (fun q => q hin), if_pos hc]; exact ⟨by decide, rfl⟩⟩, Nat.le_of_ble_eq_true rfl, Nat.le_of_ble_eq_true rfl⟩) (fun r w1 ad1 hp => ?_)
  obtain ⟨k, hz, hk, rfl, rfl, rfl⟩ := hp
  obtain rfl := fPl_at hz
  have hz1 : ¬ fPl Z x y = none := fun q => by rw [hz] at q; cases q
  refine z_astore O dX7_seatHand_13 (by decide) ?_
  refine z_aload O dX7_seatHand_15 rfl ?_
  rw [hcl] at O
  cases hzs : sb j with
  | none =>
    have hne : ¬ Z 2 (fAt x y) = nI j := fun q => by have := hsb.2 _ hk j (by rw [q]; exact zh_nI (by omega)); rw [hzs] at this; cases this
    refine z_get O (fk := 5) (v := .null) (fun x h => zI x (zu_RX2 x h)) rfl (by decide) (zI _ zm4_45) dX7_seatHand_17 (zg_hand hj hj20) (by simp only [sHand, hzs]; rfl) ?_
    refine z_aload O dX7_seatHand_20 rfl ?_
    refine z_acmp_ne O (rx := none) (ry := some (ad (100 + (fAt x y)))) dX7_seatHand_22 (tgt := 35) (by decide) (fun _ => ?_) (fun q => by cases q)
    refine z_aload O dX7_seatHand_35 rfl ?_
    refine z_get O (fk := 5) (v := .null) (fun x h => zI x (zu_RX2 x h)) rfl (by decide) (zI _ zm4_45) dX7_seatHand_37 (zg_hand hj hj20) (by simp only [sHand, hzs]; rfl) ?_
    refine z_ifnullN O dX7_seatHand_40 (tgt := 54) (by decide) ?_
    have hs9 := hse
    have hN9 : zN Z 0 = zN Z 0 := rfl
    refine z_aload O dX7_seatHand_54 rfl ?_
    refine z_bipush O dX7_seatHand_56 (v := 104) (by decide) ?_
    refine z_callV O (c_X4_take hl hk zChr_104 (hs9 _ hk).1 (hs9 _ hk).2.1 (hs9 _ hk).2.2) zI zm4_37 zm2_65 zm2_66 zm0_61 zm2_58 ⟨rfl, by decide +kernel, by decide +kernel, (show _ = some 1 by decide +kernel)⟩ rfl (zg_seat hk) ⟨Nat.le_of_ble_eq_true rfl, Nat.le_of_ble_eq_true rfl⟩ ⟨Nat.le_of_ble_eq_true rfl, Nat.le_of_ble_eq_true rfl⟩ dX7_seatHand_58 rfl (Nat.le_of_ble_eq_true rfl) (fun _ _ _ h => h.elim) (fun r w1 ad1 hp => ?_)
    obtain ⟨rfl, rfl, rfl⟩ := hp
    refine z_istore O dX7_seatHand_61 (by decide) ?_
    refine z_aload O dX7_seatHand_63 rfl ?_
    refine z_aload O dX7_seatHand_65 rfl ?_
    refine z_put O (fk := 2) (fun x h => zI x (zu_RX4 x h)) tyX4 tyX4_ok nmX4 rfl (by decide) (zI _ zm4_46) rfl dX7_seatHand_67 rfl rfl (zg_seat hk) (Nat.le_of_ble_eq_true rfl) (zp_seat_hand (r := some j) hk (zh_nI (by omega))) ?_
    refine z_aload O dX7_seatHand_70 rfl ?_
    refine z_aload O dX7_seatHand_72 rfl ?_
    refine z_put O (fk := 5) (fun x h => zI x (zu_RX2 x h)) tyX2 tyX2_ok nmX2 rfl (by decide) (zI _ zm4_45) rfl dX7_seatHand_74 rfl rfl (zg_hand (by rw [zN_zu2, zN_take, hN9]; exact hj) hj20) (Nat.le_of_ble_eq_true rfl) (zp_hand_seat (r := some (fAt x y)) (by rw [zN_zu2, zN_take, hN9]; exact hj) hj20) ?_
    refine z_iload O dX7_seatHand_77 rfl ?_
    exact z_zret O rfl (hs9 _ hk).1.1 dX7_seatHand_79 (Nat.le_of_ble_eq_true rfl) (Nat.le_of_ble_eq_true rfl) (⟨by unfold kMove; rw [if_neg (fun q => q hin), if_neg hz1, if_neg hne], by rw [show fMv1 Z sb j = Z by unfold fMv1; rw [hzs]], by unfold fMove fMoveS fMvS; rw [show fMv1 Z sb j = Z by unfold fMv1; rw [hzs]]; rw [hzs], rfl⟩)
  | some k0 =>
    obtain ⟨hk0, hzk⟩ := hsb.1 j k0 hj hzs
    refine zV.inj (i := 100 + k0) (j := 100 + (fAt x y)) (by rw [zg_seat hk0]; exact fun q => by cases q) (by rw [zg_seat hk]; exact fun q => by cases q) (fun hinj => ?_)
    refine z_get O (fk := 5) (v := .ref (ad (100 + k0))) (fun x h => zI x (zu_RX2 x h)) rfl (by decide) (zI _ zm4_45) dX7_seatHand_17 (zg_hand hj hj20) (by simp only [sHand, hzs]; rfl) ?_
    refine z_aload O dX7_seatHand_20 rfl ?_
    refine z_acmp_ne O (rx := some (ad (100 + k0))) (ry := some (ad (100 + (fAt x y)))) dX7_seatHand_22 (tgt := 35) (by decide) (fun g => ?_) (fun g => ?_)
    · have hkk : k0 ≠ (fAt x y) := fun q => g (by rw [q])
      have hne : ¬ Z 2 (fAt x y) = nI j := fun q => hkk (by have := hsb.2 _ hk j (by rw [q]; exact zh_nI (by omega)); rw [hzs] at this; exact Option.some.inj this)
      refine z_aload O dX7_seatHand_35 rfl ?_
      refine z_get O (fk := 5) (v := .ref (ad (100 + k0))) (fun x h => zI x (zu_RX2 x h)) rfl (by decide) (zI _ zm4_45) dX7_seatHand_37 (zg_hand hj hj20) (by simp only [sHand, hzs]; rfl) ?_
      refine z_ifnull O dX7_seatHand_40 ?_
      refine z_aload O dX7_seatHand_43 rfl ?_
      refine z_get O (fk := 5) (v := .ref (ad (100 + k0))) (fun x h => zI x (zu_RX2 x h)) rfl (by decide) (zI _ zm4_45) dX7_seatHand_45 (zg_hand hj hj20) (by simp only [sHand, hzs]; rfl) ?_
      refine z_bipush O dX7_seatHand_48 (v := 46) (by decide) ?_
      refine z_callV O (c_X4_take hl hk0 zChr_46 (hse _ hk0).1 (hse _ hk0).2.1 (hse _ hk0).2.2) zI zm4_37 zm2_65 zm2_66 zm0_61 zm2_58 ⟨rfl, by decide +kernel, by decide +kernel, (show _ = some 1 by decide +kernel)⟩ rfl (zg_seat hk0) ⟨Nat.le_of_ble_eq_true rfl, Nat.le_of_ble_eq_true rfl⟩ ⟨Nat.le_of_ble_eq_true rfl, Nat.le_of_ble_eq_true rfl⟩ dX7_seatHand_50 rfl (Nat.le_of_ble_eq_true rfl) (fun _ _ _ h => h.elim) (fun r w1 ad1 hp => ?_)
      obtain ⟨rfl, rfl, rfl⟩ := hp
      have hs9 := zSeats_take (k := k0) hse zChr_46
      have hN9 : zN (fTake Z k0 46) 0 = zN Z 0 := zN_take
      refine z_pop O dX7_seatHand_53 rfl ?_
      refine z_aload O dX7_seatHand_54 rfl ?_
      refine z_bipush O dX7_seatHand_56 (v := 104) (by decide) ?_
      refine z_callV O (c_X4_take hl hk zChr_104 (hs9 _ hk).1 (hs9 _ hk).2.1 (hs9 _ hk).2.2) zI zm4_37 zm2_65 zm2_66 zm0_61 zm2_58 ⟨rfl, by decide +kernel, by decide +kernel, (show _ = some 1 by decide +kernel)⟩ rfl (zg_seat hk) ⟨Nat.le_of_ble_eq_true rfl, Nat.le_of_ble_eq_true rfl⟩ ⟨Nat.le_of_ble_eq_true rfl, Nat.le_of_ble_eq_true rfl⟩ dX7_seatHand_58 rfl (Nat.le_of_ble_eq_true rfl) (fun _ _ _ h => h.elim) (fun r w1 ad1 hp => ?_)
      obtain ⟨rfl, rfl, rfl⟩ := hp
      refine z_istore O dX7_seatHand_61 (by decide) ?_
      refine z_aload O dX7_seatHand_63 rfl ?_
      refine z_aload O dX7_seatHand_65 rfl ?_
      refine z_put O (fk := 2) (fun x h => zI x (zu_RX4 x h)) tyX4 tyX4_ok nmX4 rfl (by decide) (zI _ zm4_46) rfl dX7_seatHand_67 rfl rfl (zg_seat hk) (Nat.le_of_ble_eq_true rfl) (zp_seat_hand (r := some j) hk (zh_nI (by omega))) ?_
      refine z_aload O dX7_seatHand_70 rfl ?_
      refine z_aload O dX7_seatHand_72 rfl ?_
      refine z_put O (fk := 5) (fun x h => zI x (zu_RX2 x h)) tyX2 tyX2_ok nmX2 rfl (by decide) (zI _ zm4_45) rfl dX7_seatHand_74 rfl rfl (zg_hand (by rw [zN_zu2, zN_take, hN9]; exact hj) hj20) (Nat.le_of_ble_eq_true rfl) (zp_hand_seat (r := some (fAt x y)) (by rw [zN_zu2, zN_take, hN9]; exact hj) hj20) ?_
      refine z_iload O dX7_seatHand_77 rfl ?_
      exact z_zret O rfl (hs9 _ hk).1.1 dX7_seatHand_79 (Nat.le_of_ble_eq_true rfl) (Nat.le_of_ble_eq_true rfl) (⟨by unfold kMove; rw [if_neg (fun q => q hin), if_neg hz1, if_neg hne], by rw [show fMv1 Z sb j = fTake Z k0 46 by unfold fMv1; rw [hzs]], by unfold fMove fMoveS fMvS; rw [show fMv1 Z sb j = fTake Z k0 46 by unfold fMv1; rw [hzs]]; rw [hzs], rfl⟩)
    · have hkk : k0 = (fAt x y) := by have := hinj (Option.some.inj g); omega
      exact z_throw O (text := "this hand is there") zI (by decide +kernel) (by decide +kernel) zm4_43 zm4_44 zt_82 zbad_82 zok_82 (by decide +kernel) dX7_seatHand_25 dX7_seatHand_28 dX7_seatHand_29 dX7_seatHand_31 dX7_seatHand_34 (Nat.le_of_ble_eq_true rfl) (Nat.le_of_ble_eq_true rfl) (Nat.le_of_ble_eq_true rfl) (Nat.le_of_ble_eq_true rfl) (Nat.le_of_ble_eq_true rfl) (Nat.le_of_ble_eq_true rfl) (⟨⟨rfl, rfl⟩, by unfold kMove; rw [if_neg (fun q => q hin), if_neg hz1, if_pos (by rw [← hkk]; exact (zh_some hzk).1)]; exact ⟨by decide, rfl⟩⟩)

def fC0 (Z : zM) (k : Nat) : zM := zu Z 18 k 0
theorem fC0_n {Z : zM} {f : Nat} (hf : f ≠ 18) : ∀ i k, fIter fC0 Z i f k = Z f k
  | 0, _ => rfl
  | i + 1, k => by show zu _ 18 i 0 f k = _; rw [zu_f hf]; exact fC0_n hf i k
def fRise (Z : zM) : zM := fIter fC0 (fBegin Z) (zN Z 1)
theorem fBegin_n {Z : zM} {f k : Nat} (hf : ¬ (f = 27 ∨ (29 ≤ f ∧ f ≤ 33))) : fBegin Z f k = Z f k := by
  have : f ≠ 27 ∧ f ≠ 29 ∧ f ≠ 30 ∧ f ≠ 31 ∧ f ≠ 32 ∧ f ≠ 33 := by omega
  simp [fBegin, zu, this]
theorem zLst_of {Z Z' : zM} {cp : Nat → Nat} {i : Nat} (h : zLst Z cp i) (e : Z' (25 + i) 0 = Z (25 + i) 0) : zLst Z' cp i := by
  have hn : zN Z' i = zN Z i := by unfold zN; rw [e]
  unfold zLst
  rw [hn, e]
  exact h
set_option maxRecDepth 100000 in
set_option maxHeartbeats 4000000 in
theorem c_X7_beginEvening {G : zG} {l : Launch} (hl : l.stackTraces = false) {Z : zM} {sb : Nat → Option Nat} {mcn : Nat → Int32} {cp : Nat → Nat} {Y : zM} {th : Int32} {o : Nat → Int64} {od : Nat → UInt64} {ad : Nat → Nat} (hL1 : zLst Z cp 1) (hL2 : zLst Z cp 2) : zCt G l yX7_beginEvening (zws yX7_beginEvening cX7_beginEvening 2 none) ({ frames := 3, cells := 0, slots := 0, locals := 64 }) [.ref (ad 0)] (zent Z sb mcn cp G.2.2.2.1 Y th o od ad) ad (fun r w1 ad1 => none = r ∧ zent (fRise Z) sb (va_up mcn 2 (mcn 2 + 1)) cp G.2.2.2.1 Y th o od ad = w1 ∧ ad = ad1) (zNoX) := by
  refine z_body hl (by decide +kernel) (Nat.le_of_ble_eq_true rfl) (fun X O => ?_)
  have L : ∀ (n : Nat) (i : Nat), i ≤ zN Z 1 → zN Z 1 < i + n → zV G X 2 0 0 9 [(0, .ref (ad 0)), (1, .int (nI i))] [] (zent (fIter fC0 (fBegin Z) i) sb (va_up mcn 2 (mcn 2 + 1)) cp G.2.2.2.1 Y th o od ad) ad := by
    intro n
    induction n with
    | zero => intro i h1 h2; omega
    | succ n ih =>
      intro i h1 h2
      have hLi : zLst (fIter fC0 (fBegin Z) i) cp 1 := zLst_of hL1 (by rw [fC0_n (by decide), fBegin_n (by decide)])
      have hNi : zN (fIter fC0 (fBegin Z) i) 1 = zN Z 1 := by unfold zN; rw [fC0_n (by decide), fBegin_n (by decide)]
      refine z_iload_n O dX7_beginEvening_9 rfl ?_
      refine z_aload_n O dX7_beginEvening_10 rfl ?_
      refine z_get O (fk := 2) (fun x h => zI x (zu_RX7 x h)) rfl (by decide) (zI _ zm3_66) dX7_beginEvening_11 (zg_x) rfl ?_
      refine z_callV O (c_size_l hl (i := 1) (by decide) hLi) zI zm4_16 zm1_46 zm1_47 zm0_31 zm1_19 ⟨rfl, by decide +kernel, by decide +kernel, (show _ = some 0 by decide +kernel)⟩ rfl ((zg_list0 (i := 1) (by decide) hLi)) ⟨Nat.le_of_ble_eq_true rfl, Nat.le_of_ble_eq_true rfl⟩ ⟨Nat.le_of_ble_eq_true rfl, Nat.le_of_ble_eq_true rfl⟩ dX7_beginEvening_14 rfl (Nat.le_of_ble_eq_true rfl) (fun _ _ _ h => h.elim) (fun r w1 ad1 hp => ?_)
      obtain ⟨rfl, rfl, rfl⟩ := hp
      rw [hNi]
      refine z_icmp_ge O dX7_beginEvening_17 (tgt := 41) (by decide) (fun g => ?_) (fun g => ?_)
      · have hi : i = zN Z 1 := by have := z_ge_ge (by have := hL1.2.2.2; omega) (by have := hL1.2.2.2; omega) g; omega
        subst hi
        exact z_vret O dX7_beginEvening_41 (Nat.le_of_ble_eq_true rfl) (Nat.le_of_ble_eq_true rfl) (⟨rfl, rfl, rfl⟩)
      · have hi : i < zN Z 1 := z_ge_lt (by have := hL1.2.2.2; omega) (by have := hL1.2.2.2; omega) g
        have hi20 : i < 20 := by have := hL1.2.2.2; omega
        have hii : i < zN (fIter fC0 (fBegin Z) i) 1 := by rw [hNi]; exact hi
        refine z_aload_n O dX7_beginEvening_20 rfl ?_
        refine z_get O (fk := 2) (fun x h => zI x (zu_RX7 x h)) rfl (by decide) (zI _ zm3_66) dX7_beginEvening_21 (zg_x) rfl ?_
        refine z_iload_n O dX7_beginEvening_24 rfl ?_
        refine z_callV O (c_get_singer hl hLi hii) zI zm4_17 zm1_49 zm1_50 zm0_31 zm1_26 ⟨rfl, by decide +kernel, by decide +kernel, (show _ = some 1 by decide +kernel)⟩ rfl ((zg_list0 (i := 1) (by decide) hLi)) ⟨Nat.le_of_ble_eq_true rfl, Nat.le_of_ble_eq_true rfl⟩ ⟨Nat.le_of_ble_eq_true rfl, Nat.le_of_ble_eq_true rfl⟩ dX7_beginEvening_25 rfl (Nat.le_of_ble_eq_true rfl) (fun _ _ _ h => h.elim) (fun r w1 ad1 hp => ?_)
        obtain ⟨rfl, rfl, rfl⟩ := hp
        refine z_cast0 O rfl (zI _ zm5_40) (zg_singer hii hi20) dX7_beginEvening_28 ?_
        refine z_iconst O dX7_beginEvening_31 (v := 0) (by decide) ?_
        refine z_put O (fk := 2) (fun x h => zI x (zu_RX5 x h)) tyX5 tyX5_ok nmX5 rfl (by decide) (zI _ zm4_12) rfl dX7_beginEvening_32 rfl rfl (zg_singer hii hi20) (Nat.le_of_ble_eq_true rfl) (zp_singer_calls hii hi20) ?_
        refine z_iincN O dX7_beginEvening_35 (a := i) rfl (by decide) ?_
        refine z_goto O dX7_beginEvening_38 (tgt := 9) (by decide) ?_
        exact zV.loc (ih (i + 1) (by omega) (by omega)) ⟨rfl, rfl, trivial⟩
  refine z_aload_n O dX7_beginEvening_0 rfl ?_
  refine z_get O (fk := 3) (fun x h => zI x (zu_RX7 x h)) rfl (by decide) (zI _ zm3_69) dX7_beginEvening_1 (zg_x) rfl ?_
  refine z_callV O (c_X1_begin hl hL2) zI zm4_13 zm4_14 zm4_15 zm1_44 zm0_46 ⟨rfl, by decide +kernel, by decide +kernel, (show _ = some 0 by decide +kernel)⟩ rfl (zg_ev) ⟨Nat.le_of_ble_eq_true rfl, Nat.le_of_ble_eq_true rfl⟩ ⟨Nat.le_of_ble_eq_true rfl, Nat.le_of_ble_eq_true rfl⟩ dX7_beginEvening_4 rfl (Nat.le_of_ble_eq_true rfl) (fun _ _ _ h => h.elim) (fun r w1 ad1 hp => ?_)
  obtain ⟨rfl, rfl, rfl⟩ := hp
  refine z_iconst O dX7_beginEvening_7 (v := 0) (by decide) ?_
  refine z_istore_n O dX7_beginEvening_8 (by decide) ?_
  exact zV.loc (L (zN Z 1 + 1) 0 (by omega) (by omega)) ⟨rfl, rfl, trivial⟩

theorem fBuild_n {Z : zM} {sb : Nat → Option Nat} {f : Nat} (hf : 9 ≤ f) : ∀ i k, (fBuild Z sb i).1 f k = Z f k
  | 0, _ => rfl
  | i + 1, k => by
    have : f ≠ 0 ∧ f ≠ 1 ∧ f ≠ 2 ∧ f ≠ 3 ∧ f ≠ 4 ∧ f ≠ 6 ∧ f ≠ 7 := by omega
    show fTake _ i 46 f k = _
    rw [fTake_at]
    simp only [this, false_or, if_false, ite_self]
    exact fBuild_n hf i k
def fNew (Z : zM) (sb : Nat → Option Nat) (x y : Int32) : zM := zu (zu (fBuild Z sb 80).1 23 0 x) 24 0 y
theorem fNew_n {Z : zM} {sb : Nat → Option Nat} {x y : Int32} {f k : Nat} (hf : 25 ≤ f) : fNew Z sb x y f k = Z f k := by
  unfold fNew
  rw [zu_f (by omega), zu_f (by omega), fBuild_n (by omega)]
set_option maxRecDepth 100000 in
set_option maxHeartbeats 4000000 in
theorem c_X7_newHouse {G : zG} {l : Launch} (hl : l.stackTraces = false) {Z : zM} {sb : Nat → Option Nat} {mcn : Nat → Int32} {cp : Nat → Nat} {Y : zM} {th : Int32} {o : Nat → Int64} {od : Nat → UInt64} {ad : Nat → Nat} (hse : zSeats Z) (hL1 : zLst Z cp 1) (hL2 : zLst Z cp 2) {x y : Int32} : zCt G l yX7_newHouse (zws yX7_newHouse cX7_newHouse 3 (some .int)) ({ frames := 7, cells := 2, slots := 12, locals := 104 }) [.ref (ad 0), .int x, .int y] (zent Z sb mcn cp G.2.2.2.1 Y th o od ad) ad (fun r w1 ad1 => kHouse x y = 0 ∧ some (.int (x * y)) = r ∧ zent (fRise (fNew Z sb x y)) (fBuild Z sb 80).2 (va_up mcn 2 (mcn 2 + 1)) cp G.2.2.2.1 Y th o od ad = w1 ∧ ad = ad1) (zPX ["java/lang/IllegalArgumentException"] (kHouse x y) (zent Z sb mcn cp G.2.2.2.1 Y th o od ad) ad) := by
  refine z_body hl (by decide +kernel) (Nat.le_of_ble_eq_true rfl) (fun X O => ?_)
  refine z_iload_n O dX7_newHouse_0 rfl ?_
  refine z_iconst O dX7_newHouse_1 (v := 1) (by decide) ?_
  refine z_bipush O dX7_newHouse_2 (v := 8) (by decide) ?_
  refine z_callS O (c_X7_checkRange hl (x := x) (a := 1) (b := 8)) zI zm4_19 zm4_20 zm4_21 zm4_8 ⟨by decide +kernel, by decide +kernel, (show _ = some 3 by decide +kernel)⟩ ⟨Nat.le_of_ble_eq_true rfl, Nat.le_of_ble_eq_true rfl⟩ ⟨Nat.le_of_ble_eq_true rfl, Nat.le_of_ble_eq_true rfl⟩ dX7_newHouse_4 rfl (Nat.le_of_ble_eq_true rfl) (fun E w' ad' h => by obtain ⟨rfl, hc, rfl, rfl⟩ := h; exact ⟨⟨⟨rfl, rfl⟩, by unfold kHouse; rw [if_pos hc]; exact ⟨by decide, rfl⟩⟩, Nat.le_of_ble_eq_true rfl, Nat.le_of_ble_eq_true rfl⟩) (fun r w1 ad1 hp => ?_)
  obtain ⟨hr, rfl, rfl, rfl⟩ := hp
  refine z_iload_n O dX7_newHouse_7 rfl ?_
  refine z_iconst O dX7_newHouse_8 (v := 1) (by decide) ?_
  refine z_bipush O dX7_newHouse_9 (v := 10) (by decide) ?_
  refine z_callS O (c_X7_checkRange hl (x := y) (a := 1) (b := 10)) zI zm4_19 zm4_20 zm4_21 zm4_8 ⟨by decide +kernel, by decide +kernel, (show _ = some 3 by decide +kernel)⟩ ⟨Nat.le_of_ble_eq_true rfl, Nat.le_of_ble_eq_true rfl⟩ ⟨Nat.le_of_ble_eq_true rfl, Nat.le_of_ble_eq_true rfl⟩ dX7_newHouse_11 rfl (Nat.le_of_ble_eq_true rfl) (fun E w' ad' h => by obtain ⟨rfl, hc, rfl, rfl⟩ := h; exact ⟨⟨⟨rfl, rfl⟩, by unfold kHouse; rw [if_neg (fun q => q hr), if_pos hc]; exact ⟨by decide, rfl⟩⟩, Nat.le_of_ble_eq_true rfl, Nat.le_of_ble_eq_true rfl⟩) (fun r w1 ad1 hp => ?_)
  obtain ⟨hr2, rfl, rfl, rfl⟩ := hp
  refine z_aload_n O dX7_newHouse_14 rfl ?_
  refine z_get O (fk := 0) (fun x h => zI x (zu_RX7 x h)) rfl (by decide) (zI _ zm3_61) dX7_newHouse_15 (zg_x) rfl ?_
  refine z_iload_n O dX7_newHouse_18 rfl ?_
  refine z_iload_n O dX7_newHouse_19 rfl ?_
  refine z_callV O (c_X3_build hl hse (x := x) (y := y)) zI zm4_22 zm4_23 zm4_24 zm1_0 zm2_63 ⟨rfl, by decide +kernel, by decide +kernel, (show _ = some 2 by decide +kernel)⟩ rfl (zg_house) ⟨Nat.le_of_ble_eq_true rfl, Nat.le_of_ble_eq_true rfl⟩ ⟨Nat.le_of_ble_eq_true rfl, Nat.le_of_ble_eq_true rfl⟩ dX7_newHouse_20 rfl (Nat.le_of_ble_eq_true rfl) (fun _ _ _ h => h.elim) (fun r w1 ad1 hp => ?_)
  obtain ⟨rfl, rfl, rfl⟩ := hp
  refine z_aload_n O dX7_newHouse_23 rfl ?_
  refine z_callV O (c_X7_beginEvening hl (Z := fNew Z sb x y) (zLst_of hL1 (fNew_n (by decide))) (zLst_of hL2 (fNew_n (by decide)))) zI zm4_25 zm4_26 zm4_27 zm4_21 zm4_18 ⟨rfl, by decide +kernel, by decide +kernel, (show _ = some 0 by decide +kernel)⟩ rfl (zg_x) ⟨Nat.le_of_ble_eq_true rfl, Nat.le_of_ble_eq_true rfl⟩ ⟨Nat.le_of_ble_eq_true rfl, Nat.le_of_ble_eq_true rfl⟩ dX7_newHouse_24 rfl (Nat.le_of_ble_eq_true rfl) (fun _ _ _ h => h.elim) (fun r w1 ad1 hp => ?_)
  obtain ⟨rfl, rfl, rfl⟩ := hp
  refine z_iload_n O dX7_newHouse_27 rfl ?_
  refine z_iload_n O dX7_newHouse_28 rfl ?_
  refine z_imul O dX7_newHouse_29 ?_
  exact z_iret O dX7_newHouse_30 (Nat.le_of_ble_eq_true rfl) (Nat.le_of_ble_eq_true rfl) (⟨by unfold kHouse; rw [if_neg (fun q => q hr), if_neg (fun q => q hr2)], rfl, rfl, rfl⟩)
