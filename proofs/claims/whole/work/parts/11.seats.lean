/-- what a seat forgets as an evening begins -/
def fRest (Z : zM) (k : Nat) : zM := zu (zu (zu (zu Z 3 k 0) 6 k 0) 4 k 0) 7 k 0
/-- a newcomer c in seat k, whose hand, if any, has no seat then -/
def fTake (Z : zM) (k : Nat) (c : Int32) : zM := fRest (zu (zu (zu Z 2 k (-1)) 0 k c) 1 k 0) k
def fUn (Z : zM) (sb : Nat → Option Nat) (k : Nat) : Nat → Option Nat := match zh (Z 2 k) with | none => sb | some j => va_up sb j none
def zChr (x : Int32) : Prop := narrow .char (.int x) = .int x ∧ fits .char (.int x) = true
def zBol (x : Int32) : Prop := narrow .boolean (.int x) = .int x ∧ fits .boolean (.int x) = true
def fKeep (Z : zM) (k : Nat) : zM := zu (zu Z 5 k (Z 3 k)) 8 k (Z 7 k)
def fHeard (Z : zM) (k : Nat) : Int32 := if Z 8 k = 0 then Z 5 k else Z 5 k - 4
def fMax (x y : Int32) : Int32 := if x < y then y else x
def fMin (x y : Int32) : Int32 := if y < x then y else x
/-- a payer of seat k, with a around it -/
def fPay (Z : zM) (k : Nat) (a : Int32) : zM := if a < 3 * (Z 1 k + Z 4 k / 10) then zu (zu Z 6 k 0) 3 k (fMax 0 (Z 5 k - 1)) else zu (zu (zu Z 6 k 1) 4 k (Z 4 k + 1)) 3 k (fMax 1 (fMin 9 (a / 4)))
theorem zu_id {Z : zM} {F k : Nat} {v : Int32} (h : Z F k = v) : zu Z F k v = Z := by
  funext f j
  unfold zu
  by_cases q : f = F ∧ j = k
  · rw [if_pos q, q.1, q.2, h]
  · rw [if_neg q]
set_option maxRecDepth 100000 in
set_option maxHeartbeats 4000000 in
theorem c_X4_forgetEvening {G : zG} {l : Launch} (hl : l.stackTraces = false) {Z : zM} {sb : Nat → Option Nat} {mcn : Nat → Int32} {cp : Nat → Nat} {Y : zM} {th : Int32} {o : Nat → Int64} {od : Nat → UInt64} {ad : Nat → Nat} {k : Nat} (hk : k < 80) : zCt G l yX4_forgetEvening (zws yX4_forgetEvening cX4_forgetEvening 1 none) ({ frames := 0, cells := 0, slots := 0, locals := 0 }) [.ref (ad (100 + k))] (zent Z sb mcn cp G.2.2.2.1 Y th o od ad) ad (fun r w1 ad1 => none = r ∧ zent (fRest Z k) sb mcn cp G.2.2.2.1 Y th o od ad = w1 ∧ ad = ad1) (zNoX) := by
  refine z_body hl (by decide +kernel) (Nat.le_of_ble_eq_true rfl) (fun X O => ?_)
  refine z_aload_n O dX4_forgetEvening_0 rfl ?_
  refine z_iconst O dX4_forgetEvening_1 (v := 0) (by decide) ?_
  refine z_put O (fk := 3) (fun x h => zI x (zu_RX4 x h)) tyX4 tyX4_ok nmX4 rfl (by decide) (zI _ zm0_52) rfl dX4_forgetEvening_2 rfl rfl (zg_seat hk) (Nat.le_of_ble_eq_true rfl) (zp_seat_noise hk) ?_
  refine z_aload_n O dX4_forgetEvening_5 rfl ?_
  refine z_iconst O dX4_forgetEvening_6 (v := 0) (by decide) ?_
  refine z_put O (fk := 5) (fun x h => zI x (zu_RX4 x h)) tyX4 tyX4_ok nmX4 rfl (by decide) (zI _ zm1_8) rfl dX4_forgetEvening_7 rfl rfl (zg_seat hk) (Nat.le_of_ble_eq_true rfl) (zp_seat_joined hk) ?_
  refine z_aload_n O dX4_forgetEvening_10 rfl ?_
  refine z_iconst O dX4_forgetEvening_11 (v := 0) (by decide) ?_
  refine z_put O (fk := 6) (fun x h => zI x (zu_RX4 x h)) tyX4 tyX4_ok nmX4 rfl (by decide) (zI _ zm1_5) rfl dX4_forgetEvening_12 rfl rfl (zg_seat hk) (Nat.le_of_ble_eq_true rfl) (zp_seat_joins hk) ?_
  refine z_aload_n O dX4_forgetEvening_15 rfl ?_
  refine z_iconst O dX4_forgetEvening_16 (v := 0) (by decide) ?_
  refine z_put O (fk := 7) (fun x h => zI x (zu_RX4 x h)) tyX4 tyX4_ok nmX4 rfl (by decide) (zI _ zm0_54) rfl dX4_forgetEvening_17 rfl rfl (zg_seat hk) (Nat.le_of_ble_eq_true rfl) (zp_seat_hissed hk) ?_
  exact z_vret O dX4_forgetEvening_20 (Nat.le_of_ble_eq_true rfl) (Nat.le_of_ble_eq_true rfl) (⟨rfl, rfl, rfl⟩)

set_option maxRecDepth 100000 in
set_option maxHeartbeats 4000000 in
theorem c_X4_take {G : zG} {l : Launch} (hl : l.stackTraces = false) {Z : zM} {sb : Nat → Option Nat} {mcn : Nat → Int32} {cp : Nat → Nat} {Y : zM} {th : Int32} {o : Nat → Int64} {od : Nat → UInt64} {ad : Nat → Nat} {k : Nat} (hk : k < 80) {ch : Int32} (hch : zChr ch) (hwz : zChr (Z 0 k)) (hm : zh (Z 2 k) = none → Z 2 k = -1) (hjj : ∀ j, zh (Z 2 k) = some j → j < zN Z 0 ∧ j < 20) : zCt G l yX4_take (zws yX4_take cX4_take 3 (some .char)) ({ frames := 1, cells := 0, slots := 0, locals := 20 }) [.ref (ad (100 + k)), .int ch] (zent Z sb mcn cp G.2.2.2.1 Y th o od ad) ad (fun r w1 ad1 => some (.int (Z 0 k)) = r ∧ zent (fTake Z k ch) (fUn Z sb k) mcn cp G.2.2.2.1 Y th o od ad = w1 ∧ ad = ad1) (zNoX) := by
  refine z_body hl (by decide +kernel) (Nat.le_of_ble_eq_true rfl) (fun X O => ?_)
  cases hz : zh (Z 2 k) with
  | none =>
    refine z_aload_n O dX4_take_0 rfl ?_
    refine z_get O (fk := 0) (fun x h => zI x (zu_RX4 x h)) rfl (by decide) (zI _ zm2_50) dX4_take_1 (zg_seat hk) rfl ?_
    refine z_istore_n O dX4_take_4 (by decide) ?_
    refine z_aload_n O dX4_take_5 rfl ?_
    refine z_get O (fk := 2) (v := .null) (fun x h => zI x (zu_RX4 x h)) rfl (by decide) (zI _ zm2_51) dX4_take_6 (zg_seat hk) (by simp only [sSeat, hz]; rfl) ?_
    refine z_ifnullN O dX4_take_9 (tgt := 25) (by decide) ?_
    refine z_aload_n O dX4_take_25 rfl ?_
    refine z_iload_n O dX4_take_26 rfl ?_
    refine z_put O (fk := 0) (fun x h => zI x (zu_RX4 x h)) tyX4 tyX4_ok nmX4 rfl (by decide) (zI _ zm2_50) rfl dX4_take_27 hch.1 hch.2 (zg_seat hk) (Nat.le_of_ble_eq_true rfl) (zp_seat_who hk) ?_
    refine z_aload_n O dX4_take_30 rfl ?_
    refine z_iconst O dX4_take_31 (v := 0) (by decide) ?_
    refine z_put O (fk := 1) (fun x h => zI x (zu_RX4 x h)) tyX4 tyX4_ok nmX4 rfl (by decide) (zI _ zm1_7) rfl dX4_take_32 rfl rfl (zg_seat hk) (Nat.le_of_ble_eq_true rfl) (zp_seat_threshold hk) ?_
    refine z_aload_n O dX4_take_35 rfl ?_
    refine z_callV O (c_X4_forgetEvening hl hk) zI zm2_60 zm2_61 zm2_62 zm0_61 zm2_57 ⟨rfl, by decide +kernel, by decide +kernel, (show _ = some 0 by decide +kernel)⟩ rfl (zg_seat hk) ⟨Nat.le_of_ble_eq_true rfl, Nat.le_of_ble_eq_true rfl⟩ ⟨Nat.le_of_ble_eq_true rfl, Nat.le_of_ble_eq_true rfl⟩ dX4_take_36 rfl (Nat.le_of_ble_eq_true rfl) (fun _ _ _ h => h.elim) (fun r w1 ad1 hp => ?_)
    obtain ⟨rfl, rfl, rfl⟩ := hp
    refine z_iload_n O dX4_take_39 rfl ?_
    exact z_zret O rfl hwz.1 dX4_take_40 (Nat.le_of_ble_eq_true rfl) (Nat.le_of_ble_eq_true rfl) (⟨rfl, by unfold fTake fUn; rw [hz, zu_id (hm hz)], rfl⟩)
  | some j =>
    obtain ⟨hj, hj2⟩ := hjj j hz
    refine z_aload_n O dX4_take_0 rfl ?_
    refine z_get O (fk := 0) (fun x h => zI x (zu_RX4 x h)) rfl (by decide) (zI _ zm2_50) dX4_take_1 (zg_seat hk) rfl ?_
    refine z_istore_n O dX4_take_4 (by decide) ?_
    refine z_aload_n O dX4_take_5 rfl ?_
    refine z_get O (fk := 2) (v := .ref (ad (200 + j))) (fun x h => zI x (zu_RX4 x h)) rfl (by decide) (zI _ zm2_51) dX4_take_6 (zg_seat hk) (by simp only [sSeat, hz]; rfl) ?_
    refine z_ifnull O dX4_take_9 ?_
    refine z_aload_n O dX4_take_12 rfl ?_
    refine z_get O (fk := 2) (v := .ref (ad (200 + j))) (fun x h => zI x (zu_RX4 x h)) rfl (by decide) (zI _ zm2_51) dX4_take_13 (zg_seat hk) (by simp only [sSeat, hz]; rfl) ?_
    refine z_null O dX4_take_16 ?_
    refine z_put O (fk := 5) (fun x h => zI x (zu_RX2 x h)) tyX2 tyX2_ok nmX2 rfl (by decide) (zI _ zm2_59) rfl dX4_take_17 rfl rfl (zg_hand hj hj2) (Nat.le_of_ble_eq_true rfl) (zp_hand_seat (r := none) hj hj2) ?_
    refine z_aload_n O dX4_take_20 rfl ?_
    refine z_null O dX4_take_21 ?_
    refine z_put O (fk := 2) (fun x h => zI x (zu_RX4 x h)) tyX4 tyX4_ok nmX4 rfl (by decide) (zI _ zm2_51) rfl dX4_take_22 rfl rfl (zg_seat hk) (Nat.le_of_ble_eq_true rfl) (zp_seat_hand (v := -1) (r := none) hk (by decide)) ?_
    refine z_aload_n O dX4_take_25 rfl ?_
    refine z_iload_n O dX4_take_26 rfl ?_
    refine z_put O (fk := 0) (fun x h => zI x (zu_RX4 x h)) tyX4 tyX4_ok nmX4 rfl (by decide) (zI _ zm2_50) rfl dX4_take_27 hch.1 hch.2 (zg_seat hk) (Nat.le_of_ble_eq_true rfl) (zp_seat_who hk) ?_
    refine z_aload_n O dX4_take_30 rfl ?_
    refine z_iconst O dX4_take_31 (v := 0) (by decide) ?_
    refine z_put O (fk := 1) (fun x h => zI x (zu_RX4 x h)) tyX4 tyX4_ok nmX4 rfl (by decide) (zI _ zm1_7) rfl dX4_take_32 rfl rfl (zg_seat hk) (Nat.le_of_ble_eq_true rfl) (zp_seat_threshold hk) ?_
    refine z_aload_n O dX4_take_35 rfl ?_
    refine z_callV O (c_X4_forgetEvening hl hk) zI zm2_60 zm2_61 zm2_62 zm0_61 zm2_57 ⟨rfl, by decide +kernel, by decide +kernel, (show _ = some 0 by decide +kernel)⟩ rfl (zg_seat hk) ⟨Nat.le_of_ble_eq_true rfl, Nat.le_of_ble_eq_true rfl⟩ ⟨Nat.le_of_ble_eq_true rfl, Nat.le_of_ble_eq_true rfl⟩ dX4_take_36 rfl (Nat.le_of_ble_eq_true rfl) (fun _ _ _ h => h.elim) (fun r w1 ad1 hp => ?_)
    obtain ⟨rfl, rfl, rfl⟩ := hp
    refine z_iload_n O dX4_take_39 rfl ?_
    exact z_zret O rfl hwz.1 dX4_take_40 (Nat.le_of_ble_eq_true rfl) (Nat.le_of_ble_eq_true rfl) (⟨rfl, by unfold fTake fUn; rw [hz], rfl⟩)

set_option maxRecDepth 100000 in
set_option maxHeartbeats 4000000 in
theorem c_X4_keepTickAhead {G : zG} {l : Launch} (hl : l.stackTraces = false) {Z : zM} {sb : Nat → Option Nat} {mcn : Nat → Int32} {cp : Nat → Nat} {Y : zM} {th : Int32} {o : Nat → Int64} {od : Nat → UInt64} {ad : Nat → Nat} {k : Nat} (hk : k < 80) (hbz : zBol (Z 7 k)) : zCt G l yX4_keepTickAhead (zws yX4_keepTickAhead cX4_keepTickAhead 1 none) ({ frames := 0, cells := 0, slots := 0, locals := 0 }) [.ref (ad (100 + k))] (zent Z sb mcn cp G.2.2.2.1 Y th o od ad) ad (fun r w1 ad1 => none = r ∧ zent (fKeep Z k) sb mcn cp G.2.2.2.1 Y th o od ad = w1 ∧ ad = ad1) (zNoX) := by
  refine z_body hl (by decide +kernel) (Nat.le_of_ble_eq_true rfl) (fun X O => ?_)
  refine z_aload_n O dX4_keepTickAhead_0 rfl ?_
  refine z_aload_n O dX4_keepTickAhead_1 rfl ?_
  refine z_get O (fk := 3) (fun x h => zI x (zu_RX4 x h)) rfl (by decide) (zI _ zm0_52) dX4_keepTickAhead_2 (zg_seat hk) rfl ?_
  refine z_put O (fk := 4) (fun x h => zI x (zu_RX4 x h)) tyX4 tyX4_ok nmX4 rfl (by decide) (zI _ zm0_53) rfl dX4_keepTickAhead_5 rfl rfl (zg_seat hk) (Nat.le_of_ble_eq_true rfl) (zp_seat_noiseAhead hk) ?_
  refine z_aload_n O dX4_keepTickAhead_8 rfl ?_
  refine z_aload_n O dX4_keepTickAhead_9 rfl ?_
  refine z_get O (fk := 7) (fun x h => zI x (zu_RX4 x h)) rfl (by decide) (zI _ zm0_54) dX4_keepTickAhead_10 (zg_seat hk) rfl ?_
  refine z_put O (fk := 8) (fun x h => zI x (zu_RX4 x h)) tyX4 tyX4_ok nmX4 rfl (by decide) (zI _ zm0_55) rfl dX4_keepTickAhead_13 hbz.1 hbz.2 (zg_seat hk) (Nat.le_of_ble_eq_true rfl) (zp_seat_hissedAhead hk) ?_
  exact z_vret O dX4_keepTickAhead_16 (Nat.le_of_ble_eq_true rfl) (Nat.le_of_ble_eq_true rfl) (⟨rfl, rfl, rfl⟩)

set_option maxRecDepth 100000 in
set_option maxHeartbeats 4000000 in
theorem c_X4_heardByNeighbours {G : zG} {l : Launch} (hl : l.stackTraces = false) {Z : zM} {sb : Nat → Option Nat} {mcn : Nat → Int32} {cp : Nat → Nat} {Y : zM} {th : Int32} {o : Nat → Int64} {od : Nat → UInt64} {ad : Nat → Nat} {k : Nat} (hk : k < 80) : zCt G l yX4_heardByNeighbours (zws yX4_heardByNeighbours cX4_heardByNeighbours 1 (some .int)) ({ frames := 0, cells := 0, slots := 0, locals := 0 }) [.ref (ad (100 + k))] (zent Z sb mcn cp G.2.2.2.1 Y th o od ad) ad (fun r w1 ad1 => some (.int (fHeard Z k)) = r ∧ zent Z sb mcn cp G.2.2.2.1 Y th o od ad = w1 ∧ ad = ad1) (zNoX) := by
  refine z_body hl (by decide +kernel) (Nat.le_of_ble_eq_true rfl) (fun X O => ?_)
  refine z_aload_n O dX4_heardByNeighbours_0 rfl ?_
  refine z_get O (fk := 8) (fun x h => zI x (zu_RX4 x h)) rfl (by decide) (zI _ zm0_55) dX4_heardByNeighbours_1 (zg_seat hk) rfl ?_
  refine z_if_eq O dX4_heardByNeighbours_4 (tgt := 16) (by decide) (fun h => ?_) (fun h => ?_)
  · refine z_aload_n O dX4_heardByNeighbours_16 rfl ?_
    refine z_get O (fk := 4) (fun x h => zI x (zu_RX4 x h)) rfl (by decide) (zI _ zm0_53) dX4_heardByNeighbours_17 (zg_seat hk) rfl ?_
    exact z_iret O dX4_heardByNeighbours_20 (Nat.le_of_ble_eq_true rfl) (Nat.le_of_ble_eq_true rfl) (⟨by unfold fHeard; rw [if_pos h], rfl, rfl⟩)
  · refine z_aload_n O dX4_heardByNeighbours_7 rfl ?_
    refine z_get O (fk := 4) (fun x h => zI x (zu_RX4 x h)) rfl (by decide) (zI _ zm0_53) dX4_heardByNeighbours_8 (zg_seat hk) rfl ?_
    refine z_iconst O dX4_heardByNeighbours_11 (v := 4) (by decide) ?_
    refine z_isub O dX4_heardByNeighbours_12 ?_
    refine z_goto O dX4_heardByNeighbours_13 (tgt := 20) (by decide) ?_
    exact z_iret O dX4_heardByNeighbours_20 (Nat.le_of_ble_eq_true rfl) (Nat.le_of_ble_eq_true rfl) (⟨by unfold fHeard; rw [if_neg h], rfl, rfl⟩)

set_option maxRecDepth 100000 in
set_option maxHeartbeats 4000000 in
theorem c_X4_tirednessNow {G : zG} {l : Launch} (hl : l.stackTraces = false) {Z : zM} {sb : Nat → Option Nat} {mcn : Nat → Int32} {cp : Nat → Nat} {Y : zM} {th : Int32} {o : Nat → Int64} {od : Nat → UInt64} {ad : Nat → Nat} {k : Nat} (hk : k < 80) : zCt G l yX4_tirednessNow (zws yX4_tirednessNow cX4_tirednessNow 1 (some .int)) ({ frames := 0, cells := 0, slots := 0, locals := 0 }) [.ref (ad (100 + k))] (zent Z sb mcn cp G.2.2.2.1 Y th o od ad) ad (fun r w1 ad1 => some (.int (Z 4 k / 10)) = r ∧ zent Z sb mcn cp G.2.2.2.1 Y th o od ad = w1 ∧ ad = ad1) (zNoX) := by
  refine z_body hl (by decide +kernel) (Nat.le_of_ble_eq_true rfl) (fun X O => ?_)
  refine z_aload_n O dX4_tirednessNow_0 rfl ?_
  refine z_get O (fk := 6) (fun x h => zI x (zu_RX4 x h)) rfl (by decide) (zI _ zm1_5) dX4_tirednessNow_1 (zg_seat hk) rfl ?_
  refine z_bipush O dX4_tirednessNow_4 (v := 10) (by decide) ?_
  refine z_idiv O dX4_tirednessNow_6 (by decide) ?_
  exact z_iret O dX4_tirednessNow_7 (Nat.le_of_ble_eq_true rfl) (Nat.le_of_ble_eq_true rfl) (⟨rfl, rfl, rfl⟩)

set_option maxRecDepth 100000 in
set_option maxHeartbeats 4000000 in
theorem c_X4_soundAsPayer {G : zG} {l : Launch} (hl : l.stackTraces = false) {Z : zM} {sb : Nat → Option Nat} {mcn : Nat → Int32} {cp : Nat → Nat} {Y : zM} {th : Int32} {o : Nat → Int64} {od : Nat → UInt64} {ad : Nat → Nat} {k : Nat} (hk : k < 80) {a : Int32} : zCt G l yX4_soundAsPayer (zws yX4_soundAsPayer cX4_soundAsPayer 2 none) ({ frames := 1, cells := 0, slots := 0, locals := 21 }) [.ref (ad (100 + k)), .int a] (zent Z sb mcn cp G.2.2.2.1 Y th o od ad) ad (fun r w1 ad1 => none = r ∧ zent (fPay Z k a) sb mcn cp G.2.2.2.1 Y th o od ad = w1 ∧ ad = ad1) (zNoX) := by
  refine z_body hl (by decide +kernel) (Nat.le_of_ble_eq_true rfl) (fun X O => ?_)
  refine z_aload_n O dX4_soundAsPayer_0 rfl ?_
  refine z_iload_n O dX4_soundAsPayer_1 rfl ?_
  refine z_iconst O dX4_soundAsPayer_2 (v := 3) (by decide) ?_
  refine z_aload_n O dX4_soundAsPayer_3 rfl ?_
  refine z_get O (fk := 1) (fun x h => zI x (zu_RX4 x h)) rfl (by decide) (zI _ zm1_7) dX4_soundAsPayer_4 (zg_seat hk) rfl ?_
  refine z_aload_n O dX4_soundAsPayer_7 rfl ?_
  refine z_callV O (c_X4_tirednessNow hl hk) zI zm1_16 zm1_17 zm1_18 zm0_61 zm1_4 ⟨rfl, by decide +kernel, by decide +kernel, (show _ = some 0 by decide +kernel)⟩ rfl (zg_seat hk) ⟨Nat.le_of_ble_eq_true rfl, Nat.le_of_ble_eq_true rfl⟩ ⟨Nat.le_of_ble_eq_true rfl, Nat.le_of_ble_eq_true rfl⟩ dX4_soundAsPayer_8 rfl (Nat.le_of_ble_eq_true rfl) (fun _ _ _ h => h.elim) (fun r w1 ad1 hp => ?_)
  obtain ⟨rfl, rfl, rfl⟩ := hp
  refine z_iadd O dX4_soundAsPayer_11 ?_
  refine z_imul O dX4_soundAsPayer_12 ?_
  refine z_icmp_lt O dX4_soundAsPayer_13 (tgt := 20) (by decide) (fun h => ?_) (fun h => ?_)
  · refine z_iconst O dX4_soundAsPayer_20 (v := 0) (by decide) ?_
    refine z_put O (fk := 5) (fun x h => zI x (zu_RX4 x h)) tyX4 tyX4_ok nmX4 rfl (by decide) (zI _ zm1_8) rfl dX4_soundAsPayer_21 (by decide) rfl (zg_seat hk) (Nat.le_of_ble_eq_true rfl) (zp_seat_joined hk) ?_
    refine z_aload_n O dX4_soundAsPayer_24 rfl ?_
    refine z_get O (fk := 5) (v := .int 0) (fun x h => zI x (zu_RX4 x h)) rfl (by decide) (zI _ zm1_8) dX4_soundAsPayer_25 (zg_seat hk) (by simp only [sSeat, zu_s]; rfl) ?_
    refine z_if_eq O dX4_soundAsPayer_28 (tgt := 60) (by decide) (fun _ => ?_) (fun g => absurd rfl g)
    refine z_aload_n O dX4_soundAsPayer_60 rfl ?_
    refine z_iconst O dX4_soundAsPayer_61 (v := 0) (by decide) ?_
    refine z_aload_n O dX4_soundAsPayer_62 rfl ?_
    refine z_get O (fk := 4) (fun x h => zI x (zu_RX4 x h)) rfl (by decide) (zI _ zm0_53) dX4_soundAsPayer_63 (zg_seat hk) rfl ?_
    refine z_iconst O dX4_soundAsPayer_66 (v := 1) (by decide) ?_
    refine z_isub O dX4_soundAsPayer_67 ?_
    refine z_mmax O zI zm1_13 zm1_14 zm1_11 zm1_15 dX4_soundAsPayer_68 (Nat.le_of_ble_eq_true rfl) (Nat.le_of_ble_eq_true rfl) (Nat.le_of_ble_eq_true rfl) (Nat.le_of_ble_eq_true rfl) ?_
    refine z_put O (fk := 3) (fun x h => zI x (zu_RX4 x h)) tyX4 tyX4_ok nmX4 rfl (by decide) (zI _ zm0_52) rfl dX4_soundAsPayer_71 rfl rfl (zg_seat hk) (Nat.le_of_ble_eq_true rfl) (zp_seat_noise hk) ?_
    exact z_vret O dX4_soundAsPayer_74 (Nat.le_of_ble_eq_true rfl) (Nat.le_of_ble_eq_true rfl) (⟨rfl, by unfold fPay; rw [if_pos h]; rfl, rfl⟩)
  · refine z_iconst O dX4_soundAsPayer_16 (v := 1) (by decide) ?_
    refine z_goto O dX4_soundAsPayer_17 (tgt := 21) (by decide) ?_
    refine z_put O (fk := 5) (fun x h => zI x (zu_RX4 x h)) tyX4 tyX4_ok nmX4 rfl (by decide) (zI _ zm1_8) rfl dX4_soundAsPayer_21 (by decide) rfl (zg_seat hk) (Nat.le_of_ble_eq_true rfl) (zp_seat_joined hk) ?_
    refine z_aload_n O dX4_soundAsPayer_24 rfl ?_
    refine z_get O (fk := 5) (v := .int 1) (fun x h => zI x (zu_RX4 x h)) rfl (by decide) (zI _ zm1_8) dX4_soundAsPayer_25 (zg_seat hk) (by simp only [sSeat, zu_s]; rfl) ?_
    refine z_if_eq O dX4_soundAsPayer_28 (tgt := 60) (by decide) (fun g => absurd g (by decide)) (fun _ => ?_)
    refine z_aload_n O dX4_soundAsPayer_31 rfl ?_
    refine z_dup O dX4_soundAsPayer_32 rfl ?_
    refine z_get O (fk := 6) (fun x h => zI x (zu_RX4 x h)) rfl (by decide) (zI _ zm1_5) dX4_soundAsPayer_33 (zg_seat hk) rfl ?_
    refine z_iconst O dX4_soundAsPayer_36 (v := 1) (by decide) ?_
    refine z_iadd O dX4_soundAsPayer_37 ?_
    refine z_put O (fk := 6) (fun x h => zI x (zu_RX4 x h)) tyX4 tyX4_ok nmX4 rfl (by decide) (zI _ zm1_5) rfl dX4_soundAsPayer_38 rfl rfl (zg_seat hk) (Nat.le_of_ble_eq_true rfl) (zp_seat_joins hk) ?_
    refine z_aload_n O dX4_soundAsPayer_41 rfl ?_
    refine z_iconst O dX4_soundAsPayer_42 (v := 1) (by decide) ?_
    refine z_bipush O dX4_soundAsPayer_43 (v := 9) (by decide) ?_
    refine z_iload_n O dX4_soundAsPayer_45 rfl ?_
    refine z_iconst O dX4_soundAsPayer_46 (v := 4) (by decide) ?_
    refine z_idiv O dX4_soundAsPayer_47 (by decide) ?_
    refine z_mmin O zI zm1_9 zm1_10 zm1_11 zm1_12 dX4_soundAsPayer_48 (Nat.le_of_ble_eq_true rfl) (Nat.le_of_ble_eq_true rfl) (Nat.le_of_ble_eq_true rfl) (Nat.le_of_ble_eq_true rfl) ?_
    refine z_mmax O zI zm1_13 zm1_14 zm1_11 zm1_15 dX4_soundAsPayer_51 (Nat.le_of_ble_eq_true rfl) (Nat.le_of_ble_eq_true rfl) (Nat.le_of_ble_eq_true rfl) (Nat.le_of_ble_eq_true rfl) ?_
    refine z_put O (fk := 3) (fun x h => zI x (zu_RX4 x h)) tyX4 tyX4_ok nmX4 rfl (by decide) (zI _ zm0_52) rfl dX4_soundAsPayer_54 rfl rfl (zg_seat hk) (Nat.le_of_ble_eq_true rfl) (zp_seat_noise hk) ?_
    refine z_goto O dX4_soundAsPayer_57 (tgt := 74) (by decide) ?_
    exact z_vret O dX4_soundAsPayer_74 (Nat.le_of_ble_eq_true rfl) (Nat.le_of_ble_eq_true rfl) (⟨rfl, by unfold fPay; rw [if_neg h]; rfl, rfl⟩)

set_option maxRecDepth 100000 in
set_option maxHeartbeats 4000000 in
theorem c_X4_isInOrder {G : zG} {l : Launch} (hl : l.stackTraces = false) {Z : zM} {sb : Nat → Option Nat} {mcn : Nat → Int32} {cp : Nat → Nat} {Y : zM} {th : Int32} {o : Nat → Int64} {od : Nat → UInt64} {ad : Nat → Nat} {k : Nat} (hk : k < 80) (hwn : zh (Z 2 k) = none → ¬ Z 0 k = 104) (hjj : ∀ j, zh (Z 2 k) = some j → j < zN Z 0 ∧ j < 20 ∧ Z 0 k = 104 ∧ sb j = some k) (hn0 : ¬ Z 3 k < 0) (hn9 : ¬ 9 < Z 3 k) : zCt G l yX4_isInOrder (zws yX4_isInOrder cX4_isInOrder 2 (some .boolean)) ({ frames := 0, cells := 0, slots := 0, locals := 0 }) [.ref (ad (100 + k))] (zent Z sb mcn cp G.2.2.2.1 Y th o od ad) ad (fun r w1 ad1 => some (.int 1) = r ∧ zent Z sb mcn cp G.2.2.2.1 Y th o od ad = w1 ∧ ad = ad1) (zNoX) := by
  refine z_body hl (by decide +kernel) (Nat.le_of_ble_eq_true rfl) (fun X O => ?_)
  cases hz : zh (Z 2 k) with
  | none =>
    refine z_aload_n O dX4_isInOrder_0 rfl ?_
    refine z_get O (fk := 2) (v := .null) (fun x h => zI x (zu_RX4 x h)) rfl (by decide) (zI _ zm2_51) dX4_isInOrder_1 (zg_seat hk) (by simp only [sSeat, hz]; rfl) ?_
    refine z_ifnonnullN O dX4_isInOrder_4 ?_
    refine z_aload_n O dX4_isInOrder_7 rfl ?_
    refine z_get O (fk := 0) (fun x h => zI x (zu_RX4 x h)) rfl (by decide) (zI _ zm2_50) dX4_isInOrder_8 (zg_seat hk) rfl ?_
    refine z_bipush O dX4_isInOrder_11 (v := 104) (by decide) ?_
    refine z_icmp_eq O dX4_isInOrder_13 (tgt := 20) (by decide) (fun g => absurd g (hwn hz)) (fun _ => ?_)
    refine z_iconst O dX4_isInOrder_16 (v := 1) (by decide) ?_
    refine z_goto O dX4_isInOrder_17 (tgt := 49) (by decide) ?_
    refine z_istore_n O dX4_isInOrder_49 (by decide) ?_
    refine z_iload_n O dX4_isInOrder_50 rfl ?_
    refine z_if_eq O dX4_isInOrder_51 (tgt := 74) (by decide) (fun g => absurd g (by decide)) (fun _ => ?_)
    refine z_aload_n O dX4_isInOrder_54 rfl ?_
    refine z_get O (fk := 3) (fun x h => zI x (zu_RX4 x h)) rfl (by decide) (zI _ zm0_52) dX4_isInOrder_55 (zg_seat hk) rfl ?_
    refine z_if_lt O dX4_isInOrder_58 (tgt := 74) (by decide) (fun g => absurd g hn0) (fun _ => ?_)
    refine z_aload_n O dX4_isInOrder_61 rfl ?_
    refine z_get O (fk := 3) (fun x h => zI x (zu_RX4 x h)) rfl (by decide) (zI _ zm0_52) dX4_isInOrder_62 (zg_seat hk) rfl ?_
    refine z_bipush O dX4_isInOrder_65 (v := 9) (by decide) ?_
    refine z_icmp_gt O dX4_isInOrder_67 (tgt := 74) (by decide) (fun g => absurd g hn9) (fun _ => ?_)
    refine z_iconst O dX4_isInOrder_70 (v := 1) (by decide) ?_
    refine z_goto O dX4_isInOrder_71 (tgt := 75) (by decide) ?_
    exact z_zret O rfl rfl dX4_isInOrder_75 (Nat.le_of_ble_eq_true rfl) (Nat.le_of_ble_eq_true rfl) (⟨rfl, rfl, rfl⟩)
  | some j =>
    obtain ⟨hj, hj2, hs1, hs2⟩ := hjj j hz
    refine z_aload_n O dX4_isInOrder_0 rfl ?_
    refine z_get O (fk := 2) (v := .ref (ad (200 + j))) (fun x h => zI x (zu_RX4 x h)) rfl (by decide) (zI _ zm2_51) dX4_isInOrder_1 (zg_seat hk) (by simp only [sSeat, hz]; rfl) ?_
    refine z_ifnonnull O dX4_isInOrder_4 (tgt := 24) (by decide) ?_
    refine z_aload_n O dX4_isInOrder_24 rfl ?_
    refine z_get O (fk := 0) (fun x h => zI x (zu_RX4 x h)) rfl (by decide) (zI _ zm2_50) dX4_isInOrder_25 (zg_seat hk) rfl ?_
    refine z_bipush O dX4_isInOrder_28 (v := 104) (by decide) ?_
    refine z_icmp_ne O dX4_isInOrder_30 (tgt := 48) (by decide) (fun g => absurd hs1 g) (fun _ => ?_)
    refine z_aload_n O dX4_isInOrder_33 rfl ?_
    refine z_get O (fk := 2) (v := .ref (ad (200 + j))) (fun x h => zI x (zu_RX4 x h)) rfl (by decide) (zI _ zm2_51) dX4_isInOrder_34 (zg_seat hk) (by simp only [sSeat, hz]; rfl) ?_
    refine z_get O (fk := 5) (v := va_rf (some (ad (100 + k)))) (fun x h => zI x (zu_RX2 x h)) rfl (by decide) (zI _ zm2_59) dX4_isInOrder_37 (zg_hand hj hj2) (by simp only [sHand, hs2]; rfl) ?_
    refine z_aload_n O dX4_isInOrder_40 rfl ?_
    refine z_acmp_ne O (rx := some (ad (100 + k))) (ry := some (ad (100 + k))) dX4_isInOrder_41 (tgt := 48) (by decide) (fun g => absurd rfl g) (fun _ => ?_)
    refine z_iconst O dX4_isInOrder_44 (v := 1) (by decide) ?_
    refine z_goto O dX4_isInOrder_45 (tgt := 49) (by decide) ?_
    refine z_istore_n O dX4_isInOrder_49 (by decide) ?_
    refine z_iload_n O dX4_isInOrder_50 rfl ?_
    refine z_if_eq O dX4_isInOrder_51 (tgt := 74) (by decide) (fun g => absurd g (by decide)) (fun _ => ?_)
    refine z_aload_n O dX4_isInOrder_54 rfl ?_
    refine z_get O (fk := 3) (fun x h => zI x (zu_RX4 x h)) rfl (by decide) (zI _ zm0_52) dX4_isInOrder_55 (zg_seat hk) rfl ?_
    refine z_if_lt O dX4_isInOrder_58 (tgt := 74) (by decide) (fun g => absurd g hn0) (fun _ => ?_)
    refine z_aload_n O dX4_isInOrder_61 rfl ?_
    refine z_get O (fk := 3) (fun x h => zI x (zu_RX4 x h)) rfl (by decide) (zI _ zm0_52) dX4_isInOrder_62 (zg_seat hk) rfl ?_
    refine z_bipush O dX4_isInOrder_65 (v := 9) (by decide) ?_
    refine z_icmp_gt O dX4_isInOrder_67 (tgt := 74) (by decide) (fun g => absurd g hn9) (fun _ => ?_)
    refine z_iconst O dX4_isInOrder_70 (v := 1) (by decide) ?_
    refine z_goto O dX4_isInOrder_71 (tgt := 75) (by decide) ?_
    exact z_zret O rfl rfl dX4_isInOrder_75 (Nat.le_of_ble_eq_true rfl) (Nat.le_of_ble_eq_true rfl) (⟨rfl, rfl, rfl⟩)
