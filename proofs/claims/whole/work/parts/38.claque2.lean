def fAt (x y : Int32) : Nat := x.toNatClampNeg * 10 + y.toNatClampNeg
theorem fPl_at {Z : zM} {x y : Int32} {k : Nat} (h : fPl Z x y = some k) : k = fAt x y := by
  unfold fPl at h
  split at h
  · exact (Option.some.inj h).symm
  · cases h
def kHouse (x y : Int32) : Nat := if ¬ fR x 1 8 then 1 else if ¬ fR y 1 10 then 1 else 0
def kSeat (Z : zM) (x y : Int32) : Nat := if fPl Z x y = none then 1 else 0
def kPayer (Z : zM) (x y t : Int32) : Nat := if fPl Z x y = none then 1 else if ¬ fR t 1 9 then 2 else 0
def kMove (Z : zM) (h x y : Int32) : Nat := if ¬ fI h (Z 25 0) then 1 else if fPl Z x y = none then 1 else if Z 2 (fAt x y) = h then 2 else 0
def kHand (Z : zM) (h : Int32) : Nat := if ¬ fI h (Z 25 0) then 1 else 0
def kSing (Z : zM) (s : Int32) : Nat := if ¬ fI s (Z 26 0) then 1 else 0
def kAddHand (Z : zM) (c s r p : Int32) : Nat := if ¬ (c = 97 ∨ fKd c) then 1 else if ¬ fR s 1 9 then 1 else if ¬ fR r 0 3 then 1 else if ¬ fR p 0 99 then 1 else if 12 ≤ Z 25 0 then 2 else 0
def kAddSing (Z : zM) (a b : Int32) : Nat := if ¬ fR a 0 999 then 1 else if ¬ fR b 0 99 then 1 else if 6 ≤ Z 26 0 then 2 else 0
def kAddCue (Z : zM) (s c t f n : Int32) : Nat := if ¬ fI s (Z 26 0) then 1 else if ¬ fKd c then 2 else if ¬ fR t 0 299 then 2 else if ¬ fR f 1 3 then 2 else if ¬ fR n 1 30 then 2 else if t < Z 29 0 then 3 else if 12 ≤ Z 27 0 then 4 else 0
def kLevel (x : Int32) : Nat := if ¬ fR x 1 999 then 1 else 0
def kRun (Z : zM) (x : Int32) : Nat := if ¬ fR x 1 100 then 1 else if Z 23 0 = 0 then 2 else 0
def kTired (Z : zM) (x y : Int32) : Nat := if fPl Z x y = none then 1 else if Z 0 (fAt x y) = 112 then 0 else 2
def kEnd (Z : zM) : Nat := if Z 23 0 = 0 then 1 else 0
def kPay (Z : zM) (s m : Int32) : Nat := if ¬ fI s (Z 26 0) then 1 else if ¬ fR m 1 99999 then 2 else if Z 17 s.toNatClampNeg ≤ 0 then 3 else 0
def kShare (Z : zM) : Nat := if Z 34 0 ≤ 0 then 1 else 0
def kCost (Z : zM) (c : Int32) : Nat := if ¬ fR c 1 20 then 1 else if fBest Z c = 0 then 2 else 0
def kPlanned (Z : zM) (c h : Int32) : Nat := if ¬ fR c 1 20 then 1 else if ¬ fI h (Z 25 0) then 2 else if fBest Z c = 0 then 3 else 0
def kJoin (Z : zM) : Nat := if fSeated Z 112 = 0 then 1 else 0
def kMean (Z : zM) : Nat := if Z 23 0 * Z 24 0 = 0 then 1 else 0
theorem fI_in {Z : zM} {cp : Nat → Nat} {i j : Nat} (hL : zLst Z cp i) (hj : j < zN Z i) : fI (nI j) (Z (25 + i) 0) := by
  have := hL.2.2.2
  refine ⟨nI_pos' (by omega), ?_⟩
  rw [hL.1]
  exact (nI_ltI (by omega) (by omega)).mpr hj
set_option maxRecDepth 100000 in
set_option maxHeartbeats 4000000 in
theorem c_X7_seatAt {G : zG} {l : Launch} (hl : l.stackTraces = false) {Z : zM} {sb : Nat → Option Nat} {mcn : Nat → Int32} {cp : Nat → Nat} {Y : zM} {th : Int32} {o : Nat → Int64} {od : Nat → UInt64} {ad : Nat → Nat} (hh : zHouse Z) {x y : Int32} (hc : zChr (Z 0 (fAt x y))) : zCt G l yX7_seatAt (zws yX7_seatAt cX7_seatAt 3 (some .char)) ({ frames := 7, cells := 1, slots := 6, locals := 105 }) [.ref (ad 0), .int x, .int y] (zent Z sb mcn cp G.2.2.2.1 Y th o od ad) ad (fun r w1 ad1 => kSeat Z x y = 0 ∧ some (.int (Z 0 (fAt x y))) = r ∧ zent Z sb mcn cp G.2.2.2.1 Y th o od ad = w1 ∧ ad = ad1) (zPX ["java/lang/IndexOutOfBoundsException"] (kSeat Z x y) (zent Z sb mcn cp G.2.2.2.1 Y th o od ad) ad) := by
  refine z_body hl (by decide +kernel) (Nat.le_of_ble_eq_true rfl) (fun X O => ?_)
  refine z_aload_n O dX7_seatAt_0 rfl ?_
  refine z_iload_n O dX7_seatAt_1 rfl ?_
  refine z_iload_n O dX7_seatAt_2 rfl ?_
  refine z_callV O (c_X7_existingSeat hl hh (x := x) (y := y)) zI zm4_34 zm4_35 zm4_36 zm4_21 zm4_29 ⟨rfl, by decide +kernel, by decide +kernel, (show _ = some 2 by decide +kernel)⟩ rfl (zg_x) ⟨Nat.le_of_ble_eq_true rfl, Nat.le_of_ble_eq_true rfl⟩ ⟨Nat.le_of_ble_eq_true rfl, Nat.le_of_ble_eq_true rfl⟩ dX7_seatAt_3 rfl (Nat.le_of_ble_eq_true rfl) (fun E w' ad' h => by obtain ⟨rfl, hc, rfl, rfl⟩ := h; exact ⟨⟨⟨rfl, rfl⟩, by unfold kSeat; rw [if_pos hc]; exact ⟨by decide, rfl⟩⟩, Nat.le_of_ble_eq_true rfl, Nat.le_of_ble_eq_true rfl⟩) (fun r w1 ad1 hp => ?_)
  obtain ⟨k, hz, hk, rfl, rfl, rfl⟩ := hp
  obtain rfl := fPl_at hz
  have hz1 : ¬ fPl Z x y = none := fun q => by rw [hz] at q; cases q
  refine z_get O (fk := 0) (fun x h => zI x (zu_RX4 x h)) rfl (by decide) (zI _ zm4_53) dX7_seatAt_6 (zg_seat hk) rfl ?_
  exact z_zret O rfl hc.1 dX7_seatAt_9 (Nat.le_of_ble_eq_true rfl) (Nat.le_of_ble_eq_true rfl) (⟨by unfold kSeat; rw [if_neg hz1], rfl, rfl, rfl⟩)

set_option maxRecDepth 100000 in
set_option maxHeartbeats 4000000 in
theorem c_X7_noiseAt {G : zG} {l : Launch} (hl : l.stackTraces = false) {Z : zM} {sb : Nat → Option Nat} {mcn : Nat → Int32} {cp : Nat → Nat} {Y : zM} {th : Int32} {o : Nat → Int64} {od : Nat → UInt64} {ad : Nat → Nat} (hh : zHouse Z) {x y : Int32} : zCt G l yX7_noiseAt (zws yX7_noiseAt cX7_noiseAt 3 (some .int)) ({ frames := 7, cells := 1, slots := 6, locals := 105 }) [.ref (ad 0), .int x, .int y] (zent Z sb mcn cp G.2.2.2.1 Y th o od ad) ad (fun r w1 ad1 => kSeat Z x y = 0 ∧ some (.int (Z 3 (fAt x y))) = r ∧ zent Z sb mcn cp G.2.2.2.1 Y th o od ad = w1 ∧ ad = ad1) (zPX ["java/lang/IndexOutOfBoundsException"] (kSeat Z x y) (zent Z sb mcn cp G.2.2.2.1 Y th o od ad) ad) := by
  refine z_body hl (by decide +kernel) (Nat.le_of_ble_eq_true rfl) (fun X O => ?_)
  refine z_aload_n O dX7_noiseAt_0 rfl ?_
  refine z_iload_n O dX7_noiseAt_1 rfl ?_
  refine z_iload_n O dX7_noiseAt_2 rfl ?_
  refine z_callV O (c_X7_existingSeat hl hh (x := x) (y := y)) zI zm4_34 zm4_35 zm4_36 zm4_21 zm4_29 ⟨rfl, by decide +kernel, by decide +kernel, (show _ = some 2 by decide +kernel)⟩ rfl (zg_x) ⟨Nat.le_of_ble_eq_true rfl, Nat.le_of_ble_eq_true rfl⟩ ⟨Nat.le_of_ble_eq_true rfl, Nat.le_of_ble_eq_true rfl⟩ dX7_noiseAt_3 rfl (Nat.le_of_ble_eq_true rfl) (fun E w' ad' h => by obtain ⟨rfl, hc, rfl, rfl⟩ := h; exact ⟨⟨⟨rfl, rfl⟩, by unfold kSeat; rw [if_pos hc]; exact ⟨by decide, rfl⟩⟩, Nat.le_of_ble_eq_true rfl, Nat.le_of_ble_eq_true rfl⟩) (fun r w1 ad1 hp => ?_)
  obtain ⟨k, hz, hk, rfl, rfl, rfl⟩ := hp
  obtain rfl := fPl_at hz
  have hz1 : ¬ fPl Z x y = none := fun q => by rw [hz] at q; cases q
  refine z_get O (fk := 3) (fun x h => zI x (zu_RX4 x h)) rfl (by decide) (zI _ zm5_69) dX7_noiseAt_6 (zg_seat hk) rfl ?_
  exact z_iret O dX7_noiseAt_9 (Nat.le_of_ble_eq_true rfl) (Nat.le_of_ble_eq_true rfl) (⟨by unfold kSeat; rw [if_neg hz1], rfl, rfl, rfl⟩)

set_option maxRecDepth 100000 in
set_option maxHeartbeats 4000000 in
theorem c_X7_tiredness {G : zG} {l : Launch} (hl : l.stackTraces = false) {Z : zM} {sb : Nat → Option Nat} {mcn : Nat → Int32} {cp : Nat → Nat} {Y : zM} {th : Int32} {o : Nat → Int64} {od : Nat → UInt64} {ad : Nat → Nat} (hh : zHouse Z) {x y : Int32} : zCt G l yX7_tiredness (zws yX7_tiredness cX7_tiredness 4 (some .int)) ({ frames := 7, cells := 2, slots := 12, locals := 105 }) [.ref (ad 0), .int x, .int y] (zent Z sb mcn cp G.2.2.2.1 Y th o od ad) ad (fun r w1 ad1 => kTired Z x y = 0 ∧ some (.int (Z 4 (fAt x y) / 10)) = r ∧ zent Z sb mcn cp G.2.2.2.1 Y th o od ad = w1 ∧ ad = ad1) (zPX ["java/lang/IndexOutOfBoundsException", "java/lang/UnsupportedOperationException"] (kTired Z x y) (zent Z sb mcn cp G.2.2.2.1 Y th o od ad) ad) := by
  refine z_body hl (by decide +kernel) (Nat.le_of_ble_eq_true rfl) (fun X O => ?_)
  refine z_aload_n O dX7_tiredness_0 rfl ?_
  refine z_iload_n O dX7_tiredness_1 rfl ?_
  refine z_iload_n O dX7_tiredness_2 rfl ?_
  refine z_callV O (c_X7_existingSeat hl hh (x := x) (y := y)) zI zm4_34 zm4_35 zm4_36 zm4_21 zm4_29 ⟨rfl, by decide +kernel, by decide +kernel, (show _ = some 2 by decide +kernel)⟩ rfl (zg_x) ⟨Nat.le_of_ble_eq_true rfl, Nat.le_of_ble_eq_true rfl⟩ ⟨Nat.le_of_ble_eq_true rfl, Nat.le_of_ble_eq_true rfl⟩ dX7_tiredness_3 rfl (Nat.le_of_ble_eq_true rfl) (fun E w' ad' h => by obtain ⟨rfl, hc, rfl, rfl⟩ := h; exact ⟨⟨⟨rfl, rfl⟩, by unfold kTired; rw [if_pos hc]; exact ⟨by decide, rfl⟩⟩, Nat.le_of_ble_eq_true rfl, Nat.le_of_ble_eq_true rfl⟩) (fun r w1 ad1 hp => ?_)
  obtain ⟨k, hz, hk, rfl, rfl, rfl⟩ := hp
  obtain rfl := fPl_at hz
  have hz1 : ¬ fPl Z x y = none := fun q => by rw [hz] at q; cases q
  refine z_astore_n O dX7_tiredness_6 (by decide) ?_
  refine z_aload_n O dX7_tiredness_7 rfl ?_
  refine z_get O (fk := 0) (fun x h => zI x (zu_RX4 x h)) rfl (by decide) (zI _ zm4_53) dX7_tiredness_8 (zg_seat hk) rfl ?_
  refine z_bipush O dX7_tiredness_11 (v := 112) (by decide) ?_
  refine z_icmp_eq O dX7_tiredness_13 (tgt := 26) (by decide) (fun h => ?_) (fun h => ?_)
  · refine z_aload_n O dX7_tiredness_26 rfl ?_
    refine z_callV O (c_X4_tirednessNow hl hk) zI zm6_8 zm1_17 zm1_18 zm0_61 zm1_4 ⟨rfl, by decide +kernel, by decide +kernel, (show _ = some 0 by decide +kernel)⟩ rfl (zg_seat hk) ⟨Nat.le_of_ble_eq_true rfl, Nat.le_of_ble_eq_true rfl⟩ ⟨Nat.le_of_ble_eq_true rfl, Nat.le_of_ble_eq_true rfl⟩ dX7_tiredness_27 rfl (Nat.le_of_ble_eq_true rfl) (fun _ _ _ h => h.elim) (fun r w1 ad1 hp => ?_)
    obtain ⟨rfl, rfl, rfl⟩ := hp
    exact z_iret O dX7_tiredness_30 (Nat.le_of_ble_eq_true rfl) (Nat.le_of_ble_eq_true rfl) (⟨by unfold kTired; rw [if_neg hz1, if_pos h], rfl, rfl, rfl⟩)
  · exact z_throw O (text := "there is no payer") zI (by decide +kernel) (by decide +kernel) zm4_43 zm4_44 zt_82 zbad_82 zok_82 (by decide +kernel) dX7_tiredness_16 dX7_tiredness_19 dX7_tiredness_20 dX7_tiredness_22 dX7_tiredness_25 (Nat.le_of_ble_eq_true rfl) (Nat.le_of_ble_eq_true rfl) (Nat.le_of_ble_eq_true rfl) (Nat.le_of_ble_eq_true rfl) (Nat.le_of_ble_eq_true rfl) (Nat.le_of_ble_eq_true rfl) (⟨⟨rfl, rfl⟩, by unfold kTired; rw [if_neg hz1, if_neg h]; exact ⟨by decide, rfl⟩⟩)

set_option maxRecDepth 100000 in
set_option maxHeartbeats 4000000 in
theorem c_X7_moneyOf {G : zG} {l : Launch} (hl : l.stackTraces = false) {Z : zM} {sb : Nat → Option Nat} {mcn : Nat → Int32} {cp : Nat → Nat} {Y : zM} {th : Int32} {o : Nat → Int64} {od : Nat → UInt64} {ad : Nat → Nat} (hL : zLst Z cp 0) {x : Int32} : zCt G l yX7_moneyOf (zws yX7_moneyOf cX7_moneyOf 2 (some .int)) ({ frames := 7, cells := 1, slots := 6, locals := 103 }) [.ref (ad 0), .int x] (zent Z sb mcn cp G.2.2.2.1 Y th o od ad) ad (fun r w1 ad1 => kHand Z x = 0 ∧ some (.int (Z 14 x.toNatClampNeg)) = r ∧ zent Z sb mcn cp G.2.2.2.1 Y th o od ad = w1 ∧ ad = ad1) (zPX ["java/lang/IndexOutOfBoundsException"] (kHand Z x) (zent Z sb mcn cp G.2.2.2.1 Y th o od ad) ad) := by
  refine z_body hl (by decide +kernel) (Nat.le_of_ble_eq_true rfl) (fun X O => ?_)
  refine z_aload_n O dX7_moneyOf_0 rfl ?_
  refine z_iload_n O dX7_moneyOf_1 rfl ?_
  refine z_callV O (c_X7_existingHand hl hL (x := x)) zI zm4_47 zm4_48 zm4_49 zm4_21 zm4_42 ⟨rfl, by decide +kernel, by decide +kernel, (show _ = some 1 by decide +kernel)⟩ rfl (zg_x) ⟨Nat.le_of_ble_eq_true rfl, Nat.le_of_ble_eq_true rfl⟩ ⟨Nat.le_of_ble_eq_true rfl, Nat.le_of_ble_eq_true rfl⟩ dX7_moneyOf_2 rfl (Nat.le_of_ble_eq_true rfl) (fun E w' ad' h => by obtain ⟨rfl, hc, rfl, rfl⟩ := h; exact ⟨⟨⟨rfl, rfl⟩, by unfold kHand; rw [if_pos hc]; exact ⟨by decide, rfl⟩⟩, Nat.le_of_ble_eq_true rfl, Nat.le_of_ble_eq_true rfl⟩) (fun r w1 ad1 hp => ?_)
  obtain ⟨j, rfl, hj, hj20, rfl, rfl, rfl⟩ := hp
  refine z_get O (fk := 4) (fun x h => zI x (zu_RX2 x h)) rfl (by decide) (zI _ zm6_40) dX7_moneyOf_5 (zg_hand hj hj20) rfl ?_
  have hcl : (nI j).toNatClampNeg = j := nI_clamp (by omega)
  exact z_iret O dX7_moneyOf_8 (Nat.le_of_ble_eq_true rfl) (Nat.le_of_ble_eq_true rfl) (⟨by unfold kHand; rw [if_neg (fun q => q (fI_in hL hj))], by rw [hcl], rfl, rfl⟩)

set_option maxRecDepth 100000 in
set_option maxHeartbeats 4000000 in
theorem c_X7_callsOf {G : zG} {l : Launch} (hl : l.stackTraces = false) {Z : zM} {sb : Nat → Option Nat} {mcn : Nat → Int32} {cp : Nat → Nat} {Y : zM} {th : Int32} {o : Nat → Int64} {od : Nat → UInt64} {ad : Nat → Nat} (hL : zLst Z cp 1) {x : Int32} : zCt G l yX7_callsOf (zws yX7_callsOf cX7_callsOf 2 (some .int)) ({ frames := 7, cells := 1, slots := 6, locals := 103 }) [.ref (ad 0), .int x] (zent Z sb mcn cp G.2.2.2.1 Y th o od ad) ad (fun r w1 ad1 => kSing Z x = 0 ∧ some (.int (Z 18 x.toNatClampNeg)) = r ∧ zent Z sb mcn cp G.2.2.2.1 Y th o od ad = w1 ∧ ad = ad1) (zPX ["java/lang/IndexOutOfBoundsException"] (kSing Z x) (zent Z sb mcn cp G.2.2.2.1 Y th o od ad) ad) := by
  refine z_body hl (by decide +kernel) (Nat.le_of_ble_eq_true rfl) (fun X O => ?_)
  refine z_aload_n O dX7_callsOf_0 rfl ?_
  refine z_iload_n O dX7_callsOf_1 rfl ?_
  refine z_callV O (c_X7_existingSinger hl hL (x := x)) zI zm5_51 zm5_52 zm5_53 zm4_21 zm5_46 ⟨rfl, by decide +kernel, by decide +kernel, (show _ = some 1 by decide +kernel)⟩ rfl (zg_x) ⟨Nat.le_of_ble_eq_true rfl, Nat.le_of_ble_eq_true rfl⟩ ⟨Nat.le_of_ble_eq_true rfl, Nat.le_of_ble_eq_true rfl⟩ dX7_callsOf_2 rfl (Nat.le_of_ble_eq_true rfl) (fun E w' ad' h => by obtain ⟨rfl, hc, rfl, rfl⟩ := h; exact ⟨⟨⟨rfl, rfl⟩, by unfold kSing; rw [if_pos hc]; exact ⟨by decide, rfl⟩⟩, Nat.le_of_ble_eq_true rfl, Nat.le_of_ble_eq_true rfl⟩) (fun r w1 ad1 hp => ?_)
  obtain ⟨j, rfl, hj, hj20, rfl, rfl, rfl⟩ := hp
  refine z_get O (fk := 2) (fun x h => zI x (zu_RX5 x h)) rfl (by decide) (zI _ zm4_12) dX7_callsOf_5 (zg_singer hj hj20) rfl ?_
  have hcl : (nI j).toNatClampNeg = j := nI_clamp (by omega)
  exact z_iret O dX7_callsOf_8 (Nat.le_of_ble_eq_true rfl) (Nat.le_of_ble_eq_true rfl) (⟨by unfold kSing; rw [if_neg (fun q => q (fI_in hL hj))], by rw [hcl], rfl, rfl⟩)

set_option maxRecDepth 100000 in
set_option maxHeartbeats 4000000 in
theorem c_X7_owed {G : zG} {l : Launch} (hl : l.stackTraces = false) {Z : zM} {sb : Nat → Option Nat} {mcn : Nat → Int32} {cp : Nat → Nat} {Y : zM} {th : Int32} {o : Nat → Int64} {od : Nat → UInt64} {ad : Nat → Nat} (hL : zLst Z cp 1) {x : Int32} : zCt G l yX7_owed (zws yX7_owed cX7_owed 2 (some .int)) ({ frames := 7, cells := 1, slots := 6, locals := 103 }) [.ref (ad 0), .int x] (zent Z sb mcn cp G.2.2.2.1 Y th o od ad) ad (fun r w1 ad1 => kSing Z x = 0 ∧ some (.int (Z 17 x.toNatClampNeg)) = r ∧ zent Z sb mcn cp G.2.2.2.1 Y th o od ad = w1 ∧ ad = ad1) (zPX ["java/lang/IndexOutOfBoundsException"] (kSing Z x) (zent Z sb mcn cp G.2.2.2.1 Y th o od ad) ad) := by
  refine z_body hl (by decide +kernel) (Nat.le_of_ble_eq_true rfl) (fun X O => ?_)
  refine z_aload_n O dX7_owed_0 rfl ?_
  refine z_iload_n O dX7_owed_1 rfl ?_
  refine z_callV O (c_X7_existingSinger hl hL (x := x)) zI zm5_51 zm5_52 zm5_53 zm4_21 zm5_46 ⟨rfl, by decide +kernel, by decide +kernel, (show _ = some 1 by decide +kernel)⟩ rfl (zg_x) ⟨Nat.le_of_ble_eq_true rfl, Nat.le_of_ble_eq_true rfl⟩ ⟨Nat.le_of_ble_eq_true rfl, Nat.le_of_ble_eq_true rfl⟩ dX7_owed_2 rfl (Nat.le_of_ble_eq_true rfl) (fun E w' ad' h => by obtain ⟨rfl, hc, rfl, rfl⟩ := h; exact ⟨⟨⟨rfl, rfl⟩, by unfold kSing; rw [if_pos hc]; exact ⟨by decide, rfl⟩⟩, Nat.le_of_ble_eq_true rfl, Nat.le_of_ble_eq_true rfl⟩) (fun r w1 ad1 hp => ?_)
  obtain ⟨j, rfl, hj, hj20, rfl, rfl, rfl⟩ := hp
  refine z_get O (fk := 3) (fun x h => zI x (zu_RX5 x h)) rfl (by decide) (zI _ zm6_19) dX7_owed_5 (zg_singer hj hj20) rfl ?_
  have hcl : (nI j).toNatClampNeg = j := nI_clamp (by omega)
  exact z_iret O dX7_owed_8 (Nat.le_of_ble_eq_true rfl) (Nat.le_of_ble_eq_true rfl) (⟨by unfold kSing; rw [if_neg (fun q => q (fI_in hL hj))], by rw [hcl], rfl, rfl⟩)

set_option maxRecDepth 100000 in
set_option maxHeartbeats 4000000 in
theorem c_X7_isSeated {G : zG} {l : Launch} (hl : l.stackTraces = false) {Z : zM} {sb : Nat → Option Nat} {mcn : Nat → Int32} {cp : Nat → Nat} {Y : zM} {th : Int32} {o : Nat → Int64} {od : Nat → UInt64} {ad : Nat → Nat} (hL : zLst Z cp 0) {x : Int32} : zCt G l yX7_isSeated (zws yX7_isSeated cX7_isSeated 2 (some .boolean)) ({ frames := 7, cells := 1, slots := 6, locals := 103 }) [.ref (ad 0), .int x] (zent Z sb mcn cp G.2.2.2.1 Y th o od ad) ad (fun r w1 ad1 => kHand Z x = 0 ∧ some (.int (if (sb x.toNatClampNeg).isSome then 1 else 0)) = r ∧ zent Z sb mcn cp G.2.2.2.1 Y th o od ad = w1 ∧ ad = ad1) (zPX ["java/lang/IndexOutOfBoundsException"] (kHand Z x) (zent Z sb mcn cp G.2.2.2.1 Y th o od ad) ad) := by
  refine z_body hl (by decide +kernel) (Nat.le_of_ble_eq_true rfl) (fun X O => ?_)
  refine z_aload_n O dX7_isSeated_0 rfl ?_
  refine z_iload_n O dX7_isSeated_1 rfl ?_
  refine z_callV O (c_X7_existingHand hl hL (x := x)) zI zm4_47 zm4_48 zm4_49 zm4_21 zm4_42 ⟨rfl, by decide +kernel, by decide +kernel, (show _ = some 1 by decide +kernel)⟩ rfl (zg_x) ⟨Nat.le_of_ble_eq_true rfl, Nat.le_of_ble_eq_true rfl⟩ ⟨Nat.le_of_ble_eq_true rfl, Nat.le_of_ble_eq_true rfl⟩ dX7_isSeated_2 rfl (Nat.le_of_ble_eq_true rfl) (fun E w' ad' h => by obtain ⟨rfl, hc, rfl, rfl⟩ := h; exact ⟨⟨⟨rfl, rfl⟩, by unfold kHand; rw [if_pos hc]; exact ⟨by decide, rfl⟩⟩, Nat.le_of_ble_eq_true rfl, Nat.le_of_ble_eq_true rfl⟩) (fun r w1 ad1 hp => ?_)
  obtain ⟨j, rfl, hj, hj20, rfl, rfl, rfl⟩ := hp
  have hcl : (nI j).toNatClampNeg = j := nI_clamp (by omega)
  cases hz : sb j with
  | none =>
    refine z_get O (fk := 5) (v := .null) (fun x h => zI x (zu_RX2 x h)) rfl (by decide) (zI _ zm4_45) dX7_isSeated_5 (zg_hand hj hj20) (by simp only [sHand, hz]; rfl) ?_
    refine z_ifnullN O dX7_isSeated_8 (tgt := 15) (by decide) ?_
    refine z_iconst O dX7_isSeated_15 (v := 0) (by decide) ?_
    exact z_zret O rfl rfl dX7_isSeated_16 (Nat.le_of_ble_eq_true rfl) (Nat.le_of_ble_eq_true rfl) (⟨by unfold kHand; rw [if_neg (fun q => q (fI_in hL hj))], by rw [hcl, hz]; rfl, rfl, rfl⟩)
  | some k =>
    refine z_get O (fk := 5) (v := .ref (ad (100 + k))) (fun x h => zI x (zu_RX2 x h)) rfl (by decide) (zI _ zm4_45) dX7_isSeated_5 (zg_hand hj hj20) (by simp only [sHand, hz]; rfl) ?_
    refine z_ifnull O dX7_isSeated_8 ?_
    refine z_iconst O dX7_isSeated_11 (v := 1) (by decide) ?_
    refine z_goto O dX7_isSeated_12 (tgt := 16) (by decide) ?_
    exact z_zret O rfl rfl dX7_isSeated_16 (Nat.le_of_ble_eq_true rfl) (Nat.le_of_ble_eq_true rfl) (⟨by unfold kHand; rw [if_neg (fun q => q (fI_in hL hj))], by rw [hcl, hz]; rfl, rfl, rfl⟩)

set_option maxRecDepth 100000 in
set_option maxHeartbeats 4000000 in
theorem c_X7_hisses {G : zG} {l : Launch} (hl : l.stackTraces = false) {Z : zM} {sb : Nat → Option Nat} {mcn : Nat → Int32} {cp : Nat → Nat} {Y : zM} {th : Int32} {o : Nat → Int64} {od : Nat → UInt64} {ad : Nat → Nat} : zCt G l yX7_hisses (zws yX7_hisses cX7_hisses 1 (some .int)) ({ frames := 0, cells := 0, slots := 0, locals := 0 }) [.ref (ad 0)] (zent Z sb mcn cp G.2.2.2.1 Y th o od ad) ad (fun r w1 ad1 => some (.int (Z 32 0)) = r ∧ zent Z sb mcn cp G.2.2.2.1 Y th o od ad = w1 ∧ ad = ad1) (zNoX) := by
  refine z_body hl (by decide +kernel) (Nat.le_of_ble_eq_true rfl) (fun X O => ?_)
  refine z_aload_n O dX7_hisses_0 rfl ?_
  refine z_get O (fk := 3) (fun x h => zI x (zu_RX7 x h)) rfl (by decide) (zI _ zm3_69) dX7_hisses_1 (zg_x) rfl ?_
  refine z_get O (fk := 5) (fun x h => zI x (zu_RX1 x h)) rfl (by decide) (zI _ zm6_7) dX7_hisses_4 (zg_ev) rfl ?_
  exact z_iret O dX7_hisses_7 (Nat.le_of_ble_eq_true rfl) (Nat.le_of_ble_eq_true rfl) (⟨rfl, rfl, rfl⟩)

set_option maxRecDepth 100000 in
set_option maxHeartbeats 4000000 in
theorem c_X7_calls {G : zG} {l : Launch} (hl : l.stackTraces = false) {Z : zM} {sb : Nat → Option Nat} {mcn : Nat → Int32} {cp : Nat → Nat} {Y : zM} {th : Int32} {o : Nat → Int64} {od : Nat → UInt64} {ad : Nat → Nat} : zCt G l yX7_calls (zws yX7_calls cX7_calls 1 (some .int)) ({ frames := 0, cells := 0, slots := 0, locals := 0 }) [.ref (ad 0)] (zent Z sb mcn cp G.2.2.2.1 Y th o od ad) ad (fun r w1 ad1 => some (.int (Z 31 0)) = r ∧ zent Z sb mcn cp G.2.2.2.1 Y th o od ad = w1 ∧ ad = ad1) (zNoX) := by
  refine z_body hl (by decide +kernel) (Nat.le_of_ble_eq_true rfl) (fun X O => ?_)
  refine z_aload_n O dX7_calls_0 rfl ?_
  refine z_get O (fk := 3) (fun x h => zI x (zu_RX7 x h)) rfl (by decide) (zI _ zm3_69) dX7_calls_1 (zg_x) rfl ?_
  refine z_get O (fk := 4) (fun x h => zI x (zu_RX1 x h)) rfl (by decide) (zI _ zm6_12) dX7_calls_4 (zg_ev) rfl ?_
  exact z_iret O dX7_calls_7 (Nat.le_of_ble_eq_true rfl) (Nat.le_of_ble_eq_true rfl) (⟨rfl, rfl, rfl⟩)

set_option maxRecDepth 100000 in
set_option maxHeartbeats 4000000 in
theorem c_X7_suspicions {G : zG} {l : Launch} (hl : l.stackTraces = false) {Z : zM} {sb : Nat → Option Nat} {mcn : Nat → Int32} {cp : Nat → Nat} {Y : zM} {th : Int32} {o : Nat → Int64} {od : Nat → UInt64} {ad : Nat → Nat} : zCt G l yX7_suspicions (zws yX7_suspicions cX7_suspicions 1 (some .int)) ({ frames := 0, cells := 0, slots := 0, locals := 0 }) [.ref (ad 0)] (zent Z sb mcn cp G.2.2.2.1 Y th o od ad) ad (fun r w1 ad1 => some (.int (Z 33 0)) = r ∧ zent Z sb mcn cp G.2.2.2.1 Y th o od ad = w1 ∧ ad = ad1) (zNoX) := by
  refine z_body hl (by decide +kernel) (Nat.le_of_ble_eq_true rfl) (fun X O => ?_)
  refine z_aload_n O dX7_suspicions_0 rfl ?_
  refine z_get O (fk := 3) (fun x h => zI x (zu_RX7 x h)) rfl (by decide) (zI _ zm3_69) dX7_suspicions_1 (zg_x) rfl ?_
  refine z_get O (fk := 6) (fun x h => zI x (zu_RX1 x h)) rfl (by decide) (zI _ zm6_14) dX7_suspicions_4 (zg_ev) rfl ?_
  exact z_iret O dX7_suspicions_7 (Nat.le_of_ble_eq_true rfl) (Nat.le_of_ble_eq_true rfl) (⟨rfl, rfl, rfl⟩)

set_option maxRecDepth 100000 in
set_option maxHeartbeats 4000000 in
theorem c_X7_purse {G : zG} {l : Launch} (hl : l.stackTraces = false) {Z : zM} {sb : Nat → Option Nat} {mcn : Nat → Int32} {cp : Nat → Nat} {Y : zM} {th : Int32} {o : Nat → Int64} {od : Nat → UInt64} {ad : Nat → Nat} : zCt G l yX7_purse (zws yX7_purse cX7_purse 1 (some .int)) ({ frames := 0, cells := 0, slots := 0, locals := 0 }) [.ref (ad 0)] (zent Z sb mcn cp G.2.2.2.1 Y th o od ad) ad (fun r w1 ad1 => some (.int (Z 34 0)) = r ∧ zent Z sb mcn cp G.2.2.2.1 Y th o od ad = w1 ∧ ad = ad1) (zNoX) := by
  refine z_body hl (by decide +kernel) (Nat.le_of_ble_eq_true rfl) (fun X O => ?_)
  refine z_aload_n O dX7_purse_0 rfl ?_
  refine z_get O (fk := 4) (fun x h => zI x (zu_RX7 x h)) rfl (by decide) (zI _ zm4_0) dX7_purse_1 (zg_x) rfl ?_
  exact z_iret O dX7_purse_4 (Nat.le_of_ble_eq_true rfl) (Nat.le_of_ble_eq_true rfl) (⟨rfl, rfl, rfl⟩)

set_option maxRecDepth 100000 in
set_option maxHeartbeats 4000000 in
theorem c_X7_chiefs {G : zG} {l : Launch} (hl : l.stackTraces = false) {Z : zM} {sb : Nat → Option Nat} {mcn : Nat → Int32} {cp : Nat → Nat} {Y : zM} {th : Int32} {o : Nat → Int64} {od : Nat → UInt64} {ad : Nat → Nat} : zCt G l yX7_chiefs (zws yX7_chiefs cX7_chiefs 1 (some .int)) ({ frames := 0, cells := 0, slots := 0, locals := 0 }) [.ref (ad 0)] (zent Z sb mcn cp G.2.2.2.1 Y th o od ad) ad (fun r w1 ad1 => some (.int (Z 35 0)) = r ∧ zent Z sb mcn cp G.2.2.2.1 Y th o od ad = w1 ∧ ad = ad1) (zNoX) := by
  refine z_body hl (by decide +kernel) (Nat.le_of_ble_eq_true rfl) (fun X O => ?_)
  refine z_aload_n O dX7_chiefs_0 rfl ?_
  refine z_get O (fk := 5) (fun x h => zI x (zu_RX7 x h)) rfl (by decide) (zI _ zm4_1) dX7_chiefs_1 (zg_x) rfl ?_
  exact z_iret O dX7_chiefs_4 (Nat.le_of_ble_eq_true rfl) (Nat.le_of_ble_eq_true rfl) (⟨rfl, rfl, rfl⟩)

set_option maxRecDepth 100000 in
set_option maxHeartbeats 4000000 in
theorem c_X7_noise {G : zG} {l : Launch} (hl : l.stackTraces = false) {Z : zM} {sb : Nat → Option Nat} {mcn : Nat → Int32} {cp : Nat → Nat} {Y : zM} {th : Int32} {o : Nat → Int64} {od : Nat → UInt64} {ad : Nat → Nat} : zCt G l yX7_noise (zws yX7_noise cX7_noise 1 (some .int)) ({ frames := 1, cells := 0, slots := 0, locals := 25 }) [.ref (ad 0)] (zent Z sb mcn cp G.2.2.2.1 Y th o od ad) ad (fun r w1 ad1 => some (.int (fSum (Z 3) 80)) = r ∧ zent Z sb mcn cp G.2.2.2.1 Y th o od ad = w1 ∧ ad = ad1) (zNoX) := by
  refine z_body hl (by decide +kernel) (Nat.le_of_ble_eq_true rfl) (fun X O => ?_)
  refine z_aload_n O dX7_noise_0 rfl ?_
  refine z_get O (fk := 0) (fun x h => zI x (zu_RX7 x h)) rfl (by decide) (zI _ zm3_61) dX7_noise_1 (zg_x) rfl ?_
  refine z_callV O (c_X3_noiseSum hl) zI zm6_1 zm2_27 zm2_28 zm1_0 zm2_4 ⟨rfl, by decide +kernel, by decide +kernel, (show _ = some 0 by decide +kernel)⟩ rfl (zg_house) ⟨Nat.le_of_ble_eq_true rfl, Nat.le_of_ble_eq_true rfl⟩ ⟨Nat.le_of_ble_eq_true rfl, Nat.le_of_ble_eq_true rfl⟩ dX7_noise_4 rfl (Nat.le_of_ble_eq_true rfl) (fun _ _ _ h => h.elim) (fun r w1 ad1 hp => ?_)
  obtain ⟨rfl, rfl, rfl⟩ := hp
  exact z_iret O dX7_noise_7 (Nat.le_of_ble_eq_true rfl) (Nat.le_of_ble_eq_true rfl) (⟨rfl, rfl, rfl⟩)

set_option maxRecDepth 100000 in
set_option maxHeartbeats 4000000 in
theorem c_X7_joining {G : zG} {l : Launch} (hl : l.stackTraces = false) {Z : zM} {sb : Nat → Option Nat} {mcn : Nat → Int32} {cp : Nat → Nat} {Y : zM} {th : Int32} {o : Nat → Int64} {od : Nat → UInt64} {ad : Nat → Nat} : zCt G l yX7_joining (zws yX7_joining cX7_joining 1 (some .int)) ({ frames := 1, cells := 0, slots := 0, locals := 25 }) [.ref (ad 0)] (zent Z sb mcn cp G.2.2.2.1 Y th o od ad) ad (fun r w1 ad1 => some (.int (fJoined Z)) = r ∧ zent Z sb mcn cp G.2.2.2.1 Y th o od ad = w1 ∧ ad = ad1) (zNoX) := by
  refine z_body hl (by decide +kernel) (Nat.le_of_ble_eq_true rfl) (fun X O => ?_)
  refine z_aload_n O dX7_joining_0 rfl ?_
  refine z_get O (fk := 0) (fun x h => zI x (zu_RX7 x h)) rfl (by decide) (zI _ zm3_61) dX7_joining_1 (zg_x) rfl ?_
  refine z_callV O (c_X3_countJoined hl) zI zm6_3 zm6_4 zm6_5 zm1_0 zm2_69 ⟨rfl, by decide +kernel, by decide +kernel, (show _ = some 0 by decide +kernel)⟩ rfl (zg_house) ⟨Nat.le_of_ble_eq_true rfl, Nat.le_of_ble_eq_true rfl⟩ ⟨Nat.le_of_ble_eq_true rfl, Nat.le_of_ble_eq_true rfl⟩ dX7_joining_4 rfl (Nat.le_of_ble_eq_true rfl) (fun _ _ _ h => h.elim) (fun r w1 ad1 hp => ?_)
  obtain ⟨rfl, rfl, rfl⟩ := hp
  exact z_iret O dX7_joining_7 (Nat.le_of_ble_eq_true rfl) (Nat.le_of_ble_eq_true rfl) (⟨rfl, rfl, rfl⟩)

set_option maxRecDepth 100000 in
set_option maxHeartbeats 4000000 in
theorem c_X7_setLevel {G : zG} {l : Launch} (hl : l.stackTraces = false) {Z : zM} {sb : Nat → Option Nat} {mcn : Nat → Int32} {cp : Nat → Nat} {Y : zM} {th : Int32} {o : Nat → Int64} {od : Nat → UInt64} {ad : Nat → Nat} {x : Int32} : zCt G l yX7_setLevel (zws yX7_setLevel cX7_setLevel 3 (some .int)) ({ frames := 7, cells := 1, slots := 6, locals := 104 }) [.ref (ad 0), .int x] (zent Z sb mcn cp G.2.2.2.1 Y th o od ad) ad (fun r w1 ad1 => kLevel x = 0 ∧ some (.int (Z 28 0)) = r ∧ zent (zu Z 28 0 x) sb mcn cp G.2.2.2.1 Y th o od ad = w1 ∧ ad = ad1) (zPX ["java/lang/IllegalArgumentException"] (kLevel x) (zent Z sb mcn cp G.2.2.2.1 Y th o od ad) ad) := by
  refine z_body hl (by decide +kernel) (Nat.le_of_ble_eq_true rfl) (fun X O => ?_)
  refine z_iload_n O dX7_setLevel_0 rfl ?_
  refine z_iconst O dX7_setLevel_1 (v := 1) (by decide) ?_
  refine z_sipush O dX7_setLevel_2 (v := 999) (by decide) ?_
  refine z_callS O (c_X7_checkRange hl (x := x) (a := 1) (b := 999)) zI zm4_19 zm4_20 zm4_21 zm4_8 ⟨by decide +kernel, by decide +kernel, (show _ = some 3 by decide +kernel)⟩ ⟨Nat.le_of_ble_eq_true rfl, Nat.le_of_ble_eq_true rfl⟩ ⟨Nat.le_of_ble_eq_true rfl, Nat.le_of_ble_eq_true rfl⟩ dX7_setLevel_5 rfl (Nat.le_of_ble_eq_true rfl) (fun E w' ad' h => by obtain ⟨rfl, hc, rfl, rfl⟩ := h; exact ⟨⟨⟨rfl, rfl⟩, by unfold kLevel; rw [if_pos hc]; exact ⟨by decide, rfl⟩⟩, Nat.le_of_ble_eq_true rfl, Nat.le_of_ble_eq_true rfl⟩) (fun r w1 ad1 hp => ?_)
  obtain ⟨hr, rfl, rfl, rfl⟩ := hp
  refine z_aload_n O dX7_setLevel_8 rfl ?_
  refine z_get O (fk := 3) (fun x h => zI x (zu_RX7 x h)) rfl (by decide) (zI _ zm3_69) dX7_setLevel_9 (zg_x) rfl ?_
  refine z_get O (fk := 1) (fun x h => zI x (zu_RX1 x h)) rfl (by decide) (zI _ zm5_58) dX7_setLevel_12 (zg_ev) rfl ?_
  refine z_istore_n O dX7_setLevel_15 (by decide) ?_
  refine z_aload_n O dX7_setLevel_16 rfl ?_
  refine z_get O (fk := 3) (fun x h => zI x (zu_RX7 x h)) rfl (by decide) (zI _ zm3_69) dX7_setLevel_17 (zg_x) rfl ?_
  refine z_iload_n O dX7_setLevel_20 rfl ?_
  refine z_put O (fk := 1) (fun x h => zI x (zu_RX1 x h)) tyX1 tyX1_ok nmX1 rfl (by decide) (zI _ zm5_58) rfl dX7_setLevel_21 rfl rfl (zg_ev) (Nat.le_of_ble_eq_true rfl) (zp_ev (F := 28) (p := 1) (by decide) rfl) ?_
  refine z_iload_n O dX7_setLevel_24 rfl ?_
  exact z_iret O dX7_setLevel_25 (Nat.le_of_ble_eq_true rfl) (Nat.le_of_ble_eq_true rfl) (⟨by unfold kLevel; rw [if_neg (fun q => q hr)], rfl, rfl, rfl⟩)

theorem fBest_lt {Z : zM} {cp : Nat → Nat} {x : Int32} (hL : zLst Z cp 0) : fBest Z x < 4096 := Nat.lt_of_lt_of_le (fPlan_lt _ _ _ _ _ (Nat.two_pow_pos _)) (z_pow2 hL.2.2.2)
set_option maxRecDepth 100000 in
set_option maxHeartbeats 4000000 in
theorem c_X7_planCost {G : zG} {l : Launch} (hl : l.stackTraces = false) {Z : zM} {sb : Nat → Option Nat} {mcn : Nat → Int32} {cp : Nat → Nat} {Y : zM} {th : Int32} {o : Nat → Int64} {od : Nat → UInt64} {ad : Nat → Nat} (hL : zLst Z cp 0) {x : Int32} : zCt G l yX7_planCost (zws yX7_planCost cX7_planCost 2 (some .int)) ({ frames := 7, cells := 2, slots := 12, locals := 160 }) [.ref (ad 0), .int x] (zent Z sb mcn cp G.2.2.2.1 Y th o od ad) ad (fun r w1 ad1 => kCost Z x = 0 ∧ some (.int (fOf Z 13 (fBest Z x) (zN Z 0))) = r ∧ zent Z sb mcn cp G.2.2.2.1 Y th o od ad = w1 ∧ ad = ad1) (zPX ["java/lang/IllegalArgumentException", "java/util/NoSuchElementException"] (kCost Z x) (zent Z sb mcn cp G.2.2.2.1 Y th o od ad) ad) := by
  refine z_body hl (by decide +kernel) (Nat.le_of_ble_eq_true rfl) (fun X O => ?_)
  refine z_iload_n O dX7_planCost_0 rfl ?_
  refine z_iconst O dX7_planCost_1 (v := 1) (by decide) ?_
  refine z_bipush O dX7_planCost_2 (v := 20) (by decide) ?_
  refine z_callS O (c_X7_checkRange hl (x := x) (a := 1) (b := 20)) zI zm4_19 zm4_20 zm4_21 zm4_8 ⟨by decide +kernel, by decide +kernel, (show _ = some 3 by decide +kernel)⟩ ⟨Nat.le_of_ble_eq_true rfl, Nat.le_of_ble_eq_true rfl⟩ ⟨Nat.le_of_ble_eq_true rfl, Nat.le_of_ble_eq_true rfl⟩ dX7_planCost_4 rfl (Nat.le_of_ble_eq_true rfl) (fun E w' ad' h => by obtain ⟨rfl, hc, rfl, rfl⟩ := h; exact ⟨⟨⟨rfl, rfl⟩, by unfold kCost; rw [if_pos hc]; exact ⟨by decide, rfl⟩⟩, Nat.le_of_ble_eq_true rfl, Nat.le_of_ble_eq_true rfl⟩) (fun r w1 ad1 hp => ?_)
  obtain ⟨hr, rfl, rfl, rfl⟩ := hp
  refine z_aload_n O dX7_planCost_7 rfl ?_
  refine z_get O (fk := 1) (fun x h => zI x (zu_RX7 x h)) rfl (by decide) (zI _ zm3_64) dX7_planCost_8 (zg_x) rfl ?_
  refine z_aload_n O dX7_planCost_11 rfl ?_
  refine z_iload_n O dX7_planCost_12 rfl ?_
  refine z_callV O (c_X7_existingPlan hl hL (x := x)) zI zm6_49 zm6_50 zm6_51 zm4_21 zm6_48 ⟨rfl, by decide +kernel, by decide +kernel, (show _ = some 1 by decide +kernel)⟩ rfl (zg_x) ⟨Nat.le_of_ble_eq_true rfl, Nat.le_of_ble_eq_true rfl⟩ ⟨Nat.le_of_ble_eq_true rfl, Nat.le_of_ble_eq_true rfl⟩ dX7_planCost_13 rfl (Nat.le_of_ble_eq_true rfl) (fun E w' ad' h => by obtain ⟨rfl, hc, rfl, rfl⟩ := h; exact ⟨⟨⟨rfl, rfl⟩, by unfold kCost; rw [if_neg (fun q => q hr), if_pos hc]; exact ⟨by decide, rfl⟩⟩, Nat.le_of_ble_eq_true rfl, Nat.le_of_ble_eq_true rfl⟩) (fun r w1 ad1 hp => ?_)
  obtain ⟨hb, rfl, rfl, rfl⟩ := hp
  have hb4 := fBest_lt (x := x) hL
  refine z_callV O (c_X6_priceOf hl hL (P := fBest Z x) (by omega)) zI zm6_52 zm3_42 zm3_43 zm3_29 zm3_36 ⟨rfl, by decide +kernel, by decide +kernel, (show _ = some 1 by decide +kernel)⟩ rfl (zg_tr) ⟨Nat.le_of_ble_eq_true rfl, Nat.le_of_ble_eq_true rfl⟩ ⟨Nat.le_of_ble_eq_true rfl, Nat.le_of_ble_eq_true rfl⟩ dX7_planCost_16 rfl (Nat.le_of_ble_eq_true rfl) (fun _ _ _ h => h.elim) (fun r w1 ad1 hp => ?_)
  obtain ⟨rfl, rfl, rfl⟩ := hp
  exact z_iret O dX7_planCost_19 (Nat.le_of_ble_eq_true rfl) (Nat.le_of_ble_eq_true rfl) (⟨by unfold kCost; rw [if_neg (fun q => q hr), if_neg hb], rfl, rfl, rfl⟩)

set_option maxRecDepth 100000 in
set_option maxHeartbeats 4000000 in
theorem c_X7_isPlanned {G : zG} {l : Launch} (hl : l.stackTraces = false) {Z : zM} {sb : Nat → Option Nat} {mcn : Nat → Int32} {cp : Nat → Nat} {Y : zM} {th : Int32} {o : Nat → Int64} {od : Nat → UInt64} {ad : Nat → Nat} (hL : zLst Z cp 0) {x y : Int32} : zCt G l yX7_isPlanned (zws yX7_isPlanned cX7_isPlanned 3 (some .boolean)) ({ frames := 7, cells := 3, slots := 18, locals := 160 }) [.ref (ad 0), .int x, .int y] (zent Z sb mcn cp G.2.2.2.1 Y th o od ad) ad (fun r w1 ad1 => kPlanned Z x y = 0 ∧ some (.int (if fBit (fBest Z x) y.toNatClampNeg = 1 then 1 else 0)) = r ∧ zent Z sb mcn cp G.2.2.2.1 Y th o od ad = w1 ∧ ad = ad1) (zPX ["java/lang/IllegalArgumentException", "java/lang/IndexOutOfBoundsException", "java/util/NoSuchElementException"] (kPlanned Z x y) (zent Z sb mcn cp G.2.2.2.1 Y th o od ad) ad) := by
  refine z_body hl (by decide +kernel) (Nat.le_of_ble_eq_true rfl) (fun X O => ?_)
  refine z_iload_n O dX7_isPlanned_0 rfl ?_
  refine z_iconst O dX7_isPlanned_1 (v := 1) (by decide) ?_
  refine z_bipush O dX7_isPlanned_2 (v := 20) (by decide) ?_
  refine z_callS O (c_X7_checkRange hl (x := x) (a := 1) (b := 20)) zI zm4_19 zm4_20 zm4_21 zm4_8 ⟨by decide +kernel, by decide +kernel, (show _ = some 3 by decide +kernel)⟩ ⟨Nat.le_of_ble_eq_true rfl, Nat.le_of_ble_eq_true rfl⟩ ⟨Nat.le_of_ble_eq_true rfl, Nat.le_of_ble_eq_true rfl⟩ dX7_isPlanned_4 rfl (Nat.le_of_ble_eq_true rfl) (fun E w' ad' h => by obtain ⟨rfl, hc, rfl, rfl⟩ := h; exact ⟨⟨⟨rfl, rfl⟩, by unfold kPlanned; rw [if_pos hc]; exact ⟨by decide, rfl⟩⟩, Nat.le_of_ble_eq_true rfl, Nat.le_of_ble_eq_true rfl⟩) (fun r w1 ad1 hp => ?_)
  obtain ⟨hr, rfl, rfl, rfl⟩ := hp
  refine z_aload_n O dX7_isPlanned_7 rfl ?_
  refine z_iload_n O dX7_isPlanned_8 rfl ?_
  refine z_callV O (c_X7_existingHand hl hL (x := y)) zI zm4_47 zm4_48 zm4_49 zm4_21 zm4_42 ⟨rfl, by decide +kernel, by decide +kernel, (show _ = some 1 by decide +kernel)⟩ rfl (zg_x) ⟨Nat.le_of_ble_eq_true rfl, Nat.le_of_ble_eq_true rfl⟩ ⟨Nat.le_of_ble_eq_true rfl, Nat.le_of_ble_eq_true rfl⟩ dX7_isPlanned_9 rfl (Nat.le_of_ble_eq_true rfl) (fun E w' ad' h => by obtain ⟨rfl, hc, rfl, rfl⟩ := h; exact ⟨⟨⟨rfl, rfl⟩, by unfold kPlanned; rw [if_neg (fun q => q hr), if_pos hc]; exact ⟨by decide, rfl⟩⟩, Nat.le_of_ble_eq_true rfl, Nat.le_of_ble_eq_true rfl⟩) (fun r w1 ad1 hp => ?_)
  obtain ⟨j, rfl, hj, hj20, rfl, rfl, rfl⟩ := hp
  have hcl : (nI j).toNatClampNeg = j := nI_clamp (by omega)
  refine z_pop O dX7_isPlanned_12 rfl ?_
  refine z_aload_n O dX7_isPlanned_13 rfl ?_
  refine z_iload_n O dX7_isPlanned_14 rfl ?_
  refine z_callV O (c_X7_existingPlan hl hL (x := x)) zI zm6_49 zm6_50 zm6_51 zm4_21 zm6_48 ⟨rfl, by decide +kernel, by decide +kernel, (show _ = some 1 by decide +kernel)⟩ rfl (zg_x) ⟨Nat.le_of_ble_eq_true rfl, Nat.le_of_ble_eq_true rfl⟩ ⟨Nat.le_of_ble_eq_true rfl, Nat.le_of_ble_eq_true rfl⟩ dX7_isPlanned_15 rfl (Nat.le_of_ble_eq_true rfl) (fun E w' ad' h => by obtain ⟨rfl, hc, rfl, rfl⟩ := h; exact ⟨⟨⟨rfl, rfl⟩, by unfold kPlanned; rw [if_neg (fun q => q hr), if_neg (fun q => q (fI_in hL hj)), if_pos hc]; exact ⟨by decide, rfl⟩⟩, Nat.le_of_ble_eq_true rfl, Nat.le_of_ble_eq_true rfl⟩) (fun r w1 ad1 hp => ?_)
  obtain ⟨hb, rfl, rfl, rfl⟩ := hp
  have hb4 := fBest_lt (x := x) hL
  refine z_iload_n O dX7_isPlanned_18 rfl ?_
  refine z_callS O (c_X6_holds hl (P := fBest Z x) (j := j) (by omega) (by omega)) zI zm6_54 zm3_33 zm3_29 zm3_18 ⟨by decide +kernel, by decide +kernel, (show _ = some 2 by decide +kernel)⟩ ⟨Nat.le_of_ble_eq_true rfl, Nat.le_of_ble_eq_true rfl⟩ ⟨Nat.le_of_ble_eq_true rfl, Nat.le_of_ble_eq_true rfl⟩ dX7_isPlanned_19 rfl (Nat.le_of_ble_eq_true rfl) (fun _ _ _ h => h.elim) (fun r w1 ad1 hp => ?_)
  obtain ⟨rfl, rfl, rfl⟩ := hp
  exact z_zret O rfl (by split <;> rfl) dX7_isPlanned_22 (Nat.le_of_ble_eq_true rfl) (Nat.le_of_ble_eq_true rfl) (⟨by unfold kPlanned; rw [if_neg (fun q => q hr), if_neg (fun q => q (fI_in hL hj)), if_neg hb], by rw [hcl], rfl, rfl⟩)

set_option maxRecDepth 100000 in
set_option maxHeartbeats 4000000 in
theorem c_X7_areFoundOut {G : zG} {l : Launch} (hl : l.stackTraces = false) {Z : zM} {sb : Nat → Option Nat} {mcn : Nat → Int32} {cp : Nat → Nat} {Y : zM} {th : Int32} {o : Nat → Int64} {od : Nat → UInt64} {ad : Nat → Nat} : zCt G l yX7_areFoundOut (zws yX7_areFoundOut cX7_areFoundOut 1 (some .boolean)) ({ frames := 1, cells := 0, slots := 0, locals := 20 }) [.ref (ad 0)] (zent Z sb mcn cp G.2.2.2.1 Y th o od ad) ad (fun r w1 ad1 => some (.int (if Z 33 0 < 3 then 0 else 1)) = r ∧ zent Z sb mcn cp G.2.2.2.1 Y th o od ad = w1 ∧ ad = ad1) (zNoX) := by
  refine z_body hl (by decide +kernel) (Nat.le_of_ble_eq_true rfl) (fun X O => ?_)
  refine z_aload_n O dX7_areFoundOut_0 rfl ?_
  refine z_get O (fk := 3) (fun x h => zI x (zu_RX7 x h)) rfl (by decide) (zI _ zm3_69) dX7_areFoundOut_1 (zg_x) rfl ?_
  refine z_callV O (c_X1_handsAreFoundOut hl) zI zm6_16 zm1_42 zm1_43 zm1_44 zm0_50 ⟨rfl, by decide +kernel, by decide +kernel, (show _ = some 0 by decide +kernel)⟩ rfl (zg_ev) ⟨Nat.le_of_ble_eq_true rfl, Nat.le_of_ble_eq_true rfl⟩ ⟨Nat.le_of_ble_eq_true rfl, Nat.le_of_ble_eq_true rfl⟩ dX7_areFoundOut_4 rfl (Nat.le_of_ble_eq_true rfl) (fun _ _ _ h => h.elim) (fun r w1 ad1 hp => ?_)
  rcases hp with ⟨rfl, hb, rfl, rfl⟩ | ⟨rfl, hb, rfl, rfl⟩
  · exact z_zret O rfl rfl dX7_areFoundOut_7 (Nat.le_of_ble_eq_true rfl) (Nat.le_of_ble_eq_true rfl) (⟨by rw [if_neg hb], rfl, rfl⟩)
  · exact z_zret O rfl rfl dX7_areFoundOut_7 (Nat.le_of_ble_eq_true rfl) (Nat.le_of_ble_eq_true rfl) (⟨by rw [if_pos hb], rfl, rfl⟩)
