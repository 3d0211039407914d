theorem zPX_code {Es : List String} {E : String} {k : Nat} (h1 : k ≠ 0) (h2 : Es[k - 1]? = some E) : ∃ i, i < Es.length ∧ k = i + 1 := by
  refine ⟨k - 1, ?_, by omega⟩
  rcases Nat.lt_or_ge (k - 1) Es.length with q | q
  · exact q
  · rw [List.getElem?_eq_none q] at h2; cases h2
set_option maxRecDepth 100000 in
set_option maxHeartbeats 4000000 in
theorem c_L_newHouse {G : zG} {l : Launch} (hl : l.stackTraces = false) {Z : zM} {sb : Nat → Option Nat} {mcn : Nat → Int32} {cp : Nat → Nat} {Y : zM} {th : Int32} {o : Nat → Int64} {od : Nat → UInt64} {ad : Nat → Nat} (hse : zSeats Z) (hL1 : zLst Z cp 1) (hL2 : zLst Z cp 2) {x y : Int32} : zCt G l yL_newHouse (zwsH yL_newHouse cL_newHouse 5 (some .int) [(0, 10, 13, 13)]) ({ frames := 8, cells := 2, slots := 12, locals := 126 }) [.ref (ad 0), .int x, .int y, .ref (ad 340)] (zent Z sb mcn cp G.2.2.2.1 Y th o od ad) ad (fun r w1 ad1 => ((kHouse x y) = 0 ∧ some (.int 0) = r ∧ zent (fRise (fNew Z sb x y)) (fBuild Z sb 80).2 (va_up mcn 2 (mcn 2 + 1)) cp G.2.2.2.1 Y th (vp_updL o 0 (x * y).toInt64) od ad = w1 ∧ ad = ad1) ∨ ((kHouse x y) ≠ 0 ∧ some (.int (nI (kHouse x y))) = r ∧ zent Z sb mcn cp G.2.2.2.1 Y th o od ad = w1 ∧ ad = ad1)) (zNoX) := by
  refine z_bodyH hl (by decide +kernel) (Nat.le_of_ble_eq_true rfl) (fun X O => ?_)
  refine z_aload_n O dL_newHouse_0 rfl ?_
  refine z_iconst O dL_newHouse_1 (v := 0) (by decide) ?_
  refine z_aload_n O dL_newHouse_2 rfl ?_
  refine z_iload_n O dL_newHouse_3 rfl ?_
  refine z_iload_n O dL_newHouse_4 rfl ?_
  refine z_callVX O (c_X7_newHouse hl hse hL1 hL2) zI zm9_53 zm9_54 zm9_55 zm4_21 zm4_28 ⟨rfl, by decide +kernel, by decide +kernel, (show _ = some 2 by decide +kernel)⟩ rfl zg_x ⟨Nat.le_of_ble_eq_true rfl, Nat.le_of_ble_eq_true rfl⟩ ⟨Nat.le_of_ble_eq_true rfl, Nat.le_of_ble_eq_true rfl⟩ dL_newHouse_5 rfl (Nat.le_of_ble_eq_true rfl) (fun E w' ad' h => ?_) (fun r w1 ad1 hp => ?_)
  · obtain ⟨⟨rfl, rfl⟩, h1, h2⟩ := h
    obtain ⟨i, hi, hki⟩ : ∃ i, i < 1 ∧ (kHouse x y) = i + 1 := zPX_code h1 h2
    rw [hki] at h2
    have hE : ["java/lang/IllegalArgumentException"][i]? = some E := h2
    have hi2 : i = 0 := by omega
    rcases hi2 with rfl
    · have hEi : "java/lang/IllegalArgumentException" = E := Option.some.inj hE
      subst hEi
      refine ⟨13, ⟨[], ⟨0, 10, 13, 13⟩, [], rfl, (fun z hz => by cases hz), by decide +kernel, by decide, by decide, zm9_52, rfl⟩, fun q => ?_⟩
      refine z_astore O dL_newHouse_13 (by decide) ?_
      refine z_iconst O dL_newHouse_15 (v := 1) (by decide) ?_
      exact z_iret O dL_newHouse_16 (Nat.le_of_ble_eq_true rfl) (Nat.le_of_ble_eq_true rfl) (Or.inr ⟨by rw [hki]; omega, by rw [hki]; rfl, rfl, rfl⟩)
  · obtain ⟨hk0, rfl, rfl, rfl⟩ := hp
    refine z_i2l O dL_newHouse_8 rfl ?_
    refine z_last O dL_newHouse_9 zg_out 0 rfl (by decide) (by decide) zp_out ?_
    refine z_goto O dL_newHouse_10 (tgt := 17) (by decide) ?_
    refine z_iconst O dL_newHouse_17 (v := 0) (by decide) ?_
    exact z_iret O dL_newHouse_18 (Nat.le_of_ble_eq_true rfl) (Nat.le_of_ble_eq_true rfl) (Or.inl ⟨hk0, rfl, rfl, rfl⟩)

set_option maxRecDepth 100000 in
set_option maxHeartbeats 4000000 in
theorem c_L_seatPayer {G : zG} {l : Launch} (hl : l.stackTraces = false) {Z : zM} {sb : Nat → Option Nat} {mcn : Nat → Int32} {cp : Nat → Nat} {Y : zM} {th : Int32} {o : Nat → Int64} {od : Nat → UInt64} {ad : Nat → Nat} (hh : zHouse Z) (hse : zSeats Z) {x y : Int32} {t : Int32} : zCt G l yL_seatPayer (zwsH yL_seatPayer cL_seatPayer 6 (some .int) [(0, 12, 15, 19), (0, 12, 19, 13)]) ({ frames := 8, cells := 2, slots := 12, locals := 130 }) [.ref (ad 0), .int x, .int y, .int t, .ref (ad 340)] (zent Z sb mcn cp G.2.2.2.1 Y th o od ad) ad (fun r w1 ad1 => ((kPayer Z x y t) = 0 ∧ some (.int 0) = r ∧ zent (zu (fTake Z (fAt x y) 112) 1 (fAt x y) t) (fUn Z sb (fAt x y)) mcn cp G.2.2.2.1 Y th (vp_updL o 0 (Z 0 (fAt x y)).toInt64) od ad = w1 ∧ ad = ad1) ∨ ((kPayer Z x y t) ≠ 0 ∧ some (.int (nI (kPayer Z x y t))) = r ∧ zent Z sb mcn cp G.2.2.2.1 Y th o od ad = w1 ∧ ad = ad1)) (zNoX) := by
  refine z_bodyH hl (by decide +kernel) (Nat.le_of_ble_eq_true rfl) (fun X O => ?_)
  refine z_aload O dL_seatPayer_0 rfl ?_
  refine z_iconst O dL_seatPayer_2 (v := 0) (by decide) ?_
  refine z_aload_n O dL_seatPayer_3 rfl ?_
  refine z_iload_n O dL_seatPayer_4 rfl ?_
  refine z_iload_n O dL_seatPayer_5 rfl ?_
  refine z_iload_n O dL_seatPayer_6 rfl ?_
  refine z_callVX O (c_X7_seatPayer hl hh hse) zI zm9_58 zm9_59 zm9_60 zm4_21 zm4_38 ⟨rfl, by decide +kernel, by decide +kernel, (show _ = some 3 by decide +kernel)⟩ rfl zg_x ⟨Nat.le_of_ble_eq_true rfl, Nat.le_of_ble_eq_true rfl⟩ ⟨Nat.le_of_ble_eq_true rfl, Nat.le_of_ble_eq_true rfl⟩ dL_seatPayer_7 rfl (Nat.le_of_ble_eq_true rfl) (fun E w' ad' h => ?_) (fun r w1 ad1 hp => ?_)
  · obtain ⟨⟨rfl, rfl⟩, h1, h2⟩ := h
    obtain ⟨i, hi, hki⟩ : ∃ i, i < 2 ∧ (kPayer Z x y t) = i + 1 := zPX_code h1 h2
    rw [hki] at h2
    have hE : ["java/lang/IndexOutOfBoundsException", "java/lang/IllegalArgumentException"][i]? = some E := h2
    have hi2 : i = 0 ∨ i = 1 := by omega
    rcases hi2 with rfl | rfl
    · have hEi : "java/lang/IndexOutOfBoundsException" = E := Option.some.inj hE
      subst hEi
      refine ⟨15, ⟨[], ⟨0, 12, 15, 19⟩, [⟨0, 12, 19, 13⟩], rfl, (fun z hz => by cases hz), by decide +kernel, by decide, by decide, zm9_57, rfl⟩, fun q => ?_⟩
      refine z_astore O dL_seatPayer_15 (by decide) ?_
      refine z_iconst O dL_seatPayer_17 (v := 1) (by decide) ?_
      exact z_iret O dL_seatPayer_18 (Nat.le_of_ble_eq_true rfl) (Nat.le_of_ble_eq_true rfl) (Or.inr ⟨by rw [hki]; omega, by rw [hki]; rfl, rfl, rfl⟩)
    · have hEi : "java/lang/IllegalArgumentException" = E := Option.some.inj hE
      subst hEi
      refine ⟨19, ⟨[⟨0, 12, 15, 19⟩], ⟨0, 12, 19, 13⟩, [], rfl, (fun z hz => by
          simp only [List.mem_cons, List.mem_nil_iff, or_false] at hz
          rcases hz with rfl
          · exact ⟨by decide, "java/lang/IndexOutOfBoundsException", by decide +kernel, zm9_57, by decide +kernel⟩), by decide +kernel, by decide, by decide, zm9_52, rfl⟩, fun q => ?_⟩
      refine z_astore O dL_seatPayer_19 (by decide) ?_
      refine z_iconst O dL_seatPayer_21 (v := 2) (by decide) ?_
      exact z_iret O dL_seatPayer_22 (Nat.le_of_ble_eq_true rfl) (Nat.le_of_ble_eq_true rfl) (Or.inr ⟨by rw [hki]; omega, by rw [hki]; rfl, rfl, rfl⟩)
  · obtain ⟨hk0, rfl, rfl, rfl⟩ := hp
    refine z_i2l O dL_seatPayer_10 rfl ?_
    refine z_last O dL_seatPayer_11 zg_out 0 rfl (by decide) (by decide) zp_out ?_
    refine z_goto O dL_seatPayer_12 (tgt := 23) (by decide) ?_
    refine z_iconst O dL_seatPayer_23 (v := 0) (by decide) ?_
    exact z_iret O dL_seatPayer_24 (Nat.le_of_ble_eq_true rfl) (Nat.le_of_ble_eq_true rfl) (Or.inl ⟨hk0, rfl, rfl, rfl⟩)

set_option maxRecDepth 100000 in
set_option maxHeartbeats 4000000 in
theorem c_L_seatRival {G : zG} {l : Launch} (hl : l.stackTraces = false) {Z : zM} {sb : Nat → Option Nat} {mcn : Nat → Int32} {cp : Nat → Nat} {Y : zM} {th : Int32} {o : Nat → Int64} {od : Nat → UInt64} {ad : Nat → Nat} (hh : zHouse Z) (hse : zSeats Z) {x y : Int32} : zCt G l yL_seatRival (zwsH yL_seatRival cL_seatRival 5 (some .int) [(0, 10, 13, 19)]) ({ frames := 8, cells := 1, slots := 6, locals := 127 }) [.ref (ad 0), .int x, .int y, .ref (ad 340)] (zent Z sb mcn cp G.2.2.2.1 Y th o od ad) ad (fun r w1 ad1 => ((kSeat Z x y) = 0 ∧ some (.int 0) = r ∧ zent (fTake Z (fAt x y) 114) (fUn Z sb (fAt x y)) mcn cp G.2.2.2.1 Y th (vp_updL o 0 (Z 0 (fAt x y)).toInt64) od ad = w1 ∧ ad = ad1) ∨ ((kSeat Z x y) ≠ 0 ∧ some (.int (nI (kSeat Z x y))) = r ∧ zent Z sb mcn cp G.2.2.2.1 Y th o od ad = w1 ∧ ad = ad1)) (zNoX) := by
  refine z_bodyH hl (by decide +kernel) (Nat.le_of_ble_eq_true rfl) (fun X O => ?_)
  refine z_aload_n O dL_seatRival_0 rfl ?_
  refine z_iconst O dL_seatRival_1 (v := 0) (by decide) ?_
  refine z_aload_n O dL_seatRival_2 rfl ?_
  refine z_iload_n O dL_seatRival_3 rfl ?_
  refine z_iload_n O dL_seatRival_4 rfl ?_
  refine z_callVX O (c_X7_seatRival hl hh hse) zI zm9_62 zm9_63 zm9_64 zm4_21 zm4_39 ⟨rfl, by decide +kernel, by decide +kernel, (show _ = some 2 by decide +kernel)⟩ rfl zg_x ⟨Nat.le_of_ble_eq_true rfl, Nat.le_of_ble_eq_true rfl⟩ ⟨Nat.le_of_ble_eq_true rfl, Nat.le_of_ble_eq_true rfl⟩ dL_seatRival_5 rfl (Nat.le_of_ble_eq_true rfl) (fun E w' ad' h => ?_) (fun r w1 ad1 hp => ?_)
  · obtain ⟨⟨rfl, rfl⟩, h1, h2⟩ := h
    obtain ⟨i, hi, hki⟩ : ∃ i, i < 1 ∧ (kSeat Z x y) = i + 1 := zPX_code h1 h2
    rw [hki] at h2
    have hE : ["java/lang/IndexOutOfBoundsException"][i]? = some E := h2
    have hi2 : i = 0 := by omega
    rcases hi2 with rfl
    · have hEi : "java/lang/IndexOutOfBoundsException" = E := Option.some.inj hE
      subst hEi
      refine ⟨13, ⟨[], ⟨0, 10, 13, 19⟩, [], rfl, (fun z hz => by cases hz), by decide +kernel, by decide, by decide, zm9_57, rfl⟩, fun q => ?_⟩
      refine z_astore O dL_seatRival_13 (by decide) ?_
      refine z_iconst O dL_seatRival_15 (v := 1) (by decide) ?_
      exact z_iret O dL_seatRival_16 (Nat.le_of_ble_eq_true rfl) (Nat.le_of_ble_eq_true rfl) (Or.inr ⟨by rw [hki]; omega, by rw [hki]; rfl, rfl, rfl⟩)
  · obtain ⟨hk0, rfl, rfl, rfl⟩ := hp
    refine z_i2l O dL_seatRival_8 rfl ?_
    refine z_last O dL_seatRival_9 zg_out 0 rfl (by decide) (by decide) zp_out ?_
    refine z_goto O dL_seatRival_10 (tgt := 17) (by decide) ?_
    refine z_iconst O dL_seatRival_17 (v := 0) (by decide) ?_
    exact z_iret O dL_seatRival_18 (Nat.le_of_ble_eq_true rfl) (Nat.le_of_ble_eq_true rfl) (Or.inl ⟨hk0, rfl, rfl, rfl⟩)

set_option maxRecDepth 100000 in
set_option maxHeartbeats 4000000 in
theorem c_L_seatHand {G : zG} {l : Launch} (hl : l.stackTraces = false) {Z : zM} {sb : Nat → Option Nat} {mcn : Nat → Int32} {cp : Nat → Nat} {Y : zM} {th : Int32} {o : Nat → Int64} {od : Nat → UInt64} {ad : Nat → Nat} (hL : zLst Z cp 0) (hsb : zSb Z sb) (hh : zHouse Z) (hse : zSeats Z) {x y : Int32} {h : Int32} : zCt G l yL_seatHand (zwsH yL_seatHand cL_seatHand 6 (some .int) [(0, 12, 15, 19), (0, 12, 19, 28)]) ({ frames := 8, cells := 3, slots := 18, locals := 131 }) [.ref (ad 0), .int h, .int x, .int y, .ref (ad 340)] (zent Z sb mcn cp G.2.2.2.1 Y th o od ad) ad (fun r w1 ad1 => ((kMove Z h x y) = 0 ∧ some (.int 0) = r ∧ zent (fMove Z sb h.toNatClampNeg (fAt x y)) (fMoveS Z sb h.toNatClampNeg (fAt x y)) mcn cp G.2.2.2.1 Y th (vp_updL o 0 (fMv1 Z sb h.toNatClampNeg 0 (fAt x y)).toInt64) od ad = w1 ∧ ad = ad1) ∨ ((kMove Z h x y) ≠ 0 ∧ some (.int (nI (kMove Z h x y))) = r ∧ zent Z sb mcn cp G.2.2.2.1 Y th o od ad = w1 ∧ ad = ad1)) (zNoX) := by
  refine z_bodyH hl (by decide +kernel) (Nat.le_of_ble_eq_true rfl) (fun X O => ?_)
  refine z_aload O dL_seatHand_0 rfl ?_
  refine z_iconst O dL_seatHand_2 (v := 0) (by decide) ?_
  refine z_aload_n O dL_seatHand_3 rfl ?_
  refine z_iload_n O dL_seatHand_4 rfl ?_
  refine z_iload_n O dL_seatHand_5 rfl ?_
  refine z_iload_n O dL_seatHand_6 rfl ?_
  refine z_callVX O (c_X7_seatHand hl hh hse hL hsb) zI zm9_67 zm9_68 zm9_69 zm4_21 zm4_50 ⟨rfl, by decide +kernel, by decide +kernel, (show _ = some 3 by decide +kernel)⟩ rfl zg_x ⟨Nat.le_of_ble_eq_true rfl, Nat.le_of_ble_eq_true rfl⟩ ⟨Nat.le_of_ble_eq_true rfl, Nat.le_of_ble_eq_true rfl⟩ dL_seatHand_7 rfl (Nat.le_of_ble_eq_true rfl) (fun E w' ad' h => ?_) (fun r w1 ad1 hp => ?_)
  · obtain ⟨⟨rfl, rfl⟩, h1, h2⟩ := h
    obtain ⟨i, hi, hki⟩ : ∃ i, i < 2 ∧ (kMove Z h x y) = i + 1 := zPX_code h1 h2
    rw [hki] at h2
    have hE : ["java/lang/IndexOutOfBoundsException", "java/lang/UnsupportedOperationException"][i]? = some E := h2
    have hi2 : i = 0 ∨ i = 1 := by omega
    rcases hi2 with rfl | rfl
    · have hEi : "java/lang/IndexOutOfBoundsException" = E := Option.some.inj hE
      subst hEi
      refine ⟨15, ⟨[], ⟨0, 12, 15, 19⟩, [⟨0, 12, 19, 28⟩], rfl, (fun z hz => by cases hz), by decide +kernel, by decide, by decide, zm9_57, rfl⟩, fun q => ?_⟩
      refine z_astore O dL_seatHand_15 (by decide) ?_
      refine z_iconst O dL_seatHand_17 (v := 1) (by decide) ?_
      exact z_iret O dL_seatHand_18 (Nat.le_of_ble_eq_true rfl) (Nat.le_of_ble_eq_true rfl) (Or.inr ⟨by rw [hki]; omega, by rw [hki]; rfl, rfl, rfl⟩)
    · have hEi : "java/lang/UnsupportedOperationException" = E := Option.some.inj hE
      subst hEi
      refine ⟨19, ⟨[⟨0, 12, 15, 19⟩], ⟨0, 12, 19, 28⟩, [], rfl, (fun z hz => by
          simp only [List.mem_cons, List.mem_nil_iff, or_false] at hz
          rcases hz with rfl
          · exact ⟨by decide, "java/lang/IndexOutOfBoundsException", by decide +kernel, zm9_57, by decide +kernel⟩), by decide +kernel, by decide, by decide, zm9_66, rfl⟩, fun q => ?_⟩
      refine z_astore O dL_seatHand_19 (by decide) ?_
      refine z_iconst O dL_seatHand_21 (v := 2) (by decide) ?_
      exact z_iret O dL_seatHand_22 (Nat.le_of_ble_eq_true rfl) (Nat.le_of_ble_eq_true rfl) (Or.inr ⟨by rw [hki]; omega, by rw [hki]; rfl, rfl, rfl⟩)
  · obtain ⟨hk0, rfl, rfl, rfl⟩ := hp
    refine z_i2l O dL_seatHand_10 rfl ?_
    refine z_last O dL_seatHand_11 zg_out 0 rfl (by decide) (by decide) zp_out ?_
    refine z_goto O dL_seatHand_12 (tgt := 23) (by decide) ?_
    refine z_iconst O dL_seatHand_23 (v := 0) (by decide) ?_
    exact z_iret O dL_seatHand_24 (Nat.le_of_ble_eq_true rfl) (Nat.le_of_ble_eq_true rfl) (Or.inl ⟨hk0, rfl, rfl, rfl⟩)

set_option maxRecDepth 100000 in
set_option maxHeartbeats 4000000 in
theorem c_L_clearSeat {G : zG} {l : Launch} (hl : l.stackTraces = false) {Z : zM} {sb : Nat → Option Nat} {mcn : Nat → Int32} {cp : Nat → Nat} {Y : zM} {th : Int32} {o : Nat → Int64} {od : Nat → UInt64} {ad : Nat → Nat} (hh : zHouse Z) (hse : zSeats Z) {x y : Int32} : zCt G l yL_clearSeat (zwsH yL_clearSeat cL_clearSeat 5 (some .int) [(0, 10, 13, 19)]) ({ frames := 8, cells := 1, slots := 6, locals := 127 }) [.ref (ad 0), .int x, .int y, .ref (ad 340)] (zent Z sb mcn cp G.2.2.2.1 Y th o od ad) ad (fun r w1 ad1 => ((kSeat Z x y) = 0 ∧ some (.int 0) = r ∧ zent (fTake Z (fAt x y) 46) (fUn Z sb (fAt x y)) mcn cp G.2.2.2.1 Y th (vp_updL o 0 (Z 0 (fAt x y)).toInt64) od ad = w1 ∧ ad = ad1) ∨ ((kSeat Z x y) ≠ 0 ∧ some (.int (nI (kSeat Z x y))) = r ∧ zent Z sb mcn cp G.2.2.2.1 Y th o od ad = w1 ∧ ad = ad1)) (zNoX) := by
  refine z_bodyH hl (by decide +kernel) (Nat.le_of_ble_eq_true rfl) (fun X O => ?_)
  refine z_aload_n O dL_clearSeat_0 rfl ?_
  refine z_iconst O dL_clearSeat_1 (v := 0) (by decide) ?_
  refine z_aload_n O dL_clearSeat_2 rfl ?_
  refine z_iload_n O dL_clearSeat_3 rfl ?_
  refine z_iload_n O dL_clearSeat_4 rfl ?_
  refine z_callVX O (c_X7_clearSeat hl hh hse) zI zm10_1 zm10_2 zm10_3 zm4_21 zm4_51 ⟨rfl, by decide +kernel, by decide +kernel, (show _ = some 2 by decide +kernel)⟩ rfl zg_x ⟨Nat.le_of_ble_eq_true rfl, Nat.le_of_ble_eq_true rfl⟩ ⟨Nat.le_of_ble_eq_true rfl, Nat.le_of_ble_eq_true rfl⟩ dL_clearSeat_5 rfl (Nat.le_of_ble_eq_true rfl) (fun E w' ad' h => ?_) (fun r w1 ad1 hp => ?_)
  · obtain ⟨⟨rfl, rfl⟩, h1, h2⟩ := h
    obtain ⟨i, hi, hki⟩ : ∃ i, i < 1 ∧ (kSeat Z x y) = i + 1 := zPX_code h1 h2
    rw [hki] at h2
    have hE : ["java/lang/IndexOutOfBoundsException"][i]? = some E := h2
    have hi2 : i = 0 := by omega
    rcases hi2 with rfl
    · have hEi : "java/lang/IndexOutOfBoundsException" = E := Option.some.inj hE
      subst hEi
      refine ⟨13, ⟨[], ⟨0, 10, 13, 19⟩, [], rfl, (fun z hz => by cases hz), by decide +kernel, by decide, by decide, zm9_57, rfl⟩, fun q => ?_⟩
      refine z_astore O dL_clearSeat_13 (by decide) ?_
      refine z_iconst O dL_clearSeat_15 (v := 1) (by decide) ?_
      exact z_iret O dL_clearSeat_16 (Nat.le_of_ble_eq_true rfl) (Nat.le_of_ble_eq_true rfl) (Or.inr ⟨by rw [hki]; omega, by rw [hki]; rfl, rfl, rfl⟩)
  · obtain ⟨hk0, rfl, rfl, rfl⟩ := hp
    refine z_i2l O dL_clearSeat_8 rfl ?_
    refine z_last O dL_clearSeat_9 zg_out 0 rfl (by decide) (by decide) zp_out ?_
    refine z_goto O dL_clearSeat_10 (tgt := 17) (by decide) ?_
    refine z_iconst O dL_clearSeat_17 (v := 0) (by decide) ?_
    exact z_iret O dL_clearSeat_18 (Nat.le_of_ble_eq_true rfl) (Nat.le_of_ble_eq_true rfl) (Or.inl ⟨hk0, rfl, rfl, rfl⟩)

set_option maxRecDepth 100000 in
set_option maxHeartbeats 4000000 in
theorem c_L_seatAt {G : zG} {l : Launch} (hl : l.stackTraces = false) {Z : zM} {sb : Nat → Option Nat} {mcn : Nat → Int32} {cp : Nat → Nat} {Y : zM} {th : Int32} {o : Nat → Int64} {od : Nat → UInt64} {ad : Nat → Nat} (hh : zHouse Z) {x y : Int32} (hc : zChr (Z 0 (fAt x y))) : zCt G l yL_seatAt (zwsH yL_seatAt cL_seatAt 5 (some .int) [(0, 10, 13, 19)]) ({ frames := 8, cells := 1, slots := 6, locals := 127 }) [.ref (ad 0), .int x, .int y, .ref (ad 340)] (zent Z sb mcn cp G.2.2.2.1 Y th o od ad) ad (fun r w1 ad1 => ((kSeat Z x y) = 0 ∧ some (.int 0) = r ∧ zent Z sb mcn cp G.2.2.2.1 Y th (vp_updL o 0 (Z 0 (fAt x y)).toInt64) od ad = w1 ∧ ad = ad1) ∨ ((kSeat Z x y) ≠ 0 ∧ some (.int (nI (kSeat Z x y))) = r ∧ zent Z sb mcn cp G.2.2.2.1 Y th o od ad = w1 ∧ ad = ad1)) (zNoX) := by
  refine z_bodyH hl (by decide +kernel) (Nat.le_of_ble_eq_true rfl) (fun X O => ?_)
  refine z_aload_n O dL_seatAt_0 rfl ?_
  refine z_iconst O dL_seatAt_1 (v := 0) (by decide) ?_
  refine z_aload_n O dL_seatAt_2 rfl ?_
  refine z_iload_n O dL_seatAt_3 rfl ?_
  refine z_iload_n O dL_seatAt_4 rfl ?_
  refine z_callVX O (c_X7_seatAt hl hh hc) zI zm10_6 zm10_7 zm10_8 zm4_21 zm4_52 ⟨rfl, by decide +kernel, by decide +kernel, (show _ = some 2 by decide +kernel)⟩ rfl zg_x ⟨Nat.le_of_ble_eq_true rfl, Nat.le_of_ble_eq_true rfl⟩ ⟨Nat.le_of_ble_eq_true rfl, Nat.le_of_ble_eq_true rfl⟩ dL_seatAt_5 rfl (Nat.le_of_ble_eq_true rfl) (fun E w' ad' h => ?_) (fun r w1 ad1 hp => ?_)
  · obtain ⟨⟨rfl, rfl⟩, h1, h2⟩ := h
    obtain ⟨i, hi, hki⟩ : ∃ i, i < 1 ∧ (kSeat Z x y) = i + 1 := zPX_code h1 h2
    rw [hki] at h2
    have hE : ["java/lang/IndexOutOfBoundsException"][i]? = some E := h2
    have hi2 : i = 0 := by omega
    rcases hi2 with rfl
    · have hEi : "java/lang/IndexOutOfBoundsException" = E := Option.some.inj hE
      subst hEi
      refine ⟨13, ⟨[], ⟨0, 10, 13, 19⟩, [], rfl, (fun z hz => by cases hz), by decide +kernel, by decide, by decide, zm9_57, rfl⟩, fun q => ?_⟩
      refine z_astore O dL_seatAt_13 (by decide) ?_
      refine z_iconst O dL_seatAt_15 (v := 1) (by decide) ?_
      exact z_iret O dL_seatAt_16 (Nat.le_of_ble_eq_true rfl) (Nat.le_of_ble_eq_true rfl) (Or.inr ⟨by rw [hki]; omega, by rw [hki]; rfl, rfl, rfl⟩)
  · obtain ⟨hk0, rfl, rfl, rfl⟩ := hp
    refine z_i2l O dL_seatAt_8 rfl ?_
    refine z_last O dL_seatAt_9 zg_out 0 rfl (by decide) (by decide) zp_out ?_
    refine z_goto O dL_seatAt_10 (tgt := 17) (by decide) ?_
    refine z_iconst O dL_seatAt_17 (v := 0) (by decide) ?_
    exact z_iret O dL_seatAt_18 (Nat.le_of_ble_eq_true rfl) (Nat.le_of_ble_eq_true rfl) (Or.inl ⟨hk0, rfl, rfl, rfl⟩)

set_option maxRecDepth 100000 in
set_option maxHeartbeats 4000000 in
theorem c_L_addHand {G : zG} {l : Launch} (hl : l.stackTraces = false) {Z : zM} {sb : Nat → Option Nat} {mcn : Nat → Int32} {cp : Nat → Nat} {Y : zM} {th : Int32} {o : Nat → Int64} {od : Nat → UInt64} {ad : Nat → Nat} (hL0 : zLst Z cp 0) (hL1 : zLst Z cp 1) (hL2 : zLst Z cp 2) (hz2 : ∀ k, k < 80 → ∀ j, zh (Z 2 k) = some j → j < zN Z 0) (hsb : ∀ j k, j < zN Z 0 → sb j = some k → k < 80) (hcs : ∀ c, c < zN Z 2 → (Z 19 c).toNatClampNeg < zN Z 1) (hcap : zCap cp 0) {x s q p : Int32} (hcz : zChr x) : zCt G l yL_addHand (zwsH yL_addHand cL_addHand 7 (some .int) [(0, 14, 17, 13), (0, 14, 21, 40)]) ({ frames := 8, cells := 7, slots := 60, locals := 224 }) [.ref (ad 0), .int x, .int s, .int q, .int p, .ref (ad 340)] (zent Z sb mcn cp G.2.2.2.1 Y th o od ad) ad (fun r w1 ad1 => ((kAddHand Z x s q p) = 0 ∧ some (.int 0) = r ∧ ∃ c a2, (c = 10 ∨ c = 15) ∧ zN Z 0 + 1 ≤ c ∧ zent (zAH Z (zN Z 0) x s q p) (va_up sb (zN Z 0) none) (va_up mcn 0 (mcn 0 + 1)) (va_up cp 0 c) G.2.2.2.1 Y th (vp_updL o 0 (Z 25 0).toInt64) od a2 = w1 ∧ a2 = ad1 ∧ zAds (200 + 20 * 0 + zN Z 0) (8 + 0) ad a2) ∨ ((kAddHand Z x s q p) ≠ 0 ∧ some (.int (nI (kAddHand Z x s q p))) = r ∧ zent Z sb mcn cp G.2.2.2.1 Y th o od ad = w1 ∧ ad = ad1)) (zNoX) := by
  refine z_bodyH hl (by decide +kernel) (Nat.le_of_ble_eq_true rfl) (fun X O => ?_)
  refine z_aload O dL_addHand_0 rfl ?_
  refine z_iconst O dL_addHand_2 (v := 0) (by decide) ?_
  refine z_aload_n O dL_addHand_3 rfl ?_
  refine z_iload_n O dL_addHand_4 rfl ?_
  refine z_iload_n O dL_addHand_5 rfl ?_
  refine z_iload_n O dL_addHand_6 rfl ?_
  refine z_iload O dL_addHand_7 rfl ?_
  refine z_callVX O (c_X7_addHand hl hL0 hL1 hL2 hz2 hsb hcs hcap hcz) zI zm10_10 zm10_11 zm10_12 zm4_21 zm5_38 ⟨rfl, by decide +kernel, by decide +kernel, (show _ = some 4 by decide +kernel)⟩ rfl zg_x ⟨Nat.le_of_ble_eq_true rfl, Nat.le_of_ble_eq_true rfl⟩ ⟨Nat.le_of_ble_eq_true rfl, Nat.le_of_ble_eq_true rfl⟩ dL_addHand_9 rfl (Nat.le_of_ble_eq_true rfl) (fun E w' ad' h => ?_) (fun r w1 ad1 hp => ?_)
  · obtain ⟨⟨rfl, rfl⟩, h1, h2⟩ := h
    obtain ⟨i, hi, hki⟩ : ∃ i, i < 2 ∧ (kAddHand Z x s q p) = i + 1 := zPX_code h1 h2
    rw [hki] at h2
    have hE : ["java/lang/IllegalArgumentException", "java/lang/IllegalStateException"][i]? = some E := h2
    have hi2 : i = 0 ∨ i = 1 := by omega
    rcases hi2 with rfl | rfl
    · have hEi : "java/lang/IllegalArgumentException" = E := Option.some.inj hE
      subst hEi
      refine ⟨17, ⟨[], ⟨0, 14, 17, 13⟩, [⟨0, 14, 21, 40⟩], rfl, (fun z hz => by cases hz), by decide +kernel, by decide, by decide, zm9_52, rfl⟩, fun q => ?_⟩
      refine z_astore O dL_addHand_17 (by decide) ?_
      refine z_iconst O dL_addHand_19 (v := 1) (by decide) ?_
      exact z_iret O dL_addHand_20 (Nat.le_of_ble_eq_true rfl) (Nat.le_of_ble_eq_true rfl) (Or.inr ⟨by rw [hki]; omega, by rw [hki]; rfl, rfl, rfl⟩)
    · have hEi : "java/lang/IllegalStateException" = E := Option.some.inj hE
      subst hEi
      refine ⟨21, ⟨[⟨0, 14, 17, 13⟩], ⟨0, 14, 21, 40⟩, [], rfl, (fun z hz => by
          simp only [List.mem_cons, List.mem_nil_iff, or_false] at hz
          rcases hz with rfl
          · exact ⟨by decide, "java/lang/IllegalArgumentException", by decide +kernel, zm9_52, by decide +kernel⟩), by decide +kernel, by decide, by decide, zm10_9, rfl⟩, fun q => ?_⟩
      refine z_astore O dL_addHand_21 (by decide) ?_
      refine z_iconst O dL_addHand_23 (v := 2) (by decide) ?_
      exact z_iret O dL_addHand_24 (Nat.le_of_ble_eq_true rfl) (Nat.le_of_ble_eq_true rfl) (Or.inr ⟨by rw [hki]; omega, by rw [hki]; rfl, rfl, rfl⟩)
  · obtain ⟨c9, a2, hc9, hn9, hk0, rfl, rfl, rfl, hads⟩ := hp
    rw [← hads 340 (by omega) (by omega)]
    refine z_i2l O dL_addHand_12 rfl ?_
    refine z_last O dL_addHand_13 zg_out 0 rfl (by decide) (by decide) zp_out ?_
    refine z_goto O dL_addHand_14 (tgt := 25) (by decide) ?_
    refine z_iconst O dL_addHand_25 (v := 0) (by decide) ?_
    exact z_iret O dL_addHand_26 (Nat.le_of_ble_eq_true rfl) (Nat.le_of_ble_eq_true rfl) (Or.inl ⟨hk0, rfl, c9, a2, hc9, hn9, rfl, rfl, hads⟩)

set_option maxRecDepth 100000 in
set_option maxHeartbeats 4000000 in
theorem c_L_isSeated {G : zG} {l : Launch} (hl : l.stackTraces = false) {Z : zM} {sb : Nat → Option Nat} {mcn : Nat → Int32} {cp : Nat → Nat} {Y : zM} {th : Int32} {o : Nat → Int64} {od : Nat → UInt64} {ad : Nat → Nat} (hL : zLst Z cp 0) {x : Int32} : zCt G l yL_isSeated (zwsH yL_isSeated cL_isSeated 4 (some .int) [(0, 16, 19, 19)]) ({ frames := 8, cells := 1, slots := 6, locals := 124 }) [.ref (ad 0), .int x, .ref (ad 340)] (zent Z sb mcn cp G.2.2.2.1 Y th o od ad) ad (fun r w1 ad1 => ((kHand Z x) = 0 ∧ some (.int 0) = r ∧ zent Z sb mcn cp G.2.2.2.1 Y th (vp_updL o 0 (if (sb x.toNatClampNeg).isSome = true then 1 else 0)) od ad = w1 ∧ ad = ad1) ∨ ((kHand Z x) ≠ 0 ∧ some (.int (nI (kHand Z x))) = r ∧ zent Z sb mcn cp G.2.2.2.1 Y th o od ad = w1 ∧ ad = ad1)) (zNoX) := by
  refine z_bodyH hl (by decide +kernel) (Nat.le_of_ble_eq_true rfl) (fun X O => ?_)
  refine z_aload_n O dL_isSeated_0 rfl ?_
  refine z_iconst O dL_isSeated_1 (v := 0) (by decide) ?_
  refine z_aload_n O dL_isSeated_2 rfl ?_
  refine z_iload_n O dL_isSeated_3 rfl ?_
  refine z_callVX O (c_X7_isSeated hl hL) zI zm10_14 zm10_15 zm10_16 zm4_21 zm5_39 ⟨rfl, by decide +kernel, by decide +kernel, (show _ = some 1 by decide +kernel)⟩ rfl zg_x ⟨Nat.le_of_ble_eq_true rfl, Nat.le_of_ble_eq_true rfl⟩ ⟨Nat.le_of_ble_eq_true rfl, Nat.le_of_ble_eq_true rfl⟩ dL_isSeated_4 rfl (Nat.le_of_ble_eq_true rfl) (fun E w' ad' h => ?_) (fun r w1 ad1 hp => ?_)
  · obtain ⟨⟨rfl, rfl⟩, h1, h2⟩ := h
    obtain ⟨i, hi, hki⟩ : ∃ i, i < 1 ∧ (kHand Z x) = i + 1 := zPX_code h1 h2
    rw [hki] at h2
    have hE : ["java/lang/IndexOutOfBoundsException"][i]? = some E := h2
    have hi2 : i = 0 := by omega
    rcases hi2 with rfl
    · have hEi : "java/lang/IndexOutOfBoundsException" = E := Option.some.inj hE
      subst hEi
      refine ⟨19, ⟨[], ⟨0, 16, 19, 19⟩, [], rfl, (fun z hz => by cases hz), by decide +kernel, by decide, by decide, zm9_57, rfl⟩, fun q => ?_⟩
      refine z_astore_n O dL_isSeated_19 (by decide) ?_
      refine z_iconst O dL_isSeated_20 (v := 1) (by decide) ?_
      exact z_iret O dL_isSeated_21 (Nat.le_of_ble_eq_true rfl) (Nat.le_of_ble_eq_true rfl) (Or.inr ⟨by rw [hki]; omega, by rw [hki]; rfl, rfl, rfl⟩)
  · obtain ⟨hk0, rfl, rfl, rfl⟩ := hp
    by_cases hv : (sb x.toNatClampNeg).isSome = true
    · rw [if_pos hv] at O ⊢
      refine z_if_eq O dL_isSeated_7 (tgt := 14) (by decide) (fun q => absurd q (by decide)) (fun _ => ?_)
      refine z_lconst O dL_isSeated_10 (v := 1) (by decide) ?_
      refine z_goto O dL_isSeated_11 (tgt := 15) (by decide) ?_
      refine z_last O dL_isSeated_15 zg_out 0 rfl (by decide) (by decide) zp_out ?_
      refine z_goto O dL_isSeated_16 (tgt := 22) (by decide) ?_
      refine z_iconst O dL_isSeated_22 (v := 0) (by decide) ?_
      exact z_iret O dL_isSeated_23 (Nat.le_of_ble_eq_true rfl) (Nat.le_of_ble_eq_true rfl) (Or.inl ⟨hk0, rfl, rfl, rfl⟩)
    · rw [if_neg hv] at O ⊢
      refine z_if_eq O dL_isSeated_7 (tgt := 14) (by decide) (fun _ => ?_) (fun q => absurd rfl q)
      refine z_lconst O dL_isSeated_14 (v := 0) (by decide) ?_
      refine z_last O dL_isSeated_15 zg_out 0 rfl (by decide) (by decide) zp_out ?_
      refine z_goto O dL_isSeated_16 (tgt := 22) (by decide) ?_
      refine z_iconst O dL_isSeated_22 (v := 0) (by decide) ?_
      exact z_iret O dL_isSeated_23 (Nat.le_of_ble_eq_true rfl) (Nat.le_of_ble_eq_true rfl) (Or.inl ⟨hk0, rfl, rfl, rfl⟩)

set_option maxRecDepth 100000 in
set_option maxHeartbeats 4000000 in
theorem c_L_addSinger {G : zG} {l : Launch} (hl : l.stackTraces = false) {Z : zM} {sb : Nat → Option Nat} {mcn : Nat → Int32} {cp : Nat → Nat} {Y : zM} {th : Int32} {o : Nat → Int64} {od : Nat → UInt64} {ad : Nat → Nat} (hL0 : zLst Z cp 0) (hL1 : zLst Z cp 1) (hL2 : zLst Z cp 2) (hz2 : ∀ k, k < 80 → ∀ j, zh (Z 2 k) = some j → j < zN Z 0) (hsb : ∀ j k, j < zN Z 0 → sb j = some k → k < 80) (hcs : ∀ c, c < zN Z 2 → (Z 19 c).toNatClampNeg < zN Z 1) (hcap : zCap cp 1) {x y : Int32} : zCt G l yL_addSinger (zwsH yL_addSinger cL_addSinger 5 (some .int) [(0, 10, 13, 13), (0, 10, 17, 40)]) ({ frames := 8, cells := 7, slots := 60, locals := 222 }) [.ref (ad 0), .int x, .int y, .ref (ad 340)] (zent Z sb mcn cp G.2.2.2.1 Y th o od ad) ad (fun r w1 ad1 => ((kAddSing Z x y) = 0 ∧ some (.int 0) = r ∧ ∃ c a2, (c = 10 ∨ c = 15) ∧ zN Z 1 + 1 ≤ c ∧ zent (zAS Z (zN Z 1) x y) sb (va_up mcn 1 (mcn 1 + 1)) (va_up cp 1 c) G.2.2.2.1 Y th (vp_updL o 0 (Z 26 0).toInt64) od a2 = w1 ∧ a2 = ad1 ∧ zAds (200 + 20 * 1 + zN Z 1) (8 + 1) ad a2) ∨ ((kAddSing Z x y) ≠ 0 ∧ some (.int (nI (kAddSing Z x y))) = r ∧ zent Z sb mcn cp G.2.2.2.1 Y th o od ad = w1 ∧ ad = ad1)) (zNoX) := by
  refine z_bodyH hl (by decide +kernel) (Nat.le_of_ble_eq_true rfl) (fun X O => ?_)
  refine z_aload_n O dL_addSinger_0 rfl ?_
  refine z_iconst O dL_addSinger_1 (v := 0) (by decide) ?_
  refine z_aload_n O dL_addSinger_2 rfl ?_
  refine z_iload_n O dL_addSinger_3 rfl ?_
  refine z_iload_n O dL_addSinger_4 rfl ?_
  refine z_callVX O (c_X7_addSinger hl hL0 hL1 hL2 hz2 hsb hcs hcap) zI zm10_18 zm10_19 zm10_20 zm4_21 zm5_45 ⟨rfl, by decide +kernel, by decide +kernel, (show _ = some 2 by decide +kernel)⟩ rfl zg_x ⟨Nat.le_of_ble_eq_true rfl, Nat.le_of_ble_eq_true rfl⟩ ⟨Nat.le_of_ble_eq_true rfl, Nat.le_of_ble_eq_true rfl⟩ dL_addSinger_5 rfl (Nat.le_of_ble_eq_true rfl) (fun E w' ad' h => ?_) (fun r w1 ad1 hp => ?_)
  · obtain ⟨⟨rfl, rfl⟩, h1, h2⟩ := h
    obtain ⟨i, hi, hki⟩ : ∃ i, i < 2 ∧ (kAddSing Z x y) = i + 1 := zPX_code h1 h2
    rw [hki] at h2
    have hE : ["java/lang/IllegalArgumentException", "java/lang/IllegalStateException"][i]? = some E := h2
    have hi2 : i = 0 ∨ i = 1 := by omega
    rcases hi2 with rfl | rfl
    · have hEi : "java/lang/IllegalArgumentException" = E := Option.some.inj hE
      subst hEi
      refine ⟨13, ⟨[], ⟨0, 10, 13, 13⟩, [⟨0, 10, 17, 40⟩], rfl, (fun z hz => by cases hz), by decide +kernel, by decide, by decide, zm9_52, rfl⟩, fun q => ?_⟩
      refine z_astore O dL_addSinger_13 (by decide) ?_
      refine z_iconst O dL_addSinger_15 (v := 1) (by decide) ?_
      exact z_iret O dL_addSinger_16 (Nat.le_of_ble_eq_true rfl) (Nat.le_of_ble_eq_true rfl) (Or.inr ⟨by rw [hki]; omega, by rw [hki]; rfl, rfl, rfl⟩)
    · have hEi : "java/lang/IllegalStateException" = E := Option.some.inj hE
      subst hEi
      refine ⟨17, ⟨[⟨0, 10, 13, 13⟩], ⟨0, 10, 17, 40⟩, [], rfl, (fun z hz => by
          simp only [List.mem_cons, List.mem_nil_iff, or_false] at hz
          rcases hz with rfl
          · exact ⟨by decide, "java/lang/IllegalArgumentException", by decide +kernel, zm9_52, by decide +kernel⟩), by decide +kernel, by decide, by decide, zm10_9, rfl⟩, fun q => ?_⟩
      refine z_astore O dL_addSinger_17 (by decide) ?_
      refine z_iconst O dL_addSinger_19 (v := 2) (by decide) ?_
      exact z_iret O dL_addSinger_20 (Nat.le_of_ble_eq_true rfl) (Nat.le_of_ble_eq_true rfl) (Or.inr ⟨by rw [hki]; omega, by rw [hki]; rfl, rfl, rfl⟩)
  · obtain ⟨c9, a2, hc9, hn9, hk0, rfl, rfl, rfl, hads⟩ := hp
    rw [← hads 340 (by omega) (by omega)]
    refine z_i2l O dL_addSinger_8 rfl ?_
    refine z_last O dL_addSinger_9 zg_out 0 rfl (by decide) (by decide) zp_out ?_
    refine z_goto O dL_addSinger_10 (tgt := 21) (by decide) ?_
    refine z_iconst O dL_addSinger_21 (v := 0) (by decide) ?_
    exact z_iret O dL_addSinger_22 (Nat.le_of_ble_eq_true rfl) (Nat.le_of_ble_eq_true rfl) (Or.inl ⟨hk0, rfl, c9, a2, hc9, hn9, rfl, rfl, hads⟩)

set_option maxRecDepth 100000 in
set_option maxHeartbeats 4000000 in
theorem c_L_addCue {G : zG} {l : Launch} (hl : l.stackTraces = false) {Z : zM} {sb : Nat → Option Nat} {mcn : Nat → Int32} {cp : Nat → Nat} {Y : zM} {th : Int32} {o : Nat → Int64} {od : Nat → UInt64} {ad : Nat → Nat} (hL0 : zLst Z cp 0) (hL1 : zLst Z cp 1) (hL2 : zLst Z cp 2) (hz2 : ∀ k, k < 80 → ∀ j, zh (Z 2 k) = some j → j < zN Z 0) (hsb : ∀ j k, j < zN Z 0 → sb j = some k → k < 80) (hcs : ∀ c, c < zN Z 2 → (Z 19 c).toNatClampNeg < zN Z 1) (hcap : zCap cp 2) {s x t f m : Int32} (hcz : zChr x) : zCt G l yL_addCue (zwsH yL_addCue cL_addCue 8 (some .int) [(0, 16, 19, 19), (0, 16, 23, 13), (0, 16, 27, 28), (0, 16, 31, 40)]) ({ frames := 8, cells := 9, slots := 60, locals := 226 }) [.ref (ad 0), .int s, .int x, .int t, .int f, .int m, .ref (ad 340)] (zent Z sb mcn cp G.2.2.2.1 Y th o od ad) ad (fun r w1 ad1 => ((kAddCue Z s x t f m) = 0 ∧ some (.int 0) = r ∧ ∃ c a2, (c = 10 ∨ c = 15) ∧ zN Z 2 + 1 ≤ c ∧ zent (zAC Z (zN Z 2) s x t f m) sb (va_up mcn 2 (mcn 2 + 1)) (va_up cp 2 c) G.2.2.2.1 Y th (vp_updL o 0 (Z 27 0).toInt64) od a2 = w1 ∧ a2 = ad1 ∧ zAds (200 + 20 * 2 + zN Z 2) (8 + 2) ad a2) ∨ ((kAddCue Z s x t f m) ≠ 0 ∧ some (.int (nI (kAddCue Z s x t f m))) = r ∧ zent Z sb mcn cp G.2.2.2.1 Y th o od ad = w1 ∧ ad = ad1)) (zNoX) := by
  refine z_bodyH hl (by decide +kernel) (Nat.le_of_ble_eq_true rfl) (fun X O => ?_)
  refine z_aload O dL_addCue_0 rfl ?_
  refine z_iconst O dL_addCue_2 (v := 0) (by decide) ?_
  refine z_aload_n O dL_addCue_3 rfl ?_
  refine z_iload_n O dL_addCue_4 rfl ?_
  refine z_iload_n O dL_addCue_5 rfl ?_
  refine z_iload_n O dL_addCue_6 rfl ?_
  refine z_iload O dL_addCue_7 rfl ?_
  refine z_iload O dL_addCue_9 rfl ?_
  refine z_callVX O (c_X7_addCue hl hL0 hL1 hL2 hz2 hsb hcs hcap hcz) zI zm10_22 zm10_23 zm10_24 zm4_21 zm5_56 ⟨rfl, by decide +kernel, by decide +kernel, (show _ = some 5 by decide +kernel)⟩ rfl zg_x ⟨Nat.le_of_ble_eq_true rfl, Nat.le_of_ble_eq_true rfl⟩ ⟨Nat.le_of_ble_eq_true rfl, Nat.le_of_ble_eq_true rfl⟩ dL_addCue_11 rfl (Nat.le_of_ble_eq_true rfl) (fun E w' ad' h => ?_) (fun r w1 ad1 hp => ?_)
  · obtain ⟨⟨rfl, rfl⟩, h1, h2⟩ := h
    obtain ⟨i, hi, hki⟩ : ∃ i, i < 4 ∧ (kAddCue Z s x t f m) = i + 1 := zPX_code h1 h2
    rw [hki] at h2
    have hE : ["java/lang/IndexOutOfBoundsException", "java/lang/IllegalArgumentException", "java/lang/UnsupportedOperationException", "java/lang/IllegalStateException"][i]? = some E := h2
    have hi2 : i = 0 ∨ i = 1 ∨ i = 2 ∨ i = 3 := by omega
    rcases hi2 with rfl | rfl | rfl | rfl
    · have hEi : "java/lang/IndexOutOfBoundsException" = E := Option.some.inj hE
      subst hEi
      refine ⟨19, ⟨[], ⟨0, 16, 19, 19⟩, [⟨0, 16, 23, 13⟩, ⟨0, 16, 27, 28⟩, ⟨0, 16, 31, 40⟩], rfl, (fun z hz => by cases hz), by decide +kernel, by decide, by decide, zm9_57, rfl⟩, fun q => ?_⟩
      refine z_astore O dL_addCue_19 (by decide) ?_
      refine z_iconst O dL_addCue_21 (v := 1) (by decide) ?_
      exact z_iret O dL_addCue_22 (Nat.le_of_ble_eq_true rfl) (Nat.le_of_ble_eq_true rfl) (Or.inr ⟨by rw [hki]; omega, by rw [hki]; rfl, rfl, rfl⟩)
    · have hEi : "java/lang/IllegalArgumentException" = E := Option.some.inj hE
      subst hEi
      refine ⟨23, ⟨[⟨0, 16, 19, 19⟩], ⟨0, 16, 23, 13⟩, [⟨0, 16, 27, 28⟩, ⟨0, 16, 31, 40⟩], rfl, (fun z hz => by
          simp only [List.mem_cons, List.mem_nil_iff, or_false] at hz
          rcases hz with rfl
          · exact ⟨by decide, "java/lang/IndexOutOfBoundsException", by decide +kernel, zm9_57, by decide +kernel⟩), by decide +kernel, by decide, by decide, zm9_52, rfl⟩, fun q => ?_⟩
      refine z_astore O dL_addCue_23 (by decide) ?_
      refine z_iconst O dL_addCue_25 (v := 2) (by decide) ?_
      exact z_iret O dL_addCue_26 (Nat.le_of_ble_eq_true rfl) (Nat.le_of_ble_eq_true rfl) (Or.inr ⟨by rw [hki]; omega, by rw [hki]; rfl, rfl, rfl⟩)
    · have hEi : "java/lang/UnsupportedOperationException" = E := Option.some.inj hE
      subst hEi
      refine ⟨27, ⟨[⟨0, 16, 19, 19⟩, ⟨0, 16, 23, 13⟩], ⟨0, 16, 27, 28⟩, [⟨0, 16, 31, 40⟩], rfl, (fun z hz => by
          simp only [List.mem_cons, List.mem_nil_iff, or_false] at hz
          rcases hz with rfl | rfl
          · exact ⟨by decide, "java/lang/IndexOutOfBoundsException", by decide +kernel, zm9_57, by decide +kernel⟩
          · exact ⟨by decide, "java/lang/IllegalArgumentException", by decide +kernel, zm9_52, by decide +kernel⟩), by decide +kernel, by decide, by decide, zm9_66, rfl⟩, fun q => ?_⟩
      refine z_astore O dL_addCue_27 (by decide) ?_
      refine z_iconst O dL_addCue_29 (v := 3) (by decide) ?_
      exact z_iret O dL_addCue_30 (Nat.le_of_ble_eq_true rfl) (Nat.le_of_ble_eq_true rfl) (Or.inr ⟨by rw [hki]; omega, by rw [hki]; rfl, rfl, rfl⟩)
    · have hEi : "java/lang/IllegalStateException" = E := Option.some.inj hE
      subst hEi
      refine ⟨31, ⟨[⟨0, 16, 19, 19⟩, ⟨0, 16, 23, 13⟩, ⟨0, 16, 27, 28⟩], ⟨0, 16, 31, 40⟩, [], rfl, (fun z hz => by
          simp only [List.mem_cons, List.mem_nil_iff, or_false] at hz
          rcases hz with rfl | rfl | rfl
          · exact ⟨by decide, "java/lang/IndexOutOfBoundsException", by decide +kernel, zm9_57, by decide +kernel⟩
          · exact ⟨by decide, "java/lang/IllegalArgumentException", by decide +kernel, zm9_52, by decide +kernel⟩
          · exact ⟨by decide, "java/lang/UnsupportedOperationException", by decide +kernel, zm9_66, by decide +kernel⟩), by decide +kernel, by decide, by decide, zm10_9, rfl⟩, fun q => ?_⟩
      refine z_astore O dL_addCue_31 (by decide) ?_
      refine z_iconst O dL_addCue_33 (v := 4) (by decide) ?_
      exact z_iret O dL_addCue_34 (Nat.le_of_ble_eq_true rfl) (Nat.le_of_ble_eq_true rfl) (Or.inr ⟨by rw [hki]; omega, by rw [hki]; rfl, rfl, rfl⟩)
  · obtain ⟨c9, a2, hc9, hn9, hk0, rfl, rfl, rfl, hads⟩ := hp
    rw [← hads 340 (by omega) (by omega)]
    refine z_i2l O dL_addCue_14 rfl ?_
    refine z_last O dL_addCue_15 zg_out 0 rfl (by decide) (by decide) zp_out ?_
    refine z_goto O dL_addCue_16 (tgt := 35) (by decide) ?_
    refine z_iconst O dL_addCue_35 (v := 0) (by decide) ?_
    exact z_iret O dL_addCue_36 (Nat.le_of_ble_eq_true rfl) (Nat.le_of_ble_eq_true rfl) (Or.inl ⟨hk0, rfl, c9, a2, hc9, hn9, rfl, rfl, hads⟩)

set_option maxRecDepth 100000 in
set_option maxHeartbeats 4000000 in
theorem c_L_setLevel {G : zG} {l : Launch} (hl : l.stackTraces = false) {Z : zM} {sb : Nat → Option Nat} {mcn : Nat → Int32} {cp : Nat → Nat} {Y : zM} {th : Int32} {o : Nat → Int64} {od : Nat → UInt64} {ad : Nat → Nat} {x : Int32} : zCt G l yL_setLevel (zwsH yL_setLevel cL_setLevel 4 (some .int) [(0, 9, 12, 13)]) ({ frames := 8, cells := 1, slots := 6, locals := 126 }) [.ref (ad 0), .int x, .ref (ad 340)] (zent Z sb mcn cp G.2.2.2.1 Y th o od ad) ad (fun r w1 ad1 => ((kLevel x) = 0 ∧ some (.int 0) = r ∧ zent (zu Z 28 0 x) sb mcn cp G.2.2.2.1 Y th (vp_updL o 0 (Z 28 0).toInt64) od ad = w1 ∧ ad = ad1) ∨ ((kLevel x) ≠ 0 ∧ some (.int (nI (kLevel x))) = r ∧ zent Z sb mcn cp G.2.2.2.1 Y th o od ad = w1 ∧ ad = ad1)) (zNoX) := by
  refine z_bodyH hl (by decide +kernel) (Nat.le_of_ble_eq_true rfl) (fun X O => ?_)
  refine z_aload_n O dL_setLevel_0 rfl ?_
  refine z_iconst O dL_setLevel_1 (v := 0) (by decide) ?_
  refine z_aload_n O dL_setLevel_2 rfl ?_
  refine z_iload_n O dL_setLevel_3 rfl ?_
  refine z_callVX O (c_X7_setLevel hl) zI zm10_27 zm10_28 zm10_29 zm4_21 zm5_57 ⟨rfl, by decide +kernel, by decide +kernel, (show _ = some 1 by decide +kernel)⟩ rfl zg_x ⟨Nat.le_of_ble_eq_true rfl, Nat.le_of_ble_eq_true rfl⟩ ⟨Nat.le_of_ble_eq_true rfl, Nat.le_of_ble_eq_true rfl⟩ dL_setLevel_4 rfl (Nat.le_of_ble_eq_true rfl) (fun E w' ad' h => ?_) (fun r w1 ad1 hp => ?_)
  · obtain ⟨⟨rfl, rfl⟩, h1, h2⟩ := h
    obtain ⟨i, hi, hki⟩ : ∃ i, i < 1 ∧ (kLevel x) = i + 1 := zPX_code h1 h2
    rw [hki] at h2
    have hE : ["java/lang/IllegalArgumentException"][i]? = some E := h2
    have hi2 : i = 0 := by omega
    rcases hi2 with rfl
    · have hEi : "java/lang/IllegalArgumentException" = E := Option.some.inj hE
      subst hEi
      refine ⟨12, ⟨[], ⟨0, 9, 12, 13⟩, [], rfl, (fun z hz => by cases hz), by decide +kernel, by decide, by decide, zm9_52, rfl⟩, fun q => ?_⟩
      refine z_astore_n O dL_setLevel_12 (by decide) ?_
      refine z_iconst O dL_setLevel_13 (v := 1) (by decide) ?_
      exact z_iret O dL_setLevel_14 (Nat.le_of_ble_eq_true rfl) (Nat.le_of_ble_eq_true rfl) (Or.inr ⟨by rw [hki]; omega, by rw [hki]; rfl, rfl, rfl⟩)
  · obtain ⟨hk0, rfl, rfl, rfl⟩ := hp
    refine z_i2l O dL_setLevel_7 rfl ?_
    refine z_last O dL_setLevel_8 zg_out 0 rfl (by decide) (by decide) zp_out ?_
    refine z_goto O dL_setLevel_9 (tgt := 15) (by decide) ?_
    refine z_iconst O dL_setLevel_15 (v := 0) (by decide) ?_
    exact z_iret O dL_setLevel_16 (Nat.le_of_ble_eq_true rfl) (Nat.le_of_ble_eq_true rfl) (Or.inl ⟨hk0, rfl, rfl, rfl⟩)

set_option maxRecDepth 100000 in
set_option maxHeartbeats 4000000 in
theorem c_L_run {G : zG} {l : Launch} (hl : l.stackTraces = false) {Z : zM} {sb : Nat → Option Nat} {mcn : Nat → Int32} {cp : Nat → Nat} {Y : zM} {th : Int32} {o : Nat → Int64} {od : Nat → UInt64} {ad : Nat → Nat} (hv : zInv Z cp) (hb7 : ∀ k, zBol (Z 7 k)) {x : Int32} : zCt G l yL_run (zwsH yL_run cL_run 4 (some .int) [(0, 9, 12, 13), (0, 9, 15, 40)]) ({ frames := 8, cells := 2, slots := 12, locals := 157 }) [.ref (ad 0), .int x, .ref (ad 340)] (zent Z sb mcn cp G.2.2.2.1 Y th o od ad) ad (fun r w1 ad1 => ((kRun Z x) = 0 ∧ some (.int 0) = r ∧ zent (fRun Z x.toNatClampNeg) sb mcn cp G.2.2.2.1 Y th (vp_updL o 0 (fRun Z x.toNatClampNeg 29 0).toInt64) od ad = w1 ∧ ad = ad1) ∨ ((kRun Z x) ≠ 0 ∧ some (.int (nI (kRun Z x))) = r ∧ zent Z sb mcn cp G.2.2.2.1 Y th o od ad = w1 ∧ ad = ad1)) (zNoX) := by
  refine z_bodyH hl (by decide +kernel) (Nat.le_of_ble_eq_true rfl) (fun X O => ?_)
  refine z_aload_n O dL_run_0 rfl ?_
  refine z_iconst O dL_run_1 (v := 0) (by decide) ?_
  refine z_aload_n O dL_run_2 rfl ?_
  refine z_iload_n O dL_run_3 rfl ?_
  refine z_callVX O (c_X7_run hl hv hb7) zI zm10_30 zm10_31 zm10_32 zm4_21 zm5_67 ⟨rfl, by decide +kernel, by decide +kernel, (show _ = some 1 by decide +kernel)⟩ rfl zg_x ⟨Nat.le_of_ble_eq_true rfl, Nat.le_of_ble_eq_true rfl⟩ ⟨Nat.le_of_ble_eq_true rfl, Nat.le_of_ble_eq_true rfl⟩ dL_run_4 rfl (Nat.le_of_ble_eq_true rfl) (fun E w' ad' h => ?_) (fun r w1 ad1 hp => ?_)
  · obtain ⟨⟨rfl, rfl⟩, h1, h2⟩ := h
    obtain ⟨i, hi, hki⟩ : ∃ i, i < 2 ∧ (kRun Z x) = i + 1 := zPX_code h1 h2
    rw [hki] at h2
    have hE : ["java/lang/IllegalArgumentException", "java/lang/IllegalStateException"][i]? = some E := h2
    have hi2 : i = 0 ∨ i = 1 := by omega
    rcases hi2 with rfl | rfl
    · have hEi : "java/lang/IllegalArgumentException" = E := Option.some.inj hE
      subst hEi
      refine ⟨12, ⟨[], ⟨0, 9, 12, 13⟩, [⟨0, 9, 15, 40⟩], rfl, (fun z hz => by cases hz), by decide +kernel, by decide, by decide, zm9_52, rfl⟩, fun q => ?_⟩
      refine z_astore_n O dL_run_12 (by decide) ?_
      refine z_iconst O dL_run_13 (v := 1) (by decide) ?_
      exact z_iret O dL_run_14 (Nat.le_of_ble_eq_true rfl) (Nat.le_of_ble_eq_true rfl) (Or.inr ⟨by rw [hki]; omega, by rw [hki]; rfl, rfl, rfl⟩)
    · have hEi : "java/lang/IllegalStateException" = E := Option.some.inj hE
      subst hEi
      refine ⟨15, ⟨[⟨0, 9, 12, 13⟩], ⟨0, 9, 15, 40⟩, [], rfl, (fun z hz => by
          simp only [List.mem_cons, List.mem_nil_iff, or_false] at hz
          rcases hz with rfl
          · exact ⟨by decide, "java/lang/IllegalArgumentException", by decide +kernel, zm9_52, by decide +kernel⟩), by decide +kernel, by decide, by decide, zm10_9, rfl⟩, fun q => ?_⟩
      refine z_astore_n O dL_run_15 (by decide) ?_
      refine z_iconst O dL_run_16 (v := 2) (by decide) ?_
      exact z_iret O dL_run_17 (Nat.le_of_ble_eq_true rfl) (Nat.le_of_ble_eq_true rfl) (Or.inr ⟨by rw [hki]; omega, by rw [hki]; rfl, rfl, rfl⟩)
  · obtain ⟨hk0, rfl, rfl, rfl⟩ := hp
    refine z_i2l O dL_run_7 rfl ?_
    refine z_last O dL_run_8 zg_out 0 rfl (by decide) (by decide) zp_out ?_
    refine z_goto O dL_run_9 (tgt := 18) (by decide) ?_
    refine z_iconst O dL_run_18 (v := 0) (by decide) ?_
    exact z_iret O dL_run_19 (Nat.le_of_ble_eq_true rfl) (Nat.le_of_ble_eq_true rfl) (Or.inl ⟨hk0, rfl, rfl, rfl⟩)

set_option maxRecDepth 100000 in
set_option maxHeartbeats 4000000 in
theorem c_L_noiseAt {G : zG} {l : Launch} (hl : l.stackTraces = false) {Z : zM} {sb : Nat → Option Nat} {mcn : Nat → Int32} {cp : Nat → Nat} {Y : zM} {th : Int32} {o : Nat → Int64} {od : Nat → UInt64} {ad : Nat → Nat} (hh : zHouse Z) {x y : Int32} : zCt G l yL_noiseAt (zwsH yL_noiseAt cL_noiseAt 5 (some .int) [(0, 10, 13, 19)]) ({ frames := 8, cells := 1, slots := 6, locals := 127 }) [.ref (ad 0), .int x, .int y, .ref (ad 340)] (zent Z sb mcn cp G.2.2.2.1 Y th o od ad) ad (fun r w1 ad1 => ((kSeat Z x y) = 0 ∧ some (.int 0) = r ∧ zent Z sb mcn cp G.2.2.2.1 Y th (vp_updL o 0 (Z 3 (fAt x y)).toInt64) od ad = w1 ∧ ad = ad1) ∨ ((kSeat Z x y) ≠ 0 ∧ some (.int (nI (kSeat Z x y))) = r ∧ zent Z sb mcn cp G.2.2.2.1 Y th o od ad = w1 ∧ ad = ad1)) (zNoX) := by
  refine z_bodyH hl (by decide +kernel) (Nat.le_of_ble_eq_true rfl) (fun X O => ?_)
  refine z_aload_n O dL_noiseAt_0 rfl ?_
  refine z_iconst O dL_noiseAt_1 (v := 0) (by decide) ?_
  refine z_aload_n O dL_noiseAt_2 rfl ?_
  refine z_iload_n O dL_noiseAt_3 rfl ?_
  refine z_iload_n O dL_noiseAt_4 rfl ?_
  refine z_callVX O (c_X7_noiseAt hl hh) zI zm10_35 zm10_36 zm10_37 zm4_21 zm5_68 ⟨rfl, by decide +kernel, by decide +kernel, (show _ = some 2 by decide +kernel)⟩ rfl zg_x ⟨Nat.le_of_ble_eq_true rfl, Nat.le_of_ble_eq_true rfl⟩ ⟨Nat.le_of_ble_eq_true rfl, Nat.le_of_ble_eq_true rfl⟩ dL_noiseAt_5 rfl (Nat.le_of_ble_eq_true rfl) (fun E w' ad' h => ?_) (fun r w1 ad1 hp => ?_)
  · obtain ⟨⟨rfl, rfl⟩, h1, h2⟩ := h
    obtain ⟨i, hi, hki⟩ : ∃ i, i < 1 ∧ (kSeat Z x y) = i + 1 := zPX_code h1 h2
    rw [hki] at h2
    have hE : ["java/lang/IndexOutOfBoundsException"][i]? = some E := h2
    have hi2 : i = 0 := by omega
    rcases hi2 with rfl
    · have hEi : "java/lang/IndexOutOfBoundsException" = E := Option.some.inj hE
      subst hEi
      refine ⟨13, ⟨[], ⟨0, 10, 13, 19⟩, [], rfl, (fun z hz => by cases hz), by decide +kernel, by decide, by decide, zm9_57, rfl⟩, fun q => ?_⟩
      refine z_astore O dL_noiseAt_13 (by decide) ?_
      refine z_iconst O dL_noiseAt_15 (v := 1) (by decide) ?_
      exact z_iret O dL_noiseAt_16 (Nat.le_of_ble_eq_true rfl) (Nat.le_of_ble_eq_true rfl) (Or.inr ⟨by rw [hki]; omega, by rw [hki]; rfl, rfl, rfl⟩)
  · obtain ⟨hk0, rfl, rfl, rfl⟩ := hp
    refine z_i2l O dL_noiseAt_8 rfl ?_
    refine z_last O dL_noiseAt_9 zg_out 0 rfl (by decide) (by decide) zp_out ?_
    refine z_goto O dL_noiseAt_10 (tgt := 17) (by decide) ?_
    refine z_iconst O dL_noiseAt_17 (v := 0) (by decide) ?_
    exact z_iret O dL_noiseAt_18 (Nat.le_of_ble_eq_true rfl) (Nat.le_of_ble_eq_true rfl) (Or.inl ⟨hk0, rfl, rfl, rfl⟩)

set_option maxRecDepth 100000 in
set_option maxHeartbeats 4000000 in
theorem c_L_tiredness {G : zG} {l : Launch} (hl : l.stackTraces = false) {Z : zM} {sb : Nat → Option Nat} {mcn : Nat → Int32} {cp : Nat → Nat} {Y : zM} {th : Int32} {o : Nat → Int64} {od : Nat → UInt64} {ad : Nat → Nat} (hh : zHouse Z) {x y : Int32} : zCt G l yL_tiredness (zwsH yL_tiredness cL_tiredness 5 (some .int) [(0, 10, 13, 19), (0, 10, 17, 28)]) ({ frames := 8, cells := 2, slots := 12, locals := 128 }) [.ref (ad 0), .int x, .int y, .ref (ad 340)] (zent Z sb mcn cp G.2.2.2.1 Y th o od ad) ad (fun r w1 ad1 => ((kTired Z x y) = 0 ∧ some (.int 0) = r ∧ zent Z sb mcn cp G.2.2.2.1 Y th (vp_updL o 0 (Z 4 (fAt x y) / 10).toInt64) od ad = w1 ∧ ad = ad1) ∨ ((kTired Z x y) ≠ 0 ∧ some (.int (nI (kTired Z x y))) = r ∧ zent Z sb mcn cp G.2.2.2.1 Y th o od ad = w1 ∧ ad = ad1)) (zNoX) := by
  refine z_bodyH hl (by decide +kernel) (Nat.le_of_ble_eq_true rfl) (fun X O => ?_)
  refine z_aload_n O dL_tiredness_0 rfl ?_
  refine z_iconst O dL_tiredness_1 (v := 0) (by decide) ?_
  refine z_aload_n O dL_tiredness_2 rfl ?_
  refine z_iload_n O dL_tiredness_3 rfl ?_
  refine z_iload_n O dL_tiredness_4 rfl ?_
  refine z_callVX O (c_X7_tiredness hl hh) zI zm10_38 zm10_39 zm10_40 zm4_21 zm6_9 ⟨rfl, by decide +kernel, by decide +kernel, (show _ = some 2 by decide +kernel)⟩ rfl zg_x ⟨Nat.le_of_ble_eq_true rfl, Nat.le_of_ble_eq_true rfl⟩ ⟨Nat.le_of_ble_eq_true rfl, Nat.le_of_ble_eq_true rfl⟩ dL_tiredness_5 rfl (Nat.le_of_ble_eq_true rfl) (fun E w' ad' h => ?_) (fun r w1 ad1 hp => ?_)
  · obtain ⟨⟨rfl, rfl⟩, h1, h2⟩ := h
    obtain ⟨i, hi, hki⟩ : ∃ i, i < 2 ∧ (kTired Z x y) = i + 1 := zPX_code h1 h2
    rw [hki] at h2
    have hE : ["java/lang/IndexOutOfBoundsException", "java/lang/UnsupportedOperationException"][i]? = some E := h2
    have hi2 : i = 0 ∨ i = 1 := by omega
    rcases hi2 with rfl | rfl
    · have hEi : "java/lang/IndexOutOfBoundsException" = E := Option.some.inj hE
      subst hEi
      refine ⟨13, ⟨[], ⟨0, 10, 13, 19⟩, [⟨0, 10, 17, 28⟩], rfl, (fun z hz => by cases hz), by decide +kernel, by decide, by decide, zm9_57, rfl⟩, fun q => ?_⟩
      refine z_astore O dL_tiredness_13 (by decide) ?_
      refine z_iconst O dL_tiredness_15 (v := 1) (by decide) ?_
      exact z_iret O dL_tiredness_16 (Nat.le_of_ble_eq_true rfl) (Nat.le_of_ble_eq_true rfl) (Or.inr ⟨by rw [hki]; omega, by rw [hki]; rfl, rfl, rfl⟩)
    · have hEi : "java/lang/UnsupportedOperationException" = E := Option.some.inj hE
      subst hEi
      refine ⟨17, ⟨[⟨0, 10, 13, 19⟩], ⟨0, 10, 17, 28⟩, [], rfl, (fun z hz => by
          simp only [List.mem_cons, List.mem_nil_iff, or_false] at hz
          rcases hz with rfl
          · exact ⟨by decide, "java/lang/IndexOutOfBoundsException", by decide +kernel, zm9_57, by decide +kernel⟩), by decide +kernel, by decide, by decide, zm9_66, rfl⟩, fun q => ?_⟩
      refine z_astore O dL_tiredness_17 (by decide) ?_
      refine z_iconst O dL_tiredness_19 (v := 2) (by decide) ?_
      exact z_iret O dL_tiredness_20 (Nat.le_of_ble_eq_true rfl) (Nat.le_of_ble_eq_true rfl) (Or.inr ⟨by rw [hki]; omega, by rw [hki]; rfl, rfl, rfl⟩)
  · obtain ⟨hk0, rfl, rfl, rfl⟩ := hp
    refine z_i2l O dL_tiredness_8 rfl ?_
    refine z_last O dL_tiredness_9 zg_out 0 rfl (by decide) (by decide) zp_out ?_
    refine z_goto O dL_tiredness_10 (tgt := 21) (by decide) ?_
    refine z_iconst O dL_tiredness_21 (v := 0) (by decide) ?_
    exact z_iret O dL_tiredness_22 (Nat.le_of_ble_eq_true rfl) (Nat.le_of_ble_eq_true rfl) (Or.inl ⟨hk0, rfl, rfl, rfl⟩)

set_option maxRecDepth 100000 in
set_option maxHeartbeats 4000000 in
theorem c_L_callsOf {G : zG} {l : Launch} (hl : l.stackTraces = false) {Z : zM} {sb : Nat → Option Nat} {mcn : Nat → Int32} {cp : Nat → Nat} {Y : zM} {th : Int32} {o : Nat → Int64} {od : Nat → UInt64} {ad : Nat → Nat} (hL : zLst Z cp 1) {x : Int32} : zCt G l yL_callsOf (zwsH yL_callsOf cL_callsOf 4 (some .int) [(0, 9, 12, 19)]) ({ frames := 8, cells := 1, slots := 6, locals := 124 }) [.ref (ad 0), .int x, .ref (ad 340)] (zent Z sb mcn cp G.2.2.2.1 Y th o od ad) ad (fun r w1 ad1 => ((kSing Z x) = 0 ∧ some (.int 0) = r ∧ zent Z sb mcn cp G.2.2.2.1 Y th (vp_updL o 0 (Z 18 x.toNatClampNeg).toInt64) od ad = w1 ∧ ad = ad1) ∨ ((kSing Z x) ≠ 0 ∧ some (.int (nI (kSing Z x))) = r ∧ zent Z sb mcn cp G.2.2.2.1 Y th o od ad = w1 ∧ ad = ad1)) (zNoX) := by
  refine z_bodyH hl (by decide +kernel) (Nat.le_of_ble_eq_true rfl) (fun X O => ?_)
  refine z_aload_n O dL_callsOf_0 rfl ?_
  refine z_iconst O dL_callsOf_1 (v := 0) (by decide) ?_
  refine z_aload_n O dL_callsOf_2 rfl ?_
  refine z_iload_n O dL_callsOf_3 rfl ?_
  refine z_callVX O (c_X7_callsOf hl hL) zI zm10_42 zm10_43 zm10_44 zm4_21 zm6_10 ⟨rfl, by decide +kernel, by decide +kernel, (show _ = some 1 by decide +kernel)⟩ rfl zg_x ⟨Nat.le_of_ble_eq_true rfl, Nat.le_of_ble_eq_true rfl⟩ ⟨Nat.le_of_ble_eq_true rfl, Nat.le_of_ble_eq_true rfl⟩ dL_callsOf_4 rfl (Nat.le_of_ble_eq_true rfl) (fun E w' ad' h => ?_) (fun r w1 ad1 hp => ?_)
  · obtain ⟨⟨rfl, rfl⟩, h1, h2⟩ := h
    obtain ⟨i, hi, hki⟩ : ∃ i, i < 1 ∧ (kSing Z x) = i + 1 := zPX_code h1 h2
    rw [hki] at h2
    have hE : ["java/lang/IndexOutOfBoundsException"][i]? = some E := h2
    have hi2 : i = 0 := by omega
    rcases hi2 with rfl
    · have hEi : "java/lang/IndexOutOfBoundsException" = E := Option.some.inj hE
      subst hEi
      refine ⟨12, ⟨[], ⟨0, 9, 12, 19⟩, [], rfl, (fun z hz => by cases hz), by decide +kernel, by decide, by decide, zm9_57, rfl⟩, fun q => ?_⟩
      refine z_astore_n O dL_callsOf_12 (by decide) ?_
      refine z_iconst O dL_callsOf_13 (v := 1) (by decide) ?_
      exact z_iret O dL_callsOf_14 (Nat.le_of_ble_eq_true rfl) (Nat.le_of_ble_eq_true rfl) (Or.inr ⟨by rw [hki]; omega, by rw [hki]; rfl, rfl, rfl⟩)
  · obtain ⟨hk0, rfl, rfl, rfl⟩ := hp
    refine z_i2l O dL_callsOf_7 rfl ?_
    refine z_last O dL_callsOf_8 zg_out 0 rfl (by decide) (by decide) zp_out ?_
    refine z_goto O dL_callsOf_9 (tgt := 15) (by decide) ?_
    refine z_iconst O dL_callsOf_15 (v := 0) (by decide) ?_
    exact z_iret O dL_callsOf_16 (Nat.le_of_ble_eq_true rfl) (Nat.le_of_ble_eq_true rfl) (Or.inl ⟨hk0, rfl, rfl, rfl⟩)

set_option maxRecDepth 100000 in
set_option maxHeartbeats 4000000 in
theorem c_L_endEvening {G : zG} {l : Launch} (hl : l.stackTraces = false) {Z : zM} {sb : Nat → Option Nat} {mcn : Nat → Int32} {cp : Nat → Nat} {Y : zM} {th : Int32} {o : Nat → Int64} {od : Nat → UInt64} {ad : Nat → Nat} (hL1 : zLst Z cp 1) (hL2 : zLst Z cp 2) (hs : ∀ c, c < zN Z 2 → (Z 19 c).toNatClampNeg < zN Z 1) : zCt G l yL_endEvening (zwsH yL_endEvening cL_endEvening 3 (some .int) [(0, 8, 11, 40)]) ({ frames := 8, cells := 1, slots := 6, locals := 131 }) [.ref (ad 0), .ref (ad 340)] (zent Z sb mcn cp G.2.2.2.1 Y th o od ad) ad (fun r w1 ad1 => ((kEnd Z) = 0 ∧ some (.int 0) = r ∧ zent (fEnd Z) sb (va_up mcn 2 (mcn 2 + 1)) cp G.2.2.2.1 Y th (vp_updL o 0 (fSum (fDue Z) (zN Z 1)).toInt64) od ad = w1 ∧ ad = ad1) ∨ ((kEnd Z) ≠ 0 ∧ some (.int (nI (kEnd Z))) = r ∧ zent Z sb mcn cp G.2.2.2.1 Y th o od ad = w1 ∧ ad = ad1)) (zNoX) := by
  refine z_bodyH hl (by decide +kernel) (Nat.le_of_ble_eq_true rfl) (fun X O => ?_)
  refine z_aload_n O dL_endEvening_0 rfl ?_
  refine z_iconst O dL_endEvening_1 (v := 0) (by decide) ?_
  refine z_aload_n O dL_endEvening_2 rfl ?_
  refine z_callVX O (c_X7_endEvening hl hL1 hL2 hs) zI zm10_46 zm10_47 zm10_48 zm4_21 zm6_30 ⟨rfl, by decide +kernel, by decide +kernel, (show _ = some 0 by decide +kernel)⟩ rfl zg_x ⟨Nat.le_of_ble_eq_true rfl, Nat.le_of_ble_eq_true rfl⟩ ⟨Nat.le_of_ble_eq_true rfl, Nat.le_of_ble_eq_true rfl⟩ dL_endEvening_3 rfl (Nat.le_of_ble_eq_true rfl) (fun E w' ad' h => ?_) (fun r w1 ad1 hp => ?_)
  · obtain ⟨⟨rfl, rfl⟩, h1, h2⟩ := h
    obtain ⟨i, hi, hki⟩ : ∃ i, i < 1 ∧ (kEnd Z) = i + 1 := zPX_code h1 h2
    rw [hki] at h2
    have hE : ["java/lang/IllegalStateException"][i]? = some E := h2
    have hi2 : i = 0 := by omega
    rcases hi2 with rfl
    · have hEi : "java/lang/IllegalStateException" = E := Option.some.inj hE
      subst hEi
      refine ⟨11, ⟨[], ⟨0, 8, 11, 40⟩, [], rfl, (fun z hz => by cases hz), by decide +kernel, by decide, by decide, zm10_9, rfl⟩, fun q => ?_⟩
      refine z_astore_n O dL_endEvening_11 (by decide) ?_
      refine z_iconst O dL_endEvening_12 (v := 1) (by decide) ?_
      exact z_iret O dL_endEvening_13 (Nat.le_of_ble_eq_true rfl) (Nat.le_of_ble_eq_true rfl) (Or.inr ⟨by rw [hki]; omega, by rw [hki]; rfl, rfl, rfl⟩)
  · obtain ⟨hk0, rfl, rfl, rfl⟩ := hp
    refine z_i2l O dL_endEvening_6 rfl ?_
    refine z_last O dL_endEvening_7 zg_out 0 rfl (by decide) (by decide) zp_out ?_
    refine z_goto O dL_endEvening_8 (tgt := 14) (by decide) ?_
    refine z_iconst O dL_endEvening_14 (v := 0) (by decide) ?_
    exact z_iret O dL_endEvening_15 (Nat.le_of_ble_eq_true rfl) (Nat.le_of_ble_eq_true rfl) (Or.inl ⟨hk0, rfl, rfl, rfl⟩)

set_option maxRecDepth 100000 in
set_option maxHeartbeats 4000000 in
theorem c_L_pay {G : zG} {l : Launch} (hl : l.stackTraces = false) {Z : zM} {sb : Nat → Option Nat} {mcn : Nat → Int32} {cp : Nat → Nat} {Y : zM} {th : Int32} {o : Nat → Int64} {od : Nat → UInt64} {ad : Nat → Nat} (hL1 : zLst Z cp 1) {x y : Int32} : zCt G l yL_pay (zwsH yL_pay cL_pay 5 (some .int) [(0, 10, 13, 19), (0, 10, 17, 13), (0, 10, 21, 28)]) ({ frames := 8, cells := 3, slots := 18, locals := 128 }) [.ref (ad 0), .int x, .int y, .ref (ad 340)] (zent Z sb mcn cp G.2.2.2.1 Y th o od ad) ad (fun r w1 ad1 => ((kPay Z x y) = 0 ∧ some (.int 0) = r ∧ zent (fPays Z x.toNatClampNeg y) sb mcn cp G.2.2.2.1 Y th (vp_updL o 0 (fPays Z x.toNatClampNeg y 17 x.toNatClampNeg).toInt64) od ad = w1 ∧ ad = ad1) ∨ ((kPay Z x y) ≠ 0 ∧ some (.int (nI (kPay Z x y))) = r ∧ zent Z sb mcn cp G.2.2.2.1 Y th o od ad = w1 ∧ ad = ad1)) (zNoX) := by
  refine z_bodyH hl (by decide +kernel) (Nat.le_of_ble_eq_true rfl) (fun X O => ?_)
  refine z_aload_n O dL_pay_0 rfl ?_
  refine z_iconst O dL_pay_1 (v := 0) (by decide) ?_
  refine z_aload_n O dL_pay_2 rfl ?_
  refine z_iload_n O dL_pay_3 rfl ?_
  refine z_iload_n O dL_pay_4 rfl ?_
  refine z_callVX O (c_X7_pay hl hL1) zI zm10_50 zm10_51 zm10_52 zm4_21 zm6_33 ⟨rfl, by decide +kernel, by decide +kernel, (show _ = some 2 by decide +kernel)⟩ rfl zg_x ⟨Nat.le_of_ble_eq_true rfl, Nat.le_of_ble_eq_true rfl⟩ ⟨Nat.le_of_ble_eq_true rfl, Nat.le_of_ble_eq_true rfl⟩ dL_pay_5 rfl (Nat.le_of_ble_eq_true rfl) (fun E w' ad' h => ?_) (fun r w1 ad1 hp => ?_)
  · obtain ⟨⟨rfl, rfl⟩, h1, h2⟩ := h
    obtain ⟨i, hi, hki⟩ : ∃ i, i < 3 ∧ (kPay Z x y) = i + 1 := zPX_code h1 h2
    rw [hki] at h2
    have hE : ["java/lang/IndexOutOfBoundsException", "java/lang/IllegalArgumentException", "java/lang/UnsupportedOperationException"][i]? = some E := h2
    have hi2 : i = 0 ∨ i = 1 ∨ i = 2 := by omega
    rcases hi2 with rfl | rfl | rfl
    · have hEi : "java/lang/IndexOutOfBoundsException" = E := Option.some.inj hE
      subst hEi
      refine ⟨13, ⟨[], ⟨0, 10, 13, 19⟩, [⟨0, 10, 17, 13⟩, ⟨0, 10, 21, 28⟩], rfl, (fun z hz => by cases hz), by decide +kernel, by decide, by decide, zm9_57, rfl⟩, fun q => ?_⟩
      refine z_astore O dL_pay_13 (by decide) ?_
      refine z_iconst O dL_pay_15 (v := 1) (by decide) ?_
      exact z_iret O dL_pay_16 (Nat.le_of_ble_eq_true rfl) (Nat.le_of_ble_eq_true rfl) (Or.inr ⟨by rw [hki]; omega, by rw [hki]; rfl, rfl, rfl⟩)
    · have hEi : "java/lang/IllegalArgumentException" = E := Option.some.inj hE
      subst hEi
      refine ⟨17, ⟨[⟨0, 10, 13, 19⟩], ⟨0, 10, 17, 13⟩, [⟨0, 10, 21, 28⟩], rfl, (fun z hz => by
          simp only [List.mem_cons, List.mem_nil_iff, or_false] at hz
          rcases hz with rfl
          · exact ⟨by decide, "java/lang/IndexOutOfBoundsException", by decide +kernel, zm9_57, by decide +kernel⟩), by decide +kernel, by decide, by decide, zm9_52, rfl⟩, fun q => ?_⟩
      refine z_astore O dL_pay_17 (by decide) ?_
      refine z_iconst O dL_pay_19 (v := 2) (by decide) ?_
      exact z_iret O dL_pay_20 (Nat.le_of_ble_eq_true rfl) (Nat.le_of_ble_eq_true rfl) (Or.inr ⟨by rw [hki]; omega, by rw [hki]; rfl, rfl, rfl⟩)
    · have hEi : "java/lang/UnsupportedOperationException" = E := Option.some.inj hE
      subst hEi
      refine ⟨21, ⟨[⟨0, 10, 13, 19⟩, ⟨0, 10, 17, 13⟩], ⟨0, 10, 21, 28⟩, [], rfl, (fun z hz => by
          simp only [List.mem_cons, List.mem_nil_iff, or_false] at hz
          rcases hz with rfl | rfl
          · exact ⟨by decide, "java/lang/IndexOutOfBoundsException", by decide +kernel, zm9_57, by decide +kernel⟩
          · exact ⟨by decide, "java/lang/IllegalArgumentException", by decide +kernel, zm9_52, by decide +kernel⟩), by decide +kernel, by decide, by decide, zm9_66, rfl⟩, fun q => ?_⟩
      refine z_astore O dL_pay_21 (by decide) ?_
      refine z_iconst O dL_pay_23 (v := 3) (by decide) ?_
      exact z_iret O dL_pay_24 (Nat.le_of_ble_eq_true rfl) (Nat.le_of_ble_eq_true rfl) (Or.inr ⟨by rw [hki]; omega, by rw [hki]; rfl, rfl, rfl⟩)
  · obtain ⟨hk0, rfl, rfl, rfl⟩ := hp
    refine z_i2l O dL_pay_8 rfl ?_
    refine z_last O dL_pay_9 zg_out 0 rfl (by decide) (by decide) zp_out ?_
    refine z_goto O dL_pay_10 (tgt := 25) (by decide) ?_
    refine z_iconst O dL_pay_25 (v := 0) (by decide) ?_
    exact z_iret O dL_pay_26 (Nat.le_of_ble_eq_true rfl) (Nat.le_of_ble_eq_true rfl) (Or.inl ⟨hk0, rfl, rfl, rfl⟩)

set_option maxRecDepth 100000 in
set_option maxHeartbeats 4000000 in
theorem c_L_owed {G : zG} {l : Launch} (hl : l.stackTraces = false) {Z : zM} {sb : Nat → Option Nat} {mcn : Nat → Int32} {cp : Nat → Nat} {Y : zM} {th : Int32} {o : Nat → Int64} {od : Nat → UInt64} {ad : Nat → Nat} (hL : zLst Z cp 1) {x : Int32} : zCt G l yL_owed (zwsH yL_owed cL_owed 4 (some .int) [(0, 9, 12, 19)]) ({ frames := 8, cells := 1, slots := 6, locals := 124 }) [.ref (ad 0), .int x, .ref (ad 340)] (zent Z sb mcn cp G.2.2.2.1 Y th o od ad) ad (fun r w1 ad1 => ((kSing Z x) = 0 ∧ some (.int 0) = r ∧ zent Z sb mcn cp G.2.2.2.1 Y th (vp_updL o 0 (Z 17 x.toNatClampNeg).toInt64) od ad = w1 ∧ ad = ad1) ∨ ((kSing Z x) ≠ 0 ∧ some (.int (nI (kSing Z x))) = r ∧ zent Z sb mcn cp G.2.2.2.1 Y th o od ad = w1 ∧ ad = ad1)) (zNoX) := by
  refine z_bodyH hl (by decide +kernel) (Nat.le_of_ble_eq_true rfl) (fun X O => ?_)
  refine z_aload_n O dL_owed_0 rfl ?_
  refine z_iconst O dL_owed_1 (v := 0) (by decide) ?_
  refine z_aload_n O dL_owed_2 rfl ?_
  refine z_iload_n O dL_owed_3 rfl ?_
  refine z_callVX O (c_X7_owed hl hL) zI zm10_54 zm10_55 zm10_56 zm4_21 zm6_34 ⟨rfl, by decide +kernel, by decide +kernel, (show _ = some 1 by decide +kernel)⟩ rfl zg_x ⟨Nat.le_of_ble_eq_true rfl, Nat.le_of_ble_eq_true rfl⟩ ⟨Nat.le_of_ble_eq_true rfl, Nat.le_of_ble_eq_true rfl⟩ dL_owed_4 rfl (Nat.le_of_ble_eq_true rfl) (fun E w' ad' h => ?_) (fun r w1 ad1 hp => ?_)
  · obtain ⟨⟨rfl, rfl⟩, h1, h2⟩ := h
    obtain ⟨i, hi, hki⟩ : ∃ i, i < 1 ∧ (kSing Z x) = i + 1 := zPX_code h1 h2
    rw [hki] at h2
    have hE : ["java/lang/IndexOutOfBoundsException"][i]? = some E := h2
    have hi2 : i = 0 := by omega
    rcases hi2 with rfl
    · have hEi : "java/lang/IndexOutOfBoundsException" = E := Option.some.inj hE
      subst hEi
      refine ⟨12, ⟨[], ⟨0, 9, 12, 19⟩, [], rfl, (fun z hz => by cases hz), by decide +kernel, by decide, by decide, zm9_57, rfl⟩, fun q => ?_⟩
      refine z_astore_n O dL_owed_12 (by decide) ?_
      refine z_iconst O dL_owed_13 (v := 1) (by decide) ?_
      exact z_iret O dL_owed_14 (Nat.le_of_ble_eq_true rfl) (Nat.le_of_ble_eq_true rfl) (Or.inr ⟨by rw [hki]; omega, by rw [hki]; rfl, rfl, rfl⟩)
  · obtain ⟨hk0, rfl, rfl, rfl⟩ := hp
    refine z_i2l O dL_owed_7 rfl ?_
    refine z_last O dL_owed_8 zg_out 0 rfl (by decide) (by decide) zp_out ?_
    refine z_goto O dL_owed_9 (tgt := 15) (by decide) ?_
    refine z_iconst O dL_owed_15 (v := 0) (by decide) ?_
    exact z_iret O dL_owed_16 (Nat.le_of_ble_eq_true rfl) (Nat.le_of_ble_eq_true rfl) (Or.inl ⟨hk0, rfl, rfl, rfl⟩)

set_option maxRecDepth 100000 in
set_option maxHeartbeats 4000000 in
theorem c_L_share {G : zG} {l : Launch} (hl : l.stackTraces = false) {Z : zM} {sb : Nat → Option Nat} {mcn : Nat → Int32} {cp : Nat → Nat} {Y : zM} {th : Int32} {o : Nat → Int64} {od : Nat → UInt64} {ad : Nat → Nat} (hL : zLst Z cp 0) : zCt G l yL_share (zwsH yL_share cL_share 3 (some .int) [(0, 8, 11, 28)]) ({ frames := 7, cells := 1, slots := 6, locals := 111 }) [.ref (ad 0), .ref (ad 340)] (zent Z sb mcn cp G.2.2.2.1 Y th o od ad) ad (fun r w1 ad1 => ((kShare Z) = 0 ∧ some (.int 0) = r ∧ zent (fShare Z) sb mcn cp G.2.2.2.1 Y th (vp_updL o 0 (fShR Z (Z 34 0) (fPt Z (zN Z 0)) (zN Z 0)).toInt64) od ad = w1 ∧ ad = ad1) ∨ ((kShare Z) ≠ 0 ∧ some (.int (nI (kShare Z))) = r ∧ zent Z sb mcn cp G.2.2.2.1 Y th o od ad = w1 ∧ ad = ad1)) (zNoX) := by
  refine z_bodyH hl (by decide +kernel) (Nat.le_of_ble_eq_true rfl) (fun X O => ?_)
  refine z_aload_n O dL_share_0 rfl ?_
  refine z_iconst O dL_share_1 (v := 0) (by decide) ?_
  refine z_aload_n O dL_share_2 rfl ?_
  refine z_callVX O (c_X7_share hl hL) zI zm10_58 zm10_59 zm10_60 zm4_21 zm6_39 ⟨rfl, by decide +kernel, by decide +kernel, (show _ = some 0 by decide +kernel)⟩ rfl zg_x ⟨Nat.le_of_ble_eq_true rfl, Nat.le_of_ble_eq_true rfl⟩ ⟨Nat.le_of_ble_eq_true rfl, Nat.le_of_ble_eq_true rfl⟩ dL_share_3 rfl (Nat.le_of_ble_eq_true rfl) (fun E w' ad' h => ?_) (fun r w1 ad1 hp => ?_)
  · obtain ⟨⟨rfl, rfl⟩, h1, h2⟩ := h
    obtain ⟨i, hi, hki⟩ : ∃ i, i < 1 ∧ (kShare Z) = i + 1 := zPX_code h1 h2
    rw [hki] at h2
    have hE : ["java/lang/UnsupportedOperationException"][i]? = some E := h2
    have hi2 : i = 0 := by omega
    rcases hi2 with rfl
    · have hEi : "java/lang/UnsupportedOperationException" = E := Option.some.inj hE
      subst hEi
      refine ⟨11, ⟨[], ⟨0, 8, 11, 28⟩, [], rfl, (fun z hz => by cases hz), by decide +kernel, by decide, by decide, zm9_66, rfl⟩, fun q => ?_⟩
      refine z_astore_n O dL_share_11 (by decide) ?_
      refine z_iconst O dL_share_12 (v := 1) (by decide) ?_
      exact z_iret O dL_share_13 (Nat.le_of_ble_eq_true rfl) (Nat.le_of_ble_eq_true rfl) (Or.inr ⟨by rw [hki]; omega, by rw [hki]; rfl, rfl, rfl⟩)
  · obtain ⟨hk0, rfl, rfl, rfl⟩ := hp
    refine z_i2l O dL_share_6 rfl ?_
    refine z_last O dL_share_7 zg_out 0 rfl (by decide) (by decide) zp_out ?_
    refine z_goto O dL_share_8 (tgt := 14) (by decide) ?_
    refine z_iconst O dL_share_14 (v := 0) (by decide) ?_
    exact z_iret O dL_share_15 (Nat.le_of_ble_eq_true rfl) (Nat.le_of_ble_eq_true rfl) (Or.inl ⟨hk0, rfl, rfl, rfl⟩)

set_option maxRecDepth 100000 in
set_option maxHeartbeats 4000000 in
theorem c_L_moneyOf {G : zG} {l : Launch} (hl : l.stackTraces = false) {Z : zM} {sb : Nat → Option Nat} {mcn : Nat → Int32} {cp : Nat → Nat} {Y : zM} {th : Int32} {o : Nat → Int64} {od : Nat → UInt64} {ad : Nat → Nat} (hL : zLst Z cp 0) {x : Int32} : zCt G l yL_moneyOf (zwsH yL_moneyOf cL_moneyOf 4 (some .int) [(0, 9, 12, 19)]) ({ frames := 8, cells := 1, slots := 6, locals := 124 }) [.ref (ad 0), .int x, .ref (ad 340)] (zent Z sb mcn cp G.2.2.2.1 Y th o od ad) ad (fun r w1 ad1 => ((kHand Z x) = 0 ∧ some (.int 0) = r ∧ zent Z sb mcn cp G.2.2.2.1 Y th (vp_updL o 0 (Z 14 x.toNatClampNeg).toInt64) od ad = w1 ∧ ad = ad1) ∨ ((kHand Z x) ≠ 0 ∧ some (.int (nI (kHand Z x))) = r ∧ zent Z sb mcn cp G.2.2.2.1 Y th o od ad = w1 ∧ ad = ad1)) (zNoX) := by
  refine z_bodyH hl (by decide +kernel) (Nat.le_of_ble_eq_true rfl) (fun X O => ?_)
  refine z_aload_n O dL_moneyOf_0 rfl ?_
  refine z_iconst O dL_moneyOf_1 (v := 0) (by decide) ?_
  refine z_aload_n O dL_moneyOf_2 rfl ?_
  refine z_iload_n O dL_moneyOf_3 rfl ?_
  refine z_callVX O (c_X7_moneyOf hl hL) zI zm10_62 zm10_63 zm10_64 zm4_21 zm6_41 ⟨rfl, by decide +kernel, by decide +kernel, (show _ = some 1 by decide +kernel)⟩ rfl zg_x ⟨Nat.le_of_ble_eq_true rfl, Nat.le_of_ble_eq_true rfl⟩ ⟨Nat.le_of_ble_eq_true rfl, Nat.le_of_ble_eq_true rfl⟩ dL_moneyOf_4 rfl (Nat.le_of_ble_eq_true rfl) (fun E w' ad' h => ?_) (fun r w1 ad1 hp => ?_)
  · obtain ⟨⟨rfl, rfl⟩, h1, h2⟩ := h
    obtain ⟨i, hi, hki⟩ : ∃ i, i < 1 ∧ (kHand Z x) = i + 1 := zPX_code h1 h2
    rw [hki] at h2
    have hE : ["java/lang/IndexOutOfBoundsException"][i]? = some E := h2
    have hi2 : i = 0 := by omega
    rcases hi2 with rfl
    · have hEi : "java/lang/IndexOutOfBoundsException" = E := Option.some.inj hE
      subst hEi
      refine ⟨12, ⟨[], ⟨0, 9, 12, 19⟩, [], rfl, (fun z hz => by cases hz), by decide +kernel, by decide, by decide, zm9_57, rfl⟩, fun q => ?_⟩
      refine z_astore_n O dL_moneyOf_12 (by decide) ?_
      refine z_iconst O dL_moneyOf_13 (v := 1) (by decide) ?_
      exact z_iret O dL_moneyOf_14 (Nat.le_of_ble_eq_true rfl) (Nat.le_of_ble_eq_true rfl) (Or.inr ⟨by rw [hki]; omega, by rw [hki]; rfl, rfl, rfl⟩)
  · obtain ⟨hk0, rfl, rfl, rfl⟩ := hp
    refine z_i2l O dL_moneyOf_7 rfl ?_
    refine z_last O dL_moneyOf_8 zg_out 0 rfl (by decide) (by decide) zp_out ?_
    refine z_goto O dL_moneyOf_9 (tgt := 15) (by decide) ?_
    refine z_iconst O dL_moneyOf_15 (v := 0) (by decide) ?_
    exact z_iret O dL_moneyOf_16 (Nat.le_of_ble_eq_true rfl) (Nat.le_of_ble_eq_true rfl) (Or.inl ⟨hk0, rfl, rfl, rfl⟩)

set_option maxRecDepth 100000 in
set_option maxHeartbeats 4000000 in
theorem c_L_planCost {G : zG} {l : Launch} (hl : l.stackTraces = false) {Z : zM} {sb : Nat → Option Nat} {mcn : Nat → Int32} {cp : Nat → Nat} {Y : zM} {th : Int32} {o : Nat → Int64} {od : Nat → UInt64} {ad : Nat → Nat} (hL : zLst Z cp 0) {x : Int32} : zCt G l yL_planCost (zwsH yL_planCost cL_planCost 4 (some .int) [(0, 9, 12, 13), (0, 9, 15, 88)]) ({ frames := 8, cells := 2, slots := 12, locals := 181 }) [.ref (ad 0), .int x, .ref (ad 340)] (zent Z sb mcn cp G.2.2.2.1 Y th o od ad) ad (fun r w1 ad1 => ((kCost Z x) = 0 ∧ some (.int 0) = r ∧ zent Z sb mcn cp G.2.2.2.1 Y th (vp_updL o 0 (fOf Z 13 (fBest Z x) (zN Z 0)).toInt64) od ad = w1 ∧ ad = ad1) ∨ ((kCost Z x) ≠ 0 ∧ some (.int (nI (kCost Z x))) = r ∧ zent Z sb mcn cp G.2.2.2.1 Y th o od ad = w1 ∧ ad = ad1)) (zNoX) := by
  refine z_bodyH hl (by decide +kernel) (Nat.le_of_ble_eq_true rfl) (fun X O => ?_)
  refine z_aload_n O dL_planCost_0 rfl ?_
  refine z_iconst O dL_planCost_1 (v := 0) (by decide) ?_
  refine z_aload_n O dL_planCost_2 rfl ?_
  refine z_iload_n O dL_planCost_3 rfl ?_
  refine z_callVX O (c_X7_planCost hl hL) zI zm10_67 zm10_68 zm10_69 zm4_21 zm6_53 ⟨rfl, by decide +kernel, by decide +kernel, (show _ = some 1 by decide +kernel)⟩ rfl zg_x ⟨Nat.le_of_ble_eq_true rfl, Nat.le_of_ble_eq_true rfl⟩ ⟨Nat.le_of_ble_eq_true rfl, Nat.le_of_ble_eq_true rfl⟩ dL_planCost_4 rfl (Nat.le_of_ble_eq_true rfl) (fun E w' ad' h => ?_) (fun r w1 ad1 hp => ?_)
  · obtain ⟨⟨rfl, rfl⟩, h1, h2⟩ := h
    obtain ⟨i, hi, hki⟩ : ∃ i, i < 2 ∧ (kCost Z x) = i + 1 := zPX_code h1 h2
    rw [hki] at h2
    have hE : ["java/lang/IllegalArgumentException", "java/util/NoSuchElementException"][i]? = some E := h2
    have hi2 : i = 0 ∨ i = 1 := by omega
    rcases hi2 with rfl | rfl
    · have hEi : "java/lang/IllegalArgumentException" = E := Option.some.inj hE
      subst hEi
      refine ⟨12, ⟨[], ⟨0, 9, 12, 13⟩, [⟨0, 9, 15, 88⟩], rfl, (fun z hz => by cases hz), by decide +kernel, by decide, by decide, zm9_52, rfl⟩, fun q => ?_⟩
      refine z_astore_n O dL_planCost_12 (by decide) ?_
      refine z_iconst O dL_planCost_13 (v := 1) (by decide) ?_
      exact z_iret O dL_planCost_14 (Nat.le_of_ble_eq_true rfl) (Nat.le_of_ble_eq_true rfl) (Or.inr ⟨by rw [hki]; omega, by rw [hki]; rfl, rfl, rfl⟩)
    · have hEi : "java/util/NoSuchElementException" = E := Option.some.inj hE
      subst hEi
      refine ⟨15, ⟨[⟨0, 9, 12, 13⟩], ⟨0, 9, 15, 88⟩, [], rfl, (fun z hz => by
          simp only [List.mem_cons, List.mem_nil_iff, or_false] at hz
          rcases hz with rfl
          · exact ⟨by decide, "java/lang/IllegalArgumentException", by decide +kernel, zm9_52, by decide +kernel⟩), by decide +kernel, by decide, by decide, zm10_66, rfl⟩, fun q => ?_⟩
      refine z_astore_n O dL_planCost_15 (by decide) ?_
      refine z_iconst O dL_planCost_16 (v := 2) (by decide) ?_
      exact z_iret O dL_planCost_17 (Nat.le_of_ble_eq_true rfl) (Nat.le_of_ble_eq_true rfl) (Or.inr ⟨by rw [hki]; omega, by rw [hki]; rfl, rfl, rfl⟩)
  · obtain ⟨hk0, rfl, rfl, rfl⟩ := hp
    refine z_i2l O dL_planCost_7 rfl ?_
    refine z_last O dL_planCost_8 zg_out 0 rfl (by decide) (by decide) zp_out ?_
    refine z_goto O dL_planCost_9 (tgt := 18) (by decide) ?_
    refine z_iconst O dL_planCost_18 (v := 0) (by decide) ?_
    exact z_iret O dL_planCost_19 (Nat.le_of_ble_eq_true rfl) (Nat.le_of_ble_eq_true rfl) (Or.inl ⟨hk0, rfl, rfl, rfl⟩)

set_option maxRecDepth 100000 in
set_option maxHeartbeats 4000000 in
theorem c_L_isPlanned {G : zG} {l : Launch} (hl : l.stackTraces = false) {Z : zM} {sb : Nat → Option Nat} {mcn : Nat → Int32} {cp : Nat → Nat} {Y : zM} {th : Int32} {o : Nat → Int64} {od : Nat → UInt64} {ad : Nat → Nat} (hL : zLst Z cp 0) {x y : Int32} : zCt G l yL_isPlanned (zwsH yL_isPlanned cL_isPlanned 5 (some .int) [(0, 17, 20, 13), (0, 17, 24, 19), (0, 17, 28, 88)]) ({ frames := 8, cells := 3, slots := 18, locals := 182 }) [.ref (ad 0), .int x, .int y, .ref (ad 340)] (zent Z sb mcn cp G.2.2.2.1 Y th o od ad) ad (fun r w1 ad1 => ((kPlanned Z x y) = 0 ∧ some (.int 0) = r ∧ zent Z sb mcn cp G.2.2.2.1 Y th (vp_updL o 0 (if fBit (fBest Z x) y.toNatClampNeg = 1 then 1 else 0)) od ad = w1 ∧ ad = ad1) ∨ ((kPlanned Z x y) ≠ 0 ∧ some (.int (nI (kPlanned Z x y))) = r ∧ zent Z sb mcn cp G.2.2.2.1 Y th o od ad = w1 ∧ ad = ad1)) (zNoX) := by
  refine z_bodyH hl (by decide +kernel) (Nat.le_of_ble_eq_true rfl) (fun X O => ?_)
  refine z_aload_n O dL_isPlanned_0 rfl ?_
  refine z_iconst O dL_isPlanned_1 (v := 0) (by decide) ?_
  refine z_aload_n O dL_isPlanned_2 rfl ?_
  refine z_iload_n O dL_isPlanned_3 rfl ?_
  refine z_iload_n O dL_isPlanned_4 rfl ?_
  refine z_callVX O (c_X7_isPlanned hl hL) zI zm11_1 zm11_2 zm11_3 zm4_21 zm6_55 ⟨rfl, by decide +kernel, by decide +kernel, (show _ = some 2 by decide +kernel)⟩ rfl zg_x ⟨Nat.le_of_ble_eq_true rfl, Nat.le_of_ble_eq_true rfl⟩ ⟨Nat.le_of_ble_eq_true rfl, Nat.le_of_ble_eq_true rfl⟩ dL_isPlanned_5 rfl (Nat.le_of_ble_eq_true rfl) (fun E w' ad' h => ?_) (fun r w1 ad1 hp => ?_)
  · obtain ⟨⟨rfl, rfl⟩, h1, h2⟩ := h
    obtain ⟨i, hi, hki⟩ : ∃ i, i < 3 ∧ (kPlanned Z x y) = i + 1 := zPX_code h1 h2
    rw [hki] at h2
    have hE : ["java/lang/IllegalArgumentException", "java/lang/IndexOutOfBoundsException", "java/util/NoSuchElementException"][i]? = some E := h2
    have hi2 : i = 0 ∨ i = 1 ∨ i = 2 := by omega
    rcases hi2 with rfl | rfl | rfl
    · have hEi : "java/lang/IllegalArgumentException" = E := Option.some.inj hE
      subst hEi
      refine ⟨20, ⟨[], ⟨0, 17, 20, 13⟩, [⟨0, 17, 24, 19⟩, ⟨0, 17, 28, 88⟩], rfl, (fun z hz => by cases hz), by decide +kernel, by decide, by decide, zm9_52, rfl⟩, fun q => ?_⟩
      refine z_astore O dL_isPlanned_20 (by decide) ?_
      refine z_iconst O dL_isPlanned_22 (v := 1) (by decide) ?_
      exact z_iret O dL_isPlanned_23 (Nat.le_of_ble_eq_true rfl) (Nat.le_of_ble_eq_true rfl) (Or.inr ⟨by rw [hki]; omega, by rw [hki]; rfl, rfl, rfl⟩)
    · have hEi : "java/lang/IndexOutOfBoundsException" = E := Option.some.inj hE
      subst hEi
      refine ⟨24, ⟨[⟨0, 17, 20, 13⟩], ⟨0, 17, 24, 19⟩, [⟨0, 17, 28, 88⟩], rfl, (fun z hz => by
          simp only [List.mem_cons, List.mem_nil_iff, or_false] at hz
          rcases hz with rfl
          · exact ⟨by decide, "java/lang/IllegalArgumentException", by decide +kernel, zm9_52, by decide +kernel⟩), by decide +kernel, by decide, by decide, zm9_57, rfl⟩, fun q => ?_⟩
      refine z_astore O dL_isPlanned_24 (by decide) ?_
      refine z_iconst O dL_isPlanned_26 (v := 2) (by decide) ?_
      exact z_iret O dL_isPlanned_27 (Nat.le_of_ble_eq_true rfl) (Nat.le_of_ble_eq_true rfl) (Or.inr ⟨by rw [hki]; omega, by rw [hki]; rfl, rfl, rfl⟩)
    · have hEi : "java/util/NoSuchElementException" = E := Option.some.inj hE
      subst hEi
      refine ⟨28, ⟨[⟨0, 17, 20, 13⟩, ⟨0, 17, 24, 19⟩], ⟨0, 17, 28, 88⟩, [], rfl, (fun z hz => by
          simp only [List.mem_cons, List.mem_nil_iff, or_false] at hz
          rcases hz with rfl | rfl
          · exact ⟨by decide, "java/lang/IllegalArgumentException", by decide +kernel, zm9_52, by decide +kernel⟩
          · exact ⟨by decide, "java/lang/IndexOutOfBoundsException", by decide +kernel, zm9_57, by decide +kernel⟩), by decide +kernel, by decide, by decide, zm10_66, rfl⟩, fun q => ?_⟩
      refine z_astore O dL_isPlanned_28 (by decide) ?_
      refine z_iconst O dL_isPlanned_30 (v := 3) (by decide) ?_
      exact z_iret O dL_isPlanned_31 (Nat.le_of_ble_eq_true rfl) (Nat.le_of_ble_eq_true rfl) (Or.inr ⟨by rw [hki]; omega, by rw [hki]; rfl, rfl, rfl⟩)
  · obtain ⟨hk0, rfl, rfl, rfl⟩ := hp
    by_cases hv : fBit (fBest Z x) y.toNatClampNeg = 1
    · rw [if_pos hv] at O ⊢
      refine z_if_eq O dL_isPlanned_8 (tgt := 15) (by decide) (fun q => absurd q (by decide)) (fun _ => ?_)
      refine z_lconst O dL_isPlanned_11 (v := 1) (by decide) ?_
      refine z_goto O dL_isPlanned_12 (tgt := 16) (by decide) ?_
      refine z_last O dL_isPlanned_16 zg_out 0 rfl (by decide) (by decide) zp_out ?_
      refine z_goto O dL_isPlanned_17 (tgt := 32) (by decide) ?_
      refine z_iconst O dL_isPlanned_32 (v := 0) (by decide) ?_
      exact z_iret O dL_isPlanned_33 (Nat.le_of_ble_eq_true rfl) (Nat.le_of_ble_eq_true rfl) (Or.inl ⟨hk0, rfl, rfl, rfl⟩)
    · rw [if_neg hv] at O ⊢
      refine z_if_eq O dL_isPlanned_8 (tgt := 15) (by decide) (fun _ => ?_) (fun q => absurd rfl q)
      refine z_lconst O dL_isPlanned_15 (v := 0) (by decide) ?_
      refine z_last O dL_isPlanned_16 zg_out 0 rfl (by decide) (by decide) zp_out ?_
      refine z_goto O dL_isPlanned_17 (tgt := 32) (by decide) ?_
      refine z_iconst O dL_isPlanned_32 (v := 0) (by decide) ?_
      exact z_iret O dL_isPlanned_33 (Nat.le_of_ble_eq_true rfl) (Nat.le_of_ble_eq_true rfl) (Or.inl ⟨hk0, rfl, rfl, rfl⟩)

set_option maxRecDepth 100000 in
set_option maxHeartbeats 4000000 in
theorem c_L_joiningShare {G : zG} {l : Launch} (hl : l.stackTraces = false) {Z : zM} {sb : Nat → Option Nat} {mcn : Nat → Int32} {cp : Nat → Nat} {Y : zM} {th : Int32} {o : Nat → Int64} {od : Nat → UInt64} {ad : Nat → Nat} (hne : ¬ fSeated Z 112 = 0 → vf_n32 (fJs Z)) (hf2 : kJoin Z = 0 → vf_n64 (FP.f2d (fJs Z))) : zCt G l yL_joiningShare (zwsH yL_joiningShare cL_joiningShare 3 (some .int) [(0, 8, 11, 98)]) ({ frames := 7, cells := 1, slots := 6, locals := 103 }) [.ref (ad 0), .ref (ad 341)] (zent Z sb mcn cp G.2.2.2.1 Y th o od ad) ad (fun r w1 ad1 => ((kJoin Z) = 0 ∧ some (.int 0) = r ∧ zent Z sb mcn cp G.2.2.2.1 Y th o (vf_upd od 0 (FP.f2d (fJs Z))) ad = w1 ∧ ad = ad1) ∨ ((kJoin Z) ≠ 0 ∧ some (.int (nI (kJoin Z))) = r ∧ zent Z sb mcn cp G.2.2.2.1 Y th o od ad = w1 ∧ ad = ad1)) (zNoX) := by
  refine z_bodyH hl (by decide +kernel) (Nat.le_of_ble_eq_true rfl) (fun X O => ?_)
  refine z_aload_n O dL_joiningShare_0 rfl ?_
  refine z_iconst O dL_joiningShare_1 (v := 0) (by decide) ?_
  refine z_aload_n O dL_joiningShare_2 rfl ?_
  refine z_callVX O (c_X7_joiningShare hl hne) zI zm11_7 zm11_8 zm11_9 zm4_21 zm6_60 ⟨rfl, by decide +kernel, by decide +kernel, (show _ = some 0 by decide +kernel)⟩ rfl zg_x ⟨Nat.le_of_ble_eq_true rfl, Nat.le_of_ble_eq_true rfl⟩ ⟨Nat.le_of_ble_eq_true rfl, Nat.le_of_ble_eq_true rfl⟩ dL_joiningShare_3 rfl (Nat.le_of_ble_eq_true rfl) (fun E w' ad' h => ?_) (fun r w1 ad1 hp => ?_)
  · obtain ⟨⟨rfl, rfl⟩, h1, h2⟩ := h
    obtain ⟨i, hi, hki⟩ : ∃ i, i < 1 ∧ (kJoin Z) = i + 1 := zPX_code h1 h2
    rw [hki] at h2
    have hE : ["java/lang/ArithmeticException"][i]? = some E := h2
    have hi2 : i = 0 := by omega
    rcases hi2 with rfl
    · have hEi : "java/lang/ArithmeticException" = E := Option.some.inj hE
      subst hEi
      refine ⟨11, ⟨[], ⟨0, 8, 11, 98⟩, [], rfl, (fun z hz => by cases hz), by decide +kernel, by decide, by decide, zm11_6, rfl⟩, fun q => ?_⟩
      refine z_astore_n O dL_joiningShare_11 (by decide) ?_
      refine z_iconst O dL_joiningShare_12 (v := 1) (by decide) ?_
      exact z_iret O dL_joiningShare_13 (Nat.le_of_ble_eq_true rfl) (Nat.le_of_ble_eq_true rfl) (Or.inr ⟨by rw [hki]; omega, by rw [hki]; rfl, rfl, rfl⟩)
  · obtain ⟨hk0, rfl, rfl, rfl⟩ := hp
    refine z_f2d O dL_joiningShare_6 (hf2 hk0) ?_
    refine z_dast O dL_joiningShare_7 zg_outD 0 rfl (by decide) (by decide) zp_outD ?_
    refine z_goto O dL_joiningShare_8 (tgt := 14) (by decide) ?_
    refine z_iconst O dL_joiningShare_14 (v := 0) (by decide) ?_
    exact z_iret O dL_joiningShare_15 (Nat.le_of_ble_eq_true rfl) (Nat.le_of_ble_eq_true rfl) (Or.inl ⟨hk0, rfl, rfl, rfl⟩)

set_option maxRecDepth 100000 in
set_option maxHeartbeats 4000000 in
theorem c_L_meanNoise {G : zG} {l : Launch} (hl : l.stackTraces = false) {Z : zM} {sb : Nat → Option Nat} {mcn : Nat → Int32} {cp : Nat → Nat} {Y : zM} {th : Int32} {o : Nat → Int64} {od : Nat → UInt64} {ad : Nat → Nat} (hne : ¬ Z 23 0 * Z 24 0 = 0 → vf_n64 (fMn Z)) : zCt G l yL_meanNoise (zwsH yL_meanNoise cL_meanNoise 3 (some .int) [(0, 7, 10, 98)]) ({ frames := 7, cells := 1, slots := 6, locals := 103 }) [.ref (ad 0), .ref (ad 341)] (zent Z sb mcn cp G.2.2.2.1 Y th o od ad) ad (fun r w1 ad1 => ((kMean Z) = 0 ∧ some (.int 0) = r ∧ zent Z sb mcn cp G.2.2.2.1 Y th o (vf_upd od 0 (fMn Z)) ad = w1 ∧ ad = ad1) ∨ ((kMean Z) ≠ 0 ∧ some (.int (nI (kMean Z))) = r ∧ zent Z sb mcn cp G.2.2.2.1 Y th o od ad = w1 ∧ ad = ad1)) (zNoX) := by
  refine z_bodyH hl (by decide +kernel) (Nat.le_of_ble_eq_true rfl) (fun X O => ?_)
  refine z_aload_n O dL_meanNoise_0 rfl ?_
  refine z_iconst O dL_meanNoise_1 (v := 0) (by decide) ?_
  refine z_aload_n O dL_meanNoise_2 rfl ?_
  refine z_callVX O (c_X7_meanNoise hl hne) zI zm11_11 zm11_12 zm11_13 zm4_21 zm6_66 ⟨rfl, by decide +kernel, by decide +kernel, (show _ = some 0 by decide +kernel)⟩ rfl zg_x ⟨Nat.le_of_ble_eq_true rfl, Nat.le_of_ble_eq_true rfl⟩ ⟨Nat.le_of_ble_eq_true rfl, Nat.le_of_ble_eq_true rfl⟩ dL_meanNoise_3 rfl (Nat.le_of_ble_eq_true rfl) (fun E w' ad' h => ?_) (fun r w1 ad1 hp => ?_)
  · obtain ⟨⟨rfl, rfl⟩, h1, h2⟩ := h
    obtain ⟨i, hi, hki⟩ : ∃ i, i < 1 ∧ (kMean Z) = i + 1 := zPX_code h1 h2
    rw [hki] at h2
    have hE : ["java/lang/ArithmeticException"][i]? = some E := h2
    have hi2 : i = 0 := by omega
    rcases hi2 with rfl
    · have hEi : "java/lang/ArithmeticException" = E := Option.some.inj hE
      subst hEi
      refine ⟨10, ⟨[], ⟨0, 7, 10, 98⟩, [], rfl, (fun z hz => by cases hz), by decide +kernel, by decide, by decide, zm11_6, rfl⟩, fun q => ?_⟩
      refine z_astore_n O dL_meanNoise_10 (by decide) ?_
      refine z_iconst O dL_meanNoise_11 (v := 1) (by decide) ?_
      exact z_iret O dL_meanNoise_12 (Nat.le_of_ble_eq_true rfl) (Nat.le_of_ble_eq_true rfl) (Or.inr ⟨by rw [hki]; omega, by rw [hki]; rfl, rfl, rfl⟩)
  · obtain ⟨hk0, rfl, rfl, rfl⟩ := hp
    refine z_dast O dL_meanNoise_6 zg_outD 0 rfl (by decide) (by decide) zp_outD ?_
    refine z_goto O dL_meanNoise_7 (tgt := 13) (by decide) ?_
    refine z_iconst O dL_meanNoise_13 (v := 0) (by decide) ?_
    exact z_iret O dL_meanNoise_14 (Nat.le_of_ble_eq_true rfl) (Nat.le_of_ble_eq_true rfl) (Or.inl ⟨hk0, rfl, rfl, rfl⟩)
