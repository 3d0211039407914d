set_option maxRecDepth 100000 in
set_option maxHeartbeats 4000000 in
theorem c_X8_newHouse {G : zG} {l : Launch} (hl : l.stackTraces = false) {Z : zM} {sb : Nat → Option Nat} {mcn : Nat → Int32} {cp : Nat → Nat} {Y : zM} {th : Int32} {o : Nat → Int64} {od : Nat → UInt64} {ad : Nat → Nat} (hc : zCnt Y 1) (h6 : zN Y 1 ≤ 6) {x y : Int32} : zCt G l yX8_newHouse (zws yX8_newHouse cX8_newHouse 4 (some .int)) ({ frames := 2, cells := 0, slots := 0, locals := 42 }) [.ref (ad 300), .int x, .int y] (zent Z sb mcn cp G.2.2.2.1 Y th o od ad) ad (fun r w1 ad1 => (kHouse x y = 0 ∧ some (.int (x * y)) = r ∧ zent Z sb mcn cp G.2.2.2.1 (mBeg (fIter mEmp (zu (zu Y 23 0 x) 24 0 y) 80)) 0 o od ad = w1 ∧ ad = ad1) ∨ (kHouse x y ≠ 0 ∧ (∃ v, some (.int v) = r) ∧ zent Z sb mcn cp G.2.2.2.1 Y (nI (kHouse x y)) o od ad = w1 ∧ ad = ad1)) (zNoX) := by
  refine z_body hl (by decide +kernel) (Nat.le_of_ble_eq_true rfl) (fun X O => ?_)
  refine z_iload_n O dX8_newHouse_0 rfl ?_
  refine z_iconst O dX8_newHouse_1 (v := 1) (by decide) ?_
  refine z_bipush O dX8_newHouse_2 (v := 8) (by decide) ?_
  refine z_callS O (c_X8_in hl) zI zm7_65 zm7_66 zm7_16 zm7_56 ⟨by decide +kernel, by decide +kernel, (show _ = some 3 by decide +kernel)⟩ ⟨Nat.le_of_ble_eq_true rfl, Nat.le_of_ble_eq_true rfl⟩ ⟨Nat.le_of_ble_eq_true rfl, Nat.le_of_ble_eq_true rfl⟩ dX8_newHouse_4 rfl (Nat.le_of_ble_eq_true rfl) (fun _ _ _ h => h.elim) (fun r w1 ad1 hp => ?_)
  rcases hp with ⟨rfl, hb, rfl, rfl⟩ | ⟨rfl, hb, rfl, rfl⟩
  · refine z_if_eq O dX8_newHouse_7 (tgt := 20) (by decide) (fun q => absurd q (by decide)) (fun _ => ?_)
    refine z_iload_n O dX8_newHouse_10 rfl ?_
    refine z_iconst O dX8_newHouse_11 (v := 1) (by decide) ?_
    refine z_bipush O dX8_newHouse_12 (v := 10) (by decide) ?_
    refine z_callS O (c_X8_in hl) zI zm7_65 zm7_66 zm7_16 zm7_56 ⟨by decide +kernel, by decide +kernel, (show _ = some 3 by decide +kernel)⟩ ⟨Nat.le_of_ble_eq_true rfl, Nat.le_of_ble_eq_true rfl⟩ ⟨Nat.le_of_ble_eq_true rfl, Nat.le_of_ble_eq_true rfl⟩ dX8_newHouse_14 rfl (Nat.le_of_ble_eq_true rfl) (fun _ _ _ h => h.elim) (fun r w1 ad1 hp => ?_)
    rcases hp with ⟨rfl, hb2, rfl, rfl⟩ | ⟨rfl, hb2, rfl, rfl⟩
    · refine z_if_ne O dX8_newHouse_17 (tgt := 26) (by decide) (fun _ => ?_) (fun q => absurd q (by decide))
      have L : ∀ (n : Nat) (i : Nat), i ≤ 80 → 80 < i + n → zV G X 4 0 0 38 [(0, .ref (ad 300)), (1, .int x), (2, .int y), (3, .int (nI i))] [] (zent Z sb mcn cp G.2.2.2.1 (fIter mEmp (zu (zu Y 23 0 x) 24 0 y) i) th o od ad) ad := by
        intro n
        induction n with
        | zero => intro i h1 h2; omega
        | succ n ih =>
          intro i h1 h2
          refine z_iload_n O dX8_newHouse_38 rfl ?_
          refine z_bipush O dX8_newHouse_39 (v := 80) (by decide) ?_
          refine z_icmp_ge O dX8_newHouse_41 (tgt := 55) (by decide) (fun h => ?_) (fun h => ?_)
          · have hi : i = 80 := by have := z_ge_ge (b := 80) (by omega) (by decide) h; omega
            subst hi
            refine z_aload_n O dX8_newHouse_55 rfl ?_
            refine z_callV O (c_X8_begins hl (by unfold zCnt zN; rw [mEmp_n (by decide)]; exact hc) (by unfold zN; rw [mEmp_n (by decide)]; exact h6)) zI zm8_3 zm8_4 zm8_5 zm7_16 zm7_69 ⟨rfl, by decide +kernel, by decide +kernel, (show _ = some 0 by decide +kernel)⟩ rfl (zg_model) ⟨Nat.le_of_ble_eq_true rfl, Nat.le_of_ble_eq_true rfl⟩ ⟨Nat.le_of_ble_eq_true rfl, Nat.le_of_ble_eq_true rfl⟩ dX8_newHouse_56 rfl (Nat.le_of_ble_eq_true rfl) (fun _ _ _ h => h.elim) (fun r w1 ad1 hp => ?_)
            obtain ⟨rfl, rfl, rfl⟩ := hp
            refine z_aload_n O dX8_newHouse_59 rfl ?_
            refine z_iload_n O dX8_newHouse_60 rfl ?_
            refine z_iload_n O dX8_newHouse_61 rfl ?_
            refine z_imul O dX8_newHouse_62 ?_
            refine z_callV O (c_X8_tells hl) zI zm8_6 zm8_7 zm8_8 zm7_16 zm7_61 ⟨rfl, by decide +kernel, by decide +kernel, (show _ = some 1 by decide +kernel)⟩ rfl (zg_model) ⟨Nat.le_of_ble_eq_true rfl, Nat.le_of_ble_eq_true rfl⟩ ⟨Nat.le_of_ble_eq_true rfl, Nat.le_of_ble_eq_true rfl⟩ dX8_newHouse_63 rfl (Nat.le_of_ble_eq_true rfl) (fun _ _ _ h => h.elim) (fun r w1 ad1 hp => ?_)
            obtain ⟨rfl, rfl, rfl⟩ := hp
            exact z_iret O dX8_newHouse_66 (Nat.le_of_ble_eq_true rfl) (Nat.le_of_ble_eq_true rfl) (Or.inl ⟨by unfold kHouse; rw [if_neg (fun q => q hb), if_neg (fun q => q hb2)], rfl, rfl, rfl⟩)
          · have hi : i < 80 := z_ge_lt (b := 80) (by omega) (by decide) h
            refine z_aload_n O dX8_newHouse_44 rfl ?_
            refine z_iload_n O dX8_newHouse_45 rfl ?_
            refine z_callV O (c_X8_empties hl hi) zI zm7_51 zm7_52 zm7_53 zm7_16 zm7_9 ⟨rfl, by decide +kernel, by decide +kernel, (show _ = some 1 by decide +kernel)⟩ rfl (zg_model) ⟨Nat.le_of_ble_eq_true rfl, Nat.le_of_ble_eq_true rfl⟩ ⟨Nat.le_of_ble_eq_true rfl, Nat.le_of_ble_eq_true rfl⟩ dX8_newHouse_46 rfl (Nat.le_of_ble_eq_true rfl) (fun _ _ _ h => h.elim) (fun r w1 ad1 hp => ?_)
            obtain ⟨rfl, rfl, rfl⟩ := hp
            refine z_iincN O dX8_newHouse_49 (a := i) rfl (by decide) ?_
            refine z_goto O dX8_newHouse_52 (tgt := 38) (by decide) ?_
            exact zV.loc (ih (i + 1) (by omega) (by omega)) ⟨rfl, rfl, rfl, rfl, trivial⟩
      refine z_aload_n O dX8_newHouse_26 rfl ?_
      refine z_iload_n O dX8_newHouse_27 rfl ?_
      refine z_put O (fk := 23) (fun x h => zI x (zu_RX8 x h)) tyX8 tyX8_ok nmX8 rfl (by decide) (zI _ zm7_37) rfl dX8_newHouse_28 rfl rfl (zg_model) (Nat.le_of_ble_eq_true rfl) (zp_model (F := 23) (by decide) rfl) ?_
      refine z_aload_n O dX8_newHouse_31 rfl ?_
      refine z_iload_n O dX8_newHouse_32 rfl ?_
      refine z_put O (fk := 24) (fun x h => zI x (zu_RX8 x h)) tyX8 tyX8_ok nmX8 rfl (by decide) (zI _ zm7_38) rfl dX8_newHouse_33 rfl rfl (zg_model) (Nat.le_of_ble_eq_true rfl) (zp_model (F := 24) (by decide) rfl) ?_
      refine z_iconst O dX8_newHouse_36 (v := 0) (by decide) ?_
      refine z_istore_n O dX8_newHouse_37 (by decide) ?_
      exact zV.loc (L 81 0 (by omega) (by omega)) ⟨rfl, rfl, rfl, rfl, trivial⟩
    · refine z_if_ne O dX8_newHouse_17 (tgt := 26) (by decide) (fun q => absurd rfl q) (fun _ => ?_)
      refine z_aload_n O dX8_newHouse_20 rfl ?_
      refine z_iconst O dX8_newHouse_21 (v := 1) (by decide) ?_
      refine z_callV O (c_X8_fails hl) zI zm8_0 zm8_1 zm8_2 zm7_16 zm7_59 ⟨rfl, by decide +kernel, by decide +kernel, (show _ = some 1 by decide +kernel)⟩ rfl (zg_model) ⟨Nat.le_of_ble_eq_true rfl, Nat.le_of_ble_eq_true rfl⟩ ⟨Nat.le_of_ble_eq_true rfl, Nat.le_of_ble_eq_true rfl⟩ dX8_newHouse_22 rfl (Nat.le_of_ble_eq_true rfl) (fun _ _ _ h => h.elim) (fun r w1 ad1 hp => ?_)
      obtain ⟨rfl, rfl, rfl⟩ := hp
      exact z_iret O dX8_newHouse_25 (Nat.le_of_ble_eq_true rfl) (Nat.le_of_ble_eq_true rfl) (Or.inr ⟨by unfold kHouse; rw [if_neg (fun q => q hb), if_pos hb2]; decide, ⟨_, rfl⟩, by unfold kHouse; rw [if_neg (fun q => q hb), if_pos hb2]; rfl, rfl⟩)
  · refine z_if_eq O dX8_newHouse_7 (tgt := 20) (by decide) (fun _ => ?_) (fun q => absurd rfl q)
    refine z_aload_n O dX8_newHouse_20 rfl ?_
    refine z_iconst O dX8_newHouse_21 (v := 1) (by decide) ?_
    refine z_callV O (c_X8_fails hl) zI zm8_0 zm8_1 zm8_2 zm7_16 zm7_59 ⟨rfl, by decide +kernel, by decide +kernel, (show _ = some 1 by decide +kernel)⟩ rfl (zg_model) ⟨Nat.le_of_ble_eq_true rfl, Nat.le_of_ble_eq_true rfl⟩ ⟨Nat.le_of_ble_eq_true rfl, Nat.le_of_ble_eq_true rfl⟩ dX8_newHouse_22 rfl (Nat.le_of_ble_eq_true rfl) (fun _ _ _ h => h.elim) (fun r w1 ad1 hp => ?_)
    obtain ⟨rfl, rfl, rfl⟩ := hp
    exact z_iret O dX8_newHouse_25 (Nat.le_of_ble_eq_true rfl) (Nat.le_of_ble_eq_true rfl) (Or.inr ⟨by unfold kHouse; rw [if_pos hb]; decide, ⟨_, rfl⟩, by unfold kHouse; rw [if_pos hb]; rfl, rfl⟩)

set_option maxRecDepth 100000 in
set_option maxHeartbeats 4000000 in
theorem c_X8_seatRival {G : zG} {l : Launch} (hl : l.stackTraces = false) {Z : zM} {sb : Nat → Option Nat} {mcn : Nat → Int32} {cp : Nat → Nat} {Y : zM} {th : Int32} {o : Nat → Int64} {od : Nat → UInt64} {ad : Nat → Nat} (hh : zHouse Y) (hse : zSeats Y) {x y : Int32} : zCt G l yX8_seatRival (zws yX8_seatRival cX8_seatRival 4 (some .char)) ({ frames := 2, cells := 0, slots := 0, locals := 44 }) [.ref (ad 300), .int x, .int y] (zent Z sb mcn cp G.2.2.2.1 Y th o od ad) ad (fun r w1 ad1 => (kSeat Y x y = 0 ∧ some (.int (Y 0 (fAt x y))) = r ∧ zent Z sb mcn cp G.2.2.2.1 (zu (mEmp Y (fAt x y)) 0 (fAt x y) 114) 0 o od ad = w1 ∧ ad = ad1) ∨ (kSeat Y x y ≠ 0 ∧ (∃ v, some (.int v) = r) ∧ zent Z sb mcn cp G.2.2.2.1 Y (nI (kSeat Y x y)) o od ad = w1 ∧ ad = ad1)) (zNoX) := by
  refine z_body hl (by decide +kernel) (Nat.le_of_ble_eq_true rfl) (fun X O => ?_)
  refine z_aload_n O dX8_seatRival_0 rfl ?_
  refine z_iload_n O dX8_seatRival_1 rfl ?_
  refine z_iload_n O dX8_seatRival_2 rfl ?_
  refine z_callV O (c_X8_isSeat hl hh) zI zm8_10 zm8_11 zm8_12 zm7_16 zm7_64 ⟨rfl, by decide +kernel, by decide +kernel, (show _ = some 2 by decide +kernel)⟩ rfl (zg_model) ⟨Nat.le_of_ble_eq_true rfl, Nat.le_of_ble_eq_true rfl⟩ ⟨Nat.le_of_ble_eq_true rfl, Nat.le_of_ble_eq_true rfl⟩ dX8_seatRival_3 rfl (Nat.le_of_ble_eq_true rfl) (fun _ _ _ h => h.elim) (fun r w1 ad1 hp => ?_)
  rcases hp with ⟨rfl, hb, rfl, rfl⟩ | ⟨rfl, hb, rfl, rfl⟩
  · refine z_if_ne O dX8_seatRival_6 (tgt := 15) (by decide) (fun _ => ?_) (fun q => absurd q (by decide))
    obtain ⟨hix, hk⟩ := fAt_in hh hb
    have hz1 : ¬ fPl Y x y = none := fun q => by rw [hb] at q; cases q
    refine z_aload_n O dX8_seatRival_15 rfl ?_
    refine z_get O (fk := 0) (fun x h => zI x (zu_RX8 x h)) rfl (by decide) (zI _ zm7_10) dX8_seatRival_16 (zg_model) rfl ?_
    refine z_bipush O dX8_seatRival_19 (v := 10) (by decide) ?_
    refine z_iload_n O dX8_seatRival_21 rfl ?_
    refine z_imul O dX8_seatRival_22 ?_
    refine z_iload_n O dX8_seatRival_23 rfl ?_
    refine z_iadd O dX8_seatRival_24 ?_
    refine z_cald O dX8_seatRival_25 (zg_mC (i := 0) (n := 80) rfl rfl (by decide)) (fAt x y) (hix) (hk) (by decide) ?_
    refine z_istore_n O dX8_seatRival_26 (by decide) ?_
    refine z_aload_n O dX8_seatRival_27 rfl ?_
    refine z_bipush O dX8_seatRival_28 (v := 10) (by decide) ?_
    refine z_iload_n O dX8_seatRival_30 rfl ?_
    refine z_imul O dX8_seatRival_31 ?_
    refine z_iload_n O dX8_seatRival_32 rfl ?_
    refine z_iadd O dX8_seatRival_33 ?_
    rw [hix]
    refine z_callV O (c_X8_empties hl hk) zI zm7_51 zm7_52 zm7_53 zm7_16 zm7_9 ⟨rfl, by decide +kernel, by decide +kernel, (show _ = some 1 by decide +kernel)⟩ rfl (zg_model) ⟨Nat.le_of_ble_eq_true rfl, Nat.le_of_ble_eq_true rfl⟩ ⟨Nat.le_of_ble_eq_true rfl, Nat.le_of_ble_eq_true rfl⟩ dX8_seatRival_34 rfl (Nat.le_of_ble_eq_true rfl) (fun _ _ _ h => h.elim) (fun r w1 ad1 hp => ?_)
    obtain ⟨rfl, rfl, rfl⟩ := hp
    refine z_aload_n O dX8_seatRival_37 rfl ?_
    refine z_get O (fk := 0) (fun x h => zI x (zu_RX8 x h)) rfl (by decide) (zI _ zm7_10) dX8_seatRival_38 (zg_model) rfl ?_
    refine z_bipush O dX8_seatRival_41 (v := 10) (by decide) ?_
    refine z_iload_n O dX8_seatRival_43 rfl ?_
    refine z_imul O dX8_seatRival_44 ?_
    refine z_iload_n O dX8_seatRival_45 rfl ?_
    refine z_iadd O dX8_seatRival_46 ?_
    refine z_bipush O dX8_seatRival_47 (v := 114) (by decide) ?_
    refine z_cast O dX8_seatRival_49 (zg_mC (i := 0) (n := 80) rfl rfl (by decide)) (fAt x y) (hix) (hk) (by decide) (zChr_114.1) (zp_mC (i := 0) (n := 80) rfl rfl (by decide)) ?_
    refine z_aload_n O dX8_seatRival_50 rfl ?_
    refine z_iload_n O dX8_seatRival_51 rfl ?_
    refine z_callV O (c_X8_tellsAs hl ((hse _ hk).1)) zI zm8_16 zm8_17 zm8_18 zm7_16 zm7_62 ⟨rfl, by decide +kernel, by decide +kernel, (show _ = some 1 by decide +kernel)⟩ rfl (zg_model) ⟨Nat.le_of_ble_eq_true rfl, Nat.le_of_ble_eq_true rfl⟩ ⟨Nat.le_of_ble_eq_true rfl, Nat.le_of_ble_eq_true rfl⟩ dX8_seatRival_52 rfl (Nat.le_of_ble_eq_true rfl) (fun _ _ _ h => h.elim) (fun r w1 ad1 hp => ?_)
    obtain ⟨rfl, rfl, rfl⟩ := hp
    exact z_zret O rfl ((hse _ hk).1).1 dX8_seatRival_55 (Nat.le_of_ble_eq_true rfl) (Nat.le_of_ble_eq_true rfl) (Or.inl ⟨by unfold kSeat; rw [if_neg hz1], rfl, rfl, rfl⟩)
  · refine z_if_ne O dX8_seatRival_6 (tgt := 15) (by decide) (fun q => absurd rfl q) (fun _ => ?_)
    refine z_aload_n O dX8_seatRival_9 rfl ?_
    refine z_iconst O dX8_seatRival_10 (v := 1) (by decide) ?_
    refine z_callV O (c_X8_failsAs hl) zI zm8_13 zm8_14 zm8_15 zm7_16 zm7_60 ⟨rfl, by decide +kernel, by decide +kernel, (show _ = some 1 by decide +kernel)⟩ rfl (zg_model) ⟨Nat.le_of_ble_eq_true rfl, Nat.le_of_ble_eq_true rfl⟩ ⟨Nat.le_of_ble_eq_true rfl, Nat.le_of_ble_eq_true rfl⟩ dX8_seatRival_11 rfl (Nat.le_of_ble_eq_true rfl) (fun _ _ _ h => h.elim) (fun r w1 ad1 hp => ?_)
    obtain ⟨rfl, rfl, rfl⟩ := hp
    exact z_zret O rfl rfl dX8_seatRival_14 (Nat.le_of_ble_eq_true rfl) (Nat.le_of_ble_eq_true rfl) (Or.inr ⟨by unfold kSeat; rw [if_pos hb]; decide, ⟨_, rfl⟩, by unfold kSeat; rw [if_pos hb]; rfl, rfl⟩)

set_option maxRecDepth 100000 in
set_option maxHeartbeats 4000000 in
theorem c_X8_clearSeat {G : zG} {l : Launch} (hl : l.stackTraces = false) {Z : zM} {sb : Nat → Option Nat} {mcn : Nat → Int32} {cp : Nat → Nat} {Y : zM} {th : Int32} {o : Nat → Int64} {od : Nat → UInt64} {ad : Nat → Nat} (hh : zHouse Y) (hse : zSeats Y) {x y : Int32} : zCt G l yX8_clearSeat (zws yX8_clearSeat cX8_clearSeat 4 (some .char)) ({ frames := 2, cells := 0, slots := 0, locals := 44 }) [.ref (ad 300), .int x, .int y] (zent Z sb mcn cp G.2.2.2.1 Y th o od ad) ad (fun r w1 ad1 => (kSeat Y x y = 0 ∧ some (.int (Y 0 (fAt x y))) = r ∧ zent Z sb mcn cp G.2.2.2.1 (mEmp Y (fAt x y)) 0 o od ad = w1 ∧ ad = ad1) ∨ (kSeat Y x y ≠ 0 ∧ (∃ v, some (.int v) = r) ∧ zent Z sb mcn cp G.2.2.2.1 Y (nI (kSeat Y x y)) o od ad = w1 ∧ ad = ad1)) (zNoX) := by
  refine z_body hl (by decide +kernel) (Nat.le_of_ble_eq_true rfl) (fun X O => ?_)
  refine z_aload_n O dX8_clearSeat_0 rfl ?_
  refine z_iload_n O dX8_clearSeat_1 rfl ?_
  refine z_iload_n O dX8_clearSeat_2 rfl ?_
  refine z_callV O (c_X8_isSeat hl hh) zI zm8_10 zm8_11 zm8_12 zm7_16 zm7_64 ⟨rfl, by decide +kernel, by decide +kernel, (show _ = some 2 by decide +kernel)⟩ rfl (zg_model) ⟨Nat.le_of_ble_eq_true rfl, Nat.le_of_ble_eq_true rfl⟩ ⟨Nat.le_of_ble_eq_true rfl, Nat.le_of_ble_eq_true rfl⟩ dX8_clearSeat_3 rfl (Nat.le_of_ble_eq_true rfl) (fun _ _ _ h => h.elim) (fun r w1 ad1 hp => ?_)
  rcases hp with ⟨rfl, hb, rfl, rfl⟩ | ⟨rfl, hb, rfl, rfl⟩
  · refine z_if_ne O dX8_clearSeat_6 (tgt := 15) (by decide) (fun _ => ?_) (fun q => absurd q (by decide))
    obtain ⟨hix, hk⟩ := fAt_in hh hb
    have hz1 : ¬ fPl Y x y = none := fun q => by rw [hb] at q; cases q
    refine z_aload_n O dX8_clearSeat_15 rfl ?_
    refine z_get O (fk := 0) (fun x h => zI x (zu_RX8 x h)) rfl (by decide) (zI _ zm7_10) dX8_clearSeat_16 (zg_model) rfl ?_
    refine z_bipush O dX8_clearSeat_19 (v := 10) (by decide) ?_
    refine z_iload_n O dX8_clearSeat_21 rfl ?_
    refine z_imul O dX8_clearSeat_22 ?_
    refine z_iload_n O dX8_clearSeat_23 rfl ?_
    refine z_iadd O dX8_clearSeat_24 ?_
    refine z_cald O dX8_clearSeat_25 (zg_mC (i := 0) (n := 80) rfl rfl (by decide)) (fAt x y) (hix) (hk) (by decide) ?_
    refine z_istore_n O dX8_clearSeat_26 (by decide) ?_
    refine z_aload_n O dX8_clearSeat_27 rfl ?_
    refine z_bipush O dX8_clearSeat_28 (v := 10) (by decide) ?_
    refine z_iload_n O dX8_clearSeat_30 rfl ?_
    refine z_imul O dX8_clearSeat_31 ?_
    refine z_iload_n O dX8_clearSeat_32 rfl ?_
    refine z_iadd O dX8_clearSeat_33 ?_
    rw [hix]
    refine z_callV O (c_X8_empties hl hk) zI zm7_51 zm7_52 zm7_53 zm7_16 zm7_9 ⟨rfl, by decide +kernel, by decide +kernel, (show _ = some 1 by decide +kernel)⟩ rfl (zg_model) ⟨Nat.le_of_ble_eq_true rfl, Nat.le_of_ble_eq_true rfl⟩ ⟨Nat.le_of_ble_eq_true rfl, Nat.le_of_ble_eq_true rfl⟩ dX8_clearSeat_34 rfl (Nat.le_of_ble_eq_true rfl) (fun _ _ _ h => h.elim) (fun r w1 ad1 hp => ?_)
    obtain ⟨rfl, rfl, rfl⟩ := hp
    refine z_aload_n O dX8_clearSeat_37 rfl ?_
    refine z_iload_n O dX8_clearSeat_38 rfl ?_
    refine z_callV O (c_X8_tellsAs hl ((hse _ hk).1)) zI zm8_16 zm8_17 zm8_18 zm7_16 zm7_62 ⟨rfl, by decide +kernel, by decide +kernel, (show _ = some 1 by decide +kernel)⟩ rfl (zg_model) ⟨Nat.le_of_ble_eq_true rfl, Nat.le_of_ble_eq_true rfl⟩ ⟨Nat.le_of_ble_eq_true rfl, Nat.le_of_ble_eq_true rfl⟩ dX8_clearSeat_39 rfl (Nat.le_of_ble_eq_true rfl) (fun _ _ _ h => h.elim) (fun r w1 ad1 hp => ?_)
    obtain ⟨rfl, rfl, rfl⟩ := hp
    exact z_zret O rfl ((hse _ hk).1).1 dX8_clearSeat_42 (Nat.le_of_ble_eq_true rfl) (Nat.le_of_ble_eq_true rfl) (Or.inl ⟨by unfold kSeat; rw [if_neg hz1], rfl, rfl, rfl⟩)
  · refine z_if_ne O dX8_clearSeat_6 (tgt := 15) (by decide) (fun q => absurd rfl q) (fun _ => ?_)
    refine z_aload_n O dX8_clearSeat_9 rfl ?_
    refine z_iconst O dX8_clearSeat_10 (v := 1) (by decide) ?_
    refine z_callV O (c_X8_failsAs hl) zI zm8_13 zm8_14 zm8_15 zm7_16 zm7_60 ⟨rfl, by decide +kernel, by decide +kernel, (show _ = some 1 by decide +kernel)⟩ rfl (zg_model) ⟨Nat.le_of_ble_eq_true rfl, Nat.le_of_ble_eq_true rfl⟩ ⟨Nat.le_of_ble_eq_true rfl, Nat.le_of_ble_eq_true rfl⟩ dX8_clearSeat_11 rfl (Nat.le_of_ble_eq_true rfl) (fun _ _ _ h => h.elim) (fun r w1 ad1 hp => ?_)
    obtain ⟨rfl, rfl, rfl⟩ := hp
    exact z_zret O rfl rfl dX8_clearSeat_14 (Nat.le_of_ble_eq_true rfl) (Nat.le_of_ble_eq_true rfl) (Or.inr ⟨by unfold kSeat; rw [if_pos hb]; decide, ⟨_, rfl⟩, by unfold kSeat; rw [if_pos hb]; rfl, rfl⟩)

set_option maxRecDepth 100000 in
set_option maxHeartbeats 4000000 in
theorem c_X8_seatAt {G : zG} {l : Launch} (hl : l.stackTraces = false) {Z : zM} {sb : Nat → Option Nat} {mcn : Nat → Int32} {cp : Nat → Nat} {Y : zM} {th : Int32} {o : Nat → Int64} {od : Nat → UInt64} {ad : Nat → Nat} (hh : zHouse Y) (hse : zSeats Y) {x y : Int32} : zCt G l yX8_seatAt (zws yX8_seatAt cX8_seatAt 3 (some .char)) ({ frames := 2, cells := 0, slots := 0, locals := 44 }) [.ref (ad 300), .int x, .int y] (zent Z sb mcn cp G.2.2.2.1 Y th o od ad) ad (fun r w1 ad1 => (kSeat Y x y = 0 ∧ some (.int (Y 0 (fAt x y))) = r ∧ zent Z sb mcn cp G.2.2.2.1 Y 0 o od ad = w1 ∧ ad = ad1) ∨ (kSeat Y x y ≠ 0 ∧ (∃ v, some (.int v) = r) ∧ zent Z sb mcn cp G.2.2.2.1 Y (nI (kSeat Y x y)) o od ad = w1 ∧ ad = ad1)) (zNoX) := by
  refine z_body hl (by decide +kernel) (Nat.le_of_ble_eq_true rfl) (fun X O => ?_)
  refine z_aload_n O dX8_seatAt_0 rfl ?_
  refine z_iload_n O dX8_seatAt_1 rfl ?_
  refine z_iload_n O dX8_seatAt_2 rfl ?_
  refine z_callV O (c_X8_isSeat hl hh) zI zm8_10 zm8_11 zm8_12 zm7_16 zm7_64 ⟨rfl, by decide +kernel, by decide +kernel, (show _ = some 2 by decide +kernel)⟩ rfl (zg_model) ⟨Nat.le_of_ble_eq_true rfl, Nat.le_of_ble_eq_true rfl⟩ ⟨Nat.le_of_ble_eq_true rfl, Nat.le_of_ble_eq_true rfl⟩ dX8_seatAt_3 rfl (Nat.le_of_ble_eq_true rfl) (fun _ _ _ h => h.elim) (fun r w1 ad1 hp => ?_)
  rcases hp with ⟨rfl, hb, rfl, rfl⟩ | ⟨rfl, hb, rfl, rfl⟩
  · refine z_if_eq O dX8_seatAt_6 (tgt := 27) (by decide) (fun q => absurd q (by decide)) (fun _ => ?_)
    obtain ⟨hix, hk⟩ := fAt_in hh hb
    have hz1 : ¬ fPl Y x y = none := fun q => by rw [hb] at q; cases q
    refine z_aload_n O dX8_seatAt_9 rfl ?_
    refine z_aload_n O dX8_seatAt_10 rfl ?_
    refine z_get O (fk := 0) (fun x h => zI x (zu_RX8 x h)) rfl (by decide) (zI _ zm7_10) dX8_seatAt_11 (zg_model) rfl ?_
    refine z_bipush O dX8_seatAt_14 (v := 10) (by decide) ?_
    refine z_iload_n O dX8_seatAt_16 rfl ?_
    refine z_imul O dX8_seatAt_17 ?_
    refine z_iload_n O dX8_seatAt_18 rfl ?_
    refine z_iadd O dX8_seatAt_19 ?_
    refine z_cald O dX8_seatAt_20 (zg_mC (i := 0) (n := 80) rfl rfl (by decide)) (fAt x y) (hix) (hk) (by decide) ?_
    refine z_callV O (c_X8_tellsAs hl ((hse _ hk).1)) zI zm8_16 zm8_17 zm8_18 zm7_16 zm7_62 ⟨rfl, by decide +kernel, by decide +kernel, (show _ = some 1 by decide +kernel)⟩ rfl (zg_model) ⟨Nat.le_of_ble_eq_true rfl, Nat.le_of_ble_eq_true rfl⟩ ⟨Nat.le_of_ble_eq_true rfl, Nat.le_of_ble_eq_true rfl⟩ dX8_seatAt_21 rfl (Nat.le_of_ble_eq_true rfl) (fun _ _ _ h => h.elim) (fun r w1 ad1 hp => ?_)
    obtain ⟨rfl, rfl, rfl⟩ := hp
    refine z_goto O dX8_seatAt_24 (tgt := 32) (by decide) ?_
    exact z_zret O rfl ((hse _ hk).1).1 dX8_seatAt_32 (Nat.le_of_ble_eq_true rfl) (Nat.le_of_ble_eq_true rfl) (Or.inl ⟨by unfold kSeat; rw [if_neg hz1], rfl, rfl, rfl⟩)
  · refine z_if_eq O dX8_seatAt_6 (tgt := 27) (by decide) (fun _ => ?_) (fun q => absurd rfl q)
    refine z_aload_n O dX8_seatAt_27 rfl ?_
    refine z_iconst O dX8_seatAt_28 (v := 1) (by decide) ?_
    refine z_callV O (c_X8_failsAs hl) zI zm8_13 zm8_14 zm8_15 zm7_16 zm7_60 ⟨rfl, by decide +kernel, by decide +kernel, (show _ = some 1 by decide +kernel)⟩ rfl (zg_model) ⟨Nat.le_of_ble_eq_true rfl, Nat.le_of_ble_eq_true rfl⟩ ⟨Nat.le_of_ble_eq_true rfl, Nat.le_of_ble_eq_true rfl⟩ dX8_seatAt_29 rfl (Nat.le_of_ble_eq_true rfl) (fun _ _ _ h => h.elim) (fun r w1 ad1 hp => ?_)
    obtain ⟨rfl, rfl, rfl⟩ := hp
    exact z_zret O rfl rfl dX8_seatAt_32 (Nat.le_of_ble_eq_true rfl) (Nat.le_of_ble_eq_true rfl) (Or.inr ⟨by unfold kSeat; rw [if_pos hb]; decide, ⟨_, rfl⟩, by unfold kSeat; rw [if_pos hb]; rfl, rfl⟩)

set_option maxRecDepth 100000 in
set_option maxHeartbeats 4000000 in
theorem c_X8_noiseAt {G : zG} {l : Launch} (hl : l.stackTraces = false) {Z : zM} {sb : Nat → Option Nat} {mcn : Nat → Int32} {cp : Nat → Nat} {Y : zM} {th : Int32} {o : Nat → Int64} {od : Nat → UInt64} {ad : Nat → Nat} (hh : zHouse Y) (hse : zSeats Y) {x y : Int32} : zCt G l yX8_noiseAt (zws yX8_noiseAt cX8_noiseAt 3 (some .int)) ({ frames := 2, cells := 0, slots := 0, locals := 44 }) [.ref (ad 300), .int x, .int y] (zent Z sb mcn cp G.2.2.2.1 Y th o od ad) ad (fun r w1 ad1 => (kSeat Y x y = 0 ∧ some (.int (Y 3 (fAt x y))) = r ∧ zent Z sb mcn cp G.2.2.2.1 Y 0 o od ad = w1 ∧ ad = ad1) ∨ (kSeat Y x y ≠ 0 ∧ (∃ v, some (.int v) = r) ∧ zent Z sb mcn cp G.2.2.2.1 Y (nI (kSeat Y x y)) o od ad = w1 ∧ ad = ad1)) (zNoX) := by
  refine z_body hl (by decide +kernel) (Nat.le_of_ble_eq_true rfl) (fun X O => ?_)
  refine z_aload_n O dX8_noiseAt_0 rfl ?_
  refine z_iload_n O dX8_noiseAt_1 rfl ?_
  refine z_iload_n O dX8_noiseAt_2 rfl ?_
  refine z_callV O (c_X8_isSeat hl hh) zI zm8_10 zm8_11 zm8_12 zm7_16 zm7_64 ⟨rfl, by decide +kernel, by decide +kernel, (show _ = some 2 by decide +kernel)⟩ rfl (zg_model) ⟨Nat.le_of_ble_eq_true rfl, Nat.le_of_ble_eq_true rfl⟩ ⟨Nat.le_of_ble_eq_true rfl, Nat.le_of_ble_eq_true rfl⟩ dX8_noiseAt_3 rfl (Nat.le_of_ble_eq_true rfl) (fun _ _ _ h => h.elim) (fun r w1 ad1 hp => ?_)
  rcases hp with ⟨rfl, hb, rfl, rfl⟩ | ⟨rfl, hb, rfl, rfl⟩
  · refine z_if_eq O dX8_noiseAt_6 (tgt := 27) (by decide) (fun q => absurd q (by decide)) (fun _ => ?_)
    obtain ⟨hix, hk⟩ := fAt_in hh hb
    have hz1 : ¬ fPl Y x y = none := fun q => by rw [hb] at q; cases q
    refine z_aload_n O dX8_noiseAt_9 rfl ?_
    refine z_aload_n O dX8_noiseAt_10 rfl ?_
    refine z_get O (fk := 3) (fun x h => zI x (zu_RX8 x h)) rfl (by decide) (zI _ zm7_5) dX8_noiseAt_11 (zg_model) rfl ?_
    refine z_bipush O dX8_noiseAt_14 (v := 10) (by decide) ?_
    refine z_iload_n O dX8_noiseAt_16 rfl ?_
    refine z_imul O dX8_noiseAt_17 ?_
    refine z_iload_n O dX8_noiseAt_18 rfl ?_
    refine z_iadd O dX8_noiseAt_19 ?_
    refine z_iald O dX8_noiseAt_20 (zg_mI (i := 3) (n := 80) rfl rfl (by decide)) (fAt x y) (hix) (hk) (by decide) ?_
    refine z_callV O (c_X8_tells hl) zI zm8_6 zm8_7 zm8_8 zm7_16 zm7_61 ⟨rfl, by decide +kernel, by decide +kernel, (show _ = some 1 by decide +kernel)⟩ rfl (zg_model) ⟨Nat.le_of_ble_eq_true rfl, Nat.le_of_ble_eq_true rfl⟩ ⟨Nat.le_of_ble_eq_true rfl, Nat.le_of_ble_eq_true rfl⟩ dX8_noiseAt_21 rfl (Nat.le_of_ble_eq_true rfl) (fun _ _ _ h => h.elim) (fun r w1 ad1 hp => ?_)
    obtain ⟨rfl, rfl, rfl⟩ := hp
    refine z_goto O dX8_noiseAt_24 (tgt := 32) (by decide) ?_
    exact z_iret O dX8_noiseAt_32 (Nat.le_of_ble_eq_true rfl) (Nat.le_of_ble_eq_true rfl) (Or.inl ⟨by unfold kSeat; rw [if_neg hz1], rfl, rfl, rfl⟩)
  · refine z_if_eq O dX8_noiseAt_6 (tgt := 27) (by decide) (fun _ => ?_) (fun q => absurd rfl q)
    refine z_aload_n O dX8_noiseAt_27 rfl ?_
    refine z_iconst O dX8_noiseAt_28 (v := 1) (by decide) ?_
    refine z_callV O (c_X8_fails hl) zI zm8_0 zm8_1 zm8_2 zm7_16 zm7_59 ⟨rfl, by decide +kernel, by decide +kernel, (show _ = some 1 by decide +kernel)⟩ rfl (zg_model) ⟨Nat.le_of_ble_eq_true rfl, Nat.le_of_ble_eq_true rfl⟩ ⟨Nat.le_of_ble_eq_true rfl, Nat.le_of_ble_eq_true rfl⟩ dX8_noiseAt_29 rfl (Nat.le_of_ble_eq_true rfl) (fun _ _ _ h => h.elim) (fun r w1 ad1 hp => ?_)
    obtain ⟨rfl, rfl, rfl⟩ := hp
    exact z_iret O dX8_noiseAt_32 (Nat.le_of_ble_eq_true rfl) (Nat.le_of_ble_eq_true rfl) (Or.inr ⟨by unfold kSeat; rw [if_pos hb]; decide, ⟨_, rfl⟩, by unfold kSeat; rw [if_pos hb]; rfl, rfl⟩)

set_option maxRecDepth 100000 in
set_option maxHeartbeats 4000000 in
theorem c_X8_tiredness {G : zG} {l : Launch} (hl : l.stackTraces = false) {Z : zM} {sb : Nat → Option Nat} {mcn : Nat → Int32} {cp : Nat → Nat} {Y : zM} {th : Int32} {o : Nat → Int64} {od : Nat → UInt64} {ad : Nat → Nat} (hh : zHouse Y) (hse : zSeats Y) {x y : Int32} : zCt G l yX8_tiredness (zws yX8_tiredness cX8_tiredness 3 (some .int)) ({ frames := 2, cells := 0, slots := 0, locals := 44 }) [.ref (ad 300), .int x, .int y] (zent Z sb mcn cp G.2.2.2.1 Y th o od ad) ad (fun r w1 ad1 => (kTired Y x y = 0 ∧ some (.int (Y 4 (fAt x y) / 10)) = r ∧ zent Z sb mcn cp G.2.2.2.1 Y 0 o od ad = w1 ∧ ad = ad1) ∨ (kTired Y x y ≠ 0 ∧ (∃ v, some (.int v) = r) ∧ zent Z sb mcn cp G.2.2.2.1 Y (nI (kTired Y x y)) o od ad = w1 ∧ ad = ad1)) (zNoX) := by
  refine z_body hl (by decide +kernel) (Nat.le_of_ble_eq_true rfl) (fun X O => ?_)
  refine z_aload_n O dX8_tiredness_0 rfl ?_
  refine z_iload_n O dX8_tiredness_1 rfl ?_
  refine z_iload_n O dX8_tiredness_2 rfl ?_
  refine z_callV O (c_X8_isSeat hl hh) zI zm8_10 zm8_11 zm8_12 zm7_16 zm7_64 ⟨rfl, by decide +kernel, by decide +kernel, (show _ = some 2 by decide +kernel)⟩ rfl (zg_model) ⟨Nat.le_of_ble_eq_true rfl, Nat.le_of_ble_eq_true rfl⟩ ⟨Nat.le_of_ble_eq_true rfl, Nat.le_of_ble_eq_true rfl⟩ dX8_tiredness_3 rfl (Nat.le_of_ble_eq_true rfl) (fun _ _ _ h => h.elim) (fun r w1 ad1 hp => ?_)
  rcases hp with ⟨rfl, hb, rfl, rfl⟩ | ⟨rfl, hb, rfl, rfl⟩
  · refine z_if_ne O dX8_tiredness_6 (tgt := 15) (by decide) (fun _ => ?_) (fun q => absurd q (by decide))
    obtain ⟨hix, hk⟩ := fAt_in hh hb
    have hz1 : ¬ fPl Y x y = none := fun q => by rw [hb] at q; cases q
    refine z_aload_n O dX8_tiredness_15 rfl ?_
    refine z_get O (fk := 0) (fun x h => zI x (zu_RX8 x h)) rfl (by decide) (zI _ zm7_10) dX8_tiredness_16 (zg_model) rfl ?_
    refine z_bipush O dX8_tiredness_19 (v := 10) (by decide) ?_
    refine z_iload_n O dX8_tiredness_21 rfl ?_
    refine z_imul O dX8_tiredness_22 ?_
    refine z_iload_n O dX8_tiredness_23 rfl ?_
    refine z_iadd O dX8_tiredness_24 ?_
    refine z_cald O dX8_tiredness_25 (zg_mC (i := 0) (n := 80) rfl rfl (by decide)) (fAt x y) (hix) (hk) (by decide) ?_
    refine z_bipush O dX8_tiredness_26 (v := 112) (by decide) ?_
    refine z_icmp_ne O dX8_tiredness_28 (tgt := 52) (by decide) (fun g => ?_) (fun g => ?_)
    · refine z_aload_n O dX8_tiredness_52 rfl ?_
      refine z_iconst O dX8_tiredness_53 (v := 2) (by decide) ?_
      refine z_callV O (c_X8_fails hl) zI zm8_0 zm8_1 zm8_2 zm7_16 zm7_59 ⟨rfl, by decide +kernel, by decide +kernel, (show _ = some 1 by decide +kernel)⟩ rfl (zg_model) ⟨Nat.le_of_ble_eq_true rfl, Nat.le_of_ble_eq_true rfl⟩ ⟨Nat.le_of_ble_eq_true rfl, Nat.le_of_ble_eq_true rfl⟩ dX8_tiredness_54 rfl (Nat.le_of_ble_eq_true rfl) (fun _ _ _ h => h.elim) (fun r w1 ad1 hp => ?_)
      obtain ⟨rfl, rfl, rfl⟩ := hp
      exact z_iret O dX8_tiredness_57 (Nat.le_of_ble_eq_true rfl) (Nat.le_of_ble_eq_true rfl) (Or.inr ⟨by unfold kTired; rw [if_neg hz1, if_neg g]; decide, ⟨_, rfl⟩, by unfold kTired; rw [if_neg hz1, if_neg g]; rfl, rfl⟩)
    · refine z_aload_n O dX8_tiredness_31 rfl ?_
      refine z_aload_n O dX8_tiredness_32 rfl ?_
      refine z_get O (fk := 4) (fun x h => zI x (zu_RX8 x h)) rfl (by decide) (zI _ zm7_6) dX8_tiredness_33 (zg_model) rfl ?_
      refine z_bipush O dX8_tiredness_36 (v := 10) (by decide) ?_
      refine z_iload_n O dX8_tiredness_38 rfl ?_
      refine z_imul O dX8_tiredness_39 ?_
      refine z_iload_n O dX8_tiredness_40 rfl ?_
      refine z_iadd O dX8_tiredness_41 ?_
      refine z_iald O dX8_tiredness_42 (zg_mI (i := 4) (n := 80) rfl rfl (by decide)) (fAt x y) (hix) (hk) (by decide) ?_
      refine z_bipush O dX8_tiredness_43 (v := 10) (by decide) ?_
      refine z_idiv O dX8_tiredness_45 (by decide) ?_
      refine z_callV O (c_X8_tells hl) zI zm8_6 zm8_7 zm8_8 zm7_16 zm7_61 ⟨rfl, by decide +kernel, by decide +kernel, (show _ = some 1 by decide +kernel)⟩ rfl (zg_model) ⟨Nat.le_of_ble_eq_true rfl, Nat.le_of_ble_eq_true rfl⟩ ⟨Nat.le_of_ble_eq_true rfl, Nat.le_of_ble_eq_true rfl⟩ dX8_tiredness_46 rfl (Nat.le_of_ble_eq_true rfl) (fun _ _ _ h => h.elim) (fun r w1 ad1 hp => ?_)
      obtain ⟨rfl, rfl, rfl⟩ := hp
      refine z_goto O dX8_tiredness_49 (tgt := 57) (by decide) ?_
      exact z_iret O dX8_tiredness_57 (Nat.le_of_ble_eq_true rfl) (Nat.le_of_ble_eq_true rfl) (Or.inl ⟨by unfold kTired; rw [if_neg hz1, if_pos g], rfl, rfl, rfl⟩)
  · refine z_if_ne O dX8_tiredness_6 (tgt := 15) (by decide) (fun q => absurd rfl q) (fun _ => ?_)
    refine z_aload_n O dX8_tiredness_9 rfl ?_
    refine z_iconst O dX8_tiredness_10 (v := 1) (by decide) ?_
    refine z_callV O (c_X8_fails hl) zI zm8_0 zm8_1 zm8_2 zm7_16 zm7_59 ⟨rfl, by decide +kernel, by decide +kernel, (show _ = some 1 by decide +kernel)⟩ rfl (zg_model) ⟨Nat.le_of_ble_eq_true rfl, Nat.le_of_ble_eq_true rfl⟩ ⟨Nat.le_of_ble_eq_true rfl, Nat.le_of_ble_eq_true rfl⟩ dX8_tiredness_11 rfl (Nat.le_of_ble_eq_true rfl) (fun _ _ _ h => h.elim) (fun r w1 ad1 hp => ?_)
    obtain ⟨rfl, rfl, rfl⟩ := hp
    exact z_iret O dX8_tiredness_14 (Nat.le_of_ble_eq_true rfl) (Nat.le_of_ble_eq_true rfl) (Or.inr ⟨by unfold kTired; rw [if_pos hb]; decide, ⟨_, rfl⟩, by unfold kTired; rw [if_pos hb]; rfl, rfl⟩)

set_option maxRecDepth 100000 in
set_option maxHeartbeats 4000000 in
theorem c_X8_seatPayer {G : zG} {l : Launch} (hl : l.stackTraces = false) {Z : zM} {sb : Nat → Option Nat} {mcn : Nat → Int32} {cp : Nat → Nat} {Y : zM} {th : Int32} {o : Nat → Int64} {od : Nat → UInt64} {ad : Nat → Nat} (hh : zHouse Y) (hse : zSeats Y) {x y : Int32} {t : Int32} : zCt G l yX8_seatPayer (zws yX8_seatPayer cX8_seatPayer 6 (some .char)) ({ frames := 2, cells := 0, slots := 0, locals := 44 }) [.ref (ad 300), .int x, .int y, .int t] (zent Z sb mcn cp G.2.2.2.1 Y th o od ad) ad (fun r w1 ad1 => (kPayer Y x y t = 0 ∧ some (.int (Y 0 (fAt x y))) = r ∧ zent Z sb mcn cp G.2.2.2.1 (zu (zu (mEmp Y (fAt x y)) 0 (fAt x y) 112) 1 (fAt x y) t) 0 o od ad = w1 ∧ ad = ad1) ∨ (kPayer Y x y t ≠ 0 ∧ (∃ v, some (.int v) = r) ∧ zent Z sb mcn cp G.2.2.2.1 Y (nI (kPayer Y x y t)) o od ad = w1 ∧ ad = ad1)) (zNoX) := by
  refine z_body hl (by decide +kernel) (Nat.le_of_ble_eq_true rfl) (fun X O => ?_)
  refine z_aload_n O dX8_seatPayer_0 rfl ?_
  refine z_iload_n O dX8_seatPayer_1 rfl ?_
  refine z_iload_n O dX8_seatPayer_2 rfl ?_
  refine z_callV O (c_X8_isSeat hl hh) zI zm8_10 zm8_11 zm8_12 zm7_16 zm7_64 ⟨rfl, by decide +kernel, by decide +kernel, (show _ = some 2 by decide +kernel)⟩ rfl (zg_model) ⟨Nat.le_of_ble_eq_true rfl, Nat.le_of_ble_eq_true rfl⟩ ⟨Nat.le_of_ble_eq_true rfl, Nat.le_of_ble_eq_true rfl⟩ dX8_seatPayer_3 rfl (Nat.le_of_ble_eq_true rfl) (fun _ _ _ h => h.elim) (fun r w1 ad1 hp => ?_)
  rcases hp with ⟨rfl, hb, rfl, rfl⟩ | ⟨rfl, hb, rfl, rfl⟩
  · refine z_if_ne O dX8_seatPayer_6 (tgt := 15) (by decide) (fun _ => ?_) (fun q => absurd q (by decide))
    obtain ⟨hix, hk⟩ := fAt_in hh hb
    have hz1 : ¬ fPl Y x y = none := fun q => by rw [hb] at q; cases q
    refine z_iload_n O dX8_seatPayer_15 rfl ?_
    refine z_iconst O dX8_seatPayer_16 (v := 1) (by decide) ?_
    refine z_bipush O dX8_seatPayer_17 (v := 9) (by decide) ?_
    refine z_callS O (c_X8_in hl) zI zm7_65 zm7_66 zm7_16 zm7_56 ⟨by decide +kernel, by decide +kernel, (show _ = some 3 by decide +kernel)⟩ ⟨Nat.le_of_ble_eq_true rfl, Nat.le_of_ble_eq_true rfl⟩ ⟨Nat.le_of_ble_eq_true rfl, Nat.le_of_ble_eq_true rfl⟩ dX8_seatPayer_19 rfl (Nat.le_of_ble_eq_true rfl) (fun _ _ _ h => h.elim) (fun r w1 ad1 hp => ?_)
    rcases hp with ⟨rfl, hb2, rfl, rfl⟩ | ⟨rfl, hb2, rfl, rfl⟩
    · refine z_if_ne O dX8_seatPayer_22 (tgt := 31) (by decide) (fun _ => ?_) (fun q => absurd q (by decide))
      refine z_bipush O dX8_seatPayer_31 (v := 10) (by decide) ?_
      refine z_iload_n O dX8_seatPayer_33 rfl ?_
      refine z_imul O dX8_seatPayer_34 ?_
      refine z_iload_n O dX8_seatPayer_35 rfl ?_
      refine z_iadd O dX8_seatPayer_36 ?_
      rw [hix]
      refine z_istore O dX8_seatPayer_37 (by decide) ?_
      refine z_aload_n O dX8_seatPayer_39 rfl ?_
      refine z_get O (fk := 0) (fun x h => zI x (zu_RX8 x h)) rfl (by decide) (zI _ zm7_10) dX8_seatPayer_40 (zg_model) rfl ?_
      refine z_iload O dX8_seatPayer_43 rfl ?_
      refine z_cald O dX8_seatPayer_45 (zg_mC (i := 0) (n := 80) rfl rfl (by decide)) (fAt x y) (rfl) (hk) (by decide) ?_
      refine z_istore O dX8_seatPayer_46 (by decide) ?_
      refine z_aload_n O dX8_seatPayer_48 rfl ?_
      refine z_iload O dX8_seatPayer_49 rfl ?_
      refine z_callV O (c_X8_empties hl hk) zI zm7_51 zm7_52 zm7_53 zm7_16 zm7_9 ⟨rfl, by decide +kernel, by decide +kernel, (show _ = some 1 by decide +kernel)⟩ rfl (zg_model) ⟨Nat.le_of_ble_eq_true rfl, Nat.le_of_ble_eq_true rfl⟩ ⟨Nat.le_of_ble_eq_true rfl, Nat.le_of_ble_eq_true rfl⟩ dX8_seatPayer_51 rfl (Nat.le_of_ble_eq_true rfl) (fun _ _ _ h => h.elim) (fun r w1 ad1 hp => ?_)
      obtain ⟨rfl, rfl, rfl⟩ := hp
      refine z_aload_n O dX8_seatPayer_54 rfl ?_
      refine z_get O (fk := 0) (fun x h => zI x (zu_RX8 x h)) rfl (by decide) (zI _ zm7_10) dX8_seatPayer_55 (zg_model) rfl ?_
      refine z_iload O dX8_seatPayer_58 rfl ?_
      refine z_bipush O dX8_seatPayer_60 (v := 112) (by decide) ?_
      refine z_cast O dX8_seatPayer_62 (zg_mC (i := 0) (n := 80) rfl rfl (by decide)) (fAt x y) (rfl) (hk) (by decide) (zChr_112.1) (zp_mC (i := 0) (n := 80) rfl rfl (by decide)) ?_
      refine z_aload_n O dX8_seatPayer_63 rfl ?_
      refine z_get O (fk := 1) (fun x h => zI x (zu_RX8 x h)) rfl (by decide) (zI _ zm7_11) dX8_seatPayer_64 (zg_model) rfl ?_
      refine z_iload O dX8_seatPayer_67 rfl ?_
      refine z_iload_n O dX8_seatPayer_69 rfl ?_
      refine z_iast O dX8_seatPayer_70 (zg_mI (i := 1) (n := 80) rfl rfl (by decide)) (fAt x y) (rfl) (hk) (by decide) (zp_mI (i := 1) (n := 80) rfl rfl (by decide)) ?_
      refine z_aload_n O dX8_seatPayer_71 rfl ?_
      refine z_iload O dX8_seatPayer_72 rfl ?_
      refine z_callV O (c_X8_tellsAs hl ((hse _ hk).1)) zI zm8_16 zm8_17 zm8_18 zm7_16 zm7_62 ⟨rfl, by decide +kernel, by decide +kernel, (show _ = some 1 by decide +kernel)⟩ rfl (zg_model) ⟨Nat.le_of_ble_eq_true rfl, Nat.le_of_ble_eq_true rfl⟩ ⟨Nat.le_of_ble_eq_true rfl, Nat.le_of_ble_eq_true rfl⟩ dX8_seatPayer_74 rfl (Nat.le_of_ble_eq_true rfl) (fun _ _ _ h => h.elim) (fun r w1 ad1 hp => ?_)
      obtain ⟨rfl, rfl, rfl⟩ := hp
      exact z_zret O rfl ((hse _ hk).1).1 dX8_seatPayer_77 (Nat.le_of_ble_eq_true rfl) (Nat.le_of_ble_eq_true rfl) (Or.inl ⟨by unfold kPayer; rw [if_neg hz1, if_neg (fun q => q hb2)], rfl, rfl, rfl⟩)
    · refine z_if_ne O dX8_seatPayer_22 (tgt := 31) (by decide) (fun q => absurd rfl q) (fun _ => ?_)
      refine z_aload_n O dX8_seatPayer_25 rfl ?_
      refine z_iconst O dX8_seatPayer_26 (v := 2) (by decide) ?_
      refine z_callV O (c_X8_failsAs hl) zI zm8_13 zm8_14 zm8_15 zm7_16 zm7_60 ⟨rfl, by decide +kernel, by decide +kernel, (show _ = some 1 by decide +kernel)⟩ rfl (zg_model) ⟨Nat.le_of_ble_eq_true rfl, Nat.le_of_ble_eq_true rfl⟩ ⟨Nat.le_of_ble_eq_true rfl, Nat.le_of_ble_eq_true rfl⟩ dX8_seatPayer_27 rfl (Nat.le_of_ble_eq_true rfl) (fun _ _ _ h => h.elim) (fun r w1 ad1 hp => ?_)
      obtain ⟨rfl, rfl, rfl⟩ := hp
      exact z_zret O rfl rfl dX8_seatPayer_30 (Nat.le_of_ble_eq_true rfl) (Nat.le_of_ble_eq_true rfl) (Or.inr ⟨by unfold kPayer; rw [if_neg hz1, if_pos hb2]; decide, ⟨_, rfl⟩, by unfold kPayer; rw [if_neg hz1, if_pos hb2]; rfl, rfl⟩)
  · refine z_if_ne O dX8_seatPayer_6 (tgt := 15) (by decide) (fun q => absurd rfl q) (fun _ => ?_)
    refine z_aload_n O dX8_seatPayer_9 rfl ?_
    refine z_iconst O dX8_seatPayer_10 (v := 1) (by decide) ?_
    refine z_callV O (c_X8_failsAs hl) zI zm8_13 zm8_14 zm8_15 zm7_16 zm7_60 ⟨rfl, by decide +kernel, by decide +kernel, (show _ = some 1 by decide +kernel)⟩ rfl (zg_model) ⟨Nat.le_of_ble_eq_true rfl, Nat.le_of_ble_eq_true rfl⟩ ⟨Nat.le_of_ble_eq_true rfl, Nat.le_of_ble_eq_true rfl⟩ dX8_seatPayer_11 rfl (Nat.le_of_ble_eq_true rfl) (fun _ _ _ h => h.elim) (fun r w1 ad1 hp => ?_)
    obtain ⟨rfl, rfl, rfl⟩ := hp
    exact z_zret O rfl rfl dX8_seatPayer_14 (Nat.le_of_ble_eq_true rfl) (Nat.le_of_ble_eq_true rfl) (Or.inr ⟨by unfold kPayer; rw [if_pos hb]; decide, ⟨_, rfl⟩, by unfold kPayer; rw [if_pos hb]; rfl, rfl⟩)

def mOut (h : Int32) (Y : zM) (k : Nat) : zM := if Y 2 k = h then mEmp Y k else Y
theorem mOut_chr1 {h : Int32} {Y : zM} {i k : Nat} (hs : zChr (Y 0 k)) : zChr (mOut h Y i 0 k) := by
  unfold mOut
  by_cases q : Y 2 i = h
  · rw [if_pos q]
    unfold mEmp mRest
    by_cases e : k = i
    · simpa [zu, e] using zChr_46
    · simpa [zu, e] using hs
  · rw [if_neg q]; exact hs
theorem mOut_chr {h : Int32} {Y : zM} (hs : ∀ k, k < 80 → zChr (Y 0 k)) : ∀ i k, k < 80 → zChr (fIter (mOut h) Y i 0 k)
  | 0, k, hk => hs k hk
  | i + 1, k, hk => mOut_chr1 (mOut_chr hs i k hk)
set_option maxRecDepth 100000 in
set_option maxHeartbeats 4000000 in
theorem c_X8_seatHand {G : zG} {l : Launch} (hl : l.stackTraces = false) {Z : zM} {sb : Nat → Option Nat} {mcn : Nat → Int32} {cp : Nat → Nat} {Y : zM} {th : Int32} {o : Nat → Int64} {od : Nat → UInt64} {ad : Nat → Nat} (hc : zCnt Y 0) (hh : zHouse Y) (hse : zSeats Y) {x y : Int32} {h : Int32} : zCt G l yX8_seatHand (zws yX8_seatHand cX8_seatHand 6 (some .char)) ({ frames := 2, cells := 0, slots := 0, locals := 44 }) [.ref (ad 300), .int h, .int x, .int y] (zent Z sb mcn cp G.2.2.2.1 Y th o od ad) ad (fun r w1 ad1 => (kMove Y h x y = 0 ∧ some (.int (fIter (mOut h) Y 80 0 (fAt x y))) = r ∧ zent Z sb mcn cp G.2.2.2.1 (zu (zu (mEmp (fIter (mOut h) Y 80) (fAt x y)) 0 (fAt x y) 104) 2 (fAt x y) h) 0 o od ad = w1 ∧ ad = ad1) ∨ (kMove Y h x y ≠ 0 ∧ (∃ v, some (.int v) = r) ∧ zent Z sb mcn cp G.2.2.2.1 Y (nI (kMove Y h x y)) o od ad = w1 ∧ ad = ad1)) (zNoX) := by
  refine z_body hl (by decide +kernel) (Nat.le_of_ble_eq_true rfl) (fun X O => ?_)
  refine z_aload_n O dX8_seatHand_0 rfl ?_
  refine z_iload_n O dX8_seatHand_1 rfl ?_
  refine z_callV O (c_X8_isHand hl hc) zI zm8_21 zm8_22 zm8_23 zm7_16 zm7_67 ⟨rfl, by decide +kernel, by decide +kernel, (show _ = some 1 by decide +kernel)⟩ rfl (zg_model) ⟨Nat.le_of_ble_eq_true rfl, Nat.le_of_ble_eq_true rfl⟩ ⟨Nat.le_of_ble_eq_true rfl, Nat.le_of_ble_eq_true rfl⟩ dX8_seatHand_2 rfl (Nat.le_of_ble_eq_true rfl) (fun _ _ _ h => h.elim) (fun r w1 ad1 hp => ?_)
  rcases hp with ⟨rfl, hb, rfl, rfl⟩ | ⟨rfl, hb, rfl, rfl⟩
  · refine z_if_eq O dX8_seatHand_5 (tgt := 17) (by decide) (fun q => absurd q (by decide)) (fun _ => ?_)
    refine z_aload_n O dX8_seatHand_8 rfl ?_
    refine z_iload_n O dX8_seatHand_9 rfl ?_
    refine z_iload_n O dX8_seatHand_10 rfl ?_
    refine z_callV O (c_X8_isSeat hl hh) zI zm8_10 zm8_11 zm8_12 zm7_16 zm7_64 ⟨rfl, by decide +kernel, by decide +kernel, (show _ = some 2 by decide +kernel)⟩ rfl (zg_model) ⟨Nat.le_of_ble_eq_true rfl, Nat.le_of_ble_eq_true rfl⟩ ⟨Nat.le_of_ble_eq_true rfl, Nat.le_of_ble_eq_true rfl⟩ dX8_seatHand_11 rfl (Nat.le_of_ble_eq_true rfl) (fun _ _ _ h => h.elim) (fun r w1 ad1 hp => ?_)
    rcases hp with ⟨rfl, hb2, rfl, rfl⟩ | ⟨rfl, hb2, rfl, rfl⟩
    · refine z_if_ne O dX8_seatHand_14 (tgt := 23) (by decide) (fun _ => ?_) (fun q => absurd q (by decide))
      obtain ⟨hix, hk⟩ := fAt_in hh hb2
      have hz1 : ¬ fPl Y x y = none := fun q => by rw [hb2] at q; cases q
      refine z_bipush O dX8_seatHand_23 (v := 10) (by decide) ?_
      refine z_iload_n O dX8_seatHand_25 rfl ?_
      refine z_imul O dX8_seatHand_26 ?_
      refine z_iload_n O dX8_seatHand_27 rfl ?_
      refine z_iadd O dX8_seatHand_28 ?_
      rw [hix]
      refine z_istore O dX8_seatHand_29 (by decide) ?_
      refine z_aload_n O dX8_seatHand_31 rfl ?_
      refine z_get O (fk := 2) (fun x h => zI x (zu_RX8 x h)) rfl (by decide) (zI _ zm7_12) dX8_seatHand_32 (zg_model) rfl ?_
      refine z_iload O dX8_seatHand_35 rfl ?_
      refine z_iald O dX8_seatHand_37 (zg_mI (i := 2) (n := 80) rfl rfl (by decide)) (fAt x y) (rfl) (hk) (by decide) ?_
      refine z_iload_n O dX8_seatHand_38 rfl ?_
      refine z_icmp_ne O dX8_seatHand_39 (tgt := 48) (by decide) (fun g => ?_) (fun g => ?_)
      · have L : ∀ (n : Nat) (i : Nat), i ≤ 80 → 80 < i + n → zV G X 6 0 0 51 [(0, .ref (ad 300)), (1, .int h), (2, .int x), (3, .int y), (4, .int (nI (fAt x y))), (5, .int (nI i))] [] (zent Z sb mcn cp G.2.2.2.1 (fIter (mOut h) Y i) th o od ad) ad := by
          intro n
          induction n with
          | zero => intro i h1 h2; omega
          | succ n ih =>
            intro i h1 h2
            refine z_iload O dX8_seatHand_51 rfl ?_
            refine z_bipush O dX8_seatHand_53 (v := 80) (by decide) ?_
            refine z_icmp_ge O dX8_seatHand_55 (tgt := 81) (by decide) (fun h9 => ?_) (fun h9 => ?_)
            · have hi : i = 80 := by have := z_ge_ge (b := 80) (by omega) (by decide) h9; omega
              subst hi
              refine z_aload_n O dX8_seatHand_81 rfl ?_
              refine z_get O (fk := 0) (fun x h => zI x (zu_RX8 x h)) rfl (by decide) (zI _ zm7_10) dX8_seatHand_82 (zg_model) rfl ?_
              refine z_iload O dX8_seatHand_85 rfl ?_
              refine z_cald O dX8_seatHand_87 (zg_mC (i := 0) (n := 80) rfl rfl (by decide)) (fAt x y) (rfl) (hk) (by decide) ?_
              refine z_istore O dX8_seatHand_88 (by decide) ?_
              refine z_aload_n O dX8_seatHand_90 rfl ?_
              refine z_iload O dX8_seatHand_91 rfl ?_
              refine z_callV O (c_X8_empties hl hk) zI zm7_51 zm7_52 zm7_53 zm7_16 zm7_9 ⟨rfl, by decide +kernel, by decide +kernel, (show _ = some 1 by decide +kernel)⟩ rfl (zg_model) ⟨Nat.le_of_ble_eq_true rfl, Nat.le_of_ble_eq_true rfl⟩ ⟨Nat.le_of_ble_eq_true rfl, Nat.le_of_ble_eq_true rfl⟩ dX8_seatHand_93 rfl (Nat.le_of_ble_eq_true rfl) (fun _ _ _ h => h.elim) (fun r w1 ad1 hp => ?_)
              obtain ⟨rfl, rfl, rfl⟩ := hp
              refine z_aload_n O dX8_seatHand_96 rfl ?_
              refine z_get O (fk := 0) (fun x h => zI x (zu_RX8 x h)) rfl (by decide) (zI _ zm7_10) dX8_seatHand_97 (zg_model) rfl ?_
              refine z_iload O dX8_seatHand_100 rfl ?_
              refine z_bipush O dX8_seatHand_102 (v := 104) (by decide) ?_
              refine z_cast O dX8_seatHand_104 (zg_mC (i := 0) (n := 80) rfl rfl (by decide)) (fAt x y) (rfl) (hk) (by decide) (zChr_104.1) (zp_mC (i := 0) (n := 80) rfl rfl (by decide)) ?_
              refine z_aload_n O dX8_seatHand_105 rfl ?_
              refine z_get O (fk := 2) (fun x h => zI x (zu_RX8 x h)) rfl (by decide) (zI _ zm7_12) dX8_seatHand_106 (zg_model) rfl ?_
              refine z_iload O dX8_seatHand_109 rfl ?_
              refine z_iload_n O dX8_seatHand_111 rfl ?_
              refine z_iast O dX8_seatHand_112 (zg_mI (i := 2) (n := 80) rfl rfl (by decide)) (fAt x y) (rfl) (hk) (by decide) (zp_mI (i := 2) (n := 80) rfl rfl (by decide)) ?_
              refine z_aload_n O dX8_seatHand_113 rfl ?_
              refine z_iload O dX8_seatHand_114 rfl ?_
              refine z_callV O (c_X8_tellsAs hl (mOut_chr (fun k hk => (hse k hk).1) 80 _ hk)) zI zm8_16 zm8_17 zm8_18 zm7_16 zm7_62 ⟨rfl, by decide +kernel, by decide +kernel, (show _ = some 1 by decide +kernel)⟩ rfl (zg_model) ⟨Nat.le_of_ble_eq_true rfl, Nat.le_of_ble_eq_true rfl⟩ ⟨Nat.le_of_ble_eq_true rfl, Nat.le_of_ble_eq_true rfl⟩ dX8_seatHand_116 rfl (Nat.le_of_ble_eq_true rfl) (fun _ _ _ h => h.elim) (fun r w1 ad1 hp => ?_)
              obtain ⟨rfl, rfl, rfl⟩ := hp
              exact z_zret O rfl (mOut_chr (fun k hk => (hse k hk).1) 80 _ hk).1 dX8_seatHand_119 (Nat.le_of_ble_eq_true rfl) (Nat.le_of_ble_eq_true rfl) (Or.inl ⟨by unfold kMove; rw [if_neg (fun q => q hb), if_neg hz1, if_neg g], rfl, rfl, rfl⟩)
            · have hi : i < 80 := z_ge_lt (b := 80) (by omega) (by decide) h9
              refine z_aload_n O dX8_seatHand_58 rfl ?_
              refine z_get O (fk := 2) (fun x h => zI x (zu_RX8 x h)) rfl (by decide) (zI _ zm7_12) dX8_seatHand_59 (zg_model) rfl ?_
              refine z_iload O dX8_seatHand_62 rfl ?_
              refine z_iald O dX8_seatHand_64 (zg_mI (i := 2) (n := 80) rfl rfl (by decide)) (i) (rfl) (hi) (by decide) ?_
              refine z_iload_n O dX8_seatHand_65 rfl ?_
              refine z_icmp_ne O dX8_seatHand_66 (tgt := 75) (by decide) (fun e => ?_) (fun e => ?_)
              · refine z_iincN O dX8_seatHand_75 (a := i) rfl (by decide) ?_
                refine z_goto O dX8_seatHand_78 (tgt := 51) (by decide) ?_
                refine zV.to (ih (i + 1) (by omega) (by omega)) ⟨rfl, rfl, rfl, rfl, rfl, rfl, trivial⟩ rfl ?_
                rw [show fIter (mOut h) Y (i + 1) = fIter (mOut h) Y i from if_neg e]
              · refine z_aload_n O dX8_seatHand_69 rfl ?_
                refine z_iload O dX8_seatHand_70 rfl ?_
                refine z_callV O (c_X8_empties hl hi) zI zm7_51 zm7_52 zm7_53 zm7_16 zm7_9 ⟨rfl, by decide +kernel, by decide +kernel, (show _ = some 1 by decide +kernel)⟩ rfl (zg_model) ⟨Nat.le_of_ble_eq_true rfl, Nat.le_of_ble_eq_true rfl⟩ ⟨Nat.le_of_ble_eq_true rfl, Nat.le_of_ble_eq_true rfl⟩ dX8_seatHand_72 rfl (Nat.le_of_ble_eq_true rfl) (fun _ _ _ h => h.elim) (fun r w1 ad1 hp => ?_)
                obtain ⟨rfl, rfl, rfl⟩ := hp
                refine z_iincN O dX8_seatHand_75 (a := i) rfl (by decide) ?_
                refine z_goto O dX8_seatHand_78 (tgt := 51) (by decide) ?_
                refine zV.to (ih (i + 1) (by omega) (by omega)) ⟨rfl, rfl, rfl, rfl, rfl, rfl, trivial⟩ rfl ?_
                rw [show fIter (mOut h) Y (i + 1) = mEmp (fIter (mOut h) Y i) i from if_pos e]
        refine z_iconst O dX8_seatHand_48 (v := 0) (by decide) ?_
        refine z_istore O dX8_seatHand_49 (by decide) ?_
        exact zV.loc (L 81 0 (by omega) (by omega)) ⟨rfl, rfl, rfl, rfl, rfl, rfl, trivial⟩
      · refine z_aload_n O dX8_seatHand_42 rfl ?_
        refine z_iconst O dX8_seatHand_43 (v := 2) (by decide) ?_
        refine z_callV O (c_X8_failsAs hl) zI zm8_13 zm8_14 zm8_15 zm7_16 zm7_60 ⟨rfl, by decide +kernel, by decide +kernel, (show _ = some 1 by decide +kernel)⟩ rfl (zg_model) ⟨Nat.le_of_ble_eq_true rfl, Nat.le_of_ble_eq_true rfl⟩ ⟨Nat.le_of_ble_eq_true rfl, Nat.le_of_ble_eq_true rfl⟩ dX8_seatHand_44 rfl (Nat.le_of_ble_eq_true rfl) (fun _ _ _ h => h.elim) (fun r w1 ad1 hp => ?_)
        obtain ⟨rfl, rfl, rfl⟩ := hp
        exact z_zret O rfl rfl dX8_seatHand_47 (Nat.le_of_ble_eq_true rfl) (Nat.le_of_ble_eq_true rfl) (Or.inr ⟨by unfold kMove; rw [if_neg (fun q => q hb), if_neg hz1, if_pos g]; decide, ⟨_, rfl⟩, by unfold kMove; rw [if_neg (fun q => q hb), if_neg hz1, if_pos g]; rfl, rfl⟩)
    · refine z_if_ne O dX8_seatHand_14 (tgt := 23) (by decide) (fun q => absurd rfl q) (fun _ => ?_)
      refine z_aload_n O dX8_seatHand_17 rfl ?_
      refine z_iconst O dX8_seatHand_18 (v := 1) (by decide) ?_
      refine z_callV O (c_X8_failsAs hl) zI zm8_13 zm8_14 zm8_15 zm7_16 zm7_60 ⟨rfl, by decide +kernel, by decide +kernel, (show _ = some 1 by decide +kernel)⟩ rfl (zg_model) ⟨Nat.le_of_ble_eq_true rfl, Nat.le_of_ble_eq_true rfl⟩ ⟨Nat.le_of_ble_eq_true rfl, Nat.le_of_ble_eq_true rfl⟩ dX8_seatHand_19 rfl (Nat.le_of_ble_eq_true rfl) (fun _ _ _ h => h.elim) (fun r w1 ad1 hp => ?_)
      obtain ⟨rfl, rfl, rfl⟩ := hp
      exact z_zret O rfl rfl dX8_seatHand_22 (Nat.le_of_ble_eq_true rfl) (Nat.le_of_ble_eq_true rfl) (Or.inr ⟨by unfold kMove; rw [if_neg (fun q => q hb), if_pos hb2]; decide, ⟨_, rfl⟩, by unfold kMove; rw [if_neg (fun q => q hb), if_pos hb2]; rfl, rfl⟩)
  · refine z_if_eq O dX8_seatHand_5 (tgt := 17) (by decide) (fun _ => ?_) (fun q => absurd rfl q)
    refine z_aload_n O dX8_seatHand_17 rfl ?_
    refine z_iconst O dX8_seatHand_18 (v := 1) (by decide) ?_
    refine z_callV O (c_X8_failsAs hl) zI zm8_13 zm8_14 zm8_15 zm7_16 zm7_60 ⟨rfl, by decide +kernel, by decide +kernel, (show _ = some 1 by decide +kernel)⟩ rfl (zg_model) ⟨Nat.le_of_ble_eq_true rfl, Nat.le_of_ble_eq_true rfl⟩ ⟨Nat.le_of_ble_eq_true rfl, Nat.le_of_ble_eq_true rfl⟩ dX8_seatHand_19 rfl (Nat.le_of_ble_eq_true rfl) (fun _ _ _ h => h.elim) (fun r w1 ad1 hp => ?_)
    obtain ⟨rfl, rfl, rfl⟩ := hp
    exact z_zret O rfl rfl dX8_seatHand_22 (Nat.le_of_ble_eq_true rfl) (Nat.le_of_ble_eq_true rfl) (Or.inr ⟨by unfold kMove; rw [if_pos hb]; decide, ⟨_, rfl⟩, by unfold kMove; rw [if_pos hb]; rfl, rfl⟩)

def mAny (Y : zM) (h : Int32) : Nat → Bool
  | 0 => false
  | k + 1 => mAny Y h k || decide (Y 2 k = h)
set_option maxRecDepth 100000 in
set_option maxHeartbeats 4000000 in
theorem c_X8_isSeated {G : zG} {l : Launch} (hl : l.stackTraces = false) {Z : zM} {sb : Nat → Option Nat} {mcn : Nat → Int32} {cp : Nat → Nat} {Y : zM} {th : Int32} {o : Nat → Int64} {od : Nat → UInt64} {ad : Nat → Nat} (hc : zCnt Y 0) {x : Int32} : zCt G l yX8_isSeated (zws yX8_isSeated cX8_isSeated 4 (some .boolean)) ({ frames := 2, cells := 0, slots := 0, locals := 43 }) [.ref (ad 300), .int x] (zent Z sb mcn cp G.2.2.2.1 Y th o od ad) ad (fun r w1 ad1 => (kHand Y x = 0 ∧ some (.int (if mAny Y x 80 = true then 1 else 0)) = r ∧ zent Z sb mcn cp G.2.2.2.1 Y 0 o od ad = w1 ∧ ad = ad1) ∨ (kHand Y x ≠ 0 ∧ (∃ v, some (.int v) = r) ∧ zent Z sb mcn cp G.2.2.2.1 Y (nI (kHand Y x)) o od ad = w1 ∧ ad = ad1)) (zNoX) := by
  refine z_body hl (by decide +kernel) (Nat.le_of_ble_eq_true rfl) (fun X O => ?_)
  refine z_aload_n O dX8_isSeated_0 rfl ?_
  refine z_aload_n O dX8_isSeated_1 rfl ?_
  refine z_iload_n O dX8_isSeated_2 rfl ?_
  refine z_callV O (c_X8_isHand hl hc) zI zm8_21 zm8_22 zm8_23 zm7_16 zm7_67 ⟨rfl, by decide +kernel, by decide +kernel, (show _ = some 1 by decide +kernel)⟩ rfl (zg_model) ⟨Nat.le_of_ble_eq_true rfl, Nat.le_of_ble_eq_true rfl⟩ ⟨Nat.le_of_ble_eq_true rfl, Nat.le_of_ble_eq_true rfl⟩ dX8_isSeated_3 rfl (Nat.le_of_ble_eq_true rfl) (fun _ _ _ h => h.elim) (fun r w1 ad1 hp => ?_)
  rcases hp with ⟨rfl, hb, rfl, rfl⟩ | ⟨rfl, hb, rfl, rfl⟩
  · refine z_if_eq O dX8_isSeated_6 (tgt := 13) (by decide) (fun q => absurd q (by decide)) (fun _ => ?_)
    refine z_iconst O dX8_isSeated_9 (v := 0) (by decide) ?_
    refine z_goto O dX8_isSeated_10 (tgt := 14) (by decide) ?_
    refine z_callV O (c_X8_failsIf hl (x := 0)) zI zm8_32 zm8_33 zm8_34 zm7_16 zm7_63 ⟨rfl, by decide +kernel, by decide +kernel, (show _ = some 1 by decide +kernel)⟩ rfl (zg_model) ⟨Nat.le_of_ble_eq_true rfl, Nat.le_of_ble_eq_true rfl⟩ ⟨Nat.le_of_ble_eq_true rfl, Nat.le_of_ble_eq_true rfl⟩ dX8_isSeated_14 rfl (Nat.le_of_ble_eq_true rfl) (fun _ _ _ h => h.elim) (fun r w1 ad1 hp => ?_)
    rcases hp with ⟨rfl, hb0, rfl, rfl⟩ | ⟨rfl, hb0, rfl, rfl⟩
    · exact absurd hb0 (by decide)
    · refine z_if_eq O dX8_isSeated_17 (tgt := 22) (by decide) (fun _ => ?_) (fun q => absurd rfl q)
      have L : ∀ (n : Nat) (i : Nat), i ≤ 80 → 80 < i + n → zV G X 4 0 0 26 [(0, .ref (ad 300)), (1, .int x), (2, .int (if mAny Y x i = true then 1 else 0)), (3, .int (nI i))] [] (zent Z sb mcn cp G.2.2.2.1 Y 0 o od ad) ad := by
        intro n
        induction n with
        | zero => intro i h1 h2; omega
        | succ n ih =>
          intro i h1 h2
          refine z_iload_n O dX8_isSeated_26 rfl ?_
          refine z_bipush O dX8_isSeated_27 (v := 80) (by decide) ?_
          refine z_icmp_ge O dX8_isSeated_29 (tgt := 58) (by decide) (fun h => ?_) (fun h => ?_)
          · have hi : i = 80 := by have := z_ge_ge (b := 80) (by omega) (by decide) h; omega
            subst hi
            refine z_iload_n O dX8_isSeated_58 rfl ?_
            exact z_zret O rfl (by split <;> rfl) dX8_isSeated_59 (Nat.le_of_ble_eq_true rfl) (Nat.le_of_ble_eq_true rfl) (Or.inl ⟨by unfold kHand; rw [if_neg (fun q => q hb)], rfl, rfl, rfl⟩)
          · have hi : i < 80 := z_ge_lt (b := 80) (by omega) (by decide) h
            refine z_iload_n O dX8_isSeated_32 rfl ?_
            by_cases e : mAny Y x i = true
            · rw [if_pos e]
              refine z_if_ne O dX8_isSeated_33 (tgt := 46) (by decide) (fun _ => ?_) (fun q => absurd q (by decide))
              refine z_iconst O dX8_isSeated_46 (v := 1) (by decide) ?_
              refine z_goto O dX8_isSeated_47 (tgt := 51) (by decide) ?_
              refine z_istore_n O dX8_isSeated_51 (by decide) ?_
              refine z_iincN O dX8_isSeated_52 (a := i) rfl (by decide) ?_
              refine z_goto O dX8_isSeated_55 (tgt := 26) (by decide) ?_
              exact zV.loc (ih (i + 1) (by omega) (by omega)) ⟨rfl, rfl, by rw [show mAny Y x (i + 1) = true from by show (mAny Y x i || _) = true; rw [e]; rfl]; rfl, rfl, trivial⟩
            · rw [if_neg e]
              refine z_if_ne O dX8_isSeated_33 (tgt := 46) (by decide) (fun q => absurd rfl q) (fun _ => ?_)
              refine z_aload_n O dX8_isSeated_36 rfl ?_
              refine z_get O (fk := 2) (fun x h => zI x (zu_RX8 x h)) rfl (by decide) (zI _ zm7_12) dX8_isSeated_37 (zg_model) rfl ?_
              refine z_iload_n O dX8_isSeated_40 rfl ?_
              refine z_iald O dX8_isSeated_41 (zg_mI (i := 2) (n := 80) rfl rfl (by decide)) (i) (rfl) (hi) (by decide) ?_
              refine z_iload_n O dX8_isSeated_42 rfl ?_
              refine z_icmp_ne O dX8_isSeated_43 (tgt := 50) (by decide) (fun g => ?_) (fun g => ?_)
              · refine z_iconst O dX8_isSeated_50 (v := 0) (by decide) ?_
                refine z_istore_n O dX8_isSeated_51 (by decide) ?_
                refine z_iincN O dX8_isSeated_52 (a := i) rfl (by decide) ?_
                refine z_goto O dX8_isSeated_55 (tgt := 26) (by decide) ?_
                exact zV.loc (ih (i + 1) (by omega) (by omega)) ⟨rfl, rfl, by rw [show mAny Y x (i + 1) = false from by show (mAny Y x i || decide (Y 2 i = x)) = false; rw [decide_eq_false g, Bool.not_eq_true _ |>.mp e]; rfl]; rfl, rfl, trivial⟩
              · refine z_iconst O dX8_isSeated_46 (v := 1) (by decide) ?_
                refine z_goto O dX8_isSeated_47 (tgt := 51) (by decide) ?_
                refine z_istore_n O dX8_isSeated_51 (by decide) ?_
                refine z_iincN O dX8_isSeated_52 (a := i) rfl (by decide) ?_
                refine z_goto O dX8_isSeated_55 (tgt := 26) (by decide) ?_
                exact zV.loc (ih (i + 1) (by omega) (by omega)) ⟨rfl, rfl, by rw [show mAny Y x (i + 1) = true from by show (mAny Y x i || decide (Y 2 i = x)) = true; rw [decide_eq_true g]; simp]; rfl, rfl, trivial⟩
      refine z_iconst O dX8_isSeated_22 (v := 0) (by decide) ?_
      refine z_istore_n O dX8_isSeated_23 (by decide) ?_
      refine z_iconst O dX8_isSeated_24 (v := 0) (by decide) ?_
      refine z_istore_n O dX8_isSeated_25 (by decide) ?_
      exact zV.loc (L 81 0 (by omega) (by omega)) ⟨rfl, rfl, rfl, rfl, trivial⟩
  · refine z_if_eq O dX8_isSeated_6 (tgt := 13) (by decide) (fun _ => ?_) (fun q => absurd rfl q)
    refine z_iconst O dX8_isSeated_13 (v := 1) (by decide) ?_
    refine z_callV O (c_X8_failsIf hl (x := 1)) zI zm8_32 zm8_33 zm8_34 zm7_16 zm7_63 ⟨rfl, by decide +kernel, by decide +kernel, (show _ = some 1 by decide +kernel)⟩ rfl (zg_model) ⟨Nat.le_of_ble_eq_true rfl, Nat.le_of_ble_eq_true rfl⟩ ⟨Nat.le_of_ble_eq_true rfl, Nat.le_of_ble_eq_true rfl⟩ dX8_isSeated_14 rfl (Nat.le_of_ble_eq_true rfl) (fun _ _ _ h => h.elim) (fun r w1 ad1 hp => ?_)
    rcases hp with ⟨rfl, hb0, rfl, rfl⟩ | ⟨rfl, hb0, rfl, rfl⟩
    · refine z_if_eq O dX8_isSeated_17 (tgt := 22) (by decide) (fun q => absurd q (by decide)) (fun _ => ?_)
      refine z_iconst O dX8_isSeated_20 (v := 0) (by decide) ?_
      exact z_zret O rfl rfl dX8_isSeated_21 (Nat.le_of_ble_eq_true rfl) (Nat.le_of_ble_eq_true rfl) (Or.inr ⟨by unfold kHand; rw [if_pos hb]; decide, ⟨_, rfl⟩, by unfold kHand; rw [if_pos hb]; rfl, rfl⟩)
    · exact absurd (by decide) hb0
