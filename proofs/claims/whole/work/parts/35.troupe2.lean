theorem z_toInt64_0 {x : Int32} (h : x.toInt64 = 0) : x = 0 := by
  have h1 : x.toInt64.toInt = 0 := by rw [h]; rfl
  rw [Int32.toInt_toInt64] at h1
  exact Int32.toInt_inj.mp (by rw [h1]; rfl)
set_option maxRecDepth 100000 in
set_option maxHeartbeats 4000000 in
theorem c_X6_cutShare {G : zG} {l : Launch} (hl : l.stackTraces = false) {Z : zM} {sb : Nat → Option Nat} {mcn : Nat → Int32} {cp : Nat → Nat} {Y : zM} {th : Int32} {o : Nat → Int64} {od : Nat → UInt64} {ad : Nat → Nat} {x : Int64} {p : Int32} : zCt G l yX6_cutShare (zws yX6_cutShare cX6_cutShare 3 (some .int)) ({ frames := 0, cells := 0, slots := 0, locals := 0 }) [.long x, .int p] (zent Z sb mcn cp G.2.2.2.1 Y th o od ad) ad (fun r w1 ad1 => some (.int (fCut x p)) = r ∧ zent Z sb mcn cp G.2.2.2.1 Y th o od ad = w1 ∧ ad = ad1) (zNoX) := by
  refine z_body hl (by decide +kernel) (Nat.le_of_ble_eq_true rfl) (fun X O => ?_)
  refine z_iload_n O dX6_cutShare_0 rfl ?_
  refine z_if_ne O dX6_cutShare_1 (tgt := 8) (by decide) (fun h => ?_) (fun h => ?_)
  · refine z_lload_n O dX6_cutShare_8 rfl ?_
    refine z_iload_n O dX6_cutShare_9 rfl ?_
    refine z_i2l O dX6_cutShare_10 rfl ?_
    refine z_ldiv O dX6_cutShare_11 (fun q => h (z_toInt64_0 q)) ?_
    refine z_l2i O dX6_cutShare_12 rfl ?_
    exact z_iret O dX6_cutShare_13 (Nat.le_of_ble_eq_true rfl) (Nat.le_of_ble_eq_true rfl) (⟨by unfold fCut; rw [if_neg h], rfl, rfl⟩)
  · refine z_iconst O dX6_cutShare_4 (v := 0) (by decide) ?_
    refine z_goto O dX6_cutShare_5 (tgt := 13) (by decide) ?_
    exact z_iret O dX6_cutShare_13 (Nat.le_of_ble_eq_true rfl) (Nat.le_of_ble_eq_true rfl) (⟨by unfold fCut; rw [if_pos h], rfl, rfl⟩)

set_option maxRecDepth 100000 in
set_option maxHeartbeats 4000000 in
theorem c_X6_shareOut {G : zG} {l : Launch} (hl : l.stackTraces = false) {Z : zM} {sb : Nat → Option Nat} {mcn : Nat → Int32} {cp : Nat → Nat} {Y : zM} {th : Int32} {o : Nat → Int64} {od : Nat → UInt64} {ad : Nat → Nat} (hL0 : zLst Z cp 0) {x : Int32} : zCt G l yX6_shareOut (zws yX6_shareOut cX6_shareOut 7 (some .int)) ({ frames := 3, cells := 0, slots := 0, locals := 64 }) [.ref (ad 3), .int x] (zent Z sb mcn cp G.2.2.2.1 Y th o od ad) ad (fun r w1 ad1 => some (.int (fShR Z x (fPt Z (zN Z 0)) (zN Z 0))) = r ∧ zent (fShZ Z x (fPt Z (zN Z 0)) (zN Z 0)) sb mcn cp G.2.2.2.1 Y th o od ad = w1 ∧ ad = ad1) (zNoX) := by
  refine z_body hl (by decide +kernel) (Nat.le_of_ble_eq_true rfl) (fun X O => ?_)
  have L : ∀ (n : Nat) (i : Nat), i ≤ zN Z 0 → zN Z 0 < i + n → zV G X 7 0 0 4 [(0, .ref (ad 3)), (1, .int x), (2, .int (fPt Z i)), (3, .int (nI i))] [] (zent Z sb mcn cp G.2.2.2.1 Y th o od ad) ad := by
    intro n
    induction n with
    | zero => intro i h1 h2; omega
    | succ n ih =>
      intro i h1 h2
      refine z_iload_n O dX6_shareOut_4 rfl ?_
      refine z_aload_n O dX6_shareOut_5 rfl ?_
      refine z_get O (fk := 0) (fun x h => zI x (zu_RX6 x h)) rfl (by decide) (zI _ zm3_16) dX6_shareOut_6 (zg_tr) rfl ?_
      refine z_callV O (c_size_l hl (i := 0) (by decide) hL0) zI zm3_22 zm1_46 zm1_47 zm0_31 zm1_19 ⟨rfl, by decide +kernel, by decide +kernel, (show _ = some 0 by decide +kernel)⟩ rfl ((zg_list0 (i := 0) (by decide) hL0)) ⟨Nat.le_of_ble_eq_true rfl, Nat.le_of_ble_eq_true rfl⟩ ⟨Nat.le_of_ble_eq_true rfl, Nat.le_of_ble_eq_true rfl⟩ dX6_shareOut_9 rfl (Nat.le_of_ble_eq_true rfl) (fun _ _ _ h => h.elim) (fun r w1 ad1 hp => ?_)
      obtain ⟨rfl, rfl, rfl⟩ := hp
      refine z_icmp_ge O dX6_shareOut_12 (tgt := 38) (by decide) (fun h => ?_) (fun h => ?_)
      · have hi : i = zN Z 0 := by have := z_ge_ge (by have := hL0.2.2.2; omega) (by have := hL0.2.2.2; omega) h; omega
        subst hi
        obtain ⟨P, hP⟩ : ∃ z, z = fPt Z (zN Z 0) := ⟨_, rfl⟩
        rw [← hP]
        have L2 : ∀ (n : Nat) (j : Nat), j ≤ zN Z 0 → zN Z 0 < j + n → zV G X 7 0 0 43 [(0, .ref (ad 3)), (1, .int x), (2, .int P), (3, .int (fShR Z x P j)), (4, .int (nI j))] [] (zent (fShZ Z x P j) sb mcn cp G.2.2.2.1 Y th o od ad) ad := by
          intro n
          induction n with
          | zero => intro j h3 h4; omega
          | succ n ih =>
            intro j h3 h4
            have hNj : zN (fShZ Z x P j) 0 = zN Z 0 := by unfold zN; rw [fShZ_n Z x P (by decide)]
            have hLj : zLst (fShZ Z x P j) cp 0 := by unfold zLst; rw [hNj, fShZ_n Z x P (by decide)]; exact hL0
            refine z_iload O dX6_shareOut_43 rfl ?_
            refine z_aload_n O dX6_shareOut_45 rfl ?_
            refine z_get O (fk := 0) (fun x h => zI x (zu_RX6 x h)) rfl (by decide) (zI _ zm3_16) dX6_shareOut_46 (zg_tr) rfl ?_
            refine z_callV O (c_size_l hl (i := 0) (by decide) hLj) zI zm3_22 zm1_46 zm1_47 zm0_31 zm1_19 ⟨rfl, by decide +kernel, by decide +kernel, (show _ = some 0 by decide +kernel)⟩ rfl ((zg_list0 (i := 0) (by decide) hLj)) ⟨Nat.le_of_ble_eq_true rfl, Nat.le_of_ble_eq_true rfl⟩ ⟨Nat.le_of_ble_eq_true rfl, Nat.le_of_ble_eq_true rfl⟩ dX6_shareOut_49 rfl (Nat.le_of_ble_eq_true rfl) (fun _ _ _ h => h.elim) (fun r w1 ad1 hp => ?_)
            obtain ⟨rfl, rfl, rfl⟩ := hp
            rw [hNj]
            refine z_icmp_ge O dX6_shareOut_52 (tgt := 107) (by decide) (fun g => ?_) (fun g => ?_)
            · have hj : j = zN Z 0 := by have := z_ge_ge (by have := hL0.2.2.2; omega) (by have := hL0.2.2.2; omega) g; omega
              refine z_iload_n O dX6_shareOut_107 rfl ?_
              exact z_iret O dX6_shareOut_108 (Nat.le_of_ble_eq_true rfl) (Nat.le_of_ble_eq_true rfl) (⟨by rw [hj, hP], by rw [hj, hP], rfl⟩)
            · have hj : j < zN Z 0 := z_ge_lt (by have := hL0.2.2.2; omega) (by have := hL0.2.2.2; omega) g
              have hj20 : j < 20 := by have := hL0.2.2.2; omega
              have hjj : j < zN (fShZ Z x P j) 0 := by rw [hNj]; exact hj
              refine z_aload_n O dX6_shareOut_55 rfl ?_
              refine z_get O (fk := 0) (fun x h => zI x (zu_RX6 x h)) rfl (by decide) (zI _ zm3_16) dX6_shareOut_56 (zg_tr) rfl ?_
              refine z_iload O dX6_shareOut_59 rfl ?_
              refine z_callV O (c_get_hand hl hLj hjj) zI zm3_23 zm1_49 zm1_50 zm0_31 zm1_26 ⟨rfl, by decide +kernel, by decide +kernel, (show _ = some 1 by decide +kernel)⟩ rfl ((zg_list0 (i := 0) (by decide) hLj)) ⟨Nat.le_of_ble_eq_true rfl, Nat.le_of_ble_eq_true rfl⟩ ⟨Nat.le_of_ble_eq_true rfl, Nat.le_of_ble_eq_true rfl⟩ dX6_shareOut_61 rfl (Nat.le_of_ble_eq_true rfl) (fun _ _ _ h => h.elim) (fun r w1 ad1 hp => ?_)
              obtain ⟨rfl, rfl, rfl⟩ := hp
              refine z_cast0 O rfl (zI _ zm3_20) (zg_hand hjj hj20) dX6_shareOut_64 ?_
              refine z_astore O dX6_shareOut_67 (by decide) ?_
              refine z_iload_n O dX6_shareOut_69 rfl ?_
              refine z_i2l O dX6_shareOut_70 rfl ?_
              refine z_aload O dX6_shareOut_71 rfl ?_
              refine z_callV O (c_X2_parts hl hjj hj20) zI zm3_24 zm3_25 zm3_26 zm1_57 zm2_47 ⟨rfl, by decide +kernel, by decide +kernel, (show _ = some 0 by decide +kernel)⟩ rfl (zg_hand hjj hj20) ⟨Nat.le_of_ble_eq_true rfl, Nat.le_of_ble_eq_true rfl⟩ ⟨Nat.le_of_ble_eq_true rfl, Nat.le_of_ble_eq_true rfl⟩ dX6_shareOut_73 rfl (Nat.le_of_ble_eq_true rfl) (fun _ _ _ h => h.elim) (fun r w1 ad1 hp => ?_)
              obtain ⟨rfl, rfl, rfl⟩ := hp
              refine z_i2l O dX6_shareOut_76 rfl ?_
              refine z_lmul O dX6_shareOut_77 ?_
              refine z_iload_n O dX6_shareOut_78 rfl ?_
              refine z_callS O (c_X6_cutShare hl) zI zm3_27 zm3_28 zm3_29 zm3_19 ⟨by decide +kernel, by decide +kernel, (show _ = some 2 by decide +kernel)⟩ ⟨Nat.le_of_ble_eq_true rfl, Nat.le_of_ble_eq_true rfl⟩ ⟨Nat.le_of_ble_eq_true rfl, Nat.le_of_ble_eq_true rfl⟩ dX6_shareOut_79 rfl (Nat.le_of_ble_eq_true rfl) (fun _ _ _ h => h.elim) (fun r w1 ad1 hp => ?_)
              obtain ⟨rfl, rfl, rfl⟩ := hp
              rw [fShZ_n Z x P (by decide)]
              refine z_istore O dX6_shareOut_82 (by decide) ?_
              refine z_aload O dX6_shareOut_84 rfl ?_
              refine z_dup O dX6_shareOut_86 rfl ?_
              refine z_get O (fk := 4) (fun x h => zI x (zu_RX2 x h)) rfl (by decide) (zI _ zm3_21) dX6_shareOut_87 (zg_hand hjj hj20) rfl ?_
              refine z_iload O dX6_shareOut_90 rfl ?_
              refine z_iadd O dX6_shareOut_92 ?_
              refine z_put O (fk := 4) (fun x h => zI x (zu_RX2 x h)) tyX2 tyX2_ok nmX2 rfl (by decide) (zI _ zm3_21) rfl dX6_shareOut_93 rfl rfl (zg_hand hjj hj20) (Nat.le_of_ble_eq_true rfl) (zp_hand_money hjj hj20) ?_
              refine z_iload_n O dX6_shareOut_96 rfl ?_
              refine z_iload O dX6_shareOut_97 rfl ?_
              refine z_isub O dX6_shareOut_99 ?_
              refine z_istore_n O dX6_shareOut_100 (by decide) ?_
              refine z_iincN O dX6_shareOut_101 (a := j) rfl (by decide) ?_
              refine z_goto O dX6_shareOut_104 (tgt := 43) (by decide) ?_
              exact zV.loc (ih (j + 1) (by omega) (by omega)) ⟨rfl, rfl, rfl, rfl, rfl, trivial⟩
        refine z_iload_n O dX6_shareOut_38 rfl ?_
        refine z_istore_n O dX6_shareOut_39 (by decide) ?_
        refine z_iconst O dX6_shareOut_40 (v := 0) (by decide) ?_
        refine z_istore O dX6_shareOut_41 (by decide) ?_
        exact zV.loc (L2 (zN Z 0 + 1) 0 (by omega) (by omega)) ⟨rfl, rfl, rfl, rfl, rfl, trivial⟩
      · have hi : i < zN Z 0 := z_ge_lt (by have := hL0.2.2.2; omega) (by have := hL0.2.2.2; omega) h
        have hi20 : i < 20 := by have := hL0.2.2.2; omega
        refine z_iload_n O dX6_shareOut_15 rfl ?_
        refine z_aload_n O dX6_shareOut_16 rfl ?_
        refine z_get O (fk := 0) (fun x h => zI x (zu_RX6 x h)) rfl (by decide) (zI _ zm3_16) dX6_shareOut_17 (zg_tr) rfl ?_
        refine z_iload_n O dX6_shareOut_20 rfl ?_
        refine z_callV O (c_get_hand hl hL0 hi) zI zm3_23 zm1_49 zm1_50 zm0_31 zm1_26 ⟨rfl, by decide +kernel, by decide +kernel, (show _ = some 1 by decide +kernel)⟩ rfl ((zg_list0 (i := 0) (by decide) hL0)) ⟨Nat.le_of_ble_eq_true rfl, Nat.le_of_ble_eq_true rfl⟩ ⟨Nat.le_of_ble_eq_true rfl, Nat.le_of_ble_eq_true rfl⟩ dX6_shareOut_21 rfl (Nat.le_of_ble_eq_true rfl) (fun _ _ _ h => h.elim) (fun r w1 ad1 hp => ?_)
        obtain ⟨rfl, rfl, rfl⟩ := hp
        refine z_cast0 O rfl (zI _ zm3_20) (zg_hand hi hi20) dX6_shareOut_24 ?_
        refine z_callV O (c_X2_parts hl hi hi20) zI zm3_24 zm3_25 zm3_26 zm1_57 zm2_47 ⟨rfl, by decide +kernel, by decide +kernel, (show _ = some 0 by decide +kernel)⟩ rfl (zg_hand hi hi20) ⟨Nat.le_of_ble_eq_true rfl, Nat.le_of_ble_eq_true rfl⟩ ⟨Nat.le_of_ble_eq_true rfl, Nat.le_of_ble_eq_true rfl⟩ dX6_shareOut_27 rfl (Nat.le_of_ble_eq_true rfl) (fun _ _ _ h => h.elim) (fun r w1 ad1 hp => ?_)
        obtain ⟨rfl, rfl, rfl⟩ := hp
        refine z_iadd O dX6_shareOut_30 ?_
        refine z_istore_n O dX6_shareOut_31 (by decide) ?_
        refine z_iincN O dX6_shareOut_32 (a := i) rfl (by decide) ?_
        refine z_goto O dX6_shareOut_35 (tgt := 4) (by decide) ?_
        exact zV.loc (ih (i + 1) (by omega) (by omega)) ⟨rfl, rfl, rfl, rfl, trivial⟩
  refine z_iconst O dX6_shareOut_0 (v := 5) (by decide) ?_
  refine z_istore_n O dX6_shareOut_1 (by decide) ?_
  refine z_iconst O dX6_shareOut_2 (v := 0) (by decide) ?_
  refine z_istore_n O dX6_shareOut_3 (by decide) ?_
  exact zV.loc (L (zN Z 0 + 1) 0 (by omega) (by omega)) ⟨rfl, rfl, rfl, rfl, trivial⟩

set_option maxRecDepth 100000 in
set_option maxHeartbeats 4000000 in
theorem c_X6_isInOrder {G : zG} {l : Launch} (hl : l.stackTraces = false) {Z : zM} {sb : Nat → Option Nat} {mcn : Nat → Int32} {cp : Nat → Nat} {Y : zM} {th : Int32} {o : Nat → Int64} {od : Nat → UInt64} {ad : Nat → Nat} (hL0 : zLst Z cp 0) (hsb : ∀ j k, j < zN Z 0 → sb j = some k → k < 80 ∧ zh (Z 2 k) = some j) : zCt G l yX6_isInOrder (zws yX6_isInOrder cX6_isInOrder 3 (some .boolean)) ({ frames := 3, cells := 0, slots := 0, locals := 64 }) [.ref (ad 3)] (zent Z sb mcn cp G.2.2.2.1 Y th o od ad) ad (fun r w1 ad1 => some (.int 1) = r ∧ zent Z sb mcn cp G.2.2.2.1 Y th o od ad = w1 ∧ ad = ad1) (zNoX) := by
  refine z_body hl (by decide +kernel) (Nat.le_of_ble_eq_true rfl) (fun X O => ?_)
  have L : ∀ (n : Nat) (i : Nat), i ≤ zN Z 0 → zN Z 0 < i + n → zV G X 3 0 0 2 [(0, .ref (ad 3)), (1, .int (nI i))] [] (zent Z sb mcn cp G.2.2.2.1 Y th o od ad) ad := by
    intro n
    induction n with
    | zero => intro i h1 h2; omega
    | succ n ih =>
      intro i h1 h2
      refine z_iload_n O dX6_isInOrder_2 rfl ?_
      refine z_aload_n O dX6_isInOrder_3 rfl ?_
      refine z_get O (fk := 0) (fun x h => zI x (zu_RX6 x h)) rfl (by decide) (zI _ zm3_16) dX6_isInOrder_4 (zg_tr) rfl ?_
      refine z_callV O (c_size_l hl (i := 0) (by decide) hL0) zI zm3_22 zm1_46 zm1_47 zm0_31 zm1_19 ⟨rfl, by decide +kernel, by decide +kernel, (show _ = some 0 by decide +kernel)⟩ rfl ((zg_list0 (i := 0) (by decide) hL0)) ⟨Nat.le_of_ble_eq_true rfl, Nat.le_of_ble_eq_true rfl⟩ ⟨Nat.le_of_ble_eq_true rfl, Nat.le_of_ble_eq_true rfl⟩ dX6_isInOrder_7 rfl (Nat.le_of_ble_eq_true rfl) (fun _ _ _ h => h.elim) (fun r w1 ad1 hp => ?_)
      obtain ⟨rfl, rfl, rfl⟩ := hp
      refine z_icmp_ge O dX6_isInOrder_10 (tgt := 51) (by decide) (fun h => ?_) (fun h => ?_)
      · refine z_iconst O dX6_isInOrder_51 (v := 1) (by decide) ?_
        exact z_zret O rfl rfl dX6_isInOrder_52 (Nat.le_of_ble_eq_true rfl) (Nat.le_of_ble_eq_true rfl) (⟨rfl, rfl, rfl⟩)
      · have hi : i < zN Z 0 := z_ge_lt (by have := hL0.2.2.2; omega) (by have := hL0.2.2.2; omega) h
        have hi20 : i < 20 := by have := hL0.2.2.2; omega
        refine z_aload_n O dX6_isInOrder_13 rfl ?_
        refine z_get O (fk := 0) (fun x h => zI x (zu_RX6 x h)) rfl (by decide) (zI _ zm3_16) dX6_isInOrder_14 (zg_tr) rfl ?_
        refine z_iload_n O dX6_isInOrder_17 rfl ?_
        refine z_callV O (c_get_hand hl hL0 hi) zI zm3_23 zm1_49 zm1_50 zm0_31 zm1_26 ⟨rfl, by decide +kernel, by decide +kernel, (show _ = some 1 by decide +kernel)⟩ rfl ((zg_list0 (i := 0) (by decide) hL0)) ⟨Nat.le_of_ble_eq_true rfl, Nat.le_of_ble_eq_true rfl⟩ ⟨Nat.le_of_ble_eq_true rfl, Nat.le_of_ble_eq_true rfl⟩ dX6_isInOrder_18 rfl (Nat.le_of_ble_eq_true rfl) (fun _ _ _ h => h.elim) (fun r w1 ad1 hp => ?_)
        obtain ⟨rfl, rfl, rfl⟩ := hp
        refine z_cast0 O rfl (zI _ zm3_20) (zg_hand hi hi20) dX6_isInOrder_21 ?_
        refine z_astore_n O dX6_isInOrder_24 (by decide) ?_
        refine z_aload_n O dX6_isInOrder_25 rfl ?_
        cases hz : sb i with
        | none =>
          refine z_get O (fk := 5) (v := .null) (fun x h => zI x (zu_RX2 x h)) rfl (by decide) (zI _ zm3_55) dX6_isInOrder_26 (zg_hand hi hi20) (by simp only [sHand, hz]; rfl) ?_
          refine z_ifnullN O dX6_isInOrder_29 (tgt := 45) (by decide) ?_
          refine z_iincN O dX6_isInOrder_45 (a := i) rfl (by decide) ?_
          refine z_goto O dX6_isInOrder_48 (tgt := 2) (by decide) ?_
          exact zV.loc (ih (i + 1) (by omega) (by omega)) ⟨rfl, rfl, trivial⟩
        | some k =>
          obtain ⟨hk, hz2⟩ := hsb i k hi hz
          refine z_get O (fk := 5) (v := .ref (ad (100 + k))) (fun x h => zI x (zu_RX2 x h)) rfl (by decide) (zI _ zm3_55) dX6_isInOrder_26 (zg_hand hi hi20) (by simp only [sHand, hz]; rfl) ?_
          refine z_ifnull O dX6_isInOrder_29 ?_
          refine z_aload_n O dX6_isInOrder_32 rfl ?_
          refine z_get O (fk := 5) (v := .ref (ad (100 + k))) (fun x h => zI x (zu_RX2 x h)) rfl (by decide) (zI _ zm3_55) dX6_isInOrder_33 (zg_hand hi hi20) (by simp only [sHand, hz]; rfl) ?_
          refine z_get O (fk := 2) (v := va_rf (some (ad (200 + i)))) (fun x h => zI x (zu_RX4 x h)) rfl (by decide) (zI _ zm3_56) dX6_isInOrder_36 (zg_seat hk) (by simp only [sSeat, hz2]; rfl) ?_
          refine z_aload_n O dX6_isInOrder_39 rfl ?_
          refine z_acmp_eq O (rx := some (ad (200 + i))) (ry := some (ad (200 + i))) dX6_isInOrder_40 (tgt := 45) (by decide) (fun _ => ?_) (fun g => absurd rfl g)
          refine z_iincN O dX6_isInOrder_45 (a := i) rfl (by decide) ?_
          refine z_goto O dX6_isInOrder_48 (tgt := 2) (by decide) ?_
          exact zV.loc (ih (i + 1) (by omega) (by omega)) ⟨rfl, rfl, trivial⟩
  refine z_iconst O dX6_isInOrder_0 (v := 0) (by decide) ?_
  refine z_istore_n O dX6_isInOrder_1 (by decide) ?_
  exact zV.loc (L (zN Z 0 + 1) 0 (by omega) (by omega)) ⟨rfl, rfl, trivial⟩
