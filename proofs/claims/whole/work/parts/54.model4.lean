def mMade (Y : zM) (j : Nat) : Nat → Int32
  | 0 => 0
  | k + 1 => if fOn Y k (Y 29 0) ∧ fFollows Y j k then fMax (mMade Y j k) (Y 11 j * Y 21 k) else mMade Y j k
def mNoise (Y : zM) (j : Nat) : Int32 := if Y 33 0 < 3 then fMin 9 (mMade Y j (zN Y 2)) else 0
theorem nI_div10 : ∀ k, k < 80 → nI k / 10 = nI (k / 10) := by decide +kernel
theorem nI_mod10 : ∀ k, k < 80 → nI k - nI k / 10 * 10 = nI (k % 10) := by decide +kernel
theorem mAt0 : ∀ k, k < 720 → (rI (k / 9 % 10) (k % 3) < 10 ∧ 0 ≤ rI (k / 9 % 10) (k % 3)) → (10 * rI (k / 90) (k / 3 % 3) + rI (k / 9 % 10) (k % 3) = nI (k / 90 * 10 + k / 9 % 10) ↔ k / 3 % 3 = 1 ∧ k % 3 = 1) := by decide +kernel
theorem mAt_eq0 (a : Nat) (ha : a < 8) (b : Nat) (hb : b < 10) (i : Nat) (hi : i < 3) (j : Nat) (hj : j < 3) (h1 : rI b j < 10) (h2 : 0 ≤ rI b j) : 10 * rI a i + rI b j = nI (a * 10 + b) ↔ i = 1 ∧ j = 1 := by
  have h := mAt0 (a * 90 + b * 9 + i * 3 + j) (by omega)
  rw [show (a * 90 + b * 9 + i * 3 + j) / 9 % 10 = b by omega, show (a * 90 + b * 9 + i * 3 + j) % 3 = j by omega, show (a * 90 + b * 9 + i * 3 + j) / 90 = a by omega, show (a * 90 + b * 9 + i * 3 + j) / 3 % 3 = i by omega] at h
  exact h ⟨h1, h2⟩
set_option maxRecDepth 100000 in
set_option maxHeartbeats 4000000 in
theorem c_X8_handNoise {G : zG} {l : Launch} (hl : l.stackTraces = false) {Z : zM} {sb : Nat → Option Nat} {mcn : Nat → Int32} {cp : Nat → Nat} {Y : zM} {th : Int32} {o : Nat → Int64} {od : Nat → UInt64} {ad : Nat → Nat} (hc : zCnt Y 2) {j : Nat} (hj : j < 12) : zCt G l yX8_handNoise (zws yX8_handNoise cX8_handNoise 5 (some .int)) ({ frames := 1, cells := 0, slots := 0, locals := 22 }) [.ref (ad 300), .int (nI j)] (zent Z sb mcn cp G.2.2.2.1 Y th o od ad) ad (fun r w1 ad1 => some (.int (mNoise Y j)) = r ∧ zent Z sb mcn cp G.2.2.2.1 Y th o od ad = w1 ∧ ad = ad1) (zNoX) := by
  refine z_body hl (by decide +kernel) (Nat.le_of_ble_eq_true rfl) (fun X O => ?_)
  have L : ∀ (n : Nat) (i : Nat), i ≤ zN Y 2 → zN Y 2 < i + n → zV G X 5 0 0 4 [(0, .ref (ad 300)), (1, .int (nI j)), (2, .int (mMade Y j i)), (3, .int (nI i))] [] (zent Z sb mcn cp G.2.2.2.1 Y th o od ad) ad := by
    intro n
    induction n with
    | zero => intro i h1 h2; omega
    | succ n ih =>
      intro i h1 h2
      refine z_iload_n O dX8_handNoise_4 rfl ?_
      refine z_aload_n O dX8_handNoise_5 rfl ?_
      refine z_get O (fk := 27) (v := .int (nI (zN Y 2))) (fun x h => zI x (zu_RX8 x h)) rfl (by decide) (zI _ zm7_41) dX8_handNoise_6 (zg_model) (by show some (Value.int (Y (25 + 2) 0)) = _; rw [hc.1]) ?_
      refine z_icmp_ge O dX8_handNoise_9 (tgt := 97) (by decide) (fun h => ?_) (fun h => ?_)
      · have hi : i = zN Y 2 := by have := z_ge_ge (by have := hc.2; omega) (by have := hc.2; omega) h; omega
        subst hi
        refine z_aload_n O dX8_handNoise_97 rfl ?_
        refine z_get O (fk := 33) (fun x h => zI x (zu_RX8 x h)) rfl (by decide) (zI _ zm7_47) dX8_handNoise_98 (zg_model) rfl ?_
        refine z_iconst O dX8_handNoise_101 (v := 3) (by decide) ?_
        refine z_icmp_lt O dX8_handNoise_102 (tgt := 109) (by decide) (fun g => ?_) (fun g => ?_)
        · refine z_bipush O dX8_handNoise_109 (v := 9) (by decide) ?_
          refine z_iload_n O dX8_handNoise_111 rfl ?_
          refine z_callS O (c_X8_least hl) zI zm8_44 zm8_45 zm7_16 zm7_57 ⟨by decide +kernel, by decide +kernel, (show _ = some 2 by decide +kernel)⟩ ⟨Nat.le_of_ble_eq_true rfl, Nat.le_of_ble_eq_true rfl⟩ ⟨Nat.le_of_ble_eq_true rfl, Nat.le_of_ble_eq_true rfl⟩ dX8_handNoise_112 rfl (Nat.le_of_ble_eq_true rfl) (fun _ _ _ h => h.elim) (fun r w1 ad1 hp => ?_)
          obtain ⟨rfl, rfl, rfl⟩ := hp
          exact z_iret O dX8_handNoise_115 (Nat.le_of_ble_eq_true rfl) (Nat.le_of_ble_eq_true rfl) (⟨by unfold mNoise; rw [if_pos g], rfl, rfl⟩)
        · refine z_iconst O dX8_handNoise_105 (v := 0) (by decide) ?_
          refine z_goto O dX8_handNoise_106 (tgt := 115) (by decide) ?_
          exact z_iret O dX8_handNoise_115 (Nat.le_of_ble_eq_true rfl) (Nat.le_of_ble_eq_true rfl) (⟨by unfold mNoise; rw [if_neg g], rfl, rfl⟩)
      · have hi : i < zN Y 2 := z_ge_lt (by have := hc.2; omega) (by have := hc.2; omega) h
        have hi12 : i < 12 := by have := hc.2; omega
        refine z_aload_n O dX8_handNoise_12 rfl ?_
        refine z_get O (fk := 29) (fun x h => zI x (zu_RX8 x h)) rfl (by decide) (zI _ zm7_43) dX8_handNoise_13 (zg_model) rfl ?_
        refine z_aload_n O dX8_handNoise_16 rfl ?_
        refine z_get O (fk := 20) (fun x h => zI x (zu_RX8 x h)) rfl (by decide) (zI _ zm7_34) dX8_handNoise_17 (zg_model) rfl ?_
        refine z_iload_n O dX8_handNoise_20 rfl ?_
        refine z_iald O dX8_handNoise_21 (zg_mI (i := 20) (n := 12) rfl rfl (by decide)) (i) (rfl) (hi12) (by decide) ?_
        refine z_aload_n O dX8_handNoise_22 rfl ?_
        refine z_get O (fk := 20) (fun x h => zI x (zu_RX8 x h)) rfl (by decide) (zI _ zm7_34) dX8_handNoise_23 (zg_model) rfl ?_
        refine z_iload_n O dX8_handNoise_26 rfl ?_
        refine z_iald O dX8_handNoise_27 (zg_mI (i := 20) (n := 12) rfl rfl (by decide)) (i) (rfl) (hi12) (by decide) ?_
        refine z_aload_n O dX8_handNoise_28 rfl ?_
        refine z_get O (fk := 22) (fun x h => zI x (zu_RX8 x h)) rfl (by decide) (zI _ zm7_36) dX8_handNoise_29 (zg_model) rfl ?_
        refine z_iload_n O dX8_handNoise_32 rfl ?_
        refine z_iald O dX8_handNoise_33 (zg_mI (i := 22) (n := 12) rfl rfl (by decide)) (i) (rfl) (hi12) (by decide) ?_
        refine z_iadd O dX8_handNoise_34 ?_
        refine z_iconst O dX8_handNoise_35 (v := 1) (by decide) ?_
        refine z_isub O dX8_handNoise_36 ?_
        refine z_callS O (c_X8_in hl) zI zm7_65 zm7_66 zm7_16 zm7_56 ⟨by decide +kernel, by decide +kernel, (show _ = some 3 by decide +kernel)⟩ ⟨Nat.le_of_ble_eq_true rfl, Nat.le_of_ble_eq_true rfl⟩ ⟨Nat.le_of_ble_eq_true rfl, Nat.le_of_ble_eq_true rfl⟩ dX8_handNoise_37 rfl (Nat.le_of_ble_eq_true rfl) (fun _ _ _ h => h.elim) (fun r w1 ad1 hp => ?_)
        rcases hp with ⟨rfl, hb, rfl, rfl⟩ | ⟨rfl, hb, rfl, rfl⟩
        · refine z_istore O dX8_handNoise_40 (by decide) ?_
          refine z_iload O dX8_handNoise_42 rfl ?_
          refine z_if_eq O dX8_handNoise_44 (tgt := 91) (by decide) (fun q => absurd q (by decide)) (fun _ => ?_)
          refine z_aload_n O dX8_handNoise_47 rfl ?_
          refine z_get O (fk := 9) (fun x h => zI x (zu_RX8 x h)) rfl (by decide) (zI _ zm7_23) dX8_handNoise_48 (zg_model) rfl ?_
          refine z_iload_n O dX8_handNoise_51 rfl ?_
          refine z_cald O dX8_handNoise_52 (zg_mC (i := 9) (n := 12) rfl rfl (by decide)) (j) (rfl) (hj) (by decide) ?_
          refine z_bipush O dX8_handNoise_53 (v := 97) (by decide) ?_
          refine z_icmp_eq O dX8_handNoise_55 (tgt := 73) (by decide) (fun g => ?_) (fun g => ?_)
          · refine z_iload_n O dX8_handNoise_73 rfl ?_
            refine z_aload_n O dX8_handNoise_74 rfl ?_
            refine z_get O (fk := 11) (fun x h => zI x (zu_RX8 x h)) rfl (by decide) (zI _ zm7_25) dX8_handNoise_75 (zg_model) rfl ?_
            refine z_iload_n O dX8_handNoise_78 rfl ?_
            refine z_iald O dX8_handNoise_79 (zg_mI (i := 11) (n := 12) rfl rfl (by decide)) (j) (rfl) (hj) (by decide) ?_
            refine z_aload_n O dX8_handNoise_80 rfl ?_
            refine z_get O (fk := 21) (fun x h => zI x (zu_RX8 x h)) rfl (by decide) (zI _ zm7_35) dX8_handNoise_81 (zg_model) rfl ?_
            refine z_iload_n O dX8_handNoise_84 rfl ?_
            refine z_iald O dX8_handNoise_85 (zg_mI (i := 21) (n := 12) rfl rfl (by decide)) (i) (rfl) (hi12) (by decide) ?_
            refine z_imul O dX8_handNoise_86 ?_
            refine z_callS O (c_X8_most hl) zI zm8_42 zm8_43 zm7_16 zm7_58 ⟨by decide +kernel, by decide +kernel, (show _ = some 2 by decide +kernel)⟩ ⟨Nat.le_of_ble_eq_true rfl, Nat.le_of_ble_eq_true rfl⟩ ⟨Nat.le_of_ble_eq_true rfl, Nat.le_of_ble_eq_true rfl⟩ dX8_handNoise_87 rfl (Nat.le_of_ble_eq_true rfl) (fun _ _ _ h => h.elim) (fun r w1 ad1 hp => ?_)
            obtain ⟨rfl, rfl, rfl⟩ := hp
            refine z_istore_n O dX8_handNoise_90 (by decide) ?_
            refine z_iincN O dX8_handNoise_91 (a := i) rfl (by decide) ?_
            refine z_goto O dX8_handNoise_94 (tgt := 4) (by decide) ?_
            exact zV.loc (ih (i + 1) (by omega) (by omega)) ⟨rfl, rfl, by rw [show mMade Y j (i + 1) = fMax (mMade Y j i) (Y 11 j * Y 21 i) from if_pos ⟨hb, Or.inl g⟩]; rfl, rfl, trivial⟩
          · refine z_aload_n O dX8_handNoise_58 rfl ?_
            refine z_get O (fk := 9) (fun x h => zI x (zu_RX8 x h)) rfl (by decide) (zI _ zm7_23) dX8_handNoise_59 (zg_model) rfl ?_
            refine z_iload_n O dX8_handNoise_62 rfl ?_
            refine z_cald O dX8_handNoise_63 (zg_mC (i := 9) (n := 12) rfl rfl (by decide)) (j) (rfl) (hj) (by decide) ?_
            refine z_aload_n O dX8_handNoise_64 rfl ?_
            refine z_get O (fk := 10) (fun x h => zI x (zu_RX8 x h)) rfl (by decide) (zI _ zm7_24) dX8_handNoise_65 (zg_model) rfl ?_
            refine z_iload_n O dX8_handNoise_68 rfl ?_
            refine z_cald O dX8_handNoise_69 (zg_mC (i := 10) (n := 12) rfl rfl (by decide)) (i) (rfl) (hi12) (by decide) ?_
            refine z_icmp_ne O dX8_handNoise_70 (tgt := 91) (by decide) (fun g2 => ?_) (fun g2 => ?_)
            · refine z_iincN O dX8_handNoise_91 (a := i) rfl (by decide) ?_
              refine z_goto O dX8_handNoise_94 (tgt := 4) (by decide) ?_
              exact zV.loc (ih (i + 1) (by omega) (by omega)) ⟨rfl, rfl, by rw [show mMade Y j (i + 1) = mMade Y j i from if_neg (fun q => q.2.elim g g2)]; rfl, rfl, trivial⟩
            · refine z_iload_n O dX8_handNoise_73 rfl ?_
              refine z_aload_n O dX8_handNoise_74 rfl ?_
              refine z_get O (fk := 11) (fun x h => zI x (zu_RX8 x h)) rfl (by decide) (zI _ zm7_25) dX8_handNoise_75 (zg_model) rfl ?_
              refine z_iload_n O dX8_handNoise_78 rfl ?_
              refine z_iald O dX8_handNoise_79 (zg_mI (i := 11) (n := 12) rfl rfl (by decide)) (j) (rfl) (hj) (by decide) ?_
              refine z_aload_n O dX8_handNoise_80 rfl ?_
              refine z_get O (fk := 21) (fun x h => zI x (zu_RX8 x h)) rfl (by decide) (zI _ zm7_35) dX8_handNoise_81 (zg_model) rfl ?_
              refine z_iload_n O dX8_handNoise_84 rfl ?_
              refine z_iald O dX8_handNoise_85 (zg_mI (i := 21) (n := 12) rfl rfl (by decide)) (i) (rfl) (hi12) (by decide) ?_
              refine z_imul O dX8_handNoise_86 ?_
              refine z_callS O (c_X8_most hl) zI zm8_42 zm8_43 zm7_16 zm7_58 ⟨by decide +kernel, by decide +kernel, (show _ = some 2 by decide +kernel)⟩ ⟨Nat.le_of_ble_eq_true rfl, Nat.le_of_ble_eq_true rfl⟩ ⟨Nat.le_of_ble_eq_true rfl, Nat.le_of_ble_eq_true rfl⟩ dX8_handNoise_87 rfl (Nat.le_of_ble_eq_true rfl) (fun _ _ _ h => h.elim) (fun r w1 ad1 hp => ?_)
              obtain ⟨rfl, rfl, rfl⟩ := hp
              refine z_istore_n O dX8_handNoise_90 (by decide) ?_
              refine z_iincN O dX8_handNoise_91 (a := i) rfl (by decide) ?_
              refine z_goto O dX8_handNoise_94 (tgt := 4) (by decide) ?_
              exact zV.loc (ih (i + 1) (by omega) (by omega)) ⟨rfl, rfl, by rw [show mMade Y j (i + 1) = fMax (mMade Y j i) (Y 11 j * Y 21 i) from if_pos ⟨hb, Or.inr g2⟩]; rfl, rfl, trivial⟩
        · refine z_istore O dX8_handNoise_40 (by decide) ?_
          refine z_iload O dX8_handNoise_42 rfl ?_
          refine z_if_eq O dX8_handNoise_44 (tgt := 91) (by decide) (fun _ => ?_) (fun q => absurd rfl q)
          refine z_iincN O dX8_handNoise_91 (a := i) rfl (by decide) ?_
          refine z_goto O dX8_handNoise_94 (tgt := 4) (by decide) ?_
          exact zV.loc (ih (i + 1) (by omega) (by omega)) ⟨rfl, rfl, by rw [show mMade Y j (i + 1) = mMade Y j i from if_neg (fun q => hb q.1)]; rfl, rfl, trivial⟩
  refine z_iconst O dX8_handNoise_0 (v := 0) (by decide) ?_
  refine z_istore_n O dX8_handNoise_1 (by decide) ?_
  refine z_iconst O dX8_handNoise_2 (v := 0) (by decide) ?_
  refine z_istore_n O dX8_handNoise_3 (by decide) ?_
  exact zV.loc (L (zN Y 2 + 1) 0 (by omega) (by omega)) ⟨rfl, rfl, rfl, rfl, trivial⟩

theorem fCell_eq {Y : zM} (hh : zHouse Y) {a b i j : Nat} (ha : a < 8) (hb : b < 10) (hi : i < 3) (hj : j < 3) {acc : Int32} (hp : fPl Y (rI a i) (rI b j) = some (fAt (rI a i) (rI b j))) : (10 * rI a i + rI b j = nI (a * 10 + b) → fCell Y a b i j acc = acc) ∧ (¬ 10 * rI a i + rI b j = nI (a * 10 + b) → fCell Y a b i j acc = acc + (Y 5 (fAt (rI a i) (rI b j)) - (if Y 8 (fAt (rI a i) (rI b j)) = 0 then 0 else 4))) := by
  obtain ⟨h1, h2⟩ := fPl_iff.mpr hp
  have hlt : rI b j < 10 := by
    obtain ⟨nr, nc, e1, e2, l1, l2⟩ := hh
    have h3 := h2.2
    rw [e2] at h3
    exact Int32.lt_of_lt_of_le h3 ((nI_leI (by omega) (by decide)).mpr l2)
  have hiff := mAt_eq0 a ha b hb i hi j hj hlt h2.1
  unfold fCell
  refine ⟨fun q => if_pos (hiff.mp q), fun q => ?_⟩
  rw [if_neg (fun z => q (hiff.mpr z)), hp]
  show acc + fHeard Y _ = _
  unfold fHeard
  by_cases e : Y 8 (fAt (rI a i) (rI b j)) = 0
  · rw [if_pos e, if_pos e, Int32.sub_zero]
  · rw [if_neg e, if_neg e]
theorem fCell_none {Y : zM} {a b i j : Nat} {acc : Int32} (hp : fPl Y (rI a i) (rI b j) = none) : fCell Y a b i j acc = acc := by
  unfold fCell
  by_cases q : i = 1 ∧ j = 1
  · rw [if_pos q]
  · rw [if_neg q, hp]
set_option maxRecDepth 100000 in
set_option maxHeartbeats 4000000 in
theorem c_X8_around {G : zG} {l : Launch} (hl : l.stackTraces = false) {Z : zM} {sb : Nat → Option Nat} {mcn : Nat → Int32} {cp : Nat → Nat} {Y : zM} {th : Int32} {o : Nat → Int64} {od : Nat → UInt64} {ad : Nat → Nat} (hh : zHouse Y) {a b : Nat} (ha : a < 8) (hb : b < 10) : zCt G l yX8_around (zws yX8_around cX8_around 5 (some .int)) ({ frames := 2, cells := 0, slots := 0, locals := 44 }) [.ref (ad 300), .int (nI (a * 10 + b))] (zent Z sb mcn cp G.2.2.2.1 Y th o od ad) ad (fun r w1 ad1 => some (.int (fAround Y a b)) = r ∧ zent Z sb mcn cp G.2.2.2.1 Y th o od ad = w1 ∧ ad = ad1) (zNoX) := by
  refine z_body hl (by decide +kernel) (Nat.le_of_ble_eq_true rfl) (fun X O => ?_)
  have hk : a * 10 + b < 80 := by omega
  have hka : (a * 10 + b) / 10 = a := by omega
  have hkb : (a * 10 + b) % 10 = b := by omega
  have L : ∀ (n : Nat) (i : Nat), i ≤ 3 → 3 < i + n → zV G X 5 0 0 9 [(0, .ref (ad 300)), (1, .int (nI (a * 10 + b))), (2, .int (fRows Y a b i)), (3, .int (rI a i))] [] (zent Z sb mcn cp G.2.2.2.1 Y th o od ad) ad := by
    intro n
    induction n with
    | zero => intro i h1 h2; omega
    | succ n ih =>
      intro i h1 h2
      refine z_iload_n O dX8_around_9 rfl ?_
      refine z_iload_n O dX8_around_10 rfl ?_
      refine z_bipush O dX8_around_11 (v := 10) (by decide) ?_
      refine z_idiv O dX8_around_13 (by decide) ?_
      rw [nI_div10 _ hk, hka]
      refine z_iconst O dX8_around_14 (v := 1) (by decide) ?_
      refine z_iadd O dX8_around_15 ?_
      refine z_icmp_gt O dX8_around_16 (tgt := 110) (by decide) (fun h => ?_) (fun h => ?_)
      · have hi3 : i = 3 := (rI_lt a (by omega) i (by omega)).mp h
        subst hi3
        refine z_iload_n O dX8_around_110 rfl ?_
        exact z_iret O dX8_around_111 (Nat.le_of_ble_eq_true rfl) (Nat.le_of_ble_eq_true rfl) (⟨rfl, rfl, rfl⟩)
      · have hi3 : i < 3 := by rcases Nat.lt_or_ge i 3 with q | q; exact q; exact absurd ((rI_lt a (by omega) i (by omega)).mpr (by omega)) h
        have ihO := ih
        have L2 : ∀ (n : Nat) (j : Nat), j ≤ 3 → 3 < j + n → zV G X 5 0 0 27 [(0, .ref (ad 300)), (1, .int (nI (a * 10 + b))), (2, .int (fRow Y a b i (fRows Y a b i) j)), (3, .int (rI a i)), (4, .int (rI b j))] [] (zent Z sb mcn cp G.2.2.2.1 Y th o od ad) ad := by
          intro n
          induction n with
          | zero => intro j h3 h4; omega
          | succ n ih =>
            intro j h3 h4
            refine z_iload O dX8_around_27 rfl ?_
            refine z_iload_n O dX8_around_29 rfl ?_
            refine z_bipush O dX8_around_30 (v := 10) (by decide) ?_
            refine z_irem O dX8_around_32 (by decide) ?_
            rw [nI_mod10 _ hk, hkb]
            refine z_iconst O dX8_around_33 (v := 1) (by decide) ?_
            refine z_iadd O dX8_around_34 ?_
            refine z_icmp_gt O dX8_around_35 (tgt := 104) (by decide) (fun h9 => ?_) (fun h9 => ?_)
            · have hj3 : j = 3 := (rI_lt b (by omega) j (by omega)).mp h9
              subst hj3
              refine z_iinc1 O dX8_around_104 rfl (by decide) ?_
              refine z_goto O dX8_around_107 (tgt := 9) (by decide) ?_
              rw [rI_s]
              exact zV.loc (ihO (i + 1) (by omega) (by omega)) ⟨rfl, rfl, rfl, rfl, trivial⟩
            · have hj3 : j < 3 := by rcases Nat.lt_or_ge j 3 with q | q; exact q; exact absurd ((rI_lt b (by omega) j (by omega)).mpr (by omega)) h9
              refine z_aload_n O dX8_around_38 rfl ?_
              refine z_iload_n O dX8_around_39 rfl ?_
              refine z_iload O dX8_around_40 rfl ?_
              refine z_callV O (c_X8_isSeat hl hh) zI zm8_10 zm8_11 zm8_12 zm7_16 zm7_64 ⟨rfl, by decide +kernel, by decide +kernel, (show _ = some 2 by decide +kernel)⟩ rfl (zg_model) ⟨Nat.le_of_ble_eq_true rfl, Nat.le_of_ble_eq_true rfl⟩ ⟨Nat.le_of_ble_eq_true rfl, Nat.le_of_ble_eq_true rfl⟩ dX8_around_42 rfl (Nat.le_of_ble_eq_true rfl) (fun _ _ _ h => h.elim) (fun r w1 ad1 hp => ?_)
              rcases hp with ⟨rfl, hb9, rfl, rfl⟩ | ⟨rfl, hb9, rfl, rfl⟩
              · refine z_if_eq O dX8_around_45 (tgt := 98) (by decide) (fun q => absurd q (by decide)) (fun _ => ?_)
                obtain ⟨hix, hq⟩ := fAt_in hh hb9
                refine z_bipush O dX8_around_48 (v := 10) (by decide) ?_
                refine z_iload_n O dX8_around_50 rfl ?_
                refine z_imul O dX8_around_51 ?_
                refine z_iload O dX8_around_52 rfl ?_
                refine z_iadd O dX8_around_54 ?_
                refine z_iload_n O dX8_around_55 rfl ?_
                refine z_icmp_ne O dX8_around_56 (tgt := 62) (by decide) (fun e => ?_) (fun e => ?_)
                · refine z_iload_n O dX8_around_62 rfl ?_
                  refine z_aload_n O dX8_around_63 rfl ?_
                  refine z_get O (fk := 5) (fun x h => zI x (zu_RX8 x h)) rfl (by decide) (zI _ zm7_20) dX8_around_64 (zg_model) rfl ?_
                  refine z_bipush O dX8_around_67 (v := 10) (by decide) ?_
                  refine z_iload_n O dX8_around_69 rfl ?_
                  refine z_imul O dX8_around_70 ?_
                  refine z_iload O dX8_around_71 rfl ?_
                  refine z_iadd O dX8_around_73 ?_
                  refine z_iald O dX8_around_74 (zg_mI (i := 5) (n := 80) rfl rfl (by decide)) (fAt (rI a i) (rI b j)) (hix) (hq) (by decide) ?_
                  refine z_aload_n O dX8_around_75 rfl ?_
                  refine z_get O (fk := 8) (fun x h => zI x (zu_RX8 x h)) rfl (by decide) (zI _ zm7_22) dX8_around_76 (zg_model) rfl ?_
                  refine z_bipush O dX8_around_79 (v := 10) (by decide) ?_
                  refine z_iload_n O dX8_around_81 rfl ?_
                  refine z_imul O dX8_around_82 ?_
                  refine z_iload O dX8_around_83 rfl ?_
                  refine z_iadd O dX8_around_85 ?_
                  refine z_zald O dX8_around_86 (zg_mZ (i := 8) (n := 80) rfl rfl (by decide)) (fAt (rI a i) (rI b j)) (hix) (hq) (by decide) ?_
                  refine z_if_eq O dX8_around_87 (tgt := 94) (by decide) (fun z => ?_) (fun z => ?_)
                  · refine z_iconst O dX8_around_94 (v := 0) (by decide) ?_
                    refine z_isub O dX8_around_95 ?_
                    refine z_iadd O dX8_around_96 ?_
                    refine z_istore_n O dX8_around_97 (by decide) ?_
                    refine z_iinc1 O dX8_around_98 rfl (by decide) ?_
                    refine z_goto O dX8_around_101 (tgt := 27) (by decide) ?_
                    rw [rI_s]
                    exact zV.loc (ih (j + 1) (by omega) (by omega)) ⟨rfl, rfl, by rw [show fRow Y a b i (fRows Y a b i) (j + 1) = fRow Y a b i (fRows Y a b i) j + (Y 5 (fAt (rI a i) (rI b j)) - 0) from ((fCell_eq hh ha hb hi3 hj3 hb9).2 e).trans (by rw [if_pos z])]; rfl, rfl, rfl, trivial⟩
                  · refine z_iconst O dX8_around_90 (v := 4) (by decide) ?_
                    refine z_goto O dX8_around_91 (tgt := 95) (by decide) ?_
                    refine z_isub O dX8_around_95 ?_
                    refine z_iadd O dX8_around_96 ?_
                    refine z_istore_n O dX8_around_97 (by decide) ?_
                    refine z_iinc1 O dX8_around_98 rfl (by decide) ?_
                    refine z_goto O dX8_around_101 (tgt := 27) (by decide) ?_
                    rw [rI_s]
                    exact zV.loc (ih (j + 1) (by omega) (by omega)) ⟨rfl, rfl, by rw [show fRow Y a b i (fRows Y a b i) (j + 1) = fRow Y a b i (fRows Y a b i) j + (Y 5 (fAt (rI a i) (rI b j)) - 4) from ((fCell_eq hh ha hb hi3 hj3 hb9).2 e).trans (by rw [if_neg z])]; rfl, rfl, rfl, trivial⟩
                · refine z_goto O dX8_around_59 (tgt := 98) (by decide) ?_
                  refine z_iinc1 O dX8_around_98 rfl (by decide) ?_
                  refine z_goto O dX8_around_101 (tgt := 27) (by decide) ?_
                  rw [rI_s]
                  exact zV.loc (ih (j + 1) (by omega) (by omega)) ⟨rfl, rfl, by rw [show fRow Y a b i (fRows Y a b i) (j + 1) = fRow Y a b i (fRows Y a b i) j from (fCell_eq hh ha hb hi3 hj3 hb9).1 e]; rfl, rfl, rfl, trivial⟩
              · refine z_if_eq O dX8_around_45 (tgt := 98) (by decide) (fun _ => ?_) (fun q => absurd rfl q)
                refine z_iinc1 O dX8_around_98 rfl (by decide) ?_
                refine z_goto O dX8_around_101 (tgt := 27) (by decide) ?_
                rw [rI_s]
                exact zV.loc (ih (j + 1) (by omega) (by omega)) ⟨rfl, rfl, by rw [show fRow Y a b i (fRows Y a b i) (j + 1) = fRow Y a b i (fRows Y a b i) j from fCell_none hb9]; rfl, rfl, rfl, trivial⟩
        refine z_iload_n O dX8_around_19 rfl ?_
        refine z_bipush O dX8_around_20 (v := 10) (by decide) ?_
        refine z_irem O dX8_around_22 (by decide) ?_
        rw [nI_mod10 _ hk, hkb]
        refine z_iconst O dX8_around_23 (v := 1) (by decide) ?_
        refine z_isub O dX8_around_24 ?_
        rw [rI_0]
        refine z_istore O dX8_around_25 (by decide) ?_
        exact zV.loc (L2 4 0 (by omega) (by omega)) ⟨rfl, rfl, rfl, rfl, rfl, trivial⟩
  refine z_iconst O dX8_around_0 (v := 0) (by decide) ?_
  refine z_istore_n O dX8_around_1 (by decide) ?_
  refine z_iload_n O dX8_around_2 rfl ?_
  refine z_bipush O dX8_around_3 (v := 10) (by decide) ?_
  refine z_idiv O dX8_around_5 (by decide) ?_
  rw [nI_div10 _ hk, hka]
  refine z_iconst O dX8_around_6 (v := 1) (by decide) ?_
  refine z_isub O dX8_around_7 ?_
  rw [rI_0]
  refine z_istore_n O dX8_around_8 (by decide) ?_
  exact zV.loc (L 4 0 (by omega) (by omega)) ⟨rfl, rfl, rfl, rfl, trivial⟩
