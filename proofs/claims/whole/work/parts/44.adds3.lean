/-- how a call that adds leaves the addresses -/
def zAds (n1 n2 : Nat) (ad ad' : Nat → Nat) : Prop := ∀ j, j ≠ n1 → j ≠ n2 → ad' j = ad j
def zAH (Z : zM) (n : Nat) (c s q p : Int32) : zM := zu (zu (zu (zu (zu (zu Z 9 n c) 11 n s) 12 n q) 13 n p) 14 n 0) 25 0 (nI (n + 1))
def zAS (Z : zM) (n : Nat) (a b : Int32) : zM := zu (zu (zu (zu (zu Z 15 n a) 16 n b) 18 n 0) 17 n 0) 26 0 (nI (n + 1))
def zAC (Z : zM) (n : Nat) (s c t f k : Int32) : zM := zu (zu (zu (zu (zu (zu Z 19 n s) 10 n c) 20 n t) 21 n f) 22 n k) 27 0 (nI (n + 1))
def zCap (cp : Nat → Nat) (i : Nat) : Prop := cp i = 0 ∨ cp i = 10 ∨ cp i = 15
theorem zg_hand' {Z : zM} {sb : Nat → Option Nat} {mcn : Nat → Int32} {cp : Nat → Nat} {e0 : Nat} {Y : zM} {th : Int32} {o : Nat → Int64} {od : Nat → UInt64} {ad : Nat → Nat} {i n : Nat} (hi : i < 3) (h : n = zN Z i) (h2 : n < 12) : zent Z sb mcn cp e0 Y th o od ad (200 + 20 * i + n) = none := by
  subst h
  rcases (show i = 0 ∨ i = 1 ∨ i = 2 by omega) with rfl | rfl | rfl
  all_goals
    simp only [zent, zC]
    rw [if_pos (by omega), if_neg (by omega), if_neg (by omega), if_neg (by omega)]
  · rw [if_pos (by omega), if_neg (by omega)]
  · rw [if_neg (by omega), if_pos (by omega), if_neg (by omega)]
  · rw [if_neg (by omega), if_neg (by omega), if_pos (by omega), if_neg (by omega)]
theorem zg_350 {Z : zM} {sb : Nat → Option Nat} {mcn : Nat → Int32} {cp : Nat → Nat} {e0 : Nat} {Y : zM} {th : Int32} {o : Nat → Int64} {od : Nat → UInt64} {ad : Nat → Nat} : zent Z sb mcn cp e0 Y th o od ad 350 = none := by
  simp [zent, zD]
theorem zg_larr0 {Z : zM} {sb : Nat → Option Nat} {mcn : Nat → Int32} {cp : Nat → Nat} {e0 : Nat} {Y : zM} {th : Int32} {o : Nat → Int64} {od : Nat → UInt64} {ad : Nat → Nat} {i : Nat} (hi : i < 3) (h : cp i = 0) : zent Z sb mcn cp e0 Y th o od ad (8 + i) = none := by
  rcases (show i = 0 ∨ i = 1 ∨ i = 2 by omega) with rfl | rfl | rfl <;> simp [zent, zC, h]
theorem zN_hand {Z : zM} {n : Nat} {x s q p : Int32} (hn : n < 100) : zN (zAH Z n x s q p) 0 = n + 1 := by
  unfold zN
  rw [show zAH Z n x s q p (25 + 0) 0 = nI (n + 1) by simp [zAH, zu]]
  exact nI_clamp (by omega)
theorem zw_hand {G : zG} {Z : zM} {sb : Nat → Option Nat} {mcn : Nat → Int32} {cp : Nat → Nat} {e0 : Nat} {Y : zM} {th : Int32} {o : Nat → Int64} {od : Nat → UInt64} {ad : Nat → Nat} {x s q p : Int32} {c9 q9 : Nat} {H : Heap} (hL0 : zLst Z cp 0) (hL1 : zLst Z cp 1) (hL2 : zLst Z cp 2) (hn12 : zN Z 0 < 12) (hc9 : c9 ≠ 0)
    (hR : zRep G (wU (wU (wU (zent Z sb mcn cp e0 Y th o od ad) (200 + 20 * 0 + zN Z 0) (.inr (5, [.int x, .int s, .int q, .int p, .int 0, .null]))) (8 + 0) (zAr c9 (fun k => if k < zN Z 0 + 1 then some (ad (200 + 20 * 0 + k)) else none))) (5 + 0) (zLs (mcn 0 + 1) (.ref q9) (nI (zN Z 0 + 1)))) (va_up ad (8 + 0) q9) H) : zRep G (zent (zAH Z (zN Z 0) x s q p) (va_up sb (zN Z 0) none) (va_up mcn 0 (mcn 0 + 1)) (va_up cp 0 c9) e0 Y th o od (va_up ad (8 + 0) q9)) (va_up ad (8 + 0) q9) H := by
  have hNH : zN (zAH Z (zN Z 0) x s q p) 0 = zN Z 0 + 1 := zN_hand (by omega)
  refine zw_add (Z := Z) (by decide) rfl hn12 ⟨hL0.2.2.2, hL1.2.2.2, hL2.2.2.2⟩ hc9 (fun a => by simp [eX, zAH, zu]) (fun a => by simp [eHouse, zAH, zu]) (fun a => by simp [eEv, zAH, zu]) (fun k hk => ?_) (fun a b => by simp [sSeat, zAH, zu]) (fun a b hb => ?_) (fun b hb => ?_) (fun a b hb => ?_) ?_ hR
  · rcases (show k = 0 ∨ k = 1 ∨ k = 2 by omega) with rfl | rfl | rfl <;> simp [zAH, zu]
  · have : b ≠ zN Z 0 := by omega
    simp [sHand, zAH, zu, this, va_up]
  · simp [sSinger, zAH, zu]
  · simp [sCue, zAH, zu]
  · rw [show 200 + 20 * 0 + zN Z 0 = 200 + zN Z 0 by omega, zg_hand (by rw [hNH]; omega) (by omega)]
    simp [sHand, zAH, zu, va_up, va_rf]
theorem zN_singer {Z : zM} {n : Nat} {x y : Int32} (hn : n < 100) : zN (zAS Z n x y) 1 = n + 1 := by
  unfold zN
  rw [show zAS Z n x y (25 + 1) 0 = nI (n + 1) by simp [zAS, zu]]
  exact nI_clamp (by omega)
theorem zw_singer {G : zG} {Z : zM} {sb : Nat → Option Nat} {mcn : Nat → Int32} {cp : Nat → Nat} {e0 : Nat} {Y : zM} {th : Int32} {o : Nat → Int64} {od : Nat → UInt64} {ad : Nat → Nat} {x y : Int32} {c9 q9 : Nat} {H : Heap} (hL0 : zLst Z cp 0) (hL1 : zLst Z cp 1) (hL2 : zLst Z cp 2) (hn12 : zN Z 1 < 12) (hc9 : c9 ≠ 0)
    (hR : zRep G (wU (wU (wU (zent Z sb mcn cp e0 Y th o od ad) (200 + 20 * 1 + zN Z 1) (.inr (8, [.int x, .int y, .int 0, .int 0]))) (8 + 1) (zAr c9 (fun k => if k < zN Z 1 + 1 then some (ad (200 + 20 * 1 + k)) else none))) (5 + 1) (zLs (mcn 1 + 1) (.ref q9) (nI (zN Z 1 + 1)))) (va_up ad (8 + 1) q9) H) : zRep G (zent (zAS Z (zN Z 1) x y) sb (va_up mcn 1 (mcn 1 + 1)) (va_up cp 1 c9) e0 Y th o od (va_up ad (8 + 1) q9)) (va_up ad (8 + 1) q9) H := by
  have hNH : zN (zAS Z (zN Z 1) x y) 1 = zN Z 1 + 1 := zN_singer (by omega)
  refine zw_add (Z := Z) (by decide) rfl hn12 ⟨hL0.2.2.2, hL1.2.2.2, hL2.2.2.2⟩ hc9 (fun a => by simp [eX, zAS, zu]) (fun a => by simp [eHouse, zAS, zu]) (fun a => by simp [eEv, zAS, zu]) (fun k hk => ?_) (fun a b => by simp [sSeat, zAS, zu]) (fun a b hb => ?_) (fun b hb => ?_) (fun a b hb => ?_) ?_ hR
  · rcases (show k = 0 ∨ k = 1 ∨ k = 2 by omega) with rfl | rfl | rfl <;> simp [zAS, zu]
  · simp [sHand, zAS, zu]
  · have : b ≠ zN Z 1 := by omega
    simp [sSinger, zAS, zu, this]
  · simp [sCue, zAS, zu]
  · rw [show 200 + 20 * 1 + zN Z 1 = 220 + zN Z 1 by omega, zg_singer (by rw [hNH]; omega) (by omega)]
    simp [sSinger, zAS, zu]
theorem zN_cue {Z : zM} {n : Nat} {s x t f m : Int32} (hn : n < 100) : zN (zAC Z n s x t f m) 2 = n + 1 := by
  unfold zN
  rw [show zAC Z n s x t f m (25 + 2) 0 = nI (n + 1) by simp [zAC, zu]]
  exact nI_clamp (by omega)
theorem zw_cue {G : zG} {Z : zM} {sb : Nat → Option Nat} {mcn : Nat → Int32} {cp : Nat → Nat} {e0 : Nat} {Y : zM} {th : Int32} {o : Nat → Int64} {od : Nat → UInt64} {ad : Nat → Nat} {s x t f m : Int32} {c9 q9 : Nat} {H : Heap} (hL0 : zLst Z cp 0) (hL1 : zLst Z cp 1) (hL2 : zLst Z cp 2) (hn12 : zN Z 2 < 12) (hc9 : c9 ≠ 0) {j : Nat} (hsj : s.toNatClampNeg = j)
    (hR : zRep G (wU (wU (wU (zent Z sb mcn cp e0 Y th o od ad) (200 + 20 * 2 + zN Z 2) (.inr (3, [.ref (ad (220 + j)), .int x, .int t, .int f, .int m]))) (8 + 2) (zAr c9 (fun k => if k < zN Z 2 + 1 then some (ad (200 + 20 * 2 + k)) else none))) (5 + 2) (zLs (mcn 2 + 1) (.ref q9) (nI (zN Z 2 + 1)))) (va_up ad (8 + 2) q9) H) : zRep G (zent (zAC Z (zN Z 2) s x t f m) sb (va_up mcn 2 (mcn 2 + 1)) (va_up cp 2 c9) e0 Y th o od (va_up ad (8 + 2) q9)) (va_up ad (8 + 2) q9) H := by
  have hNH : zN (zAC Z (zN Z 2) s x t f m) 2 = zN Z 2 + 1 := zN_cue (by omega)
  refine zw_add (Z := Z) (by decide) rfl hn12 ⟨hL0.2.2.2, hL1.2.2.2, hL2.2.2.2⟩ hc9 (fun a => by simp [eX, zAC, zu]) (fun a => by simp [eHouse, zAC, zu]) (fun a => by simp [eEv, zAC, zu]) (fun k hk => ?_) (fun a b => by simp [sSeat, zAC, zu]) (fun a b hb => ?_) (fun b hb => ?_) (fun a b hb => ?_) ?_ hR
  · rcases (show k = 0 ∨ k = 1 ∨ k = 2 by omega) with rfl | rfl | rfl <;> simp [zAC, zu]
  · simp [sHand, zAC, zu]
  · simp [sSinger, zAC, zu]
  · have : b ≠ zN Z 2 := by omega
    simp [sCue, zAC, zu, this]
  · rw [show 200 + 20 * 2 + zN Z 2 = 240 + zN Z 2 by omega, zg_cue (by rw [hNH]; omega) (by omega)]
    have : 220 + j ≠ 8 + 2 := by omega
    simp [sCue, zAC, zu, va_up, hsj, this]
set_option maxRecDepth 100000 in
set_option maxHeartbeats 4000000 in
theorem c_X7_addHand {G : zG} {l : Launch} (hl : l.stackTraces = false) {Z : zM} {sb : Nat → Option Nat} {mcn : Nat → Int32} {cp : Nat → Nat} {Y : zM} {th : Int32} {o : Nat → Int64} {od : Nat → UInt64} {ad : Nat → Nat} (hL0 : zLst Z cp 0) (hL1 : zLst Z cp 1) (hL2 : zLst Z cp 2) (hz2 : ∀ k, k < 80 → ∀ j, zh (Z 2 k) = some j → j < zN Z 0) (hsb : ∀ j k, j < zN Z 0 → sb j = some k → k < 80) (hcs : ∀ c, c < zN Z 2 → (Z 19 c).toNatClampNeg < zN Z 1) (hcap : zCap cp 0) {x s q p : Int32} (hcz : zChr x) : zCt G l yX7_addHand (zws yX7_addHand cX7_addHand 5 (some .int)) ({ frames := 7, cells := 7, slots := 60, locals := 200 }) [.ref (ad 0), .int x, .int s, .int q, .int p] (zent Z sb mcn cp G.2.2.2.1 Y th o od ad) ad (fun r w1 ad1 => ∃ c a2, (c = 10 ∨ c = 15) ∧ zN Z 0 + 1 ≤ c ∧ kAddHand Z x s q p = 0 ∧ some (.int (Z 25 0)) = r ∧ zent (zAH Z (zN Z 0) x s q p) (va_up sb (zN Z 0) none) (va_up mcn 0 (mcn 0 + 1)) (va_up cp 0 c) G.2.2.2.1 Y th o od a2 = w1 ∧ a2 = ad1 ∧ zAds (200 + 20 * 0 + zN Z 0) (8 + 0) ad a2) (zPX ["java/lang/IllegalArgumentException", "java/lang/IllegalStateException"] (kAddHand Z x s q p) (zent Z sb mcn cp G.2.2.2.1 Y th o od ad) ad) := by
  refine z_body hl (by decide +kernel) (Nat.le_of_ble_eq_true rfl) (fun X O => ?_)
  refine z_iload_n O dX7_addHand_0 rfl ?_
  refine z_bipush O dX7_addHand_1 (v := 97) (by decide) ?_
  refine z_icmp_eq O dX7_addHand_3 (tgt := 10) (by decide) (fun h => ?_) (fun h => ?_)
  · have hkd : x = 97 ∨ fKd x := Or.inl h
    refine z_iload_n O dX7_addHand_10 rfl ?_
    refine z_iconst O dX7_addHand_11 (v := 1) (by decide) ?_
    refine z_bipush O dX7_addHand_12 (v := 9) (by decide) ?_
    refine z_callS O (c_X7_checkRange hl (x := s) (a := 1) (b := 9)) zI zm4_19 zm4_20 zm4_21 zm4_8 ⟨by decide +kernel, by decide +kernel, (show _ = some 3 by decide +kernel)⟩ ⟨Nat.le_of_ble_eq_true rfl, Nat.le_of_ble_eq_true rfl⟩ ⟨Nat.le_of_ble_eq_true rfl, Nat.le_of_ble_eq_true rfl⟩ dX7_addHand_14 rfl (Nat.le_of_ble_eq_true rfl) (fun E w' ad' h => by obtain ⟨rfl, hc, rfl, rfl⟩ := h; exact ⟨⟨⟨rfl, rfl⟩, by unfold kAddHand; rw [if_neg (fun z => z hkd), if_pos hc]; exact ⟨by decide, rfl⟩⟩, Nat.le_of_ble_eq_true rfl, Nat.le_of_ble_eq_true rfl⟩) (fun r w1 ad1 hp => ?_)
    obtain ⟨r1, rfl, rfl, rfl⟩ := hp
    refine z_iload_n O dX7_addHand_17 rfl ?_
    refine z_iconst O dX7_addHand_18 (v := 0) (by decide) ?_
    refine z_iconst O dX7_addHand_19 (v := 3) (by decide) ?_
    refine z_callS O (c_X7_checkRange hl (x := q) (a := 0) (b := 3)) zI zm4_19 zm4_20 zm4_21 zm4_8 ⟨by decide +kernel, by decide +kernel, (show _ = some 3 by decide +kernel)⟩ ⟨Nat.le_of_ble_eq_true rfl, Nat.le_of_ble_eq_true rfl⟩ ⟨Nat.le_of_ble_eq_true rfl, Nat.le_of_ble_eq_true rfl⟩ dX7_addHand_20 rfl (Nat.le_of_ble_eq_true rfl) (fun E w' ad' h => by obtain ⟨rfl, hc, rfl, rfl⟩ := h; exact ⟨⟨⟨rfl, rfl⟩, by unfold kAddHand; rw [if_neg (fun z => z hkd), if_neg (fun z => z r1), if_pos hc]; exact ⟨by decide, rfl⟩⟩, Nat.le_of_ble_eq_true rfl, Nat.le_of_ble_eq_true rfl⟩) (fun r w1 ad1 hp => ?_)
    obtain ⟨r2, rfl, rfl, rfl⟩ := hp
    refine z_iload O dX7_addHand_23 rfl ?_
    refine z_iconst O dX7_addHand_25 (v := 0) (by decide) ?_
    refine z_bipush O dX7_addHand_26 (v := 99) (by decide) ?_
    refine z_callS O (c_X7_checkRange hl (x := p) (a := 0) (b := 99)) zI zm4_19 zm4_20 zm4_21 zm4_8 ⟨by decide +kernel, by decide +kernel, (show _ = some 3 by decide +kernel)⟩ ⟨Nat.le_of_ble_eq_true rfl, Nat.le_of_ble_eq_true rfl⟩ ⟨Nat.le_of_ble_eq_true rfl, Nat.le_of_ble_eq_true rfl⟩ dX7_addHand_28 rfl (Nat.le_of_ble_eq_true rfl) (fun E w' ad' h => by obtain ⟨rfl, hc, rfl, rfl⟩ := h; exact ⟨⟨⟨rfl, rfl⟩, by unfold kAddHand; rw [if_neg (fun z => z hkd), if_neg (fun z => z r1), if_neg (fun z => z r2), if_pos hc]; exact ⟨by decide, rfl⟩⟩, Nat.le_of_ble_eq_true rfl, Nat.le_of_ble_eq_true rfl⟩) (fun r w1 ad1 hp => ?_)
    obtain ⟨r3, rfl, rfl, rfl⟩ := hp
    refine z_aload_n O dX7_addHand_31 rfl ?_
    refine z_get O (fk := 1) (fun x h => zI x (zu_RX7 x h)) rfl (by decide) (zI _ zm3_64) dX7_addHand_32 (zg_x) rfl ?_
    refine z_get O (fk := 0) (fun x h => zI x (zu_RX6 x h)) rfl (by decide) (zI _ zm4_40) dX7_addHand_35 (zg_tr) rfl ?_
    refine z_callV O (c_size_l hl (i := 0) (by decide) hL0) zI zm4_16 zm1_46 zm1_47 zm0_31 zm1_19 ⟨rfl, by decide +kernel, by decide +kernel, (show _ = some 0 by decide +kernel)⟩ rfl ((zg_list0 (i := 0) (by decide) hL0)) ⟨Nat.le_of_ble_eq_true rfl, Nat.le_of_ble_eq_true rfl⟩ ⟨Nat.le_of_ble_eq_true rfl, Nat.le_of_ble_eq_true rfl⟩ dX7_addHand_38 rfl (Nat.le_of_ble_eq_true rfl) (fun _ _ _ h => h.elim) (fun r w1 ad1 hp => ?_)
    obtain ⟨rfl, rfl, rfl⟩ := hp
    rw [← hL0.1]
    refine z_bipush O dX7_addHand_41 (v := 12) (by decide) ?_
    refine z_icmp_lt O dX7_addHand_43 (tgt := 56) (by decide) (fun g => ?_) (fun g => ?_)
    · have hnot : ¬ 12 ≤ Z (25 + 0) 0 := Int32.not_le.mpr g
      refine z_aload_n O dX7_addHand_56 rfl ?_
      refine z_get O (fk := 1) (fun x h => zI x (zu_RX7 x h)) rfl (by decide) (zI _ zm3_64) dX7_addHand_57 (zg_x) rfl ?_
      refine z_get O (fk := 0) (fun x h => zI x (zu_RX6 x h)) rfl (by decide) (zI _ zm4_40) dX7_addHand_60 (zg_tr) rfl ?_
      have hn12 : zN Z 0 < 12 := by
        have := hnot
        rw [hL0.1] at this
        exact Nat.lt_of_not_le fun q => this ((nI_leI (by decide) (by have := hL0.2.2.2; omega)).mpr q)
      have hnone : (zent Z sb mcn cp G.2.2.2.1 Y th o od ad) (200 + 20 * 0 + zN Z 0) = none := zg_hand' (by decide) rfl (by omega)
      refine z_new O (w' := fun _ => wU (zent Z sb mcn cp G.2.2.2.1 Y th o od ad) (200 + 20 * 0 + zN Z 0) (.inr (5, [.int 0, .int 0, .int 0, .int 0, .int 0, .null]))) (200 + 20 * 0 + zN Z 0) (fun x h => zI x (zu_RX2 x h)) tyX2 tyX2_ok (zI _ zm5_29) (zI _ zm5_30) (zI _ zm1_57) (ci := 5) rfl (fun j hj => by rcases j with _ | _ | _ | _ | _ | _ | j <;> first | rfl | omega) (Nat.le_of_ble_eq_true rfl) (Nat.le_of_ble_eq_true rfl) dX7_addHand_63 hnone (fun _ => wU_eq) (fun q1 => ?_)
      obtain ⟨a1, ha1⟩ : ∃ z, z = va_up ad (200 + 20 * 0 + zN Z 0) q1 := ⟨_, rfl⟩
      rw [← ha1]
      have hk1 : ∀ j, j ≠ (200 + 20 * 0 + zN Z 0) → a1 j = ad j := fun j h => by rw [ha1]; exact zup_n h
      rw [← hk1 5 (by omega), ← hk1 0 (by omega)]
      refine zV.world (w' := wU (zent Z sb mcn cp G.2.2.2.1 Y th o od a1) (200 + 20 * 0 + zN Z 0) (.inr (5, [.int 0, .int 0, .int 0, .int 0, .int 0, .null]))) (ad' := a1) ?_ (fun H hR => hR.sim fun j x hj => by
        by_cases q : j = (200 + 20 * 0 + zN Z 0)
        · subst q; rw [wU_s] at hj ⊢; exact ⟨x, hj, zAl.rf⟩
        · rw [wU_n q] at hj ⊢; exact zent_ad G hk1 ⟨by omega, hL0.2.2.2, hL1.2.2.2, hL2.2.2.2⟩ hz2 hsb hcs j x hj)
      refine z_dup O dX7_addHand_66 rfl ?_
      refine z_iload_n O dX7_addHand_67 rfl ?_
      refine z_iload_n O dX7_addHand_68 rfl ?_
      refine z_iload_n O dX7_addHand_69 rfl ?_
      refine z_iload O dX7_addHand_70 rfl ?_
      refine z_callI O (c_X2_init hl (a := (200 + 20 * 0 + zN Z 0)) wU_s (c := x) hcz) zI zm5_33 zm5_34 zm1_57 zm2_40 rfl ⟨by decide +kernel, by decide +kernel, (show _ = some 4 by decide +kernel)⟩ ⟨Nat.le_of_ble_eq_true rfl, Nat.le_of_ble_eq_true rfl⟩ ⟨Nat.le_of_ble_eq_true rfl, Nat.le_of_ble_eq_true rfl⟩ dX7_addHand_72 rfl (Nat.le_of_ble_eq_true rfl) (fun r w1 ad1 hp => ?_)
      obtain ⟨rfl, rfl, rfl⟩ := hp
      rw [wU_wU]
      refine z_callV O (c_addL hl (C := "ClaqueRow$Hand") (i := 0) (n := zN Z 0) (cp := cp 0) (m0 := mcn 0) (by decide +kernel) (ci := 5) rfl (by decide) rfl ((wU_n (by omega)).trans (zg_list0 (by decide) hL0)) (fun q => ⟨(wU_n (by omega)).trans (zg_larr0 (by decide) q), by have := hL0.2.1; omega⟩) (fun q => (wU_n (by omega)).trans (zg_larr (by decide) q)) hcap hL0.2.1 (by omega) ((wU_n (by omega)).trans zg_350) (fun k hk => ⟨_, (wU_n (by omega)).trans (zg_hand hk (by omega))⟩) wU_s) zI zm5_35 zm5_36 zm5_37 zm0_31 zm5_26 ⟨rfl, by decide +kernel, by decide +kernel, (show _ = some 1 by decide +kernel)⟩ rfl ((wU_n (by omega)).trans (zg_list (by decide))) ⟨Nat.le_of_ble_eq_true rfl, Nat.le_of_ble_eq_true rfl⟩ ⟨Nat.le_of_ble_eq_true rfl, Nat.le_of_ble_eq_true rfl⟩ dX7_addHand_75 rfl (Nat.le_of_ble_eq_true rfl) (fun _ _ _ h => h.elim) (fun r w1 ad1 hp => ?_)
      obtain ⟨c9, q9, hc9, hn9, rfl, rfl, rfl⟩ := hp
      obtain ⟨a2, ha2⟩ : ∃ z, z = va_up a1 (8 + 0) q9 := ⟨_, rfl⟩
      have hk2 : ∀ j, j ≠ 8 + 0 → a2 j = a1 j := fun j h => by rw [ha2]; exact zup_n h
      refine zV.world (w' := zent (zAH Z (zN Z 0) x s q p) (va_up sb (zN Z 0) none) (va_up mcn 0 (mcn 0 + 1)) (va_up cp 0 c9) G.2.2.2.1 Y th o od a2) (ad' := a2) ?_ (fun H hR => by subst ha2; exact zw_hand hL0 hL1 hL2 (by omega) (by omega) hR)
      have hNn : zN (zAH Z (zN Z 0) x s q p) 0 = zN Z 0 + 1 := zN_hand (by omega)
      have hLn : zLst (zAH Z (zN Z 0) x s q p) (va_up cp 0 c9) 0 := by unfold zLst; rw [hNn, zup_s]; exact ⟨by simp [zAH, zu], hn9, by omega, by omega⟩
      rw [← hk2 0 (by decide)]
      refine z_pop O dX7_addHand_78 rfl ?_
      refine z_aload_n O dX7_addHand_79 rfl ?_
      refine z_get O (fk := 1) (fun x h => zI x (zu_RX7 x h)) rfl (by decide) (zI _ zm3_64) dX7_addHand_80 (zg_x) rfl ?_
      refine z_get O (fk := 0) (fun x h => zI x (zu_RX6 x h)) rfl (by decide) (zI _ zm4_40) dX7_addHand_83 (zg_tr) rfl ?_
      refine z_callV O (c_size_l hl (i := 0) (by decide) hLn) zI zm4_16 zm1_46 zm1_47 zm0_31 zm1_19 ⟨rfl, by decide +kernel, by decide +kernel, (show _ = some 0 by decide +kernel)⟩ rfl ((zg_list0 (i := 0) (by decide) hLn)) ⟨Nat.le_of_ble_eq_true rfl, Nat.le_of_ble_eq_true rfl⟩ ⟨Nat.le_of_ble_eq_true rfl, Nat.le_of_ble_eq_true rfl⟩ dX7_addHand_86 rfl (Nat.le_of_ble_eq_true rfl) (fun _ _ _ h => h.elim) (fun r w1 ad1 hp => ?_)
      obtain ⟨rfl, rfl, rfl⟩ := hp
      refine z_iconst O dX7_addHand_89 (v := 1) (by decide) ?_
      refine z_isub O dX7_addHand_90 ?_
      exact z_iret O dX7_addHand_91 (Nat.le_of_ble_eq_true rfl) (Nat.le_of_ble_eq_true rfl) (⟨c9, a2, hc9, hn9, by unfold kAddHand; rw [if_neg (fun z => z hkd), if_neg (fun z => z r1), if_neg (fun z => z r2), if_neg (fun z => z r3), if_neg hnot], by rw [hNn, ← nI_1, Int32.add_sub_cancel, hL0.1], rfl, rfl, fun j h1 h2 => (hk2 j h2).trans (hk1 j h1)⟩)
    · exact z_throw O (text := "there are 12 hands") zI (by decide +kernel) (by decide +kernel) zm5_27 zm5_28 zt_108 zbad_108 zok_108 (by decide +kernel) dX7_addHand_46 dX7_addHand_49 dX7_addHand_50 dX7_addHand_52 dX7_addHand_55 (Nat.le_of_ble_eq_true rfl) (Nat.le_of_ble_eq_true rfl) (Nat.le_of_ble_eq_true rfl) (Nat.le_of_ble_eq_true rfl) (Nat.le_of_ble_eq_true rfl) (Nat.le_of_ble_eq_true rfl) (⟨⟨rfl, rfl⟩, by unfold kAddHand; rw [if_neg (fun z => z hkd), if_neg (fun z => z r1), if_neg (fun z => z r2), if_neg (fun z => z r3), if_pos (Int32.not_lt.mp g)]; exact ⟨by decide, rfl⟩⟩)
  · refine z_iload_n O dX7_addHand_6 rfl ?_
    refine z_callS O (c_X7_checkCueKind hl (x := x)) zI zm5_31 zm5_32 zm4_21 zm4_54 ⟨by decide +kernel, by decide +kernel, (show _ = some 1 by decide +kernel)⟩ ⟨Nat.le_of_ble_eq_true rfl, Nat.le_of_ble_eq_true rfl⟩ ⟨Nat.le_of_ble_eq_true rfl, Nat.le_of_ble_eq_true rfl⟩ dX7_addHand_7 rfl (Nat.le_of_ble_eq_true rfl) (fun E w' ad' h => by obtain ⟨rfl, hc, rfl, rfl⟩ := h; exact ⟨⟨⟨rfl, rfl⟩, by unfold kAddHand; rw [if_pos (fun z => z.elim h hc)]; exact ⟨by decide, rfl⟩⟩, Nat.le_of_ble_eq_true rfl, Nat.le_of_ble_eq_true rfl⟩) (fun r w1 ad1 hp => ?_)
    obtain ⟨r0, rfl, rfl, rfl⟩ := hp
    have hkd : x = 97 ∨ fKd x := Or.inr r0
    refine z_iload_n O dX7_addHand_10 rfl ?_
    refine z_iconst O dX7_addHand_11 (v := 1) (by decide) ?_
    refine z_bipush O dX7_addHand_12 (v := 9) (by decide) ?_
    refine z_callS O (c_X7_checkRange hl (x := s) (a := 1) (b := 9)) zI zm4_19 zm4_20 zm4_21 zm4_8 ⟨by decide +kernel, by decide +kernel, (show _ = some 3 by decide +kernel)⟩ ⟨Nat.le_of_ble_eq_true rfl, Nat.le_of_ble_eq_true rfl⟩ ⟨Nat.le_of_ble_eq_true rfl, Nat.le_of_ble_eq_true rfl⟩ dX7_addHand_14 rfl (Nat.le_of_ble_eq_true rfl) (fun E w' ad' h => by obtain ⟨rfl, hc, rfl, rfl⟩ := h; exact ⟨⟨⟨rfl, rfl⟩, by unfold kAddHand; rw [if_neg (fun z => z hkd), if_pos hc]; exact ⟨by decide, rfl⟩⟩, Nat.le_of_ble_eq_true rfl, Nat.le_of_ble_eq_true rfl⟩) (fun r w1 ad1 hp => ?_)
    obtain ⟨r1, rfl, rfl, rfl⟩ := hp
    refine z_iload_n O dX7_addHand_17 rfl ?_
    refine z_iconst O dX7_addHand_18 (v := 0) (by decide) ?_
    refine z_iconst O dX7_addHand_19 (v := 3) (by decide) ?_
    refine z_callS O (c_X7_checkRange hl (x := q) (a := 0) (b := 3)) zI zm4_19 zm4_20 zm4_21 zm4_8 ⟨by decide +kernel, by decide +kernel, (show _ = some 3 by decide +kernel)⟩ ⟨Nat.le_of_ble_eq_true rfl, Nat.le_of_ble_eq_true rfl⟩ ⟨Nat.le_of_ble_eq_true rfl, Nat.le_of_ble_eq_true rfl⟩ dX7_addHand_20 rfl (Nat.le_of_ble_eq_true rfl) (fun E w' ad' h => by obtain ⟨rfl, hc, rfl, rfl⟩ := h; exact ⟨⟨⟨rfl, rfl⟩, by unfold kAddHand; rw [if_neg (fun z => z hkd), if_neg (fun z => z r1), if_pos hc]; exact ⟨by decide, rfl⟩⟩, Nat.le_of_ble_eq_true rfl, Nat.le_of_ble_eq_true rfl⟩) (fun r w1 ad1 hp => ?_)
    obtain ⟨r2, rfl, rfl, rfl⟩ := hp
    refine z_iload O dX7_addHand_23 rfl ?_
    refine z_iconst O dX7_addHand_25 (v := 0) (by decide) ?_
    refine z_bipush O dX7_addHand_26 (v := 99) (by decide) ?_
    refine z_callS O (c_X7_checkRange hl (x := p) (a := 0) (b := 99)) zI zm4_19 zm4_20 zm4_21 zm4_8 ⟨by decide +kernel, by decide +kernel, (show _ = some 3 by decide +kernel)⟩ ⟨Nat.le_of_ble_eq_true rfl, Nat.le_of_ble_eq_true rfl⟩ ⟨Nat.le_of_ble_eq_true rfl, Nat.le_of_ble_eq_true rfl⟩ dX7_addHand_28 rfl (Nat.le_of_ble_eq_true rfl) (fun E w' ad' h => by obtain ⟨rfl, hc, rfl, rfl⟩ := h; exact ⟨⟨⟨rfl, rfl⟩, by unfold kAddHand; rw [if_neg (fun z => z hkd), if_neg (fun z => z r1), if_neg (fun z => z r2), if_pos hc]; exact ⟨by decide, rfl⟩⟩, Nat.le_of_ble_eq_true rfl, Nat.le_of_ble_eq_true rfl⟩) (fun r w1 ad1 hp => ?_)
    obtain ⟨r3, rfl, rfl, rfl⟩ := hp
    refine z_aload_n O dX7_addHand_31 rfl ?_
    refine z_get O (fk := 1) (fun x h => zI x (zu_RX7 x h)) rfl (by decide) (zI _ zm3_64) dX7_addHand_32 (zg_x) rfl ?_
    refine z_get O (fk := 0) (fun x h => zI x (zu_RX6 x h)) rfl (by decide) (zI _ zm4_40) dX7_addHand_35 (zg_tr) rfl ?_
    refine z_callV O (c_size_l hl (i := 0) (by decide) hL0) zI zm4_16 zm1_46 zm1_47 zm0_31 zm1_19 ⟨rfl, by decide +kernel, by decide +kernel, (show _ = some 0 by decide +kernel)⟩ rfl ((zg_list0 (i := 0) (by decide) hL0)) ⟨Nat.le_of_ble_eq_true rfl, Nat.le_of_ble_eq_true rfl⟩ ⟨Nat.le_of_ble_eq_true rfl, Nat.le_of_ble_eq_true rfl⟩ dX7_addHand_38 rfl (Nat.le_of_ble_eq_true rfl) (fun _ _ _ h => h.elim) (fun r w1 ad1 hp => ?_)
    obtain ⟨rfl, rfl, rfl⟩ := hp
    rw [← hL0.1]
    refine z_bipush O dX7_addHand_41 (v := 12) (by decide) ?_
    refine z_icmp_lt O dX7_addHand_43 (tgt := 56) (by decide) (fun g => ?_) (fun g => ?_)
    · have hnot : ¬ 12 ≤ Z (25 + 0) 0 := Int32.not_le.mpr g
      refine z_aload_n O dX7_addHand_56 rfl ?_
      refine z_get O (fk := 1) (fun x h => zI x (zu_RX7 x h)) rfl (by decide) (zI _ zm3_64) dX7_addHand_57 (zg_x) rfl ?_
      refine z_get O (fk := 0) (fun x h => zI x (zu_RX6 x h)) rfl (by decide) (zI _ zm4_40) dX7_addHand_60 (zg_tr) rfl ?_
      have hn12 : zN Z 0 < 12 := by
        have := hnot
        rw [hL0.1] at this
        exact Nat.lt_of_not_le fun q => this ((nI_leI (by decide) (by have := hL0.2.2.2; omega)).mpr q)
      have hnone : (zent Z sb mcn cp G.2.2.2.1 Y th o od ad) (200 + 20 * 0 + zN Z 0) = none := zg_hand' (by decide) rfl (by omega)
      refine z_new O (w' := fun _ => wU (zent Z sb mcn cp G.2.2.2.1 Y th o od ad) (200 + 20 * 0 + zN Z 0) (.inr (5, [.int 0, .int 0, .int 0, .int 0, .int 0, .null]))) (200 + 20 * 0 + zN Z 0) (fun x h => zI x (zu_RX2 x h)) tyX2 tyX2_ok (zI _ zm5_29) (zI _ zm5_30) (zI _ zm1_57) (ci := 5) rfl (fun j hj => by rcases j with _ | _ | _ | _ | _ | _ | j <;> first | rfl | omega) (Nat.le_of_ble_eq_true rfl) (Nat.le_of_ble_eq_true rfl) dX7_addHand_63 hnone (fun _ => wU_eq) (fun q1 => ?_)
      obtain ⟨a1, ha1⟩ : ∃ z, z = va_up ad (200 + 20 * 0 + zN Z 0) q1 := ⟨_, rfl⟩
      rw [← ha1]
      have hk1 : ∀ j, j ≠ (200 + 20 * 0 + zN Z 0) → a1 j = ad j := fun j h => by rw [ha1]; exact zup_n h
      rw [← hk1 5 (by omega), ← hk1 0 (by omega)]
      refine zV.world (w' := wU (zent Z sb mcn cp G.2.2.2.1 Y th o od a1) (200 + 20 * 0 + zN Z 0) (.inr (5, [.int 0, .int 0, .int 0, .int 0, .int 0, .null]))) (ad' := a1) ?_ (fun H hR => hR.sim fun j x hj => by
        by_cases q : j = (200 + 20 * 0 + zN Z 0)
        · subst q; rw [wU_s] at hj ⊢; exact ⟨x, hj, zAl.rf⟩
        · rw [wU_n q] at hj ⊢; exact zent_ad G hk1 ⟨by omega, hL0.2.2.2, hL1.2.2.2, hL2.2.2.2⟩ hz2 hsb hcs j x hj)
      refine z_dup O dX7_addHand_66 rfl ?_
      refine z_iload_n O dX7_addHand_67 rfl ?_
      refine z_iload_n O dX7_addHand_68 rfl ?_
      refine z_iload_n O dX7_addHand_69 rfl ?_
      refine z_iload O dX7_addHand_70 rfl ?_
      refine z_callI O (c_X2_init hl (a := (200 + 20 * 0 + zN Z 0)) wU_s (c := x) hcz) zI zm5_33 zm5_34 zm1_57 zm2_40 rfl ⟨by decide +kernel, by decide +kernel, (show _ = some 4 by decide +kernel)⟩ ⟨Nat.le_of_ble_eq_true rfl, Nat.le_of_ble_eq_true rfl⟩ ⟨Nat.le_of_ble_eq_true rfl, Nat.le_of_ble_eq_true rfl⟩ dX7_addHand_72 rfl (Nat.le_of_ble_eq_true rfl) (fun r w1 ad1 hp => ?_)
      obtain ⟨rfl, rfl, rfl⟩ := hp
      rw [wU_wU]
      refine z_callV O (c_addL hl (C := "ClaqueRow$Hand") (i := 0) (n := zN Z 0) (cp := cp 0) (m0 := mcn 0) (by decide +kernel) (ci := 5) rfl (by decide) rfl ((wU_n (by omega)).trans (zg_list0 (by decide) hL0)) (fun q => ⟨(wU_n (by omega)).trans (zg_larr0 (by decide) q), by have := hL0.2.1; omega⟩) (fun q => (wU_n (by omega)).trans (zg_larr (by decide) q)) hcap hL0.2.1 (by omega) ((wU_n (by omega)).trans zg_350) (fun k hk => ⟨_, (wU_n (by omega)).trans (zg_hand hk (by omega))⟩) wU_s) zI zm5_35 zm5_36 zm5_37 zm0_31 zm5_26 ⟨rfl, by decide +kernel, by decide +kernel, (show _ = some 1 by decide +kernel)⟩ rfl ((wU_n (by omega)).trans (zg_list (by decide))) ⟨Nat.le_of_ble_eq_true rfl, Nat.le_of_ble_eq_true rfl⟩ ⟨Nat.le_of_ble_eq_true rfl, Nat.le_of_ble_eq_true rfl⟩ dX7_addHand_75 rfl (Nat.le_of_ble_eq_true rfl) (fun _ _ _ h => h.elim) (fun r w1 ad1 hp => ?_)
      obtain ⟨c9, q9, hc9, hn9, rfl, rfl, rfl⟩ := hp
      obtain ⟨a2, ha2⟩ : ∃ z, z = va_up a1 (8 + 0) q9 := ⟨_, rfl⟩
      have hk2 : ∀ j, j ≠ 8 + 0 → a2 j = a1 j := fun j h => by rw [ha2]; exact zup_n h
      refine zV.world (w' := zent (zAH Z (zN Z 0) x s q p) (va_up sb (zN Z 0) none) (va_up mcn 0 (mcn 0 + 1)) (va_up cp 0 c9) G.2.2.2.1 Y th o od a2) (ad' := a2) ?_ (fun H hR => by subst ha2; exact zw_hand hL0 hL1 hL2 (by omega) (by omega) hR)
      have hNn : zN (zAH Z (zN Z 0) x s q p) 0 = zN Z 0 + 1 := zN_hand (by omega)
      have hLn : zLst (zAH Z (zN Z 0) x s q p) (va_up cp 0 c9) 0 := by unfold zLst; rw [hNn, zup_s]; exact ⟨by simp [zAH, zu], hn9, by omega, by omega⟩
      rw [← hk2 0 (by decide)]
      refine z_pop O dX7_addHand_78 rfl ?_
      refine z_aload_n O dX7_addHand_79 rfl ?_
      refine z_get O (fk := 1) (fun x h => zI x (zu_RX7 x h)) rfl (by decide) (zI _ zm3_64) dX7_addHand_80 (zg_x) rfl ?_
      refine z_get O (fk := 0) (fun x h => zI x (zu_RX6 x h)) rfl (by decide) (zI _ zm4_40) dX7_addHand_83 (zg_tr) rfl ?_
      refine z_callV O (c_size_l hl (i := 0) (by decide) hLn) zI zm4_16 zm1_46 zm1_47 zm0_31 zm1_19 ⟨rfl, by decide +kernel, by decide +kernel, (show _ = some 0 by decide +kernel)⟩ rfl ((zg_list0 (i := 0) (by decide) hLn)) ⟨Nat.le_of_ble_eq_true rfl, Nat.le_of_ble_eq_true rfl⟩ ⟨Nat.le_of_ble_eq_true rfl, Nat.le_of_ble_eq_true rfl⟩ dX7_addHand_86 rfl (Nat.le_of_ble_eq_true rfl) (fun _ _ _ h => h.elim) (fun r w1 ad1 hp => ?_)
      obtain ⟨rfl, rfl, rfl⟩ := hp
      refine z_iconst O dX7_addHand_89 (v := 1) (by decide) ?_
      refine z_isub O dX7_addHand_90 ?_
      exact z_iret O dX7_addHand_91 (Nat.le_of_ble_eq_true rfl) (Nat.le_of_ble_eq_true rfl) (⟨c9, a2, hc9, hn9, by unfold kAddHand; rw [if_neg (fun z => z hkd), if_neg (fun z => z r1), if_neg (fun z => z r2), if_neg (fun z => z r3), if_neg hnot], by rw [hNn, ← nI_1, Int32.add_sub_cancel, hL0.1], rfl, rfl, fun j h1 h2 => (hk2 j h2).trans (hk1 j h1)⟩)
    · exact z_throw O (text := "there are 12 hands") zI (by decide +kernel) (by decide +kernel) zm5_27 zm5_28 zt_108 zbad_108 zok_108 (by decide +kernel) dX7_addHand_46 dX7_addHand_49 dX7_addHand_50 dX7_addHand_52 dX7_addHand_55 (Nat.le_of_ble_eq_true rfl) (Nat.le_of_ble_eq_true rfl) (Nat.le_of_ble_eq_true rfl) (Nat.le_of_ble_eq_true rfl) (Nat.le_of_ble_eq_true rfl) (Nat.le_of_ble_eq_true rfl) (⟨⟨rfl, rfl⟩, by unfold kAddHand; rw [if_neg (fun z => z hkd), if_neg (fun z => z r1), if_neg (fun z => z r2), if_neg (fun z => z r3), if_pos (Int32.not_lt.mp g)]; exact ⟨by decide, rfl⟩⟩)

set_option maxRecDepth 100000 in
set_option maxHeartbeats 4000000 in
theorem c_X7_addSinger {G : zG} {l : Launch} (hl : l.stackTraces = false) {Z : zM} {sb : Nat → Option Nat} {mcn : Nat → Int32} {cp : Nat → Nat} {Y : zM} {th : Int32} {o : Nat → Int64} {od : Nat → UInt64} {ad : Nat → Nat} (hL0 : zLst Z cp 0) (hL1 : zLst Z cp 1) (hL2 : zLst Z cp 2) (hz2 : ∀ k, k < 80 → ∀ j, zh (Z 2 k) = some j → j < zN Z 0) (hsb : ∀ j k, j < zN Z 0 → sb j = some k → k < 80) (hcs : ∀ c, c < zN Z 2 → (Z 19 c).toNatClampNeg < zN Z 1) (hcap : zCap cp 1) {x y : Int32} : zCt G l yX7_addSinger (zws yX7_addSinger cX7_addSinger 3 (some .int)) ({ frames := 7, cells := 7, slots := 60, locals := 200 }) [.ref (ad 0), .int x, .int y] (zent Z sb mcn cp G.2.2.2.1 Y th o od ad) ad (fun r w1 ad1 => ∃ c a2, (c = 10 ∨ c = 15) ∧ zN Z 1 + 1 ≤ c ∧ kAddSing Z x y = 0 ∧ some (.int (Z 26 0)) = r ∧ zent (zAS Z (zN Z 1) x y) sb (va_up mcn 1 (mcn 1 + 1)) (va_up cp 1 c) G.2.2.2.1 Y th o od a2 = w1 ∧ a2 = ad1 ∧ zAds (200 + 20 * 1 + zN Z 1) (8 + 1) ad a2) (zPX ["java/lang/IllegalArgumentException", "java/lang/IllegalStateException"] (kAddSing Z x y) (zent Z sb mcn cp G.2.2.2.1 Y th o od ad) ad) := by
  refine z_body hl (by decide +kernel) (Nat.le_of_ble_eq_true rfl) (fun X O => ?_)
  refine z_iload_n O dX7_addSinger_0 rfl ?_
  refine z_iconst O dX7_addSinger_1 (v := 0) (by decide) ?_
  refine z_sipush O dX7_addSinger_2 (v := 999) (by decide) ?_
  refine z_callS O (c_X7_checkRange hl (x := x) (a := 0) (b := 999)) zI zm4_19 zm4_20 zm4_21 zm4_8 ⟨by decide +kernel, by decide +kernel, (show _ = some 3 by decide +kernel)⟩ ⟨Nat.le_of_ble_eq_true rfl, Nat.le_of_ble_eq_true rfl⟩ ⟨Nat.le_of_ble_eq_true rfl, Nat.le_of_ble_eq_true rfl⟩ dX7_addSinger_5 rfl (Nat.le_of_ble_eq_true rfl) (fun E w' ad' h => by obtain ⟨rfl, hc, rfl, rfl⟩ := h; exact ⟨⟨⟨rfl, rfl⟩, by unfold kAddSing; rw [if_pos hc]; exact ⟨by decide, rfl⟩⟩, Nat.le_of_ble_eq_true rfl, Nat.le_of_ble_eq_true rfl⟩) (fun r w1 ad1 hp => ?_)
  obtain ⟨r1, rfl, rfl, rfl⟩ := hp
  refine z_iload_n O dX7_addSinger_8 rfl ?_
  refine z_iconst O dX7_addSinger_9 (v := 0) (by decide) ?_
  refine z_bipush O dX7_addSinger_10 (v := 99) (by decide) ?_
  refine z_callS O (c_X7_checkRange hl (x := y) (a := 0) (b := 99)) zI zm4_19 zm4_20 zm4_21 zm4_8 ⟨by decide +kernel, by decide +kernel, (show _ = some 3 by decide +kernel)⟩ ⟨Nat.le_of_ble_eq_true rfl, Nat.le_of_ble_eq_true rfl⟩ ⟨Nat.le_of_ble_eq_true rfl, Nat.le_of_ble_eq_true rfl⟩ dX7_addSinger_12 rfl (Nat.le_of_ble_eq_true rfl) (fun E w' ad' h => by obtain ⟨rfl, hc, rfl, rfl⟩ := h; exact ⟨⟨⟨rfl, rfl⟩, by unfold kAddSing; rw [if_neg (fun z => z r1), if_pos hc]; exact ⟨by decide, rfl⟩⟩, Nat.le_of_ble_eq_true rfl, Nat.le_of_ble_eq_true rfl⟩) (fun r w1 ad1 hp => ?_)
  obtain ⟨r2, rfl, rfl, rfl⟩ := hp
  refine z_aload_n O dX7_addSinger_15 rfl ?_
  refine z_get O (fk := 2) (fun x h => zI x (zu_RX7 x h)) rfl (by decide) (zI _ zm3_66) dX7_addSinger_16 (zg_x) rfl ?_
  refine z_callV O (c_size_l hl (i := 1) (by decide) hL1) zI zm4_16 zm1_46 zm1_47 zm0_31 zm1_19 ⟨rfl, by decide +kernel, by decide +kernel, (show _ = some 0 by decide +kernel)⟩ rfl ((zg_list0 (i := 1) (by decide) hL1)) ⟨Nat.le_of_ble_eq_true rfl, Nat.le_of_ble_eq_true rfl⟩ ⟨Nat.le_of_ble_eq_true rfl, Nat.le_of_ble_eq_true rfl⟩ dX7_addSinger_19 rfl (Nat.le_of_ble_eq_true rfl) (fun _ _ _ h => h.elim) (fun r w1 ad1 hp => ?_)
  obtain ⟨rfl, rfl, rfl⟩ := hp
  rw [← hL1.1]
  refine z_bipush O dX7_addSinger_22 (v := 6) (by decide) ?_
  refine z_icmp_lt O dX7_addSinger_24 (tgt := 37) (by decide) (fun g => ?_) (fun g => ?_)
  · have hnot : ¬ 6 ≤ Z (25 + 1) 0 := Int32.not_le.mpr g
    refine z_aload_n O dX7_addSinger_37 rfl ?_
    refine z_get O (fk := 2) (fun x h => zI x (zu_RX7 x h)) rfl (by decide) (zI _ zm3_66) dX7_addSinger_38 (zg_x) rfl ?_
    have hn12 : zN Z 1 < 6 := by
      have := hnot
      rw [hL1.1] at this
      exact Nat.lt_of_not_le fun q => this ((nI_leI (by decide) (by have := hL1.2.2.2; omega)).mpr q)
    have hnone : (zent Z sb mcn cp G.2.2.2.1 Y th o od ad) (200 + 20 * 1 + zN Z 1) = none := zg_hand' (by decide) rfl (by omega)
    refine z_new O (w' := fun _ => wU (zent Z sb mcn cp G.2.2.2.1 Y th o od ad) (200 + 20 * 1 + zN Z 1) (.inr (8, [.int 0, .int 0, .int 0, .int 0]))) (200 + 20 * 1 + zN Z 1) (fun x h => zI x (zu_RX5 x h)) tyX5 tyX5_ok (zI _ zm5_40) (zI _ zm5_41) (zI _ zm5_42) (ci := 8) rfl (fun j hj => by rcases j with _ | _ | _ | _ | _ | _ | j <;> first | rfl | omega) (Nat.le_of_ble_eq_true rfl) (Nat.le_of_ble_eq_true rfl) dX7_addSinger_41 hnone (fun _ => wU_eq) (fun q1 => ?_)
    obtain ⟨a1, ha1⟩ : ∃ z, z = va_up ad (200 + 20 * 1 + zN Z 1) q1 := ⟨_, rfl⟩
    rw [← ha1]
    have hk1 : ∀ j, j ≠ (200 + 20 * 1 + zN Z 1) → a1 j = ad j := fun j h => by rw [ha1]; exact zup_n h
    rw [← hk1 6 (by omega), ← hk1 0 (by omega)]
    refine zV.world (w' := wU (zent Z sb mcn cp G.2.2.2.1 Y th o od a1) (200 + 20 * 1 + zN Z 1) (.inr (8, [.int 0, .int 0, .int 0, .int 0]))) (ad' := a1) ?_ (fun H hR => hR.sim fun j x hj => by
      by_cases q : j = (200 + 20 * 1 + zN Z 1)
      · subst q; rw [wU_s] at hj ⊢; exact ⟨x, hj, zAl.rf⟩
      · rw [wU_n q] at hj ⊢; exact zent_ad G hk1 ⟨by omega, hL0.2.2.2, hL1.2.2.2, hL2.2.2.2⟩ hz2 hsb hcs j x hj)
    refine z_dup O dX7_addSinger_44 rfl ?_
    refine z_iload_n O dX7_addSinger_45 rfl ?_
    refine z_iload_n O dX7_addSinger_46 rfl ?_
    refine z_callI O (c_X5_init hl (a := (200 + 20 * 1 + zN Z 1)) wU_s (x := x) (y := y)) zI zm5_43 zm5_44 zm5_42 zm3_7 rfl ⟨by decide +kernel, by decide +kernel, (show _ = some 2 by decide +kernel)⟩ ⟨Nat.le_of_ble_eq_true rfl, Nat.le_of_ble_eq_true rfl⟩ ⟨Nat.le_of_ble_eq_true rfl, Nat.le_of_ble_eq_true rfl⟩ dX7_addSinger_47 rfl (Nat.le_of_ble_eq_true rfl) (fun r w1 ad1 hp => ?_)
    obtain ⟨rfl, rfl, rfl⟩ := hp
    rw [wU_wU]
    refine z_callV O (c_addL hl (C := "ClaqueRow$Singer") (i := 1) (n := zN Z 1) (cp := cp 1) (m0 := mcn 1) (by decide +kernel) (ci := 8) rfl (by decide) rfl ((wU_n (by omega)).trans (zg_list0 (by decide) hL1)) (fun q => ⟨(wU_n (by omega)).trans (zg_larr0 (by decide) q), by have := hL1.2.1; omega⟩) (fun q => (wU_n (by omega)).trans (zg_larr (by decide) q)) hcap hL1.2.1 (by omega) ((wU_n (by omega)).trans zg_350) (fun k hk => ⟨_, (wU_n (by omega)).trans (zg_singer hk (by omega))⟩) wU_s) zI zm5_35 zm5_36 zm5_37 zm0_31 zm5_26 ⟨rfl, by decide +kernel, by decide +kernel, (show _ = some 1 by decide +kernel)⟩ rfl ((wU_n (by omega)).trans (zg_list (by decide))) ⟨Nat.le_of_ble_eq_true rfl, Nat.le_of_ble_eq_true rfl⟩ ⟨Nat.le_of_ble_eq_true rfl, Nat.le_of_ble_eq_true rfl⟩ dX7_addSinger_50 rfl (Nat.le_of_ble_eq_true rfl) (fun _ _ _ h => h.elim) (fun r w1 ad1 hp => ?_)
    obtain ⟨c9, q9, hc9, hn9, rfl, rfl, rfl⟩ := hp
    obtain ⟨a2, ha2⟩ : ∃ z, z = va_up a1 (8 + 1) q9 := ⟨_, rfl⟩
    have hk2 : ∀ j, j ≠ 8 + 1 → a2 j = a1 j := fun j h => by rw [ha2]; exact zup_n h
    refine zV.world (w' := zent (zAS Z (zN Z 1) x y) sb (va_up mcn 1 (mcn 1 + 1)) (va_up cp 1 c9) G.2.2.2.1 Y th o od a2) (ad' := a2) ?_ (fun H hR => by subst ha2; exact zw_singer hL0 hL1 hL2 (by omega) (by omega) hR)
    have hNn : zN (zAS Z (zN Z 1) x y) 1 = zN Z 1 + 1 := zN_singer (by omega)
    have hLn : zLst (zAS Z (zN Z 1) x y) (va_up cp 1 c9) 1 := by unfold zLst; rw [hNn, zup_s]; exact ⟨by simp [zAS, zu], hn9, by omega, by omega⟩
    rw [← hk2 0 (by decide)]
    refine z_pop O dX7_addSinger_53 rfl ?_
    refine z_aload_n O dX7_addSinger_54 rfl ?_
    refine z_get O (fk := 2) (fun x h => zI x (zu_RX7 x h)) rfl (by decide) (zI _ zm3_66) dX7_addSinger_55 (zg_x) rfl ?_
    refine z_callV O (c_size_l hl (i := 1) (by decide) hLn) zI zm4_16 zm1_46 zm1_47 zm0_31 zm1_19 ⟨rfl, by decide +kernel, by decide +kernel, (show _ = some 0 by decide +kernel)⟩ rfl ((zg_list0 (i := 1) (by decide) hLn)) ⟨Nat.le_of_ble_eq_true rfl, Nat.le_of_ble_eq_true rfl⟩ ⟨Nat.le_of_ble_eq_true rfl, Nat.le_of_ble_eq_true rfl⟩ dX7_addSinger_58 rfl (Nat.le_of_ble_eq_true rfl) (fun _ _ _ h => h.elim) (fun r w1 ad1 hp => ?_)
    obtain ⟨rfl, rfl, rfl⟩ := hp
    refine z_iconst O dX7_addSinger_61 (v := 1) (by decide) ?_
    refine z_isub O dX7_addSinger_62 ?_
    exact z_iret O dX7_addSinger_63 (Nat.le_of_ble_eq_true rfl) (Nat.le_of_ble_eq_true rfl) (⟨c9, a2, hc9, hn9, by unfold kAddSing; rw [if_neg (fun z => z r1), if_neg (fun z => z r2), if_neg hnot], by rw [hNn, ← nI_1, Int32.add_sub_cancel, hL1.1], rfl, rfl, fun j h1 h2 => (hk2 j h2).trans (hk1 j h1)⟩)
  · exact z_throw O (text := "there are 6 singers") zI (by decide +kernel) (by decide +kernel) zm5_27 zm5_28 zt_108 zbad_108 zok_108 (by decide +kernel) dX7_addSinger_27 dX7_addSinger_30 dX7_addSinger_31 dX7_addSinger_33 dX7_addSinger_36 (Nat.le_of_ble_eq_true rfl) (Nat.le_of_ble_eq_true rfl) (Nat.le_of_ble_eq_true rfl) (Nat.le_of_ble_eq_true rfl) (Nat.le_of_ble_eq_true rfl) (Nat.le_of_ble_eq_true rfl) (⟨⟨rfl, rfl⟩, by unfold kAddSing; rw [if_neg (fun z => z r1), if_neg (fun z => z r2), if_pos (Int32.not_lt.mp g)]; exact ⟨by decide, rfl⟩⟩)

set_option maxRecDepth 100000 in
set_option maxHeartbeats 4000000 in
theorem c_X7_addCue {G : zG} {l : Launch} (hl : l.stackTraces = false) {Z : zM} {sb : Nat → Option Nat} {mcn : Nat → Int32} {cp : Nat → Nat} {Y : zM} {th : Int32} {o : Nat → Int64} {od : Nat → UInt64} {ad : Nat → Nat} (hL0 : zLst Z cp 0) (hL1 : zLst Z cp 1) (hL2 : zLst Z cp 2) (hz2 : ∀ k, k < 80 → ∀ j, zh (Z 2 k) = some j → j < zN Z 0) (hsb : ∀ j k, j < zN Z 0 → sb j = some k → k < 80) (hcs : ∀ c, c < zN Z 2 → (Z 19 c).toNatClampNeg < zN Z 1) (hcap : zCap cp 2) {s x t f m : Int32} (hcz : zChr x) : zCt G l yX7_addCue (zws yX7_addCue cX7_addCue 7 (some .int)) ({ frames := 7, cells := 9, slots := 60, locals := 200 }) [.ref (ad 0), .int s, .int x, .int t, .int f, .int m] (zent Z sb mcn cp G.2.2.2.1 Y th o od ad) ad (fun r w1 ad1 => ∃ c a2, (c = 10 ∨ c = 15) ∧ zN Z 2 + 1 ≤ c ∧ kAddCue Z s x t f m = 0 ∧ some (.int (Z 27 0)) = r ∧ zent (zAC Z (zN Z 2) s x t f m) sb (va_up mcn 2 (mcn 2 + 1)) (va_up cp 2 c) G.2.2.2.1 Y th o od a2 = w1 ∧ a2 = ad1 ∧ zAds (200 + 20 * 2 + zN Z 2) (8 + 2) ad a2) (zPX ["java/lang/IndexOutOfBoundsException", "java/lang/IllegalArgumentException", "java/lang/UnsupportedOperationException", "java/lang/IllegalStateException"] (kAddCue Z s x t f m) (zent Z sb mcn cp G.2.2.2.1 Y th o od ad) ad) := by
  refine z_body hl (by decide +kernel) (Nat.le_of_ble_eq_true rfl) (fun X O => ?_)
  refine z_aload_n O dX7_addCue_0 rfl ?_
  refine z_iload_n O dX7_addCue_1 rfl ?_
  refine z_callV O (c_X7_existingSinger hl hL1 (x := s)) zI zm5_51 zm5_52 zm5_53 zm4_21 zm5_46 ⟨rfl, by decide +kernel, by decide +kernel, (show _ = some 1 by decide +kernel)⟩ rfl (zg_x) ⟨Nat.le_of_ble_eq_true rfl, Nat.le_of_ble_eq_true rfl⟩ ⟨Nat.le_of_ble_eq_true rfl, Nat.le_of_ble_eq_true rfl⟩ dX7_addCue_2 rfl (Nat.le_of_ble_eq_true rfl) (fun E w' ad' h => by obtain ⟨rfl, hc, rfl, rfl⟩ := h; exact ⟨⟨⟨rfl, rfl⟩, by unfold kAddCue; rw [if_pos hc]; exact ⟨by decide, rfl⟩⟩, Nat.le_of_ble_eq_true rfl, Nat.le_of_ble_eq_true rfl⟩) (fun r w1 ad1 hp => ?_)
  obtain ⟨j, rfl, hj, hj20, rfl, rfl, rfl⟩ := hp
  have hcl : (nI j).toNatClampNeg = j := nI_clamp (by omega)
  have hin := fI_in hL1 hj
  refine z_astore O dX7_addCue_5 (by decide) ?_
  refine z_iload_n O dX7_addCue_7 rfl ?_
  refine z_callS O (c_X7_checkCueKind hl (x := x)) zI zm5_31 zm5_32 zm4_21 zm4_54 ⟨by decide +kernel, by decide +kernel, (show _ = some 1 by decide +kernel)⟩ ⟨Nat.le_of_ble_eq_true rfl, Nat.le_of_ble_eq_true rfl⟩ ⟨Nat.le_of_ble_eq_true rfl, Nat.le_of_ble_eq_true rfl⟩ dX7_addCue_8 rfl (Nat.le_of_ble_eq_true rfl) (fun E w' ad' h => by obtain ⟨rfl, hc, rfl, rfl⟩ := h; exact ⟨⟨⟨rfl, rfl⟩, by unfold kAddCue; rw [if_neg (fun z => z hin), if_pos hc]; exact ⟨by decide, rfl⟩⟩, Nat.le_of_ble_eq_true rfl, Nat.le_of_ble_eq_true rfl⟩) (fun r w1 ad1 hp => ?_)
  obtain ⟨r0, rfl, rfl, rfl⟩ := hp
  refine z_iload_n O dX7_addCue_11 rfl ?_
  refine z_iconst O dX7_addCue_12 (v := 0) (by decide) ?_
  refine z_sipush O dX7_addCue_13 (v := 299) (by decide) ?_
  refine z_callS O (c_X7_checkRange hl (x := t) (a := 0) (b := 299)) zI zm4_19 zm4_20 zm4_21 zm4_8 ⟨by decide +kernel, by decide +kernel, (show _ = some 3 by decide +kernel)⟩ ⟨Nat.le_of_ble_eq_true rfl, Nat.le_of_ble_eq_true rfl⟩ ⟨Nat.le_of_ble_eq_true rfl, Nat.le_of_ble_eq_true rfl⟩ dX7_addCue_16 rfl (Nat.le_of_ble_eq_true rfl) (fun E w' ad' h => by obtain ⟨rfl, hc, rfl, rfl⟩ := h; exact ⟨⟨⟨rfl, rfl⟩, by unfold kAddCue; rw [if_neg (fun z => z hin), if_neg (fun z => z r0), if_pos hc]; exact ⟨by decide, rfl⟩⟩, Nat.le_of_ble_eq_true rfl, Nat.le_of_ble_eq_true rfl⟩) (fun r w1 ad1 hp => ?_)
  obtain ⟨r1, rfl, rfl, rfl⟩ := hp
  refine z_iload O dX7_addCue_19 rfl ?_
  refine z_iconst O dX7_addCue_21 (v := 1) (by decide) ?_
  refine z_iconst O dX7_addCue_22 (v := 3) (by decide) ?_
  refine z_callS O (c_X7_checkRange hl (x := f) (a := 1) (b := 3)) zI zm4_19 zm4_20 zm4_21 zm4_8 ⟨by decide +kernel, by decide +kernel, (show _ = some 3 by decide +kernel)⟩ ⟨Nat.le_of_ble_eq_true rfl, Nat.le_of_ble_eq_true rfl⟩ ⟨Nat.le_of_ble_eq_true rfl, Nat.le_of_ble_eq_true rfl⟩ dX7_addCue_23 rfl (Nat.le_of_ble_eq_true rfl) (fun E w' ad' h => by obtain ⟨rfl, hc, rfl, rfl⟩ := h; exact ⟨⟨⟨rfl, rfl⟩, by unfold kAddCue; rw [if_neg (fun z => z hin), if_neg (fun z => z r0), if_neg (fun z => z r1), if_pos hc]; exact ⟨by decide, rfl⟩⟩, Nat.le_of_ble_eq_true rfl, Nat.le_of_ble_eq_true rfl⟩) (fun r w1 ad1 hp => ?_)
  obtain ⟨r2, rfl, rfl, rfl⟩ := hp
  refine z_iload O dX7_addCue_26 rfl ?_
  refine z_iconst O dX7_addCue_28 (v := 1) (by decide) ?_
  refine z_bipush O dX7_addCue_29 (v := 30) (by decide) ?_
  refine z_callS O (c_X7_checkRange hl (x := m) (a := 1) (b := 30)) zI zm4_19 zm4_20 zm4_21 zm4_8 ⟨by decide +kernel, by decide +kernel, (show _ = some 3 by decide +kernel)⟩ ⟨Nat.le_of_ble_eq_true rfl, Nat.le_of_ble_eq_true rfl⟩ ⟨Nat.le_of_ble_eq_true rfl, Nat.le_of_ble_eq_true rfl⟩ dX7_addCue_31 rfl (Nat.le_of_ble_eq_true rfl) (fun E w' ad' h => by obtain ⟨rfl, hc, rfl, rfl⟩ := h; exact ⟨⟨⟨rfl, rfl⟩, by unfold kAddCue; rw [if_neg (fun z => z hin), if_neg (fun z => z r0), if_neg (fun z => z r1), if_neg (fun z => z r2), if_pos hc]; exact ⟨by decide, rfl⟩⟩, Nat.le_of_ble_eq_true rfl, Nat.le_of_ble_eq_true rfl⟩) (fun r w1 ad1 hp => ?_)
  obtain ⟨r3, rfl, rfl, rfl⟩ := hp
  refine z_iload_n O dX7_addCue_34 rfl ?_
  refine z_aload_n O dX7_addCue_35 rfl ?_
  refine z_get O (fk := 3) (fun x h => zI x (zu_RX7 x h)) rfl (by decide) (zI _ zm3_69) dX7_addCue_36 (zg_x) rfl ?_
  refine z_get O (fk := 2) (fun x h => zI x (zu_RX1 x h)) rfl (by decide) (zI _ zm5_47) dX7_addCue_39 (zg_ev) rfl ?_
  refine z_icmp_ge O dX7_addCue_42 (tgt := 55) (by decide) (fun hlt => ?_) (fun hlt => ?_)
  · refine z_aload_n O dX7_addCue_55 rfl ?_
    refine z_get O (fk := 3) (fun x h => zI x (zu_RX7 x h)) rfl (by decide) (zI _ zm3_69) dX7_addCue_56 (zg_x) rfl ?_
    refine z_get O (fk := 0) (fun x h => zI x (zu_RX1 x h)) rfl (by decide) (zI _ zm5_48) dX7_addCue_59 (zg_ev) rfl ?_
    refine z_callV O (c_size_l hl (i := 2) (by decide) hL2) zI zm4_16 zm1_46 zm1_47 zm0_31 zm1_19 ⟨rfl, by decide +kernel, by decide +kernel, (show _ = some 0 by decide +kernel)⟩ rfl ((zg_list0 (i := 2) (by decide) hL2)) ⟨Nat.le_of_ble_eq_true rfl, Nat.le_of_ble_eq_true rfl⟩ ⟨Nat.le_of_ble_eq_true rfl, Nat.le_of_ble_eq_true rfl⟩ dX7_addCue_62 rfl (Nat.le_of_ble_eq_true rfl) (fun _ _ _ h => h.elim) (fun r w1 ad1 hp => ?_)
    obtain ⟨rfl, rfl, rfl⟩ := hp
    rw [← hL2.1]
    refine z_bipush O dX7_addCue_65 (v := 12) (by decide) ?_
    refine z_icmp_lt O dX7_addCue_67 (tgt := 80) (by decide) (fun g => ?_) (fun g => ?_)
    · have hnot : ¬ 12 ≤ Z (25 + 2) 0 := Int32.not_le.mpr g
      refine z_aload_n O dX7_addCue_80 rfl ?_
      refine z_get O (fk := 3) (fun x h => zI x (zu_RX7 x h)) rfl (by decide) (zI _ zm3_69) dX7_addCue_81 (zg_x) rfl ?_
      refine z_get O (fk := 0) (fun x h => zI x (zu_RX1 x h)) rfl (by decide) (zI _ zm5_48) dX7_addCue_84 (zg_ev) rfl ?_
      have hn12 : zN Z 2 < 12 := by
        have := hnot
        rw [hL2.1] at this
        exact Nat.lt_of_not_le fun q => this ((nI_leI (by decide) (by have := hL2.2.2.2; omega)).mpr q)
      have hnone : (zent Z sb mcn cp G.2.2.2.1 Y th o od ad) (200 + 20 * 2 + zN Z 2) = none := zg_hand' (by decide) rfl (by omega)
      refine z_new O (w' := fun _ => wU (zent Z sb mcn cp G.2.2.2.1 Y th o od ad) (200 + 20 * 2 + zN Z 2) (.inr (3, [.null, .int 0, .int 0, .int 0, .int 0]))) (200 + 20 * 2 + zN Z 2) (fun x h => zI x (zu_RX0 x h)) tyX0 tyX0_ok (zI _ zm5_49) (zI _ zm5_50) (zI _ zm0_14) (ci := 3) rfl (fun j hj => by rcases j with _ | _ | _ | _ | _ | _ | j <;> first | rfl | omega) (Nat.le_of_ble_eq_true rfl) (Nat.le_of_ble_eq_true rfl) dX7_addCue_87 hnone (fun _ => wU_eq) (fun q1 => ?_)
      obtain ⟨a1, ha1⟩ : ∃ z, z = va_up ad (200 + 20 * 2 + zN Z 2) q1 := ⟨_, rfl⟩
      rw [← ha1]
      have hk1 : ∀ j, j ≠ (200 + 20 * 2 + zN Z 2) → a1 j = ad j := fun j h => by rw [ha1]; exact zup_n h
      rw [← hk1 7 (by omega), ← hk1 0 (by omega), ← hk1 (220 + j) (by omega)]
      refine zV.world (w' := wU (zent Z sb mcn cp G.2.2.2.1 Y th o od a1) (200 + 20 * 2 + zN Z 2) (.inr (3, [.null, .int 0, .int 0, .int 0, .int 0]))) (ad' := a1) ?_ (fun H hR => hR.sim fun j x hj => by
        by_cases q : j = (200 + 20 * 2 + zN Z 2)
        · subst q; rw [wU_s] at hj ⊢; exact ⟨x, hj, zAl.rf⟩
        · rw [wU_n q] at hj ⊢; exact zent_ad G hk1 ⟨by omega, hL0.2.2.2, hL1.2.2.2, hL2.2.2.2⟩ hz2 hsb hcs j x hj)
      refine z_dup O dX7_addCue_90 rfl ?_
      refine z_aload O dX7_addCue_91 rfl ?_
      refine z_iload_n O dX7_addCue_93 rfl ?_
      refine z_iload_n O dX7_addCue_94 rfl ?_
      refine z_iload O dX7_addCue_95 rfl ?_
      refine z_iload O dX7_addCue_97 rfl ?_
      refine z_callI O (c_X0_init hl (a := (200 + 20 * 2 + zN Z 2)) wU_s (r0 := a1 (220 + j)) (c := x) hcz) zI zm5_54 zm5_55 zm0_14 zm0_0 rfl ⟨by decide +kernel, by decide +kernel, (show _ = some 5 by decide +kernel)⟩ ⟨Nat.le_of_ble_eq_true rfl, Nat.le_of_ble_eq_true rfl⟩ ⟨Nat.le_of_ble_eq_true rfl, Nat.le_of_ble_eq_true rfl⟩ dX7_addCue_99 rfl (Nat.le_of_ble_eq_true rfl) (fun r w1 ad1 hp => ?_)
      obtain ⟨rfl, rfl, rfl⟩ := hp
      rw [wU_wU]
      refine z_callV O (c_addL hl (C := "ClaqueRow$Cue") (i := 2) (n := zN Z 2) (cp := cp 2) (m0 := mcn 2) (by decide +kernel) (ci := 3) rfl (by decide) rfl ((wU_n (by omega)).trans (zg_list0 (by decide) hL2)) (fun q => ⟨(wU_n (by omega)).trans (zg_larr0 (by decide) q), by have := hL2.2.1; omega⟩) (fun q => (wU_n (by omega)).trans (zg_larr (by decide) q)) hcap hL2.2.1 (by omega) ((wU_n (by omega)).trans zg_350) (fun k hk => ⟨_, (wU_n (by omega)).trans (zg_cue hk (by omega))⟩) wU_s) zI zm5_35 zm5_36 zm5_37 zm0_31 zm5_26 ⟨rfl, by decide +kernel, by decide +kernel, (show _ = some 1 by decide +kernel)⟩ rfl ((wU_n (by omega)).trans (zg_list (by decide))) ⟨Nat.le_of_ble_eq_true rfl, Nat.le_of_ble_eq_true rfl⟩ ⟨Nat.le_of_ble_eq_true rfl, Nat.le_of_ble_eq_true rfl⟩ dX7_addCue_102 rfl (Nat.le_of_ble_eq_true rfl) (fun _ _ _ h => h.elim) (fun r w1 ad1 hp => ?_)
      obtain ⟨c9, q9, hc9, hn9, rfl, rfl, rfl⟩ := hp
      obtain ⟨a2, ha2⟩ : ∃ z, z = va_up a1 (8 + 2) q9 := ⟨_, rfl⟩
      have hk2 : ∀ j, j ≠ 8 + 2 → a2 j = a1 j := fun j h => by rw [ha2]; exact zup_n h
      refine zV.world (w' := zent (zAC Z (zN Z 2) (nI j) x t f m) sb (va_up mcn 2 (mcn 2 + 1)) (va_up cp 2 c9) G.2.2.2.1 Y th o od a2) (ad' := a2) ?_ (fun H hR => by subst ha2; exact zw_cue hL0 hL1 hL2 (by omega) (by omega) hcl hR)
      have hNn : zN (zAC Z (zN Z 2) (nI j) x t f m) 2 = zN Z 2 + 1 := zN_cue (by omega)
      have hLn : zLst (zAC Z (zN Z 2) (nI j) x t f m) (va_up cp 2 c9) 2 := by unfold zLst; rw [hNn, zup_s]; exact ⟨by simp [zAC, zu], hn9, by omega, by omega⟩
      rw [← hk2 0 (by decide)]
      refine z_pop O dX7_addCue_105 rfl ?_
      refine z_aload_n O dX7_addCue_106 rfl ?_
      refine z_get O (fk := 3) (fun x h => zI x (zu_RX7 x h)) rfl (by decide) (zI _ zm3_69) dX7_addCue_107 (zg_x) rfl ?_
      refine z_get O (fk := 0) (fun x h => zI x (zu_RX1 x h)) rfl (by decide) (zI _ zm5_48) dX7_addCue_110 (zg_ev) rfl ?_
      refine z_callV O (c_size_l hl (i := 2) (by decide) hLn) zI zm4_16 zm1_46 zm1_47 zm0_31 zm1_19 ⟨rfl, by decide +kernel, by decide +kernel, (show _ = some 0 by decide +kernel)⟩ rfl ((zg_list0 (i := 2) (by decide) hLn)) ⟨Nat.le_of_ble_eq_true rfl, Nat.le_of_ble_eq_true rfl⟩ ⟨Nat.le_of_ble_eq_true rfl, Nat.le_of_ble_eq_true rfl⟩ dX7_addCue_113 rfl (Nat.le_of_ble_eq_true rfl) (fun _ _ _ h => h.elim) (fun r w1 ad1 hp => ?_)
      obtain ⟨rfl, rfl, rfl⟩ := hp
      refine z_iconst O dX7_addCue_116 (v := 1) (by decide) ?_
      refine z_isub O dX7_addCue_117 ?_
      exact z_iret O dX7_addCue_118 (Nat.le_of_ble_eq_true rfl) (Nat.le_of_ble_eq_true rfl) (⟨c9, a2, hc9, hn9, by unfold kAddCue; rw [if_neg (fun z => z hin), if_neg (fun z => z r0), if_neg (fun z => z r1), if_neg (fun z => z r2), if_neg (fun z => z r3), if_neg (Int32.not_lt.mpr hlt), if_neg hnot], by rw [hNn, ← nI_1, Int32.add_sub_cancel, hL2.1], rfl, rfl, fun j h1 h2 => (hk2 j h2).trans (hk1 j h1)⟩)
    · exact z_throw O (text := "there are 12 cues") zI (by decide +kernel) (by decide +kernel) zm5_27 zm5_28 zt_108 zbad_108 zok_108 (by decide +kernel) dX7_addCue_70 dX7_addCue_73 dX7_addCue_74 dX7_addCue_76 dX7_addCue_79 (Nat.le_of_ble_eq_true rfl) (Nat.le_of_ble_eq_true rfl) (Nat.le_of_ble_eq_true rfl) (Nat.le_of_ble_eq_true rfl) (Nat.le_of_ble_eq_true rfl) (Nat.le_of_ble_eq_true rfl) (⟨⟨rfl, rfl⟩, by unfold kAddCue; rw [if_neg (fun z => z hin), if_neg (fun z => z r0), if_neg (fun z => z r1), if_neg (fun z => z r2), if_neg (fun z => z r3), if_neg (Int32.not_lt.mpr hlt), if_pos (Int32.not_lt.mp g)]; exact ⟨by decide, rfl⟩⟩)
  · exact z_throw O (text := "the tick has gone by") zI (by decide +kernel) (by decide +kernel) zm4_43 zm4_44 zt_82 zbad_82 zok_82 (by decide +kernel) dX7_addCue_45 dX7_addCue_48 dX7_addCue_49 dX7_addCue_51 dX7_addCue_54 (Nat.le_of_ble_eq_true rfl) (Nat.le_of_ble_eq_true rfl) (Nat.le_of_ble_eq_true rfl) (Nat.le_of_ble_eq_true rfl) (Nat.le_of_ble_eq_true rfl) (Nat.le_of_ble_eq_true rfl) (⟨⟨rfl, rfl⟩, by unfold kAddCue; rw [if_neg (fun z => z hin), if_neg (fun z => z r0), if_neg (fun z => z r1), if_neg (fun z => z r2), if_neg (fun z => z r3), if_pos (Int32.not_le.mp hlt)]; exact ⟨by decide, rfl⟩⟩)
