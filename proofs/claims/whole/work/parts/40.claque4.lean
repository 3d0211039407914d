theorem zBol_0 : zBol 0 := by unfold zBol; decide
theorem zBol_1 : zBol 1 := by unfold zBol; decide
theorem fSits_7 {Z : zM} {a b : Nat} (h : ∀ k, zBol (Z 7 k)) : ∀ k, zBol (fSits Z a b 7 k) := by
  intro k
  unfold fSits
  split
  · unfold fPay
    split
    · simpa [zu] using h k
    · simpa [zu] using h k
  · split
    · split
      · by_cases q : k = a * 10 + b
        · simpa [zu, q] using zBol_0
        · simpa [zu, q] using h k
      · by_cases q : k = a * 10 + b
        · simpa [zu, q] using zBol_1
        · simpa [zu, q] using h k
    · cases zh (Z 2 (a * 10 + b)) with
      | none => exact h k
      | some j => simpa [zu] using h k
theorem fTickRow_7 {Z : zM} {a : Nat} (h : ∀ k, zBol (Z 7 k)) : ∀ b k, zBol (fTickRow Z a b 7 k)
  | 0 => h
  | b + 1 => fSits_7 (fTickRow_7 h b)
theorem fTickRows_7 {Z : zM} {nc : Nat} (h : ∀ k, zBol (Z 7 k)) : ∀ a k, zBol (fTickRows Z nc a 7 k)
  | 0 => h
  | a + 1 => fTickRow_7 (fTickRows_7 h a) nc
theorem fHear_7 (Z : zM) (s : Int32) (k : Nat) : fHear Z s 7 k = Z 7 k := by
  unfold fHear
  split
  · simp [zu]
  · split
    · simp [zu]
    · unfold fCalled
      generalize fLast _ _ = q
      cases q <;> simp [zu]
theorem fTickEnd_7 (Z : zM) (k : Nat) : fTickEnd Z 7 k = Z 7 k := by
  unfold fTickEnd
  rw [zu_f (by decide)]
  unfold fJudge
  split
  · rw [zu_f (by decide), fHear_7]
  · rw [fHear_7]
def fT (Z : zM) : zM := fTick Z (Z 23 0).toNatClampNeg (Z 24 0).toNatClampNeg
theorem fT_7 {Z : zM} (h : ∀ k, zBol (Z 7 k)) : ∀ k, zBol (fT Z 7 k) := by
  intro k
  unfold fT fTick
  rw [fTickEnd_7]
  exact fTickRows_7 (fun k => by rw [fKeep_7]; exact h k) _ k
theorem zFr_T (Z : zM) : zFr Z (fT Z) := zFr_tick _ _ _
def fRun (Z : zM) : Nat → zM
  | 0 => Z
  | i + 1 => fT (fRun Z i)
theorem zFr_run (Z : zM) : ∀ i, zFr Z (fRun Z i)
  | 0 => zFr.rf
  | i + 1 => (zFr_run Z i).tr (zFr_T _)
theorem fRun_7 {Z : zM} (h : ∀ k, zBol (Z 7 k)) : ∀ i k, zBol (fRun Z i 7 k)
  | 0 => h
  | i + 1 => fT_7 (fRun_7 h i)
theorem zHouse_dim {Z : zM} (h : zHouse Z) : Z 23 0 = nI (Z 23 0).toNatClampNeg ∧ Z 24 0 = nI (Z 24 0).toNatClampNeg ∧ (Z 23 0).toNatClampNeg ≤ 8 ∧ (Z 24 0).toNatClampNeg ≤ 10 := by
  obtain ⟨nr, nc, h1, h2, h3, h4⟩ := h
  rw [h1, h2, nI_clamp (by omega), nI_clamp (by omega)]
  exact ⟨rfl, rfl, h3, h4⟩
theorem fR_nat {x : Int32} {b : Nat} (hb : b < 2 ^ 31) (h : fR x 1 (nI b)) : ∃ n, x = nI n ∧ n ≤ b := by
  obtain ⟨a, ha, rfl⟩ := nI_of (x := x) (fun z => absurd (Int32.le_trans h.1 (Int32.le_of_lt z)) (by decide))
  exact ⟨a, rfl, (nI_leI ha hb).mp h.2⟩
set_option maxRecDepth 100000 in
set_option maxHeartbeats 4000000 in
theorem c_X7_run {G : zG} {l : Launch} (hl : l.stackTraces = false) {Z : zM} {sb : Nat → Option Nat} {mcn : Nat → Int32} {cp : Nat → Nat} {Y : zM} {th : Int32} {o : Nat → Int64} {od : Nat → UInt64} {ad : Nat → Nat} (hv : zInv Z cp) (hb7 : ∀ k, zBol (Z 7 k)) {x : Int32} : zCt G l yX7_run (zws yX7_run cX7_run 3 (some .int)) ({ frames := 7, cells := 2, slots := 12, locals := 135 }) [.ref (ad 0), .int x] (zent Z sb mcn cp G.2.2.2.1 Y th o od ad) ad (fun r w1 ad1 => kRun Z x = 0 ∧ some (.int (fRun Z x.toNatClampNeg 29 0)) = r ∧ zent (fRun Z x.toNatClampNeg) sb mcn cp G.2.2.2.1 Y th o od ad = w1 ∧ ad = ad1) (zPX ["java/lang/IllegalArgumentException", "java/lang/IllegalStateException"] (kRun Z x) (zent Z sb mcn cp G.2.2.2.1 Y th o od ad) ad) := by
  refine z_body hl (by decide +kernel) (Nat.le_of_ble_eq_true rfl) (fun X O => ?_)
  refine z_iload_n O dX7_run_0 rfl ?_
  refine z_iconst O dX7_run_1 (v := 1) (by decide) ?_
  refine z_bipush O dX7_run_2 (v := 100) (by decide) ?_
  refine z_callS O (c_X7_checkRange hl (x := x) (a := 1) (b := 100)) zI zm4_19 zm4_20 zm4_21 zm4_8 ⟨by decide +kernel, by decide +kernel, (show _ = some 3 by decide +kernel)⟩ ⟨Nat.le_of_ble_eq_true rfl, Nat.le_of_ble_eq_true rfl⟩ ⟨Nat.le_of_ble_eq_true rfl, Nat.le_of_ble_eq_true rfl⟩ dX7_run_4 rfl (Nat.le_of_ble_eq_true rfl) (fun E w' ad' h => by obtain ⟨rfl, hc, rfl, rfl⟩ := h; exact ⟨⟨⟨rfl, rfl⟩, by unfold kRun; rw [if_pos hc]; exact ⟨by decide, rfl⟩⟩, Nat.le_of_ble_eq_true rfl, Nat.le_of_ble_eq_true rfl⟩) (fun r w1 ad1 hp => ?_)
  obtain ⟨hr, rfl, rfl, rfl⟩ := hp
  refine z_aload_n O dX7_run_7 rfl ?_
  refine z_callV O (c_X7_checkHouse hl) zI zm5_61 zm5_62 zm5_63 zm4_21 zm5_59 ⟨rfl, by decide +kernel, by decide +kernel, (show _ = some 0 by decide +kernel)⟩ rfl (zg_x) ⟨Nat.le_of_ble_eq_true rfl, Nat.le_of_ble_eq_true rfl⟩ ⟨Nat.le_of_ble_eq_true rfl, Nat.le_of_ble_eq_true rfl⟩ dX7_run_8 rfl (Nat.le_of_ble_eq_true rfl) (fun E w' ad' h => by obtain ⟨rfl, hc, rfl, rfl⟩ := h; exact ⟨⟨⟨rfl, rfl⟩, by unfold kRun; rw [if_neg (fun q => q hr), if_pos hc]; exact ⟨by decide, rfl⟩⟩, Nat.le_of_ble_eq_true rfl, Nat.le_of_ble_eq_true rfl⟩) (fun r w1 ad1 hp => ?_)
  obtain ⟨hhr, rfl, rfl, rfl⟩ := hp
  obtain ⟨t, rfl, ht⟩ := fR_nat (b := 100) (by decide) hr
  rw [nI_clamp (by omega)] at O
  have L : ∀ (n : Nat) (i : Nat), i ≤ t → t < i + n → zV G X 3 (0 + 1 + 1) (0 + 6 + 6) 13 [(0, .ref (ad 0)), (1, .int (nI t)), (2, .int (nI i))] [] (zent (fRun Z i) sb mcn cp G.2.2.2.1 Y th o od ad) ad := by
    intro n
    induction n with
    | zero => intro i h1 h2; omega
    | succ n ih =>
      intro i h1 h2
      have fA := zFr_run Z i
      have hvi := hv.fr fA
      obtain ⟨d1, d2, d3, d4⟩ := zHouse_dim hvi.1
      refine z_iload_n O dX7_run_13 rfl ?_
      refine z_iload_n O dX7_run_14 rfl ?_
      refine z_icmp_ge O dX7_run_15 (tgt := 35) (by decide) (fun g => ?_) (fun g => ?_)
      · have hi : i = t := by have := z_ge_ge (by omega) (by omega) g; omega
        subst hi
        refine z_aload_n O dX7_run_35 rfl ?_
        refine z_get O (fk := 3) (fun x h => zI x (zu_RX7 x h)) rfl (by decide) (zI _ zm3_69) dX7_run_36 (zg_x) rfl ?_
        refine z_get O (fk := 2) (fun x h => zI x (zu_RX1 x h)) rfl (by decide) (zI _ zm5_47) dX7_run_39 (zg_ev) rfl ?_
        exact z_iret O dX7_run_42 (Nat.le_of_ble_eq_true rfl) (Nat.le_of_ble_eq_true rfl) (⟨by unfold kRun; rw [if_neg (fun q => q hr), if_neg hhr], rfl, rfl, rfl⟩)
      · have hi : i < t := z_ge_lt (by omega) (by omega) g
        refine z_aload_n O dX7_run_18 rfl ?_
        refine z_get O (fk := 3) (fun x h => zI x (zu_RX7 x h)) rfl (by decide) (zI _ zm3_69) dX7_run_19 (zg_x) rfl ?_
        refine z_aload_n O dX7_run_22 rfl ?_
        refine z_get O (fk := 0) (fun x h => zI x (zu_RX7 x h)) rfl (by decide) (zI _ zm3_61) dX7_run_23 (zg_x) rfl ?_
        refine z_callV O (c_X1_passTick hl hvi (fun k hk => fRun_7 hb7 i k) d1 d2 d3 d4) zI zm5_64 zm5_65 zm5_66 zm1_44 zm2_38 ⟨rfl, by decide +kernel, by decide +kernel, (show _ = some 1 by decide +kernel)⟩ rfl (zg_ev) ⟨Nat.le_of_ble_eq_true rfl, Nat.le_of_ble_eq_true rfl⟩ ⟨Nat.le_of_ble_eq_true rfl, Nat.le_of_ble_eq_true rfl⟩ dX7_run_26 rfl (Nat.le_of_ble_eq_true rfl) (fun _ _ _ h => h.elim) (fun r w1 ad1 hp => ?_)
        obtain ⟨rfl, rfl, rfl⟩ := hp
        refine z_iincN O dX7_run_29 (a := i) rfl (by decide) ?_
        refine z_goto O dX7_run_32 (tgt := 13) (by decide) ?_
        exact zV.loc (ih (i + 1) (by omega) (by omega)) ⟨rfl, rfl, rfl, trivial⟩
  refine z_iconst O dX7_run_11 (v := 0) (by decide) ?_
  refine z_istore_n O dX7_run_12 (by decide) ?_
  exact zV.loc (L (t + 1) 0 (by omega) (by omega)) ⟨rfl, rfl, rfl, trivial⟩

def fDue (Z : zM) (k : Nat) : Int32 := if fSang Z k (zN Z 2) = true then Z 15 k + Z 16 k * Z 18 k else 0
def fBill (Z : zM) (k : Nat) : zM := zu Z 17 k (Z 17 k + fDue Z k)
theorem fSang_c {Z Z' : zM} (h1 : ∀ c, Z' 19 c = Z 19 c) (h2 : ∀ c, Z' 20 c = Z 20 c) (h3 : Z' 29 0 = Z 29 0) (k : Nat) : ∀ n, fSang Z' k n = fSang Z k n
  | 0 => rfl
  | n + 1 => by
    show (fSang Z' k n || _) = (fSang Z k n || _)
    rw [fSang_c h1 h2 h3 k n, h1, h2, h3]
theorem fBill_n {Z : zM} {f : Nat} (hf : f ≠ 17) : ∀ i k, fIter fBill Z i f k = Z f k
  | 0, _ => rfl
  | i + 1, k => by show zu _ 17 i _ f k = _; rw [zu_f hf]; exact fBill_n hf i k
theorem fDue_c {Z Z' : zM} (h : ∀ f k, f ≠ 17 → Z' f k = Z f k) (k : Nat) : fDue Z' k = fDue Z k := by
  unfold fDue
  rw [show zN Z' 2 = zN Z 2 by unfold zN; rw [h _ _ (by decide)], fSang_c (fun c => h _ _ (by decide)) (fun c => h _ _ (by decide)) (h _ _ (by decide)), h _ _ (by decide), h _ _ (by decide), h _ _ (by decide)]
set_option maxRecDepth 100000 in
set_option maxHeartbeats 4000000 in
theorem c_X7_billFor {G : zG} {l : Launch} (hl : l.stackTraces = false) {Z : zM} {sb : Nat → Option Nat} {mcn : Nat → Int32} {cp : Nat → Nat} {Y : zM} {th : Int32} {o : Nat → Int64} {od : Nat → UInt64} {ad : Nat → Nat} (hL2 : zLst Z cp 2) (hs : ∀ c, c < zN Z 2 → (Z 19 c).toNatClampNeg < zN Z 1) (hn1 : zN Z 1 ≤ 12) {k : Nat} (hk : k < zN Z 1) : zCt G l yX7_billFor (zws yX7_billFor cX7_billFor 3 (some .int)) ({ frames := 4, cells := 0, slots := 0, locals := 87 }) [.ref (ad 0), .ref (ad (220 + k))] (zent Z sb mcn cp G.2.2.2.1 Y th o od ad) ad (fun r w1 ad1 => some (.int (fDue Z k)) = r ∧ zent (fBill Z k) sb mcn cp G.2.2.2.1 Y th o od ad = w1 ∧ ad = ad1) (zNoX) := by
  refine z_body hl (by decide +kernel) (Nat.le_of_ble_eq_true rfl) (fun X O => ?_)
  have hk20 : k < 20 := by omega
  refine z_aload_n O dX7_billFor_0 rfl ?_
  refine z_get O (fk := 3) (fun x h => zI x (zu_RX7 x h)) rfl (by decide) (zI _ zm3_69) dX7_billFor_1 (zg_x) rfl ?_
  refine z_aload_n O dX7_billFor_4 rfl ?_
  refine z_callV O (c_X1_hasBegunCueFor hl hL2 hs hn1 hk) zI zm6_20 zm6_21 zm6_22 zm1_44 zm2_39 ⟨rfl, by decide +kernel, by decide +kernel, (show _ = some 1 by decide +kernel)⟩ rfl (zg_ev) ⟨Nat.le_of_ble_eq_true rfl, Nat.le_of_ble_eq_true rfl⟩ ⟨Nat.le_of_ble_eq_true rfl, Nat.le_of_ble_eq_true rfl⟩ dX7_billFor_5 rfl (Nat.le_of_ble_eq_true rfl) (fun _ _ _ h => h.elim) (fun r w1 ad1 hp => ?_)
  obtain ⟨rfl, rfl, rfl⟩ := hp
  by_cases hb : fSang Z k (zN Z 2) = true
  · rw [if_pos hb]
    refine z_if_ne O dX7_billFor_8 (tgt := 13) (by decide) (fun _ => ?_) (fun q => absurd q (by decide))
    refine z_aload_n O dX7_billFor_13 rfl ?_
    refine z_get O (fk := 0) (fun x h => zI x (zu_RX5 x h)) rfl (by decide) (zI _ zm6_17) dX7_billFor_14 (zg_singer hk hk20) rfl ?_
    refine z_aload_n O dX7_billFor_17 rfl ?_
    refine z_get O (fk := 1) (fun x h => zI x (zu_RX5 x h)) rfl (by decide) (zI _ zm6_18) dX7_billFor_18 (zg_singer hk hk20) rfl ?_
    refine z_aload_n O dX7_billFor_21 rfl ?_
    refine z_get O (fk := 2) (fun x h => zI x (zu_RX5 x h)) rfl (by decide) (zI _ zm4_12) dX7_billFor_22 (zg_singer hk hk20) rfl ?_
    refine z_imul O dX7_billFor_25 ?_
    refine z_iadd O dX7_billFor_26 ?_
    refine z_istore_n O dX7_billFor_27 (by decide) ?_
    refine z_aload_n O dX7_billFor_28 rfl ?_
    refine z_dup O dX7_billFor_29 rfl ?_
    refine z_get O (fk := 3) (fun x h => zI x (zu_RX5 x h)) rfl (by decide) (zI _ zm6_19) dX7_billFor_30 (zg_singer hk hk20) rfl ?_
    refine z_iload_n O dX7_billFor_33 rfl ?_
    refine z_iadd O dX7_billFor_34 ?_
    refine z_put O (fk := 3) (fun x h => zI x (zu_RX5 x h)) tyX5 tyX5_ok nmX5 rfl (by decide) (zI _ zm6_19) rfl dX7_billFor_35 rfl rfl (zg_singer hk hk20) (Nat.le_of_ble_eq_true rfl) (zp_singer_owed hk hk20) ?_
    refine z_iload_n O dX7_billFor_38 rfl ?_
    exact z_iret O dX7_billFor_39 (Nat.le_of_ble_eq_true rfl) (Nat.le_of_ble_eq_true rfl) (⟨by unfold fDue; rw [if_pos hb], by unfold fBill fDue; rw [if_pos hb], rfl⟩)
  · rw [if_neg hb]
    refine z_if_ne O dX7_billFor_8 (tgt := 13) (by decide) (fun q => absurd rfl q) (fun _ => ?_)
    refine z_iconst O dX7_billFor_11 (v := 0) (by decide) ?_
    exact z_iret O dX7_billFor_12 (Nat.le_of_ble_eq_true rfl) (Nat.le_of_ble_eq_true rfl) (⟨by unfold fDue; rw [if_neg hb], by unfold fBill fDue; rw [if_neg hb, zu_id (by rw [Int32.add_zero])], rfl⟩)

def fEnd (Z : zM) : zM := fRise (fIter fRest (fIter fBill Z (zN Z 1)) 80)
theorem fRest_n {Z : zM} {f : Nat} (hf : f ≠ 3 ∧ f ≠ 6 ∧ f ≠ 4 ∧ f ≠ 7) : ∀ i k, fIter fRest Z i f k = Z f k
  | 0, _ => rfl
  | i + 1, k => by
    show fRest _ i f k = _
    unfold fRest
    rw [zu_f hf.2.2.2, zu_f hf.2.2.1, zu_f hf.2.1, zu_f hf.1]
    exact fRest_n hf i k
set_option maxRecDepth 100000 in
set_option maxHeartbeats 4000000 in
theorem c_X7_endEvening {G : zG} {l : Launch} (hl : l.stackTraces = false) {Z : zM} {sb : Nat → Option Nat} {mcn : Nat → Int32} {cp : Nat → Nat} {Y : zM} {th : Int32} {o : Nat → Int64} {od : Nat → UInt64} {ad : Nat → Nat} (hL1 : zLst Z cp 1) (hL2 : zLst Z cp 2) (hs : ∀ c, c < zN Z 2 → (Z 19 c).toNatClampNeg < zN Z 1) : zCt G l yX7_endEvening (zws yX7_endEvening cX7_endEvening 3 (some .int)) ({ frames := 7, cells := 1, slots := 6, locals := 109 }) [.ref (ad 0)] (zent Z sb mcn cp G.2.2.2.1 Y th o od ad) ad (fun r w1 ad1 => kEnd Z = 0 ∧ some (.int (fSum (fDue Z) (zN Z 1))) = r ∧ zent (fEnd Z) sb (va_up mcn 2 (mcn 2 + 1)) cp G.2.2.2.1 Y th o od ad = w1 ∧ ad = ad1) (zPX ["java/lang/IllegalStateException"] (kEnd Z) (zent Z sb mcn cp G.2.2.2.1 Y th o od ad) ad) := by
  refine z_body hl (by decide +kernel) (Nat.le_of_ble_eq_true rfl) (fun X O => ?_)
  refine z_aload_n O dX7_endEvening_0 rfl ?_
  refine z_callV O (c_X7_checkHouse hl) zI zm5_61 zm5_62 zm5_63 zm4_21 zm5_59 ⟨rfl, by decide +kernel, by decide +kernel, (show _ = some 0 by decide +kernel)⟩ rfl (zg_x) ⟨Nat.le_of_ble_eq_true rfl, Nat.le_of_ble_eq_true rfl⟩ ⟨Nat.le_of_ble_eq_true rfl, Nat.le_of_ble_eq_true rfl⟩ dX7_endEvening_1 rfl (Nat.le_of_ble_eq_true rfl) (fun E w' ad' h => by obtain ⟨rfl, hc, rfl, rfl⟩ := h; exact ⟨⟨⟨rfl, rfl⟩, by unfold kEnd; rw [if_pos hc]; exact ⟨by decide, rfl⟩⟩, Nat.le_of_ble_eq_true rfl, Nat.le_of_ble_eq_true rfl⟩) (fun r w1 ad1 hp => ?_)
  obtain ⟨hhr, rfl, rfl, rfl⟩ := hp
  have L : ∀ (n : Nat) (i : Nat) (acc : Int32), i ≤ zN Z 1 → zN Z 1 < i + n → acc = fSum (fDue Z) i → zV G X 3 (0 + 1) (0 + 6) 8 [(0, .ref (ad 0)), (1, .int acc), (2, .int (nI i))] [] (zent (fIter fBill Z i) sb mcn cp G.2.2.2.1 Y th o od ad) ad := by
    intro n
    induction n with
    | zero => intro i acc h1 h2 hacc; omega
    | succ n ih =>
      intro i acc h1 h2 hacc
      have hLi : zLst (fIter fBill Z i) cp 1 := zLst_of hL1 (fBill_n (by decide) _ _)
      have hNi : zN (fIter fBill Z i) 1 = zN Z 1 := by unfold zN; rw [fBill_n (by decide)]
      have hLi2 : zLst (fIter fBill Z i) cp 2 := zLst_of hL2 (fBill_n (by decide) _ _)
      have hNi2 : zN (fIter fBill Z i) 2 = zN Z 2 := by unfold zN; rw [fBill_n (by decide)]
      refine z_iload_n O dX7_endEvening_8 rfl ?_
      refine z_aload_n O dX7_endEvening_9 rfl ?_
      refine z_get O (fk := 2) (fun x h => zI x (zu_RX7 x h)) rfl (by decide) (zI _ zm3_66) dX7_endEvening_10 (zg_x) rfl ?_
      refine z_callV O (c_size_l hl (i := 1) (by decide) hLi) zI zm4_16 zm1_46 zm1_47 zm0_31 zm1_19 ⟨rfl, by decide +kernel, by decide +kernel, (show _ = some 0 by decide +kernel)⟩ rfl ((zg_list0 (i := 1) (by decide) hLi)) ⟨Nat.le_of_ble_eq_true rfl, Nat.le_of_ble_eq_true rfl⟩ ⟨Nat.le_of_ble_eq_true rfl, Nat.le_of_ble_eq_true rfl⟩ dX7_endEvening_13 rfl (Nat.le_of_ble_eq_true rfl) (fun _ _ _ h => h.elim) (fun r w1 ad1 hp => ?_)
      obtain ⟨rfl, rfl, rfl⟩ := hp
      rw [hNi]
      refine z_icmp_ge O dX7_endEvening_16 (tgt := 43) (by decide) (fun g => ?_) (fun g => ?_)
      · have hi : i = zN Z 1 := by have := z_ge_ge (by have := hL1.2.2.2; omega) (by have := hL1.2.2.2; omega) g; omega
        subst hi
        refine z_aload_n O dX7_endEvening_43 rfl ?_
        refine z_get O (fk := 0) (fun x h => zI x (zu_RX7 x h)) rfl (by decide) (zI _ zm3_61) dX7_endEvening_44 (zg_x) rfl ?_
        refine z_callV O (c_X3_forgetEvening hl) zI zm6_27 zm6_28 zm6_29 zm1_0 zm2_67 ⟨rfl, by decide +kernel, by decide +kernel, (show _ = some 0 by decide +kernel)⟩ rfl (zg_house) ⟨Nat.le_of_ble_eq_true rfl, Nat.le_of_ble_eq_true rfl⟩ ⟨Nat.le_of_ble_eq_true rfl, Nat.le_of_ble_eq_true rfl⟩ dX7_endEvening_47 rfl (Nat.le_of_ble_eq_true rfl) (fun _ _ _ h => h.elim) (fun r w1 ad1 hp => ?_)
        obtain ⟨rfl, rfl, rfl⟩ := hp
        refine z_aload_n O dX7_endEvening_50 rfl ?_
        refine z_callV O (c_X7_beginEvening hl (zLst_of hL1 (by rw [fRest_n (by decide), fBill_n (by decide)])) (zLst_of hL2 (by rw [fRest_n (by decide), fBill_n (by decide)]))) zI zm4_25 zm4_26 zm4_27 zm4_21 zm4_18 ⟨rfl, by decide +kernel, by decide +kernel, (show _ = some 0 by decide +kernel)⟩ rfl (zg_x) ⟨Nat.le_of_ble_eq_true rfl, Nat.le_of_ble_eq_true rfl⟩ ⟨Nat.le_of_ble_eq_true rfl, Nat.le_of_ble_eq_true rfl⟩ dX7_endEvening_51 rfl (Nat.le_of_ble_eq_true rfl) (fun _ _ _ h => h.elim) (fun r w1 ad1 hp => ?_)
        obtain ⟨rfl, rfl, rfl⟩ := hp
        refine z_iload_n O dX7_endEvening_54 rfl ?_
        exact z_iret O dX7_endEvening_55 (Nat.le_of_ble_eq_true rfl) (Nat.le_of_ble_eq_true rfl) (⟨by unfold kEnd; rw [if_neg hhr], by rw [hacc], rfl, rfl⟩)
      · have hi : i < zN Z 1 := z_ge_lt (by have := hL1.2.2.2; omega) (by have := hL1.2.2.2; omega) g
        have hi20 : i < 20 := by have := hL1.2.2.2; omega
        have hii : i < zN (fIter fBill Z i) 1 := by rw [hNi]; exact hi
        refine z_iload_n O dX7_endEvening_19 rfl ?_
        refine z_aload_n O dX7_endEvening_20 rfl ?_
        refine z_aload_n O dX7_endEvening_21 rfl ?_
        refine z_get O (fk := 2) (fun x h => zI x (zu_RX7 x h)) rfl (by decide) (zI _ zm3_66) dX7_endEvening_22 (zg_x) rfl ?_
        refine z_iload_n O dX7_endEvening_25 rfl ?_
        refine z_callV O (c_get_singer hl hLi hii) zI zm4_17 zm1_49 zm1_50 zm0_31 zm1_26 ⟨rfl, by decide +kernel, by decide +kernel, (show _ = some 1 by decide +kernel)⟩ rfl ((zg_list0 (i := 1) (by decide) hLi)) ⟨Nat.le_of_ble_eq_true rfl, Nat.le_of_ble_eq_true rfl⟩ ⟨Nat.le_of_ble_eq_true rfl, Nat.le_of_ble_eq_true rfl⟩ dX7_endEvening_26 rfl (Nat.le_of_ble_eq_true rfl) (fun _ _ _ h => h.elim) (fun r w1 ad1 hp => ?_)
        obtain ⟨rfl, rfl, rfl⟩ := hp
        refine z_cast0 O rfl (zI _ zm5_40) (zg_singer hii hi20) dX7_endEvening_29 ?_
        refine z_callV O (c_X7_billFor hl hLi2 (fun c hc => by rw [fBill_n (by decide), hNi]; exact hs c (by rw [← hNi2]; exact hc)) (by rw [hNi]; exact hL1.2.2.2) hii) zI zm6_24 zm6_25 zm6_26 zm4_21 zm6_23 ⟨rfl, by decide +kernel, by decide +kernel, (show _ = some 1 by decide +kernel)⟩ rfl (zg_x) ⟨Nat.le_of_ble_eq_true rfl, Nat.le_of_ble_eq_true rfl⟩ ⟨Nat.le_of_ble_eq_true rfl, Nat.le_of_ble_eq_true rfl⟩ dX7_endEvening_32 rfl (Nat.le_of_ble_eq_true rfl) (fun _ _ _ h => h.elim) (fun r w1 ad1 hp => ?_)
        obtain ⟨rfl, rfl, rfl⟩ := hp
        rw [fDue_c (fun f k hf => fBill_n hf i k)]
        refine z_iadd O dX7_endEvening_35 ?_
        refine z_istore_n O dX7_endEvening_36 (by decide) ?_
        refine z_iincN O dX7_endEvening_37 (a := i) rfl (by decide) ?_
        refine z_goto O dX7_endEvening_40 (tgt := 8) (by decide) ?_
        exact zV.loc (ih (i + 1) _ (by omega) (by omega) (by rw [hacc]; rfl)) ⟨rfl, rfl, rfl, trivial⟩
  refine z_iconst O dX7_endEvening_4 (v := 0) (by decide) ?_
  refine z_istore_n O dX7_endEvening_5 (by decide) ?_
  refine z_iconst O dX7_endEvening_6 (v := 0) (by decide) ?_
  refine z_istore_n O dX7_endEvening_7 (by decide) ?_
  exact zV.loc (L (zN Z 1 + 1) 0 0 (by omega) (by omega) rfl) ⟨rfl, rfl, rfl, trivial⟩

def fPaid (Z : zM) (j : Nat) (y : Int32) : Int32 := fMin y (Z 17 j)
def fPays (Z : zM) (j : Nat) (y : Int32) : zM := zu (zu Z 17 j (Z 17 j - fPaid Z j y)) 34 0 (Z 34 0 + fPaid Z j y)
set_option maxRecDepth 100000 in
set_option maxHeartbeats 4000000 in
theorem c_X7_pay {G : zG} {l : Launch} (hl : l.stackTraces = false) {Z : zM} {sb : Nat → Option Nat} {mcn : Nat → Int32} {cp : Nat → Nat} {Y : zM} {th : Int32} {o : Nat → Int64} {od : Nat → UInt64} {ad : Nat → Nat} (hL1 : zLst Z cp 1) {x y : Int32} : zCt G l yX7_pay (zws yX7_pay cX7_pay 5 (some .int)) ({ frames := 7, cells := 3, slots := 18, locals := 104 }) [.ref (ad 0), .int x, .int y] (zent Z sb mcn cp G.2.2.2.1 Y th o od ad) ad (fun r w1 ad1 => kPay Z x y = 0 ∧ some (.int (fPays Z x.toNatClampNeg y 17 x.toNatClampNeg)) = r ∧ zent (fPays Z x.toNatClampNeg y) sb mcn cp G.2.2.2.1 Y th o od ad = w1 ∧ ad = ad1) (zPX ["java/lang/IndexOutOfBoundsException", "java/lang/IllegalArgumentException", "java/lang/UnsupportedOperationException"] (kPay Z x y) (zent Z sb mcn cp G.2.2.2.1 Y th o od ad) ad) := by
  refine z_body hl (by decide +kernel) (Nat.le_of_ble_eq_true rfl) (fun X O => ?_)
  refine z_aload_n O dX7_pay_0 rfl ?_
  refine z_iload_n O dX7_pay_1 rfl ?_
  refine z_callV O (c_X7_existingSinger hl hL1 (x := x)) zI zm5_51 zm5_52 zm5_53 zm4_21 zm5_46 ⟨rfl, by decide +kernel, by decide +kernel, (show _ = some 1 by decide +kernel)⟩ rfl (zg_x) ⟨Nat.le_of_ble_eq_true rfl, Nat.le_of_ble_eq_true rfl⟩ ⟨Nat.le_of_ble_eq_true rfl, Nat.le_of_ble_eq_true rfl⟩ dX7_pay_2 rfl (Nat.le_of_ble_eq_true rfl) (fun E w' ad' h => by obtain ⟨rfl, hc, rfl, rfl⟩ := h; exact ⟨⟨⟨rfl, rfl⟩, by unfold kPay; rw [if_pos hc]; exact ⟨by decide, rfl⟩⟩, Nat.le_of_ble_eq_true rfl, Nat.le_of_ble_eq_true rfl⟩) (fun r w1 ad1 hp => ?_)
  obtain ⟨j, rfl, hj, hj20, rfl, rfl, rfl⟩ := hp
  have hcl : (nI j).toNatClampNeg = j := nI_clamp (by omega)
  have hin := fI_in hL1 hj
  rw [hcl] at O
  refine z_astore_n O dX7_pay_5 (by decide) ?_
  refine z_iload_n O dX7_pay_6 rfl ?_
  refine z_iconst O dX7_pay_7 (v := 1) (by decide) ?_
  refine z_ldc O (zI _ zm6_31) dX7_pay_8 ?_
  refine z_callS O (c_X7_checkRange hl (x := y) (a := 1) (b := 99999)) zI zm4_19 zm4_20 zm4_21 zm4_8 ⟨by decide +kernel, by decide +kernel, (show _ = some 3 by decide +kernel)⟩ ⟨Nat.le_of_ble_eq_true rfl, Nat.le_of_ble_eq_true rfl⟩ ⟨Nat.le_of_ble_eq_true rfl, Nat.le_of_ble_eq_true rfl⟩ dX7_pay_10 rfl (Nat.le_of_ble_eq_true rfl) (fun E w' ad' h => by obtain ⟨rfl, hc, rfl, rfl⟩ := h; exact ⟨⟨⟨rfl, rfl⟩, by unfold kPay; rw [if_neg (fun q => q hin), if_pos hc]; exact ⟨by decide, rfl⟩⟩, Nat.le_of_ble_eq_true rfl, Nat.le_of_ble_eq_true rfl⟩) (fun r w1 ad1 hp => ?_)
  obtain ⟨hr, rfl, rfl, rfl⟩ := hp
  refine z_aload_n O dX7_pay_13 rfl ?_
  refine z_get O (fk := 3) (fun x h => zI x (zu_RX5 x h)) rfl (by decide) (zI _ zm6_19) dX7_pay_14 (zg_singer hj hj20) rfl ?_
  refine z_if_gt O dX7_pay_17 (tgt := 30) (by decide) (fun g => ?_) (fun g => ?_)
  · refine z_iload_n O dX7_pay_30 rfl ?_
    refine z_aload_n O dX7_pay_31 rfl ?_
    refine z_get O (fk := 3) (fun x h => zI x (zu_RX5 x h)) rfl (by decide) (zI _ zm6_19) dX7_pay_32 (zg_singer hj hj20) rfl ?_
    refine z_mmin O zI zm6_32 zm1_10 zm1_11 zm1_12 dX7_pay_35 (Nat.le_of_ble_eq_true rfl) (Nat.le_of_ble_eq_true rfl) (Nat.le_of_ble_eq_true rfl) (Nat.le_of_ble_eq_true rfl) ?_
    refine z_istore O dX7_pay_38 (by decide) ?_
    refine z_aload_n O dX7_pay_40 rfl ?_
    refine z_dup O dX7_pay_41 rfl ?_
    refine z_get O (fk := 3) (fun x h => zI x (zu_RX5 x h)) rfl (by decide) (zI _ zm6_19) dX7_pay_42 (zg_singer hj hj20) rfl ?_
    refine z_iload O dX7_pay_45 rfl ?_
    refine z_isub O dX7_pay_47 ?_
    refine z_put O (fk := 3) (fun x h => zI x (zu_RX5 x h)) tyX5 tyX5_ok nmX5 rfl (by decide) (zI _ zm6_19) rfl dX7_pay_48 rfl rfl (zg_singer hj hj20) (Nat.le_of_ble_eq_true rfl) (zp_singer_owed hj hj20) ?_
    refine z_aload_n O dX7_pay_51 rfl ?_
    refine z_dup O dX7_pay_52 rfl ?_
    refine z_get O (fk := 4) (fun x h => zI x (zu_RX7 x h)) rfl (by decide) (zI _ zm4_0) dX7_pay_53 (zg_x) rfl ?_
    refine z_iload O dX7_pay_56 rfl ?_
    refine z_iadd O dX7_pay_58 ?_
    refine z_put O (fk := 4) (fun x h => zI x (zu_RX7 x h)) tyX7 tyX7_ok nmX7 rfl (by decide) (zI _ zm4_0) rfl dX7_pay_59 rfl rfl (zg_x) (Nat.le_of_ble_eq_true rfl) (zp_x (F := 34) (p := 4) (Or.inl rfl) rfl) ?_
    refine z_aload_n O dX7_pay_62 rfl ?_
    refine z_get O (fk := 3) (fun x h => zI x (zu_RX5 x h)) rfl (by decide) (zI _ zm6_19) dX7_pay_63 (zg_singer hj hj20) rfl ?_
    exact z_iret O dX7_pay_66 (Nat.le_of_ble_eq_true rfl) (Nat.le_of_ble_eq_true rfl) (⟨by unfold kPay; rw [if_neg (fun q => q hin), if_neg (fun q => q hr), hcl, if_neg (Int32.not_le.mpr g)], rfl, rfl, rfl⟩)
  · exact z_throw O (text := "nothing is owed") zI (by decide +kernel) (by decide +kernel) zm4_43 zm4_44 zt_82 zbad_82 zok_82 (by decide +kernel) dX7_pay_20 dX7_pay_23 dX7_pay_24 dX7_pay_26 dX7_pay_29 (Nat.le_of_ble_eq_true rfl) (Nat.le_of_ble_eq_true rfl) (Nat.le_of_ble_eq_true rfl) (Nat.le_of_ble_eq_true rfl) (Nat.le_of_ble_eq_true rfl) (Nat.le_of_ble_eq_true rfl) (⟨⟨rfl, rfl⟩, by unfold kPay; rw [if_neg (fun q => q hin), if_neg (fun q => q hr), hcl, if_pos (Int32.not_lt.mp g)]; exact ⟨by decide, rfl⟩⟩)
