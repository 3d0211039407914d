theorem z_sl : ∀ n, n < 32 → ((nI n &&& 31).toBitVec.smod 32).toNat = n := by decide +kernel
def fBit (P j : Nat) : Nat := P / 2 ^ j % 2
theorem fBit_sh {P j : Nat} (hP : P < 2 ^ 31) (hj : j < 32) : (nI P >>> (nI j &&& 31)) &&& 1 = nI (fBit P j) := by
  rw [pk_shrN hP _ j (z_sl j hj)]
  have h1 : P / 2 ^ j < 2 ^ 32 := Nat.lt_of_le_of_lt (Nat.div_le_self _ _) (by omega)
  rw [pk_andN h1 1 (by decide)]
  rfl
theorem fBit_2 (P j : Nat) : fBit P j = 0 ∨ fBit P j = 1 := by unfold fBit; omega
/-- of the hands in a plan, the sum of a table -/
def fOf (Z : zM) (F P : Nat) (n : Nat) : Int32 := fSum (fun j => if fBit P j = 1 then Z F j else 0) n
def fCnt (P : Nat) : Int32 := fSum (fun j => if fBit P j = 1 then 1 else 0) 12
def fBetter (Z : zM) (n P Q : Nat) : Prop := (fOf Z 13 P n ≠ fOf Z 13 Q n ∧ fOf Z 13 P n < fOf Z 13 Q n) ∨ (fOf Z 13 P n = fOf Z 13 Q n ∧ ((fCnt P ≠ fCnt Q ∧ fCnt P < fCnt Q) ∨ (fCnt P = fCnt Q ∧ (nI P &&& (nI P ^^^ nI Q)) &&& -(nI P ^^^ nI Q) ≠ 0)))
/-- the best of the plans below k, 0 for none, decided by 'better' -/
def fPlan (Z : zM) (n : Nat) (wd : Int32) (bt : Nat → Nat → Bool) : Nat → Nat
  | 0 => 0
  | k + 1 => if k = 0 then 0 else if wd ≤ fOf Z 11 k n ∧ (fPlan Z n wd bt k = 0 ∨ bt k (fPlan Z n wd bt k) = true) then k else fPlan Z n wd bt k
theorem fPlan_lt (Z : zM) (n : Nat) (wd : Int32) (bt : Nat → Nat → Bool) : ∀ k, 0 < k → fPlan Z n wd bt k < k
  | 0, h => absurd h (by omega)
  | k + 1, _ => by
    unfold fPlan
    split
    · omega
    · split
      · omega
      · have := fPlan_lt Z n wd bt k (by omega); omega
def fPt (Z : zM) : Nat → Int32
  | 0 => 5
  | j + 1 => fPt Z j + (Z 12 j + 1)
def fCut (x : Int64) (p : Int32) : Int32 := if p = 0 then 0 else (x / p.toInt64).toInt32
def fGot (Z : zM) (m P : Int32) (j : Nat) : Int32 := fCut (m.toInt64 * (Z 12 j + 1).toInt64) P
def fShZ (Z : zM) (m P : Int32) : Nat → zM
  | 0 => Z
  | j + 1 => zu (fShZ Z m P j) 14 j (fShZ Z m P j 14 j + fGot Z m P j)
def fShR (Z : zM) (m P : Int32) : Nat → Int32
  | 0 => m
  | j + 1 => fShR Z m P j - fGot Z m P j
theorem fShZ_n (Z : zM) (m P : Int32) {f : Nat} (hf : f ≠ 14) : ∀ j k, fShZ Z m P j f k = Z f k
  | 0, _ => rfl
  | j + 1, k => by show zu _ 14 j _ f k = _; rw [zu_f hf]; exact fShZ_n Z m P hf j k
set_option maxRecDepth 100000 in
set_option maxHeartbeats 4000000 in
theorem c_X6_holds {G : zG} {l : Launch} (hl : l.stackTraces = false) {Z : zM} {sb : Nat → Option Nat} {mcn : Nat → Int32} {cp : Nat → Nat} {Y : zM} {th : Int32} {o : Nat → Int64} {od : Nat → UInt64} {ad : Nat → Nat} {P j : Nat} (hP : P < 2 ^ 31) (hj : j < 32) : zCt G l yX6_holds (zws yX6_holds cX6_holds 2 (some .boolean)) ({ frames := 0, cells := 0, slots := 0, locals := 0 }) [.int (nI P), .int (nI j)] (zent Z sb mcn cp G.2.2.2.1 Y th o od ad) ad (fun r w1 ad1 => some (.int (if fBit P j = 1 then 1 else 0)) = r ∧ zent Z sb mcn cp G.2.2.2.1 Y th o od ad = w1 ∧ ad = ad1) (zNoX) := by
  refine z_body hl (by decide +kernel) (Nat.le_of_ble_eq_true rfl) (fun X O => ?_)
  refine z_iload_n O dX6_holds_0 rfl ?_
  refine z_iload_n O dX6_holds_1 rfl ?_
  refine z_ishr O dX6_holds_2 ?_
  refine z_iconst O dX6_holds_3 (v := 1) (by decide) ?_
  refine z_iand O dX6_holds_4 ?_
  rw [fBit_sh hP hj]
  rcases fBit_2 P j with hb | hb
  all_goals rw [hb]
  · refine z_if_eq O dX6_holds_5 (tgt := 12) (by decide) (fun _ => ?_) (fun g => absurd rfl g)
    refine z_iconst O dX6_holds_12 (v := 0) (by decide) ?_
    exact z_zret O rfl rfl dX6_holds_13 (Nat.le_of_ble_eq_true rfl) (Nat.le_of_ble_eq_true rfl) (⟨by rw [hb]; rfl, rfl, rfl⟩)
  · refine z_if_eq O dX6_holds_5 (tgt := 12) (by decide) (fun g => absurd g (by decide)) (fun _ => ?_)
    refine z_iconst O dX6_holds_8 (v := 1) (by decide) ?_
    refine z_goto O dX6_holds_9 (tgt := 13) (by decide) ?_
    exact z_zret O rfl rfl dX6_holds_13 (Nat.le_of_ble_eq_true rfl) (Nat.le_of_ble_eq_true rfl) (⟨by rw [hb]; rfl, rfl, rfl⟩)

set_option maxRecDepth 100000 in
set_option maxHeartbeats 4000000 in
theorem c_X6_priceOf {G : zG} {l : Launch} (hl : l.stackTraces = false) {Z : zM} {sb : Nat → Option Nat} {mcn : Nat → Int32} {cp : Nat → Nat} {Y : zM} {th : Int32} {o : Nat → Int64} {od : Nat → UInt64} {ad : Nat → Nat} (hL0 : zLst Z cp 0) {P : Nat} (hP : P < 2 ^ 31) : zCt G l yX6_priceOf (zws yX6_priceOf cX6_priceOf 4 (some .int)) ({ frames := 3, cells := 0, slots := 0, locals := 64 }) [.ref (ad 3), .int (nI P)] (zent Z sb mcn cp G.2.2.2.1 Y th o od ad) ad (fun r w1 ad1 => some (.int (fOf Z 13 P (zN Z 0))) = r ∧ zent Z sb mcn cp G.2.2.2.1 Y th o od ad = w1 ∧ ad = ad1) (zNoX) := by
  refine z_body hl (by decide +kernel) (Nat.le_of_ble_eq_true rfl) (fun X O => ?_)
  have L : ∀ (n : Nat) (i : Nat) (acc : Int32), i ≤ zN Z 0 → zN Z 0 < i + n → acc = fSum (fun j => if fBit P j = 1 then Z 13 j else 0) i → zV G X 4 0 0 4 [(0, .ref (ad 3)), (1, .int (nI P)), (2, .int acc), (3, .int (nI i))] [] (zent Z sb mcn cp G.2.2.2.1 Y th o od ad) ad := by
    intro n
    induction n with
    | zero => intro i acc h1 h2 hacc; omega
    | succ n ih =>
      intro i acc h1 h2 hacc
      refine z_iload_n O dX6_priceOf_4 rfl ?_
      refine z_aload_n O dX6_priceOf_5 rfl ?_
      refine z_get O (fk := 0) (fun x h => zI x (zu_RX6 x h)) rfl (by decide) (zI _ zm3_16) dX6_priceOf_6 (zg_tr) rfl ?_
      refine z_callV O (c_size_l hl (i := 0) (by decide) hL0) zI zm3_22 zm1_46 zm1_47 zm0_31 zm1_19 ⟨rfl, by decide +kernel, by decide +kernel, (show _ = some 0 by decide +kernel)⟩ rfl ((zg_list0 (i := 0) (by decide) hL0)) ⟨Nat.le_of_ble_eq_true rfl, Nat.le_of_ble_eq_true rfl⟩ ⟨Nat.le_of_ble_eq_true rfl, Nat.le_of_ble_eq_true rfl⟩ dX6_priceOf_9 rfl (Nat.le_of_ble_eq_true rfl) (fun _ _ _ h => h.elim) (fun r w1 ad1 hp => ?_)
      obtain ⟨rfl, rfl, rfl⟩ := hp
      refine z_icmp_ge O dX6_priceOf_12 (tgt := 46) (by decide) (fun h => ?_) (fun h => ?_)
      · have hi : i = zN Z 0 := by have := z_ge_ge (by have := hL0.2.2.2; omega) (by have := hL0.2.2.2; omega) h; omega
        subst hi
        refine z_iload_n O dX6_priceOf_46 rfl ?_
        exact z_iret O dX6_priceOf_47 (Nat.le_of_ble_eq_true rfl) (Nat.le_of_ble_eq_true rfl) (⟨by subst hacc; rfl, rfl, rfl⟩)
      · have hi : i < zN Z 0 := z_ge_lt (by have := hL0.2.2.2; omega) (by have := hL0.2.2.2; omega) h
        have hi20 : i < 20 := by have := hL0.2.2.2; omega
        refine z_iload_n O dX6_priceOf_15 rfl ?_
        refine z_iload_n O dX6_priceOf_16 rfl ?_
        refine z_callS O (c_X6_holds hl hP (j := i) (by omega)) zI zm3_32 zm3_33 zm3_29 zm3_18 ⟨by decide +kernel, by decide +kernel, (show _ = some 2 by decide +kernel)⟩ ⟨Nat.le_of_ble_eq_true rfl, Nat.le_of_ble_eq_true rfl⟩ ⟨Nat.le_of_ble_eq_true rfl, Nat.le_of_ble_eq_true rfl⟩ dX6_priceOf_17 rfl (Nat.le_of_ble_eq_true rfl) (fun _ _ _ h => h.elim) (fun r w1 ad1 hp => ?_)
        obtain ⟨rfl, rfl, rfl⟩ := hp
        by_cases hb : fBit P i = 1
        · rw [if_pos hb]
          refine z_if_eq O dX6_priceOf_20 (tgt := 40) (by decide) (fun g => absurd g (by decide)) (fun _ => ?_)
          refine z_iload_n O dX6_priceOf_23 rfl ?_
          refine z_aload_n O dX6_priceOf_24 rfl ?_
          refine z_get O (fk := 0) (fun x h => zI x (zu_RX6 x h)) rfl (by decide) (zI _ zm3_16) dX6_priceOf_25 (zg_tr) rfl ?_
          refine z_iload_n O dX6_priceOf_28 rfl ?_
          refine z_callV O (c_get_hand hl hL0 hi) zI zm3_23 zm1_49 zm1_50 zm0_31 zm1_26 ⟨rfl, by decide +kernel, by decide +kernel, (show _ = some 1 by decide +kernel)⟩ rfl ((zg_list0 (i := 0) (by decide) hL0)) ⟨Nat.le_of_ble_eq_true rfl, Nat.le_of_ble_eq_true rfl⟩ ⟨Nat.le_of_ble_eq_true rfl, Nat.le_of_ble_eq_true rfl⟩ dX6_priceOf_29 rfl (Nat.le_of_ble_eq_true rfl) (fun _ _ _ h => h.elim) (fun r w1 ad1 hp => ?_)
          obtain ⟨rfl, rfl, rfl⟩ := hp
          refine z_cast0 O rfl (zI _ zm3_20) (zg_hand hi hi20) dX6_priceOf_32 ?_
          refine z_get O (fk := 3) (fun x h => zI x (zu_RX2 x h)) rfl (by decide) (zI _ zm3_35) dX6_priceOf_35 (zg_hand hi hi20) rfl ?_
          refine z_iadd O dX6_priceOf_38 ?_
          refine z_istore_n O dX6_priceOf_39 (by decide) ?_
          refine z_iincN O dX6_priceOf_40 (a := i) rfl (by decide) ?_
          refine z_goto O dX6_priceOf_43 (tgt := 4) (by decide) ?_
          exact zV.loc (ih (i + 1) _ (by omega) (by omega) (by rw [hacc]; show _ = fSum (fun j => if fBit P j = 1 then Z 13 j else 0) i + (if fBit P i = 1 then Z 13 i else 0); rw [if_pos hb])) ⟨rfl, rfl, rfl, rfl, trivial⟩
        · rw [if_neg hb]
          refine z_if_eq O dX6_priceOf_20 (tgt := 40) (by decide) (fun _ => ?_) (fun g => absurd rfl g)
          refine z_iincN O dX6_priceOf_40 (a := i) rfl (by decide) ?_
          refine z_goto O dX6_priceOf_43 (tgt := 4) (by decide) ?_
          exact zV.loc (ih (i + 1) _ (by omega) (by omega) (by rw [hacc, fSum_z (f := fun j => if fBit P j = 1 then Z 13 j else 0) (if_neg hb)])) ⟨rfl, rfl, rfl, rfl, trivial⟩
  refine z_iconst O dX6_priceOf_0 (v := 0) (by decide) ?_
  refine z_istore_n O dX6_priceOf_1 (by decide) ?_
  refine z_iconst O dX6_priceOf_2 (v := 0) (by decide) ?_
  refine z_istore_n O dX6_priceOf_3 (by decide) ?_
  exact zV.loc (L (zN Z 0 + 1) 0 0 (by omega) (by omega) rfl) ⟨rfl, rfl, rfl, rfl, trivial⟩

set_option maxRecDepth 100000 in
set_option maxHeartbeats 4000000 in
theorem c_X6_strengthOf {G : zG} {l : Launch} (hl : l.stackTraces = false) {Z : zM} {sb : Nat → Option Nat} {mcn : Nat → Int32} {cp : Nat → Nat} {Y : zM} {th : Int32} {o : Nat → Int64} {od : Nat → UInt64} {ad : Nat → Nat} (hL0 : zLst Z cp 0) {P : Nat} (hP : P < 2 ^ 31) : zCt G l yX6_strengthOf (zws yX6_strengthOf cX6_strengthOf 4 (some .int)) ({ frames := 3, cells := 0, slots := 0, locals := 64 }) [.ref (ad 3), .int (nI P)] (zent Z sb mcn cp G.2.2.2.1 Y th o od ad) ad (fun r w1 ad1 => some (.int (fOf Z 11 P (zN Z 0))) = r ∧ zent Z sb mcn cp G.2.2.2.1 Y th o od ad = w1 ∧ ad = ad1) (zNoX) := by
  refine z_body hl (by decide +kernel) (Nat.le_of_ble_eq_true rfl) (fun X O => ?_)
  have L : ∀ (n : Nat) (i : Nat) (acc : Int32), i ≤ zN Z 0 → zN Z 0 < i + n → acc = fSum (fun j => if fBit P j = 1 then Z 11 j else 0) i → zV G X 4 0 0 4 [(0, .ref (ad 3)), (1, .int (nI P)), (2, .int acc), (3, .int (nI i))] [] (zent Z sb mcn cp G.2.2.2.1 Y th o od ad) ad := by
    intro n
    induction n with
    | zero => intro i acc h1 h2 hacc; omega
    | succ n ih =>
      intro i acc h1 h2 hacc
      refine z_iload_n O dX6_strengthOf_4 rfl ?_
      refine z_aload_n O dX6_strengthOf_5 rfl ?_
      refine z_get O (fk := 0) (fun x h => zI x (zu_RX6 x h)) rfl (by decide) (zI _ zm3_16) dX6_strengthOf_6 (zg_tr) rfl ?_
      refine z_callV O (c_size_l hl (i := 0) (by decide) hL0) zI zm3_22 zm1_46 zm1_47 zm0_31 zm1_19 ⟨rfl, by decide +kernel, by decide +kernel, (show _ = some 0 by decide +kernel)⟩ rfl ((zg_list0 (i := 0) (by decide) hL0)) ⟨Nat.le_of_ble_eq_true rfl, Nat.le_of_ble_eq_true rfl⟩ ⟨Nat.le_of_ble_eq_true rfl, Nat.le_of_ble_eq_true rfl⟩ dX6_strengthOf_9 rfl (Nat.le_of_ble_eq_true rfl) (fun _ _ _ h => h.elim) (fun r w1 ad1 hp => ?_)
      obtain ⟨rfl, rfl, rfl⟩ := hp
      refine z_icmp_ge O dX6_strengthOf_12 (tgt := 46) (by decide) (fun h => ?_) (fun h => ?_)
      · have hi : i = zN Z 0 := by have := z_ge_ge (by have := hL0.2.2.2; omega) (by have := hL0.2.2.2; omega) h; omega
        subst hi
        refine z_iload_n O dX6_strengthOf_46 rfl ?_
        exact z_iret O dX6_strengthOf_47 (Nat.le_of_ble_eq_true rfl) (Nat.le_of_ble_eq_true rfl) (⟨by subst hacc; rfl, rfl, rfl⟩)
      · have hi : i < zN Z 0 := z_ge_lt (by have := hL0.2.2.2; omega) (by have := hL0.2.2.2; omega) h
        have hi20 : i < 20 := by have := hL0.2.2.2; omega
        refine z_iload_n O dX6_strengthOf_15 rfl ?_
        refine z_iload_n O dX6_strengthOf_16 rfl ?_
        refine z_callS O (c_X6_holds hl hP (j := i) (by omega)) zI zm3_32 zm3_33 zm3_29 zm3_18 ⟨by decide +kernel, by decide +kernel, (show _ = some 2 by decide +kernel)⟩ ⟨Nat.le_of_ble_eq_true rfl, Nat.le_of_ble_eq_true rfl⟩ ⟨Nat.le_of_ble_eq_true rfl, Nat.le_of_ble_eq_true rfl⟩ dX6_strengthOf_17 rfl (Nat.le_of_ble_eq_true rfl) (fun _ _ _ h => h.elim) (fun r w1 ad1 hp => ?_)
        obtain ⟨rfl, rfl, rfl⟩ := hp
        by_cases hb : fBit P i = 1
        · rw [if_pos hb]
          refine z_if_eq O dX6_strengthOf_20 (tgt := 40) (by decide) (fun g => absurd g (by decide)) (fun _ => ?_)
          refine z_iload_n O dX6_strengthOf_23 rfl ?_
          refine z_aload_n O dX6_strengthOf_24 rfl ?_
          refine z_get O (fk := 0) (fun x h => zI x (zu_RX6 x h)) rfl (by decide) (zI _ zm3_16) dX6_strengthOf_25 (zg_tr) rfl ?_
          refine z_iload_n O dX6_strengthOf_28 rfl ?_
          refine z_callV O (c_get_hand hl hL0 hi) zI zm3_23 zm1_49 zm1_50 zm0_31 zm1_26 ⟨rfl, by decide +kernel, by decide +kernel, (show _ = some 1 by decide +kernel)⟩ rfl ((zg_list0 (i := 0) (by decide) hL0)) ⟨Nat.le_of_ble_eq_true rfl, Nat.le_of_ble_eq_true rfl⟩ ⟨Nat.le_of_ble_eq_true rfl, Nat.le_of_ble_eq_true rfl⟩ dX6_strengthOf_29 rfl (Nat.le_of_ble_eq_true rfl) (fun _ _ _ h => h.elim) (fun r w1 ad1 hp => ?_)
          obtain ⟨rfl, rfl, rfl⟩ := hp
          refine z_cast0 O rfl (zI _ zm3_20) (zg_hand hi hi20) dX6_strengthOf_32 ?_
          refine z_get O (fk := 1) (fun x h => zI x (zu_RX2 x h)) rfl (by decide) (zI _ zm3_31) dX6_strengthOf_35 (zg_hand hi hi20) rfl ?_
          refine z_iadd O dX6_strengthOf_38 ?_
          refine z_istore_n O dX6_strengthOf_39 (by decide) ?_
          refine z_iincN O dX6_strengthOf_40 (a := i) rfl (by decide) ?_
          refine z_goto O dX6_strengthOf_43 (tgt := 4) (by decide) ?_
          exact zV.loc (ih (i + 1) _ (by omega) (by omega) (by rw [hacc]; show _ = fSum (fun j => if fBit P j = 1 then Z 11 j else 0) i + (if fBit P i = 1 then Z 11 i else 0); rw [if_pos hb])) ⟨rfl, rfl, rfl, rfl, trivial⟩
        · rw [if_neg hb]
          refine z_if_eq O dX6_strengthOf_20 (tgt := 40) (by decide) (fun _ => ?_) (fun g => absurd rfl g)
          refine z_iincN O dX6_strengthOf_40 (a := i) rfl (by decide) ?_
          refine z_goto O dX6_strengthOf_43 (tgt := 4) (by decide) ?_
          exact zV.loc (ih (i + 1) _ (by omega) (by omega) (by rw [hacc, fSum_z (f := fun j => if fBit P j = 1 then Z 11 j else 0) (if_neg hb)])) ⟨rfl, rfl, rfl, rfl, trivial⟩
  refine z_iconst O dX6_strengthOf_0 (v := 0) (by decide) ?_
  refine z_istore_n O dX6_strengthOf_1 (by decide) ?_
  refine z_iconst O dX6_strengthOf_2 (v := 0) (by decide) ?_
  refine z_istore_n O dX6_strengthOf_3 (by decide) ?_
  exact zV.loc (L (zN Z 0 + 1) 0 0 (by omega) (by omega) rfl) ⟨rfl, rfl, rfl, rfl, trivial⟩

def fBc (i : Int32) : Int32 :=
  let a := i - ((i.toUInt32 >>> (Int32.toUInt32 1 &&& Int32.toUInt32 31)).toInt32 &&& 1431655765)
  let b := (a &&& 858993459) + ((a.toUInt32 >>> (Int32.toUInt32 2 &&& Int32.toUInt32 31)).toInt32 &&& 858993459)
  let c := (b + (b.toUInt32 >>> (Int32.toUInt32 4 &&& Int32.toUInt32 31)).toInt32) &&& 252645135
  let d := c + (c.toUInt32 >>> (Int32.toUInt32 8 &&& Int32.toUInt32 31)).toInt32
  let e := d + (d.toUInt32 >>> (Int32.toUInt32 16 &&& Int32.toUInt32 31)).toInt32
  e &&& 63
theorem fBc_cnt0 : ∀ a, a < 64 → ∀ b, b < 64 → fBc (nI (64 * a + b)) = fCnt (64 * a + b) := by decide +kernel
theorem fBc_cnt (P : Nat) (hP : P < 4096) : fBc (nI P) = fCnt P := by
  have h := fBc_cnt0 (P / 64) (by omega) (P % 64) (by omega)
  rw [show 64 * (P / 64) + P % 64 = P by omega] at h
  exact h
set_option maxRecDepth 100000 in
set_option maxHeartbeats 4000000 in
theorem c_J6_bitCount_0f7a4 {G : zG} {l : Launch} (hl : l.stackTraces = false) {Z : zM} {sb : Nat → Option Nat} {mcn : Nat → Int32} {cp : Nat → Nat} {Y : zM} {th : Int32} {o : Nat → Int64} {od : Nat → UInt64} {ad : Nat → Nat} {x : Int32} : zCt G l yJ6_bitCount_0f7a4 (zws yJ6_bitCount_0f7a4 cJ6_bitCount_0f7a4 1 (some .int)) ({ frames := 0, cells := 0, slots := 0, locals := 0 }) [.int x] (zent Z sb mcn cp G.2.2.2.1 Y th o od ad) ad (fun r w1 ad1 => some (.int (fBc x)) = r ∧ zent Z sb mcn cp G.2.2.2.1 Y th o od ad = w1 ∧ ad = ad1) (zNoX) := by
  refine z_body hl (by decide +kernel) (Nat.le_of_ble_eq_true rfl) (fun X O => ?_)
  refine z_iload_n O dJ6_bitCount_0f7a4_0 rfl ?_
  refine z_iload_n O dJ6_bitCount_0f7a4_1 rfl ?_
  refine z_iconst O dJ6_bitCount_0f7a4_2 (v := 1) (by decide) ?_
  refine z_iushr O dJ6_bitCount_0f7a4_3 rfl ?_
  refine z_ldcw O (zI _ zm3_38) dJ6_bitCount_0f7a4_4 ?_
  refine z_iand O dJ6_bitCount_0f7a4_7 ?_
  refine z_isub O dJ6_bitCount_0f7a4_8 ?_
  refine z_istore_n O dJ6_bitCount_0f7a4_9 (by decide) ?_
  refine z_iload_n O dJ6_bitCount_0f7a4_10 rfl ?_
  refine z_ldcw O (zI _ zm3_39) dJ6_bitCount_0f7a4_11 ?_
  refine z_iand O dJ6_bitCount_0f7a4_14 ?_
  refine z_iload_n O dJ6_bitCount_0f7a4_15 rfl ?_
  refine z_iconst O dJ6_bitCount_0f7a4_16 (v := 2) (by decide) ?_
  refine z_iushr O dJ6_bitCount_0f7a4_17 rfl ?_
  refine z_ldcw O (zI _ zm3_39) dJ6_bitCount_0f7a4_18 ?_
  refine z_iand O dJ6_bitCount_0f7a4_21 ?_
  refine z_iadd O dJ6_bitCount_0f7a4_22 ?_
  refine z_istore_n O dJ6_bitCount_0f7a4_23 (by decide) ?_
  refine z_iload_n O dJ6_bitCount_0f7a4_24 rfl ?_
  refine z_iload_n O dJ6_bitCount_0f7a4_25 rfl ?_
  refine z_iconst O dJ6_bitCount_0f7a4_26 (v := 4) (by decide) ?_
  refine z_iushr O dJ6_bitCount_0f7a4_27 rfl ?_
  refine z_iadd O dJ6_bitCount_0f7a4_28 ?_
  refine z_ldcw O (zI _ zm3_40) dJ6_bitCount_0f7a4_29 ?_
  refine z_iand O dJ6_bitCount_0f7a4_32 ?_
  refine z_istore_n O dJ6_bitCount_0f7a4_33 (by decide) ?_
  refine z_iload_n O dJ6_bitCount_0f7a4_34 rfl ?_
  refine z_iload_n O dJ6_bitCount_0f7a4_35 rfl ?_
  refine z_bipush O dJ6_bitCount_0f7a4_36 (v := 8) (by decide) ?_
  refine z_iushr O dJ6_bitCount_0f7a4_38 rfl ?_
  refine z_iadd O dJ6_bitCount_0f7a4_39 ?_
  refine z_istore_n O dJ6_bitCount_0f7a4_40 (by decide) ?_
  refine z_iload_n O dJ6_bitCount_0f7a4_41 rfl ?_
  refine z_iload_n O dJ6_bitCount_0f7a4_42 rfl ?_
  refine z_bipush O dJ6_bitCount_0f7a4_43 (v := 16) (by decide) ?_
  refine z_iushr O dJ6_bitCount_0f7a4_45 rfl ?_
  refine z_iadd O dJ6_bitCount_0f7a4_46 ?_
  refine z_istore_n O dJ6_bitCount_0f7a4_47 (by decide) ?_
  refine z_iload_n O dJ6_bitCount_0f7a4_48 rfl ?_
  refine z_bipush O dJ6_bitCount_0f7a4_49 (v := 63) (by decide) ?_
  refine z_iand O dJ6_bitCount_0f7a4_51 ?_
  exact z_iret O dJ6_bitCount_0f7a4_52 (Nat.le_of_ble_eq_true rfl) (Nat.le_of_ble_eq_true rfl) (⟨rfl, rfl, rfl⟩)

set_option maxRecDepth 100000 in
set_option maxHeartbeats 4000000 in
theorem c_X6_isBetter {G : zG} {l : Launch} (hl : l.stackTraces = false) {Z : zM} {sb : Nat → Option Nat} {mcn : Nat → Int32} {cp : Nat → Nat} {Y : zM} {th : Int32} {o : Nat → Int64} {od : Nat → UInt64} {ad : Nat → Nat} (hL0 : zLst Z cp 0) {P Q : Nat} (hP : P < 4096) (hQ : Q < 4096) : zCt G l yX6_isBetter (zws yX6_isBetter cX6_isBetter 8 (some .boolean)) ({ frames := 4, cells := 0, slots := 0, locals := 87 }) [.ref (ad 3), .int (nI P), .int (nI Q)] (zent Z sb mcn cp G.2.2.2.1 Y th o od ad) ad (fun r w1 ad1 => (some (.int 1) = r ∧ fBetter Z (zN Z 0) P Q ∧ zent Z sb mcn cp G.2.2.2.1 Y th o od ad = w1 ∧ ad = ad1) ∨ (some (.int 0) = r ∧ ¬ fBetter Z (zN Z 0) P Q ∧ zent Z sb mcn cp G.2.2.2.1 Y th o od ad = w1 ∧ ad = ad1)) (zNoX) := by
  refine z_body hl (by decide +kernel) (Nat.le_of_ble_eq_true rfl) (fun X O => ?_)
  refine z_aload_n O dX6_isBetter_0 rfl ?_
  refine z_iload_n O dX6_isBetter_1 rfl ?_
  refine z_callV O (c_X6_priceOf hl hL0 (P := P) (by omega)) zI zm3_41 zm3_42 zm3_43 zm3_29 zm3_36 ⟨rfl, by decide +kernel, by decide +kernel, (show _ = some 1 by decide +kernel)⟩ rfl (zg_tr) ⟨Nat.le_of_ble_eq_true rfl, Nat.le_of_ble_eq_true rfl⟩ ⟨Nat.le_of_ble_eq_true rfl, Nat.le_of_ble_eq_true rfl⟩ dX6_isBetter_2 rfl (Nat.le_of_ble_eq_true rfl) (fun _ _ _ h => h.elim) (fun r w1 ad1 hp => ?_)
  obtain ⟨rfl, rfl, rfl⟩ := hp
  refine z_istore_n O dX6_isBetter_5 (by decide) ?_
  refine z_aload_n O dX6_isBetter_6 rfl ?_
  refine z_iload_n O dX6_isBetter_7 rfl ?_
  refine z_callV O (c_X6_priceOf hl hL0 (P := Q) (by omega)) zI zm3_41 zm3_42 zm3_43 zm3_29 zm3_36 ⟨rfl, by decide +kernel, by decide +kernel, (show _ = some 1 by decide +kernel)⟩ rfl (zg_tr) ⟨Nat.le_of_ble_eq_true rfl, Nat.le_of_ble_eq_true rfl⟩ ⟨Nat.le_of_ble_eq_true rfl, Nat.le_of_ble_eq_true rfl⟩ dX6_isBetter_8 rfl (Nat.le_of_ble_eq_true rfl) (fun _ _ _ h => h.elim) (fun r w1 ad1 hp => ?_)
  obtain ⟨rfl, rfl, rfl⟩ := hp
  refine z_istore O dX6_isBetter_11 (by decide) ?_
  refine z_iload_n O dX6_isBetter_13 rfl ?_
  refine z_iload O dX6_isBetter_14 rfl ?_
  refine z_icmp_eq O dX6_isBetter_16 (tgt := 31) (by decide) (fun h => ?_) (fun h => ?_)
  · refine z_iload_n O dX6_isBetter_31 rfl ?_
    refine z_callS O (c_J6_bitCount_0f7a4 hl (x := nI P)) zI zm3_44 zm3_45 zm3_46 zm3_37 ⟨by decide +kernel, by decide +kernel, (show _ = some 1 by decide +kernel)⟩ ⟨Nat.le_of_ble_eq_true rfl, Nat.le_of_ble_eq_true rfl⟩ ⟨Nat.le_of_ble_eq_true rfl, Nat.le_of_ble_eq_true rfl⟩ dX6_isBetter_32 rfl (Nat.le_of_ble_eq_true rfl) (fun _ _ _ h => h.elim) (fun r w1 ad1 hp => ?_)
    obtain ⟨rfl, rfl, rfl⟩ := hp
    refine z_istore O dX6_isBetter_35 (by decide) ?_
    refine z_iload_n O dX6_isBetter_37 rfl ?_
    refine z_callS O (c_J6_bitCount_0f7a4 hl (x := nI Q)) zI zm3_44 zm3_45 zm3_46 zm3_37 ⟨by decide +kernel, by decide +kernel, (show _ = some 1 by decide +kernel)⟩ ⟨Nat.le_of_ble_eq_true rfl, Nat.le_of_ble_eq_true rfl⟩ ⟨Nat.le_of_ble_eq_true rfl, Nat.le_of_ble_eq_true rfl⟩ dX6_isBetter_38 rfl (Nat.le_of_ble_eq_true rfl) (fun _ _ _ h => h.elim) (fun r w1 ad1 hp => ?_)
    obtain ⟨rfl, rfl, rfl⟩ := hp
    rw [fBc_cnt P hP, fBc_cnt Q hQ]
    refine z_istore O dX6_isBetter_41 (by decide) ?_
    refine z_iload O dX6_isBetter_43 rfl ?_
    refine z_iload O dX6_isBetter_45 rfl ?_
    refine z_icmp_eq O dX6_isBetter_47 (tgt := 63) (by decide) (fun h2 => ?_) (fun h2 => ?_)
    · refine z_iload_n O dX6_isBetter_63 rfl ?_
      refine z_iload_n O dX6_isBetter_64 rfl ?_
      refine z_ixor O dX6_isBetter_65 ?_
      refine z_istore O dX6_isBetter_66 (by decide) ?_
      refine z_iload_n O dX6_isBetter_68 rfl ?_
      refine z_iload O dX6_isBetter_69 rfl ?_
      refine z_iand O dX6_isBetter_71 ?_
      refine z_iload O dX6_isBetter_72 rfl ?_
      refine z_ineg O dX6_isBetter_74 ?_
      refine z_iand O dX6_isBetter_75 ?_
      refine z_if_eq O dX6_isBetter_76 (tgt := 83) (by decide) (fun h3 => ?_) (fun h3 => ?_)
      · refine z_iconst O dX6_isBetter_83 (v := 0) (by decide) ?_
        exact z_zret O rfl rfl dX6_isBetter_84 (Nat.le_of_ble_eq_true rfl) (Nat.le_of_ble_eq_true rfl) (Or.inr ⟨rfl, fun q => q.elim (fun a => a.1 h) (fun a => a.2.elim (fun c => c.1 h2) (fun c => c.2 h3)), rfl, rfl⟩)
      · refine z_iconst O dX6_isBetter_79 (v := 1) (by decide) ?_
        refine z_goto O dX6_isBetter_80 (tgt := 84) (by decide) ?_
        exact z_zret O rfl rfl dX6_isBetter_84 (Nat.le_of_ble_eq_true rfl) (Nat.le_of_ble_eq_true rfl) (Or.inl ⟨rfl, Or.inr ⟨h, Or.inr ⟨h2, h3⟩⟩, rfl, rfl⟩)
    · refine z_iload O dX6_isBetter_50 rfl ?_
      refine z_iload O dX6_isBetter_52 rfl ?_
      refine z_icmp_ge O dX6_isBetter_54 (tgt := 61) (by decide) (fun h3 => ?_) (fun h3 => ?_)
      · refine z_iconst O dX6_isBetter_61 (v := 0) (by decide) ?_
        exact z_zret O rfl rfl dX6_isBetter_62 (Nat.le_of_ble_eq_true rfl) (Nat.le_of_ble_eq_true rfl) (Or.inr ⟨rfl, fun q => q.elim (fun a => a.1 h) (fun a => a.2.elim (fun c => absurd c.2 (Int32.not_lt.mpr h3)) (fun c => h2 c.1)), rfl, rfl⟩)
      · refine z_iconst O dX6_isBetter_57 (v := 1) (by decide) ?_
        refine z_goto O dX6_isBetter_58 (tgt := 62) (by decide) ?_
        exact z_zret O rfl rfl dX6_isBetter_62 (Nat.le_of_ble_eq_true rfl) (Nat.le_of_ble_eq_true rfl) (Or.inl ⟨rfl, Or.inr ⟨h, Or.inl ⟨h2, Int32.not_le.mp h3⟩⟩, rfl, rfl⟩)
  · refine z_iload_n O dX6_isBetter_19 rfl ?_
    refine z_iload O dX6_isBetter_20 rfl ?_
    refine z_icmp_ge O dX6_isBetter_22 (tgt := 29) (by decide) (fun h2 => ?_) (fun h2 => ?_)
    · refine z_iconst O dX6_isBetter_29 (v := 0) (by decide) ?_
      exact z_zret O rfl rfl dX6_isBetter_30 (Nat.le_of_ble_eq_true rfl) (Nat.le_of_ble_eq_true rfl) (Or.inr ⟨rfl, fun q => q.elim (fun a => absurd a.2 (Int32.not_lt.mpr h2)) (fun a => h a.1), rfl, rfl⟩)
    · refine z_iconst O dX6_isBetter_25 (v := 1) (by decide) ?_
      refine z_goto O dX6_isBetter_26 (tgt := 30) (by decide) ?_
      exact z_zret O rfl rfl dX6_isBetter_30 (Nat.le_of_ble_eq_true rfl) (Nat.le_of_ble_eq_true rfl) (Or.inl ⟨rfl, Or.inl ⟨h, Int32.not_le.mp h2⟩, rfl, rfl⟩)

theorem z_pow : ∀ n, n ≤ 12 → (1 : Int32) <<< (nI n &&& 31) = nI (2 ^ n) := by
  intro n hn
  have h : ∀ n, n < 13 → (1 : Int32) <<< (nI n &&& 31) = nI (2 ^ n) := by decide +kernel
  exact h n (by omega)
theorem z_pow2 {n : Nat} (hn : n ≤ 12) : 2 ^ n ≤ 4096 := by
  have := Nat.pow_le_pow_right (show 0 < 2 by decide) hn
  exact this
set_option maxRecDepth 100000 in
set_option maxHeartbeats 4000000 in
theorem c_X6_cheapestPlan {G : zG} {l : Launch} (hl : l.stackTraces = false) {Z : zM} {sb : Nat → Option Nat} {mcn : Nat → Int32} {cp : Nat → Nat} {Y : zM} {th : Int32} {o : Nat → Int64} {od : Nat → UInt64} {ad : Nat → Nat} (hL0 : zLst Z cp 0) {wd : Int32} {bt : Nat → Nat → Bool} (hbt : ∀ P Q, bt P Q = true ↔ fBetter Z (zN Z 0) P Q) : zCt G l yX6_cheapestPlan (zws yX6_cheapestPlan cX6_cheapestPlan 5 (some .int)) ({ frames := 5, cells := 0, slots := 0, locals := 114 }) [.ref (ad 3), .int wd] (zent Z sb mcn cp G.2.2.2.1 Y th o od ad) ad (fun r w1 ad1 => some (.int (nI (fPlan Z (zN Z 0) wd bt (2 ^ zN Z 0)))) = r ∧ zent Z sb mcn cp G.2.2.2.1 Y th o od ad = w1 ∧ ad = ad1) (zNoX) := by
  refine z_body hl (by decide +kernel) (Nat.le_of_ble_eq_true rfl) (fun X O => ?_)
  have L : ∀ (n : Nat) (i : Nat), 0 < i → i ≤ 2 ^ zN Z 0 → 2 ^ zN Z 0 < i + n → zV G X 5 0 0 15 [(0, .ref (ad 3)), (1, .int wd), (2, .int (nI (fPlan Z (zN Z 0) wd bt i))), (3, .int (nI (2 ^ zN Z 0))), (4, .int (nI i))] [] (zent Z sb mcn cp G.2.2.2.1 Y th o od ad) ad := by
    intro n
    induction n with
    | zero => intro i h0 h1 h2; omega
    | succ n ih =>
      intro i h0 h1 h2
      have hp4 := z_pow2 hL0.2.2.2
      have hbl := fPlan_lt Z (zN Z 0) wd bt i (by omega)
      refine z_iload O dX6_cheapestPlan_15 rfl ?_
      refine z_iload_n O dX6_cheapestPlan_17 rfl ?_
      refine z_icmp_ge O dX6_cheapestPlan_18 (tgt := 54) (by decide) (fun h => ?_) (fun h => ?_)
      · have hi : i = 2 ^ zN Z 0 := by have := z_ge_ge (by omega) (by omega) h; omega
        refine z_iload_n O dX6_cheapestPlan_54 rfl ?_
        exact z_iret O dX6_cheapestPlan_55 (Nat.le_of_ble_eq_true rfl) (Nat.le_of_ble_eq_true rfl) (⟨by rw [← hi], rfl, rfl⟩)
      · have hi : i < 2 ^ zN Z 0 := z_ge_lt (by omega) (by omega) h
        refine z_aload_n O dX6_cheapestPlan_21 rfl ?_
        refine z_iload O dX6_cheapestPlan_22 rfl ?_
        refine z_callV O (c_X6_strengthOf hl hL0 (P := i) (by omega)) zI zm3_48 zm3_49 zm3_50 zm3_29 zm3_34 ⟨rfl, by decide +kernel, by decide +kernel, (show _ = some 1 by decide +kernel)⟩ rfl (zg_tr) ⟨Nat.le_of_ble_eq_true rfl, Nat.le_of_ble_eq_true rfl⟩ ⟨Nat.le_of_ble_eq_true rfl, Nat.le_of_ble_eq_true rfl⟩ dX6_cheapestPlan_24 rfl (Nat.le_of_ble_eq_true rfl) (fun _ _ _ h => h.elim) (fun r w1 ad1 hp => ?_)
        obtain ⟨rfl, rfl, rfl⟩ := hp
        refine z_iload_n O dX6_cheapestPlan_27 rfl ?_
        refine z_icmp_lt O dX6_cheapestPlan_28 (tgt := 48) (by decide) (fun g => ?_) (fun g => ?_)
        · refine z_iincN O dX6_cheapestPlan_48 (a := i) rfl (by decide) ?_
          refine z_goto O dX6_cheapestPlan_51 (tgt := 15) (by decide) ?_
          exact zV.loc (ih (i + 1) (by omega) (by omega) (by omega)) ⟨rfl, rfl, by rw [show fPlan Z (zN Z 0) wd bt (i + 1) = fPlan Z (zN Z 0) wd bt i from by rw [fPlan, if_neg (show ¬ i = 0 by omega)]; exact if_neg (fun q => absurd q.1 (Int32.not_le.mpr g))]; rfl, rfl, rfl, trivial⟩
        · refine z_iload_n O dX6_cheapestPlan_31 rfl ?_
          refine z_if_eq O dX6_cheapestPlan_32 (tgt := 45) (by decide) (fun g2 => ?_) (fun g2 => ?_)
          · have g3 : fPlan Z (zN Z 0) wd bt i = 0 := (nI_eq (by omega) (by decide)).mp g2
            refine z_iload O dX6_cheapestPlan_45 rfl ?_
            refine z_istore_n O dX6_cheapestPlan_47 (by decide) ?_
            refine z_iincN O dX6_cheapestPlan_48 (a := i) rfl (by decide) ?_
            refine z_goto O dX6_cheapestPlan_51 (tgt := 15) (by decide) ?_
            exact zV.loc (ih (i + 1) (by omega) (by omega) (by omega)) ⟨rfl, rfl, by rw [show fPlan Z (zN Z 0) wd bt (i + 1) = i from by rw [fPlan, if_neg (show ¬ i = 0 by omega)]; exact if_pos ⟨Int32.not_lt.mp g, Or.inl g3⟩]; rfl, rfl, rfl, trivial⟩
          · have g3 : ¬ fPlan Z (zN Z 0) wd bt i = 0 := fun q => g2 (by rw [q]; rfl)
            refine z_aload_n O dX6_cheapestPlan_35 rfl ?_
            refine z_iload O dX6_cheapestPlan_36 rfl ?_
            refine z_iload_n O dX6_cheapestPlan_38 rfl ?_
            refine z_callV O (c_X6_isBetter hl hL0 (P := i) (Q := fPlan Z (zN Z 0) wd bt i) (by omega) (by omega)) zI zm3_51 zm3_52 zm3_53 zm3_29 zm3_47 ⟨rfl, by decide +kernel, by decide +kernel, (show _ = some 2 by decide +kernel)⟩ rfl (zg_tr) ⟨Nat.le_of_ble_eq_true rfl, Nat.le_of_ble_eq_true rfl⟩ ⟨Nat.le_of_ble_eq_true rfl, Nat.le_of_ble_eq_true rfl⟩ dX6_cheapestPlan_39 rfl (Nat.le_of_ble_eq_true rfl) (fun _ _ _ h => h.elim) (fun r w1 ad1 hp => ?_)
            rcases hp with ⟨rfl, hb, rfl, rfl⟩ | ⟨rfl, hb, rfl, rfl⟩
            · refine z_if_eq O dX6_cheapestPlan_42 (tgt := 48) (by decide) (fun q => absurd q (by decide)) (fun _ => ?_)
              refine z_iload O dX6_cheapestPlan_45 rfl ?_
              refine z_istore_n O dX6_cheapestPlan_47 (by decide) ?_
              refine z_iincN O dX6_cheapestPlan_48 (a := i) rfl (by decide) ?_
              refine z_goto O dX6_cheapestPlan_51 (tgt := 15) (by decide) ?_
              exact zV.loc (ih (i + 1) (by omega) (by omega) (by omega)) ⟨rfl, rfl, by rw [show fPlan Z (zN Z 0) wd bt (i + 1) = i from by rw [fPlan, if_neg (show ¬ i = 0 by omega)]; exact if_pos ⟨Int32.not_lt.mp g, Or.inr ((hbt _ _).mpr hb)⟩]; rfl, rfl, rfl, trivial⟩
            · refine z_if_eq O dX6_cheapestPlan_42 (tgt := 48) (by decide) (fun _ => ?_) (fun q => absurd rfl q)
              refine z_iincN O dX6_cheapestPlan_48 (a := i) rfl (by decide) ?_
              refine z_goto O dX6_cheapestPlan_51 (tgt := 15) (by decide) ?_
              exact zV.loc (ih (i + 1) (by omega) (by omega) (by omega)) ⟨rfl, rfl, by rw [show fPlan Z (zN Z 0) wd bt (i + 1) = fPlan Z (zN Z 0) wd bt i from by rw [fPlan, if_neg (show ¬ i = 0 by omega)]; exact if_neg (fun q => q.2.elim g3 (fun z => hb ((hbt _ _).mp z)))]; rfl, rfl, rfl, trivial⟩
  refine z_iconst O dX6_cheapestPlan_0 (v := 0) (by decide) ?_
  refine z_istore_n O dX6_cheapestPlan_1 (by decide) ?_
  refine z_iconst O dX6_cheapestPlan_2 (v := 1) (by decide) ?_
  refine z_aload_n O dX6_cheapestPlan_3 rfl ?_
  refine z_get O (fk := 0) (fun x h => zI x (zu_RX6 x h)) rfl (by decide) (zI _ zm3_16) dX6_cheapestPlan_4 (zg_tr) rfl ?_
  refine z_callV O (c_size_l hl (i := 0) (by decide) hL0) zI zm3_22 zm1_46 zm1_47 zm0_31 zm1_19 ⟨rfl, by decide +kernel, by decide +kernel, (show _ = some 0 by decide +kernel)⟩ rfl ((zg_list0 (i := 0) (by decide) hL0)) ⟨Nat.le_of_ble_eq_true rfl, Nat.le_of_ble_eq_true rfl⟩ ⟨Nat.le_of_ble_eq_true rfl, Nat.le_of_ble_eq_true rfl⟩ dX6_cheapestPlan_7 rfl (Nat.le_of_ble_eq_true rfl) (fun _ _ _ h => h.elim) (fun r w1 ad1 hp => ?_)
  obtain ⟨rfl, rfl, rfl⟩ := hp
  refine z_ishl O dX6_cheapestPlan_10 ?_
  rw [z_pow (zN Z 0) hL0.2.2.2]
  refine z_istore_n O dX6_cheapestPlan_11 (by decide) ?_
  refine z_iconst O dX6_cheapestPlan_12 (v := 1) (by decide) ?_
  refine z_istore O dX6_cheapestPlan_13 (by decide) ?_
  exact zV.loc (L (2 ^ zN Z 0 + 1) 1 (by omega) (Nat.one_le_two_pow) (by omega)) ⟨rfl, rfl, rfl, rfl, rfl, trivial⟩
