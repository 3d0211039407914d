/-- a list of the world: how many, within what its row can hold -/
def zLst (Z : zM) (cp : Nat → Nat) (i : Nat) : Prop := Z (25 + i) 0 = nI (zN Z i) ∧ zN Z i ≤ cp i ∧ cp i ≤ 15 ∧ zN Z i ≤ 12
section ZLT
variable {Z : zM} {sb : Nat → Option Nat} {mcn : Nat → Int32} {cp : Nat → Nat} {e0 : Nat} {Y : zM} {th : Int32} {o : Nat → Int64} {od : Nat → UInt64} {ad : Nat → Nat}
theorem zg_list0 {i : Nat} (h : i < 3) (hL : zLst Z cp i) : zent Z sb mcn cp e0 Y th o od ad (5 + i) = some (zLs (mcn i) (.ref (if cp i = 0 then e0 else ad (8 + i))) (nI (zN Z i))) := by
  rw [zg_list h]
  unfold eList zLs
  rw [hL.1]
theorem zg_list1 {i : Nat} (h : i < 3) (hL : zLst Z cp i) (hc : cp i ≠ 0) : zent Z sb mcn cp e0 Y th o od ad (5 + i) = some (zLs (mcn i) (.ref (ad (8 + i))) (nI (zN Z i))) := by
  rw [zg_list0 h hL, if_neg hc]
end ZLT
/-- a walk may use what is true of addresses -/
theorem zV.inj {G : zG} {X : zXT} {nL kc ks pc : Nat} {lsv : List (Nat × Value)} {st : List Value} {w : zH} {ad : Nat → Nat} {i j : Nat} (hi : w i ≠ none) (hj : w j ≠ none) (k : (ad i = ad j → i = j) → zV G X nL kc ks pc lsv st w ad) : zV G X nL kc ks pc lsv st w ad := fun H lsA hR hL => k (hR.2 i j hi hj) H lsA hR hL
theorem c_get_hand {G : zG} {l : Launch} (hl : l.stackTraces = false) {Z : zM} {sb : Nat → Option Nat} {mcn : Nat → Int32} {cp : Nat → Nat} {Y : zM} {th : Int32} {o : Nat → Int64} {od : Nat → UInt64} {ad : Nat → Nat} {k : Nat} (hL : zLst Z cp 0) (hk : k < zN Z 0) : zCt G l yJx4a65c_get_915e3 (zws yJx4a65c_get_915e3 cJx4a65c_get_915e3 2 (some (.object "java/lang/Object"))) ({ frames := 2, cells := 0, slots := 0, locals := 43 }) [.ref (ad 5), .int (nI k)] (zent Z sb mcn cp G.2.2.2.1 Y th o od ad) ad (fun r w1 ad1 => some (.ref (ad (200 + k))) = r ∧ zent Z sb mcn cp G.2.2.2.1 Y th o od ad = w1 ∧ ad = ad1) zNoX := by
  have hc : cp 0 ≠ 0 := by have := hL.2.1; omega
  refine (c_Jx4a65c_get_915e3 hl (zg_list1 (i := 0) (by decide) hL hc) (b := 8) (zg_larr (i := 0) (by decide) hc) hk hL.2.1 (by have := hL.2.2.1; omega)).post (fun r w1 ad1 h => ?_) (fun _ _ _ h => h)
  obtain ⟨h1, h2, h3⟩ := h
  refine ⟨?_, h2, h3⟩
  rw [← h1]
  show _ = some (va_rf (if k < zN Z 0 then some (ad (200 + 20 * 0 + k)) else none))
  rw [if_pos hk]
  rfl
theorem c_get_singer {G : zG} {l : Launch} (hl : l.stackTraces = false) {Z : zM} {sb : Nat → Option Nat} {mcn : Nat → Int32} {cp : Nat → Nat} {Y : zM} {th : Int32} {o : Nat → Int64} {od : Nat → UInt64} {ad : Nat → Nat} {k : Nat} (hL : zLst Z cp 1) (hk : k < zN Z 1) : zCt G l yJx4a65c_get_915e3 (zws yJx4a65c_get_915e3 cJx4a65c_get_915e3 2 (some (.object "java/lang/Object"))) ({ frames := 2, cells := 0, slots := 0, locals := 43 }) [.ref (ad 6), .int (nI k)] (zent Z sb mcn cp G.2.2.2.1 Y th o od ad) ad (fun r w1 ad1 => some (.ref (ad (220 + k))) = r ∧ zent Z sb mcn cp G.2.2.2.1 Y th o od ad = w1 ∧ ad = ad1) zNoX := by
  have hc : cp 1 ≠ 0 := by have := hL.2.1; omega
  refine (c_Jx4a65c_get_915e3 hl (zg_list1 (i := 1) (by decide) hL hc) (b := 9) (zg_larr (i := 1) (by decide) hc) hk hL.2.1 (by have := hL.2.2.1; omega)).post (fun r w1 ad1 h => ?_) (fun _ _ _ h => h)
  obtain ⟨h1, h2, h3⟩ := h
  refine ⟨?_, h2, h3⟩
  rw [← h1]
  show _ = some (va_rf (if k < zN Z 1 then some (ad (200 + 20 * 1 + k)) else none))
  rw [if_pos hk]
  rfl
theorem c_get_cue {G : zG} {l : Launch} (hl : l.stackTraces = false) {Z : zM} {sb : Nat → Option Nat} {mcn : Nat → Int32} {cp : Nat → Nat} {Y : zM} {th : Int32} {o : Nat → Int64} {od : Nat → UInt64} {ad : Nat → Nat} {k : Nat} (hL : zLst Z cp 2) (hk : k < zN Z 2) : zCt G l yJx4a65c_get_915e3 (zws yJx4a65c_get_915e3 cJx4a65c_get_915e3 2 (some (.object "java/lang/Object"))) ({ frames := 2, cells := 0, slots := 0, locals := 43 }) [.ref (ad 7), .int (nI k)] (zent Z sb mcn cp G.2.2.2.1 Y th o od ad) ad (fun r w1 ad1 => some (.ref (ad (240 + k))) = r ∧ zent Z sb mcn cp G.2.2.2.1 Y th o od ad = w1 ∧ ad = ad1) zNoX := by
  have hc : cp 2 ≠ 0 := by have := hL.2.1; omega
  refine (c_Jx4a65c_get_915e3 hl (zg_list1 (i := 2) (by decide) hL hc) (b := 10) (zg_larr (i := 2) (by decide) hc) hk hL.2.1 (by have := hL.2.2.1; omega)).post (fun r w1 ad1 h => ?_) (fun _ _ _ h => h)
  obtain ⟨h1, h2, h3⟩ := h
  refine ⟨?_, h2, h3⟩
  rw [← h1]
  show _ = some (va_rf (if k < zN Z 2 then some (ad (200 + 20 * 2 + k)) else none))
  rw [if_pos hk]
  rfl
theorem c_size_l {G : zG} {l : Launch} (hl : l.stackTraces = false) {Z : zM} {sb : Nat → Option Nat} {mcn : Nat → Int32} {cp : Nat → Nat} {Y : zM} {th : Int32} {o : Nat → Int64} {od : Nat → UInt64} {ad : Nat → Nat} {i : Nat} (hi : i < 3) (hL : zLst Z cp i) : zCt G l yJx4a65c_size_8abf5 (zws yJx4a65c_size_8abf5 cJx4a65c_size_8abf5 1 (some .int)) ({ frames := 0, cells := 0, slots := 0, locals := 0 }) [.ref (ad (5 + i))] (zent Z sb mcn cp G.2.2.2.1 Y th o od ad) ad (fun r w1 ad1 => some (.int (nI (zN Z i))) = r ∧ zent Z sb mcn cp G.2.2.2.1 Y th o od ad = w1 ∧ ad = ad1) zNoX := c_Jx4a65c_size_8abf5 hl (zg_list0 hi hL)
def fLastTick (Z : zM) (c : Nat) : Int32 := Z 20 c + Z 22 c - 1
abbrev fOn (Z : zM) (c : Nat) (t : Int32) : Prop := Z 20 c ≤ t ∧ t ≤ fLastTick Z c
abbrev fFollows (Z : zM) (j c : Nat) : Prop := Z 9 j = 97 ∨ Z 9 j = Z 10 c
set_option maxRecDepth 100000 in
set_option maxHeartbeats 4000000 in
theorem c_X0_lastTick {G : zG} {l : Launch} (hl : l.stackTraces = false) {Z : zM} {sb : Nat → Option Nat} {mcn : Nat → Int32} {cp : Nat → Nat} {Y : zM} {th : Int32} {o : Nat → Int64} {od : Nat → UInt64} {ad : Nat → Nat} {k : Nat} (hk : k < zN Z 2) (hk2 : k < 20) : zCt G l yX0_lastTick (zws yX0_lastTick cX0_lastTick 1 (some .int)) ({ frames := 0, cells := 0, slots := 0, locals := 0 }) [.ref (ad (240 + k))] (zent Z sb mcn cp G.2.2.2.1 Y th o od ad) ad (fun r w1 ad1 => some (.int (fLastTick Z k)) = r ∧ zent Z sb mcn cp G.2.2.2.1 Y th o od ad = w1 ∧ ad = ad1) (zNoX) := by
  refine z_body hl (by decide +kernel) (Nat.le_of_ble_eq_true rfl) (fun X O => ?_)
  refine z_aload_n O dX0_lastTick_0 rfl ?_
  refine z_get O (fk := 2) (fun x h => zI x (zu_RX0 x h)) rfl (by decide) (zI _ zm0_6) dX0_lastTick_1 (zg_cue hk hk2) rfl ?_
  refine z_aload_n O dX0_lastTick_4 rfl ?_
  refine z_get O (fk := 4) (fun x h => zI x (zu_RX0 x h)) rfl (by decide) (zI _ zm0_8) dX0_lastTick_5 (zg_cue hk hk2) rfl ?_
  refine z_iadd O dX0_lastTick_8 ?_
  refine z_iconst O dX0_lastTick_9 (v := 1) (by decide) ?_
  refine z_isub O dX0_lastTick_10 ?_
  exact z_iret O dX0_lastTick_11 (Nat.le_of_ble_eq_true rfl) (Nat.le_of_ble_eq_true rfl) (⟨rfl, rfl, rfl⟩)

set_option maxRecDepth 100000 in
set_option maxHeartbeats 4000000 in
theorem c_X0_isOnIn {G : zG} {l : Launch} (hl : l.stackTraces = false) {Z : zM} {sb : Nat → Option Nat} {mcn : Nat → Int32} {cp : Nat → Nat} {Y : zM} {th : Int32} {o : Nat → Int64} {od : Nat → UInt64} {ad : Nat → Nat} {k : Nat} (hk : k < zN Z 2) (hk2 : k < 20) {t : Int32} : zCt G l yX0_isOnIn (zws yX0_isOnIn cX0_isOnIn 2 (some .boolean)) ({ frames := 1, cells := 0, slots := 0, locals := 20 }) [.ref (ad (240 + k)), .int t] (zent Z sb mcn cp G.2.2.2.1 Y th o od ad) ad (fun r w1 ad1 => (some (.int 1) = r ∧ fOn Z k t ∧ zent Z sb mcn cp G.2.2.2.1 Y th o od ad = w1 ∧ ad = ad1) ∨ (some (.int 0) = r ∧ ¬ fOn Z k t ∧ zent Z sb mcn cp G.2.2.2.1 Y th o od ad = w1 ∧ ad = ad1)) (zNoX) := by
  refine z_body hl (by decide +kernel) (Nat.le_of_ble_eq_true rfl) (fun X O => ?_)
  refine z_aload_n O dX0_isOnIn_0 rfl ?_
  refine z_get O (fk := 2) (fun x h => zI x (zu_RX0 x h)) rfl (by decide) (zI _ zm0_6) dX0_isOnIn_1 (zg_cue hk hk2) rfl ?_
  refine z_iload_n O dX0_isOnIn_4 rfl ?_
  refine z_icmp_gt O dX0_isOnIn_5 (tgt := 20) (by decide) (fun h => ?_) (fun h => ?_)
  · refine z_iconst O dX0_isOnIn_20 (v := 0) (by decide) ?_
    exact z_zret O rfl rfl dX0_isOnIn_21 (Nat.le_of_ble_eq_true rfl) (Nat.le_of_ble_eq_true rfl) (Or.inr ⟨rfl, fun q => absurd q.1 (Int32.not_le.mpr h), rfl, rfl⟩)
  · refine z_iload_n O dX0_isOnIn_8 rfl ?_
    refine z_aload_n O dX0_isOnIn_9 rfl ?_
    refine z_callV O (c_X0_lastTick hl hk hk2) zI zm0_11 zm0_12 zm0_13 zm0_14 zm0_9 ⟨rfl, by decide +kernel, by decide +kernel, (show _ = some 0 by decide +kernel)⟩ rfl (zg_cue hk hk2) ⟨Nat.le_of_ble_eq_true rfl, Nat.le_of_ble_eq_true rfl⟩ ⟨Nat.le_of_ble_eq_true rfl, Nat.le_of_ble_eq_true rfl⟩ dX0_isOnIn_10 rfl (Nat.le_of_ble_eq_true rfl) (fun _ _ _ h => h.elim) (fun r w1 ad1 hp => ?_)
    obtain ⟨rfl, rfl, rfl⟩ := hp
    refine z_icmp_gt O dX0_isOnIn_13 (tgt := 20) (by decide) (fun h2 => ?_) (fun h2 => ?_)
    · refine z_iconst O dX0_isOnIn_20 (v := 0) (by decide) ?_
      exact z_zret O rfl rfl dX0_isOnIn_21 (Nat.le_of_ble_eq_true rfl) (Nat.le_of_ble_eq_true rfl) (Or.inr ⟨rfl, fun q => absurd q.2 (Int32.not_le.mpr h2), rfl, rfl⟩)
    · refine z_iconst O dX0_isOnIn_16 (v := 1) (by decide) ?_
      refine z_goto O dX0_isOnIn_17 (tgt := 21) (by decide) ?_
      exact z_zret O rfl rfl dX0_isOnIn_21 (Nat.le_of_ble_eq_true rfl) (Nat.le_of_ble_eq_true rfl) (Or.inl ⟨rfl, ⟨Int32.not_lt.mp h, Int32.not_lt.mp h2⟩, rfl, rfl⟩)

set_option maxRecDepth 100000 in
set_option maxHeartbeats 4000000 in
theorem c_X2_parts {G : zG} {l : Launch} (hl : l.stackTraces = false) {Z : zM} {sb : Nat → Option Nat} {mcn : Nat → Int32} {cp : Nat → Nat} {Y : zM} {th : Int32} {o : Nat → Int64} {od : Nat → UInt64} {ad : Nat → Nat} {j : Nat} (hj : j < zN Z 0) (hj2 : j < 20) : zCt G l yX2_parts (zws yX2_parts cX2_parts 1 (some .int)) ({ frames := 0, cells := 0, slots := 0, locals := 0 }) [.ref (ad (200 + j))] (zent Z sb mcn cp G.2.2.2.1 Y th o od ad) ad (fun r w1 ad1 => some (.int (Z 12 j + 1)) = r ∧ zent Z sb mcn cp G.2.2.2.1 Y th o od ad = w1 ∧ ad = ad1) (zNoX) := by
  refine z_body hl (by decide +kernel) (Nat.le_of_ble_eq_true rfl) (fun X O => ?_)
  refine z_aload_n O dX2_parts_0 rfl ?_
  refine z_get O (fk := 2) (fun x h => zI x (zu_RX2 x h)) rfl (by decide) (zI _ zm2_45) dX2_parts_1 (zg_hand hj hj2) rfl ?_
  refine z_iconst O dX2_parts_4 (v := 1) (by decide) ?_
  refine z_iadd O dX2_parts_5 ?_
  exact z_iret O dX2_parts_6 (Nat.le_of_ble_eq_true rfl) (Nat.le_of_ble_eq_true rfl) (⟨rfl, rfl, rfl⟩)

set_option maxRecDepth 100000 in
set_option maxHeartbeats 4000000 in
theorem c_X2_follows {G : zG} {l : Launch} (hl : l.stackTraces = false) {Z : zM} {sb : Nat → Option Nat} {mcn : Nat → Int32} {cp : Nat → Nat} {Y : zM} {th : Int32} {o : Nat → Int64} {od : Nat → UInt64} {ad : Nat → Nat} {j : Nat} (hj : j < zN Z 0) (hj2 : j < 20) {k : Nat} (hk : k < zN Z 2) (hk2 : k < 20) : zCt G l yX2_follows (zws yX2_follows cX2_follows 2 (some .boolean)) ({ frames := 0, cells := 0, slots := 0, locals := 0 }) [.ref (ad (200 + j)), .ref (ad (240 + k))] (zent Z sb mcn cp G.2.2.2.1 Y th o od ad) ad (fun r w1 ad1 => (some (.int 1) = r ∧ fFollows Z j k ∧ zent Z sb mcn cp G.2.2.2.1 Y th o od ad = w1 ∧ ad = ad1) ∨ (some (.int 0) = r ∧ ¬ fFollows Z j k ∧ zent Z sb mcn cp G.2.2.2.1 Y th o od ad = w1 ∧ ad = ad1)) (zNoX) := by
  refine z_body hl (by decide +kernel) (Nat.le_of_ble_eq_true rfl) (fun X O => ?_)
  refine z_aload_n O dX2_follows_0 rfl ?_
  refine z_get O (fk := 0) (fun x h => zI x (zu_RX2 x h)) rfl (by decide) (zI _ zm1_34) dX2_follows_1 (zg_hand hj hj2) rfl ?_
  refine z_bipush O dX2_follows_4 (v := 97) (by decide) ?_
  refine z_icmp_eq O dX2_follows_6 (tgt := 20) (by decide) (fun h => ?_) (fun h => ?_)
  · refine z_iconst O dX2_follows_20 (v := 1) (by decide) ?_
    refine z_goto O dX2_follows_21 (tgt := 25) (by decide) ?_
    exact z_zret O rfl rfl dX2_follows_25 (Nat.le_of_ble_eq_true rfl) (Nat.le_of_ble_eq_true rfl) (Or.inl ⟨rfl, Or.inl h, rfl, rfl⟩)
  · refine z_aload_n O dX2_follows_9 rfl ?_
    refine z_get O (fk := 0) (fun x h => zI x (zu_RX2 x h)) rfl (by decide) (zI _ zm1_34) dX2_follows_10 (zg_hand hj hj2) rfl ?_
    refine z_aload_n O dX2_follows_13 rfl ?_
    refine z_get O (fk := 1) (fun x h => zI x (zu_RX0 x h)) rfl (by decide) (zI _ zm1_35) dX2_follows_14 (zg_cue hk hk2) rfl ?_
    refine z_icmp_ne O dX2_follows_17 (tgt := 24) (by decide) (fun h2 => ?_) (fun h2 => ?_)
    · refine z_iconst O dX2_follows_24 (v := 0) (by decide) ?_
      exact z_zret O rfl rfl dX2_follows_25 (Nat.le_of_ble_eq_true rfl) (Nat.le_of_ble_eq_true rfl) (Or.inr ⟨rfl, fun q => q.elim h h2, rfl, rfl⟩)
    · refine z_iconst O dX2_follows_20 (v := 1) (by decide) ?_
      refine z_goto O dX2_follows_21 (tgt := 25) (by decide) ?_
      exact z_zret O rfl rfl dX2_follows_25 (Nat.le_of_ble_eq_true rfl) (Nat.le_of_ble_eq_true rfl) (Or.inl ⟨rfl, Or.inr h2, rfl, rfl⟩)
