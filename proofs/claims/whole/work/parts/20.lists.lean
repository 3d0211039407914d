def zLs (m : Int32) (v : Value) (n : Int32) : zE := .inr (2, [.int m, v, .int n])
def zAr (n : Nat) (f : Nat → Option Nat) : zE := .inl (6, (n, .inr (.inr (.inr (.inr f)))))
def wU (w : zH) (i : Nat) (e : zE) : zH := fun j => if j = i then some e else w j
theorem wU_eq {w : zH} {i : Nat} {e : zE} : ∀ j, wU w i e j = if j = i then some e else w j := fun _ => rfl
theorem wU_s {w : zH} {i : Nat} {e : zE} : wU w i e i = some e := by simp [wU]
theorem wU_n {w : zH} {i j : Nat} {e : zE} (h : j ≠ i) : wU w i e j = w j := by simp [wU, h]
set_option maxRecDepth 100000 in
set_option maxHeartbeats 4000000 in
theorem c_Jx4a65c_size_8abf5 {G : zG} {l : Launch} (hl : l.stackTraces = false) {w : zH} {ad : Nat → Nat} {a : Nat} {m0 : Int32} {v : Value} {n : Int32} (hw : w a = some (zLs m0 v n)) : zCt G l yJx4a65c_size_8abf5 (zws yJx4a65c_size_8abf5 cJx4a65c_size_8abf5 1 (some .int)) ({ frames := 0, cells := 0, slots := 0, locals := 0 }) [.ref (ad a)] (w) ad (fun r w1 ad1 => some (.int n) = r ∧ w = w1 ∧ ad = ad1) (zNoX) := by
  refine z_body hl (by decide +kernel) (Nat.le_of_ble_eq_true rfl) (fun X O => ?_)
  refine z_aload_n O dJx4a65c_size_8abf5_0 rfl ?_
  refine z_get O (fk := 2) (fun x h => zI x (zu_RJx4a65c x h)) rfl (by decide) (zI _ zm0_45) dJx4a65c_size_8abf5_1 (hw) rfl ?_
  exact z_iret O dJx4a65c_size_8abf5_4 (Nat.le_of_ble_eq_true rfl) (Nat.le_of_ble_eq_true rfl) (⟨rfl, rfl, rfl⟩)

set_option maxRecDepth 100000 in
set_option maxHeartbeats 4000000 in
theorem c_J3_checkIndex_8e157 {G : zG} {l : Launch} (hl : l.stackTraces = false) {w : zH} {ad : Nat → Nat} {x y : Int32} (h0 : ¬ x < 0) (h1 : x < y) : zCt G l yJ3_checkIndex_8e157 (zws yJ3_checkIndex_8e157 cJ3_checkIndex_8e157 3 (some .int)) ({ frames := 0, cells := 0, slots := 0, locals := 0 }) [.int x, .int y, .null] (w) ad (fun r w1 ad1 => some (.int x) = r ∧ w = w1 ∧ ad = ad1) (zNoX) := by
  refine z_body hl (by decide +kernel) (Nat.le_of_ble_eq_true rfl) (fun X O => ?_)
  refine z_iload_n O dJ3_checkIndex_8e157_0 rfl ?_
  refine z_if_lt O dJ3_checkIndex_8e157_1 (tgt := 9) (by decide) (fun h => ?_) (fun h => ?_)
  · exact absurd h h0
  · refine z_iload_n O dJ3_checkIndex_8e157_4 rfl ?_
    refine z_iload_n O dJ3_checkIndex_8e157_5 rfl ?_
    refine z_icmp_lt O dJ3_checkIndex_8e157_6 (tgt := 16) (by decide) (fun h => ?_) (fun h => ?_)
    · refine z_iload_n O dJ3_checkIndex_8e157_16 rfl ?_
      exact z_iret O dJ3_checkIndex_8e157_17 (Nat.le_of_ble_eq_true rfl) (Nat.le_of_ble_eq_true rfl) (⟨rfl, rfl, rfl⟩)
    · exact absurd h1 h

set_option maxRecDepth 100000 in
set_option maxHeartbeats 4000000 in
theorem c_J15_checkIndex_7cf53 {G : zG} {l : Launch} (hl : l.stackTraces = false) {w : zH} {ad : Nat → Nat} {x y : Int32} (h0 : ¬ x < 0) (h1 : x < y) : zCt G l yJ15_checkIndex_7cf53 (zws yJ15_checkIndex_7cf53 cJ15_checkIndex_7cf53 2 (some .int)) ({ frames := 1, cells := 0, slots := 0, locals := 22 }) [.int x, .int y] (w) ad (fun r w1 ad1 => some (.int x) = r ∧ w = w1 ∧ ad = ad1) (zNoX) := by
  refine z_body hl (by decide +kernel) (Nat.le_of_ble_eq_true rfl) (fun X O => ?_)
  refine z_iload_n O dJ15_checkIndex_7cf53_0 rfl ?_
  refine z_iload_n O dJ15_checkIndex_7cf53_1 rfl ?_
  refine z_null O dJ15_checkIndex_7cf53_2 ?_
  refine z_callS O (c_J3_checkIndex_8e157 hl h0 h1) zI zm1_22 zm1_23 zm1_24 zm1_20 ⟨by decide +kernel, by decide +kernel, (show _ = some 3 by decide +kernel)⟩ ⟨Nat.le_of_ble_eq_true rfl, Nat.le_of_ble_eq_true rfl⟩ ⟨Nat.le_of_ble_eq_true rfl, Nat.le_of_ble_eq_true rfl⟩ dJ15_checkIndex_7cf53_3 rfl (Nat.le_of_ble_eq_true rfl) (fun _ _ _ h => h.elim) (fun r w1 ad1 hp => ?_)
  obtain ⟨rfl, rfl, rfl⟩ := hp
  exact z_iret O dJ15_checkIndex_7cf53_6 (Nat.le_of_ble_eq_true rfl) (Nat.le_of_ble_eq_true rfl) (⟨rfl, rfl, rfl⟩)

set_option maxRecDepth 100000 in
set_option maxHeartbeats 4000000 in
theorem c_Jx4a65c_elementData_915e3 {G : zG} {l : Launch} (hl : l.stackTraces = false) {w : zH} {ad : Nat → Nat} {a b k n cp : Nat} {m0 : Int32} {f : Nat → Option Nat} (hw : w a = some (zLs m0 (.ref (ad b)) (nI n))) (hb : w b = some (zAr cp f)) (hk : k < n) (hn : n ≤ cp) (hcp : cp < 2 ^ 31) : zCt G l yJx4a65c_elementData_915e3 (zws yJx4a65c_elementData_915e3 cJx4a65c_elementData_915e3 2 (some (.object "java/lang/Object"))) ({ frames := 0, cells := 0, slots := 0, locals := 0 }) [.ref (ad a), .int (nI k)] (w) ad (fun r w1 ad1 => some (va_rf (f k)) = r ∧ w = w1 ∧ ad = ad1) (zNoX) := by
  refine z_body hl (by decide +kernel) (Nat.le_of_ble_eq_true rfl) (fun X O => ?_)
  refine z_aload_n O dJx4a65c_elementData_915e3_0 rfl ?_
  refine z_get O (fk := 1) (fun x h => zI x (zu_RJx4a65c x h)) rfl (by decide) (zI _ zm0_24) dJx4a65c_elementData_915e3_1 (hw) rfl ?_
  refine z_iload_n O dJx4a65c_elementData_915e3_4 rfl ?_
  refine z_aald O (Or.inr rfl) dJx4a65c_elementData_915e3_5 (hb) k rfl (by omega) hcp ?_
  exact z_aret O (r := _) rfl (by first | exact Or.inl ⟨_, rfl⟩ | exact Or.inr ⟨_, rfl⟩) dJx4a65c_elementData_915e3_6 (Nat.le_of_ble_eq_true rfl) (Nat.le_of_ble_eq_true rfl) (⟨rfl, rfl, rfl⟩)

set_option maxRecDepth 100000 in
set_option maxHeartbeats 4000000 in
theorem c_Jx4a65c_get_915e3 {G : zG} {l : Launch} (hl : l.stackTraces = false) {w : zH} {ad : Nat → Nat} {a b k n cp : Nat} {m0 : Int32} {f : Nat → Option Nat} (hw : w a = some (zLs m0 (.ref (ad b)) (nI n))) (hb : w b = some (zAr cp f)) (hk : k < n) (hn : n ≤ cp) (hcp : cp < 2 ^ 31) : zCt G l yJx4a65c_get_915e3 (zws yJx4a65c_get_915e3 cJx4a65c_get_915e3 2 (some (.object "java/lang/Object"))) ({ frames := 2, cells := 0, slots := 0, locals := 43 }) [.ref (ad a), .int (nI k)] (w) ad (fun r w1 ad1 => some (va_rf (f k)) = r ∧ w = w1 ∧ ad = ad1) (zNoX) := by
  refine z_body hl (by decide +kernel) (Nat.le_of_ble_eq_true rfl) (fun X O => ?_)
  refine z_iload_n O dJx4a65c_get_915e3_0 rfl ?_
  refine z_aload_n O dJx4a65c_get_915e3_1 rfl ?_
  refine z_get O (fk := 2) (fun x h => zI x (zu_RJx4a65c x h)) rfl (by decide) (zI _ zm0_45) dJx4a65c_get_915e3_2 (hw) rfl ?_
  refine z_callS O (c_J15_checkIndex_7cf53 hl (x := nI k) (y := nI n) (nI_pos (by omega)) (nI_lt hk (by omega))) zI zm1_27 zm1_28 zm1_29 zm1_21 ⟨by decide +kernel, by decide +kernel, (show _ = some 2 by decide +kernel)⟩ ⟨Nat.le_of_ble_eq_true rfl, Nat.le_of_ble_eq_true rfl⟩ ⟨Nat.le_of_ble_eq_true rfl, Nat.le_of_ble_eq_true rfl⟩ dJx4a65c_get_915e3_5 rfl (Nat.le_of_ble_eq_true rfl) (fun _ _ _ h => h.elim) (fun r w1 ad1 hp => ?_)
  obtain ⟨rfl, rfl, rfl⟩ := hp
  refine z_pop O dJx4a65c_get_915e3_8 rfl ?_
  refine z_aload_n O dJx4a65c_get_915e3_9 rfl ?_
  refine z_iload_n O dJx4a65c_get_915e3_10 rfl ?_
  refine z_callV O (c_Jx4a65c_elementData_915e3 hl hw hb hk hn hcp) zI zm1_30 zm1_31 zm1_32 zm0_31 zm1_25 ⟨rfl, by decide +kernel, by decide +kernel, (show _ = some 1 by decide +kernel)⟩ rfl (hw) ⟨Nat.le_of_ble_eq_true rfl, Nat.le_of_ble_eq_true rfl⟩ ⟨Nat.le_of_ble_eq_true rfl, Nat.le_of_ble_eq_true rfl⟩ dJx4a65c_get_915e3_11 rfl (Nat.le_of_ble_eq_true rfl) (fun _ _ _ h => h.elim) (fun r w1 ad1 hp => ?_)
  obtain ⟨rfl, rfl, rfl⟩ := hp
  exact z_aret O (r := _) rfl (by first | exact Or.inl ⟨_, rfl⟩ | exact Or.inr ⟨_, rfl⟩) dJx4a65c_get_915e3_14 (Nat.le_of_ble_eq_true rfl) (Nat.le_of_ble_eq_true rfl) (⟨rfl, rfl, rfl⟩)
