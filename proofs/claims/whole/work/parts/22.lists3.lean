set_option maxRecDepth 100000 in
set_option maxHeartbeats 4000000 in
theorem c_J8_newLength_cabcc {G : zG} {l : Launch} (hl : l.stackTraces = false) {w : zH} {ad : Nat → Nat} {x y z : Int32} (h1 : ¬ x + (if y < z then z else y) ≤ 0) (h2 : ¬ 2147483639 < x + (if y < z then z else y)) : zCt G l yJ8_newLength_cabcc (zws yJ8_newLength_cabcc cJ8_newLength_cabcc 4 (some .int)) ({ frames := 1, cells := 0, slots := 0, locals := 21 }) [.int x, .int y, .int z] (w) ad (fun r w1 ad1 => some (.int (x + (if y < z then z else y))) = r ∧ w = w1 ∧ ad = ad1) (zNoX) := by
  refine z_body hl (by decide +kernel) (Nat.le_of_ble_eq_true rfl) (fun X O => ?_)
  refine z_iload_n O dJ8_newLength_cabcc_0 rfl ?_
  refine z_iload_n O dJ8_newLength_cabcc_1 rfl ?_
  refine z_iload_n O dJ8_newLength_cabcc_2 rfl ?_
  refine z_mmax O zI zm4_58 zm1_14 zm1_11 zm1_15 dJ8_newLength_cabcc_3 (Nat.le_of_ble_eq_true rfl) (Nat.le_of_ble_eq_true rfl) (Nat.le_of_ble_eq_true rfl) (Nat.le_of_ble_eq_true rfl) ?_
  refine z_iadd O dJ8_newLength_cabcc_6 ?_
  refine z_istore_n O dJ8_newLength_cabcc_7 (by decide) ?_
  refine z_iconst O dJ8_newLength_cabcc_8 (v := 0) (by decide) ?_
  refine z_iload_n O dJ8_newLength_cabcc_9 rfl ?_
  refine z_icmp_ge O dJ8_newLength_cabcc_10 (tgt := 21) (by decide) (fun h => ?_) (fun h => ?_)
  · exact absurd h h1
  · refine z_iload_n O dJ8_newLength_cabcc_13 rfl ?_
    refine z_ldc O (zI _ zm4_56) dJ8_newLength_cabcc_14 ?_
    refine z_icmp_gt O dJ8_newLength_cabcc_16 (tgt := 21) (by decide) (fun h9 => ?_) (fun h9 => ?_)
    · exact absurd h9 h2
    · refine z_iload_n O dJ8_newLength_cabcc_19 rfl ?_
      exact z_iret O dJ8_newLength_cabcc_20 (Nat.le_of_ble_eq_true rfl) (Nat.le_of_ble_eq_true rfl) (⟨rfl, rfl, rfl⟩)

set_option maxRecDepth 100000 in
set_option maxHeartbeats 4000000 in
theorem c_J7_copyOf_6403c {G : zG} {l : Launch} (hl : l.stackTraces = false) {w : zH} {ad : Nat → Nat} {C : String} {T : u_T} {N ci : Nat} (hC : C ∈ zObs) (hc : vwCl[ci]? = some (C, T, N)) {b t : Nat} {f : Nat → Option Nat} (hbt : b ≠ t) (hb : w b = some (zAr 10 f)) (htn : w t = none) (hel : ∀ i, i < 10 → ∃ c fs, f i = some (ad c) ∧ w c = some (.inr (ci, fs)) ∧ c ≠ t) : zCt G l yJ7_copyOf_6403c (zws yJ7_copyOf_6403c cJ7_copyOf_6403c 4 (some (.array (.object "java/lang/Object")))) ({ frames := 1, cells := 1, slots := 15, locals := 60 }) [.ref (ad b), .int 15, .ref G.2.2.2.2] (w) ad (fun r w1 ad1 => ∃ q, some (.ref (va_up ad t q t)) = r ∧ wU w t (zAr 15 (fun k => if k < 10 then f k else none)) = w1 ∧ va_up ad t q = ad1) (zNoX) := by
  refine z_body hl (by decide +kernel) (Nat.le_of_ble_eq_true rfl) (fun X O => ?_)
  refine z_aload_n O dJ7_copyOf_6403c_0 rfl ?_
  refine z_ldcM O (zI _ zm4_63) dJ7_copyOf_6403c_1 ?_
  refine z_acmp_ne O (rx := some G.2.2.2.2) (ry := some G.2.2.2.2) dJ7_copyOf_6403c_3 (tgt := 13) (by decide) (fun h => absurd rfl h) (fun _ => ?_)
  refine z_iload_n O dJ7_copyOf_6403c_6 rfl ?_
  refine z_anew O (w' := fun _ => wU w t (zAr 15 (fun _ => none))) t 6 (Or.inr ⟨rfl, rfl⟩) (zI _ zm4_64) (N := 15) (by decide) (by decide) (by decide) (Nat.le_of_ble_eq_true rfl) (Nat.le_of_ble_eq_true rfl) dJ7_copyOf_6403c_7 htn (fun _ => wU_eq) (fun q => ?_)
  rw [show ad b = va_up ad t q b from (zup_n hbt).symm]
  refine z_goto O dJ7_copyOf_6403c_10 (tgt := 24) (by decide) ?_
  refine z_astore_n O dJ7_copyOf_6403c_24 (by decide) ?_
  refine z_aload_n O dJ7_copyOf_6403c_25 rfl ?_
  refine z_iconst O dJ7_copyOf_6403c_26 (v := 0) (by decide) ?_
  refine z_aload_n O dJ7_copyOf_6403c_27 rfl ?_
  refine z_iconst O dJ7_copyOf_6403c_28 (v := 0) (by decide) ?_
  refine z_aload_n O dJ7_copyOf_6403c_29 rfl ?_
  refine z_alen O (t := 6) (by decide) dJ7_copyOf_6403c_30 ((wU_n hbt).trans hb) ?_
  refine z_iload_n O dJ7_copyOf_6403c_31 rfl ?_
  refine z_mmin O zI zm4_65 zm1_10 zm1_11 zm1_12 dJ7_copyOf_6403c_32 (Nat.le_of_ble_eq_true rfl) (Nat.le_of_ble_eq_true rfl) (Nat.le_of_ble_eq_true rfl) (Nat.le_of_ble_eq_true rfl) ?_
  refine z_copy O hC hc (zI _ zm4_66) (zI _ zm4_67) (zI _ zm4_68) (zI _ zm4_69) (n := 10) ((wU_n hbt).trans hb) wU_s (by decide) (by decide) (by decide) (fun i hi => ?_) wU_eq (Nat.le_of_ble_eq_true rfl) (Nat.le_of_ble_eq_true (by decide)) dJ7_copyOf_6403c_35 ?_
  · obtain ⟨c, fs, h1, h2, h3⟩ := hel i hi
    exact ⟨c, fs, by rw [h1, zup_n h3], (wU_n h3).trans h2⟩
  · refine z_aload_n O dJ7_copyOf_6403c_38 rfl ?_
    exact z_aret O (r := (some (va_up ad t q t))) rfl (by first | exact Or.inl ⟨_, rfl⟩ | exact Or.inr ⟨_, rfl⟩) dJ7_copyOf_6403c_39 (Nat.le_of_ble_eq_true rfl) (Nat.le_of_ble_eq_true rfl) (⟨q, rfl, by rw [wU_wU]; rfl, rfl⟩)

set_option maxRecDepth 100000 in
set_option maxHeartbeats 4000000 in
theorem c_J7_copyOf_1904c {G : zG} {l : Launch} (hl : l.stackTraces = false) {w : zH} {ad : Nat → Nat} {C : String} {T : u_T} {N ci : Nat} (hC : C ∈ zObs) (hc : vwCl[ci]? = some (C, T, N)) {b t : Nat} {f : Nat → Option Nat} (hbt : b ≠ t) (hb : w b = some (zAr 10 f)) (htn : w t = none) (hel : ∀ i, i < 10 → ∃ c fs, f i = some (ad c) ∧ w c = some (.inr (ci, fs)) ∧ c ≠ t) : zCt G l yJ7_copyOf_1904c (zws yJ7_copyOf_1904c cJ7_copyOf_1904c 2 (some (.array (.object "java/lang/Object")))) ({ frames := 2, cells := 1, slots := 15, locals := 83 }) [.ref (ad b), .int 15] (w) ad (fun r w1 ad1 => ∃ q, some (.ref (va_up ad t q t)) = r ∧ wU w t (zAr 15 (fun k => if k < 10 then f k else none)) = w1 ∧ va_up ad t q = ad1) (zNoX) := by
  refine z_body hl (by decide +kernel) (Nat.le_of_ble_eq_true rfl) (fun X O => ?_)
  refine z_aload_n O dJ7_copyOf_1904c_0 rfl ?_
  refine z_iload_n O dJ7_copyOf_1904c_1 rfl ?_
  refine z_aload_n O dJ7_copyOf_1904c_2 rfl ?_
  refine z_getC O (zI _ zm5_1) (zI _ zm5_2) (zI _ zm5_3) (zI _ zm5_4) hb (Nat.le_of_ble_eq_true rfl) (Nat.le_of_ble_eq_true rfl) dJ7_copyOf_1904c_3 ?_
  refine z_callS O (c_J7_copyOf_6403c hl hC hc hbt hb htn hel) zI zm5_5 zm5_6 zm5_7 zm4_62 ⟨by decide +kernel, by decide +kernel, (show _ = some 3 by decide +kernel)⟩ ⟨Nat.le_of_ble_eq_true rfl, Nat.le_of_ble_eq_true rfl⟩ ⟨Nat.le_of_ble_eq_true rfl, Nat.le_of_ble_eq_true rfl⟩ dJ7_copyOf_1904c_6 rfl (Nat.le_of_ble_eq_true rfl) (fun _ _ _ h => h.elim) (fun r w1 ad1 hp => ?_)
  obtain ⟨q, rfl, rfl, rfl⟩ := hp
  exact z_aret O (r := (some (va_up ad t q t))) rfl (by first | exact Or.inl ⟨_, rfl⟩ | exact Or.inr ⟨_, rfl⟩) dJ7_copyOf_1904c_9 (Nat.le_of_ble_eq_true rfl) (Nat.le_of_ble_eq_true rfl) (⟨q, rfl, rfl, rfl⟩)

set_option maxRecDepth 100000 in
set_option maxHeartbeats 4000000 in
theorem c_grow1_ten {G : zG} {l : Launch} (hl : l.stackTraces = false) {w : zH} {ad : Nat → Nat} {C : String} {T : u_T} {N ci : Nat} (hC : C ∈ zObs) (hc : vwCl[ci]? = some (C, T, N)) {a b t : Nat} {m0 : Int32} {f : Nat → Option Nat} (hat : a ≠ t) (hw : w a = some (zLs m0 (.ref (ad b)) (nI 10))) (hbt : b ≠ t) (hb : w b = some (zAr 10 f)) (htn : w t = none) (hel : ∀ i, i < 10 → ∃ c fs, f i = some (ad c) ∧ w c = some (.inr (ci, fs)) ∧ c ≠ t) : zCt G l yJx4a65c_grow_92f84 (zws yJx4a65c_grow_92f84 cJx4a65c_grow_92f84 4 (some (.array (.object "java/lang/Object")))) ({ frames := 3, cells := 1, slots := 15, locals := 104 }) [.ref (ad a), .int (nI 10 + 1)] (w) ad (fun r w1 ad1 => ∃ q, some (.ref (va_up ad t q t)) = r ∧ wU (wU w t (zAr 15 (fun k => if k < 10 then f k else none))) a (zLs m0 (.ref (va_up ad t q t)) (nI 10)) = w1 ∧ va_up ad t q = ad1) (zNoX) := by
  refine z_body hl (by decide +kernel) (Nat.le_of_ble_eq_true rfl) (fun X O => ?_)
  refine z_aload_n O dJx4a65c_grow_92f84_0 rfl ?_
  refine z_get O (fk := 1) (fun x h => zI x (zu_RJx4a65c x h)) rfl (by decide) (zI _ zm0_24) dJx4a65c_grow_92f84_1 (hw) rfl ?_
  refine z_alen O (t := 6) (by decide) dJx4a65c_grow_92f84_4 (hb) ?_
  refine z_istore_n O dJx4a65c_grow_92f84_5 (by decide) ?_
  refine z_iload_n O dJx4a65c_grow_92f84_6 rfl ?_
  refine z_if_gt O dJx4a65c_grow_92f84_7 (tgt := 20) (by decide) (fun _ => ?_) (fun h => absurd (show (0 : Int32) < nI 10 by decide) h)
  refine z_iload_n O dJx4a65c_grow_92f84_20 rfl ?_
  refine z_iload_n O dJx4a65c_grow_92f84_21 rfl ?_
  refine z_iload_n O dJx4a65c_grow_92f84_22 rfl ?_
  refine z_isub O dJx4a65c_grow_92f84_23 ?_
  refine z_iload_n O dJx4a65c_grow_92f84_24 rfl ?_
  refine z_iconst O dJx4a65c_grow_92f84_25 (v := 1) (by decide) ?_
  refine z_ishr O dJx4a65c_grow_92f84_26 ?_
  refine z_callS O (c_J8_newLength_cabcc hl (x := nI 10) (y := nI 10 + 1 - nI 10) (z := nI 10 >>> (1 &&& 31)) (by decide) (by decide)) zI zm5_10 zm5_11 zm4_61 zm4_57 ⟨by decide +kernel, by decide +kernel, (show _ = some 3 by decide +kernel)⟩ ⟨Nat.le_of_ble_eq_true rfl, Nat.le_of_ble_eq_true rfl⟩ ⟨Nat.le_of_ble_eq_true rfl, Nat.le_of_ble_eq_true rfl⟩ dJx4a65c_grow_92f84_27 rfl (Nat.le_of_ble_eq_true rfl) (fun _ _ _ h => h.elim) (fun r w1 ad1 hp => ?_)
  obtain ⟨rfl, rfl, rfl⟩ := hp
  rw [show (nI 10 + (if (nI 10 + 1 - nI 10 : Int32) < nI 10 >>> ((1 : Int32) &&& 31) then nI 10 >>> ((1 : Int32) &&& 31) else nI 10 + 1 - nI 10) : Int32) = 15 from by decide]
  refine z_istore_n O dJx4a65c_grow_92f84_30 (by decide) ?_
  refine z_aload_n O dJx4a65c_grow_92f84_31 rfl ?_
  refine z_aload_n O dJx4a65c_grow_92f84_32 rfl ?_
  refine z_get O (fk := 1) (fun x h => zI x (zu_RJx4a65c x h)) rfl (by decide) (zI _ zm0_24) dJx4a65c_grow_92f84_33 (hw) rfl ?_
  refine z_iload_n O dJx4a65c_grow_92f84_36 rfl ?_
  refine z_callS O (c_J7_copyOf_1904c hl hC hc hbt hb htn hel) zI zm5_12 zm5_13 zm5_7 zm5_0 ⟨by decide +kernel, by decide +kernel, (show _ = some 2 by decide +kernel)⟩ ⟨Nat.le_of_ble_eq_true rfl, Nat.le_of_ble_eq_true rfl⟩ ⟨Nat.le_of_ble_eq_true rfl, Nat.le_of_ble_eq_true rfl⟩ dJx4a65c_grow_92f84_37 rfl (Nat.le_of_ble_eq_true rfl) (fun _ _ _ h => h.elim) (fun r w1 ad1 hp => ?_)
  obtain ⟨q, rfl, rfl, rfl⟩ := hp
  rw [show ad a = va_up ad t q a from (zup_n hat).symm]
  refine z_dup_x1 O dJx4a65c_grow_92f84_40 rfl rfl ?_
  refine z_put O (fk := 1) (fun x h => zI x (zu_RJx4a65c x h)) tyJx4a65c tyJx4a65c_ok nmJx4a65c rfl (by decide) (zI _ zm0_24) rfl dJx4a65c_grow_92f84_41 rfl rfl ((wU_n hat).trans hw) (Nat.le_of_ble_eq_true rfl) (wU_eq) ?_
  exact z_aret O (r := (some (va_up ad t q t))) rfl (by first | exact Or.inl ⟨_, rfl⟩ | exact Or.inr ⟨_, rfl⟩) dJx4a65c_grow_92f84_44 (Nat.le_of_ble_eq_true rfl) (Nat.le_of_ble_eq_true rfl) (⟨q, rfl, rfl, rfl⟩)

set_option maxRecDepth 100000 in
set_option maxHeartbeats 4000000 in
theorem c_grow0_ten {G : zG} {l : Launch} (hl : l.stackTraces = false) {w : zH} {ad : Nat → Nat} {C : String} {T : u_T} {N ci : Nat} (hC : C ∈ zObs) (hc : vwCl[ci]? = some (C, T, N)) {a b t : Nat} {m0 : Int32} {f : Nat → Option Nat} (hat : a ≠ t) (hw : w a = some (zLs m0 (.ref (ad b)) (nI 10))) (hbt : b ≠ t) (hb : w b = some (zAr 10 f)) (htn : w t = none) (hel : ∀ i, i < 10 → ∃ c fs, f i = some (ad c) ∧ w c = some (.inr (ci, fs)) ∧ c ≠ t) : zCt G l yJx4a65c_grow_d5877 (zws yJx4a65c_grow_d5877 cJx4a65c_grow_d5877 1 (some (.array (.object "java/lang/Object")))) ({ frames := 4, cells := 1, slots := 15, locals := 127 }) [.ref (ad a)] (w) ad (fun r w1 ad1 => ∃ q, some (.ref (va_up ad t q t)) = r ∧ wU (wU w t (zAr 15 (fun k => if k < 10 then f k else none))) a (zLs m0 (.ref (va_up ad t q t)) (nI 10)) = w1 ∧ va_up ad t q = ad1) (zNoX) := by
  refine z_body hl (by decide +kernel) (Nat.le_of_ble_eq_true rfl) (fun X O => ?_)
  refine z_aload_n O dJx4a65c_grow_d5877_0 rfl ?_
  refine z_aload_n O dJx4a65c_grow_d5877_1 rfl ?_
  refine z_get O (fk := 2) (fun x h => zI x (zu_RJx4a65c x h)) rfl (by decide) (zI _ zm0_45) dJx4a65c_grow_d5877_2 (hw) rfl ?_
  refine z_iconst O dJx4a65c_grow_d5877_5 (v := 1) (by decide) ?_
  refine z_iadd O dJx4a65c_grow_d5877_6 ?_
  refine z_callV O (c_grow1_ten hl hC hc hat hw hbt hb htn hel) zI zm5_15 zm5_16 zm5_17 zm0_31 zm5_14 ⟨rfl, by decide +kernel, by decide +kernel, (show _ = some 1 by decide +kernel)⟩ rfl (hw) ⟨Nat.le_of_ble_eq_true rfl, Nat.le_of_ble_eq_true rfl⟩ ⟨Nat.le_of_ble_eq_true rfl, Nat.le_of_ble_eq_true rfl⟩ dJx4a65c_grow_d5877_7 rfl (Nat.le_of_ble_eq_true rfl) (fun _ _ _ h => h.elim) (fun r w1 ad1 hp => ?_)
  obtain ⟨q, rfl, rfl, rfl⟩ := hp
  exact z_aret O (r := (some (va_up ad t q t))) rfl (by first | exact Or.inl ⟨_, rfl⟩ | exact Or.inr ⟨_, rfl⟩) dJx4a65c_grow_d5877_10 (Nat.le_of_ble_eq_true rfl) (Nat.le_of_ble_eq_true rfl) (⟨q, rfl, rfl, rfl⟩)

set_option maxRecDepth 100000 in
set_option maxHeartbeats 4000000 in
theorem c_add3_ten {G : zG} {l : Launch} (hl : l.stackTraces = false) {w : zH} {ad : Nat → Nat} {C : String} {T : u_T} {N ci : Nat} (hC : C ∈ zObs) (hc : vwCl[ci]? = some (C, T, N)) {a b t e : Nat} {fs : List Value} {m0 : Int32} {f : Nat → Option Nat} (hat : a ≠ t) (hw : w a = some (zLs m0 (.ref (ad b)) (nI 10))) (hbt : b ≠ t) (hb : w b = some (zAr 10 f)) (htn : w t = none) (hel : ∀ i, i < 10 → ∃ c fs, f i = some (ad c) ∧ w c = some (.inr (ci, fs)) ∧ c ≠ t) (he : w e = some (.inr (ci, fs))) (hea : e ≠ a) (het : e ≠ t) : zCt G l yJx4a65c_add_72be8 (zws yJx4a65c_add_72be8 cJx4a65c_add_72be8 4 none) ({ frames := 5, cells := 1, slots := 15, locals := 147 }) [.ref (ad a), .ref (ad e), .ref (ad b), .int (nI 10)] (w) ad (fun r w1 ad1 => ∃ q, none = r ∧ wU (wU (wU (wU (w) t (zAr 15 (fun k => if k < 10 then f k else none))) a (zLs m0 (.ref (va_up ad t q t)) (nI 10))) t (zAr 15 (va_up (fun k => if k < 10 then f k else none) 10 (some (va_up ad t q e))))) a (zLs m0 (.ref (va_up ad t q t)) (nI 10 + 1)) = w1 ∧ va_up ad t q = ad1) (zNoX) := by
  refine z_body hl (by decide +kernel) (Nat.le_of_ble_eq_true rfl) (fun X O => ?_)
  refine z_iload_n O dJx4a65c_add_72be8_0 rfl ?_
  refine z_aload_n O dJx4a65c_add_72be8_1 rfl ?_
  refine z_alen O (t := 6) (by decide) dJx4a65c_add_72be8_2 (hb) ?_
  refine z_icmp_ne O dJx4a65c_add_72be8_3 (tgt := 11) (by decide) (fun h => absurd rfl h) (fun _ => ?_)
  refine z_aload_n O dJx4a65c_add_72be8_6 rfl ?_
  refine z_callV O (c_grow0_ten hl hC hc hat hw hbt hb htn hel) zI zm5_19 zm5_20 zm5_21 zm0_31 zm5_18 ⟨rfl, by decide +kernel, by decide +kernel, (show _ = some 0 by decide +kernel)⟩ rfl (hw) ⟨Nat.le_of_ble_eq_true rfl, Nat.le_of_ble_eq_true rfl⟩ ⟨Nat.le_of_ble_eq_true rfl, Nat.le_of_ble_eq_true rfl⟩ dJx4a65c_add_72be8_7 rfl (Nat.le_of_ble_eq_true rfl) (fun _ _ _ h => h.elim) (fun r w1 ad1 hp => ?_)
  obtain ⟨q, rfl, rfl, rfl⟩ := hp
  rw [show ad a = va_up ad t q a from (zup_n hat).symm, show ad e = va_up ad t q e from (zup_n het).symm]
  refine z_astore_n O dJx4a65c_add_72be8_10 (by decide) ?_
  refine z_aload_n O dJx4a65c_add_72be8_11 rfl ?_
  refine z_iload_n O dJx4a65c_add_72be8_12 rfl ?_
  refine z_aload_n O dJx4a65c_add_72be8_13 rfl ?_
  refine z_aast O hC hc dJx4a65c_add_72be8_14 ((wU_n (Ne.symm hat)).trans wU_s) ((wU_n hea).trans ((wU_n het).trans he)) 10 rfl (by decide) (by decide) wU_eq ?_
  refine z_aload_n O dJx4a65c_add_72be8_15 rfl ?_
  refine z_iload_n O dJx4a65c_add_72be8_16 rfl ?_
  refine z_iconst O dJx4a65c_add_72be8_17 (v := 1) (by decide) ?_
  refine z_iadd O dJx4a65c_add_72be8_18 ?_
  refine z_put O (fk := 2) (fun x h => zI x (zu_RJx4a65c x h)) tyJx4a65c tyJx4a65c_ok nmJx4a65c rfl (by decide) (zI _ zm0_45) rfl dJx4a65c_add_72be8_19 rfl rfl ((wU_n hat).trans wU_s) (Nat.le_of_ble_eq_true rfl) (wU_eq) ?_
  exact z_vret O dJx4a65c_add_72be8_22 (Nat.le_of_ble_eq_true rfl) (Nat.le_of_ble_eq_true rfl) (⟨q, rfl, rfl, rfl⟩)

set_option maxRecDepth 100000 in
set_option maxHeartbeats 4000000 in
theorem c_add_ten {G : zG} {l : Launch} (hl : l.stackTraces = false) {w : zH} {ad : Nat → Nat} {C : String} {T : u_T} {N ci : Nat} (hC : C ∈ zObs) (hc : vwCl[ci]? = some (C, T, N)) {a b t e : Nat} {fs : List Value} {m0 : Int32} {f : Nat → Option Nat} (hat : a ≠ t) (hw : w a = some (zLs m0 (.ref (ad b)) (nI 10))) (hbt : b ≠ t) (hb : w b = some (zAr 10 f)) (htn : w t = none) (hel : ∀ i, i < 10 → ∃ c fs, f i = some (ad c) ∧ w c = some (.inr (ci, fs)) ∧ c ≠ a ∧ c ≠ t) (he : w e = some (.inr (ci, fs))) (hea : e ≠ a) (het : e ≠ t) (hba : b ≠ a) : zCt G l yJx4a65c_add_9ea2d (zws yJx4a65c_add_9ea2d cJx4a65c_add_9ea2d 2 (some .boolean)) ({ frames := 6, cells := 1, slots := 15, locals := 170 }) [.ref (ad a), .ref (ad e)] (w) ad (fun r w1 ad1 => ∃ q, some (.int 1) = r ∧ wU (wU (wU (wU (wU w a (zLs (m0 + 1) (.ref (ad b)) (nI 10))) t (zAr 15 (fun k => if k < 10 then f k else none))) a (zLs (m0 + 1) (.ref (va_up ad t q t)) (nI 10))) t (zAr 15 (va_up (fun k => if k < 10 then f k else none) 10 (some (va_up ad t q e))))) a (zLs (m0 + 1) (.ref (va_up ad t q t)) (nI 10 + 1)) = w1 ∧ va_up ad t q = ad1) (zNoX) := by
  refine z_body hl (by decide +kernel) (Nat.le_of_ble_eq_true rfl) (fun X O => ?_)
  refine z_aload_n O dJx4a65c_add_9ea2d_0 rfl ?_
  refine z_dup O dJx4a65c_add_9ea2d_1 rfl ?_
  refine z_getS O (fk := 0) (fun x h => zI x (zu_RJx4a65c x h)) rfl (by decide) (zI _ zm0_43) (zI _ zm0_44) dJx4a65c_add_9ea2d_2 (hw) rfl ?_
  refine z_iconst O dJx4a65c_add_9ea2d_5 (v := 1) (by decide) ?_
  refine z_iadd O dJx4a65c_add_9ea2d_6 ?_
  refine z_putS O (fk := 0) (fun x h => zI x (zu_RJx4a65c x h)) tyJx4a65c tyJx4a65c_ok nmJx4a65c rfl (by decide) (zI _ zm0_43) (zI _ zm0_44) rfl dJx4a65c_add_9ea2d_7 rfl rfl (hw) (Nat.le_of_ble_eq_true rfl) (wU_eq) ?_
  refine z_aload_n O dJx4a65c_add_9ea2d_10 rfl ?_
  refine z_aload_n O dJx4a65c_add_9ea2d_11 rfl ?_
  refine z_aload_n O dJx4a65c_add_9ea2d_12 rfl ?_
  refine z_get O (fk := 1) (fun x h => zI x (zu_RJx4a65c x h)) rfl (by decide) (zI _ zm0_24) dJx4a65c_add_9ea2d_13 (wU_s) rfl ?_
  refine z_aload_n O dJx4a65c_add_9ea2d_16 rfl ?_
  refine z_get O (fk := 2) (fun x h => zI x (zu_RJx4a65c x h)) rfl (by decide) (zI _ zm0_45) dJx4a65c_add_9ea2d_17 (wU_s) rfl ?_
  refine z_callV O (c_add3_ten hl hC hc hat (m0 := m0 + 1) wU_s hbt ((wU_n hba).trans hb) ((wU_n (Ne.symm hat)).trans htn) (fun i hi => (hel i hi).elim fun c h => h.elim fun fs h => ⟨c, fs, h.1, (wU_n h.2.2.1).trans h.2.1, h.2.2.2⟩) ((wU_n hea).trans he) hea het) zI zm5_23 zm5_24 zm5_25 zm0_31 zm5_22 ⟨rfl, by decide +kernel, by decide +kernel, (show _ = some 3 by decide +kernel)⟩ rfl (wU_s) ⟨Nat.le_of_ble_eq_true rfl, Nat.le_of_ble_eq_true rfl⟩ ⟨Nat.le_of_ble_eq_true rfl, Nat.le_of_ble_eq_true rfl⟩ dJx4a65c_add_9ea2d_20 rfl (Nat.le_of_ble_eq_true rfl) (fun _ _ _ h => h.elim) (fun r w1 ad1 hp => ?_)
  obtain ⟨q, rfl, rfl, rfl⟩ := hp
  refine z_iconst O dJx4a65c_add_9ea2d_23 (v := 1) (by decide) ?_
  exact z_zret O rfl rfl dJx4a65c_add_9ea2d_24 (Nat.le_of_ble_eq_true rfl) (Nat.le_of_ble_eq_true rfl) (⟨q, rfl, rfl, rfl⟩)

set_option maxRecDepth 100000 in
set_option maxHeartbeats 4000000 in
theorem c_clear {G : zG} {l : Launch} (hl : l.stackTraces = false) {w : zH} {ad : Nat → Nat} {a b n cp : Nat} {m0 : Int32} {f : Nat → Option Nat} (hba : b ≠ a) (hw : w a = some (zLs m0 (.ref (ad b)) (nI n))) (hb : w b = some (zAr cp f)) (hn : n ≤ cp) (hcp : cp < 2 ^ 31) : zCt G l yJx4a65c_clear_da8c8 (zws yJx4a65c_clear_da8c8 cJx4a65c_clear_da8c8 4 none) ({ frames := 0, cells := 0, slots := 0, locals := 0 }) [.ref (ad a)] (w) ad (fun r w1 ad1 => none = r ∧ wU (wU w a (zLs (m0 + 1) (.ref (ad b)) 0)) b (zAr cp (fun k => if k < n then none else f k)) = w1 ∧ ad = ad1) (zNoX) := by
  refine z_body hl (by decide +kernel) (Nat.le_of_ble_eq_true rfl) (fun X O => ?_)
  have L : ∀ (n9 : Nat) (i : Nat), i ≤ n → n < i + n9 → zV G X 4 0 0 27 [(0, .ref (ad a)), (1, .ref (ad b)), (2, .int (nI n)), (3, .int (nI i))] [] (wU (wU (wU w a (zLs (m0 + 1) (.ref (ad b)) (nI n))) a (zLs (m0 + 1) (.ref (ad b)) 0)) b (zAr cp (fun k => if k < i then none else f k))) ad := by
    intro n9
    induction n9 with
    | zero => intro i h1 h2; omega
    | succ n9 ih =>
      intro i h1 h2
      refine z_iload_n O dJx4a65c_clear_da8c8_27 rfl ?_
      refine z_iload_n O dJx4a65c_clear_da8c8_28 rfl ?_
      refine z_icmp_ge O dJx4a65c_clear_da8c8_29 (tgt := 42) (by decide) (fun h => ?_) (fun h => ?_)
      · have hi : i = n := by have := z_ge_ge (by omega) (by omega) h; omega
        subst hi
        exact z_vret O dJx4a65c_clear_da8c8_42 (Nat.le_of_ble_eq_true rfl) (Nat.le_of_ble_eq_true rfl) (⟨rfl, by rw [wU_wU], rfl⟩)
      · have hi : i < n := z_ge_lt (by omega) (by omega) h
        refine z_aload_n O dJx4a65c_clear_da8c8_32 rfl ?_
        refine z_iload_n O dJx4a65c_clear_da8c8_33 rfl ?_
        refine z_null O dJx4a65c_clear_da8c8_34 ?_
        refine z_aastN O dJx4a65c_clear_da8c8_35 wU_s i rfl (by omega) hcp wU_eq ?_
        rw [wU_wU, show (Sum.inl (6, (cp, .inr (.inr (.inr (.inr (va_up (fun k => if k < i then none else f k) i none)))))) : zE) = zAr cp (fun k => if k < i + 1 then none else f k) from by
          unfold zAr
          rw [show va_up (fun k => if k < i then none else f k) i none = (fun k => if k < i + 1 then none else f k) from funext fun k => by
            by_cases q : k = i
            · subst q; simp [va_up]
            · by_cases q2 : k < i
              · simp [va_up, q, q2, show k < i + 1 by omega]
              · simp [va_up, q, q2, show ¬ k < i + 1 by omega]]]
        refine z_iincN O dJx4a65c_clear_da8c8_36 (a := i) rfl (by decide) ?_
        refine z_goto O dJx4a65c_clear_da8c8_39 (tgt := 27) (by decide) ?_
        exact zV.loc (ih (i + 1) (by omega) (by omega)) ⟨rfl, rfl, rfl, rfl, trivial⟩
  refine z_aload_n O dJx4a65c_clear_da8c8_0 rfl ?_
  refine z_dup O dJx4a65c_clear_da8c8_1 rfl ?_
  refine z_getS O (fk := 0) (fun x h => zI x (zu_RJx4a65c x h)) rfl (by decide) (zI _ zm0_43) (zI _ zm0_44) dJx4a65c_clear_da8c8_2 (hw) rfl ?_
  refine z_iconst O dJx4a65c_clear_da8c8_5 (v := 1) (by decide) ?_
  refine z_iadd O dJx4a65c_clear_da8c8_6 ?_
  refine z_putS O (fk := 0) (fun x h => zI x (zu_RJx4a65c x h)) tyJx4a65c tyJx4a65c_ok nmJx4a65c rfl (by decide) (zI _ zm0_43) (zI _ zm0_44) rfl dJx4a65c_clear_da8c8_7 rfl rfl (hw) (Nat.le_of_ble_eq_true rfl) (wU_eq) ?_
  refine z_aload_n O dJx4a65c_clear_da8c8_10 rfl ?_
  refine z_get O (fk := 1) (fun x h => zI x (zu_RJx4a65c x h)) rfl (by decide) (zI _ zm0_24) dJx4a65c_clear_da8c8_11 (wU_s) rfl ?_
  refine z_astore_n O dJx4a65c_clear_da8c8_14 (by decide) ?_
  refine z_aload_n O dJx4a65c_clear_da8c8_15 rfl ?_
  refine z_get O (fk := 2) (fun x h => zI x (zu_RJx4a65c x h)) rfl (by decide) (zI _ zm0_45) dJx4a65c_clear_da8c8_16 (wU_s) rfl ?_
  refine z_istore_n O dJx4a65c_clear_da8c8_19 (by decide) ?_
  refine z_aload_n O dJx4a65c_clear_da8c8_20 rfl ?_
  refine z_iconst O dJx4a65c_clear_da8c8_21 (v := 0) (by decide) ?_
  refine z_dup_x1 O dJx4a65c_clear_da8c8_22 rfl rfl ?_
  refine z_put O (fk := 2) (fun x h => zI x (zu_RJx4a65c x h)) tyJx4a65c tyJx4a65c_ok nmJx4a65c rfl (by decide) (zI _ zm0_45) rfl dJx4a65c_clear_da8c8_23 rfl rfl (wU_s) (Nat.le_of_ble_eq_true rfl) (wU_eq) ?_
  refine z_istore_n O dJx4a65c_clear_da8c8_26 (by decide) ?_
  refine zV.to (L (n + 1) 0 (by omega) (by omega)) ⟨rfl, rfl, rfl, rfl, trivial⟩ rfl (wU_id (by rw [wU_n hba, wU_n hba, hb]; simp))

set_option maxRecDepth 100000 in
set_option maxHeartbeats 4000000 in
theorem c_clear0 {G : zG} {l : Launch} (hl : l.stackTraces = false) {w : zH} {ad : Nat → Nat} {a : Nat} {m0 : Int32} (hw : w a = some (zLs m0 (.ref G.2.2.2.1) 0)) : zCt G l yJx4a65c_clear_da8c8 (zws yJx4a65c_clear_da8c8 cJx4a65c_clear_da8c8 4 none) ({ frames := 0, cells := 0, slots := 0, locals := 0 }) [.ref (ad a)] (w) ad (fun r w1 ad1 => none = r ∧ wU w a (zLs (m0 + 1) (.ref G.2.2.2.1) 0) = w1 ∧ ad = ad1) (zNoX) := by
  refine z_body hl (by decide +kernel) (Nat.le_of_ble_eq_true rfl) (fun X O => ?_)
  refine z_aload_n O dJx4a65c_clear_da8c8_0 rfl ?_
  refine z_dup O dJx4a65c_clear_da8c8_1 rfl ?_
  refine z_getS O (fk := 0) (fun x h => zI x (zu_RJx4a65c x h)) rfl (by decide) (zI _ zm0_43) (zI _ zm0_44) dJx4a65c_clear_da8c8_2 (hw) rfl ?_
  refine z_iconst O dJx4a65c_clear_da8c8_5 (v := 1) (by decide) ?_
  refine z_iadd O dJx4a65c_clear_da8c8_6 ?_
  refine z_putS O (fk := 0) (fun x h => zI x (zu_RJx4a65c x h)) tyJx4a65c tyJx4a65c_ok nmJx4a65c rfl (by decide) (zI _ zm0_43) (zI _ zm0_44) rfl dJx4a65c_clear_da8c8_7 rfl rfl (hw) (Nat.le_of_ble_eq_true rfl) (wU_eq) ?_
  refine z_aload_n O dJx4a65c_clear_da8c8_10 rfl ?_
  refine z_get O (fk := 1) (fun x h => zI x (zu_RJx4a65c x h)) rfl (by decide) (zI _ zm0_24) dJx4a65c_clear_da8c8_11 (wU_s) rfl ?_
  refine z_astore_n O dJx4a65c_clear_da8c8_14 (by decide) ?_
  refine z_aload_n O dJx4a65c_clear_da8c8_15 rfl ?_
  refine z_get O (fk := 2) (fun x h => zI x (zu_RJx4a65c x h)) rfl (by decide) (zI _ zm0_45) dJx4a65c_clear_da8c8_16 (wU_s) rfl ?_
  refine z_istore_n O dJx4a65c_clear_da8c8_19 (by decide) ?_
  refine z_aload_n O dJx4a65c_clear_da8c8_20 rfl ?_
  refine z_iconst O dJx4a65c_clear_da8c8_21 (v := 0) (by decide) ?_
  refine z_dup_x1 O dJx4a65c_clear_da8c8_22 rfl rfl ?_
  refine z_put O (fk := 2) (fun x h => zI x (zu_RJx4a65c x h)) tyJx4a65c tyJx4a65c_ok nmJx4a65c rfl (by decide) (zI _ zm0_45) rfl dJx4a65c_clear_da8c8_23 rfl rfl (wU_s) (Nat.le_of_ble_eq_true rfl) (wU_eq) ?_
  refine z_istore_n O dJx4a65c_clear_da8c8_26 (by decide) ?_
  refine z_iload_n O dJx4a65c_clear_da8c8_27 rfl ?_
  refine z_iload_n O dJx4a65c_clear_da8c8_28 rfl ?_
  refine z_icmp_ge O dJx4a65c_clear_da8c8_29 (tgt := 42) (by decide) (fun _ => ?_) (fun h => absurd (show (0 : Int32) ≤ 0 by decide) h)
  exact z_vret O dJx4a65c_clear_da8c8_42 (Nat.le_of_ble_eq_true rfl) (Nat.le_of_ble_eq_true rfl) (⟨rfl, by rw [wU_wU]; rfl, rfl⟩)

set_option maxRecDepth 100000 in
set_option maxHeartbeats 4000000 in
theorem c_Jxa1e45_init_da8c8 {G : zG} {l : Launch} (hl : l.stackTraces = false) {w : zH} {ad : Nat → Nat} {a : Nat} : zCt G l yJxa1e45_init_da8c8 (zws yJxa1e45_init_da8c8 cJxa1e45_init_da8c8 1 none) ({ frames := 1, cells := 0, slots := 0, locals := 20 }) [.ref (ad a)] (w) ad (fun r w1 ad1 => none = r ∧ w = w1 ∧ ad = ad1) (zNoX) := by
  refine z_body hl (by decide +kernel) (Nat.le_of_ble_eq_true rfl) (fun X O => ?_)
  refine z_aload_n O dJxa1e45_init_da8c8_0 rfl ?_
  refine z_objInit O zI zm0_16 zm0_2 zm0_3 dJxa1e45_init_da8c8_1 (Nat.le_of_ble_eq_true rfl) (Nat.le_of_ble_eq_true rfl) ?_
  exact z_vret O dJxa1e45_init_da8c8_4 (Nat.le_of_ble_eq_true rfl) (Nat.le_of_ble_eq_true rfl) (⟨rfl, rfl, rfl⟩)

set_option maxRecDepth 100000 in
set_option maxHeartbeats 4000000 in
theorem c_Jxc12de_init_da8c8 {G : zG} {l : Launch} (hl : l.stackTraces = false) {w : zH} {ad : Nat → Nat} {a : Nat} {m0 n : Int32} {v : Value} (hw : w a = some (zLs m0 v n)) : zCt G l yJxc12de_init_da8c8 (zws yJxc12de_init_da8c8 cJxc12de_init_da8c8 1 none) ({ frames := 2, cells := 0, slots := 0, locals := 40 }) [.ref (ad a)] (w) ad (fun r w1 ad1 => none = r ∧ wU w a (zLs 0 v n) = w1 ∧ ad = ad1) (zNoX) := by
  refine z_body hl (by decide +kernel) (Nat.le_of_ble_eq_true rfl) (fun X O => ?_)
  refine z_aload_n O dJxc12de_init_da8c8_0 rfl ?_
  refine z_callI O (c_Jxa1e45_init_da8c8 hl) zI zm0_19 zm0_20 zm0_21 zm0_15 rfl ⟨by decide +kernel, by decide +kernel, (show _ = some 0 by decide +kernel)⟩ ⟨Nat.le_of_ble_eq_true rfl, Nat.le_of_ble_eq_true rfl⟩ ⟨Nat.le_of_ble_eq_true rfl, Nat.le_of_ble_eq_true rfl⟩ dJxc12de_init_da8c8_1 rfl (Nat.le_of_ble_eq_true rfl) (fun r w1 ad1 hp => ?_)
  obtain ⟨rfl, rfl, rfl⟩ := hp
  refine z_aload_n O dJxc12de_init_da8c8_4 rfl ?_
  refine z_iconst O dJxc12de_init_da8c8_5 (v := 0) (by decide) ?_
  refine z_put O (fk := 0) (fun x h => zI x (zu_RJx4a65c x h)) tyJx4a65c tyJx4a65c_ok nmJx4a65c rfl (by decide) (zI _ zm0_18) rfl dJxc12de_init_da8c8_6 rfl rfl hw (Nat.le_of_ble_eq_true rfl) wU_eq ?_
  exact z_vret O dJxc12de_init_da8c8_9 (Nat.le_of_ble_eq_true rfl) (Nat.le_of_ble_eq_true rfl) (⟨rfl, rfl, rfl⟩)

set_option maxRecDepth 100000 in
set_option maxHeartbeats 4000000 in
theorem c_Jx4a65c_init_da8c8 {G : zG} {l : Launch} (hl : l.stackTraces = false) {w : zH} {ad : Nat → Nat} {a : Nat} {m0 n : Int32} {v : Value} (hw : w a = some (zLs m0 v n)) : zCt G l yJx4a65c_init_da8c8 (zws yJx4a65c_init_da8c8 cJx4a65c_init_da8c8 1 none) ({ frames := 3, cells := 0, slots := 0, locals := 60 }) [.ref (ad a)] (w) ad (fun r w1 ad1 => none = r ∧ wU w a (zLs 0 (.ref G.2.2.2.1) n) = w1 ∧ ad = ad1) (zNoX) := by
  refine z_body hl (by decide +kernel) (Nat.le_of_ble_eq_true rfl) (fun X O => ?_)
  refine z_aload_n O dJx4a65c_init_da8c8_0 rfl ?_
  refine z_callI O (c_Jxc12de_init_da8c8 hl hw) zI zm0_25 zm0_26 zm0_27 zm0_17 rfl ⟨by decide +kernel, by decide +kernel, (show _ = some 0 by decide +kernel)⟩ ⟨Nat.le_of_ble_eq_true rfl, Nat.le_of_ble_eq_true rfl⟩ ⟨Nat.le_of_ble_eq_true rfl, Nat.le_of_ble_eq_true rfl⟩ dJx4a65c_init_da8c8_1 rfl (Nat.le_of_ble_eq_true rfl) (fun r w1 ad1 hp => ?_)
  obtain ⟨rfl, rfl, rfl⟩ := hp
  refine z_aload_n O dJx4a65c_init_da8c8_4 rfl ?_
  refine z_empty O (zI _ zm0_23) dJx4a65c_init_da8c8_5 ?_
  refine z_put O (fk := 1) (fun x h => zI x (zu_RJx4a65c x h)) tyJx4a65c tyJx4a65c_ok nmJx4a65c rfl (by decide) (zI _ zm0_24) rfl dJx4a65c_init_da8c8_8 rfl rfl (wU_s) (Nat.le_of_ble_eq_true rfl) (wU_eq) ?_
  exact z_vret O dJx4a65c_init_da8c8_11 (Nat.le_of_ble_eq_true rfl) (Nat.le_of_ble_eq_true rfl) (⟨rfl, by rw [wU_wU]; rfl, rfl⟩)
