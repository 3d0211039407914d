theorem wU_id {w : zH} {i : Nat} {e : zE} (h : w i = some e) : wU w i e = w := by
  funext j
  by_cases q : j = i
  · rw [q, wU_s, h]
  · rw [wU_n q]
theorem wU_wU {w : zH} {i : Nat} {e e' : zE} : wU (wU w i e) i e' = wU w i e' := by
  funext j
  by_cases q : j = i
  · rw [q, wU_s, wU_s]
  · rw [wU_n q, wU_n q, wU_n q]
theorem wU_comm {w : zH} {i j : Nat} {e e' : zE} (h : i ≠ j) : wU (wU w i e) j e' = wU (wU w j e') i e := by
  funext k
  by_cases q : k = j
  · subst q; rw [wU_s, wU_n (Ne.symm h), wU_s]
  · rw [wU_n q]
    by_cases p : k = i
    · subst p; rw [wU_s, wU_s]
    · rw [wU_n p, wU_n p, wU_n q]
set_option maxRecDepth 100000 in
set_option maxHeartbeats 4000000 in
theorem c_add3_room {G : zG} {l : Launch} (hl : l.stackTraces = false) {w : zH} {ad : Nat → Nat} {C : String} {T : u_T} {N ci : Nat} (hC : C ∈ zObs) (hc : vwCl[ci]? = some (C, T, N)) {a b e n cp : Nat} {m0 : Int32} {f : Nat → Option Nat} {fs : List Value} (hab : a ≠ b) (hw : w a = some (zLs m0 (.ref (ad b)) (nI n))) (hb : w b = some (zAr cp f)) (he : w e = some (.inr (ci, fs))) (hn : n < cp) (hcp : cp < 2 ^ 31) : zCt G l yJx4a65c_add_72be8 (zws yJx4a65c_add_72be8 cJx4a65c_add_72be8 4 none) ({ frames := 0, cells := 0, slots := 0, locals := 0 }) [.ref (ad a), .ref (ad e), .ref (ad b), .int (nI n)] (w) ad (fun r w1 ad1 => none = r ∧ wU (wU w b (zAr cp (va_up f n (some (ad e))))) a (zLs m0 (.ref (ad b)) (nI n + 1)) = w1 ∧ ad = ad1) (zNoX) := by
  refine z_body hl (by decide +kernel) (Nat.le_of_ble_eq_true rfl) (fun X O => ?_)
  refine z_iload_n O dJx4a65c_add_72be8_0 rfl ?_
  refine z_aload_n O dJx4a65c_add_72be8_1 rfl ?_
  refine z_alen O (t := 6) (by decide) dJx4a65c_add_72be8_2 (hb) ?_
  refine z_icmp_ne O dJx4a65c_add_72be8_3 (tgt := 11) (by decide) (fun h => ?_) (fun h => ?_)
  · refine z_aload_n O dJx4a65c_add_72be8_11 rfl ?_
    refine z_iload_n O dJx4a65c_add_72be8_12 rfl ?_
    refine z_aload_n O dJx4a65c_add_72be8_13 rfl ?_
    refine z_aast O hC hc dJx4a65c_add_72be8_14 hb he n rfl hn hcp wU_eq ?_
    refine z_aload_n O dJx4a65c_add_72be8_15 rfl ?_
    refine z_iload_n O dJx4a65c_add_72be8_16 rfl ?_
    refine z_iconst O dJx4a65c_add_72be8_17 (v := 1) (by decide) ?_
    refine z_iadd O dJx4a65c_add_72be8_18 ?_
    refine z_put O (fk := 2) (fun x h => zI x (zu_RJx4a65c x h)) tyJx4a65c tyJx4a65c_ok nmJx4a65c rfl (by decide) (zI _ zm0_45) rfl dJx4a65c_add_72be8_19 rfl rfl ((wU_n hab).trans hw) (Nat.le_of_ble_eq_true rfl) (wU_eq) ?_
    exact z_vret O dJx4a65c_add_72be8_22 (Nat.le_of_ble_eq_true rfl) (Nat.le_of_ble_eq_true rfl) (⟨rfl, rfl, rfl⟩)
  · exact absurd ((nI_eq (by omega) hcp).mp h) (by show ¬ n = cp; omega)

set_option maxRecDepth 100000 in
set_option maxHeartbeats 4000000 in
theorem c_add_room {G : zG} {l : Launch} (hl : l.stackTraces = false) {w : zH} {ad : Nat → Nat} {C : String} {T : u_T} {N ci : Nat} (hC : C ∈ zObs) (hc : vwCl[ci]? = some (C, T, N)) {a b e n cp : Nat} {m0 : Int32} {f : Nat → Option Nat} {fs : List Value} (hab : a ≠ b) (hw : w a = some (zLs m0 (.ref (ad b)) (nI n))) (hb : w b = some (zAr cp f)) (he : w e = some (.inr (ci, fs))) (hn : n < cp) (hcp : cp < 2 ^ 31) (hea : e ≠ a) : zCt G l yJx4a65c_add_9ea2d (zws yJx4a65c_add_9ea2d cJx4a65c_add_9ea2d 2 (some .boolean)) ({ frames := 6, cells := 1, slots := 15, locals := 170 }) [.ref (ad a), .ref (ad e)] (w) ad (fun r w1 ad1 => some (.int 1) = r ∧ wU (wU (wU w a (zLs (m0 + 1) (.ref (ad b)) (nI n))) b (zAr cp (va_up f n (some (ad e))))) a (zLs (m0 + 1) (.ref (ad b)) (nI n + 1)) = w1 ∧ ad = ad1) (zNoX) := by
  refine z_body hl (by decide +kernel) (Nat.le_of_ble_eq_true rfl) (fun X O => ?_)
  refine z_aload_n O dJx4a65c_add_9ea2d_0 rfl ?_
  refine z_dup O dJx4a65c_add_9ea2d_1 rfl ?_
  refine z_getS O (fk := 0) (fun x h => zI x (zu_RJx4a65c x h)) rfl (by decide) (zI _ zm0_43) (zI _ zm0_44) dJx4a65c_add_9ea2d_2 (hw) rfl ?_
  refine z_iconst O dJx4a65c_add_9ea2d_5 (v := 1) (by decide) ?_
  refine z_iadd O dJx4a65c_add_9ea2d_6 ?_
  refine z_putS O (fk := 0) (fun x h => zI x (zu_RJx4a65c x h)) tyJx4a65c tyJx4a65c_ok nmJx4a65c rfl (by decide) (zI _ zm0_43) (zI _ zm0_44) rfl dJx4a65c_add_9ea2d_7 rfl rfl (hw) (Nat.le_of_ble_eq_true rfl) (wU_eq) ?_
  refine z_aload_n O dJx4a65c_add_9ea2d_10 rfl ?_
  refine z_aload_n O dJx4a65c_add_9ea2d_11 rfl ?_
  refine z_aload_n O dJx4a65c_add_9ea2d_12 rfl ?_
  refine z_get O (fk := 1) (fun x h => zI x (zu_RJx4a65c x h)) rfl (by decide) (zI _ zm0_24) dJx4a65c_add_9ea2d_13 (wU_s) rfl ?_
  refine z_aload_n O dJx4a65c_add_9ea2d_16 rfl ?_
  refine z_get O (fk := 2) (fun x h => zI x (zu_RJx4a65c x h)) rfl (by decide) (zI _ zm0_45) dJx4a65c_add_9ea2d_17 (wU_s) rfl ?_
  refine z_callV O (c_add3_room hl hC hc hab (m0 := m0 + 1) wU_s ((wU_n (Ne.symm hab)).trans hb) ((wU_n hea).trans he) hn hcp) zI zm5_23 zm5_24 zm5_25 zm0_31 zm5_22 ⟨rfl, by decide +kernel, by decide +kernel, (show _ = some 3 by decide +kernel)⟩ rfl (wU_s) ⟨Nat.le_of_ble_eq_true rfl, Nat.le_of_ble_eq_true rfl⟩ ⟨Nat.le_of_ble_eq_true rfl, Nat.le_of_ble_eq_true rfl⟩ dJx4a65c_add_9ea2d_20 rfl (Nat.le_of_ble_eq_true rfl) (fun _ _ _ h => h.elim) (fun r w1 ad1 hp => ?_)
  obtain ⟨rfl, rfl, rfl⟩ := hp
  refine z_iconst O dJx4a65c_add_9ea2d_23 (v := 1) (by decide) ?_
  exact z_zret O rfl rfl dJx4a65c_add_9ea2d_24 (Nat.le_of_ble_eq_true rfl) (Nat.le_of_ble_eq_true rfl) (⟨rfl, rfl, rfl⟩)

set_option maxRecDepth 100000 in
set_option maxHeartbeats 4000000 in
theorem c_grow1_first {G : zG} {l : Launch} (hl : l.stackTraces = false) {w : zH} {ad : Nat → Nat} {a b : Nat} {m0 : Int32} (hab : a ≠ b) (hw : w a = some (zLs m0 (.ref G.2.2.2.1) 0)) (hbn : w b = none) : zCt G l yJx4a65c_grow_92f84 (zws yJx4a65c_grow_92f84 cJx4a65c_grow_92f84 4 (some (.array (.object "java/lang/Object")))) ({ frames := 1, cells := 1, slots := 10, locals := 21 }) [.ref (ad a), .int (0 + 1)] (w) ad (fun r w1 ad1 => ∃ q, some (.ref (va_up ad b q b)) = r ∧ wU (wU w b (zAr 10 (fun _ => none))) a (zLs m0 (.ref (va_up ad b q b)) 0) = w1 ∧ va_up ad b q = ad1) (zNoX) := by
  refine z_body hl (by decide +kernel) (Nat.le_of_ble_eq_true rfl) (fun X O => ?_)
  refine z_aload_n O dJx4a65c_grow_92f84_0 rfl ?_
  refine z_get O (fk := 1) (fun x h => zI x (zu_RJx4a65c x h)) rfl (by decide) (zI _ zm0_24) dJx4a65c_grow_92f84_1 (hw) rfl ?_
  refine z_alenE O dJx4a65c_grow_92f84_4 ?_
  refine z_istore_n O dJx4a65c_grow_92f84_5 (by decide) ?_
  refine z_iload_n O dJx4a65c_grow_92f84_6 rfl ?_
  refine z_if_gt O dJx4a65c_grow_92f84_7 (tgt := 20) (by decide) (fun h => absurd h (by decide)) (fun _ => ?_)
  refine z_aload_n O dJx4a65c_grow_92f84_10 rfl ?_
  refine z_get O (fk := 1) (fun x h => zI x (zu_RJx4a65c x h)) rfl (by decide) (zI _ zm0_24) dJx4a65c_grow_92f84_11 (hw) rfl ?_
  refine z_empty O (zI _ zm0_23) dJx4a65c_grow_92f84_14 ?_
  refine z_acmp_eq O (rx := some G.2.2.2.1) (ry := some G.2.2.2.1) dJx4a65c_grow_92f84_17 (tgt := 45) (by decide) (fun _ => ?_) (fun h => absurd rfl h)
  refine z_aload_n O dJx4a65c_grow_92f84_45 rfl ?_
  refine z_bipush O dJx4a65c_grow_92f84_46 (v := 10) (by decide) ?_
  refine z_iload_n O dJx4a65c_grow_92f84_48 rfl ?_
  refine z_mmax O zI zm5_8 zm1_14 zm1_11 zm1_15 dJx4a65c_grow_92f84_49 (Nat.le_of_ble_eq_true rfl) (Nat.le_of_ble_eq_true rfl) (Nat.le_of_ble_eq_true rfl) (Nat.le_of_ble_eq_true rfl) ?_
  refine z_anew O (w' := fun _ => wU w b (zAr 10 (fun _ => none))) b 6 (Or.inr ⟨rfl, rfl⟩) (zI _ zm5_9) (N := 10) (by decide) (by decide) (by decide) (Nat.le_of_ble_eq_true rfl) (Nat.le_of_ble_eq_true rfl) dJx4a65c_grow_92f84_52 hbn (fun _ => wU_eq) (fun q => ?_)
  rw [show ad a = va_up ad b q a from (zup_n hab).symm]
  refine z_dup_x1 O dJx4a65c_grow_92f84_55 rfl rfl ?_
  refine z_put O (fk := 1) (fun x h => zI x (zu_RJx4a65c x h)) tyJx4a65c tyJx4a65c_ok nmJx4a65c rfl (by decide) (zI _ zm0_24) rfl dJx4a65c_grow_92f84_56 rfl rfl ((wU_n hab).trans hw) (Nat.le_of_ble_eq_true rfl) (wU_eq) ?_
  exact z_aret O (r := (some (va_up ad b q b))) rfl (by first | exact Or.inl ⟨_, rfl⟩ | exact Or.inr ⟨_, rfl⟩) dJx4a65c_grow_92f84_59 (Nat.le_of_ble_eq_true rfl) (Nat.le_of_ble_eq_true rfl) (⟨q, rfl, rfl, rfl⟩)

set_option maxRecDepth 100000 in
set_option maxHeartbeats 4000000 in
theorem c_grow0_first {G : zG} {l : Launch} (hl : l.stackTraces = false) {w : zH} {ad : Nat → Nat} {a b : Nat} {m0 : Int32} (hab : a ≠ b) (hw : w a = some (zLs m0 (.ref G.2.2.2.1) 0)) (hbn : w b = none) : zCt G l yJx4a65c_grow_d5877 (zws yJx4a65c_grow_d5877 cJx4a65c_grow_d5877 1 (some (.array (.object "java/lang/Object")))) ({ frames := 2, cells := 1, slots := 10, locals := 44 }) [.ref (ad a)] (w) ad (fun r w1 ad1 => ∃ q, some (.ref (va_up ad b q b)) = r ∧ wU (wU w b (zAr 10 (fun _ => none))) a (zLs m0 (.ref (va_up ad b q b)) 0) = w1 ∧ va_up ad b q = ad1) (zNoX) := by
  refine z_body hl (by decide +kernel) (Nat.le_of_ble_eq_true rfl) (fun X O => ?_)
  refine z_aload_n O dJx4a65c_grow_d5877_0 rfl ?_
  refine z_aload_n O dJx4a65c_grow_d5877_1 rfl ?_
  refine z_get O (fk := 2) (fun x h => zI x (zu_RJx4a65c x h)) rfl (by decide) (zI _ zm0_45) dJx4a65c_grow_d5877_2 (hw) rfl ?_
  refine z_iconst O dJx4a65c_grow_d5877_5 (v := 1) (by decide) ?_
  refine z_iadd O dJx4a65c_grow_d5877_6 ?_
  refine z_callV O (c_grow1_first hl hab hw hbn) zI zm5_15 zm5_16 zm5_17 zm0_31 zm5_14 ⟨rfl, by decide +kernel, by decide +kernel, (show _ = some 1 by decide +kernel)⟩ rfl (hw) ⟨Nat.le_of_ble_eq_true rfl, Nat.le_of_ble_eq_true rfl⟩ ⟨Nat.le_of_ble_eq_true rfl, Nat.le_of_ble_eq_true rfl⟩ dJx4a65c_grow_d5877_7 rfl (Nat.le_of_ble_eq_true rfl) (fun _ _ _ h => h.elim) (fun r w1 ad1 hp => ?_)
  obtain ⟨q, rfl, rfl, rfl⟩ := hp
  exact z_aret O (r := (some (va_up ad b q b))) rfl (by first | exact Or.inl ⟨_, rfl⟩ | exact Or.inr ⟨_, rfl⟩) dJx4a65c_grow_d5877_10 (Nat.le_of_ble_eq_true rfl) (Nat.le_of_ble_eq_true rfl) (⟨q, rfl, rfl, rfl⟩)

set_option maxRecDepth 100000 in
set_option maxHeartbeats 4000000 in
theorem c_add3_first {G : zG} {l : Launch} (hl : l.stackTraces = false) {w : zH} {ad : Nat → Nat} {C : String} {T : u_T} {N ci : Nat} (hC : C ∈ zObs) (hc : vwCl[ci]? = some (C, T, N)) {a b e : Nat} {fs : List Value} {m0 : Int32} (hab : a ≠ b) (hw : w a = some (zLs m0 (.ref G.2.2.2.1) 0)) (hbn : w b = none) (he : w e = some (.inr (ci, fs))) (hea : e ≠ a) (heb : e ≠ b) : zCt G l yJx4a65c_add_72be8 (zws yJx4a65c_add_72be8 cJx4a65c_add_72be8 4 none) ({ frames := 3, cells := 1, slots := 10, locals := 64 }) [.ref (ad a), .ref (ad e), .ref G.2.2.2.1, .int 0] (w) ad (fun r w1 ad1 => ∃ q, none = r ∧ wU (wU (wU (wU (w) b (zAr 10 (fun _ => none))) a (zLs m0 (.ref (va_up ad b q b)) 0)) b (zAr 10 (va_up (fun _ => none) 0 (some (va_up ad b q e))))) a (zLs m0 (.ref (va_up ad b q b)) (0 + 1)) = w1 ∧ va_up ad b q = ad1) (zNoX) := by
  refine z_body hl (by decide +kernel) (Nat.le_of_ble_eq_true rfl) (fun X O => ?_)
  refine z_iload_n O dJx4a65c_add_72be8_0 rfl ?_
  refine z_aload_n O dJx4a65c_add_72be8_1 rfl ?_
  refine z_alenE O dJx4a65c_add_72be8_2 ?_
  refine z_icmp_ne O dJx4a65c_add_72be8_3 (tgt := 11) (by decide) (fun h => absurd rfl h) (fun _ => ?_)
  refine z_aload_n O dJx4a65c_add_72be8_6 rfl ?_
  refine z_callV O (c_grow0_first hl hab hw hbn) zI zm5_19 zm5_20 zm5_21 zm0_31 zm5_18 ⟨rfl, by decide +kernel, by decide +kernel, (show _ = some 0 by decide +kernel)⟩ rfl (hw) ⟨Nat.le_of_ble_eq_true rfl, Nat.le_of_ble_eq_true rfl⟩ ⟨Nat.le_of_ble_eq_true rfl, Nat.le_of_ble_eq_true rfl⟩ dJx4a65c_add_72be8_7 rfl (Nat.le_of_ble_eq_true rfl) (fun _ _ _ h => h.elim) (fun r w1 ad1 hp => ?_)
  obtain ⟨q, rfl, rfl, rfl⟩ := hp
  rw [show ad a = va_up ad b q a from (zup_n hab).symm, show ad e = va_up ad b q e from (zup_n heb).symm]
  refine z_astore_n O dJx4a65c_add_72be8_10 (by decide) ?_
  refine z_aload_n O dJx4a65c_add_72be8_11 rfl ?_
  refine z_iload_n O dJx4a65c_add_72be8_12 rfl ?_
  refine z_aload_n O dJx4a65c_add_72be8_13 rfl ?_
  refine z_aast O hC hc dJx4a65c_add_72be8_14 ((wU_n (Ne.symm hab)).trans wU_s) ((wU_n hea).trans ((wU_n heb).trans he)) 0 rfl (by decide) (by decide) wU_eq ?_
  refine z_aload_n O dJx4a65c_add_72be8_15 rfl ?_
  refine z_iload_n O dJx4a65c_add_72be8_16 rfl ?_
  refine z_iconst O dJx4a65c_add_72be8_17 (v := 1) (by decide) ?_
  refine z_iadd O dJx4a65c_add_72be8_18 ?_
  refine z_put O (fk := 2) (fun x h => zI x (zu_RJx4a65c x h)) tyJx4a65c tyJx4a65c_ok nmJx4a65c rfl (by decide) (zI _ zm0_45) rfl dJx4a65c_add_72be8_19 rfl rfl ((wU_n hab).trans wU_s) (Nat.le_of_ble_eq_true rfl) (wU_eq) ?_
  exact z_vret O dJx4a65c_add_72be8_22 (Nat.le_of_ble_eq_true rfl) (Nat.le_of_ble_eq_true rfl) (⟨q, rfl, rfl, rfl⟩)

set_option maxRecDepth 100000 in
set_option maxHeartbeats 4000000 in
theorem c_add_first {G : zG} {l : Launch} (hl : l.stackTraces = false) {w : zH} {ad : Nat → Nat} {C : String} {T : u_T} {N ci : Nat} (hC : C ∈ zObs) (hc : vwCl[ci]? = some (C, T, N)) {a b e : Nat} {fs : List Value} {m0 : Int32} (hab : a ≠ b) (hw : w a = some (zLs m0 (.ref G.2.2.2.1) 0)) (hbn : w b = none) (he : w e = some (.inr (ci, fs))) (hea : e ≠ a) (heb : e ≠ b) : zCt G l yJx4a65c_add_9ea2d (zws yJx4a65c_add_9ea2d cJx4a65c_add_9ea2d 2 (some .boolean)) ({ frames := 6, cells := 1, slots := 15, locals := 170 }) [.ref (ad a), .ref (ad e)] (w) ad (fun r w1 ad1 => ∃ q, some (.int 1) = r ∧ wU (wU (wU (wU (wU w a (zLs (m0 + 1) (.ref G.2.2.2.1) 0)) b (zAr 10 (fun _ => none))) a (zLs (m0 + 1) (.ref (va_up ad b q b)) 0)) b (zAr 10 (va_up (fun _ => none) 0 (some (va_up ad b q e))))) a (zLs (m0 + 1) (.ref (va_up ad b q b)) (0 + 1)) = w1 ∧ va_up ad b q = ad1) (zNoX) := by
  refine z_body hl (by decide +kernel) (Nat.le_of_ble_eq_true rfl) (fun X O => ?_)
  refine z_aload_n O dJx4a65c_add_9ea2d_0 rfl ?_
  refine z_dup O dJx4a65c_add_9ea2d_1 rfl ?_
  refine z_getS O (fk := 0) (fun x h => zI x (zu_RJx4a65c x h)) rfl (by decide) (zI _ zm0_43) (zI _ zm0_44) dJx4a65c_add_9ea2d_2 (hw) rfl ?_
  refine z_iconst O dJx4a65c_add_9ea2d_5 (v := 1) (by decide) ?_
  refine z_iadd O dJx4a65c_add_9ea2d_6 ?_
  refine z_putS O (fk := 0) (fun x h => zI x (zu_RJx4a65c x h)) tyJx4a65c tyJx4a65c_ok nmJx4a65c rfl (by decide) (zI _ zm0_43) (zI _ zm0_44) rfl dJx4a65c_add_9ea2d_7 rfl rfl (hw) (Nat.le_of_ble_eq_true rfl) (wU_eq) ?_
  refine z_aload_n O dJx4a65c_add_9ea2d_10 rfl ?_
  refine z_aload_n O dJx4a65c_add_9ea2d_11 rfl ?_
  refine z_aload_n O dJx4a65c_add_9ea2d_12 rfl ?_
  refine z_get O (fk := 1) (fun x h => zI x (zu_RJx4a65c x h)) rfl (by decide) (zI _ zm0_24) dJx4a65c_add_9ea2d_13 (wU_s) rfl ?_
  refine z_aload_n O dJx4a65c_add_9ea2d_16 rfl ?_
  refine z_get O (fk := 2) (fun x h => zI x (zu_RJx4a65c x h)) rfl (by decide) (zI _ zm0_45) dJx4a65c_add_9ea2d_17 (wU_s) rfl ?_
  refine z_callV O (c_add3_first hl hC hc hab (m0 := m0 + 1) wU_s ((wU_n (Ne.symm hab)).trans hbn) ((wU_n hea).trans he) hea heb) zI zm5_23 zm5_24 zm5_25 zm0_31 zm5_22 ⟨rfl, by decide +kernel, by decide +kernel, (show _ = some 3 by decide +kernel)⟩ rfl (wU_s) ⟨Nat.le_of_ble_eq_true rfl, Nat.le_of_ble_eq_true rfl⟩ ⟨Nat.le_of_ble_eq_true rfl, Nat.le_of_ble_eq_true rfl⟩ dJx4a65c_add_9ea2d_20 rfl (Nat.le_of_ble_eq_true rfl) (fun _ _ _ h => h.elim) (fun r w1 ad1 hp => ?_)
  obtain ⟨q, rfl, rfl, rfl⟩ := hp
  refine z_iconst O dJx4a65c_add_9ea2d_23 (v := 1) (by decide) ?_
  exact z_zret O rfl rfl dJx4a65c_add_9ea2d_24 (Nat.le_of_ble_eq_true rfl) (Nat.le_of_ble_eq_true rfl) (⟨q, rfl, rfl, rfl⟩)
