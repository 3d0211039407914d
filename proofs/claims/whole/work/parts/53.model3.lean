set_option maxRecDepth 100000 in
set_option maxHeartbeats 4000000 in
theorem c_X8_isKind {G : zG} {l : Launch} (hl : l.stackTraces = false) {Z : zM} {sb : Nat → Option Nat} {mcn : Nat → Int32} {cp : Nat → Nat} {Y : zM} {th : Int32} {o : Nat → Int64} {od : Nat → UInt64} {ad : Nat → Nat} {x y : Int32} : zCt G l yX8_isKind (zws yX8_isKind cX8_isKind 2 (some .boolean)) ({ frames := 0, cells := 0, slots := 0, locals := 0 }) [.int x, .int y] (zent Z sb mcn cp G.2.2.2.1 Y th o od ad) ad (fun r w1 ad1 => (some (.int 1) = r ∧ (fKd x ∨ (¬ y = 0 ∧ x = 97)) ∧ zent Z sb mcn cp G.2.2.2.1 Y th o od ad = w1 ∧ ad = ad1) ∨ (some (.int 0) = r ∧ ¬ (fKd x ∨ (¬ y = 0 ∧ x = 97)) ∧ zent Z sb mcn cp G.2.2.2.1 Y th o od ad = w1 ∧ ad = ad1)) (zNoX) := by
  refine z_body hl (by decide +kernel) (Nat.le_of_ble_eq_true rfl) (fun X O => ?_)
  refine z_iload_n O dX8_isKind_0 rfl ?_
  refine z_bipush O dX8_isKind_1 (v := 99) (by decide) ?_
  refine z_icmp_eq O dX8_isKind_3 (tgt := 34) (by decide) (fun h0 => ?_) (fun h0 => ?_)
  · refine z_iconst O dX8_isKind_34 (v := 1) (by decide) ?_
    refine z_goto O dX8_isKind_35 (tgt := 39) (by decide) ?_
    exact z_zret O rfl rfl dX8_isKind_39 (Nat.le_of_ble_eq_true rfl) (Nat.le_of_ble_eq_true rfl) (Or.inl ⟨rfl, Or.inl (Or.inl h0), rfl, rfl⟩)
  · refine z_iload_n O dX8_isKind_6 rfl ?_
    refine z_bipush O dX8_isKind_7 (v := 119) (by decide) ?_
    refine z_icmp_eq O dX8_isKind_9 (tgt := 34) (by decide) (fun h1 => ?_) (fun h1 => ?_)
    · refine z_iconst O dX8_isKind_34 (v := 1) (by decide) ?_
      refine z_goto O dX8_isKind_35 (tgt := 39) (by decide) ?_
      exact z_zret O rfl rfl dX8_isKind_39 (Nat.le_of_ble_eq_true rfl) (Nat.le_of_ble_eq_true rfl) (Or.inl ⟨rfl, Or.inl (Or.inr (Or.inl h1)), rfl, rfl⟩)
    · refine z_iload_n O dX8_isKind_12 rfl ?_
      refine z_bipush O dX8_isKind_13 (v := 108) (by decide) ?_
      refine z_icmp_eq O dX8_isKind_15 (tgt := 34) (by decide) (fun h2 => ?_) (fun h2 => ?_)
      · refine z_iconst O dX8_isKind_34 (v := 1) (by decide) ?_
        refine z_goto O dX8_isKind_35 (tgt := 39) (by decide) ?_
        exact z_zret O rfl rfl dX8_isKind_39 (Nat.le_of_ble_eq_true rfl) (Nat.le_of_ble_eq_true rfl) (Or.inl ⟨rfl, Or.inl (Or.inr (Or.inr (Or.inl h2))), rfl, rfl⟩)
      · refine z_iload_n O dX8_isKind_18 rfl ?_
        refine z_bipush O dX8_isKind_19 (v := 101) (by decide) ?_
        refine z_icmp_eq O dX8_isKind_21 (tgt := 34) (by decide) (fun h3 => ?_) (fun h3 => ?_)
        · refine z_iconst O dX8_isKind_34 (v := 1) (by decide) ?_
          refine z_goto O dX8_isKind_35 (tgt := 39) (by decide) ?_
          exact z_zret O rfl rfl dX8_isKind_39 (Nat.le_of_ble_eq_true rfl) (Nat.le_of_ble_eq_true rfl) (Or.inl ⟨rfl, Or.inl (Or.inr (Or.inr (Or.inr h3))), rfl, rfl⟩)
        · refine z_iload_n O dX8_isKind_24 rfl ?_
          refine z_if_eq O dX8_isKind_25 (tgt := 38) (by decide) (fun h4 => ?_) (fun h4 => ?_)
          · refine z_iconst O dX8_isKind_38 (v := 0) (by decide) ?_
            exact z_zret O rfl rfl dX8_isKind_39 (Nat.le_of_ble_eq_true rfl) (Nat.le_of_ble_eq_true rfl) (Or.inr ⟨rfl, fun q => q.elim (fun q => q.elim h0 (fun q => q.elim h1 (fun q => q.elim h2 h3))) (fun q => q.1 h4), rfl, rfl⟩)
          · refine z_iload_n O dX8_isKind_28 rfl ?_
            refine z_bipush O dX8_isKind_29 (v := 97) (by decide) ?_
            refine z_icmp_ne O dX8_isKind_31 (tgt := 38) (by decide) (fun h5 => ?_) (fun h5 => ?_)
            · refine z_iconst O dX8_isKind_38 (v := 0) (by decide) ?_
              exact z_zret O rfl rfl dX8_isKind_39 (Nat.le_of_ble_eq_true rfl) (Nat.le_of_ble_eq_true rfl) (Or.inr ⟨rfl, fun q => q.elim (fun q => q.elim h0 (fun q => q.elim h1 (fun q => q.elim h2 h3))) (fun q => h5 q.2), rfl, rfl⟩)
            · refine z_iconst O dX8_isKind_34 (v := 1) (by decide) ?_
              refine z_goto O dX8_isKind_35 (tgt := 39) (by decide) ?_
              exact z_zret O rfl rfl dX8_isKind_39 (Nat.le_of_ble_eq_true rfl) (Nat.le_of_ble_eq_true rfl) (Or.inl ⟨rfl, Or.inr ⟨h4, h5⟩, rfl, rfl⟩)

theorem zCnt_eq {Y : zM} {i b : Nat} (hc : zCnt Y i) (hb : b < 100) : Y (25 + i) 0 = nI b ↔ zN Y i = b := by
  rw [hc.1]
  exact nI_eq (by have := hc.2; omega) (by omega)
theorem zCnt_ge {Y : zM} {i b : Nat} (hc : zCnt Y i) (hb : b < 100) : nI b ≤ Y (25 + i) 0 ↔ b ≤ zN Y i := by
  rw [hc.1]
  exact nI_leI (by omega) (by have := hc.2; omega)
theorem z_p1m1 (x : Int32) : x + 1 - 1 = x := by rw [Int32.add_sub_cancel]
set_option maxRecDepth 100000 in
set_option maxHeartbeats 4000000 in
theorem c_X8_addHand {G : zG} {l : Launch} (hl : l.stackTraces = false) {Z : zM} {sb : Nat → Option Nat} {mcn : Nat → Int32} {cp : Nat → Nat} {Y : zM} {th : Int32} {o : Nat → Int64} {od : Nat → UInt64} {ad : Nat → Nat} (hc : zCnt Y 0) {x s q p : Int32} (hcz : zChr x) : zCt G l yX8_addHand (zws yX8_addHand cX8_addHand 5 (some .int)) ({ frames := 1, cells := 0, slots := 0, locals := 22 }) [.ref (ad 300), .int x, .int s, .int q, .int p] (zent Z sb mcn cp G.2.2.2.1 Y th o od ad) ad (fun r w1 ad1 => (kAddHand Y x s q p = 0 ∧ some (.int (Y 25 0)) = r ∧ zent Z sb mcn cp G.2.2.2.1 (zu (zu (zu (zu (zu Y 9 (zN Y 0) x) 11 (zN Y 0) s) 12 (zN Y 0) q) 13 (zN Y 0) p) 25 0 (Y 25 0 + 1)) 0 o od ad = w1 ∧ ad = ad1) ∨ (kAddHand Y x s q p ≠ 0 ∧ (∃ v, some (.int v) = r) ∧ zent Z sb mcn cp G.2.2.2.1 Y (nI (kAddHand Y x s q p)) o od ad = w1 ∧ ad = ad1)) (zNoX) := by
  refine z_body hl (by decide +kernel) (Nat.le_of_ble_eq_true rfl) (fun X O => ?_)
  have hge : (12 : Int32) ≤ Y 25 0 ↔ 12 ≤ zN Y 0 := zCnt_ge (i := 0) (b := 12) hc (by decide)
  have heq : Y 25 0 = (12 : Int32) ↔ zN Y 0 = 12 := zCnt_eq (i := 0) (b := 12) hc (by decide)
  refine z_iload_n O dX8_addHand_0 rfl ?_
  refine z_iconst O dX8_addHand_1 (v := 1) (by decide) ?_
  refine z_callS O (c_X8_isKind hl) zI zm8_29 zm8_30 zm7_16 zm8_27 ⟨by decide +kernel, by decide +kernel, (show _ = some 2 by decide +kernel)⟩ ⟨Nat.le_of_ble_eq_true rfl, Nat.le_of_ble_eq_true rfl⟩ ⟨Nat.le_of_ble_eq_true rfl, Nat.le_of_ble_eq_true rfl⟩ dX8_addHand_2 rfl (Nat.le_of_ble_eq_true rfl) (fun _ _ _ h => h.elim) (fun r w1 ad1 hp => ?_)
  rcases hp with ⟨rfl, hb0, rfl, rfl⟩ | ⟨rfl, hb0, rfl, rfl⟩
  · refine z_if_eq O dX8_addHand_5 (tgt := 38) (by decide) (fun q => absurd q (by decide)) (fun _ => ?_)
    refine z_iload_n O dX8_addHand_8 rfl ?_
    refine z_iconst O dX8_addHand_9 (v := 1) (by decide) ?_
    refine z_bipush O dX8_addHand_10 (v := 9) (by decide) ?_
    refine z_callS O (c_X8_in hl) zI zm7_65 zm7_66 zm7_16 zm7_56 ⟨by decide +kernel, by decide +kernel, (show _ = some 3 by decide +kernel)⟩ ⟨Nat.le_of_ble_eq_true rfl, Nat.le_of_ble_eq_true rfl⟩ ⟨Nat.le_of_ble_eq_true rfl, Nat.le_of_ble_eq_true rfl⟩ dX8_addHand_12 rfl (Nat.le_of_ble_eq_true rfl) (fun _ _ _ h => h.elim) (fun r w1 ad1 hp => ?_)
    rcases hp with ⟨rfl, hb1, rfl, rfl⟩ | ⟨rfl, hb1, rfl, rfl⟩
    · refine z_if_eq O dX8_addHand_15 (tgt := 38) (by decide) (fun q => absurd q (by decide)) (fun _ => ?_)
      refine z_iload_n O dX8_addHand_18 rfl ?_
      refine z_iconst O dX8_addHand_19 (v := 0) (by decide) ?_
      refine z_iconst O dX8_addHand_20 (v := 3) (by decide) ?_
      refine z_callS O (c_X8_in hl) zI zm7_65 zm7_66 zm7_16 zm7_56 ⟨by decide +kernel, by decide +kernel, (show _ = some 3 by decide +kernel)⟩ ⟨Nat.le_of_ble_eq_true rfl, Nat.le_of_ble_eq_true rfl⟩ ⟨Nat.le_of_ble_eq_true rfl, Nat.le_of_ble_eq_true rfl⟩ dX8_addHand_21 rfl (Nat.le_of_ble_eq_true rfl) (fun _ _ _ h => h.elim) (fun r w1 ad1 hp => ?_)
      rcases hp with ⟨rfl, hb2, rfl, rfl⟩ | ⟨rfl, hb2, rfl, rfl⟩
      · refine z_if_eq O dX8_addHand_24 (tgt := 38) (by decide) (fun q => absurd q (by decide)) (fun _ => ?_)
        refine z_iload O dX8_addHand_27 rfl ?_
        refine z_iconst O dX8_addHand_29 (v := 0) (by decide) ?_
        refine z_bipush O dX8_addHand_30 (v := 99) (by decide) ?_
        refine z_callS O (c_X8_in hl) zI zm7_65 zm7_66 zm7_16 zm7_56 ⟨by decide +kernel, by decide +kernel, (show _ = some 3 by decide +kernel)⟩ ⟨Nat.le_of_ble_eq_true rfl, Nat.le_of_ble_eq_true rfl⟩ ⟨Nat.le_of_ble_eq_true rfl, Nat.le_of_ble_eq_true rfl⟩ dX8_addHand_32 rfl (Nat.le_of_ble_eq_true rfl) (fun _ _ _ h => h.elim) (fun r w1 ad1 hp => ?_)
        rcases hp with ⟨rfl, hb3, rfl, rfl⟩ | ⟨rfl, hb3, rfl, rfl⟩
        · refine z_if_ne O dX8_addHand_35 (tgt := 44) (by decide) (fun _ => ?_) (fun q => absurd q (by decide))
          refine z_aload_n O dX8_addHand_44 rfl ?_
          refine z_get O (fk := 25) (fun x h => zI x (zu_RX8 x h)) rfl (by decide) (zI _ zm7_39) dX8_addHand_45 (zg_model) rfl ?_
          refine z_bipush O dX8_addHand_48 (v := 12) (by decide) ?_
          refine z_icmp_ne O dX8_addHand_50 (tgt := 59) (by decide) (fun g => ?_) (fun g => ?_)
          · have hlt : zN Y 0 < 12 := by
              have h9 := hc.2
              rcases Nat.lt_or_ge (zN Y 0) 12 with q | q
              · exact q
              · exact absurd (heq.mpr (by omega)) g
            refine z_aload_n O dX8_addHand_59 rfl ?_
            refine z_get O (fk := 9) (fun x h => zI x (zu_RX8 x h)) rfl (by decide) (zI _ zm7_23) dX8_addHand_60 (zg_model) rfl ?_
            refine z_aload_n O dX8_addHand_63 rfl ?_
            refine z_get O (fk := 25) (fun x h => zI x (zu_RX8 x h)) rfl (by decide) (zI _ zm7_39) dX8_addHand_64 (zg_model) rfl ?_
            refine z_iload_n O dX8_addHand_67 rfl ?_
            refine z_cast O dX8_addHand_68 (zg_mC (i := 9) (n := 12) rfl rfl (by decide)) (zN Y 0) (hc.1) (hlt) (by decide) (hcz.1) (zp_mC (i := 9) (n := 12) rfl rfl (by decide)) ?_
            refine z_aload_n O dX8_addHand_69 rfl ?_
            refine z_get O (fk := 11) (fun x h => zI x (zu_RX8 x h)) rfl (by decide) (zI _ zm7_25) dX8_addHand_70 (zg_model) rfl ?_
            refine z_aload_n O dX8_addHand_73 rfl ?_
            refine z_get O (fk := 25) (fun x h => zI x (zu_RX8 x h)) rfl (by decide) (zI _ zm7_39) dX8_addHand_74 (zg_model) rfl ?_
            refine z_iload_n O dX8_addHand_77 rfl ?_
            refine z_iast O dX8_addHand_78 (zg_mI (i := 11) (n := 12) rfl rfl (by decide)) (zN Y 0) (hc.1) (hlt) (by decide) (zp_mI (i := 11) (n := 12) rfl rfl (by decide)) ?_
            refine z_aload_n O dX8_addHand_79 rfl ?_
            refine z_get O (fk := 12) (fun x h => zI x (zu_RX8 x h)) rfl (by decide) (zI _ zm7_26) dX8_addHand_80 (zg_model) rfl ?_
            refine z_aload_n O dX8_addHand_83 rfl ?_
            refine z_get O (fk := 25) (fun x h => zI x (zu_RX8 x h)) rfl (by decide) (zI _ zm7_39) dX8_addHand_84 (zg_model) rfl ?_
            refine z_iload_n O dX8_addHand_87 rfl ?_
            refine z_iast O dX8_addHand_88 (zg_mI (i := 12) (n := 12) rfl rfl (by decide)) (zN Y 0) (hc.1) (hlt) (by decide) (zp_mI (i := 12) (n := 12) rfl rfl (by decide)) ?_
            refine z_aload_n O dX8_addHand_89 rfl ?_
            refine z_get O (fk := 13) (fun x h => zI x (zu_RX8 x h)) rfl (by decide) (zI _ zm7_27) dX8_addHand_90 (zg_model) rfl ?_
            refine z_aload_n O dX8_addHand_93 rfl ?_
            refine z_get O (fk := 25) (fun x h => zI x (zu_RX8 x h)) rfl (by decide) (zI _ zm7_39) dX8_addHand_94 (zg_model) rfl ?_
            refine z_iload O dX8_addHand_97 rfl ?_
            refine z_iast O dX8_addHand_99 (zg_mI (i := 13) (n := 12) rfl rfl (by decide)) (zN Y 0) (hc.1) (hlt) (by decide) (zp_mI (i := 13) (n := 12) rfl rfl (by decide)) ?_
            refine z_aload_n O dX8_addHand_100 rfl ?_
            refine z_dup O dX8_addHand_101 rfl ?_
            refine z_get O (fk := 25) (fun x h => zI x (zu_RX8 x h)) rfl (by decide) (zI _ zm7_39) dX8_addHand_102 (zg_model) rfl ?_
            refine z_iconst O dX8_addHand_105 (v := 1) (by decide) ?_
            refine z_iadd O dX8_addHand_106 ?_
            refine z_put O (fk := 25) (fun x h => zI x (zu_RX8 x h)) tyX8 tyX8_ok nmX8 rfl (by decide) (zI _ zm7_39) rfl dX8_addHand_107 rfl rfl (zg_model) (Nat.le_of_ble_eq_true rfl) (zp_model (F := 25) (by decide) rfl) ?_
            refine z_aload_n O dX8_addHand_110 rfl ?_
            refine z_aload_n O dX8_addHand_111 rfl ?_
            refine z_get O (fk := 25) (fun x h => zI x (zu_RX8 x h)) rfl (by decide) (zI _ zm7_39) dX8_addHand_112 (zg_model) rfl ?_
            refine z_iconst O dX8_addHand_115 (v := 1) (by decide) ?_
            refine z_isub O dX8_addHand_116 ?_
            refine z_callV O (c_X8_tells hl) zI zm8_6 zm8_7 zm8_8 zm7_16 zm7_61 ⟨rfl, by decide +kernel, by decide +kernel, (show _ = some 1 by decide +kernel)⟩ rfl (zg_model) ⟨Nat.le_of_ble_eq_true rfl, Nat.le_of_ble_eq_true rfl⟩ ⟨Nat.le_of_ble_eq_true rfl, Nat.le_of_ble_eq_true rfl⟩ dX8_addHand_117 rfl (Nat.le_of_ble_eq_true rfl) (fun _ _ _ h => h.elim) (fun r w1 ad1 hp => ?_)
            obtain ⟨rfl, rfl, rfl⟩ := hp
            exact z_iret O dX8_addHand_120 (Nat.le_of_ble_eq_true rfl) (Nat.le_of_ble_eq_true rfl) (Or.inl ⟨by unfold kAddHand; rw [if_neg (fun q => q (hb0.elim Or.inr (fun z => Or.inl z.2))), if_neg (fun q => q hb1), if_neg (fun q => q hb2), if_neg (fun q => q hb3), if_neg (fun q => absurd (hge.mp q) (by omega))], by rw [zu_s, z_p1m1]; rfl, rfl, rfl⟩)
          · refine z_aload_n O dX8_addHand_53 rfl ?_
            refine z_iconst O dX8_addHand_54 (v := 2) (by decide) ?_
            refine z_callV O (c_X8_fails hl) zI zm8_0 zm8_1 zm8_2 zm7_16 zm7_59 ⟨rfl, by decide +kernel, by decide +kernel, (show _ = some 1 by decide +kernel)⟩ rfl (zg_model) ⟨Nat.le_of_ble_eq_true rfl, Nat.le_of_ble_eq_true rfl⟩ ⟨Nat.le_of_ble_eq_true rfl, Nat.le_of_ble_eq_true rfl⟩ dX8_addHand_55 rfl (Nat.le_of_ble_eq_true rfl) (fun _ _ _ h => h.elim) (fun r w1 ad1 hp => ?_)
            obtain ⟨rfl, rfl, rfl⟩ := hp
            exact z_iret O dX8_addHand_58 (Nat.le_of_ble_eq_true rfl) (Nat.le_of_ble_eq_true rfl) (Or.inr ⟨by unfold kAddHand; rw [if_neg (fun q => q (hb0.elim Or.inr (fun z => Or.inl z.2))), if_neg (fun q => q hb1), if_neg (fun q => q hb2), if_neg (fun q => q hb3), if_pos (hge.mpr (Nat.le_of_eq (heq.mp g).symm))]; decide, ⟨_, rfl⟩, by unfold kAddHand; rw [if_neg (fun q => q (hb0.elim Or.inr (fun z => Or.inl z.2))), if_neg (fun q => q hb1), if_neg (fun q => q hb2), if_neg (fun q => q hb3), if_pos (hge.mpr (Nat.le_of_eq (heq.mp g).symm))]; rfl, rfl⟩)
        · refine z_if_ne O dX8_addHand_35 (tgt := 44) (by decide) (fun q => absurd rfl q) (fun _ => ?_)
          refine z_aload_n O dX8_addHand_38 rfl ?_
          refine z_iconst O dX8_addHand_39 (v := 1) (by decide) ?_
          refine z_callV O (c_X8_fails hl) zI zm8_0 zm8_1 zm8_2 zm7_16 zm7_59 ⟨rfl, by decide +kernel, by decide +kernel, (show _ = some 1 by decide +kernel)⟩ rfl (zg_model) ⟨Nat.le_of_ble_eq_true rfl, Nat.le_of_ble_eq_true rfl⟩ ⟨Nat.le_of_ble_eq_true rfl, Nat.le_of_ble_eq_true rfl⟩ dX8_addHand_40 rfl (Nat.le_of_ble_eq_true rfl) (fun _ _ _ h => h.elim) (fun r w1 ad1 hp => ?_)
          obtain ⟨rfl, rfl, rfl⟩ := hp
          exact z_iret O dX8_addHand_43 (Nat.le_of_ble_eq_true rfl) (Nat.le_of_ble_eq_true rfl) (Or.inr ⟨by unfold kAddHand; rw [if_neg (fun q => q (hb0.elim Or.inr (fun z => Or.inl z.2))), if_neg (fun q => q hb1), if_neg (fun q => q hb2), if_pos hb3]; decide, ⟨_, rfl⟩, by unfold kAddHand; rw [if_neg (fun q => q (hb0.elim Or.inr (fun z => Or.inl z.2))), if_neg (fun q => q hb1), if_neg (fun q => q hb2), if_pos hb3]; rfl, rfl⟩)
      · refine z_if_eq O dX8_addHand_24 (tgt := 38) (by decide) (fun _ => ?_) (fun q => absurd rfl q)
        refine z_aload_n O dX8_addHand_38 rfl ?_
        refine z_iconst O dX8_addHand_39 (v := 1) (by decide) ?_
        refine z_callV O (c_X8_fails hl) zI zm8_0 zm8_1 zm8_2 zm7_16 zm7_59 ⟨rfl, by decide +kernel, by decide +kernel, (show _ = some 1 by decide +kernel)⟩ rfl (zg_model) ⟨Nat.le_of_ble_eq_true rfl, Nat.le_of_ble_eq_true rfl⟩ ⟨Nat.le_of_ble_eq_true rfl, Nat.le_of_ble_eq_true rfl⟩ dX8_addHand_40 rfl (Nat.le_of_ble_eq_true rfl) (fun _ _ _ h => h.elim) (fun r w1 ad1 hp => ?_)
        obtain ⟨rfl, rfl, rfl⟩ := hp
        exact z_iret O dX8_addHand_43 (Nat.le_of_ble_eq_true rfl) (Nat.le_of_ble_eq_true rfl) (Or.inr ⟨by unfold kAddHand; rw [if_neg (fun q => q (hb0.elim Or.inr (fun z => Or.inl z.2))), if_neg (fun q => q hb1), if_pos hb2]; decide, ⟨_, rfl⟩, by unfold kAddHand; rw [if_neg (fun q => q (hb0.elim Or.inr (fun z => Or.inl z.2))), if_neg (fun q => q hb1), if_pos hb2]; rfl, rfl⟩)
    · refine z_if_eq O dX8_addHand_15 (tgt := 38) (by decide) (fun _ => ?_) (fun q => absurd rfl q)
      refine z_aload_n O dX8_addHand_38 rfl ?_
      refine z_iconst O dX8_addHand_39 (v := 1) (by decide) ?_
      refine z_callV O (c_X8_fails hl) zI zm8_0 zm8_1 zm8_2 zm7_16 zm7_59 ⟨rfl, by decide +kernel, by decide +kernel, (show _ = some 1 by decide +kernel)⟩ rfl (zg_model) ⟨Nat.le_of_ble_eq_true rfl, Nat.le_of_ble_eq_true rfl⟩ ⟨Nat.le_of_ble_eq_true rfl, Nat.le_of_ble_eq_true rfl⟩ dX8_addHand_40 rfl (Nat.le_of_ble_eq_true rfl) (fun _ _ _ h => h.elim) (fun r w1 ad1 hp => ?_)
      obtain ⟨rfl, rfl, rfl⟩ := hp
      exact z_iret O dX8_addHand_43 (Nat.le_of_ble_eq_true rfl) (Nat.le_of_ble_eq_true rfl) (Or.inr ⟨by unfold kAddHand; rw [if_neg (fun q => q (hb0.elim Or.inr (fun z => Or.inl z.2))), if_pos hb1]; decide, ⟨_, rfl⟩, by unfold kAddHand; rw [if_neg (fun q => q (hb0.elim Or.inr (fun z => Or.inl z.2))), if_pos hb1]; rfl, rfl⟩)
  · refine z_if_eq O dX8_addHand_5 (tgt := 38) (by decide) (fun _ => ?_) (fun q => absurd rfl q)
    refine z_aload_n O dX8_addHand_38 rfl ?_
    refine z_iconst O dX8_addHand_39 (v := 1) (by decide) ?_
    refine z_callV O (c_X8_fails hl) zI zm8_0 zm8_1 zm8_2 zm7_16 zm7_59 ⟨rfl, by decide +kernel, by decide +kernel, (show _ = some 1 by decide +kernel)⟩ rfl (zg_model) ⟨Nat.le_of_ble_eq_true rfl, Nat.le_of_ble_eq_true rfl⟩ ⟨Nat.le_of_ble_eq_true rfl, Nat.le_of_ble_eq_true rfl⟩ dX8_addHand_40 rfl (Nat.le_of_ble_eq_true rfl) (fun _ _ _ h => h.elim) (fun r w1 ad1 hp => ?_)
    obtain ⟨rfl, rfl, rfl⟩ := hp
    exact z_iret O dX8_addHand_43 (Nat.le_of_ble_eq_true rfl) (Nat.le_of_ble_eq_true rfl) (Or.inr ⟨by unfold kAddHand; rw [if_pos (fun q => q.elim (fun z => hb0 (Or.inr ⟨by decide, z⟩)) (fun z => hb0 (Or.inl z)))]; decide, ⟨_, rfl⟩, by unfold kAddHand; rw [if_pos (fun q => q.elim (fun z => hb0 (Or.inr ⟨by decide, z⟩)) (fun z => hb0 (Or.inl z)))]; rfl, rfl⟩)

set_option maxRecDepth 100000 in
set_option maxHeartbeats 4000000 in
theorem c_X8_addSinger {G : zG} {l : Launch} (hl : l.stackTraces = false) {Z : zM} {sb : Nat → Option Nat} {mcn : Nat → Int32} {cp : Nat → Nat} {Y : zM} {th : Int32} {o : Nat → Int64} {od : Nat → UInt64} {ad : Nat → Nat} (hc : zCnt Y 1) (h6 : zN Y 1 ≤ 6) {x y : Int32} : zCt G l yX8_addSinger (zws yX8_addSinger cX8_addSinger 3 (some .int)) ({ frames := 1, cells := 0, slots := 0, locals := 22 }) [.ref (ad 300), .int x, .int y] (zent Z sb mcn cp G.2.2.2.1 Y th o od ad) ad (fun r w1 ad1 => (kAddSing Y x y = 0 ∧ some (.int (Y 26 0)) = r ∧ zent Z sb mcn cp G.2.2.2.1 (zu (zu (zu Y 15 (zN Y 1) x) 16 (zN Y 1) y) 26 0 (Y 26 0 + 1)) 0 o od ad = w1 ∧ ad = ad1) ∨ (kAddSing Y x y ≠ 0 ∧ (∃ v, some (.int v) = r) ∧ zent Z sb mcn cp G.2.2.2.1 Y (nI (kAddSing Y x y)) o od ad = w1 ∧ ad = ad1)) (zNoX) := by
  refine z_body hl (by decide +kernel) (Nat.le_of_ble_eq_true rfl) (fun X O => ?_)
  have hge : (6 : Int32) ≤ Y 26 0 ↔ 6 ≤ zN Y 1 := zCnt_ge (i := 1) (b := 6) hc (by decide)
  have heq : Y 26 0 = (6 : Int32) ↔ zN Y 1 = 6 := zCnt_eq (i := 1) (b := 6) hc (by decide)
  refine z_iload_n O dX8_addSinger_0 rfl ?_
  refine z_iconst O dX8_addSinger_1 (v := 0) (by decide) ?_
  refine z_sipush O dX8_addSinger_2 (v := 999) (by decide) ?_
  refine z_callS O (c_X8_in hl) zI zm7_65 zm7_66 zm7_16 zm7_56 ⟨by decide +kernel, by decide +kernel, (show _ = some 3 by decide +kernel)⟩ ⟨Nat.le_of_ble_eq_true rfl, Nat.le_of_ble_eq_true rfl⟩ ⟨Nat.le_of_ble_eq_true rfl, Nat.le_of_ble_eq_true rfl⟩ dX8_addSinger_5 rfl (Nat.le_of_ble_eq_true rfl) (fun _ _ _ h => h.elim) (fun r w1 ad1 hp => ?_)
  rcases hp with ⟨rfl, hb0, rfl, rfl⟩ | ⟨rfl, hb0, rfl, rfl⟩
  · refine z_if_eq O dX8_addSinger_8 (tgt := 21) (by decide) (fun q => absurd q (by decide)) (fun _ => ?_)
    refine z_iload_n O dX8_addSinger_11 rfl ?_
    refine z_iconst O dX8_addSinger_12 (v := 0) (by decide) ?_
    refine z_bipush O dX8_addSinger_13 (v := 99) (by decide) ?_
    refine z_callS O (c_X8_in hl) zI zm7_65 zm7_66 zm7_16 zm7_56 ⟨by decide +kernel, by decide +kernel, (show _ = some 3 by decide +kernel)⟩ ⟨Nat.le_of_ble_eq_true rfl, Nat.le_of_ble_eq_true rfl⟩ ⟨Nat.le_of_ble_eq_true rfl, Nat.le_of_ble_eq_true rfl⟩ dX8_addSinger_15 rfl (Nat.le_of_ble_eq_true rfl) (fun _ _ _ h => h.elim) (fun r w1 ad1 hp => ?_)
    rcases hp with ⟨rfl, hb1, rfl, rfl⟩ | ⟨rfl, hb1, rfl, rfl⟩
    · refine z_if_ne O dX8_addSinger_18 (tgt := 27) (by decide) (fun _ => ?_) (fun q => absurd q (by decide))
      refine z_aload_n O dX8_addSinger_27 rfl ?_
      refine z_get O (fk := 26) (fun x h => zI x (zu_RX8 x h)) rfl (by decide) (zI _ zm7_40) dX8_addSinger_28 (zg_model) rfl ?_
      refine z_bipush O dX8_addSinger_31 (v := 6) (by decide) ?_
      refine z_icmp_ne O dX8_addSinger_33 (tgt := 42) (by decide) (fun g => ?_) (fun g => ?_)
      · have hlt : zN Y 1 < 6 := by
          rcases Nat.lt_or_ge (zN Y 1) 6 with q | q
          · exact q
          · exact absurd (heq.mpr (by omega)) g
        refine z_aload_n O dX8_addSinger_42 rfl ?_
        refine z_get O (fk := 15) (fun x h => zI x (zu_RX8 x h)) rfl (by decide) (zI _ zm7_29) dX8_addSinger_43 (zg_model) rfl ?_
        refine z_aload_n O dX8_addSinger_46 rfl ?_
        refine z_get O (fk := 26) (fun x h => zI x (zu_RX8 x h)) rfl (by decide) (zI _ zm7_40) dX8_addSinger_47 (zg_model) rfl ?_
        refine z_iload_n O dX8_addSinger_50 rfl ?_
        refine z_iast O dX8_addSinger_51 (zg_mI (i := 15) (n := 6) rfl rfl (by decide)) (zN Y 1) (hc.1) (hlt) (by decide) (zp_mI (i := 15) (n := 6) rfl rfl (by decide)) ?_
        refine z_aload_n O dX8_addSinger_52 rfl ?_
        refine z_get O (fk := 16) (fun x h => zI x (zu_RX8 x h)) rfl (by decide) (zI _ zm7_30) dX8_addSinger_53 (zg_model) rfl ?_
        refine z_aload_n O dX8_addSinger_56 rfl ?_
        refine z_get O (fk := 26) (fun x h => zI x (zu_RX8 x h)) rfl (by decide) (zI _ zm7_40) dX8_addSinger_57 (zg_model) rfl ?_
        refine z_iload_n O dX8_addSinger_60 rfl ?_
        refine z_iast O dX8_addSinger_61 (zg_mI (i := 16) (n := 6) rfl rfl (by decide)) (zN Y 1) (hc.1) (hlt) (by decide) (zp_mI (i := 16) (n := 6) rfl rfl (by decide)) ?_
        refine z_aload_n O dX8_addSinger_62 rfl ?_
        refine z_dup O dX8_addSinger_63 rfl ?_
        refine z_get O (fk := 26) (fun x h => zI x (zu_RX8 x h)) rfl (by decide) (zI _ zm7_40) dX8_addSinger_64 (zg_model) rfl ?_
        refine z_iconst O dX8_addSinger_67 (v := 1) (by decide) ?_
        refine z_iadd O dX8_addSinger_68 ?_
        refine z_put O (fk := 26) (fun x h => zI x (zu_RX8 x h)) tyX8 tyX8_ok nmX8 rfl (by decide) (zI _ zm7_40) rfl dX8_addSinger_69 rfl rfl (zg_model) (Nat.le_of_ble_eq_true rfl) (zp_model (F := 26) (by decide) rfl) ?_
        refine z_aload_n O dX8_addSinger_72 rfl ?_
        refine z_aload_n O dX8_addSinger_73 rfl ?_
        refine z_get O (fk := 26) (fun x h => zI x (zu_RX8 x h)) rfl (by decide) (zI _ zm7_40) dX8_addSinger_74 (zg_model) rfl ?_
        refine z_iconst O dX8_addSinger_77 (v := 1) (by decide) ?_
        refine z_isub O dX8_addSinger_78 ?_
        refine z_callV O (c_X8_tells hl) zI zm8_6 zm8_7 zm8_8 zm7_16 zm7_61 ⟨rfl, by decide +kernel, by decide +kernel, (show _ = some 1 by decide +kernel)⟩ rfl (zg_model) ⟨Nat.le_of_ble_eq_true rfl, Nat.le_of_ble_eq_true rfl⟩ ⟨Nat.le_of_ble_eq_true rfl, Nat.le_of_ble_eq_true rfl⟩ dX8_addSinger_79 rfl (Nat.le_of_ble_eq_true rfl) (fun _ _ _ h => h.elim) (fun r w1 ad1 hp => ?_)
        obtain ⟨rfl, rfl, rfl⟩ := hp
        exact z_iret O dX8_addSinger_82 (Nat.le_of_ble_eq_true rfl) (Nat.le_of_ble_eq_true rfl) (Or.inl ⟨by unfold kAddSing; rw [if_neg (fun q => q hb0), if_neg (fun q => q hb1), if_neg (fun q => absurd (hge.mp q) (by omega))], by rw [zu_s, z_p1m1]; rfl, rfl, rfl⟩)
      · refine z_aload_n O dX8_addSinger_36 rfl ?_
        refine z_iconst O dX8_addSinger_37 (v := 2) (by decide) ?_
        refine z_callV O (c_X8_fails hl) zI zm8_0 zm8_1 zm8_2 zm7_16 zm7_59 ⟨rfl, by decide +kernel, by decide +kernel, (show _ = some 1 by decide +kernel)⟩ rfl (zg_model) ⟨Nat.le_of_ble_eq_true rfl, Nat.le_of_ble_eq_true rfl⟩ ⟨Nat.le_of_ble_eq_true rfl, Nat.le_of_ble_eq_true rfl⟩ dX8_addSinger_38 rfl (Nat.le_of_ble_eq_true rfl) (fun _ _ _ h => h.elim) (fun r w1 ad1 hp => ?_)
        obtain ⟨rfl, rfl, rfl⟩ := hp
        exact z_iret O dX8_addSinger_41 (Nat.le_of_ble_eq_true rfl) (Nat.le_of_ble_eq_true rfl) (Or.inr ⟨by unfold kAddSing; rw [if_neg (fun q => q hb0), if_neg (fun q => q hb1), if_pos (hge.mpr (Nat.le_of_eq (heq.mp g).symm))]; decide, ⟨_, rfl⟩, by unfold kAddSing; rw [if_neg (fun q => q hb0), if_neg (fun q => q hb1), if_pos (hge.mpr (Nat.le_of_eq (heq.mp g).symm))]; rfl, rfl⟩)
    · refine z_if_ne O dX8_addSinger_18 (tgt := 27) (by decide) (fun q => absurd rfl q) (fun _ => ?_)
      refine z_aload_n O dX8_addSinger_21 rfl ?_
      refine z_iconst O dX8_addSinger_22 (v := 1) (by decide) ?_
      refine z_callV O (c_X8_fails hl) zI zm8_0 zm8_1 zm8_2 zm7_16 zm7_59 ⟨rfl, by decide +kernel, by decide +kernel, (show _ = some 1 by decide +kernel)⟩ rfl (zg_model) ⟨Nat.le_of_ble_eq_true rfl, Nat.le_of_ble_eq_true rfl⟩ ⟨Nat.le_of_ble_eq_true rfl, Nat.le_of_ble_eq_true rfl⟩ dX8_addSinger_23 rfl (Nat.le_of_ble_eq_true rfl) (fun _ _ _ h => h.elim) (fun r w1 ad1 hp => ?_)
      obtain ⟨rfl, rfl, rfl⟩ := hp
      exact z_iret O dX8_addSinger_26 (Nat.le_of_ble_eq_true rfl) (Nat.le_of_ble_eq_true rfl) (Or.inr ⟨by unfold kAddSing; rw [if_neg (fun q => q hb0), if_pos hb1]; decide, ⟨_, rfl⟩, by unfold kAddSing; rw [if_neg (fun q => q hb0), if_pos hb1]; rfl, rfl⟩)
  · refine z_if_eq O dX8_addSinger_8 (tgt := 21) (by decide) (fun _ => ?_) (fun q => absurd rfl q)
    refine z_aload_n O dX8_addSinger_21 rfl ?_
    refine z_iconst O dX8_addSinger_22 (v := 1) (by decide) ?_
    refine z_callV O (c_X8_fails hl) zI zm8_0 zm8_1 zm8_2 zm7_16 zm7_59 ⟨rfl, by decide +kernel, by decide +kernel, (show _ = some 1 by decide +kernel)⟩ rfl (zg_model) ⟨Nat.le_of_ble_eq_true rfl, Nat.le_of_ble_eq_true rfl⟩ ⟨Nat.le_of_ble_eq_true rfl, Nat.le_of_ble_eq_true rfl⟩ dX8_addSinger_23 rfl (Nat.le_of_ble_eq_true rfl) (fun _ _ _ h => h.elim) (fun r w1 ad1 hp => ?_)
    obtain ⟨rfl, rfl, rfl⟩ := hp
    exact z_iret O dX8_addSinger_26 (Nat.le_of_ble_eq_true rfl) (Nat.le_of_ble_eq_true rfl) (Or.inr ⟨by unfold kAddSing; rw [if_pos hb0]; decide, ⟨_, rfl⟩, by unfold kAddSing; rw [if_pos hb0]; rfl, rfl⟩)

set_option maxRecDepth 100000 in
set_option maxHeartbeats 4000000 in
theorem c_X8_addCue {G : zG} {l : Launch} (hl : l.stackTraces = false) {Z : zM} {sb : Nat → Option Nat} {mcn : Nat → Int32} {cp : Nat → Nat} {Y : zM} {th : Int32} {o : Nat → Int64} {od : Nat → UInt64} {ad : Nat → Nat} (hc1 : zCnt Y 1) (hc : zCnt Y 2) {s x t f m : Int32} (hcz : zChr x) : zCt G l yX8_addCue (zws yX8_addCue cX8_addCue 6 (some .int)) ({ frames := 2, cells := 0, slots := 0, locals := 43 }) [.ref (ad 300), .int s, .int x, .int t, .int f, .int m] (zent Z sb mcn cp G.2.2.2.1 Y th o od ad) ad (fun r w1 ad1 => (kAddCue Y s x t f m = 0 ∧ some (.int (Y 27 0)) = r ∧ zent Z sb mcn cp G.2.2.2.1 (zu (zu (zu (zu (zu (zu Y 19 (zN Y 2) s) 10 (zN Y 2) x) 20 (zN Y 2) t) 21 (zN Y 2) f) 22 (zN Y 2) m) 27 0 (Y 27 0 + 1)) 0 o od ad = w1 ∧ ad = ad1) ∨ (kAddCue Y s x t f m ≠ 0 ∧ (∃ v, some (.int v) = r) ∧ zent Z sb mcn cp G.2.2.2.1 Y (nI (kAddCue Y s x t f m)) o od ad = w1 ∧ ad = ad1)) (zNoX) := by
  refine z_body hl (by decide +kernel) (Nat.le_of_ble_eq_true rfl) (fun X O => ?_)
  have hge : (12 : Int32) ≤ Y 27 0 ↔ 12 ≤ zN Y 2 := zCnt_ge (i := 2) (b := 12) hc (by decide)
  have heq : Y 27 0 = (12 : Int32) ↔ zN Y 2 = 12 := zCnt_eq (i := 2) (b := 12) hc (by decide)
  refine z_aload_n O dX8_addCue_0 rfl ?_
  refine z_iload_n O dX8_addCue_1 rfl ?_
  refine z_callV O (c_X8_isSinger hl hc1) zI zm8_36 zm8_37 zm8_38 zm7_16 zm7_68 ⟨rfl, by decide +kernel, by decide +kernel, (show _ = some 1 by decide +kernel)⟩ rfl (zg_model) ⟨Nat.le_of_ble_eq_true rfl, Nat.le_of_ble_eq_true rfl⟩ ⟨Nat.le_of_ble_eq_true rfl, Nat.le_of_ble_eq_true rfl⟩ dX8_addCue_2 rfl (Nat.le_of_ble_eq_true rfl) (fun _ _ _ h => h.elim) (fun r w1 ad1 hp => ?_)
  rcases hp with ⟨rfl, hs, rfl, rfl⟩ | ⟨rfl, hs, rfl, rfl⟩
  · refine z_if_ne O dX8_addCue_5 (tgt := 14) (by decide) (fun _ => ?_) (fun q => absurd q (by decide))
    refine z_iload_n O dX8_addCue_14 rfl ?_
    refine z_iconst O dX8_addCue_15 (v := 0) (by decide) ?_
    refine z_callS O (c_X8_isKind hl) zI zm8_29 zm8_30 zm7_16 zm8_27 ⟨by decide +kernel, by decide +kernel, (show _ = some 2 by decide +kernel)⟩ ⟨Nat.le_of_ble_eq_true rfl, Nat.le_of_ble_eq_true rfl⟩ ⟨Nat.le_of_ble_eq_true rfl, Nat.le_of_ble_eq_true rfl⟩ dX8_addCue_16 rfl (Nat.le_of_ble_eq_true rfl) (fun _ _ _ h => h.elim) (fun r w1 ad1 hp => ?_)
    rcases hp with ⟨rfl, hb0, rfl, rfl⟩ | ⟨rfl, hb0, rfl, rfl⟩
    · refine z_if_eq O dX8_addCue_19 (tgt := 54) (by decide) (fun q => absurd q (by decide)) (fun _ => ?_)
      refine z_iload_n O dX8_addCue_22 rfl ?_
      refine z_iconst O dX8_addCue_23 (v := 0) (by decide) ?_
      refine z_sipush O dX8_addCue_24 (v := 299) (by decide) ?_
      refine z_callS O (c_X8_in hl) zI zm7_65 zm7_66 zm7_16 zm7_56 ⟨by decide +kernel, by decide +kernel, (show _ = some 3 by decide +kernel)⟩ ⟨Nat.le_of_ble_eq_true rfl, Nat.le_of_ble_eq_true rfl⟩ ⟨Nat.le_of_ble_eq_true rfl, Nat.le_of_ble_eq_true rfl⟩ dX8_addCue_27 rfl (Nat.le_of_ble_eq_true rfl) (fun _ _ _ h => h.elim) (fun r w1 ad1 hp => ?_)
      rcases hp with ⟨rfl, hb1, rfl, rfl⟩ | ⟨rfl, hb1, rfl, rfl⟩
      · refine z_if_eq O dX8_addCue_30 (tgt := 54) (by decide) (fun q => absurd q (by decide)) (fun _ => ?_)
        refine z_iload O dX8_addCue_33 rfl ?_
        refine z_iconst O dX8_addCue_35 (v := 1) (by decide) ?_
        refine z_iconst O dX8_addCue_36 (v := 3) (by decide) ?_
        refine z_callS O (c_X8_in hl) zI zm7_65 zm7_66 zm7_16 zm7_56 ⟨by decide +kernel, by decide +kernel, (show _ = some 3 by decide +kernel)⟩ ⟨Nat.le_of_ble_eq_true rfl, Nat.le_of_ble_eq_true rfl⟩ ⟨Nat.le_of_ble_eq_true rfl, Nat.le_of_ble_eq_true rfl⟩ dX8_addCue_37 rfl (Nat.le_of_ble_eq_true rfl) (fun _ _ _ h => h.elim) (fun r w1 ad1 hp => ?_)
        rcases hp with ⟨rfl, hb2, rfl, rfl⟩ | ⟨rfl, hb2, rfl, rfl⟩
        · refine z_if_eq O dX8_addCue_40 (tgt := 54) (by decide) (fun q => absurd q (by decide)) (fun _ => ?_)
          refine z_iload O dX8_addCue_43 rfl ?_
          refine z_iconst O dX8_addCue_45 (v := 1) (by decide) ?_
          refine z_bipush O dX8_addCue_46 (v := 30) (by decide) ?_
          refine z_callS O (c_X8_in hl) zI zm7_65 zm7_66 zm7_16 zm7_56 ⟨by decide +kernel, by decide +kernel, (show _ = some 3 by decide +kernel)⟩ ⟨Nat.le_of_ble_eq_true rfl, Nat.le_of_ble_eq_true rfl⟩ ⟨Nat.le_of_ble_eq_true rfl, Nat.le_of_ble_eq_true rfl⟩ dX8_addCue_48 rfl (Nat.le_of_ble_eq_true rfl) (fun _ _ _ h => h.elim) (fun r w1 ad1 hp => ?_)
          rcases hp with ⟨rfl, hb3, rfl, rfl⟩ | ⟨rfl, hb3, rfl, rfl⟩
          · refine z_if_ne O dX8_addCue_51 (tgt := 60) (by decide) (fun _ => ?_) (fun q => absurd q (by decide))
            refine z_iload_n O dX8_addCue_60 rfl ?_
            refine z_aload_n O dX8_addCue_61 rfl ?_
            refine z_get O (fk := 29) (fun x h => zI x (zu_RX8 x h)) rfl (by decide) (zI _ zm7_43) dX8_addCue_62 (zg_model) rfl ?_
            refine z_icmp_ge O dX8_addCue_65 (tgt := 74) (by decide) (fun hlt0 => ?_) (fun hlt0 => ?_)
            · refine z_aload_n O dX8_addCue_74 rfl ?_
              refine z_get O (fk := 27) (fun x h => zI x (zu_RX8 x h)) rfl (by decide) (zI _ zm7_41) dX8_addCue_75 (zg_model) rfl ?_
              refine z_bipush O dX8_addCue_78 (v := 12) (by decide) ?_
              refine z_icmp_ne O dX8_addCue_80 (tgt := 89) (by decide) (fun g => ?_) (fun g => ?_)
              · have hlt : zN Y 2 < 12 := by
                  have h9 := hc.2
                  rcases Nat.lt_or_ge (zN Y 2) 12 with q | q
                  · exact q
                  · exact absurd (heq.mpr (by omega)) g
                refine z_aload_n O dX8_addCue_89 rfl ?_
                refine z_get O (fk := 19) (fun x h => zI x (zu_RX8 x h)) rfl (by decide) (zI _ zm7_33) dX8_addCue_90 (zg_model) rfl ?_
                refine z_aload_n O dX8_addCue_93 rfl ?_
                refine z_get O (fk := 27) (fun x h => zI x (zu_RX8 x h)) rfl (by decide) (zI _ zm7_41) dX8_addCue_94 (zg_model) rfl ?_
                refine z_iload_n O dX8_addCue_97 rfl ?_
                refine z_iast O dX8_addCue_98 (zg_mI (i := 19) (n := 12) rfl rfl (by decide)) (zN Y 2) (hc.1) (hlt) (by decide) (zp_mI (i := 19) (n := 12) rfl rfl (by decide)) ?_
                refine z_aload_n O dX8_addCue_99 rfl ?_
                refine z_get O (fk := 10) (fun x h => zI x (zu_RX8 x h)) rfl (by decide) (zI _ zm7_24) dX8_addCue_100 (zg_model) rfl ?_
                refine z_aload_n O dX8_addCue_103 rfl ?_
                refine z_get O (fk := 27) (fun x h => zI x (zu_RX8 x h)) rfl (by decide) (zI _ zm7_41) dX8_addCue_104 (zg_model) rfl ?_
                refine z_iload_n O dX8_addCue_107 rfl ?_
                refine z_cast O dX8_addCue_108 (zg_mC (i := 10) (n := 12) rfl rfl (by decide)) (zN Y 2) (hc.1) (hlt) (by decide) (hcz.1) (zp_mC (i := 10) (n := 12) rfl rfl (by decide)) ?_
                refine z_aload_n O dX8_addCue_109 rfl ?_
                refine z_get O (fk := 20) (fun x h => zI x (zu_RX8 x h)) rfl (by decide) (zI _ zm7_34) dX8_addCue_110 (zg_model) rfl ?_
                refine z_aload_n O dX8_addCue_113 rfl ?_
                refine z_get O (fk := 27) (fun x h => zI x (zu_RX8 x h)) rfl (by decide) (zI _ zm7_41) dX8_addCue_114 (zg_model) rfl ?_
                refine z_iload_n O dX8_addCue_117 rfl ?_
                refine z_iast O dX8_addCue_118 (zg_mI (i := 20) (n := 12) rfl rfl (by decide)) (zN Y 2) (hc.1) (hlt) (by decide) (zp_mI (i := 20) (n := 12) rfl rfl (by decide)) ?_
                refine z_aload_n O dX8_addCue_119 rfl ?_
                refine z_get O (fk := 21) (fun x h => zI x (zu_RX8 x h)) rfl (by decide) (zI _ zm7_35) dX8_addCue_120 (zg_model) rfl ?_
                refine z_aload_n O dX8_addCue_123 rfl ?_
                refine z_get O (fk := 27) (fun x h => zI x (zu_RX8 x h)) rfl (by decide) (zI _ zm7_41) dX8_addCue_124 (zg_model) rfl ?_
                refine z_iload O dX8_addCue_127 rfl ?_
                refine z_iast O dX8_addCue_129 (zg_mI (i := 21) (n := 12) rfl rfl (by decide)) (zN Y 2) (hc.1) (hlt) (by decide) (zp_mI (i := 21) (n := 12) rfl rfl (by decide)) ?_
                refine z_aload_n O dX8_addCue_130 rfl ?_
                refine z_get O (fk := 22) (fun x h => zI x (zu_RX8 x h)) rfl (by decide) (zI _ zm7_36) dX8_addCue_131 (zg_model) rfl ?_
                refine z_aload_n O dX8_addCue_134 rfl ?_
                refine z_get O (fk := 27) (fun x h => zI x (zu_RX8 x h)) rfl (by decide) (zI _ zm7_41) dX8_addCue_135 (zg_model) rfl ?_
                refine z_iload O dX8_addCue_138 rfl ?_
                refine z_iast O dX8_addCue_140 (zg_mI (i := 22) (n := 12) rfl rfl (by decide)) (zN Y 2) (hc.1) (hlt) (by decide) (zp_mI (i := 22) (n := 12) rfl rfl (by decide)) ?_
                refine z_aload_n O dX8_addCue_141 rfl ?_
                refine z_dup O dX8_addCue_142 rfl ?_
                refine z_get O (fk := 27) (fun x h => zI x (zu_RX8 x h)) rfl (by decide) (zI _ zm7_41) dX8_addCue_143 (zg_model) rfl ?_
                refine z_iconst O dX8_addCue_146 (v := 1) (by decide) ?_
                refine z_iadd O dX8_addCue_147 ?_
                refine z_put O (fk := 27) (fun x h => zI x (zu_RX8 x h)) tyX8 tyX8_ok nmX8 rfl (by decide) (zI _ zm7_41) rfl dX8_addCue_148 rfl rfl (zg_model) (Nat.le_of_ble_eq_true rfl) (zp_model (F := 27) (by decide) rfl) ?_
                refine z_aload_n O dX8_addCue_151 rfl ?_
                refine z_aload_n O dX8_addCue_152 rfl ?_
                refine z_get O (fk := 27) (fun x h => zI x (zu_RX8 x h)) rfl (by decide) (zI _ zm7_41) dX8_addCue_153 (zg_model) rfl ?_
                refine z_iconst O dX8_addCue_156 (v := 1) (by decide) ?_
                refine z_isub O dX8_addCue_157 ?_
                refine z_callV O (c_X8_tells hl) zI zm8_6 zm8_7 zm8_8 zm7_16 zm7_61 ⟨rfl, by decide +kernel, by decide +kernel, (show _ = some 1 by decide +kernel)⟩ rfl (zg_model) ⟨Nat.le_of_ble_eq_true rfl, Nat.le_of_ble_eq_true rfl⟩ ⟨Nat.le_of_ble_eq_true rfl, Nat.le_of_ble_eq_true rfl⟩ dX8_addCue_158 rfl (Nat.le_of_ble_eq_true rfl) (fun _ _ _ h => h.elim) (fun r w1 ad1 hp => ?_)
                obtain ⟨rfl, rfl, rfl⟩ := hp
                exact z_iret O dX8_addCue_161 (Nat.le_of_ble_eq_true rfl) (Nat.le_of_ble_eq_true rfl) (Or.inl ⟨by unfold kAddCue; rw [if_neg (fun q => q hs), if_neg (fun q => q (hb0.elim (fun z => z) (fun z => absurd rfl z.1))), if_neg (fun q => q hb1), if_neg (fun q => q hb2), if_neg (fun q => q hb3), if_neg (Int32.not_lt.mpr hlt0), if_neg (fun q => absurd (hge.mp q) (by omega))], by rw [zu_s, z_p1m1]; rfl, rfl, rfl⟩)
              · refine z_aload_n O dX8_addCue_83 rfl ?_
                refine z_iconst O dX8_addCue_84 (v := 4) (by decide) ?_
                refine z_callV O (c_X8_fails hl) zI zm8_0 zm8_1 zm8_2 zm7_16 zm7_59 ⟨rfl, by decide +kernel, by decide +kernel, (show _ = some 1 by decide +kernel)⟩ rfl (zg_model) ⟨Nat.le_of_ble_eq_true rfl, Nat.le_of_ble_eq_true rfl⟩ ⟨Nat.le_of_ble_eq_true rfl, Nat.le_of_ble_eq_true rfl⟩ dX8_addCue_85 rfl (Nat.le_of_ble_eq_true rfl) (fun _ _ _ h => h.elim) (fun r w1 ad1 hp => ?_)
                obtain ⟨rfl, rfl, rfl⟩ := hp
                exact z_iret O dX8_addCue_88 (Nat.le_of_ble_eq_true rfl) (Nat.le_of_ble_eq_true rfl) (Or.inr ⟨by unfold kAddCue; rw [if_neg (fun q => q hs), if_neg (fun q => q (hb0.elim (fun z => z) (fun z => absurd rfl z.1))), if_neg (fun q => q hb1), if_neg (fun q => q hb2), if_neg (fun q => q hb3), if_neg (Int32.not_lt.mpr hlt0), if_pos (hge.mpr (Nat.le_of_eq (heq.mp g).symm))]; decide, ⟨_, rfl⟩, by unfold kAddCue; rw [if_neg (fun q => q hs), if_neg (fun q => q (hb0.elim (fun z => z) (fun z => absurd rfl z.1))), if_neg (fun q => q hb1), if_neg (fun q => q hb2), if_neg (fun q => q hb3), if_neg (Int32.not_lt.mpr hlt0), if_pos (hge.mpr (Nat.le_of_eq (heq.mp g).symm))]; rfl, rfl⟩)
            · refine z_aload_n O dX8_addCue_68 rfl ?_
              refine z_iconst O dX8_addCue_69 (v := 3) (by decide) ?_
              refine z_callV O (c_X8_fails hl) zI zm8_0 zm8_1 zm8_2 zm7_16 zm7_59 ⟨rfl, by decide +kernel, by decide +kernel, (show _ = some 1 by decide +kernel)⟩ rfl (zg_model) ⟨Nat.le_of_ble_eq_true rfl, Nat.le_of_ble_eq_true rfl⟩ ⟨Nat.le_of_ble_eq_true rfl, Nat.le_of_ble_eq_true rfl⟩ dX8_addCue_70 rfl (Nat.le_of_ble_eq_true rfl) (fun _ _ _ h => h.elim) (fun r w1 ad1 hp => ?_)
              obtain ⟨rfl, rfl, rfl⟩ := hp
              exact z_iret O dX8_addCue_73 (Nat.le_of_ble_eq_true rfl) (Nat.le_of_ble_eq_true rfl) (Or.inr ⟨by unfold kAddCue; rw [if_neg (fun q => q hs), if_neg (fun q => q (hb0.elim (fun z => z) (fun z => absurd rfl z.1))), if_neg (fun q => q hb1), if_neg (fun q => q hb2), if_neg (fun q => q hb3), if_pos (Int32.not_le.mp hlt0)]; decide, ⟨_, rfl⟩, by unfold kAddCue; rw [if_neg (fun q => q hs), if_neg (fun q => q (hb0.elim (fun z => z) (fun z => absurd rfl z.1))), if_neg (fun q => q hb1), if_neg (fun q => q hb2), if_neg (fun q => q hb3), if_pos (Int32.not_le.mp hlt0)]; rfl, rfl⟩)
          · refine z_if_ne O dX8_addCue_51 (tgt := 60) (by decide) (fun q => absurd rfl q) (fun _ => ?_)
            refine z_aload_n O dX8_addCue_54 rfl ?_
            refine z_iconst O dX8_addCue_55 (v := 2) (by decide) ?_
            refine z_callV O (c_X8_fails hl) zI zm8_0 zm8_1 zm8_2 zm7_16 zm7_59 ⟨rfl, by decide +kernel, by decide +kernel, (show _ = some 1 by decide +kernel)⟩ rfl (zg_model) ⟨Nat.le_of_ble_eq_true rfl, Nat.le_of_ble_eq_true rfl⟩ ⟨Nat.le_of_ble_eq_true rfl, Nat.le_of_ble_eq_true rfl⟩ dX8_addCue_56 rfl (Nat.le_of_ble_eq_true rfl) (fun _ _ _ h => h.elim) (fun r w1 ad1 hp => ?_)
            obtain ⟨rfl, rfl, rfl⟩ := hp
            exact z_iret O dX8_addCue_59 (Nat.le_of_ble_eq_true rfl) (Nat.le_of_ble_eq_true rfl) (Or.inr ⟨by unfold kAddCue; rw [if_neg (fun q => q hs), if_neg (fun q => q (hb0.elim (fun z => z) (fun z => absurd rfl z.1))), if_neg (fun q => q hb1), if_neg (fun q => q hb2), if_pos hb3]; decide, ⟨_, rfl⟩, by unfold kAddCue; rw [if_neg (fun q => q hs), if_neg (fun q => q (hb0.elim (fun z => z) (fun z => absurd rfl z.1))), if_neg (fun q => q hb1), if_neg (fun q => q hb2), if_pos hb3]; rfl, rfl⟩)
        · refine z_if_eq O dX8_addCue_40 (tgt := 54) (by decide) (fun _ => ?_) (fun q => absurd rfl q)
          refine z_aload_n O dX8_addCue_54 rfl ?_
          refine z_iconst O dX8_addCue_55 (v := 2) (by decide) ?_
          refine z_callV O (c_X8_fails hl) zI zm8_0 zm8_1 zm8_2 zm7_16 zm7_59 ⟨rfl, by decide +kernel, by decide +kernel, (show _ = some 1 by decide +kernel)⟩ rfl (zg_model) ⟨Nat.le_of_ble_eq_true rfl, Nat.le_of_ble_eq_true rfl⟩ ⟨Nat.le_of_ble_eq_true rfl, Nat.le_of_ble_eq_true rfl⟩ dX8_addCue_56 rfl (Nat.le_of_ble_eq_true rfl) (fun _ _ _ h => h.elim) (fun r w1 ad1 hp => ?_)
          obtain ⟨rfl, rfl, rfl⟩ := hp
          exact z_iret O dX8_addCue_59 (Nat.le_of_ble_eq_true rfl) (Nat.le_of_ble_eq_true rfl) (Or.inr ⟨by unfold kAddCue; rw [if_neg (fun q => q hs), if_neg (fun q => q (hb0.elim (fun z => z) (fun z => absurd rfl z.1))), if_neg (fun q => q hb1), if_pos hb2]; decide, ⟨_, rfl⟩, by unfold kAddCue; rw [if_neg (fun q => q hs), if_neg (fun q => q (hb0.elim (fun z => z) (fun z => absurd rfl z.1))), if_neg (fun q => q hb1), if_pos hb2]; rfl, rfl⟩)
      · refine z_if_eq O dX8_addCue_30 (tgt := 54) (by decide) (fun _ => ?_) (fun q => absurd rfl q)
        refine z_aload_n O dX8_addCue_54 rfl ?_
        refine z_iconst O dX8_addCue_55 (v := 2) (by decide) ?_
        refine z_callV O (c_X8_fails hl) zI zm8_0 zm8_1 zm8_2 zm7_16 zm7_59 ⟨rfl, by decide +kernel, by decide +kernel, (show _ = some 1 by decide +kernel)⟩ rfl (zg_model) ⟨Nat.le_of_ble_eq_true rfl, Nat.le_of_ble_eq_true rfl⟩ ⟨Nat.le_of_ble_eq_true rfl, Nat.le_of_ble_eq_true rfl⟩ dX8_addCue_56 rfl (Nat.le_of_ble_eq_true rfl) (fun _ _ _ h => h.elim) (fun r w1 ad1 hp => ?_)
        obtain ⟨rfl, rfl, rfl⟩ := hp
        exact z_iret O dX8_addCue_59 (Nat.le_of_ble_eq_true rfl) (Nat.le_of_ble_eq_true rfl) (Or.inr ⟨by unfold kAddCue; rw [if_neg (fun q => q hs), if_neg (fun q => q (hb0.elim (fun z => z) (fun z => absurd rfl z.1))), if_pos hb1]; decide, ⟨_, rfl⟩, by unfold kAddCue; rw [if_neg (fun q => q hs), if_neg (fun q => q (hb0.elim (fun z => z) (fun z => absurd rfl z.1))), if_pos hb1]; rfl, rfl⟩)
    · refine z_if_eq O dX8_addCue_19 (tgt := 54) (by decide) (fun _ => ?_) (fun q => absurd rfl q)
      refine z_aload_n O dX8_addCue_54 rfl ?_
      refine z_iconst O dX8_addCue_55 (v := 2) (by decide) ?_
      refine z_callV O (c_X8_fails hl) zI zm8_0 zm8_1 zm8_2 zm7_16 zm7_59 ⟨rfl, by decide +kernel, by decide +kernel, (show _ = some 1 by decide +kernel)⟩ rfl (zg_model) ⟨Nat.le_of_ble_eq_true rfl, Nat.le_of_ble_eq_true rfl⟩ ⟨Nat.le_of_ble_eq_true rfl, Nat.le_of_ble_eq_true rfl⟩ dX8_addCue_56 rfl (Nat.le_of_ble_eq_true rfl) (fun _ _ _ h => h.elim) (fun r w1 ad1 hp => ?_)
      obtain ⟨rfl, rfl, rfl⟩ := hp
      exact z_iret O dX8_addCue_59 (Nat.le_of_ble_eq_true rfl) (Nat.le_of_ble_eq_true rfl) (Or.inr ⟨by unfold kAddCue; rw [if_neg (fun q => q hs), if_pos (fun q => hb0 (Or.inl q))]; decide, ⟨_, rfl⟩, by unfold kAddCue; rw [if_neg (fun q => q hs), if_pos (fun q => hb0 (Or.inl q))]; rfl, rfl⟩)
  · refine z_if_ne O dX8_addCue_5 (tgt := 14) (by decide) (fun q => absurd rfl q) (fun _ => ?_)
    refine z_aload_n O dX8_addCue_8 rfl ?_
    refine z_iconst O dX8_addCue_9 (v := 1) (by decide) ?_
    refine z_callV O (c_X8_fails hl) zI zm8_0 zm8_1 zm8_2 zm7_16 zm7_59 ⟨rfl, by decide +kernel, by decide +kernel, (show _ = some 1 by decide +kernel)⟩ rfl (zg_model) ⟨Nat.le_of_ble_eq_true rfl, Nat.le_of_ble_eq_true rfl⟩ ⟨Nat.le_of_ble_eq_true rfl, Nat.le_of_ble_eq_true rfl⟩ dX8_addCue_10 rfl (Nat.le_of_ble_eq_true rfl) (fun _ _ _ h => h.elim) (fun r w1 ad1 hp => ?_)
    obtain ⟨rfl, rfl, rfl⟩ := hp
    exact z_iret O dX8_addCue_13 (Nat.le_of_ble_eq_true rfl) (Nat.le_of_ble_eq_true rfl) (Or.inr ⟨by unfold kAddCue; rw [if_pos hs]; decide, ⟨_, rfl⟩, by unfold kAddCue; rw [if_pos hs]; rfl, rfl⟩)

set_option maxRecDepth 100000 in
set_option maxHeartbeats 4000000 in
theorem c_X8_setLevel {G : zG} {l : Launch} (hl : l.stackTraces = false) {Z : zM} {sb : Nat → Option Nat} {mcn : Nat → Int32} {cp : Nat → Nat} {Y : zM} {th : Int32} {o : Nat → Int64} {od : Nat → UInt64} {ad : Nat → Nat} {x : Int32} : zCt G l yX8_setLevel (zws yX8_setLevel cX8_setLevel 3 (some .int)) ({ frames := 1, cells := 0, slots := 0, locals := 22 }) [.ref (ad 300), .int x] (zent Z sb mcn cp G.2.2.2.1 Y th o od ad) ad (fun r w1 ad1 => (kLevel x = 0 ∧ some (.int (Y 28 0)) = r ∧ zent Z sb mcn cp G.2.2.2.1 (zu Y 28 0 x) 0 o od ad = w1 ∧ ad = ad1) ∨ (kLevel x ≠ 0 ∧ (∃ v, some (.int v) = r) ∧ zent Z sb mcn cp G.2.2.2.1 Y (nI (kLevel x)) o od ad = w1 ∧ ad = ad1)) (zNoX) := by
  refine z_body hl (by decide +kernel) (Nat.le_of_ble_eq_true rfl) (fun X O => ?_)
  refine z_iload_n O dX8_setLevel_0 rfl ?_
  refine z_iconst O dX8_setLevel_1 (v := 1) (by decide) ?_
  refine z_sipush O dX8_setLevel_2 (v := 999) (by decide) ?_
  refine z_callS O (c_X8_in hl) zI zm7_65 zm7_66 zm7_16 zm7_56 ⟨by decide +kernel, by decide +kernel, (show _ = some 3 by decide +kernel)⟩ ⟨Nat.le_of_ble_eq_true rfl, Nat.le_of_ble_eq_true rfl⟩ ⟨Nat.le_of_ble_eq_true rfl, Nat.le_of_ble_eq_true rfl⟩ dX8_setLevel_5 rfl (Nat.le_of_ble_eq_true rfl) (fun _ _ _ h => h.elim) (fun r w1 ad1 hp => ?_)
  rcases hp with ⟨rfl, hb, rfl, rfl⟩ | ⟨rfl, hb, rfl, rfl⟩
  · refine z_if_ne O dX8_setLevel_8 (tgt := 17) (by decide) (fun _ => ?_) (fun q => absurd q (by decide))
    refine z_aload_n O dX8_setLevel_17 rfl ?_
    refine z_get O (fk := 28) (fun x h => zI x (zu_RX8 x h)) rfl (by decide) (zI _ zm7_42) dX8_setLevel_18 (zg_model) rfl ?_
    refine z_istore_n O dX8_setLevel_21 (by decide) ?_
    refine z_aload_n O dX8_setLevel_22 rfl ?_
    refine z_iload_n O dX8_setLevel_23 rfl ?_
    refine z_put O (fk := 28) (fun x h => zI x (zu_RX8 x h)) tyX8 tyX8_ok nmX8 rfl (by decide) (zI _ zm7_42) rfl dX8_setLevel_24 rfl rfl (zg_model) (Nat.le_of_ble_eq_true rfl) (zp_model (F := 28) (by decide) rfl) ?_
    refine z_aload_n O dX8_setLevel_27 rfl ?_
    refine z_iload_n O dX8_setLevel_28 rfl ?_
    refine z_callV O (c_X8_tells hl) zI zm8_6 zm8_7 zm8_8 zm7_16 zm7_61 ⟨rfl, by decide +kernel, by decide +kernel, (show _ = some 1 by decide +kernel)⟩ rfl (zg_model) ⟨Nat.le_of_ble_eq_true rfl, Nat.le_of_ble_eq_true rfl⟩ ⟨Nat.le_of_ble_eq_true rfl, Nat.le_of_ble_eq_true rfl⟩ dX8_setLevel_29 rfl (Nat.le_of_ble_eq_true rfl) (fun _ _ _ h => h.elim) (fun r w1 ad1 hp => ?_)
    obtain ⟨rfl, rfl, rfl⟩ := hp
    exact z_iret O dX8_setLevel_32 (Nat.le_of_ble_eq_true rfl) (Nat.le_of_ble_eq_true rfl) (Or.inl ⟨by unfold kLevel; rw [if_neg (fun q => q hb)], rfl, rfl, rfl⟩)
  · refine z_if_ne O dX8_setLevel_8 (tgt := 17) (by decide) (fun q => absurd rfl q) (fun _ => ?_)
    refine z_aload_n O dX8_setLevel_11 rfl ?_
    refine z_iconst O dX8_setLevel_12 (v := 1) (by decide) ?_
    refine z_callV O (c_X8_fails hl) zI zm8_0 zm8_1 zm8_2 zm7_16 zm7_59 ⟨rfl, by decide +kernel, by decide +kernel, (show _ = some 1 by decide +kernel)⟩ rfl (zg_model) ⟨Nat.le_of_ble_eq_true rfl, Nat.le_of_ble_eq_true rfl⟩ ⟨Nat.le_of_ble_eq_true rfl, Nat.le_of_ble_eq_true rfl⟩ dX8_setLevel_13 rfl (Nat.le_of_ble_eq_true rfl) (fun _ _ _ h => h.elim) (fun r w1 ad1 hp => ?_)
    obtain ⟨rfl, rfl, rfl⟩ := hp
    exact z_iret O dX8_setLevel_16 (Nat.le_of_ble_eq_true rfl) (Nat.le_of_ble_eq_true rfl) (Or.inr ⟨by unfold kLevel; rw [if_pos hb]; decide, ⟨_, rfl⟩, by unfold kLevel; rw [if_pos hb]; rfl, rfl⟩)

theorem fI_cnt {Y : zM} {i : Nat} {x : Int32} (hc : zCnt Y i) (h : fI x (Y (25 + i) 0)) : ∃ j, x = nI j ∧ j < zN Y i := by
  obtain ⟨a, ha, rfl⟩ := nI_of (x := x) (fun z => absurd h.1 (Int32.not_le.mpr z))
  refine ⟨a, rfl, ?_⟩
  have h2 := h.2
  rw [hc.1] at h2
  exact (nI_ltI ha (by have := hc.2; omega)).mp h2
set_option maxRecDepth 100000 in
set_option maxHeartbeats 4000000 in
theorem c_X8_callsOf {G : zG} {l : Launch} (hl : l.stackTraces = false) {Z : zM} {sb : Nat → Option Nat} {mcn : Nat → Int32} {cp : Nat → Nat} {Y : zM} {th : Int32} {o : Nat → Int64} {od : Nat → UInt64} {ad : Nat → Nat} (hc : zCnt Y 1) (h6 : zN Y 1 ≤ 6) {x : Int32} : zCt G l yX8_callsOf (zws yX8_callsOf cX8_callsOf 2 (some .int)) ({ frames := 2, cells := 0, slots := 0, locals := 43 }) [.ref (ad 300), .int x] (zent Z sb mcn cp G.2.2.2.1 Y th o od ad) ad (fun r w1 ad1 => (kSing Y x = 0 ∧ some (.int (Y 18 x.toNatClampNeg)) = r ∧ zent Z sb mcn cp G.2.2.2.1 Y 0 o od ad = w1 ∧ ad = ad1) ∨ (kSing Y x ≠ 0 ∧ (∃ v, some (.int v) = r) ∧ zent Z sb mcn cp G.2.2.2.1 Y (nI (kSing Y x)) o od ad = w1 ∧ ad = ad1)) (zNoX) := by
  refine z_body hl (by decide +kernel) (Nat.le_of_ble_eq_true rfl) (fun X O => ?_)
  refine z_aload_n O dX8_callsOf_0 rfl ?_
  refine z_iload_n O dX8_callsOf_1 rfl ?_
  refine z_callV O (c_X8_isSinger hl hc) zI zm8_36 zm8_37 zm8_38 zm7_16 zm7_68 ⟨rfl, by decide +kernel, by decide +kernel, (show _ = some 1 by decide +kernel)⟩ rfl (zg_model) ⟨Nat.le_of_ble_eq_true rfl, Nat.le_of_ble_eq_true rfl⟩ ⟨Nat.le_of_ble_eq_true rfl, Nat.le_of_ble_eq_true rfl⟩ dX8_callsOf_2 rfl (Nat.le_of_ble_eq_true rfl) (fun _ _ _ h => h.elim) (fun r w1 ad1 hp => ?_)
  rcases hp with ⟨rfl, hb, rfl, rfl⟩ | ⟨rfl, hb, rfl, rfl⟩
  · refine z_if_eq O dX8_callsOf_5 (tgt := 21) (by decide) (fun q => absurd q (by decide)) (fun _ => ?_)
    obtain ⟨j, rfl, hj⟩ : ∃ j, x = nI j ∧ j < zN Y 1 := fI_cnt (i := 1) hc hb
    have hcl : (nI j).toNatClampNeg = j := nI_clamp (by have := hc.2; omega)
    rw [hcl] at O
    refine z_aload_n O dX8_callsOf_8 rfl ?_
    refine z_aload_n O dX8_callsOf_9 rfl ?_
    refine z_get O (fk := 18) (fun x h => zI x (zu_RX8 x h)) rfl (by decide) (zI _ zm7_32) dX8_callsOf_10 (zg_model) rfl ?_
    refine z_iload_n O dX8_callsOf_13 rfl ?_
    refine z_iald O dX8_callsOf_14 (zg_mI (i := 18) (n := 6) rfl rfl (by decide)) (j) (rfl) (by have := hc.2; omega) (by decide) ?_
    refine z_callV O (c_X8_tells hl) zI zm8_6 zm8_7 zm8_8 zm7_16 zm7_61 ⟨rfl, by decide +kernel, by decide +kernel, (show _ = some 1 by decide +kernel)⟩ rfl (zg_model) ⟨Nat.le_of_ble_eq_true rfl, Nat.le_of_ble_eq_true rfl⟩ ⟨Nat.le_of_ble_eq_true rfl, Nat.le_of_ble_eq_true rfl⟩ dX8_callsOf_15 rfl (Nat.le_of_ble_eq_true rfl) (fun _ _ _ h => h.elim) (fun r w1 ad1 hp => ?_)
    obtain ⟨rfl, rfl, rfl⟩ := hp
    refine z_goto O dX8_callsOf_18 (tgt := 26) (by decide) ?_
    exact z_iret O dX8_callsOf_26 (Nat.le_of_ble_eq_true rfl) (Nat.le_of_ble_eq_true rfl) (Or.inl ⟨by unfold kSing; rw [if_neg (fun q => q hb)], rfl, rfl, rfl⟩)
  · refine z_if_eq O dX8_callsOf_5 (tgt := 21) (by decide) (fun _ => ?_) (fun q => absurd rfl q)
    refine z_aload_n O dX8_callsOf_21 rfl ?_
    refine z_iconst O dX8_callsOf_22 (v := 1) (by decide) ?_
    refine z_callV O (c_X8_fails hl) zI zm8_0 zm8_1 zm8_2 zm7_16 zm7_59 ⟨rfl, by decide +kernel, by decide +kernel, (show _ = some 1 by decide +kernel)⟩ rfl (zg_model) ⟨Nat.le_of_ble_eq_true rfl, Nat.le_of_ble_eq_true rfl⟩ ⟨Nat.le_of_ble_eq_true rfl, Nat.le_of_ble_eq_true rfl⟩ dX8_callsOf_23 rfl (Nat.le_of_ble_eq_true rfl) (fun _ _ _ h => h.elim) (fun r w1 ad1 hp => ?_)
    obtain ⟨rfl, rfl, rfl⟩ := hp
    exact z_iret O dX8_callsOf_26 (Nat.le_of_ble_eq_true rfl) (Nat.le_of_ble_eq_true rfl) (Or.inr ⟨by unfold kSing; rw [if_pos hb]; decide, ⟨_, rfl⟩, by unfold kSing; rw [if_pos hb]; rfl, rfl⟩)

set_option maxRecDepth 100000 in
set_option maxHeartbeats 4000000 in
theorem c_X8_owed {G : zG} {l : Launch} (hl : l.stackTraces = false) {Z : zM} {sb : Nat → Option Nat} {mcn : Nat → Int32} {cp : Nat → Nat} {Y : zM} {th : Int32} {o : Nat → Int64} {od : Nat → UInt64} {ad : Nat → Nat} (hc : zCnt Y 1) (h6 : zN Y 1 ≤ 6) {x : Int32} : zCt G l yX8_owed (zws yX8_owed cX8_owed 2 (some .int)) ({ frames := 2, cells := 0, slots := 0, locals := 43 }) [.ref (ad 300), .int x] (zent Z sb mcn cp G.2.2.2.1 Y th o od ad) ad (fun r w1 ad1 => (kSing Y x = 0 ∧ some (.int (Y 17 x.toNatClampNeg)) = r ∧ zent Z sb mcn cp G.2.2.2.1 Y 0 o od ad = w1 ∧ ad = ad1) ∨ (kSing Y x ≠ 0 ∧ (∃ v, some (.int v) = r) ∧ zent Z sb mcn cp G.2.2.2.1 Y (nI (kSing Y x)) o od ad = w1 ∧ ad = ad1)) (zNoX) := by
  refine z_body hl (by decide +kernel) (Nat.le_of_ble_eq_true rfl) (fun X O => ?_)
  refine z_aload_n O dX8_owed_0 rfl ?_
  refine z_iload_n O dX8_owed_1 rfl ?_
  refine z_callV O (c_X8_isSinger hl hc) zI zm8_36 zm8_37 zm8_38 zm7_16 zm7_68 ⟨rfl, by decide +kernel, by decide +kernel, (show _ = some 1 by decide +kernel)⟩ rfl (zg_model) ⟨Nat.le_of_ble_eq_true rfl, Nat.le_of_ble_eq_true rfl⟩ ⟨Nat.le_of_ble_eq_true rfl, Nat.le_of_ble_eq_true rfl⟩ dX8_owed_2 rfl (Nat.le_of_ble_eq_true rfl) (fun _ _ _ h => h.elim) (fun r w1 ad1 hp => ?_)
  rcases hp with ⟨rfl, hb, rfl, rfl⟩ | ⟨rfl, hb, rfl, rfl⟩
  · refine z_if_eq O dX8_owed_5 (tgt := 21) (by decide) (fun q => absurd q (by decide)) (fun _ => ?_)
    obtain ⟨j, rfl, hj⟩ : ∃ j, x = nI j ∧ j < zN Y 1 := fI_cnt (i := 1) hc hb
    have hcl : (nI j).toNatClampNeg = j := nI_clamp (by have := hc.2; omega)
    rw [hcl] at O
    refine z_aload_n O dX8_owed_8 rfl ?_
    refine z_aload_n O dX8_owed_9 rfl ?_
    refine z_get O (fk := 17) (fun x h => zI x (zu_RX8 x h)) rfl (by decide) (zI _ zm7_31) dX8_owed_10 (zg_model) rfl ?_
    refine z_iload_n O dX8_owed_13 rfl ?_
    refine z_iald O dX8_owed_14 (zg_mI (i := 17) (n := 6) rfl rfl (by decide)) (j) (rfl) (by have := hc.2; omega) (by decide) ?_
    refine z_callV O (c_X8_tells hl) zI zm8_6 zm8_7 zm8_8 zm7_16 zm7_61 ⟨rfl, by decide +kernel, by decide +kernel, (show _ = some 1 by decide +kernel)⟩ rfl (zg_model) ⟨Nat.le_of_ble_eq_true rfl, Nat.le_of_ble_eq_true rfl⟩ ⟨Nat.le_of_ble_eq_true rfl, Nat.le_of_ble_eq_true rfl⟩ dX8_owed_15 rfl (Nat.le_of_ble_eq_true rfl) (fun _ _ _ h => h.elim) (fun r w1 ad1 hp => ?_)
    obtain ⟨rfl, rfl, rfl⟩ := hp
    refine z_goto O dX8_owed_18 (tgt := 26) (by decide) ?_
    exact z_iret O dX8_owed_26 (Nat.le_of_ble_eq_true rfl) (Nat.le_of_ble_eq_true rfl) (Or.inl ⟨by unfold kSing; rw [if_neg (fun q => q hb)], rfl, rfl, rfl⟩)
  · refine z_if_eq O dX8_owed_5 (tgt := 21) (by decide) (fun _ => ?_) (fun q => absurd rfl q)
    refine z_aload_n O dX8_owed_21 rfl ?_
    refine z_iconst O dX8_owed_22 (v := 1) (by decide) ?_
    refine z_callV O (c_X8_fails hl) zI zm8_0 zm8_1 zm8_2 zm7_16 zm7_59 ⟨rfl, by decide +kernel, by decide +kernel, (show _ = some 1 by decide +kernel)⟩ rfl (zg_model) ⟨Nat.le_of_ble_eq_true rfl, Nat.le_of_ble_eq_true rfl⟩ ⟨Nat.le_of_ble_eq_true rfl, Nat.le_of_ble_eq_true rfl⟩ dX8_owed_23 rfl (Nat.le_of_ble_eq_true rfl) (fun _ _ _ h => h.elim) (fun r w1 ad1 hp => ?_)
    obtain ⟨rfl, rfl, rfl⟩ := hp
    exact z_iret O dX8_owed_26 (Nat.le_of_ble_eq_true rfl) (Nat.le_of_ble_eq_true rfl) (Or.inr ⟨by unfold kSing; rw [if_pos hb]; decide, ⟨_, rfl⟩, by unfold kSing; rw [if_pos hb]; rfl, rfl⟩)

set_option maxRecDepth 100000 in
set_option maxHeartbeats 4000000 in
theorem c_X8_moneyOf {G : zG} {l : Launch} (hl : l.stackTraces = false) {Z : zM} {sb : Nat → Option Nat} {mcn : Nat → Int32} {cp : Nat → Nat} {Y : zM} {th : Int32} {o : Nat → Int64} {od : Nat → UInt64} {ad : Nat → Nat} (hc : zCnt Y 0) {x : Int32} : zCt G l yX8_moneyOf (zws yX8_moneyOf cX8_moneyOf 2 (some .int)) ({ frames := 2, cells := 0, slots := 0, locals := 43 }) [.ref (ad 300), .int x] (zent Z sb mcn cp G.2.2.2.1 Y th o od ad) ad (fun r w1 ad1 => (kHand Y x = 0 ∧ some (.int (Y 14 x.toNatClampNeg)) = r ∧ zent Z sb mcn cp G.2.2.2.1 Y 0 o od ad = w1 ∧ ad = ad1) ∨ (kHand Y x ≠ 0 ∧ (∃ v, some (.int v) = r) ∧ zent Z sb mcn cp G.2.2.2.1 Y (nI (kHand Y x)) o od ad = w1 ∧ ad = ad1)) (zNoX) := by
  refine z_body hl (by decide +kernel) (Nat.le_of_ble_eq_true rfl) (fun X O => ?_)
  refine z_aload_n O dX8_moneyOf_0 rfl ?_
  refine z_iload_n O dX8_moneyOf_1 rfl ?_
  refine z_callV O (c_X8_isHand hl hc) zI zm8_21 zm8_22 zm8_23 zm7_16 zm7_67 ⟨rfl, by decide +kernel, by decide +kernel, (show _ = some 1 by decide +kernel)⟩ rfl (zg_model) ⟨Nat.le_of_ble_eq_true rfl, Nat.le_of_ble_eq_true rfl⟩ ⟨Nat.le_of_ble_eq_true rfl, Nat.le_of_ble_eq_true rfl⟩ dX8_moneyOf_2 rfl (Nat.le_of_ble_eq_true rfl) (fun _ _ _ h => h.elim) (fun r w1 ad1 hp => ?_)
  rcases hp with ⟨rfl, hb, rfl, rfl⟩ | ⟨rfl, hb, rfl, rfl⟩
  · refine z_if_eq O dX8_moneyOf_5 (tgt := 21) (by decide) (fun q => absurd q (by decide)) (fun _ => ?_)
    obtain ⟨j, rfl, hj⟩ : ∃ j, x = nI j ∧ j < zN Y 0 := fI_cnt (i := 0) hc hb
    have hcl : (nI j).toNatClampNeg = j := nI_clamp (by have := hc.2; omega)
    rw [hcl] at O
    refine z_aload_n O dX8_moneyOf_8 rfl ?_
    refine z_aload_n O dX8_moneyOf_9 rfl ?_
    refine z_get O (fk := 14) (fun x h => zI x (zu_RX8 x h)) rfl (by decide) (zI _ zm7_28) dX8_moneyOf_10 (zg_model) rfl ?_
    refine z_iload_n O dX8_moneyOf_13 rfl ?_
    refine z_iald O dX8_moneyOf_14 (zg_mI (i := 14) (n := 12) rfl rfl (by decide)) (j) (rfl) (by have := hc.2; omega) (by decide) ?_
    refine z_callV O (c_X8_tells hl) zI zm8_6 zm8_7 zm8_8 zm7_16 zm7_61 ⟨rfl, by decide +kernel, by decide +kernel, (show _ = some 1 by decide +kernel)⟩ rfl (zg_model) ⟨Nat.le_of_ble_eq_true rfl, Nat.le_of_ble_eq_true rfl⟩ ⟨Nat.le_of_ble_eq_true rfl, Nat.le_of_ble_eq_true rfl⟩ dX8_moneyOf_15 rfl (Nat.le_of_ble_eq_true rfl) (fun _ _ _ h => h.elim) (fun r w1 ad1 hp => ?_)
    obtain ⟨rfl, rfl, rfl⟩ := hp
    refine z_goto O dX8_moneyOf_18 (tgt := 26) (by decide) ?_
    exact z_iret O dX8_moneyOf_26 (Nat.le_of_ble_eq_true rfl) (Nat.le_of_ble_eq_true rfl) (Or.inl ⟨by unfold kHand; rw [if_neg (fun q => q hb)], rfl, rfl, rfl⟩)
  · refine z_if_eq O dX8_moneyOf_5 (tgt := 21) (by decide) (fun _ => ?_) (fun q => absurd rfl q)
    refine z_aload_n O dX8_moneyOf_21 rfl ?_
    refine z_iconst O dX8_moneyOf_22 (v := 1) (by decide) ?_
    refine z_callV O (c_X8_fails hl) zI zm8_0 zm8_1 zm8_2 zm7_16 zm7_59 ⟨rfl, by decide +kernel, by decide +kernel, (show _ = some 1 by decide +kernel)⟩ rfl (zg_model) ⟨Nat.le_of_ble_eq_true rfl, Nat.le_of_ble_eq_true rfl⟩ ⟨Nat.le_of_ble_eq_true rfl, Nat.le_of_ble_eq_true rfl⟩ dX8_moneyOf_23 rfl (Nat.le_of_ble_eq_true rfl) (fun _ _ _ h => h.elim) (fun r w1 ad1 hp => ?_)
    obtain ⟨rfl, rfl, rfl⟩ := hp
    exact z_iret O dX8_moneyOf_26 (Nat.le_of_ble_eq_true rfl) (Nat.le_of_ble_eq_true rfl) (Or.inr ⟨by unfold kHand; rw [if_pos hb]; decide, ⟨_, rfl⟩, by unfold kHand; rw [if_pos hb]; rfl, rfl⟩)

set_option maxRecDepth 100000 in
set_option maxHeartbeats 4000000 in
theorem c_X8_hisses {G : zG} {l : Launch} (hl : l.stackTraces = false) {Z : zM} {sb : Nat → Option Nat} {mcn : Nat → Int32} {cp : Nat → Nat} {Y : zM} {th : Int32} {o : Nat → Int64} {od : Nat → UInt64} {ad : Nat → Nat} : zCt G l yX8_hisses (zws yX8_hisses cX8_hisses 1 (some .int)) ({ frames := 1, cells := 0, slots := 0, locals := 21 }) [.ref (ad 300)] (zent Z sb mcn cp G.2.2.2.1 Y th o od ad) ad (fun r w1 ad1 => some (.int (Y 32 0)) = r ∧ zent Z sb mcn cp G.2.2.2.1 Y 0 o od ad = w1 ∧ ad = ad1) (zNoX) := by
  refine z_body hl (by decide +kernel) (Nat.le_of_ble_eq_true rfl) (fun X O => ?_)
  refine z_aload_n O dX8_hisses_0 rfl ?_
  refine z_aload_n O dX8_hisses_1 rfl ?_
  refine z_get O (fk := 32) (fun x h => zI x (zu_RX8 x h)) rfl (by decide) (zI _ zm7_46) dX8_hisses_2 (zg_model) rfl ?_
  refine z_callV O (c_X8_tells hl) zI zm8_6 zm8_7 zm8_8 zm7_16 zm7_61 ⟨rfl, by decide +kernel, by decide +kernel, (show _ = some 1 by decide +kernel)⟩ rfl (zg_model) ⟨Nat.le_of_ble_eq_true rfl, Nat.le_of_ble_eq_true rfl⟩ ⟨Nat.le_of_ble_eq_true rfl, Nat.le_of_ble_eq_true rfl⟩ dX8_hisses_5 rfl (Nat.le_of_ble_eq_true rfl) (fun _ _ _ h => h.elim) (fun r w1 ad1 hp => ?_)
  obtain ⟨rfl, rfl, rfl⟩ := hp
  exact z_iret O dX8_hisses_8 (Nat.le_of_ble_eq_true rfl) (Nat.le_of_ble_eq_true rfl) (⟨rfl, rfl, rfl⟩)

set_option maxRecDepth 100000 in
set_option maxHeartbeats 4000000 in
theorem c_X8_calls {G : zG} {l : Launch} (hl : l.stackTraces = false) {Z : zM} {sb : Nat → Option Nat} {mcn : Nat → Int32} {cp : Nat → Nat} {Y : zM} {th : Int32} {o : Nat → Int64} {od : Nat → UInt64} {ad : Nat → Nat} : zCt G l yX8_calls (zws yX8_calls cX8_calls 1 (some .int)) ({ frames := 1, cells := 0, slots := 0, locals := 21 }) [.ref (ad 300)] (zent Z sb mcn cp G.2.2.2.1 Y th o od ad) ad (fun r w1 ad1 => some (.int (Y 31 0)) = r ∧ zent Z sb mcn cp G.2.2.2.1 Y 0 o od ad = w1 ∧ ad = ad1) (zNoX) := by
  refine z_body hl (by decide +kernel) (Nat.le_of_ble_eq_true rfl) (fun X O => ?_)
  refine z_aload_n O dX8_calls_0 rfl ?_
  refine z_aload_n O dX8_calls_1 rfl ?_
  refine z_get O (fk := 31) (fun x h => zI x (zu_RX8 x h)) rfl (by decide) (zI _ zm7_45) dX8_calls_2 (zg_model) rfl ?_
  refine z_callV O (c_X8_tells hl) zI zm8_6 zm8_7 zm8_8 zm7_16 zm7_61 ⟨rfl, by decide +kernel, by decide +kernel, (show _ = some 1 by decide +kernel)⟩ rfl (zg_model) ⟨Nat.le_of_ble_eq_true rfl, Nat.le_of_ble_eq_true rfl⟩ ⟨Nat.le_of_ble_eq_true rfl, Nat.le_of_ble_eq_true rfl⟩ dX8_calls_5 rfl (Nat.le_of_ble_eq_true rfl) (fun _ _ _ h => h.elim) (fun r w1 ad1 hp => ?_)
  obtain ⟨rfl, rfl, rfl⟩ := hp
  exact z_iret O dX8_calls_8 (Nat.le_of_ble_eq_true rfl) (Nat.le_of_ble_eq_true rfl) (⟨rfl, rfl, rfl⟩)

set_option maxRecDepth 100000 in
set_option maxHeartbeats 4000000 in
theorem c_X8_suspicions {G : zG} {l : Launch} (hl : l.stackTraces = false) {Z : zM} {sb : Nat → Option Nat} {mcn : Nat → Int32} {cp : Nat → Nat} {Y : zM} {th : Int32} {o : Nat → Int64} {od : Nat → UInt64} {ad : Nat → Nat} : zCt G l yX8_suspicions (zws yX8_suspicions cX8_suspicions 1 (some .int)) ({ frames := 1, cells := 0, slots := 0, locals := 21 }) [.ref (ad 300)] (zent Z sb mcn cp G.2.2.2.1 Y th o od ad) ad (fun r w1 ad1 => some (.int (Y 33 0)) = r ∧ zent Z sb mcn cp G.2.2.2.1 Y 0 o od ad = w1 ∧ ad = ad1) (zNoX) := by
  refine z_body hl (by decide +kernel) (Nat.le_of_ble_eq_true rfl) (fun X O => ?_)
  refine z_aload_n O dX8_suspicions_0 rfl ?_
  refine z_aload_n O dX8_suspicions_1 rfl ?_
  refine z_get O (fk := 33) (fun x h => zI x (zu_RX8 x h)) rfl (by decide) (zI _ zm7_47) dX8_suspicions_2 (zg_model) rfl ?_
  refine z_callV O (c_X8_tells hl) zI zm8_6 zm8_7 zm8_8 zm7_16 zm7_61 ⟨rfl, by decide +kernel, by decide +kernel, (show _ = some 1 by decide +kernel)⟩ rfl (zg_model) ⟨Nat.le_of_ble_eq_true rfl, Nat.le_of_ble_eq_true rfl⟩ ⟨Nat.le_of_ble_eq_true rfl, Nat.le_of_ble_eq_true rfl⟩ dX8_suspicions_5 rfl (Nat.le_of_ble_eq_true rfl) (fun _ _ _ h => h.elim) (fun r w1 ad1 hp => ?_)
  obtain ⟨rfl, rfl, rfl⟩ := hp
  exact z_iret O dX8_suspicions_8 (Nat.le_of_ble_eq_true rfl) (Nat.le_of_ble_eq_true rfl) (⟨rfl, rfl, rfl⟩)

set_option maxRecDepth 100000 in
set_option maxHeartbeats 4000000 in
theorem c_X8_purse {G : zG} {l : Launch} (hl : l.stackTraces = false) {Z : zM} {sb : Nat → Option Nat} {mcn : Nat → Int32} {cp : Nat → Nat} {Y : zM} {th : Int32} {o : Nat → Int64} {od : Nat → UInt64} {ad : Nat → Nat} : zCt G l yX8_purse (zws yX8_purse cX8_purse 1 (some .int)) ({ frames := 1, cells := 0, slots := 0, locals := 21 }) [.ref (ad 300)] (zent Z sb mcn cp G.2.2.2.1 Y th o od ad) ad (fun r w1 ad1 => some (.int (Y 34 0)) = r ∧ zent Z sb mcn cp G.2.2.2.1 Y 0 o od ad = w1 ∧ ad = ad1) (zNoX) := by
  refine z_body hl (by decide +kernel) (Nat.le_of_ble_eq_true rfl) (fun X O => ?_)
  refine z_aload_n O dX8_purse_0 rfl ?_
  refine z_aload_n O dX8_purse_1 rfl ?_
  refine z_get O (fk := 34) (fun x h => zI x (zu_RX8 x h)) rfl (by decide) (zI _ zm7_48) dX8_purse_2 (zg_model) rfl ?_
  refine z_callV O (c_X8_tells hl) zI zm8_6 zm8_7 zm8_8 zm7_16 zm7_61 ⟨rfl, by decide +kernel, by decide +kernel, (show _ = some 1 by decide +kernel)⟩ rfl (zg_model) ⟨Nat.le_of_ble_eq_true rfl, Nat.le_of_ble_eq_true rfl⟩ ⟨Nat.le_of_ble_eq_true rfl, Nat.le_of_ble_eq_true rfl⟩ dX8_purse_5 rfl (Nat.le_of_ble_eq_true rfl) (fun _ _ _ h => h.elim) (fun r w1 ad1 hp => ?_)
  obtain ⟨rfl, rfl, rfl⟩ := hp
  exact z_iret O dX8_purse_8 (Nat.le_of_ble_eq_true rfl) (Nat.le_of_ble_eq_true rfl) (⟨rfl, rfl, rfl⟩)

set_option maxRecDepth 100000 in
set_option maxHeartbeats 4000000 in
theorem c_X8_chiefs {G : zG} {l : Launch} (hl : l.stackTraces = false) {Z : zM} {sb : Nat → Option Nat} {mcn : Nat → Int32} {cp : Nat → Nat} {Y : zM} {th : Int32} {o : Nat → Int64} {od : Nat → UInt64} {ad : Nat → Nat} : zCt G l yX8_chiefs (zws yX8_chiefs cX8_chiefs 1 (some .int)) ({ frames := 1, cells := 0, slots := 0, locals := 21 }) [.ref (ad 300)] (zent Z sb mcn cp G.2.2.2.1 Y th o od ad) ad (fun r w1 ad1 => some (.int (Y 35 0)) = r ∧ zent Z sb mcn cp G.2.2.2.1 Y 0 o od ad = w1 ∧ ad = ad1) (zNoX) := by
  refine z_body hl (by decide +kernel) (Nat.le_of_ble_eq_true rfl) (fun X O => ?_)
  refine z_aload_n O dX8_chiefs_0 rfl ?_
  refine z_aload_n O dX8_chiefs_1 rfl ?_
  refine z_get O (fk := 35) (fun x h => zI x (zu_RX8 x h)) rfl (by decide) (zI _ zm7_49) dX8_chiefs_2 (zg_model) rfl ?_
  refine z_callV O (c_X8_tells hl) zI zm8_6 zm8_7 zm8_8 zm7_16 zm7_61 ⟨rfl, by decide +kernel, by decide +kernel, (show _ = some 1 by decide +kernel)⟩ rfl (zg_model) ⟨Nat.le_of_ble_eq_true rfl, Nat.le_of_ble_eq_true rfl⟩ ⟨Nat.le_of_ble_eq_true rfl, Nat.le_of_ble_eq_true rfl⟩ dX8_chiefs_5 rfl (Nat.le_of_ble_eq_true rfl) (fun _ _ _ h => h.elim) (fun r w1 ad1 hp => ?_)
  obtain ⟨rfl, rfl, rfl⟩ := hp
  exact z_iret O dX8_chiefs_8 (Nat.le_of_ble_eq_true rfl) (Nat.le_of_ble_eq_true rfl) (⟨rfl, rfl, rfl⟩)

set_option maxRecDepth 100000 in
set_option maxHeartbeats 4000000 in
theorem c_X8_areFoundOut {G : zG} {l : Launch} (hl : l.stackTraces = false) {Z : zM} {sb : Nat → Option Nat} {mcn : Nat → Int32} {cp : Nat → Nat} {Y : zM} {th : Int32} {o : Nat → Int64} {od : Nat → UInt64} {ad : Nat → Nat} : zCt G l yX8_areFoundOut (zws yX8_areFoundOut cX8_areFoundOut 1 (some .boolean)) ({ frames := 0, cells := 0, slots := 0, locals := 0 }) [.ref (ad 300)] (zent Z sb mcn cp G.2.2.2.1 Y th o od ad) ad (fun r w1 ad1 => some (.int (if Y 33 0 < 3 then 0 else 1)) = r ∧ zent Z sb mcn cp G.2.2.2.1 Y 0 o od ad = w1 ∧ ad = ad1) (zNoX) := by
  refine z_body hl (by decide +kernel) (Nat.le_of_ble_eq_true rfl) (fun X O => ?_)
  refine z_aload_n O dX8_areFoundOut_0 rfl ?_
  refine z_iconst O dX8_areFoundOut_1 (v := 0) (by decide) ?_
  refine z_put O (fk := 36) (fun x h => zI x (zu_RX8 x h)) tyX8 tyX8_ok nmX8 rfl (by decide) (zI _ zm7_50) rfl dX8_areFoundOut_2 rfl rfl (zg_model) (Nat.le_of_ble_eq_true rfl) (zp_thrown) ?_
  refine z_aload_n O dX8_areFoundOut_5 rfl ?_
  refine z_get O (fk := 33) (fun x h => zI x (zu_RX8 x h)) rfl (by decide) (zI _ zm7_47) dX8_areFoundOut_6 (zg_model) rfl ?_
  refine z_iconst O dX8_areFoundOut_9 (v := 3) (by decide) ?_
  refine z_icmp_lt O dX8_areFoundOut_10 (tgt := 17) (by decide) (fun h => ?_) (fun h => ?_)
  · refine z_iconst O dX8_areFoundOut_17 (v := 0) (by decide) ?_
    exact z_zret O rfl rfl dX8_areFoundOut_18 (Nat.le_of_ble_eq_true rfl) (Nat.le_of_ble_eq_true rfl) (⟨by rw [if_pos h], rfl, rfl⟩)
  · refine z_iconst O dX8_areFoundOut_13 (v := 1) (by decide) ?_
    refine z_goto O dX8_areFoundOut_14 (tgt := 18) (by decide) ?_
    exact z_zret O rfl rfl dX8_areFoundOut_18 (Nat.le_of_ble_eq_true rfl) (Nat.le_of_ble_eq_true rfl) (⟨by rw [if_neg h], rfl, rfl⟩)

set_option maxRecDepth 100000 in
set_option maxHeartbeats 4000000 in
theorem c_X8_isSound {G : zG} {l : Launch} (hl : l.stackTraces = false) {Z : zM} {sb : Nat → Option Nat} {mcn : Nat → Int32} {cp : Nat → Nat} {Y : zM} {th : Int32} {o : Nat → Int64} {od : Nat → UInt64} {ad : Nat → Nat} : zCt G l yX8_isSound (zws yX8_isSound cX8_isSound 1 (some .boolean)) ({ frames := 0, cells := 0, slots := 0, locals := 0 }) [.ref (ad 300)] (zent Z sb mcn cp G.2.2.2.1 Y th o od ad) ad (fun r w1 ad1 => some (.int 1) = r ∧ zent Z sb mcn cp G.2.2.2.1 Y 0 o od ad = w1 ∧ ad = ad1) (zNoX) := by
  refine z_body hl (by decide +kernel) (Nat.le_of_ble_eq_true rfl) (fun X O => ?_)
  refine z_aload_n O dX8_isSound_0 rfl ?_
  refine z_iconst O dX8_isSound_1 (v := 0) (by decide) ?_
  refine z_put O (fk := 36) (fun x h => zI x (zu_RX8 x h)) tyX8 tyX8_ok nmX8 rfl (by decide) (zI _ zm7_50) rfl dX8_isSound_2 rfl rfl (zg_model) (Nat.le_of_ble_eq_true rfl) (zp_thrown) ?_
  refine z_iconst O dX8_isSound_5 (v := 1) (by decide) ?_
  exact z_zret O rfl rfl dX8_isSound_6 (Nat.le_of_ble_eq_true rfl) (Nat.le_of_ble_eq_true rfl) (⟨rfl, rfl, rfl⟩)

set_option maxRecDepth 100000 in
set_option maxHeartbeats 4000000 in
theorem c_X8_summed {G : zG} {l : Launch} (hl : l.stackTraces = false) {Z : zM} {sb : Nat → Option Nat} {mcn : Nat → Int32} {cp : Nat → Nat} {Y : zM} {th : Int32} {o : Nat → Int64} {od : Nat → UInt64} {ad : Nat → Nat} : zCt G l yX8_summed (zws yX8_summed cX8_summed 3 (some .int)) ({ frames := 0, cells := 0, slots := 0, locals := 0 }) [.ref (ad 300)] (zent Z sb mcn cp G.2.2.2.1 Y th o od ad) ad (fun r w1 ad1 => some (.int (fSum (Y 3) 80)) = r ∧ zent Z sb mcn cp G.2.2.2.1 Y th o od ad = w1 ∧ ad = ad1) (zNoX) := by
  refine z_body hl (by decide +kernel) (Nat.le_of_ble_eq_true rfl) (fun X O => ?_)
  have L : ∀ (n : Nat) (i : Nat), i ≤ 80 → 80 < i + n → zV G X 3 0 0 4 [(0, .ref (ad 300)), (1, .int (fSum (Y 3) i)), (2, .int (nI i))] [] (zent Z sb mcn cp G.2.2.2.1 Y th o od ad) ad := by
    intro n
    induction n with
    | zero => intro i h1 h2; omega
    | succ n ih =>
      intro i h1 h2
      refine z_iload_n O dX8_summed_4 rfl ?_
      refine z_bipush O dX8_summed_5 (v := 80) (by decide) ?_
      refine z_icmp_ge O dX8_summed_7 (tgt := 25) (by decide) (fun h => ?_) (fun h => ?_)
      · have hi : i = 80 := by have := z_ge_ge (b := 80) (by omega) (by decide) h; omega
        subst hi
        refine z_iload_n O dX8_summed_25 rfl ?_
        exact z_iret O dX8_summed_26 (Nat.le_of_ble_eq_true rfl) (Nat.le_of_ble_eq_true rfl) (⟨rfl, rfl, rfl⟩)
      · have hi : i < 80 := z_ge_lt (b := 80) (by omega) (by decide) h
        refine z_iload_n O dX8_summed_10 rfl ?_
        refine z_aload_n O dX8_summed_11 rfl ?_
        refine z_get O (fk := 3) (fun x h => zI x (zu_RX8 x h)) rfl (by decide) (zI _ zm7_5) dX8_summed_12 (zg_model) rfl ?_
        refine z_iload_n O dX8_summed_15 rfl ?_
        refine z_iald O dX8_summed_16 (zg_mI (i := 3) (n := 80) rfl rfl (by decide)) (i) (rfl) (hi) (by decide) ?_
        refine z_iadd O dX8_summed_17 ?_
        refine z_istore_n O dX8_summed_18 (by decide) ?_
        refine z_iincN O dX8_summed_19 (a := i) rfl (by decide) ?_
        refine z_goto O dX8_summed_22 (tgt := 4) (by decide) ?_
        exact zV.loc (ih (i + 1) (by omega) (by omega)) ⟨rfl, rfl, rfl, trivial⟩
  refine z_iconst O dX8_summed_0 (v := 0) (by decide) ?_
  refine z_istore_n O dX8_summed_1 (by decide) ?_
  refine z_iconst O dX8_summed_2 (v := 0) (by decide) ?_
  refine z_istore_n O dX8_summed_3 (by decide) ?_
  exact zV.loc (L 81 0 (by omega) (by omega)) ⟨rfl, rfl, rfl, trivial⟩

set_option maxRecDepth 100000 in
set_option maxHeartbeats 4000000 in
theorem c_X8_joiners {G : zG} {l : Launch} (hl : l.stackTraces = false) {Z : zM} {sb : Nat → Option Nat} {mcn : Nat → Int32} {cp : Nat → Nat} {Y : zM} {th : Int32} {o : Nat → Int64} {od : Nat → UInt64} {ad : Nat → Nat} : zCt G l yX8_joiners (zws yX8_joiners cX8_joiners 3 (some .int)) ({ frames := 0, cells := 0, slots := 0, locals := 0 }) [.ref (ad 300)] (zent Z sb mcn cp G.2.2.2.1 Y th o od ad) ad (fun r w1 ad1 => some (.int (fSum (fun k => if Y 6 k = 0 then 0 else 1) 80)) = r ∧ zent Z sb mcn cp G.2.2.2.1 Y th o od ad = w1 ∧ ad = ad1) (zNoX) := by
  refine z_body hl (by decide +kernel) (Nat.le_of_ble_eq_true rfl) (fun X O => ?_)
  have L : ∀ (n : Nat) (i : Nat), i ≤ 80 → 80 < i + n → zV G X 3 0 0 4 [(0, .ref (ad 300)), (1, .int (fSum (fun k => if Y 6 k = 0 then 0 else 1) i)), (2, .int (nI i))] [] (zent Z sb mcn cp G.2.2.2.1 Y th o od ad) ad := by
    intro n
    induction n with
    | zero => intro i h1 h2; omega
    | succ n ih =>
      intro i h1 h2
      refine z_iload_n O dX8_joiners_4 rfl ?_
      refine z_bipush O dX8_joiners_5 (v := 80) (by decide) ?_
      refine z_icmp_ge O dX8_joiners_7 (tgt := 33) (by decide) (fun h => ?_) (fun h => ?_)
      · have hi : i = 80 := by have := z_ge_ge (b := 80) (by omega) (by decide) h; omega
        subst hi
        refine z_iload_n O dX8_joiners_33 rfl ?_
        exact z_iret O dX8_joiners_34 (Nat.le_of_ble_eq_true rfl) (Nat.le_of_ble_eq_true rfl) (⟨rfl, rfl, rfl⟩)
      · have hi : i < 80 := z_ge_lt (b := 80) (by omega) (by decide) h
        refine z_iload_n O dX8_joiners_10 rfl ?_
        refine z_aload_n O dX8_joiners_11 rfl ?_
        refine z_get O (fk := 6) (fun x h => zI x (zu_RX8 x h)) rfl (by decide) (zI _ zm7_7) dX8_joiners_12 (zg_model) rfl ?_
        refine z_iload_n O dX8_joiners_15 rfl ?_
        refine z_zald O dX8_joiners_16 (zg_mZ (i := 6) (n := 80) rfl rfl (by decide)) (i) (rfl) (hi) (by decide) ?_
        refine z_if_eq O dX8_joiners_17 (tgt := 24) (by decide) (fun g => ?_) (fun g => ?_)
        · refine z_iconst O dX8_joiners_24 (v := 0) (by decide) ?_
          refine z_iadd O dX8_joiners_25 ?_
          refine z_istore_n O dX8_joiners_26 (by decide) ?_
          refine z_iincN O dX8_joiners_27 (a := i) rfl (by decide) ?_
          refine z_goto O dX8_joiners_30 (tgt := 4) (by decide) ?_
          exact zV.loc (ih (i + 1) (by omega) (by omega)) ⟨rfl, by rw [show fSum (fun k => if Y 6 k = 0 then 0 else 1) (i + 1) = fSum (fun k => if Y 6 k = 0 then 0 else 1) i + 0 from by show fSum _ i + (if Y 6 i = 0 then 0 else 1) = _; rw [if_pos g]]; rfl, rfl, trivial⟩
        · refine z_iconst O dX8_joiners_20 (v := 1) (by decide) ?_
          refine z_goto O dX8_joiners_21 (tgt := 25) (by decide) ?_
          refine z_iadd O dX8_joiners_25 ?_
          refine z_istore_n O dX8_joiners_26 (by decide) ?_
          refine z_iincN O dX8_joiners_27 (a := i) rfl (by decide) ?_
          refine z_goto O dX8_joiners_30 (tgt := 4) (by decide) ?_
          exact zV.loc (ih (i + 1) (by omega) (by omega)) ⟨rfl, by rw [show fSum (fun k => if Y 6 k = 0 then 0 else 1) (i + 1) = fSum (fun k => if Y 6 k = 0 then 0 else 1) i + 1 from by show fSum _ i + (if Y 6 i = 0 then 0 else 1) = _; rw [if_neg g]]; rfl, rfl, trivial⟩
  refine z_iconst O dX8_joiners_0 (v := 0) (by decide) ?_
  refine z_istore_n O dX8_joiners_1 (by decide) ?_
  refine z_iconst O dX8_joiners_2 (v := 0) (by decide) ?_
  refine z_istore_n O dX8_joiners_3 (by decide) ?_
  exact zV.loc (L 81 0 (by omega) (by omega)) ⟨rfl, rfl, rfl, trivial⟩

set_option maxRecDepth 100000 in
set_option maxHeartbeats 4000000 in
theorem c_X8_noisy {G : zG} {l : Launch} (hl : l.stackTraces = false) {Z : zM} {sb : Nat → Option Nat} {mcn : Nat → Int32} {cp : Nat → Nat} {Y : zM} {th : Int32} {o : Nat → Int64} {od : Nat → UInt64} {ad : Nat → Nat} {x : Int32} : zCt G l yX8_noisy (zws yX8_noisy cX8_noisy 4 (some .int)) ({ frames := 0, cells := 0, slots := 0, locals := 0 }) [.ref (ad 300), .int x] (zent Z sb mcn cp G.2.2.2.1 Y th o od ad) ad (fun r w1 ad1 => some (.int (fSum (fun k => if Y 0 k = x ∧ 0 < Y 3 k then 1 else 0) 80)) = r ∧ zent Z sb mcn cp G.2.2.2.1 Y th o od ad = w1 ∧ ad = ad1) (zNoX) := by
  refine z_body hl (by decide +kernel) (Nat.le_of_ble_eq_true rfl) (fun X O => ?_)
  have L : ∀ (n : Nat) (i : Nat), i ≤ 80 → 80 < i + n → zV G X 4 0 0 4 [(0, .ref (ad 300)), (1, .int x), (2, .int (fSum (fun k => if Y 0 k = x ∧ 0 < Y 3 k then 1 else 0) i)), (3, .int (nI i))] [] (zent Z sb mcn cp G.2.2.2.1 Y th o od ad) ad := by
    intro n
    induction n with
    | zero => intro i h1 h2; omega
    | succ n ih =>
      intro i h1 h2
      refine z_iload_n O dX8_noisy_4 rfl ?_
      refine z_bipush O dX8_noisy_5 (v := 80) (by decide) ?_
      refine z_icmp_ge O dX8_noisy_7 (tgt := 43) (by decide) (fun h => ?_) (fun h => ?_)
      · have hi : i = 80 := by have := z_ge_ge (b := 80) (by omega) (by decide) h; omega
        subst hi
        refine z_iload_n O dX8_noisy_43 rfl ?_
        exact z_iret O dX8_noisy_44 (Nat.le_of_ble_eq_true rfl) (Nat.le_of_ble_eq_true rfl) (⟨rfl, rfl, rfl⟩)
      · have hi : i < 80 := z_ge_lt (b := 80) (by omega) (by decide) h
        refine z_iload_n O dX8_noisy_10 rfl ?_
        refine z_aload_n O dX8_noisy_11 rfl ?_
        refine z_get O (fk := 0) (fun x h => zI x (zu_RX8 x h)) rfl (by decide) (zI _ zm7_10) dX8_noisy_12 (zg_model) rfl ?_
        refine z_iload_n O dX8_noisy_15 rfl ?_
        refine z_cald O dX8_noisy_16 (zg_mC (i := 0) (n := 80) rfl rfl (by decide)) (i) (rfl) (hi) (by decide) ?_
        refine z_iload_n O dX8_noisy_17 rfl ?_
        refine z_icmp_ne O dX8_noisy_18 (tgt := 34) (by decide) (fun g => ?_) (fun g => ?_)
        · refine z_iconst O dX8_noisy_34 (v := 0) (by decide) ?_
          refine z_iadd O dX8_noisy_35 ?_
          refine z_istore_n O dX8_noisy_36 (by decide) ?_
          refine z_iincN O dX8_noisy_37 (a := i) rfl (by decide) ?_
          refine z_goto O dX8_noisy_40 (tgt := 4) (by decide) ?_
          exact zV.loc (ih (i + 1) (by omega) (by omega)) ⟨rfl, rfl, by rw [show fSum (fun k => if Y 0 k = x ∧ 0 < Y 3 k then 1 else 0) (i + 1) = fSum (fun k => if Y 0 k = x ∧ 0 < Y 3 k then 1 else 0) i + 0 from by show fSum _ i + (if Y 0 i = x ∧ 0 < Y 3 i then 1 else 0) = _; rw [if_neg (fun q => g q.1)]]; rfl, rfl, trivial⟩
        · refine z_aload_n O dX8_noisy_21 rfl ?_
          refine z_get O (fk := 3) (fun x h => zI x (zu_RX8 x h)) rfl (by decide) (zI _ zm7_5) dX8_noisy_22 (zg_model) rfl ?_
          refine z_iload_n O dX8_noisy_25 rfl ?_
          refine z_iald O dX8_noisy_26 (zg_mI (i := 3) (n := 80) rfl rfl (by decide)) (i) (rfl) (hi) (by decide) ?_
          refine z_if_le O dX8_noisy_27 (tgt := 34) (by decide) (fun g2 => ?_) (fun g2 => ?_)
          · refine z_iconst O dX8_noisy_34 (v := 0) (by decide) ?_
            refine z_iadd O dX8_noisy_35 ?_
            refine z_istore_n O dX8_noisy_36 (by decide) ?_
            refine z_iincN O dX8_noisy_37 (a := i) rfl (by decide) ?_
            refine z_goto O dX8_noisy_40 (tgt := 4) (by decide) ?_
            exact zV.loc (ih (i + 1) (by omega) (by omega)) ⟨rfl, rfl, by rw [show fSum (fun k => if Y 0 k = x ∧ 0 < Y 3 k then 1 else 0) (i + 1) = fSum (fun k => if Y 0 k = x ∧ 0 < Y 3 k then 1 else 0) i + 0 from by show fSum _ i + (if Y 0 i = x ∧ 0 < Y 3 i then 1 else 0) = _; rw [if_neg (fun q => absurd q.2 (Int32.not_lt.mpr g2))]]; rfl, rfl, trivial⟩
          · refine z_iconst O dX8_noisy_30 (v := 1) (by decide) ?_
            refine z_goto O dX8_noisy_31 (tgt := 35) (by decide) ?_
            refine z_iadd O dX8_noisy_35 ?_
            refine z_istore_n O dX8_noisy_36 (by decide) ?_
            refine z_iincN O dX8_noisy_37 (a := i) rfl (by decide) ?_
            refine z_goto O dX8_noisy_40 (tgt := 4) (by decide) ?_
            exact zV.loc (ih (i + 1) (by omega) (by omega)) ⟨rfl, rfl, by rw [show fSum (fun k => if Y 0 k = x ∧ 0 < Y 3 k then 1 else 0) (i + 1) = fSum (fun k => if Y 0 k = x ∧ 0 < Y 3 k then 1 else 0) i + 1 from by show fSum _ i + (if Y 0 i = x ∧ 0 < Y 3 i then 1 else 0) = _; rw [if_pos ⟨g, Int32.not_le.mp g2⟩]]; rfl, rfl, trivial⟩
  refine z_iconst O dX8_noisy_0 (v := 0) (by decide) ?_
  refine z_istore_n O dX8_noisy_1 (by decide) ?_
  refine z_iconst O dX8_noisy_2 (v := 0) (by decide) ?_
  refine z_istore_n O dX8_noisy_3 (by decide) ?_
  exact zV.loc (L 81 0 (by omega) (by omega)) ⟨rfl, rfl, rfl, rfl, trivial⟩

set_option maxRecDepth 100000 in
set_option maxHeartbeats 4000000 in
theorem c_X8_payers {G : zG} {l : Launch} (hl : l.stackTraces = false) {Z : zM} {sb : Nat → Option Nat} {mcn : Nat → Int32} {cp : Nat → Nat} {Y : zM} {th : Int32} {o : Nat → Int64} {od : Nat → UInt64} {ad : Nat → Nat} : zCt G l yX8_payers (zws yX8_payers cX8_payers 3 (some .int)) ({ frames := 0, cells := 0, slots := 0, locals := 0 }) [.ref (ad 300)] (zent Z sb mcn cp G.2.2.2.1 Y th o od ad) ad (fun r w1 ad1 => some (.int (fSum (fun k => if Y 0 k = 112 then 1 else 0) 80)) = r ∧ zent Z sb mcn cp G.2.2.2.1 Y th o od ad = w1 ∧ ad = ad1) (zNoX) := by
  refine z_body hl (by decide +kernel) (Nat.le_of_ble_eq_true rfl) (fun X O => ?_)
  have L : ∀ (n : Nat) (i : Nat), i ≤ 80 → 80 < i + n → zV G X 3 0 0 4 [(0, .ref (ad 300)), (1, .int (fSum (fun k => if Y 0 k = 112 then 1 else 0) i)), (2, .int (nI i))] [] (zent Z sb mcn cp G.2.2.2.1 Y th o od ad) ad := by
    intro n
    induction n with
    | zero => intro i h1 h2; omega
    | succ n ih =>
      intro i h1 h2
      refine z_iload_n O dX8_payers_4 rfl ?_
      refine z_bipush O dX8_payers_5 (v := 80) (by decide) ?_
      refine z_icmp_ge O dX8_payers_7 (tgt := 35) (by decide) (fun h => ?_) (fun h => ?_)
      · have hi : i = 80 := by have := z_ge_ge (b := 80) (by omega) (by decide) h; omega
        subst hi
        refine z_iload_n O dX8_payers_35 rfl ?_
        exact z_iret O dX8_payers_36 (Nat.le_of_ble_eq_true rfl) (Nat.le_of_ble_eq_true rfl) (⟨rfl, rfl, rfl⟩)
      · have hi : i < 80 := z_ge_lt (b := 80) (by omega) (by decide) h
        refine z_iload_n O dX8_payers_10 rfl ?_
        refine z_aload_n O dX8_payers_11 rfl ?_
        refine z_get O (fk := 0) (fun x h => zI x (zu_RX8 x h)) rfl (by decide) (zI _ zm7_10) dX8_payers_12 (zg_model) rfl ?_
        refine z_iload_n O dX8_payers_15 rfl ?_
        refine z_cald O dX8_payers_16 (zg_mC (i := 0) (n := 80) rfl rfl (by decide)) (i) (rfl) (hi) (by decide) ?_
        refine z_bipush O dX8_payers_17 (v := 112) (by decide) ?_
        refine z_icmp_ne O dX8_payers_19 (tgt := 26) (by decide) (fun g => ?_) (fun g => ?_)
        · refine z_iconst O dX8_payers_26 (v := 0) (by decide) ?_
          refine z_iadd O dX8_payers_27 ?_
          refine z_istore_n O dX8_payers_28 (by decide) ?_
          refine z_iincN O dX8_payers_29 (a := i) rfl (by decide) ?_
          refine z_goto O dX8_payers_32 (tgt := 4) (by decide) ?_
          exact zV.loc (ih (i + 1) (by omega) (by omega)) ⟨rfl, by rw [show fSum (fun k => if Y 0 k = 112 then 1 else 0) (i + 1) = fSum (fun k => if Y 0 k = 112 then 1 else 0) i + 0 from by show fSum _ i + (if Y 0 i = 112 then 1 else 0) = _; rw [if_neg g]]; rfl, rfl, trivial⟩
        · refine z_iconst O dX8_payers_22 (v := 1) (by decide) ?_
          refine z_goto O dX8_payers_23 (tgt := 27) (by decide) ?_
          refine z_iadd O dX8_payers_27 ?_
          refine z_istore_n O dX8_payers_28 (by decide) ?_
          refine z_iincN O dX8_payers_29 (a := i) rfl (by decide) ?_
          refine z_goto O dX8_payers_32 (tgt := 4) (by decide) ?_
          exact zV.loc (ih (i + 1) (by omega) (by omega)) ⟨rfl, by rw [show fSum (fun k => if Y 0 k = 112 then 1 else 0) (i + 1) = fSum (fun k => if Y 0 k = 112 then 1 else 0) i + 1 from by show fSum _ i + (if Y 0 i = 112 then 1 else 0) = _; rw [if_pos g]]; rfl, rfl, trivial⟩
  refine z_iconst O dX8_payers_0 (v := 0) (by decide) ?_
  refine z_istore_n O dX8_payers_1 (by decide) ?_
  refine z_iconst O dX8_payers_2 (v := 0) (by decide) ?_
  refine z_istore_n O dX8_payers_3 (by decide) ?_
  exact zV.loc (L 81 0 (by omega) (by omega)) ⟨rfl, rfl, rfl, trivial⟩

set_option maxRecDepth 100000 in
set_option maxHeartbeats 4000000 in
theorem c_X8_noise {G : zG} {l : Launch} (hl : l.stackTraces = false) {Z : zM} {sb : Nat → Option Nat} {mcn : Nat → Int32} {cp : Nat → Nat} {Y : zM} {th : Int32} {o : Nat → Int64} {od : Nat → UInt64} {ad : Nat → Nat} : zCt G l yX8_noise (zws yX8_noise cX8_noise 1 (some .int)) ({ frames := 1, cells := 0, slots := 0, locals := 22 }) [.ref (ad 300)] (zent Z sb mcn cp G.2.2.2.1 Y th o od ad) ad (fun r w1 ad1 => some (.int (fSum (Y 3) 80)) = r ∧ zent Z sb mcn cp G.2.2.2.1 Y 0 o od ad = w1 ∧ ad = ad1) (zNoX) := by
  refine z_body hl (by decide +kernel) (Nat.le_of_ble_eq_true rfl) (fun X O => ?_)
  refine z_aload_n O dX8_noise_0 rfl ?_
  refine z_aload_n O dX8_noise_1 rfl ?_
  refine z_callV O (c_X8_summed hl) zI zm8_60 zm8_61 zm8_62 zm7_16 zm8_56 ⟨rfl, by decide +kernel, by decide +kernel, (show _ = some 0 by decide +kernel)⟩ rfl (zg_model) ⟨Nat.le_of_ble_eq_true rfl, Nat.le_of_ble_eq_true rfl⟩ ⟨Nat.le_of_ble_eq_true rfl, Nat.le_of_ble_eq_true rfl⟩ dX8_noise_2 rfl (Nat.le_of_ble_eq_true rfl) (fun _ _ _ h => h.elim) (fun r w1 ad1 hp => ?_)
  obtain ⟨rfl, rfl, rfl⟩ := hp
  refine z_callV O (c_X8_tells hl) zI zm8_6 zm8_7 zm8_8 zm7_16 zm7_61 ⟨rfl, by decide +kernel, by decide +kernel, (show _ = some 1 by decide +kernel)⟩ rfl (zg_model) ⟨Nat.le_of_ble_eq_true rfl, Nat.le_of_ble_eq_true rfl⟩ ⟨Nat.le_of_ble_eq_true rfl, Nat.le_of_ble_eq_true rfl⟩ dX8_noise_5 rfl (Nat.le_of_ble_eq_true rfl) (fun _ _ _ h => h.elim) (fun r w1 ad1 hp => ?_)
  obtain ⟨rfl, rfl, rfl⟩ := hp
  exact z_iret O dX8_noise_8 (Nat.le_of_ble_eq_true rfl) (Nat.le_of_ble_eq_true rfl) (⟨rfl, rfl, rfl⟩)

set_option maxRecDepth 100000 in
set_option maxHeartbeats 4000000 in
theorem c_X8_joining {G : zG} {l : Launch} (hl : l.stackTraces = false) {Z : zM} {sb : Nat → Option Nat} {mcn : Nat → Int32} {cp : Nat → Nat} {Y : zM} {th : Int32} {o : Nat → Int64} {od : Nat → UInt64} {ad : Nat → Nat} : zCt G l yX8_joining (zws yX8_joining cX8_joining 1 (some .int)) ({ frames := 1, cells := 0, slots := 0, locals := 22 }) [.ref (ad 300)] (zent Z sb mcn cp G.2.2.2.1 Y th o od ad) ad (fun r w1 ad1 => some (.int (fJoined Y)) = r ∧ zent Z sb mcn cp G.2.2.2.1 Y 0 o od ad = w1 ∧ ad = ad1) (zNoX) := by
  refine z_body hl (by decide +kernel) (Nat.le_of_ble_eq_true rfl) (fun X O => ?_)
  refine z_aload_n O dX8_joining_0 rfl ?_
  refine z_aload_n O dX8_joining_1 rfl ?_
  refine z_callV O (c_X8_joiners hl) zI zm9_8 zm9_9 zm9_10 zm7_16 zm9_6 ⟨rfl, by decide +kernel, by decide +kernel, (show _ = some 0 by decide +kernel)⟩ rfl (zg_model) ⟨Nat.le_of_ble_eq_true rfl, Nat.le_of_ble_eq_true rfl⟩ ⟨Nat.le_of_ble_eq_true rfl, Nat.le_of_ble_eq_true rfl⟩ dX8_joining_2 rfl (Nat.le_of_ble_eq_true rfl) (fun _ _ _ h => h.elim) (fun r w1 ad1 hp => ?_)
  obtain ⟨rfl, rfl, rfl⟩ := hp
  refine z_callV O (c_X8_tells hl) zI zm8_6 zm8_7 zm8_8 zm7_16 zm7_61 ⟨rfl, by decide +kernel, by decide +kernel, (show _ = some 1 by decide +kernel)⟩ rfl (zg_model) ⟨Nat.le_of_ble_eq_true rfl, Nat.le_of_ble_eq_true rfl⟩ ⟨Nat.le_of_ble_eq_true rfl, Nat.le_of_ble_eq_true rfl⟩ dX8_joining_5 rfl (Nat.le_of_ble_eq_true rfl) (fun _ _ _ h => h.elim) (fun r w1 ad1 hp => ?_)
  obtain ⟨rfl, rfl, rfl⟩ := hp
  exact z_iret O dX8_joining_8 (Nat.le_of_ble_eq_true rfl) (Nat.le_of_ble_eq_true rfl) (⟨rfl, rfl, rfl⟩)
