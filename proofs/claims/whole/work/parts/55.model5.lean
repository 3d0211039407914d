/-- a place in the model's tick -/
def mQuiet (Y : zM) (k : Nat) : zM := zu (zu Y 6 k 0) 7 k 0
def mSits (Y : zM) (k : Nat) : zM :=
  if Y 0 k = 104 then zu (mQuiet Y k) 3 k (mNoise (mQuiet Y k) (Y 2 k).toNatClampNeg)
  else if Y 0 k = 114 then (if fAround (mQuiet Y k) (k / 10) (k % 10) < 12 then zu (zu (mQuiet Y k) 7 k 0) 32 0 (Y 32 0 + 0) else zu (zu (mQuiet Y k) 7 k 1) 32 0 (Y 32 0 + 1))
  else if Y 0 k = 112 then (if fAround (mQuiet Y k) (k / 10) (k % 10) < 3 * (Y 1 k + Y 4 k / 10) then zu (zu (zu (mQuiet Y k) 6 k 0) 3 k (fMax 0 (Y 3 k - 1))) 4 k (Y 4 k + 0) else zu (zu (zu (mQuiet Y k) 6 k 1) 3 k (fMax 1 (fMin 9 (fAround (mQuiet Y k) (k / 10) (k % 10) / 4)))) 4 k (Y 4 k + 1))
  else mQuiet Y k
set_option maxRecDepth 100000 in
set_option maxHeartbeats 4000000 in
theorem c_X8_sits {G : zG} {l : Launch} (hl : l.stackTraces = false) {Z : zM} {sb : Nat → Option Nat} {mcn : Nat → Int32} {cp : Nat → Nat} {Y : zM} {th : Int32} {o : Nat → Int64} {od : Nat → UInt64} {ad : Nat → Nat} (hh : zHouse Y) (hc : zCnt Y 2) {k : Nat} (hk : k < 80) (hhand : Y 0 k = 104 → ∃ j, j < 12 ∧ Y 2 k = nI j) : zCt G l yX8_sits (zws yX8_sits cX8_sits 3 none) ({ frames := 3, cells := 0, slots := 0, locals := 68 }) [.ref (ad 300), .int (nI k)] (zent Z sb mcn cp G.2.2.2.1 Y th o od ad) ad (fun r w1 ad1 => none = r ∧ zent Z sb mcn cp G.2.2.2.1 (mSits Y k) th o od ad = w1 ∧ ad = ad1) (zNoX) := by
  refine z_body hl (by decide +kernel) (Nat.le_of_ble_eq_true rfl) (fun X O => ?_)
  obtain ⟨a, b, ha, hb, rfl⟩ : ∃ a b, a < 8 ∧ b < 10 ∧ k = a * 10 + b := ⟨k / 10, k % 10, by omega, by omega, by omega⟩
  have hka : (a * 10 + b) / 10 = a := by omega
  have hkb : (a * 10 + b) % 10 = b := by omega
  have hhq : zHouse (mQuiet Y (a * 10 + b)) := hh
  refine z_aload_n O dX8_sits_0 rfl ?_
  refine z_get O (fk := 6) (fun x h => zI x (zu_RX8 x h)) rfl (by decide) (zI _ zm7_7) dX8_sits_1 (zg_model) rfl ?_
  refine z_iload_n O dX8_sits_4 rfl ?_
  refine z_iconst O dX8_sits_5 (v := 0) (by decide) ?_
  refine z_zast O dX8_sits_6 (zg_mZ (i := 6) (n := 80) rfl rfl (by decide)) ((a * 10 + b)) (rfl) (hk) (by decide) (zBol_0.1) (zp_mZ (i := 6) (n := 80) rfl rfl (by decide)) ?_
  refine z_aload_n O dX8_sits_7 rfl ?_
  refine z_get O (fk := 7) (fun x h => zI x (zu_RX8 x h)) rfl (by decide) (zI _ zm7_8) dX8_sits_8 (zg_model) rfl ?_
  refine z_iload_n O dX8_sits_11 rfl ?_
  refine z_iconst O dX8_sits_12 (v := 0) (by decide) ?_
  refine z_zast O dX8_sits_13 (zg_mZ (i := 7) (n := 80) rfl rfl (by decide)) ((a * 10 + b)) (rfl) (hk) (by decide) (zBol_0.1) (zp_mZ (i := 7) (n := 80) rfl rfl (by decide)) ?_
  refine z_aload_n O dX8_sits_14 rfl ?_
  refine z_get O (fk := 0) (fun x h => zI x (zu_RX8 x h)) rfl (by decide) (zI _ zm7_10) dX8_sits_15 (zg_model) rfl ?_
  refine z_iload_n O dX8_sits_18 rfl ?_
  refine z_cald O dX8_sits_19 (zg_mC (i := 0) (n := 80) rfl rfl (by decide)) ((a * 10 + b)) (rfl) (hk) (by decide) ?_
  refine z_bipush O dX8_sits_20 (v := 104) (by decide) ?_
  refine z_icmp_ne O dX8_sits_22 (tgt := 41) (by decide) (fun h => ?_) (fun h => ?_)
  · have hn : ¬ Y 0 (a * 10 + b) = 104 := h
    refine z_aload_n O dX8_sits_41 rfl ?_
    refine z_get O (fk := 0) (fun x h => zI x (zu_RX8 x h)) rfl (by decide) (zI _ zm7_10) dX8_sits_42 (zg_model) rfl ?_
    refine z_iload_n O dX8_sits_45 rfl ?_
    refine z_cald O dX8_sits_46 (zg_mC (i := 0) (n := 80) rfl rfl (by decide)) ((a * 10 + b)) (rfl) (hk) (by decide) ?_
    refine z_bipush O dX8_sits_47 (v := 114) (by decide) ?_
    refine z_icmp_ne O dX8_sits_49 (tgt := 96) (by decide) (fun g2 => ?_) (fun g2 => ?_)
    · have hn2 : ¬ Y 0 (a * 10 + b) = 114 := g2
      refine z_aload_n O dX8_sits_96 rfl ?_
      refine z_get O (fk := 0) (fun x h => zI x (zu_RX8 x h)) rfl (by decide) (zI _ zm7_10) dX8_sits_97 (zg_model) rfl ?_
      refine z_iload_n O dX8_sits_100 rfl ?_
      refine z_cald O dX8_sits_101 (zg_mC (i := 0) (n := 80) rfl rfl (by decide)) ((a * 10 + b)) (rfl) (hk) (by decide) ?_
      refine z_bipush O dX8_sits_102 (v := 112) (by decide) ?_
      refine z_icmp_eq O dX8_sits_104 (tgt := 108) (by decide) (fun g3 => ?_) (fun g3 => ?_)
      · have h112 : Y 0 (a * 10 + b) = 112 := g3
        refine z_aload_n O dX8_sits_108 rfl ?_
        refine z_iload_n O dX8_sits_109 rfl ?_
        refine z_callV O (c_X8_around hl hhq ha hb) zI zm8_50 zm8_51 zm8_52 zm7_16 zm8_46 ⟨rfl, by decide +kernel, by decide +kernel, (show _ = some 1 by decide +kernel)⟩ rfl (zg_model) ⟨Nat.le_of_ble_eq_true rfl, Nat.le_of_ble_eq_true rfl⟩ ⟨Nat.le_of_ble_eq_true rfl, Nat.le_of_ble_eq_true rfl⟩ dX8_sits_110 rfl (Nat.le_of_ble_eq_true rfl) (fun _ _ _ h => h.elim) (fun r w1 ad1 hp => ?_)
        obtain ⟨rfl, rfl, rfl⟩ := hp
        refine z_istore_n O dX8_sits_113 (by decide) ?_
        refine z_aload_n O dX8_sits_114 rfl ?_
        refine z_get O (fk := 6) (fun x h => zI x (zu_RX8 x h)) rfl (by decide) (zI _ zm7_7) dX8_sits_115 (zg_model) rfl ?_
        refine z_iload_n O dX8_sits_118 rfl ?_
        refine z_iload_n O dX8_sits_119 rfl ?_
        refine z_iconst O dX8_sits_120 (v := 3) (by decide) ?_
        refine z_aload_n O dX8_sits_121 rfl ?_
        refine z_get O (fk := 1) (fun x h => zI x (zu_RX8 x h)) rfl (by decide) (zI _ zm7_11) dX8_sits_122 (zg_model) rfl ?_
        refine z_iload_n O dX8_sits_125 rfl ?_
        refine z_iald O dX8_sits_126 (zg_mI (i := 1) (n := 80) rfl rfl (by decide)) ((a * 10 + b)) (rfl) (hk) (by decide) ?_
        refine z_aload_n O dX8_sits_127 rfl ?_
        refine z_get O (fk := 4) (fun x h => zI x (zu_RX8 x h)) rfl (by decide) (zI _ zm7_6) dX8_sits_128 (zg_model) rfl ?_
        refine z_iload_n O dX8_sits_131 rfl ?_
        refine z_iald O dX8_sits_132 (zg_mI (i := 4) (n := 80) rfl rfl (by decide)) ((a * 10 + b)) (rfl) (hk) (by decide) ?_
        refine z_bipush O dX8_sits_133 (v := 10) (by decide) ?_
        refine z_idiv O dX8_sits_135 (by decide) ?_
        refine z_iadd O dX8_sits_136 ?_
        refine z_imul O dX8_sits_137 ?_
        refine z_icmp_lt O dX8_sits_138 (tgt := 145) (by decide) (fun g => ?_) (fun g => ?_)
        · have g9 : fAround (mQuiet Y (a * 10 + b)) a b < 3 * (Y 1 (a * 10 + b) + Y 4 (a * 10 + b) / 10) := g
          refine z_iconst O dX8_sits_145 (v := 0) (by decide) ?_
          refine z_zast O dX8_sits_146 (zg_mZ (i := 6) (n := 80) rfl rfl (by decide)) ((a * 10 + b)) (rfl) (hk) (by decide) (zBol_0.1) (zp_mZ (i := 6) (n := 80) rfl rfl (by decide)) ?_
          refine z_aload_n O dX8_sits_147 rfl ?_
          refine z_get O (fk := 3) (fun x h => zI x (zu_RX8 x h)) rfl (by decide) (zI _ zm7_5) dX8_sits_148 (zg_model) rfl ?_
          refine z_iload_n O dX8_sits_151 rfl ?_
          refine z_aload_n O dX8_sits_152 rfl ?_
          refine z_get O (fk := 6) (fun x h => zI x (zu_RX8 x h)) rfl (by decide) (zI _ zm7_7) dX8_sits_153 (zg_model) rfl ?_
          refine z_iload_n O dX8_sits_156 rfl ?_
          refine z_zald O dX8_sits_157 (zg_mZ (i := 6) (n := 80) rfl rfl (by decide)) ((a * 10 + b)) (rfl) (hk) (by decide) ?_
          rw [zu_s]
          refine z_if_eq O dX8_sits_158 (tgt := 176) (by decide) (fun _ => ?_) (fun q => absurd rfl q)
          refine z_iconst O dX8_sits_176 (v := 0) (by decide) ?_
          refine z_aload_n O dX8_sits_177 rfl ?_
          refine z_get O (fk := 3) (fun x h => zI x (zu_RX8 x h)) rfl (by decide) (zI _ zm7_5) dX8_sits_178 (zg_model) rfl ?_
          refine z_iload_n O dX8_sits_181 rfl ?_
          refine z_iald O dX8_sits_182 (zg_mI (i := 3) (n := 80) rfl rfl (by decide)) ((a * 10 + b)) (rfl) (hk) (by decide) ?_
          refine z_iconst O dX8_sits_183 (v := 1) (by decide) ?_
          refine z_isub O dX8_sits_184 ?_
          refine z_callS O (c_X8_most hl) zI zm8_42 zm8_43 zm7_16 zm7_58 ⟨by decide +kernel, by decide +kernel, (show _ = some 2 by decide +kernel)⟩ ⟨Nat.le_of_ble_eq_true rfl, Nat.le_of_ble_eq_true rfl⟩ ⟨Nat.le_of_ble_eq_true rfl, Nat.le_of_ble_eq_true rfl⟩ dX8_sits_185 rfl (Nat.le_of_ble_eq_true rfl) (fun _ _ _ h => h.elim) (fun r w1 ad1 hp => ?_)
          obtain ⟨rfl, rfl, rfl⟩ := hp
          refine z_iast O dX8_sits_188 (zg_mI (i := 3) (n := 80) rfl rfl (by decide)) ((a * 10 + b)) (rfl) (hk) (by decide) (zp_mI (i := 3) (n := 80) rfl rfl (by decide)) ?_
          refine z_aload_n O dX8_sits_189 rfl ?_
          refine z_get O (fk := 4) (fun x h => zI x (zu_RX8 x h)) rfl (by decide) (zI _ zm7_6) dX8_sits_190 (zg_model) rfl ?_
          refine z_iload_n O dX8_sits_193 rfl ?_
          refine z_dup2_11 O dX8_sits_194 rfl rfl ?_
          refine z_iald O dX8_sits_195 (zg_mI (i := 4) (n := 80) rfl rfl (by decide)) ((a * 10 + b)) (rfl) (hk) (by decide) ?_
          refine z_aload_n O dX8_sits_196 rfl ?_
          refine z_get O (fk := 6) (fun x h => zI x (zu_RX8 x h)) rfl (by decide) (zI _ zm7_7) dX8_sits_197 (zg_model) rfl ?_
          refine z_iload_n O dX8_sits_200 rfl ?_
          refine z_zald O dX8_sits_201 (zg_mZ (i := 6) (n := 80) rfl rfl (by decide)) ((a * 10 + b)) (rfl) (hk) (by decide) ?_
          rw [show ∀ W v, zu (zu W 6 (a * 10 + b) 0) 3 (a * 10 + b) v 6 (a * 10 + b) = 0 from fun W v => by rw [zu_f (by decide), zu_s]]
          refine z_if_eq O dX8_sits_202 (tgt := 209) (by decide) (fun _ => ?_) (fun q => absurd rfl q)
          refine z_iconst O dX8_sits_209 (v := 0) (by decide) ?_
          refine z_iadd O dX8_sits_210 ?_
          refine z_iast O dX8_sits_211 (zg_mI (i := 4) (n := 80) rfl rfl (by decide)) ((a * 10 + b)) (rfl) (hk) (by decide) (zp_mI (i := 4) (n := 80) rfl rfl (by decide)) ?_
          exact z_vret O dX8_sits_212 (Nat.le_of_ble_eq_true rfl) (Nat.le_of_ble_eq_true rfl) (⟨rfl, by rw [show mSits Y (a * 10 + b) = _ from by unfold mSits; rw [if_neg hn, if_neg hn2, if_pos h112, hka, hkb, if_pos g9]]; try rfl, rfl⟩)
        · have g9 : ¬ fAround (mQuiet Y (a * 10 + b)) a b < 3 * (Y 1 (a * 10 + b) + Y 4 (a * 10 + b) / 10) := g
          refine z_iconst O dX8_sits_141 (v := 1) (by decide) ?_
          refine z_goto O dX8_sits_142 (tgt := 146) (by decide) ?_
          refine z_zast O dX8_sits_146 (zg_mZ (i := 6) (n := 80) rfl rfl (by decide)) ((a * 10 + b)) (rfl) (hk) (by decide) (zBol_1.1) (zp_mZ (i := 6) (n := 80) rfl rfl (by decide)) ?_
          refine z_aload_n O dX8_sits_147 rfl ?_
          refine z_get O (fk := 3) (fun x h => zI x (zu_RX8 x h)) rfl (by decide) (zI _ zm7_5) dX8_sits_148 (zg_model) rfl ?_
          refine z_iload_n O dX8_sits_151 rfl ?_
          refine z_aload_n O dX8_sits_152 rfl ?_
          refine z_get O (fk := 6) (fun x h => zI x (zu_RX8 x h)) rfl (by decide) (zI _ zm7_7) dX8_sits_153 (zg_model) rfl ?_
          refine z_iload_n O dX8_sits_156 rfl ?_
          refine z_zald O dX8_sits_157 (zg_mZ (i := 6) (n := 80) rfl rfl (by decide)) ((a * 10 + b)) (rfl) (hk) (by decide) ?_
          rw [zu_s]
          refine z_if_eq O dX8_sits_158 (tgt := 176) (by decide) (fun q => absurd q (by decide)) (fun _ => ?_)
          refine z_iconst O dX8_sits_161 (v := 1) (by decide) ?_
          refine z_bipush O dX8_sits_162 (v := 9) (by decide) ?_
          refine z_iload_n O dX8_sits_164 rfl ?_
          refine z_iconst O dX8_sits_165 (v := 4) (by decide) ?_
          refine z_idiv O dX8_sits_166 (by decide) ?_
          refine z_callS O (c_X8_least hl) zI zm8_44 zm8_45 zm7_16 zm7_57 ⟨by decide +kernel, by decide +kernel, (show _ = some 2 by decide +kernel)⟩ ⟨Nat.le_of_ble_eq_true rfl, Nat.le_of_ble_eq_true rfl⟩ ⟨Nat.le_of_ble_eq_true rfl, Nat.le_of_ble_eq_true rfl⟩ dX8_sits_167 rfl (Nat.le_of_ble_eq_true rfl) (fun _ _ _ h => h.elim) (fun r w1 ad1 hp => ?_)
          obtain ⟨rfl, rfl, rfl⟩ := hp
          refine z_callS O (c_X8_most hl) zI zm8_42 zm8_43 zm7_16 zm7_58 ⟨by decide +kernel, by decide +kernel, (show _ = some 2 by decide +kernel)⟩ ⟨Nat.le_of_ble_eq_true rfl, Nat.le_of_ble_eq_true rfl⟩ ⟨Nat.le_of_ble_eq_true rfl, Nat.le_of_ble_eq_true rfl⟩ dX8_sits_170 rfl (Nat.le_of_ble_eq_true rfl) (fun _ _ _ h => h.elim) (fun r w1 ad1 hp => ?_)
          obtain ⟨rfl, rfl, rfl⟩ := hp
          refine z_goto O dX8_sits_173 (tgt := 188) (by decide) ?_
          refine z_iast O dX8_sits_188 (zg_mI (i := 3) (n := 80) rfl rfl (by decide)) ((a * 10 + b)) (rfl) (hk) (by decide) (zp_mI (i := 3) (n := 80) rfl rfl (by decide)) ?_
          refine z_aload_n O dX8_sits_189 rfl ?_
          refine z_get O (fk := 4) (fun x h => zI x (zu_RX8 x h)) rfl (by decide) (zI _ zm7_6) dX8_sits_190 (zg_model) rfl ?_
          refine z_iload_n O dX8_sits_193 rfl ?_
          refine z_dup2_11 O dX8_sits_194 rfl rfl ?_
          refine z_iald O dX8_sits_195 (zg_mI (i := 4) (n := 80) rfl rfl (by decide)) ((a * 10 + b)) (rfl) (hk) (by decide) ?_
          refine z_aload_n O dX8_sits_196 rfl ?_
          refine z_get O (fk := 6) (fun x h => zI x (zu_RX8 x h)) rfl (by decide) (zI _ zm7_7) dX8_sits_197 (zg_model) rfl ?_
          refine z_iload_n O dX8_sits_200 rfl ?_
          refine z_zald O dX8_sits_201 (zg_mZ (i := 6) (n := 80) rfl rfl (by decide)) ((a * 10 + b)) (rfl) (hk) (by decide) ?_
          rw [show ∀ W v, zu (zu W 6 (a * 10 + b) 1) 3 (a * 10 + b) v 6 (a * 10 + b) = 1 from fun W v => by rw [zu_f (by decide), zu_s]]
          refine z_if_eq O dX8_sits_202 (tgt := 209) (by decide) (fun q => absurd q (by decide)) (fun _ => ?_)
          refine z_iconst O dX8_sits_205 (v := 1) (by decide) ?_
          refine z_goto O dX8_sits_206 (tgt := 210) (by decide) ?_
          refine z_iadd O dX8_sits_210 ?_
          refine z_iast O dX8_sits_211 (zg_mI (i := 4) (n := 80) rfl rfl (by decide)) ((a * 10 + b)) (rfl) (hk) (by decide) (zp_mI (i := 4) (n := 80) rfl rfl (by decide)) ?_
          exact z_vret O dX8_sits_212 (Nat.le_of_ble_eq_true rfl) (Nat.le_of_ble_eq_true rfl) (⟨rfl, by rw [show mSits Y (a * 10 + b) = _ from by unfold mSits; rw [if_neg hn, if_neg hn2, if_pos h112, hka, hkb, if_neg g9]]; try rfl, rfl⟩)
      · have hn3 : ¬ Y 0 (a * 10 + b) = 112 := g3
        exact z_vret O dX8_sits_107 (Nat.le_of_ble_eq_true rfl) (Nat.le_of_ble_eq_true rfl) (⟨rfl, by rw [show mSits Y (a * 10 + b) = _ from by unfold mSits; rw [if_neg hn, if_neg hn2, if_neg hn3]]; try rfl, rfl⟩)
    · have h114 : Y 0 (a * 10 + b) = 114 := g2
      refine z_aload_n O dX8_sits_52 rfl ?_
      refine z_get O (fk := 7) (fun x h => zI x (zu_RX8 x h)) rfl (by decide) (zI _ zm7_8) dX8_sits_53 (zg_model) rfl ?_
      refine z_iload_n O dX8_sits_56 rfl ?_
      refine z_aload_n O dX8_sits_57 rfl ?_
      refine z_iload_n O dX8_sits_58 rfl ?_
      refine z_callV O (c_X8_around hl hhq ha hb) zI zm8_50 zm8_51 zm8_52 zm7_16 zm8_46 ⟨rfl, by decide +kernel, by decide +kernel, (show _ = some 1 by decide +kernel)⟩ rfl (zg_model) ⟨Nat.le_of_ble_eq_true rfl, Nat.le_of_ble_eq_true rfl⟩ ⟨Nat.le_of_ble_eq_true rfl, Nat.le_of_ble_eq_true rfl⟩ dX8_sits_59 rfl (Nat.le_of_ble_eq_true rfl) (fun _ _ _ h => h.elim) (fun r w1 ad1 hp => ?_)
      obtain ⟨rfl, rfl, rfl⟩ := hp
      refine z_bipush O dX8_sits_62 (v := 12) (by decide) ?_
      refine z_icmp_lt O dX8_sits_64 (tgt := 71) (by decide) (fun g => ?_) (fun g => ?_)
      · refine z_iconst O dX8_sits_71 (v := 0) (by decide) ?_
        refine z_zast O dX8_sits_72 (zg_mZ (i := 7) (n := 80) rfl rfl (by decide)) ((a * 10 + b)) (rfl) (hk) (by decide) (zBol_0.1) (zp_mZ (i := 7) (n := 80) rfl rfl (by decide)) ?_
        refine z_aload_n O dX8_sits_73 rfl ?_
        refine z_dup O dX8_sits_74 rfl ?_
        refine z_get O (fk := 32) (fun x h => zI x (zu_RX8 x h)) rfl (by decide) (zI _ zm7_46) dX8_sits_75 (zg_model) rfl ?_
        refine z_aload_n O dX8_sits_78 rfl ?_
        refine z_get O (fk := 7) (fun x h => zI x (zu_RX8 x h)) rfl (by decide) (zI _ zm7_8) dX8_sits_79 (zg_model) rfl ?_
        refine z_iload_n O dX8_sits_82 rfl ?_
        refine z_zald O dX8_sits_83 (zg_mZ (i := 7) (n := 80) rfl rfl (by decide)) ((a * 10 + b)) (rfl) (hk) (by decide) ?_
        rw [zu_s]
        refine z_if_eq O dX8_sits_84 (tgt := 91) (by decide) (fun _ => ?_) (fun q => absurd rfl q)
        refine z_iconst O dX8_sits_91 (v := 0) (by decide) ?_
        refine z_iadd O dX8_sits_92 ?_
        refine z_put O (fk := 32) (fun x h => zI x (zu_RX8 x h)) tyX8 tyX8_ok nmX8 rfl (by decide) (zI _ zm7_46) rfl dX8_sits_93 rfl rfl (zg_model) (Nat.le_of_ble_eq_true rfl) (zp_model (F := 32) (by decide) rfl) ?_
        refine z_aload_n O dX8_sits_96 rfl ?_
        refine z_get O (fk := 0) (fun x h => zI x (zu_RX8 x h)) rfl (by decide) (zI _ zm7_10) dX8_sits_97 (zg_model) rfl ?_
        refine z_iload_n O dX8_sits_100 rfl ?_
        refine z_cald O dX8_sits_101 (zg_mC (i := 0) (n := 80) rfl rfl (by decide)) ((a * 10 + b)) (rfl) (hk) (by decide) ?_
        refine z_bipush O dX8_sits_102 (v := 112) (by decide) ?_
        refine z_icmp_eq O dX8_sits_104 (tgt := 108) (by decide) (fun g3 => ?_) (fun g3 => ?_)
        · exact absurd (h114.symm.trans (show Y 0 (a * 10 + b) = 112 from g3)) (by decide)
        · exact z_vret O dX8_sits_107 (Nat.le_of_ble_eq_true rfl) (Nat.le_of_ble_eq_true rfl) (⟨rfl, by rw [show mSits Y (a * 10 + b) = _ from by unfold mSits; rw [if_neg hn, if_pos h114, hka, hkb, if_pos g]]; try rfl, rfl⟩)
      · refine z_iconst O dX8_sits_67 (v := 1) (by decide) ?_
        refine z_goto O dX8_sits_68 (tgt := 72) (by decide) ?_
        refine z_zast O dX8_sits_72 (zg_mZ (i := 7) (n := 80) rfl rfl (by decide)) ((a * 10 + b)) (rfl) (hk) (by decide) (zBol_1.1) (zp_mZ (i := 7) (n := 80) rfl rfl (by decide)) ?_
        refine z_aload_n O dX8_sits_73 rfl ?_
        refine z_dup O dX8_sits_74 rfl ?_
        refine z_get O (fk := 32) (fun x h => zI x (zu_RX8 x h)) rfl (by decide) (zI _ zm7_46) dX8_sits_75 (zg_model) rfl ?_
        refine z_aload_n O dX8_sits_78 rfl ?_
        refine z_get O (fk := 7) (fun x h => zI x (zu_RX8 x h)) rfl (by decide) (zI _ zm7_8) dX8_sits_79 (zg_model) rfl ?_
        refine z_iload_n O dX8_sits_82 rfl ?_
        refine z_zald O dX8_sits_83 (zg_mZ (i := 7) (n := 80) rfl rfl (by decide)) ((a * 10 + b)) (rfl) (hk) (by decide) ?_
        rw [zu_s]
        refine z_if_eq O dX8_sits_84 (tgt := 91) (by decide) (fun q => absurd q (by decide)) (fun _ => ?_)
        refine z_iconst O dX8_sits_87 (v := 1) (by decide) ?_
        refine z_goto O dX8_sits_88 (tgt := 92) (by decide) ?_
        refine z_iadd O dX8_sits_92 ?_
        refine z_put O (fk := 32) (fun x h => zI x (zu_RX8 x h)) tyX8 tyX8_ok nmX8 rfl (by decide) (zI _ zm7_46) rfl dX8_sits_93 rfl rfl (zg_model) (Nat.le_of_ble_eq_true rfl) (zp_model (F := 32) (by decide) rfl) ?_
        refine z_aload_n O dX8_sits_96 rfl ?_
        refine z_get O (fk := 0) (fun x h => zI x (zu_RX8 x h)) rfl (by decide) (zI _ zm7_10) dX8_sits_97 (zg_model) rfl ?_
        refine z_iload_n O dX8_sits_100 rfl ?_
        refine z_cald O dX8_sits_101 (zg_mC (i := 0) (n := 80) rfl rfl (by decide)) ((a * 10 + b)) (rfl) (hk) (by decide) ?_
        refine z_bipush O dX8_sits_102 (v := 112) (by decide) ?_
        refine z_icmp_eq O dX8_sits_104 (tgt := 108) (by decide) (fun g3 => ?_) (fun g3 => ?_)
        · exact absurd (h114.symm.trans (show Y 0 (a * 10 + b) = 112 from g3)) (by decide)
        · exact z_vret O dX8_sits_107 (Nat.le_of_ble_eq_true rfl) (Nat.le_of_ble_eq_true rfl) (⟨rfl, by rw [show mSits Y (a * 10 + b) = _ from by unfold mSits; rw [if_neg hn, if_pos h114, hka, hkb, if_neg g]]; try rfl, rfl⟩)
  · have h104 : Y 0 (a * 10 + b) = 104 := h
    obtain ⟨j, hj, hz⟩ := hhand h104
    have hcl : (Y 2 (a * 10 + b)).toNatClampNeg = j := by rw [hz]; exact nI_clamp (by omega)
    refine z_aload_n O dX8_sits_25 rfl ?_
    refine z_get O (fk := 3) (fun x h => zI x (zu_RX8 x h)) rfl (by decide) (zI _ zm7_5) dX8_sits_26 (zg_model) rfl ?_
    refine z_iload_n O dX8_sits_29 rfl ?_
    refine z_aload_n O dX8_sits_30 rfl ?_
    refine z_aload_n O dX8_sits_31 rfl ?_
    refine z_get O (fk := 2) (fun x h => zI x (zu_RX8 x h)) rfl (by decide) (zI _ zm7_12) dX8_sits_32 (zg_model) rfl ?_
    refine z_iload_n O dX8_sits_35 rfl ?_
    refine z_iald O dX8_sits_36 (zg_mI (i := 2) (n := 80) rfl rfl (by decide)) ((a * 10 + b)) (rfl) (hk) (by decide) ?_
    rw [show zu (zu Y 6 (a * 10 + b) 0) 7 (a * 10 + b) 0 2 (a * 10 + b) = nI j from hz]
    refine z_callV O (c_X8_handNoise hl (Y := (mQuiet Y (a * 10 + b))) hc hj) zI zm8_47 zm8_48 zm8_49 zm7_16 zm8_41 ⟨rfl, by decide +kernel, by decide +kernel, (show _ = some 1 by decide +kernel)⟩ rfl (zg_model) ⟨Nat.le_of_ble_eq_true rfl, Nat.le_of_ble_eq_true rfl⟩ ⟨Nat.le_of_ble_eq_true rfl, Nat.le_of_ble_eq_true rfl⟩ dX8_sits_37 rfl (Nat.le_of_ble_eq_true rfl) (fun _ _ _ h => h.elim) (fun r w1 ad1 hp => ?_)
    obtain ⟨rfl, rfl, rfl⟩ := hp
    refine z_iast O dX8_sits_40 (zg_mI (i := 3) (n := 80) rfl rfl (by decide)) ((a * 10 + b)) (rfl) (hk) (by decide) (zp_mI (i := 3) (n := 80) rfl rfl (by decide)) ?_
    refine z_aload_n O dX8_sits_41 rfl ?_
    refine z_get O (fk := 0) (fun x h => zI x (zu_RX8 x h)) rfl (by decide) (zI _ zm7_10) dX8_sits_42 (zg_model) rfl ?_
    refine z_iload_n O dX8_sits_45 rfl ?_
    refine z_cald O dX8_sits_46 (zg_mC (i := 0) (n := 80) rfl rfl (by decide)) ((a * 10 + b)) (rfl) (hk) (by decide) ?_
    refine z_bipush O dX8_sits_47 (v := 114) (by decide) ?_
    refine z_icmp_ne O dX8_sits_49 (tgt := 96) (by decide) (fun g2 => ?_) (fun g2 => ?_)
    · refine z_aload_n O dX8_sits_96 rfl ?_
      refine z_get O (fk := 0) (fun x h => zI x (zu_RX8 x h)) rfl (by decide) (zI _ zm7_10) dX8_sits_97 (zg_model) rfl ?_
      refine z_iload_n O dX8_sits_100 rfl ?_
      refine z_cald O dX8_sits_101 (zg_mC (i := 0) (n := 80) rfl rfl (by decide)) ((a * 10 + b)) (rfl) (hk) (by decide) ?_
      refine z_bipush O dX8_sits_102 (v := 112) (by decide) ?_
      refine z_icmp_eq O dX8_sits_104 (tgt := 108) (by decide) (fun g3 => ?_) (fun g3 => ?_)
      · exact absurd (h104.symm.trans (show Y 0 (a * 10 + b) = 112 from g3)) (by decide)
      · exact z_vret O dX8_sits_107 (Nat.le_of_ble_eq_true rfl) (Nat.le_of_ble_eq_true rfl) (⟨rfl, by rw [show mSits Y (a * 10 + b) = _ from by unfold mSits; rw [if_pos h104, hcl]]; try rfl, rfl⟩)
    · exact absurd (h104.symm.trans (show Y 0 (a * 10 + b) = 114 from g2)) (by decide)

def mCall (Y : zM) : zM := match fLast Y (zN Y 2) with
  | none => zu Y 31 0 (Y 31 0 + 1)
  | some c => zu (zu Y 31 0 (Y 31 0 + 1)) 18 (Y 19 c).toNatClampNeg (Y 18 (Y 19 c).toNatClampNeg + 1)
def mBestN (q : Option Nat) : Int32 := match q with | none => -1 | some b => nI b
theorem mBest_s {Y : zM} {n b : Nat} (h : fLast Y n = some b) : b < n := fLast_lt h
theorem nI_ne_m1 : ∀ n, n < 5000 → ¬ nI n = -1 := by
  intro n hn q
  have h := nI_pos' (n := n) (by omega)
  rw [q] at h
  exact absurd h (by decide)
set_option maxRecDepth 100000 in
set_option maxHeartbeats 4000000 in
theorem c_X8_calling {G : zG} {l : Launch} (hl : l.stackTraces = false) {Z : zM} {sb : Nat → Option Nat} {mcn : Nat → Int32} {cp : Nat → Nat} {Y : zM} {th : Int32} {o : Nat → Int64} {od : Nat → UInt64} {ad : Nat → Nat} (hc : zCnt Y 2) (hs : ∀ c, c < zN Y 2 → Y 19 c = nI (Y 19 c).toNatClampNeg ∧ (Y 19 c).toNatClampNeg < 6) : zCt G l yX8_calling (zws yX8_calling cX8_calling 3 none) ({ frames := 0, cells := 0, slots := 0, locals := 0 }) [.ref (ad 300)] (zent Z sb mcn cp G.2.2.2.1 Y th o od ad) ad (fun r w1 ad1 => none = r ∧ zent Z sb mcn cp G.2.2.2.1 (mCall Y) th o od ad = w1 ∧ ad = ad1) (zNoX) := by
  refine z_body hl (by decide +kernel) (Nat.le_of_ble_eq_true rfl) (fun X O => ?_)
  have L : ∀ (n : Nat) (i : Nat), i ≤ zN Y 2 → zN Y 2 < i + n → zV G X 3 0 0 4 [(0, .ref (ad 300)), (1, .int (mBestN (fLast Y i))), (2, .int (nI i))] [] (zent Z sb mcn cp G.2.2.2.1 Y th o od ad) ad := by
    intro n
    induction n with
    | zero => intro i h1 h2; omega
    | succ n ih =>
      intro i h1 h2
      refine z_iload_n O dX8_calling_4 rfl ?_
      refine z_aload_n O dX8_calling_5 rfl ?_
      refine z_get O (fk := 27) (v := .int (nI (zN Y 2))) (fun x h => zI x (zu_RX8 x h)) rfl (by decide) (zI _ zm7_41) dX8_calling_6 (zg_model) (by show some (Value.int (Y (25 + 2) 0)) = _; rw [hc.1]) ?_
      refine z_icmp_ge O dX8_calling_9 (tgt := 53) (by decide) (fun h => ?_) (fun h => ?_)
      · have hi : i = zN Y 2 := by have := z_ge_ge (by have := hc.2; omega) (by have := hc.2; omega) h; omega
        subst hi
        refine z_aload_n O dX8_calling_53 rfl ?_
        refine z_dup O dX8_calling_54 rfl ?_
        refine z_get O (fk := 31) (fun x h => zI x (zu_RX8 x h)) rfl (by decide) (zI _ zm7_45) dX8_calling_55 (zg_model) rfl ?_
        refine z_iconst O dX8_calling_58 (v := 1) (by decide) ?_
        refine z_iadd O dX8_calling_59 ?_
        refine z_put O (fk := 31) (fun x h => zI x (zu_RX8 x h)) tyX8 tyX8_ok nmX8 rfl (by decide) (zI _ zm7_45) rfl dX8_calling_60 rfl rfl (zg_model) (Nat.le_of_ble_eq_true rfl) (zp_model (F := 31) (by decide) rfl) ?_
        cases hz : fLast Y (zN Y 2) with
        | none =>
          refine z_iload_n O dX8_calling_63 rfl ?_
          refine z_iconst O dX8_calling_64 (v := (-1)) (by decide) ?_
          refine z_icmp_eq O dX8_calling_65 (tgt := 83) (by decide) (fun _ => ?_) (fun q => absurd rfl q)
          exact z_vret O dX8_calling_83 (Nat.le_of_ble_eq_true rfl) (Nat.le_of_ble_eq_true rfl) (⟨rfl, by unfold mCall; rw [hz], rfl⟩)
        | some c =>
          have hc2 : c < zN Y 2 := fLast_lt hz
          have hc12 : c < 12 := by have := hc.2; omega
          obtain ⟨hs1, hs2⟩ := hs c hc2
          have hs3 := hs2
          refine z_iload_n O dX8_calling_63 rfl ?_
          refine z_iconst O dX8_calling_64 (v := (-1)) (by decide) ?_
          refine z_icmp_eq O dX8_calling_65 (tgt := 83) (by decide) (fun q => absurd q (nI_ne_m1 c (by omega))) (fun _ => ?_)
          refine z_aload_n O dX8_calling_68 rfl ?_
          refine z_get O (fk := 18) (fun x h => zI x (zu_RX8 x h)) rfl (by decide) (zI _ zm7_32) dX8_calling_69 (zg_model) rfl ?_
          refine z_aload_n O dX8_calling_72 rfl ?_
          refine z_get O (fk := 19) (fun x h => zI x (zu_RX8 x h)) rfl (by decide) (zI _ zm7_33) dX8_calling_73 (zg_model) rfl ?_
          refine z_iload_n O dX8_calling_76 rfl ?_
          refine z_iald O dX8_calling_77 (zg_mI (i := 19) (n := 12) rfl rfl (by decide)) (c) (rfl) (hc12) (by decide) ?_
          refine z_dup2_11 O dX8_calling_78 rfl rfl ?_
          refine z_iald O dX8_calling_79 (zg_mI (i := 18) (n := 6) rfl rfl (by decide)) ((Y 19 c).toNatClampNeg) (hs1) (by omega) (by decide) ?_
          refine z_iconst O dX8_calling_80 (v := 1) (by decide) ?_
          refine z_iadd O dX8_calling_81 ?_
          refine z_iast O dX8_calling_82 (zg_mI (i := 18) (n := 6) rfl rfl (by decide)) ((Y 19 c).toNatClampNeg) (hs1) (by omega) (by decide) (zp_mI (i := 18) (n := 6) rfl rfl (by decide)) ?_
          exact z_vret O dX8_calling_83 (Nat.le_of_ble_eq_true rfl) (Nat.le_of_ble_eq_true rfl) (⟨rfl, by unfold mCall; rw [hz]; rfl, rfl⟩)
      · have hi : i < zN Y 2 := z_ge_lt (by have := hc.2; omega) (by have := hc.2; omega) h
        have hi12 : i < 12 := by have := hc.2; omega
        refine z_aload_n O dX8_calling_12 rfl ?_
        refine z_get O (fk := 20) (fun x h => zI x (zu_RX8 x h)) rfl (by decide) (zI _ zm7_34) dX8_calling_13 (zg_model) rfl ?_
        refine z_iload_n O dX8_calling_16 rfl ?_
        refine z_iald O dX8_calling_17 (zg_mI (i := 20) (n := 12) rfl rfl (by decide)) (i) (rfl) (hi12) (by decide) ?_
        refine z_aload_n O dX8_calling_18 rfl ?_
        refine z_get O (fk := 29) (fun x h => zI x (zu_RX8 x h)) rfl (by decide) (zI _ zm7_43) dX8_calling_19 (zg_model) rfl ?_
        refine z_icmp_gt O dX8_calling_22 (tgt := 47) (by decide) (fun g => ?_) (fun g => ?_)
        · refine z_iincN O dX8_calling_47 (a := i) rfl (by decide) ?_
          refine z_goto O dX8_calling_50 (tgt := 4) (by decide) ?_
          exact zV.loc (ih (i + 1) (by omega) (by omega)) ⟨rfl, by rw [show fLast Y (i + 1) = fLast Y i from if_neg (Int32.not_le.mpr g)]; rfl, rfl, trivial⟩
        · have gl : Y 20 i ≤ Y 29 0 := Int32.not_lt.mp g
          cases hz : fLast Y i with
          | none =>
            have hz9 : fLast Y (i + 1) = some i := by show (if Y 20 i ≤ Y 29 0 then (match fLast Y i with | none => some i | some b => if Y 20 i < Y 20 b then some b else some i) else fLast Y i) = _; rw [if_pos gl, hz]
            refine z_iload_n O dX8_calling_25 rfl ?_
            refine z_iconst O dX8_calling_26 (v := (-1)) (by decide) ?_
            refine z_icmp_eq O dX8_calling_27 (tgt := 45) (by decide) (fun _ => ?_) (fun q => absurd rfl q)
            refine z_iload_n O dX8_calling_45 rfl ?_
            refine z_istore_n O dX8_calling_46 (by decide) ?_
            refine z_iincN O dX8_calling_47 (a := i) rfl (by decide) ?_
            refine z_goto O dX8_calling_50 (tgt := 4) (by decide) ?_
            exact zV.loc (ih (i + 1) (by omega) (by omega)) ⟨rfl, by rw [show fLast Y (i + 1) = some i from hz9]; rfl, rfl, trivial⟩
          | some b =>
            have hb := fLast_lt hz
            have hz9 : fLast Y (i + 1) = if Y 20 i < Y 20 b then some b else some i := by show (if Y 20 i ≤ Y 29 0 then (match fLast Y i with | none => some i | some b => if Y 20 i < Y 20 b then some b else some i) else fLast Y i) = _; rw [if_pos gl, hz]
            refine z_iload_n O dX8_calling_25 rfl ?_
            refine z_iconst O dX8_calling_26 (v := (-1)) (by decide) ?_
            refine z_icmp_eq O dX8_calling_27 (tgt := 45) (by decide) (fun q => absurd q (nI_ne_m1 b (by omega))) (fun _ => ?_)
            refine z_aload_n O dX8_calling_30 rfl ?_
            refine z_get O (fk := 20) (fun x h => zI x (zu_RX8 x h)) rfl (by decide) (zI _ zm7_34) dX8_calling_31 (zg_model) rfl ?_
            refine z_iload_n O dX8_calling_34 rfl ?_
            refine z_iald O dX8_calling_35 (zg_mI (i := 20) (n := 12) rfl rfl (by decide)) (i) (rfl) (hi12) (by decide) ?_
            refine z_aload_n O dX8_calling_36 rfl ?_
            refine z_get O (fk := 20) (fun x h => zI x (zu_RX8 x h)) rfl (by decide) (zI _ zm7_34) dX8_calling_37 (zg_model) rfl ?_
            refine z_iload_n O dX8_calling_40 rfl ?_
            refine z_iald O dX8_calling_41 (zg_mI (i := 20) (n := 12) rfl rfl (by decide)) (b) (rfl) (by omega) (by decide) ?_
            refine z_icmp_lt O dX8_calling_42 (tgt := 47) (by decide) (fun g2 => ?_) (fun g2 => ?_)
            · refine z_iincN O dX8_calling_47 (a := i) rfl (by decide) ?_
              refine z_goto O dX8_calling_50 (tgt := 4) (by decide) ?_
              exact zV.loc (ih (i + 1) (by omega) (by omega)) ⟨rfl, by rw [show fLast Y (i + 1) = some b from hz9.trans (if_pos g2)]; rfl, rfl, trivial⟩
            · refine z_iload_n O dX8_calling_45 rfl ?_
              refine z_istore_n O dX8_calling_46 (by decide) ?_
              refine z_iincN O dX8_calling_47 (a := i) rfl (by decide) ?_
              refine z_goto O dX8_calling_50 (tgt := 4) (by decide) ?_
              exact zV.loc (ih (i + 1) (by omega) (by omega)) ⟨rfl, by rw [show fLast Y (i + 1) = some i from hz9.trans (if_neg g2)]; rfl, rfl, trivial⟩
  refine z_iconst O dX8_calling_0 (v := (-1)) (by decide) ?_
  refine z_istore_n O dX8_calling_1 (by decide) ?_
  refine z_iconst O dX8_calling_2 (v := 0) (by decide) ?_
  refine z_istore_n O dX8_calling_3 (by decide) ?_
  exact zV.loc (L (zN Y 2 + 1) 0 (by omega) (by omega)) ⟨rfl, rfl, rfl, trivial⟩
