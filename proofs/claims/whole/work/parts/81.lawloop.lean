/-! ===== the law's loop ===== -/
theorem and63 (a : Int32) : ∃ m, m < 64 ∧ a &&& 63 = nI m := by
  refine ⟨(a.toBitVec &&& 63#32).toNat, ?_, ?_⟩
  · rw [BitVec.toNat_and]
    exact Nat.lt_of_le_of_lt Nat.and_le_right (by decide)
  · apply Int32.toBitVec_inj.mp
    show a.toBitVec &&& 63#32 = BitVec.ofNat 32 (a.toBitVec &&& 63#32).toNat
    rw [BitVec.ofNat_toNat, BitVec.setWidth_eq]
theorem nI_6 : ∀ m : Nat, m < 6 → nI m - 6 < 0 := by decide +kernel
theorem law_less {L i : Nat} (hL : L ≤ 3072) (hi : i ≤ 3072) (h : ¬ nI L - 6 < nI i) : i + 6 ≤ L := by
  rcases Nat.lt_or_ge L 6 with q | q
  · exact absurd (Int32.lt_of_lt_of_le (nI_6 L q) (nI_pos' (n := i) (by omega))) h
  · rw [show nI L - 6 = nI (L - 6) from nI_sub (b := 6) q] at h
    rcases Nat.lt_or_ge (L - 6) i with z | z
    · exact absurd (nI_lt z (by omega)) h
    · omega
theorem nI_i6 (i : Nat) : nI i + Int32.ofInt 6 = nI (i + 6) := nI_add i 6
set_option maxRecDepth 100000 in
set_option maxHeartbeats 4000000 in
theorem law_loop {G : zG} {l : Launch} {et : List ExceptionTableEntry} {ini : Prop} {X : zXT} {k0 s0 b L : Nat} {xs : Nat → Int32} (O : zLaw G l et ini X) (hl : l.stackTraces = false) (S : zSld G X b L xs) (SL : zSln G X b L) (hL : L ≤ 3072) (hk0 : k0 ≤ 200) (hs0 : s0 ≤ 3000) : ∀ (f n : Nat) (Z : zM) (sb : Nat → Option Nat) (mcn : Nat → Int32) (cp : Nat → Nat) (th : Int32) (o : Nat → Int64) (od : Nat → UInt64) (ad : Nat → Nat), n ≤ 512 → L ≤ 6 * n + f → jJ n Z sb cp → zV G X 9 (k0 + 9 * n) (s0 + 60 * n) 28 (zB b (6 * n) ad) [] (zent Z sb mcn cp G.2.2.2.1 Z th o od ad) ad := by
  intro f
  induction f with
  | zero =>
    intro n Z sb mcn cp th o od ad hn hf J
    refine z_iload O dL_law_28 rfl ?_
    refine z_aload_n O dL_law_30 rfl ?_
    refine SL _ _ _ _ _ _ _ dL_law_31 ?_
    refine z_bipush O dL_law_32 (v := 6) (by decide) ?_
    refine z_isub O dL_law_34 ?_
    refine z_icmp_gt O dL_law_35 (tgt := 1930) (by decide) (fun _ => ?_) (fun h => absurd (law_less hL (by omega) h) (by omega))
    refine z_iconst O dL_law_1930 (v := 1) (by decide) ?_
    exact z_zret O rfl rfl dL_law_1931 (by omega) (by omega) rfl
  | succ f ih =>
    intro n Z sb mcn cp th o od ad hn hf J
    refine z_iload O dL_law_28 rfl ?_
    refine z_aload_n O dL_law_30 rfl ?_
    refine SL _ _ _ _ _ _ _ dL_law_31 ?_
    refine z_bipush O dL_law_32 (v := 6) (by decide) ?_
    refine z_isub O dL_law_34 ?_
    refine z_icmp_gt O dL_law_35 (tgt := 1930) (by decide) (fun _ => ?_) (fun h => ?_)
    · refine z_iconst O dL_law_1930 (v := 1) (by decide) ?_
      exact z_zret O rfl rfl dL_law_1931 (by omega) (by omega) rfl
    · have hi := law_less hL (by omega) h
      have hn9 : n ≤ 511 := by omega
      have hkk : zKK G X (k0 + 9 * n) (s0 + 60 * n) b (6 * n) n := fun Z1 sb1 mcn1 cp1 th1 o1 od1 ad1 J1 => by
        refine z_iinc O dL_law_1924 rfl (nI_i6 (6 * n)) (by decide) ?_
        refine z_goto O dL_law_1927 (tgt := 28) (by decide) ?_
        exact zV.loc (ih (n + 1) Z1 sb1 mcn1 cp1 th1 o1 od1 ad1 (by omega) (by omega) J1) ⟨rfl, rfl, rfl, rfl, rfl, rfl, trivial⟩
      refine z_aload_n O dL_law_38 rfl ?_
      refine z_iload O dL_law_39 rfl ?_
      refine S _ _ _ _ _ _ _ (6 * n) dL_law_41 (by omega) ?_
      refine z_bipush O dL_law_42 (v := 63) (by decide) ?_
      refine z_iand O dL_law_44 ?_
      obtain ⟨m, hm, em⟩ := and63 (xs (6 * n))
      rw [em]
      rcases (show m = 0 ∨ m = 1 ∨ m = 2 ∨ m = 3 ∨ m = 4 ∨ m = 5 ∨ m = 6 ∨ m = 7 ∨ m = 8 ∨ m = 9 ∨ m = 10 ∨ m = 11 ∨ m = 12 ∨ m = 13 ∨ m = 14 ∨ m = 15 ∨ m = 16 ∨ m = 17 ∨ m = 18 ∨ m = 19 ∨ m = 20 ∨ m = 21 ∨ m = 22 ∨ m = 23 ∨ m = 24 ∨ m = 25 ∨ m = 26 ∨ m = 27 ∨ m = 28 ∨ m = 29 ∨ m = 30 ∨ m = 31 ∨ m = 32 ∨ m = 33 ∨ 34 ≤ m by omega) with rfl | rfl | rfl | rfl | rfl | rfl | rfl | rfl | rfl | rfl | rfl | rfl | rfl | rfl | rfl | rfl | rfl | rfl | rfl | rfl | rfl | rfl | rfl | rfl | rfl | rfl | rfl | rfl | rfl | rfl | rfl | rfl | rfl | rfl | hm2
      · exact z_tableIn O dL_law_45 (off := 151) (tgt := 196) (by decide +kernel) (by decide +kernel) (by decide +kernel) (by decide) (law_0 O hl S J hn9 hi (by omega) (by omega) hkk)
      · exact z_tableIn O dL_law_45 (off := 219) (tgt := 264) (by decide +kernel) (by decide +kernel) (by decide +kernel) (by decide) (law_1 O hl S J hn9 hi (by omega) (by omega) hkk)
      · exact z_tableIn O dL_law_45 (off := 299) (tgt := 344) (by decide +kernel) (by decide +kernel) (by decide +kernel) (by decide) (law_2 O hl S J hn9 hi (by omega) (by omega) hkk)
      · exact z_tableIn O dL_law_45 (off := 367) (tgt := 412) (by decide +kernel) (by decide +kernel) (by decide +kernel) (by decide) (law_3 O hl S J hn9 hi (by omega) (by omega) hkk)
      · exact z_tableIn O dL_law_45 (off := 447) (tgt := 492) (by decide +kernel) (by decide +kernel) (by decide +kernel) (by decide) (law_4 O hl S J hn9 hi (by omega) (by omega) hkk)
      · exact z_tableIn O dL_law_45 (off := 515) (tgt := 560) (by decide +kernel) (by decide +kernel) (by decide +kernel) (by decide) (law_5 O hl S J hn9 hi (by omega) (by omega) hkk)
      · exact z_tableIn O dL_law_45 (off := 583) (tgt := 628) (by decide +kernel) (by decide +kernel) (by decide +kernel) (by decide) (law_6 O hl S J hn9 hi (by omega) (by omega) hkk)
      · exact z_tableIn O dL_law_45 (off := 677) (tgt := 722) (by decide +kernel) (by decide +kernel) (by decide +kernel) (by decide) (law_7 O hl S J hn9 hi (by omega) (by omega) hkk)
      · exact z_tableIn O dL_law_45 (off := 740) (tgt := 785) (by decide +kernel) (by decide +kernel) (by decide +kernel) (by decide) (law_8 O hl S J hn9 hi (by omega) (by omega) hkk)
      · exact z_tableIn O dL_law_45 (off := 808) (tgt := 853) (by decide +kernel) (by decide +kernel) (by decide +kernel) (by decide) (law_9 O hl S J hn9 hi (by omega) (by omega) hkk)
      · exact z_tableIn O dL_law_45 (off := 914) (tgt := 959) (by decide +kernel) (by decide +kernel) (by decide +kernel) (by decide) (law_10 O hl S J hn9 hi (by omega) (by omega) hkk)
      · exact z_tableIn O dL_law_45 (off := 970) (tgt := 1015) (by decide +kernel) (by decide +kernel) (by decide +kernel) (by decide) (law_11 O hl S J hn9 hi (by omega) (by omega) hkk)
      · exact z_tableIn O dL_law_45 (off := 1026) (tgt := 1071) (by decide +kernel) (by decide +kernel) (by decide +kernel) (by decide) (law_12 O hl S J hn9 hi (by omega) (by omega) hkk)
      · exact z_tableIn O dL_law_45 (off := 1094) (tgt := 1139) (by decide +kernel) (by decide +kernel) (by decide +kernel) (by decide) (law_13 O hl S J hn9 hi (by omega) (by omega) hkk)
      · exact z_tableIn O dL_law_45 (off := 1107) (tgt := 1152) (by decide +kernel) (by decide +kernel) (by decide +kernel) (by decide) (law_14 O hl S J hn9 hi (by omega) (by omega) hkk)
      · exact z_tableIn O dL_law_45 (off := 1120) (tgt := 1165) (by decide +kernel) (by decide +kernel) (by decide +kernel) (by decide) (law_15 O hl S J hn9 hi (by omega) (by omega) hkk)
      · exact z_tableIn O dL_law_45 (off := 1133) (tgt := 1178) (by decide +kernel) (by decide +kernel) (by decide +kernel) (by decide) (law_16 O hl S J hn9 hi (by omega) (by omega) hkk)
      · exact z_tableIn O dL_law_45 (off := 1201) (tgt := 1246) (by decide +kernel) (by decide +kernel) (by decide +kernel) (by decide) (law_17 O hl S J hn9 hi (by omega) (by omega) hkk)
      · exact z_tableIn O dL_law_45 (off := 1257) (tgt := 1302) (by decide +kernel) (by decide +kernel) (by decide +kernel) (by decide) (law_18 O hl S J hn9 hi (by omega) (by omega) hkk)
      · exact z_tableIn O dL_law_45 (off := 1270) (tgt := 1315) (by decide +kernel) (by decide +kernel) (by decide +kernel) (by decide) (law_19 O hl S J hn9 hi (by omega) (by omega) hkk)
      · exact z_tableIn O dL_law_45 (off := 1283) (tgt := 1328) (by decide +kernel) (by decide +kernel) (by decide +kernel) (by decide) (law_20 O hl S J hn9 hi (by omega) (by omega) hkk)
      · exact z_tableIn O dL_law_45 (off := 1296) (tgt := 1341) (by decide +kernel) (by decide +kernel) (by decide +kernel) (by decide) (law_21 O hl S J hn9 hi (by omega) (by omega) hkk)
      · exact z_tableIn O dL_law_45 (off := 1340) (tgt := 1385) (by decide +kernel) (by decide +kernel) (by decide +kernel) (by decide) (law_22 O hl S J hn9 hi (by omega) (by omega) hkk)
      · exact z_tableIn O dL_law_45 (off := 1408) (tgt := 1453) (by decide +kernel) (by decide +kernel) (by decide +kernel) (by decide) (law_23 O hl S J hn9 hi (by omega) (by omega) hkk)
      · exact z_tableIn O dL_law_45 (off := 1464) (tgt := 1509) (by decide +kernel) (by decide +kernel) (by decide +kernel) (by decide) (law_24 O hl S J hn9 hi (by omega) (by omega) hkk)
      · exact z_tableIn O dL_law_45 (off := 1477) (tgt := 1522) (by decide +kernel) (by decide +kernel) (by decide +kernel) (by decide) (law_25 O hl S J hn9 hi (by omega) (by omega) hkk)
      · exact z_tableIn O dL_law_45 (off := 1521) (tgt := 1566) (by decide +kernel) (by decide +kernel) (by decide +kernel) (by decide) (law_26 O hl S J hn9 hi (by omega) (by omega) hkk)
      · exact z_tableIn O dL_law_45 (off := 1577) (tgt := 1622) (by decide +kernel) (by decide +kernel) (by decide +kernel) (by decide) (law_27 O hl S J hn9 hi (by omega) (by omega) hkk)
      · exact z_tableIn O dL_law_45 (off := 1590) (tgt := 1635) (by decide +kernel) (by decide +kernel) (by decide +kernel) (by decide) (law_28 O hl S J hn9 hi (by omega) (by omega) hkk)
      · exact z_tableIn O dL_law_45 (off := 1646) (tgt := 1691) (by decide +kernel) (by decide +kernel) (by decide +kernel) (by decide) (law_29 O hl S J hn9 hi (by omega) (by omega) hkk)
      · exact z_tableIn O dL_law_45 (off := 1721) (tgt := 1766) (by decide +kernel) (by decide +kernel) (by decide +kernel) (by decide) (law_30 O hl S J hn9 hi (by omega) (by omega) hkk)
      · exact z_tableIn O dL_law_45 (off := 1735) (tgt := 1780) (by decide +kernel) (by decide +kernel) (by decide +kernel) (by decide) (law_31 O hl S J hn9 hi (by omega) (by omega) hkk)
      · exact z_tableIn O dL_law_45 (off := 1801) (tgt := 1846) (by decide +kernel) (by decide +kernel) (by decide +kernel) (by decide) (law_32 O hl S J hn9 hi (by omega) (by omega) hkk)
      · exact z_tableIn O dL_law_45 (off := 1866) (tgt := 1911) (by decide +kernel) (by decide +kernel) (by decide +kernel) (by decide) (law_33 O hl S J hn9 hi (by omega) (by omega) hkk)
      · refine z_tableOut O dL_law_45 (tgt := 1924) (Or.inr (by rw [nI_toInt (by omega)]; omega)) (by decide) ?_
        exact z_widen O (by omega) (by omega) (hkk _ _ _ _ _ _ _ _ J.next)
