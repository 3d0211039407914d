/-! ===== the law's cases of figures ===== -/
set_option maxRecDepth 100000 in
set_option maxHeartbeats 4000000 in
theorem z_tailF {G : zG} {l : Launch} {et : List ExceptionTableEntry} {ini : Prop} {X : zXT} {kc ks : Nat} {ad : Nat → Nat} {b i : Nat} (O : zLaw G l et ini X) (hl : l.stackTraces = false) {Z : zM} {sb : Nat → Option Nat} {mcn : Nat → Int32} {cp : Nat → Nat} {Y : zM} {th : Int32} {o : Nat → Int64} {od : Nat → UInt64} {kv : Int32} {v : UInt32} (hkc : kc ≤ 603072) (hks : ks ≤ 7219306) (hth : th = kv) (hv : kv = 0 → od 0 = FP.f2d v ∧ vf_n64 (FP.f2d v) ∧ FP.dcmp (FP.f2d v) (FP.f2d v) = some .eq)
    (k : zV G X 9 kc ks 1924 (zB b i ad) [] (zent Z sb mcn cp G.2.2.2.1 Y th o od ad) ad) : zV G X 9 kc ks 1792 ((6, .int kv) :: zB b i ad) [.float v] (zent Z sb mcn cp G.2.2.2.1 Y th o od ad) ad := by
  refine z_fstore O dL_law_1792 (by decide) ?_
  refine z_aload_n O dL_law_1794 rfl ?_
  refine z_callV0 O (c_X8_thrown hl) zIA zm11_30 zm11_31 zm11_32 zm7_16 zm7_55 ⟨rfl, by decide +kernel, by decide +kernel, (show _ = some 0 by decide +kernel)⟩ rfl zg_model ⟨Nat.le_of_ble_eq_true rfl, Nat.le_of_ble_eq_true rfl⟩ ⟨rfl, rfl⟩ ⟨hkc, hks⟩ dL_law_1795 rfl (Nat.le_of_ble_eq_true rfl) (fun r w1 ad1 hp => ?_)
  obtain ⟨rfl, rfl, rfl⟩ := hp
  refine z_iload O dL_law_1798 rfl ?_
  refine z_icmp_eq O dL_law_1800 (tgt := 1805) (by decide) (fun _ => ?_) (fun q => absurd hth q)
  refine z_iload O dL_law_1805 rfl ?_
  have hgo : zV G X 9 kc ks 1843 ((7, .float v) :: (6, .int kv) :: zB b i ad) [] (zent Z sb mcn cp G.2.2.2.1 Y th o od ad) ad := by
    refine z_goto O dL_law_1843 (tgt := 1924) (by decide) ?_
    exact zV.loc k ⟨rfl, rfl, rfl, rfl, rfl, rfl, trivial⟩
  refine z_if_ne O dL_law_1807 (tgt := 1843) (by decide) (fun _ => ?_) (fun h0 => ?_)
  · exact zV.loc hgo ⟨rfl, rfl, rfl, rfl, rfl, rfl, rfl, rfl, trivial⟩
  · have hv0 := hv h0
    refine z_aload O dL_law_1810 rfl ?_
    refine z_iconst O dL_law_1812 (v := 0) (by decide) ?_
    refine z_dald O dL_law_1813 zg_outD 0 rfl (by decide) (by decide) ?_
    rw [hv0.1]
    refine z_fload O dL_law_1814 rfl ?_
    refine z_f2d O dL_law_1816 hv0.2.1 ?_
    refine z_dcmp O dL_law_1817 ?_
    rw [hv0.2.2]
    refine z_if_eq O dL_law_1818 (tgt := 1843) (by decide) (fun _ => ?_) (fun q => absurd rfl q)
    exact zV.loc hgo ⟨rfl, rfl, rfl, rfl, rfl, rfl, rfl, rfl, trivial⟩

set_option maxRecDepth 100000 in
set_option maxHeartbeats 4000000 in
theorem z_tailD {G : zG} {l : Launch} {et : List ExceptionTableEntry} {ini : Prop} {X : zXT} {kc ks : Nat} {ad : Nat → Nat} {b i : Nat} (O : zLaw G l et ini X) (hl : l.stackTraces = false) {Z : zM} {sb : Nat → Option Nat} {mcn : Nat → Int32} {cp : Nat → Nat} {Y : zM} {th : Int32} {o : Nat → Int64} {od : Nat → UInt64} {kv : Int32} {v : UInt64} (hkc : kc ≤ 603072) (hks : ks ≤ 7219306) (hth : th = kv) (hv : kv = 0 → od 0 = v)
    (k : zV G X 9 kc ks 1924 (zB b i ad) [] (zent Z sb mcn cp G.2.2.2.1 Y th o od ad) ad) : zV G X 9 kc ks 1858 ((6, .int kv) :: zB b i ad) [.double v] (zent Z sb mcn cp G.2.2.2.1 Y th o od ad) ad := by
  refine z_dstore O dL_law_1858 (by decide) ?_
  refine z_aload_n O dL_law_1860 rfl ?_
  refine z_callV0 O (c_X8_thrown hl) zIA zm11_30 zm11_31 zm11_32 zm7_16 zm7_55 ⟨rfl, by decide +kernel, by decide +kernel, (show _ = some 0 by decide +kernel)⟩ rfl zg_model ⟨Nat.le_of_ble_eq_true rfl, Nat.le_of_ble_eq_true rfl⟩ ⟨rfl, rfl⟩ ⟨hkc, hks⟩ dL_law_1861 rfl (Nat.le_of_ble_eq_true rfl) (fun r w1 ad1 hp => ?_)
  obtain ⟨rfl, rfl, rfl⟩ := hp
  refine z_iload O dL_law_1864 rfl ?_
  refine z_icmp_eq O dL_law_1866 (tgt := 1871) (by decide) (fun _ => ?_) (fun q => absurd hth q)
  refine z_iload O dL_law_1871 rfl ?_
  have hgo : zV G X 9 kc ks 1908 ((7, .double v) :: (6, .int kv) :: zB b i ad) [] (zent Z sb mcn cp G.2.2.2.1 Y th o od ad) ad := by
    refine z_goto O dL_law_1908 (tgt := 1924) (by decide) ?_
    exact zV.loc k ⟨rfl, rfl, rfl, rfl, rfl, rfl, trivial⟩
  refine z_if_ne O dL_law_1873 (tgt := 1908) (by decide) (fun _ => ?_) (fun h0 => ?_)
  · exact zV.loc hgo ⟨rfl, rfl, rfl, rfl, rfl, rfl, rfl, rfl, trivial⟩
  · have hv0 := hv h0
    refine z_aload O dL_law_1876 rfl ?_
    refine z_iconst O dL_law_1878 (v := 0) (by decide) ?_
    refine z_dald O dL_law_1879 zg_outD 0 rfl (by decide) (by decide) ?_
    rw [hv0]
    refine z_dload O dL_law_1880 rfl ?_
    refine z_dcmp O dL_law_1882 ?_
    refine z_if_eq O dL_law_1883 (tgt := 1908) (by decide) (fun _ => ?_) (fun q => ?_)
    · exact zV.loc hgo ⟨rfl, rfl, rfl, rfl, rfl, rfl, rfl, rfl, trivial⟩
    · refine z_aload O dL_law_1886 rfl ?_
      refine z_iconst O dL_law_1888 (v := 0) (by decide) ?_
      refine z_dald O dL_law_1889 zg_outD 0 rfl (by decide) (by decide) ?_
      refine z_aload O dL_law_1890 rfl ?_
      refine z_iconst O dL_law_1892 (v := 0) (by decide) ?_
      refine z_dald O dL_law_1893 zg_outD 0 rfl (by decide) (by decide) ?_
      rw [hv0]
      refine z_dcmp O dL_law_1894 ?_
      refine z_if_eq O dL_law_1895 (tgt := 1906) (by decide) (fun q9 => absurd q9 q) (fun _ => ?_)
      refine z_dload O dL_law_1898 rfl ?_
      refine z_dload O dL_law_1900 rfl ?_
      refine z_dcmp O dL_law_1902 ?_
      refine z_if_ne O dL_law_1903 (tgt := 1908) (by decide) (fun _ => ?_) (fun q9 => absurd q9 q)
      exact zV.loc hgo ⟨rfl, rfl, rfl, rfl, rfl, rfl, rfl, rfl, trivial⟩

set_option maxRecDepth 100000 in
set_option maxHeartbeats 4000000 in
theorem law_31 {G : zG} {l : Launch} {et : List ExceptionTableEntry} {ini : Prop} {X : zXT} {kc ks b L i n : Nat} {xs : Nat → Int32} {Z : zM} {sb : Nat → Option Nat} {mcn : Nat → Int32} {cp : Nat → Nat} {th : Int32} {o : Nat → Int64} {od : Nat → UInt64} {ad : Nat → Nat} (O : zLaw G l et ini X) (hl : l.stackTraces = false) (S : zSld G X b L xs) (J : jJ n Z sb cp) (hn : n ≤ 511) (hi : i + 6 ≤ L) (hkc : kc + 9 ≤ 603072) (hks : ks + 60 ≤ 7219306) (kk : zKK G X kc ks b i n) : zV G X 9 kc ks 1780 (zB b i ad) [] (zent Z sb mcn cp G.2.2.2.1 Z th o od ad) ad := by
  refine z_aload_n O dL_law_1780 rfl ?_
  refine z_aload O dL_law_1781 rfl ?_
  refine z_callSH (kc' := kc + 9) (ks' := ks + 60) O (c_L_joiningShare hl (fun q => (fJs_ok Z q).1) (fun q => (fJs_ok Z (kJoin_0 q)).2)) zIA zm13_52 zm13_53 zm11_26 zm11_5 ⟨by decide +kernel, by decide +kernel, (show _ = some 2 by decide +kernel)⟩ ⟨(Nat.le_of_ble_eq_true rfl), (Nat.le_of_ble_eq_true rfl)⟩ ⟨by show kc + 1 ≤ kc + 9; omega, by show ks + 6 ≤ ks + 60; omega⟩ ⟨hkc, hks⟩ dL_law_1783 rfl (Nat.le_of_ble_eq_true rfl) (fun r w1 ad1 hp => ?_)
  rcases hp with ⟨h0, rfl, rfl, rfl⟩ | ⟨h0, rfl, rfl, rfl⟩
  · refine z_istore O dL_law_1786 (by decide) ?_
    refine z_aload_n O dL_law_1788 rfl ?_
    refine z_callV0 O (c_X8_joiningShare hl (fun q => (fJs_ok Z q).1)) zIA zm13_54 zm13_55 zm13_56 zm7_16 zm9_43 ⟨rfl, by decide +kernel, by decide +kernel, (show _ = some 0 by decide +kernel)⟩ rfl zg_model ⟨(Nat.le_of_ble_eq_true rfl), (Nat.le_of_ble_eq_true rfl)⟩ ⟨rfl, rfl⟩ ⟨hkc, hks⟩ dL_law_1789 rfl (Nat.le_of_ble_eq_true rfl) (fun r w2 ad2 hq => ?_)
    rcases hq with ⟨h1, rfl, rfl, rfl⟩ | ⟨h1, -⟩
    · exact z_tailF O hl hkc hks rfl (fun _ => ⟨zod_s, (fJs_ok Z (kJoin_0 h0)).2, fJs_cmp Z (kJoin_0 h0)⟩) (kk _ _ _ _ _ _ _ _ J.next)
    · exact absurd h0 h1
  · refine z_istore O dL_law_1786 (by decide) ?_
    refine z_aload_n O dL_law_1788 rfl ?_
    refine z_callV0 O (c_X8_joiningShare hl (fun q => (fJs_ok Z q).1)) zIA zm13_54 zm13_55 zm13_56 zm7_16 zm9_43 ⟨rfl, by decide +kernel, by decide +kernel, (show _ = some 0 by decide +kernel)⟩ rfl zg_model ⟨(Nat.le_of_ble_eq_true rfl), (Nat.le_of_ble_eq_true rfl)⟩ ⟨rfl, rfl⟩ ⟨hkc, hks⟩ dL_law_1789 rfl (Nat.le_of_ble_eq_true rfl) (fun r w2 ad2 hq => ?_)
    rcases hq with ⟨h1, -⟩ | ⟨h1, ⟨v9, rfl⟩, rfl, rfl⟩
    · exact absurd h1 h0
    · exact z_tailF O hl hkc hks rfl (fun z => nI_k h0 kb_Join z) (kk _ _ _ _ _ _ _ _ J.next)

set_option maxRecDepth 100000 in
set_option maxHeartbeats 4000000 in
theorem law_32 {G : zG} {l : Launch} {et : List ExceptionTableEntry} {ini : Prop} {X : zXT} {kc ks b L i n : Nat} {xs : Nat → Int32} {Z : zM} {sb : Nat → Option Nat} {mcn : Nat → Int32} {cp : Nat → Nat} {th : Int32} {o : Nat → Int64} {od : Nat → UInt64} {ad : Nat → Nat} (O : zLaw G l et ini X) (hl : l.stackTraces = false) (S : zSld G X b L xs) (J : jJ n Z sb cp) (hn : n ≤ 511) (hi : i + 6 ≤ L) (hkc : kc + 9 ≤ 603072) (hks : ks + 60 ≤ 7219306) (kk : zKK G X kc ks b i n) : zV G X 9 kc ks 1846 (zB b i ad) [] (zent Z sb mcn cp G.2.2.2.1 Z th o od ad) ad := by
  refine z_aload_n O dL_law_1846 rfl ?_
  refine z_aload O dL_law_1847 rfl ?_
  refine z_callSH (kc' := kc + 9) (ks' := ks + 60) O (c_L_meanNoise hl J.mean) zIA zm13_57 zm13_58 zm11_26 zm11_10 ⟨by decide +kernel, by decide +kernel, (show _ = some 2 by decide +kernel)⟩ ⟨(Nat.le_of_ble_eq_true rfl), (Nat.le_of_ble_eq_true rfl)⟩ ⟨by show kc + 1 ≤ kc + 9; omega, by show ks + 6 ≤ ks + 60; omega⟩ ⟨hkc, hks⟩ dL_law_1849 rfl (Nat.le_of_ble_eq_true rfl) (fun r w1 ad1 hp => ?_)
  rcases hp with ⟨h0, rfl, rfl, rfl⟩ | ⟨h0, rfl, rfl, rfl⟩
  · refine z_istore O dL_law_1852 (by decide) ?_
    refine z_aload_n O dL_law_1854 rfl ?_
    refine z_callV0 O (c_X8_meanNoise hl J.hz J.mean) zIA zm13_59 zm13_60 zm13_61 zm7_16 zm9_47 ⟨rfl, by decide +kernel, by decide +kernel, (show _ = some 0 by decide +kernel)⟩ rfl zg_model ⟨(Nat.le_of_ble_eq_true rfl), (Nat.le_of_ble_eq_true rfl)⟩ ⟨rfl, rfl⟩ ⟨hkc, hks⟩ dL_law_1855 rfl (Nat.le_of_ble_eq_true rfl) (fun r w2 ad2 hq => ?_)
    rcases hq with ⟨h1, rfl, rfl, rfl⟩ | ⟨h1, -⟩
    · exact z_tailD O hl hkc hks rfl (fun _ => zod_s) (kk _ _ _ _ _ _ _ _ J.next)
    · exact absurd h0 h1
  · refine z_istore O dL_law_1852 (by decide) ?_
    refine z_aload_n O dL_law_1854 rfl ?_
    refine z_callV0 O (c_X8_meanNoise hl J.hz J.mean) zIA zm13_59 zm13_60 zm13_61 zm7_16 zm9_47 ⟨rfl, by decide +kernel, by decide +kernel, (show _ = some 0 by decide +kernel)⟩ rfl zg_model ⟨(Nat.le_of_ble_eq_true rfl), (Nat.le_of_ble_eq_true rfl)⟩ ⟨rfl, rfl⟩ ⟨hkc, hks⟩ dL_law_1855 rfl (Nat.le_of_ble_eq_true rfl) (fun r w2 ad2 hq => ?_)
    rcases hq with ⟨h1, -⟩ | ⟨h1, ⟨v9, rfl⟩, rfl, rfl⟩
    · exact absurd h1 h0
    · exact z_tailD O hl hkc hks rfl (fun z => nI_k h0 kb_Mean z) (kk _ _ _ _ _ _ _ _ J.next)
