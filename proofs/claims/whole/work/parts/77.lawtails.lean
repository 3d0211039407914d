/-! ===== what the law's cases share ===== -/
theorem zo_s {o : Nat → Int64} {v : Int64} : vp_updL o 0 v 0 = v := by simp [vp_updL]
theorem zod_s {o : Nat → UInt64} {v : UInt64} : vf_upd o 0 v 0 = v := by simp [vf_upd]
theorem nI_k {k : Nat} {P : Prop} (h : k ≠ 0) (hb : k < 5) (h0 : nI k = 0) : P := absurd h0 (nI_ne0 (Nat.pos_of_ne_zero h) (by omega))
theorem zChr_i2c (x : Int32) : zChr (x.toUInt32 % 65536).toInt32 := ⟨pk_nc x, by have := fits_narrow_char (x.toUInt32 % 65536).toInt32; rw [pk_nc] at this; exact this⟩
theorem zB_ads {b i n1 n2 : Nat} {ad a2 : Nat → Nat} (h : zAds n1 n2 ad a2) (h1 : n1 < 300 ∧ n1 ≠ 0) (h2 : n2 < 300 ∧ n2 ≠ 0) : zB b i ad = zB b i a2 := by
  unfold zB
  rw [h 0 (by omega) (by omega), h 300 (by omega) (by omega), h 340 (by omega) (by omega), h 341 (by omega) (by omega)]
/-- where every case goes on -/
def zKK (G : zG) (X : zXT) (kc ks b i n : Nat) : Prop := ∀ (Z : zM) (sb : Nat → Option Nat) (mcn : Nat → Int32) (cp : Nat → Nat) (th : Int32) (o : Nat → Int64) (od : Nat → UInt64) (ad : Nat → Nat), jJ (n + 1) Z sb cp → zV G X 9 (kc + 9) (ks + 60) 1924 (zB b i ad) [] (zent Z sb mcn cp G.2.2.2.1 Z th o od ad) ad
theorem kSeat_0 {Z : zM} {x y : Int32} (h : kSeat Z x y = 0) : fPl Z x y ≠ none := by
  unfold kSeat at h
  intro q
  rw [if_pos q] at h
  exact k_ne h
theorem kPayer_0 {Z : zM} {x y t : Int32} (h : kPayer Z x y t = 0) : fPl Z x y ≠ none := by
  unfold kPayer at h
  intro q
  rw [if_pos q] at h
  exact k_ne h
theorem kMove_0 {Z : zM} {g x y : Int32} (h : kMove Z g x y = 0) : fI g (Z 25 0) ∧ fPl Z x y ≠ none := by
  unfold kMove at h
  by_cases h0 : fI g (Z 25 0)
  · rw [if_neg (not_not_intro h0)] at h
    refine ⟨h0, fun q => ?_⟩
    rw [if_pos q] at h
    exact k_ne h
  · rw [if_pos h0] at h; exact k_ne h
theorem kHand_0 {Z : zM} {g : Int32} (h : kHand Z g = 0) : fI g (Z 25 0) := by
  unfold kHand at h
  by_cases h0 : fI g (Z 25 0)
  · exact h0
  · rw [if_pos h0] at h; exact k_ne h
theorem kRun_0 {Z : zM} {x : Int32} (h : kRun Z x = 0) : x.toNatClampNeg ≤ 100 := by
  unfold kRun at h
  by_cases h0 : fR x 1 100
  · obtain ⟨m, -, h2, rfl⟩ := fR1_nat (b := 100) (by decide) h0
    rw [nI_clamp (by omega)]
    exact h2
  · rw [if_pos h0] at h; exact k_ne h
theorem kb_House {x y : Int32} : kHouse x y < 5 := by unfold kHouse; (repeat' split) <;> decide
theorem kb_Seat {Z : zM} {x y : Int32} : kSeat Z x y < 5 := by unfold kSeat; (repeat' split) <;> decide
theorem kb_Payer {Z : zM} {x y t : Int32} : kPayer Z x y t < 5 := by unfold kPayer; (repeat' split) <;> decide
theorem kb_Move {Z : zM} {x y t : Int32} : kMove Z x y t < 5 := by unfold kMove; (repeat' split) <;> decide
theorem kb_Hand {Z : zM} {x : Int32} : kHand Z x < 5 := by unfold kHand; (repeat' split) <;> decide
theorem kb_Sing {Z : zM} {x : Int32} : kSing Z x < 5 := by unfold kSing; (repeat' split) <;> decide
theorem kb_AddHand {Z : zM} {x s q p : Int32} : kAddHand Z x s q p < 5 := by unfold kAddHand; (repeat' split) <;> decide
theorem kb_AddSing {Z : zM} {x s : Int32} : kAddSing Z x s < 5 := by unfold kAddSing; (repeat' split) <;> decide
theorem kb_AddCue {Z : zM} {s x t f m : Int32} : kAddCue Z s x t f m < 5 := by unfold kAddCue; (repeat' split) <;> decide
theorem kb_Level {x : Int32} : kLevel x < 5 := by unfold kLevel; (repeat' split) <;> decide
theorem kb_Run {Z : zM} {x : Int32} : kRun Z x < 5 := by unfold kRun; (repeat' split) <;> decide
theorem kb_Tired {Z : zM} {x y : Int32} : kTired Z x y < 5 := by unfold kTired; (repeat' split) <;> decide
theorem kb_End {Z : zM} : kEnd Z < 5 := by unfold kEnd; (repeat' split) <;> decide
theorem kb_Pay {Z : zM} {x y : Int32} : kPay Z x y < 5 := by unfold kPay; (repeat' split) <;> decide
theorem kb_Share {Z : zM} : kShare Z < 5 := by unfold kShare; (repeat' split) <;> decide
theorem kb_Cost {Z : zM} {x : Int32} : kCost Z x < 5 := by unfold kCost; (repeat' split) <;> decide
theorem kb_Planned {Z : zM} {x y : Int32} : kPlanned Z x y < 5 := by unfold kPlanned; (repeat' split) <;> decide
theorem kb_Join {Z : zM} : kJoin Z < 5 := by unfold kJoin; (repeat' split) <;> decide
theorem kb_Mean {Z : zM} : kMean Z < 5 := by unfold kMean; (repeat' split) <;> decide
/-- the hand that moves, by its number on the stack -/
theorem mMove_h {Z : zM} {sb : Nat → Option Nat} {cp : Nat → Nat} (hL : zLst Z cp 0) (hsb : zSb Z sb) {g : Int32} (hI : fI g (Z 25 0)) (k : Nat) : g.toNatClampNeg < zN Z 0 ∧ zu (zu (mEmp (fIter (mOut g) Z 80) k) 0 k 104) 2 k g = fMove Z sb g.toNatClampNeg k ∧ fIter (mOut g) Z 80 = fMv1 Z sb g.toNatClampNeg ∧ mAny Z g 80 = (sb g.toNatClampNeg).isSome := by
  obtain ⟨j, rfl, hj⟩ := fI_nat (i := 0) hL hI
  have h12 := hL.2.2.2
  rw [nI_clamp (by omega)]
  exact ⟨hj, mMove_eq hsb hj (by omega) k, mOut_eq hsb hj (by omega), mAny_eq hsb hj (by omega)⟩
section ZLAW
variable {G : zG} {l : Launch} {et : List ExceptionTableEntry} {ini : Prop} {X : zXT} {kc ks pc : Nat} {lsv : List (Nat × Value)} {rest : List Value} {w : zH} {ad : Nat → Nat} {b L i : Nat} {xs : Nat → Int32}
/-- behind a yes or no -/
theorem z_tailZ (O : zLaw G l et ini X) (hl : l.stackTraces = false) {Z : zM} {sb : Nat → Option Nat} {mcn : Nat → Int32} {cp : Nat → Nat} {Y : zM} {th : Int32} {o : Nat → Int64} {od : Nat → UInt64} {kv v : Int32} {off : Int} (hkc : kc ≤ 603072) (hks : ks ≤ 7219306) (hth : th = kv) (hv : kv = 0 → o 0 = if v = 0 then 0 else 1)
    (d0 : decode cL_law pc = .ok (.istore 7, 2)) (d2 : decode cL_law (pc + 2) = .ok (.aload_n 2, 1)) (d3 : decode cL_law (pc + 3) = .ok (.invokevirtual 114, 3)) (d6 : decode cL_law (pc + 6) = .ok (.iload 6, 2)) (d8 : decode cL_law (pc + 8) = .ok (.if_icmp .eq 5, 3)) (d13 : decode cL_law (pc + 13) = .ok (.iload 6, 2)) (d15 : decode cL_law (pc + 15) = .ok (.ifCond .ne 22, 3)) (d18 : decode cL_law (pc + 18) = .ok (.aload_n 3, 1)) (d19 : decode cL_law (pc + 19) = .ok (.iconst 0, 1)) (d20 : decode cL_law (pc + 20) = .ok (.laload, 1)) (d21 : decode cL_law (pc + 21) = .ok (.iload 7, 2)) (d23 : decode cL_law (pc + 23) = .ok (.ifCond .eq 7, 3)) (d26 : decode cL_law (pc + 26) = .ok (.lconst 1, 1)) (d27 : decode cL_law (pc + 27) = .ok (.goto 4, 3)) (d30 : decode cL_law (pc + 30) = .ok (.lconst 0, 1)) (d31 : decode cL_law (pc + 31) = .ok (.lcmp, 1)) (d32 : decode cL_law (pc + 32) = .ok (.ifCond .eq 5, 3)) (d37 : decode cL_law (pc + 37) = .ok (.goto off, 3)) (ht : ((pc + 37 : Nat) : Int) + off = 1924)
    (k : zV G X 9 kc ks 1924 (zB b i ad) [] (zent Z sb mcn cp G.2.2.2.1 Y th o od ad) ad) : zV G X 9 kc ks pc ((6, .int kv) :: zB b i ad) [.int v] (zent Z sb mcn cp G.2.2.2.1 Y th o od ad) ad := by
  refine z_istore O d0 (by decide) ?_
  refine z_aload_n O d2 rfl ?_
  refine z_callV0 O (c_X8_thrown hl) zIA zm11_30 zm11_31 zm11_32 zm7_16 zm7_55 ⟨rfl, by decide +kernel, by decide +kernel, (show _ = some 0 by decide +kernel)⟩ rfl zg_model ⟨Nat.le_of_ble_eq_true rfl, Nat.le_of_ble_eq_true rfl⟩ ⟨rfl, rfl⟩ ⟨hkc, hks⟩ d3 rfl (Nat.le_of_ble_eq_true rfl) (fun r w1 ad1 hp => ?_)
  obtain ⟨rfl, rfl, rfl⟩ := hp
  refine z_iload O d6 rfl ?_
  refine z_icmp_eq O d8 (tgt := pc + 13) (by omega) (fun _ => ?_) (fun q => absurd hth q)
  refine z_iload O d13 rfl ?_
  have hgo : zV G X 9 kc ks (pc + 37) ((7, .int v) :: (6, .int kv) :: zB b i ad) [] (zent Z sb mcn cp G.2.2.2.1 Y th o od ad) ad := by
    refine z_goto O d37 (tgt := 1924) ht ?_
    exact zV.loc k ⟨rfl, rfl, rfl, rfl, rfl, rfl, trivial⟩
  refine z_if_ne O d15 (tgt := pc + 37) (by omega) (fun _ => ?_) (fun h0 => ?_)
  · exact zV.loc hgo ⟨rfl, rfl, rfl, rfl, rfl, rfl, rfl, rfl, trivial⟩
  · refine z_aload_n O d18 rfl ?_
    refine z_iconst O d19 (v := 0) (by decide) ?_
    refine z_lald O d20 zg_out 0 rfl (by decide) (by decide) ?_
    refine z_iload O d21 rfl ?_
    have hv0 := hv h0
    have hcm : ∀ u : Int64, o 0 = u → zV G X 9 kc ks (pc + 31) ((7, .int v) :: (6, .int kv) :: zB b i ad) [.long u, .long (o 0)] (zent Z sb mcn cp G.2.2.2.1 Y th o od ad) ad := fun u hu => by
      refine z_lcmp O d31 ?_
      exact z_if_eq O d32 (tgt := pc + 37) (by omega) (fun _ => hgo) (fun q => absurd ((lg_cmp_eq _ _).mpr hu) q)
    refine z_if_eq O d23 (tgt := pc + 30) (by omega) (fun hz => ?_) (fun hz => ?_)
    · rw [if_pos hz] at hv0
      refine z_lconst O d30 (v := 0) (by decide) ?_
      exact zV.loc (hcm 0 hv0) ⟨rfl, rfl, rfl, rfl, rfl, rfl, rfl, rfl, trivial⟩
    · rw [if_neg hz] at hv0
      refine z_lconst O d26 (v := 1) (by decide) ?_
      refine z_goto O d27 (tgt := pc + 31) (by omega) ?_
      exact zV.loc (hcm 1 hv0) ⟨rfl, rfl, rfl, rfl, rfl, rfl, rfl, rfl, trivial⟩
end ZLAW
