section ZNEST
variable {G : zG} {l : Launch} {own : String} {cc : ByteArray} {nL : Nat} {ret : Option FieldType} {ws : List Cond} {R : Room} {mc ms : Nat} {et : List ExceptionTableEntry} {PQ : Option Value → zH → (Nat → Nat) → Prop} {PX : String → zH → (Nat → Nat) → Prop} {ini : Prop} {X : zXT} {kc ks pc : Nat} {lsv : List (Nat × Value)} {rest st : List Value} {w : zH} {ad : Nat → Nat}
variable {y : MethodName} {bytes : ByteArray} {maxL : Nat} {rm : Room} {post : Option Value → zH → (Nat → Nat) → Prop} {As : List Value} {i idx : Nat}
/-- a nest mate's private constructor is called -/
theorem z_callIN (O : zOK G l own cc nL ret ws R mc ms et PQ PX ini X) (hC : zCt G l y (zws y bytes maxL none) rm (.ref (ad i) :: As) w ad post zNoX) (hws : ∀ x ∈ zAll, x ∈ ws) {host : String} (hm1 : (own, idx, y, host) ∈ zNst) (hm2 : Cond.instanceMethod y ∈ zAll) (hm4 : Cond.initialized y.cls ∈ zAll) (hm5 : Cond.code y bytes maxL none ∈ zAll) (hy1 : y.name = "<init>")
    (hd : y.cls ≠ "java/lang/invoke/MethodHandle" ∧ y.cls ≠ "java/lang/invoke/VarHandle" ∧ (parseMethodDescriptor y.desc).map (fun d => d.parameters.length) = some As.length) (hR : rm.frames + 1 ≤ R.frames ∧ 8 + (maxL + 11) + rm.locals ≤ R.locals) (hf : kc + rm.cells ≤ R.cells ∧ ks + rm.slots ≤ R.slots)
    (hdg : decode cc pc = .ok (.invokespecial idx, 3)) (hst : st = As.reverse ++ .ref (ad i) :: rest) (hcat : (rest.map fun v => v.category).sum ≤ 8)
    (kk : ∀ (r : Option Value) (w' : zH) (ad' : Nat → Nat), post r w' ad' → zV G X nL (kc + rm.cells) (ks + rm.slots) (pc + 3) lsv (r.toList ++ rest) w' ad') : zV G X nL kc ks pc lsv st w ad := by
  obtain ⟨p, e, s, m, args, below, meth, c, hx0, hb, hr, hts, hown, hlocks, hml, het, hini, hbase, hK, hSt, hfl, rfl⟩ := O
  intro H lsA hRp hL locs hS
  subst hst
  refine zRunM (va_runIN (As := As) (rest := rest) ⟨hx0, hb, hml, hown, hts⟩ (hC.met (fun _ _ _ h => h)) ⟨va_cnB As.length hts (zws_in (own := own) (pre := []) (fun _ h => nomatch h) hm5 hws) rfl rfl rfl (hSt.2.2.2.2.1 _ hm1) (hts _ (hws _ hm4)) hd hR, hy1, hts _ (hws _ hm2)⟩ ⟨zBlind, fun U hU hW => ⟨rfl, zWo_at hRp hbase hK hSt hS hU hW⟩⟩ rfl rfl hL.1 rfl (lv_room hcat) hdg hf) hS ?_
  exact fun r w' ad' hp H1 locs1 hR1 hS1 => kk r w' ad' hp H1 lsA hR1 hL locs1 hS1
end ZNEST
abbrev zS0 : List Value := [.int 0, .int 0, .null, .int 0, .int 0, .int 0, .int 0, .int 0, .int 0]
abbrev zS1 : List Value := [.int 46, .int 0, .null, .int 0, .int 0, .int 0, .int 0, .int 0, .int 0]
set_option maxRecDepth 100000 in
set_option maxHeartbeats 4000000 in
theorem c_X4_init {G : zG} {l : Launch} (hl : l.stackTraces = false) {w : zH} {ad : Nat → Nat} {a : Nat} (hw : w a = some (.inr (7, zS0))) : zCt G l yX4_init (zws yX4_init cX4_init 1 none) ({ frames := 1, cells := 0, slots := 0, locals := 20 }) [.ref (ad a)] (w) ad (fun r w1 ad1 => none = r ∧ wU w a (.inr (7, zS1)) = w1 ∧ ad = ad1) (zNoX) := by
  refine z_body hl (by decide +kernel) (Nat.le_of_ble_eq_true rfl) (fun X O => ?_)
  refine z_aload_n O dX4_init_0 rfl ?_
  refine z_objInit O zI zm2_49 zm0_2 zm0_3 dX4_init_1 (Nat.le_of_ble_eq_true rfl) (Nat.le_of_ble_eq_true rfl) ?_
  refine z_aload_n O dX4_init_4 rfl ?_
  refine z_bipush O dX4_init_5 (v := 46) (by decide) ?_
  refine z_put O (fk := 0) (fun x h => zI x (zu_RX4 x h)) tyX4 tyX4_ok nmX4 rfl (by decide) (zI _ zm2_50) rfl dX4_init_7 zChr_46.1 zChr_46.2 (hw) (Nat.le_of_ble_eq_true rfl) (wU_eq) ?_
  refine z_aload_n O dX4_init_10 rfl ?_
  refine z_iconst O dX4_init_11 (v := 0) (by decide) ?_
  refine z_put O (fk := 1) (fun x h => zI x (zu_RX4 x h)) tyX4 tyX4_ok nmX4 rfl (by decide) (zI _ zm1_7) rfl dX4_init_12 rfl rfl (wU_s) (Nat.le_of_ble_eq_true rfl) (wU_eq) ?_
  refine z_aload_n O dX4_init_15 rfl ?_
  refine z_null O dX4_init_16 ?_
  refine z_put O (fk := 2) (fun x h => zI x (zu_RX4 x h)) tyX4 tyX4_ok nmX4 rfl (by decide) (zI _ zm2_51) rfl dX4_init_17 rfl rfl (wU_s) (Nat.le_of_ble_eq_true rfl) (wU_eq) ?_
  refine z_aload_n O dX4_init_20 rfl ?_
  refine z_iconst O dX4_init_21 (v := 0) (by decide) ?_
  refine z_put O (fk := 3) (fun x h => zI x (zu_RX4 x h)) tyX4 tyX4_ok nmX4 rfl (by decide) (zI _ zm0_52) rfl dX4_init_22 rfl rfl (wU_s) (Nat.le_of_ble_eq_true rfl) (wU_eq) ?_
  refine z_aload_n O dX4_init_25 rfl ?_
  refine z_iconst O dX4_init_26 (v := 0) (by decide) ?_
  refine z_put O (fk := 4) (fun x h => zI x (zu_RX4 x h)) tyX4 tyX4_ok nmX4 rfl (by decide) (zI _ zm0_53) rfl dX4_init_27 rfl rfl (wU_s) (Nat.le_of_ble_eq_true rfl) (wU_eq) ?_
  refine z_aload_n O dX4_init_30 rfl ?_
  refine z_iconst O dX4_init_31 (v := 0) (by decide) ?_
  refine z_put O (fk := 5) (fun x h => zI x (zu_RX4 x h)) tyX4 tyX4_ok nmX4 rfl (by decide) (zI _ zm1_8) rfl dX4_init_32 zBol_0.1 zBol_0.2 (wU_s) (Nat.le_of_ble_eq_true rfl) (wU_eq) ?_
  refine z_aload_n O dX4_init_35 rfl ?_
  refine z_iconst O dX4_init_36 (v := 0) (by decide) ?_
  refine z_put O (fk := 6) (fun x h => zI x (zu_RX4 x h)) tyX4 tyX4_ok nmX4 rfl (by decide) (zI _ zm1_5) rfl dX4_init_37 rfl rfl (wU_s) (Nat.le_of_ble_eq_true rfl) (wU_eq) ?_
  refine z_aload_n O dX4_init_40 rfl ?_
  refine z_iconst O dX4_init_41 (v := 0) (by decide) ?_
  refine z_put O (fk := 7) (fun x h => zI x (zu_RX4 x h)) tyX4 tyX4_ok nmX4 rfl (by decide) (zI _ zm0_54) rfl dX4_init_42 zBol_0.1 zBol_0.2 (wU_s) (Nat.le_of_ble_eq_true rfl) (wU_eq) ?_
  refine z_aload_n O dX4_init_45 rfl ?_
  refine z_iconst O dX4_init_46 (v := 0) (by decide) ?_
  refine z_put O (fk := 8) (fun x h => zI x (zu_RX4 x h)) tyX4 tyX4_ok nmX4 rfl (by decide) (zI _ zm0_55) rfl dX4_init_47 zBol_0.1 zBol_0.2 (wU_s) (Nat.le_of_ble_eq_true rfl) (wU_eq) ?_
  exact z_vret O dX4_init_50 (Nat.le_of_ble_eq_true rfl) (Nat.le_of_ble_eq_true rfl) (⟨rfl, by simp only [wU_wU]; rfl, rfl⟩)

/-- the house while its seats are made -/
def zHb (w : zH) (ad : Nat → Nat) (i : Nat) : zH := fun j => if j = 1 then some (.inr (6, [.ref (ad 2), .int 0, .int 0])) else if j = 2 then some (.inl (5, (80, .inr (.inr (.inr (.inr (fun k => if k < i then some (ad (100 + k)) else none))))))) else if 100 ≤ j ∧ j < 100 + i then some (.inr (7, zS1)) else w j
theorem zHb_1 {w : zH} {ad : Nat → Nat} {i : Nat} : zHb w ad i 1 = some (.inr (6, [.ref (ad 2), .int 0, .int 0])) := rfl
theorem zHb_2 {w : zH} {ad : Nat → Nat} {i : Nat} : zHb w ad i 2 = some (.inl (5, (80, .inr (.inr (.inr (.inr (fun k => if k < i then some (ad (100 + k)) else none))))))) := rfl
theorem zHb_n {w : zH} {ad : Nat → Nat} {i j : Nat} (h1 : j ≠ 1) (h2 : j ≠ 2) (h3 : ¬ (100 ≤ j ∧ j < 100 + i)) : zHb w ad i j = w j := by
  unfold zHb
  rw [if_neg h1, if_neg h2, if_neg h3]
theorem zHb_ad {w : zH} {ad ad' : Nat → Nat} {i : Nat} (h : ∀ j, j ≠ 100 + i → ad' j = ad j) : zHb w ad' i = zHb w ad i := by
  unfold zHb
  rw [h 2 (by omega), show (fun k => if k < i then some (ad' (100 + k)) else none) = (fun k => if k < i then some (ad (100 + k)) else none) from funext fun k => by
    by_cases q : k < i
    · rw [if_pos q, if_pos q, h _ (by omega)]
    · rw [if_neg q, if_neg q]]
theorem zHb_s {w : zH} {ad : Nat → Nat} {i : Nat} (hi : i < 80) : ∀ j, zHb w ad (i + 1) j = if j = 2 then some (.inl (5, (80, .inr (.inr (.inr (.inr (va_up (fun k => if k < i then some (ad (100 + k)) else none) i (some (ad (100 + i))))))))) ) else wU (zHb w ad i) (100 + i) (.inr (7, zS1)) j := by
  intro j
  by_cases j2 : j = 2
  · subst j2
    rw [if_pos rfl, zHb_2, show (fun k => if k < i + 1 then some (ad (100 + k)) else none) = va_up (fun k => if k < i then some (ad (100 + k)) else none) i (some (ad (100 + i))) from funext fun k => by
      by_cases q : k = i
      · subst q; rw [zup_s, if_pos (by omega)]
      · rw [zup_n q]
        by_cases q2 : k < i
        · rw [if_pos q2, if_pos (by omega)]
        · rw [if_neg q2, if_neg (by omega)]]
  · rw [if_neg j2]
    by_cases j1 : j = 100 + i
    · subst j1
      rw [wU_s]
      unfold zHb
      rw [if_neg (by omega), if_neg (by omega), if_pos (by omega)]
    · rw [wU_n j1]
      by_cases jj : j = 1
      · subst jj; rfl
      unfold zHb
      rw [if_neg jj, if_neg j2, if_neg jj, if_neg j2]
      by_cases j3 : 100 ≤ j ∧ j < 100 + i
      · rw [if_pos j3, if_pos (by omega)]
      · rw [if_neg j3, if_neg (by omega)]
set_option maxRecDepth 100000 in
set_option maxHeartbeats 4000000 in
theorem c_X3_init {G : zG} {l : Launch} (hl : l.stackTraces = false) {w : zH} {ad : Nat → Nat} (hw1 : w 1 = some (.inr (6, [.null, .int 0, .int 0]))) (hw2 : w 2 = none) (hws : ∀ j, 100 ≤ j → j < 180 → w j = none) : zCt G l yX3_init (zws yX3_init cX3_init 2 none) ({ frames := 2, cells := 81, slots := 800, locals := 40 }) [.ref (ad 1)] (w) ad (fun r w1 ad1 => ∃ b, none = r ∧ zHb w b 80 = w1 ∧ b = ad1 ∧ ∀ j, ¬ (j = 2 ∨ (100 ≤ j ∧ j < 180)) → b j = ad j) (zNoX) := by
  refine z_body hl (by decide +kernel) (Nat.le_of_ble_eq_true rfl) (fun X O => ?_)
  refine z_aload_n O dX3_init_0 rfl ?_
  refine z_objInit O zI zm2_53 zm0_2 zm0_3 dX3_init_1 (Nat.le_of_ble_eq_true rfl) (Nat.le_of_ble_eq_true rfl) ?_
  refine z_aload_n O dX3_init_4 rfl ?_
  refine z_bipush O dX3_init_5 (v := 80) (by decide) ?_
  refine z_anew O (w' := fun _ => wU w 2 (.inl (5, (80, .inr (.inr (.inr (.inr (fun _ => none)))))))) 2 5 (Or.inl ⟨rfl, rfl⟩) (zI _ zm2_54) (by decide) (by decide) (by decide) (Nat.le_of_ble_eq_true rfl) (Nat.le_of_ble_eq_true rfl) dX3_init_7 hw2 (fun _ => wU_eq) (fun q => ?_)
  obtain ⟨a1, ha1⟩ : ∃ z, z = va_up ad 2 q := ⟨_, rfl⟩
  rw [← ha1]
  have hk1 : ∀ j, j ≠ 2 → a1 j = ad j := fun j h => by rw [ha1]; exact zup_n h
  rw [← hk1 1 (by omega)]
  refine z_putF O rfl (fk := 0) (fun x h => zI x (zu_RX3 x h)) tyX3 tyX3_ok nmX3 rfl (by decide) (zI _ zm0_57) rfl rfl dX3_init_10 rfl rfl ((wU_n (by decide)).trans hw1) (Nat.le_of_ble_eq_true rfl) (wU_eq) ?_
  refine z_aload_n O dX3_init_13 rfl ?_
  refine z_iconst O dX3_init_14 (v := 0) (by decide) ?_
  refine z_put O (fk := 1) (fun x h => zI x (zu_RX3 x h)) tyX3 tyX3_ok nmX3 rfl (by decide) (zI _ zm0_63) rfl dX3_init_15 rfl rfl (wU_s) (Nat.le_of_ble_eq_true rfl) (wU_eq) ?_
  refine z_aload_n O dX3_init_18 rfl ?_
  refine z_iconst O dX3_init_19 (v := 0) (by decide) ?_
  refine z_put O (fk := 2) (fun x h => zI x (zu_RX3 x h)) tyX3 tyX3_ok nmX3 rfl (by decide) (zI _ zm0_64) rfl dX3_init_20 rfl rfl (wU_s) (Nat.le_of_ble_eq_true rfl) (wU_eq) ?_
  refine z_iconst O dX3_init_23 (v := 0) (by decide) ?_
  refine z_istore_n O dX3_init_24 (by decide) ?_
  refine zV.world (w' := zHb w a1 0) (ad' := a1) ?_ (fun H hR => hR.less fun j x hj => ?_)
  · have L : ∀ (n : Nat) (i : Nat) (b : Nat → Nat), i ≤ 80 → 80 < i + n → (∀ j, ¬ (j = 2 ∨ (100 ≤ j ∧ j < 180)) → b j = ad j) → zV G X 2 (0 + 1 + i) (0 + 80 + 9 * i) 25 [(0, .ref (b 1)), (1, .int (nI i))] [] (zHb w b i) b := by
      intro n
      induction n with
      | zero => intro i b h1 h2 hb; omega
      | succ n ih =>
        intro i b h1 h2 hb
        refine z_iload_n O dX3_init_25 rfl ?_
        refine z_aload_n O dX3_init_26 rfl ?_
        refine z_get O (fk := 0) (fun x h => zI x (zu_RX3 x h)) rfl (by decide) (zI _ zm0_57) dX3_init_27 (zHb_1) rfl ?_
        refine z_alen O (t := 5) (by decide) dX3_init_30 (zHb_2) ?_
        refine z_icmp_ge O dX3_init_31 (tgt := 53) (by decide) (fun g => ?_) (fun g => ?_)
        · have hi : i = 80 := by have := z_ge_ge (by omega) (by omega) g; omega
          subst hi
          exact z_vret O dX3_init_53 (show 0 + 1 + 80 ≤ 81 by omega) (show 0 + 80 + 9 * 80 ≤ 800 by omega) ⟨b, rfl, rfl, rfl, hb⟩
        · have hi : i < 80 := z_ge_lt (by omega) (by omega) g
          refine z_aload_n O dX3_init_34 rfl ?_
          refine z_get O (fk := 0) (fun x h => zI x (zu_RX3 x h)) rfl (by decide) (zI _ zm0_57) dX3_init_35 (zHb_1) rfl ?_
          refine z_iload_n O dX3_init_38 rfl ?_
          refine z_new O (w' := fun _ => wU (zHb w b i) (100 + i) (.inr (7, zS0))) (100 + i) (fun x h => zI x (zu_RX4 x h)) tyX4 tyX4_ok (zI _ zm2_54) (zI _ zm2_55) (zI _ zm0_61) (ci := 7) rfl (fun j hj => by rcases j with _ | _ | _ | _ | _ | _ | _ | _ | _ | j <;> first | rfl | omega) (show 0 + 1 + i + 1 ≤ 81 by omega) (show 0 + 80 + 9 * i + 9 ≤ 800 by omega) dX3_init_39 ((zHb_n (by omega) (by omega) (by omega)).trans (hws _ (by omega) (by omega))) (fun _ => wU_eq) (fun q1 => ?_)
          obtain ⟨b1, hb1⟩ : ∃ z, z = va_up b (100 + i) q1 := ⟨_, rfl⟩
          rw [← hb1]
          have hk2 : ∀ j, j ≠ 100 + i → b1 j = b j := fun j h => by rw [hb1]; exact zup_n h
          rw [← hk2 1 (by omega), ← hk2 2 (by omega), ← zHb_ad hk2]
          refine z_dup O dX3_init_42 rfl ?_
          refine z_callIN O (c_X4_init hl (a := 100 + i) wU_s) zI (List.mem_of_getElem? (i := 0) rfl) zm2_56 zm0_61 zm2_48 rfl ⟨by decide +kernel, by decide +kernel, (show _ = some 0 by decide +kernel)⟩ ⟨Nat.le_of_ble_eq_true rfl, Nat.le_of_ble_eq_true rfl⟩ ⟨show 0 + 1 + i + 1 + 0 ≤ 81 by omega, show 0 + 80 + 9 * i + 9 + 0 ≤ 800 by omega⟩ dX3_init_43 rfl (Nat.le_of_ble_eq_true rfl) (fun r w1 ad2 hp => ?_)
          obtain ⟨rfl, rfl, rfl⟩ := hp
          rw [wU_wU]
          refine z_aast5 O dX3_init_46 (i := 2) (n := 80) (b := 100 + i) ((wU_n (by omega)).trans zHb_2) wU_s i rfl hi (by decide) (zHb_s hi) ?_
          refine z_iincN O dX3_init_47 (a := i) rfl (by decide) ?_
          refine z_goto O dX3_init_50 (tgt := 25) (by decide) ?_
          exact zV.loc (ih (i + 1) b1 (by omega) (by omega) (fun j h => (hk2 j (by omega)).trans (hb j h))) ⟨rfl, rfl, trivial⟩
    exact zV.loc (L 81 0 a1 (by omega) (by omega) (fun j h => hk1 j (fun q => h (Or.inl q)))) ⟨rfl, rfl, trivial⟩
  · simp only [wU_wU]
    by_cases j1 : j = 1
    · subst j1; rw [wU_s, ← hj]; rfl
    rw [wU_n j1]
    by_cases j2 : j = 2
    · subst j2; rw [wU_s, ← hj, zHb_2]; simp
    rw [wU_n j2, ← hj, zHb_n j1 j2 (by omega)]

set_option maxRecDepth 100000 in
set_option maxHeartbeats 4000000 in
theorem c_X6_init {G : zG} {l : Launch} (hl : l.stackTraces = false) {w : zH} {ad : Nat → Nat} (hw : w 3 = some (.inr (9, [.null]))) (hn : w 5 = none) : zCt G l yX6_init (zws yX6_init cX6_init 1 none) ({ frames := 4, cells := 1, slots := 3, locals := 80 }) [.ref (ad 3)] (w) ad (fun r w1 ad1 => ∃ a1, none = r ∧ wU (wU w 5 (zLs 0 (.ref G.2.2.2.1) 0)) 3 (.inr (9, [.ref (a1 5)])) = w1 ∧ a1 = ad1 ∧ ∀ j, j ≠ 5 → a1 j = ad j) (zNoX) := by
  refine z_body hl (by decide +kernel) (Nat.le_of_ble_eq_true rfl) (fun X O => ?_)
  refine z_aload_n O dX6_init_0 rfl ?_
  refine z_objInit O zI zm3_14 zm0_2 zm0_3 dX6_init_1 (Nat.le_of_ble_eq_true rfl) (Nat.le_of_ble_eq_true rfl) ?_
  refine z_aload_n O dX6_init_4 rfl ?_
  refine z_new O (w' := fun _ => wU w 5 (zLs 0 .null 0)) 5 (fun x h => zI x (zu_RJx4a65c x h)) tyJx4a65c tyJx4a65c_ok (zI _ zm3_15) (zI _ zm0_30) (zI _ zm0_31) (ci := 2) rfl (fun j hj => by rcases j with _ | _ | _ | j <;> first | rfl | omega) (Nat.le_of_ble_eq_true rfl) (Nat.le_of_ble_eq_true rfl) dX6_init_5 hn (fun _ => wU_eq) (fun q => ?_)
  obtain ⟨a1, ha1⟩ : ∃ z, z = va_up ad 5 q := ⟨_, rfl⟩
  rw [← ha1]
  have hk1 : ∀ j, j ≠ 5 → a1 j = ad j := fun j h => by rw [ha1]; exact zup_n h
  rw [← hk1 3 (by omega)]
  refine z_dup O dX6_init_8 rfl ?_
  refine z_callI O (c_Jx4a65c_init_da8c8 hl (a := 5) wU_s) zI zm3_17 zm0_40 zm0_31 zm0_22 rfl ⟨by decide +kernel, by decide +kernel, (show _ = some 0 by decide +kernel)⟩ ⟨Nat.le_of_ble_eq_true rfl, Nat.le_of_ble_eq_true rfl⟩ ⟨Nat.le_of_ble_eq_true rfl, Nat.le_of_ble_eq_true rfl⟩ dX6_init_9 rfl (Nat.le_of_ble_eq_true rfl) (fun r w1 ad1 hp => ?_)
  obtain ⟨rfl, rfl, rfl⟩ := hp
  rw [wU_wU]
  refine z_putF O rfl (fk := 0) (fun x h => zI x (zu_RX6 x h)) tyX6 tyX6_ok nmX6 rfl (by decide) (zI _ zm3_16) rfl rfl dX6_init_12 rfl rfl ((wU_n (by decide)).trans hw) (Nat.le_of_ble_eq_true rfl) (wU_eq) ?_
  exact z_vret O dX6_init_15 (Nat.le_of_ble_eq_true rfl) (Nat.le_of_ble_eq_true rfl) (⟨a1, rfl, by first | rfl | (simp only [wU_wU]; rfl), rfl, hk1⟩)

set_option maxRecDepth 100000 in
set_option maxHeartbeats 4000000 in
theorem c_X1_init {G : zG} {l : Launch} (hl : l.stackTraces = false) {w : zH} {ad : Nat → Nat} (hw : w 4 = some (.inr (4, [.null, .int 0, .int 0, .int 0, .int 0, .int 0, .int 0]))) (hn : w 7 = none) : zCt G l yX1_init (zws yX1_init cX1_init 1 none) ({ frames := 4, cells := 1, slots := 3, locals := 80 }) [.ref (ad 4)] (w) ad (fun r w1 ad1 => ∃ a1, none = r ∧ wU (wU w 7 (zLs 0 (.ref G.2.2.2.1) 0)) 4 (.inr (4, [.ref (a1 7), .int 40, .int 0, .int 0, .int 0, .int 0, .int 0])) = w1 ∧ a1 = ad1 ∧ ∀ j, j ≠ 7 → a1 j = ad j) (zNoX) := by
  refine z_body hl (by decide +kernel) (Nat.le_of_ble_eq_true rfl) (fun X O => ?_)
  refine z_aload_n O dX1_init_0 rfl ?_
  refine z_objInit O zI zm0_28 zm0_2 zm0_3 dX1_init_1 (Nat.le_of_ble_eq_true rfl) (Nat.le_of_ble_eq_true rfl) ?_
  refine z_aload_n O dX1_init_4 rfl ?_
  refine z_new O (w' := fun _ => wU w 7 (zLs 0 .null 0)) 7 (fun x h => zI x (zu_RJx4a65c x h)) tyJx4a65c tyJx4a65c_ok (zI _ zm0_29) (zI _ zm0_30) (zI _ zm0_31) (ci := 2) rfl (fun j hj => by rcases j with _ | _ | _ | j <;> first | rfl | omega) (Nat.le_of_ble_eq_true rfl) (Nat.le_of_ble_eq_true rfl) dX1_init_5 hn (fun _ => wU_eq) (fun q => ?_)
  obtain ⟨a1, ha1⟩ : ∃ z, z = va_up ad 7 q := ⟨_, rfl⟩
  rw [← ha1]
  have hk1 : ∀ j, j ≠ 7 → a1 j = ad j := fun j h => by rw [ha1]; exact zup_n h
  rw [← hk1 4 (by omega)]
  refine z_dup O dX1_init_8 rfl ?_
  refine z_callI O (c_Jx4a65c_init_da8c8 hl (a := 7) wU_s) zI zm0_39 zm0_40 zm0_31 zm0_22 rfl ⟨by decide +kernel, by decide +kernel, (show _ = some 0 by decide +kernel)⟩ ⟨Nat.le_of_ble_eq_true rfl, Nat.le_of_ble_eq_true rfl⟩ ⟨Nat.le_of_ble_eq_true rfl, Nat.le_of_ble_eq_true rfl⟩ dX1_init_9 rfl (Nat.le_of_ble_eq_true rfl) (fun r w1 ad1 hp => ?_)
  obtain ⟨rfl, rfl, rfl⟩ := hp
  rw [wU_wU]
  refine z_putF O rfl (fk := 0) (fun x h => zI x (zu_RX1 x h)) tyX1 tyX1_ok nmX1 rfl (by decide) (zI _ zm0_32) rfl rfl dX1_init_12 rfl rfl ((wU_n (by decide)).trans hw) (Nat.le_of_ble_eq_true rfl) (wU_eq) ?_
  refine z_aload_n O dX1_init_15 rfl ?_
  refine z_bipush O dX1_init_16 (v := 40) (by decide) ?_
  refine z_put O (fk := 1) (fun x h => zI x (zu_RX1 x h)) tyX1 tyX1_ok nmX1 rfl (by decide) (zI _ zm0_33) rfl dX1_init_18 rfl rfl (wU_s) (Nat.le_of_ble_eq_true rfl) (wU_eq) ?_
  refine z_aload_n O dX1_init_21 rfl ?_
  refine z_iconst O dX1_init_22 (v := 0) (by decide) ?_
  refine z_put O (fk := 2) (fun x h => zI x (zu_RX1 x h)) tyX1 tyX1_ok nmX1 rfl (by decide) (zI _ zm0_34) rfl dX1_init_23 rfl rfl (wU_s) (Nat.le_of_ble_eq_true rfl) (wU_eq) ?_
  refine z_aload_n O dX1_init_26 rfl ?_
  refine z_iconst O dX1_init_27 (v := 0) (by decide) ?_
  refine z_put O (fk := 3) (fun x h => zI x (zu_RX1 x h)) tyX1 tyX1_ok nmX1 rfl (by decide) (zI _ zm0_35) rfl dX1_init_28 rfl rfl (wU_s) (Nat.le_of_ble_eq_true rfl) (wU_eq) ?_
  refine z_aload_n O dX1_init_31 rfl ?_
  refine z_iconst O dX1_init_32 (v := 0) (by decide) ?_
  refine z_put O (fk := 4) (fun x h => zI x (zu_RX1 x h)) tyX1 tyX1_ok nmX1 rfl (by decide) (zI _ zm0_36) rfl dX1_init_33 rfl rfl (wU_s) (Nat.le_of_ble_eq_true rfl) (wU_eq) ?_
  refine z_aload_n O dX1_init_36 rfl ?_
  refine z_iconst O dX1_init_37 (v := 0) (by decide) ?_
  refine z_put O (fk := 5) (fun x h => zI x (zu_RX1 x h)) tyX1 tyX1_ok nmX1 rfl (by decide) (zI _ zm0_37) rfl dX1_init_38 rfl rfl (wU_s) (Nat.le_of_ble_eq_true rfl) (wU_eq) ?_
  refine z_aload_n O dX1_init_41 rfl ?_
  refine z_iconst O dX1_init_42 (v := 0) (by decide) ?_
  refine z_put O (fk := 6) (fun x h => zI x (zu_RX1 x h)) tyX1 tyX1_ok nmX1 rfl (by decide) (zI _ zm0_38) rfl dX1_init_43 rfl rfl (wU_s) (Nat.le_of_ble_eq_true rfl) (wU_eq) ?_
  exact z_vret O dX1_init_46 (Nat.le_of_ble_eq_true rfl) (Nat.le_of_ble_eq_true rfl) (⟨a1, rfl, by first | rfl | (simp only [wU_wU]; rfl), rfl, hk1⟩)

theorem zAl_arr0 {G : zG} {b b' : Nat → Nat} (h : ∀ k, k < 80 → b' (100 + k) = b (100 + k)) : zAl G (.inl (5, (80, .inr (.inr (.inr (.inr (fun k => if k < 80 then some (b (100 + k)) else none))))))) (eArr b') := by
  intro q H h1
  have h9 : H[q]? = some (arrV (G.2.1 5) 80 (fun k => va_rf (if k < 80 then some (b (100 + k)) else none))) := h1
  show H[q]? = some (arrV (G.2.1 5) 80 (fun k => va_rf (some (b' (100 + k)))))
  rw [h9]
  exact congrArg some (arrV_c fun k hk8 => by rw [if_pos hk8, h k hk8])
/-- the numbers of a new object -/
def zZ0 : zM := fun f _ => if f = 0 then 46 else if f = 2 then -1 else if f = 28 then 40 else 0
/-- the cells of a new object -/
def zC0 (e0 : Nat) (ad : Nat → Nat) (w : zH) : zH := fun j => if j < 300 then zC zZ0 (fun _ => none) (fun _ => 0) (fun _ => 0) e0 ad j else w j
set_option maxRecDepth 100000 in
set_option maxHeartbeats 4000000 in
theorem c_X7_init {G : zG} {l : Launch} (hl : l.stackTraces = false) {w : zH} {ad : Nat → Nat} (hw : w 0 = some (.inr (10, [.null, .null, .null, .null, .int 0, .int 0]))) (hno : ∀ j, j ≠ 0 → j < 300 → w j = none) : zCt G l yX7_init (zws yX7_init cX7_init 1 none) ({ frames := 5, cells := 90, slots := 900, locals := 100 }) [.ref (ad 0)] (w) ad (fun r w1 ad1 => ∃ b, none = r ∧ zC0 G.2.2.2.1 b w = w1 ∧ b = ad1 ∧ ∀ j, 300 ≤ j ∨ j = 0 → j ≠ 1 → b j = ad j) (zNoX) := by
  refine z_body hl (by decide +kernel) (Nat.le_of_ble_eq_true rfl) (fun X O => ?_)
  refine z_aload_n O dX7_init_0 rfl ?_
  refine z_objInit O zI zm3_58 zm0_2 zm0_3 dX7_init_1 (Nat.le_of_ble_eq_true rfl) (Nat.le_of_ble_eq_true rfl) ?_
  refine z_aload_n O dX7_init_4 rfl ?_
  refine z_new O (w' := fun _ => wU (w) 1 (.inr (6, [.null, .int 0, .int 0]))) 1 (fun x h => zI x (zu_RX3 x h)) tyX3 tyX3_ok (zI _ zm3_59) (zI _ zm3_60) (zI _ zm1_0) (ci := 6) rfl (fun j hj => by rcases j with _ | _ | _ |  j <;> first | rfl | omega) (Nat.le_of_ble_eq_true rfl) (Nat.le_of_ble_eq_true rfl) dX7_init_5 (hno 1 (by decide) (by decide)) (fun _ => wU_eq) (fun q => ?_)
  obtain ⟨b1, hab1⟩ : ∃ z, z = va_up ad 1 q := ⟨_, rfl⟩
  rw [← hab1]
  have kb1 : ∀ j, j ≠ 1 → b1 j = ad j := fun j h => by rw [hab1]; exact zup_n h
  rw [← kb1 0 (by omega)]
  refine z_dup O dX7_init_8 rfl ?_
  refine z_callI O (c_X3_init hl wU_s ((wU_n (by decide)).trans (hno 2 (by decide) (by decide))) (fun j h1 h2 => (wU_n (by omega)).trans (hno j (by omega) (by omega)))) zI zm4_2 zm4_3 zm1_0 zm2_52 rfl ⟨by decide +kernel, by decide +kernel, (show _ = some 0 by decide +kernel)⟩ ⟨Nat.le_of_ble_eq_true rfl, Nat.le_of_ble_eq_true rfl⟩ ⟨Nat.le_of_ble_eq_true rfl, Nat.le_of_ble_eq_true rfl⟩ dX7_init_9 rfl (Nat.le_of_ble_eq_true rfl) (fun r w1 ad2 hp => ?_)
  obtain ⟨b2, rfl, rfl, rfl, kb2⟩ := hp
  rw [← kb2 0 (by omega), ← kb2 1 (by omega)]
  obtain ⟨V1, hV1⟩ : ∃ z, z = zHb (wU w 1 (.inr (6, [.null, .int 0, .int 0]))) b2 80 := ⟨_, rfl⟩
  refine zV.world (w' := V1) (ad' := b2) ?_ (fun H hR => by subst hV1; exact hR)
  have v0 : V1 0 = some (.inr (10, [.null, .null, .null, .null, .int 0, .int 0])) := by rw [hV1, zHb_n (by omega) (by omega) (by omega), wU_n (by omega)]; exact hw
  have vn : ∀ j, 3 ≤ j → ¬ (100 ≤ j ∧ j < 180) → V1 j = w j := fun j h1 h2 => by rw [hV1, zHb_n (by omega) (by omega) (by omega), wU_n (by omega)]
  refine z_putF O rfl (fk := 0) (fun x h => zI x (zu_RX7 x h)) tyX7 tyX7_ok nmX7 rfl (by decide) (zI _ zm3_61) rfl rfl dX7_init_12 rfl rfl (v0) (Nat.le_of_ble_eq_true rfl) (wU_eq) ?_
  refine z_aload_n O dX7_init_15 rfl ?_
  refine z_new O (w' := fun _ => wU (wU V1 0 (.inr (10, [.ref (b2 1), .null, .null, .null, .int 0, .int 0]))) 3 (.inr (9, [.null]))) 3 (fun x h => zI x (zu_RX6 x h)) tyX6 tyX6_ok (zI _ zm3_62) (zI _ zm3_63) (zI _ zm3_29) (ci := 9) rfl (fun j hj => by rcases j with _ |  j <;> first | rfl | omega) (Nat.le_of_ble_eq_true rfl) (Nat.le_of_ble_eq_true rfl) dX7_init_16 ((wU_n (by decide)).trans ((vn 3 (by omega) (by omega)).trans (hno 3 (by decide) (by decide)))) (fun _ => wU_eq) (fun q => ?_)
  obtain ⟨b3, hab3⟩ : ∃ z, z = va_up b2 3 q := ⟨_, rfl⟩
  rw [← hab3]
  have kb3 : ∀ j, j ≠ 3 → b3 j = b2 j := fun j h => by rw [hab3]; exact zup_n h
  rw [← kb3 0 (by omega)]
  refine z_dup O dX7_init_19 rfl ?_
  refine z_callIN O (c_X6_init hl wU_s ((wU_n (by decide)).trans ((wU_n (by decide)).trans ((vn 5 (by omega) (by omega)).trans (hno 5 (by decide) (by decide)))))) zI (List.mem_of_getElem? (i := 1) rfl) zm4_4 zm3_29 zm3_13 rfl ⟨by decide +kernel, by decide +kernel, (show _ = some 0 by decide +kernel)⟩ ⟨Nat.le_of_ble_eq_true rfl, Nat.le_of_ble_eq_true rfl⟩ ⟨Nat.le_of_ble_eq_true rfl, Nat.le_of_ble_eq_true rfl⟩ dX7_init_20 rfl (Nat.le_of_ble_eq_true rfl) (fun r w1 ad2 hp => ?_)
  obtain ⟨b4, rfl, rfl, rfl, kb4⟩ := hp
  rw [← kb4 0 (by omega), ← kb4 3 (by omega)]
  refine z_putF O rfl (fk := 1) (fun x h => zI x (zu_RX7 x h)) tyX7 tyX7_ok nmX7 rfl (by decide) (zI _ zm3_64) rfl rfl dX7_init_23 rfl rfl ((wU_n (by decide)).trans ((wU_n (by decide)).trans ((wU_n (by decide)).trans wU_s))) (Nat.le_of_ble_eq_true rfl) (wU_eq) ?_
  refine z_aload_n O dX7_init_26 rfl ?_
  obtain ⟨V2, hV2⟩ : ∃ z, z = wU (wU (wU (wU (wU V1 0 (.inr (10, [.ref (b2 1), .null, .null, .null, .int 0, .int 0]))) 3 (.inr (9, [.null]))) 5 (zLs 0 (.ref G.2.2.2.1) 0)) 3 (.inr (9, [.ref (b4 5)]))) 0 (.inr (10, [.ref (b2 1), .ref (b4 3), .null, .null, .int 0, .int 0])) := ⟨_, rfl⟩
  refine zV.world (w' := V2) (ad' := b4) ?_ (fun H hR => by subst hV2; exact hR)
  have v2 : V2 0 = some (.inr (10, [.ref (b2 1), .ref (b4 3), .null, .null, .int 0, .int 0])) := by rw [hV2]; exact wU_s
  have vn2 : ∀ j, j ≠ 0 → j ≠ 3 → j ≠ 5 → V2 j = V1 j := fun j h1 h2 h3 => by rw [hV2, wU_n h1, wU_n h2, wU_n h3, wU_n h2, wU_n h1]
  refine z_new O (w' := fun _ => wU V2 6 (zLs 0 .null 0)) 6 (fun x h => zI x (zu_RJx4a65c x h)) tyJx4a65c tyJx4a65c_ok (zI _ zm3_65) (zI _ zm0_30) (zI _ zm0_31) (ci := 2) rfl (fun j hj => by rcases j with _ | _ | _ | j <;> first | rfl | omega) (Nat.le_of_ble_eq_true rfl) (Nat.le_of_ble_eq_true rfl) dX7_init_27 ((vn2 6 (by decide) (by decide) (by decide)).trans ((vn 6 (by omega) (by omega)).trans (hno 6 (by decide) (by decide)))) (fun _ => wU_eq) (fun q => ?_)
  obtain ⟨b5, hb5⟩ : ∃ z, z = va_up b4 6 q := ⟨_, rfl⟩
  rw [← hb5]
  have kb5 : ∀ j, j ≠ 6 → b5 j = b4 j := fun j h => by rw [hb5]; exact zup_n h
  rw [← kb5 0 (by omega)]
  refine z_dup O dX7_init_30 rfl ?_
  refine z_callI O (c_Jx4a65c_init_da8c8 hl (a := 6) wU_s) zI zm4_5 zm0_40 zm0_31 zm0_22 rfl ⟨by decide +kernel, by decide +kernel, (show _ = some 0 by decide +kernel)⟩ ⟨Nat.le_of_ble_eq_true rfl, Nat.le_of_ble_eq_true rfl⟩ ⟨Nat.le_of_ble_eq_true rfl, Nat.le_of_ble_eq_true rfl⟩ dX7_init_31 rfl (Nat.le_of_ble_eq_true rfl) (fun r w1 ad1 hp => ?_)
  obtain ⟨rfl, rfl, rfl⟩ := hp
  rw [wU_wU]
  refine z_putF O rfl (fk := 2) (fun x h => zI x (zu_RX7 x h)) tyX7 tyX7_ok nmX7 rfl (by decide) (zI _ zm3_66) rfl rfl dX7_init_34 rfl rfl ((wU_n (by decide)).trans v2) (Nat.le_of_ble_eq_true rfl) (wU_eq) ?_
  refine z_aload_n O dX7_init_37 rfl ?_
  obtain ⟨V3, hV3⟩ : ∃ z, z = wU (wU V2 6 (zLs 0 (.ref G.2.2.2.1) 0)) 0 (.inr (10, [.ref (b2 1), .ref (b4 3), .ref (b5 6), .null, .int 0, .int 0])) := ⟨_, rfl⟩
  refine zV.world (w' := V3) (ad' := b5) ?_ (fun H hR => by subst hV3; exact hR)
  have v3 : V3 0 = some (.inr (10, [.ref (b2 1), .ref (b4 3), .ref (b5 6), .null, .int 0, .int 0])) := by rw [hV3]; exact wU_s
  have vn3 : ∀ j, j ≠ 0 → j ≠ 6 → V3 j = V2 j := fun j h1 h2 => by rw [hV3, wU_n h1, wU_n h2]
  refine z_new O (w' := fun _ => wU (V3) 4 (.inr (4, [.null, .int 0, .int 0, .int 0, .int 0, .int 0, .int 0]))) 4 (fun x h => zI x (zu_RX1 x h)) tyX1 tyX1_ok (zI _ zm3_67) (zI _ zm3_68) (zI _ zm1_44) (ci := 4) rfl (fun j hj => by rcases j with _ | _ | _ | _ | _ | _ | _ |  j <;> first | rfl | omega) (Nat.le_of_ble_eq_true rfl) (Nat.le_of_ble_eq_true rfl) dX7_init_38 ((vn3 4 (by decide) (by decide)).trans ((vn2 4 (by decide) (by decide) (by decide)).trans ((vn 4 (by omega) (by omega)).trans (hno 4 (by decide) (by decide))))) (fun _ => wU_eq) (fun q => ?_)
  obtain ⟨b6, hab6⟩ : ∃ z, z = va_up b5 4 q := ⟨_, rfl⟩
  rw [← hab6]
  have kb6 : ∀ j, j ≠ 4 → b6 j = b5 j := fun j h => by rw [hab6]; exact zup_n h
  rw [← kb6 0 (by omega)]
  refine z_dup O dX7_init_41 rfl ?_
  refine z_callIN O (c_X1_init hl wU_s ((wU_n (by decide)).trans ((vn3 7 (by decide) (by decide)).trans ((vn2 7 (by decide) (by decide) (by decide)).trans ((vn 7 (by omega) (by omega)).trans (hno 7 (by decide) (by decide))))))) zI (List.mem_of_getElem? (i := 2) rfl) zm4_6 zm1_44 zm0_41 rfl ⟨by decide +kernel, by decide +kernel, (show _ = some 0 by decide +kernel)⟩ ⟨Nat.le_of_ble_eq_true rfl, Nat.le_of_ble_eq_true rfl⟩ ⟨Nat.le_of_ble_eq_true rfl, Nat.le_of_ble_eq_true rfl⟩ dX7_init_42 rfl (Nat.le_of_ble_eq_true rfl) (fun r w1 ad2 hp => ?_)
  obtain ⟨b7, rfl, rfl, rfl, kb7⟩ := hp
  rw [← kb7 0 (by omega), ← kb7 4 (by omega)]
  refine z_putF O rfl (fk := 3) (fun x h => zI x (zu_RX7 x h)) tyX7 tyX7_ok nmX7 rfl (by decide) (zI _ zm3_69) rfl rfl dX7_init_45 rfl rfl ((wU_n (by decide)).trans ((wU_n (by decide)).trans ((wU_n (by decide)).trans v3))) (Nat.le_of_ble_eq_true rfl) (wU_eq) ?_
  refine z_aload_n O dX7_init_48 rfl ?_
  refine z_iconst O dX7_init_49 (v := 0) (by decide) ?_
  refine z_put O (fk := 4) (fun x h => zI x (zu_RX7 x h)) tyX7 tyX7_ok nmX7 rfl (by decide) (zI _ zm4_0) rfl dX7_init_50 rfl rfl (wU_s) (Nat.le_of_ble_eq_true rfl) (wU_eq) ?_
  refine z_aload_n O dX7_init_53 rfl ?_
  refine z_iconst O dX7_init_54 (v := 0) (by decide) ?_
  refine z_put O (fk := 5) (fun x h => zI x (zu_RX7 x h)) tyX7 tyX7_ok nmX7 rfl (by decide) (zI _ zm4_1) rfl dX7_init_55 rfl rfl (wU_s) (Nat.le_of_ble_eq_true rfl) (wU_eq) ?_
  refine zV.world (w' := zC0 G.2.2.2.1 b7 w) (ad' := b7) ?_ (fun H hR => hR.sim fun j x hj => ?_)
  · exact z_vret O dX7_init_58 (Nat.le_of_ble_eq_true rfl) (Nat.le_of_ble_eq_true rfl) (⟨b7, rfl, rfl, rfl, fun j h1 h2 => ((kb7 j (by omega)).trans ((kb6 j (by omega)).trans ((kb5 j (by omega)).trans ((kb4 j (by omega)).trans ((kb3 j (by omega)).trans ((kb2 j (by omega)).trans (kb1 j (by omega))))))))⟩)
  · simp only [wU_wU]
    unfold zC0 at hj
    by_cases j2 : j = 2
    · subst j2
      have hx : some (eArr b7) = some x := hj
      cases hx
      refine ⟨_, ?_, zAl_arr0 (b := b2) (fun k _ => ?_)⟩
      · rw [wU_n (by omega), wU_n (by omega), wU_n (by omega), wU_n (by omega), vn3 _ (by omega) (by omega), vn2 _ (by omega) (by omega) (by omega), hV1, zHb_2]
      · rw [kb7 _ (by omega), kb6 _ (by omega), kb5 _ (by omega), kb4 _ (by omega), kb3 _ (by omega)]
    refine ⟨x, ?_, zAl.rf⟩
    by_cases j300 : j < 300
    · rw [if_pos j300] at hj
      have e1 : b7 1 = b2 1 := by rw [kb7 1 (by omega), kb6 1 (by omega), kb5 1 (by omega), kb4 1 (by omega), kb3 1 (by omega)]
      have e2 : b7 2 = b2 2 := by rw [kb7 2 (by omega), kb6 2 (by omega), kb5 2 (by omega), kb4 2 (by omega), kb3 2 (by omega)]
      have e3 : b7 3 = b4 3 := by rw [kb7 3 (by omega), kb6 3 (by omega), kb5 3 (by omega)]
      have e5 : b7 5 = b4 5 := by rw [kb7 5 (by omega), kb6 5 (by omega), kb5 5 (by omega)]
      have e6 : b7 6 = b5 6 := by rw [kb7 6 (by omega), kb6 6 (by omega)]
      have e100 : ∀ k, b7 (100 + k) = b2 (100 + k) := fun k => by rw [kb7 _ (by omega), kb6 _ (by omega), kb5 _ (by omega), kb4 _ (by omega), kb3 _ (by omega)]
      have hA : zC zZ0 (fun _ => none) (fun _ => 0) (fun _ => 0) G.2.2.2.1 b7 j = some x := hj
      by_cases h100 : 100 ≤ j ∧ j < 180
      · obtain ⟨k, rfl⟩ : ∃ k, j = 100 + k := ⟨j - 100, by omega⟩
        rw [zC_seat (by omega)] at hA
        rw [wU_n (by omega), wU_n (by omega), wU_n (by omega), wU_n (by omega), vn3 _ (by omega) (by omega), vn2 _ (by omega) (by omega) (by omega), hV1, ← hA]
        unfold zHb
        rw [if_neg (by omega), if_neg (by omega), if_pos (by omega)]
        rfl
      · have hsm : j < 8 := by
          rcases Nat.lt_or_ge j 8 with q | q
          · exact q
          · exfalso
            have hz0 : zN zZ0 0 = 0 := rfl
            have hz1 : zN zZ0 1 = 0 := rfl
            have hz2 : zN zZ0 2 = 0 := rfl
            unfold zC at hA
            by_cases q1 : j < 100
            · rw [if_pos q1, if_neg (by omega), if_neg (by omega), if_neg (by omega), if_neg (by omega), if_neg (by omega), if_neg (by omega)] at hA
              by_cases q2 : j < 11
              · rw [if_pos q2, if_pos rfl] at hA; cases hA
              · rw [if_neg q2] at hA; cases hA
            · rw [if_neg q1, if_neg (by omega), hz0, hz1, hz2] at hA
              simp at hA
        have hj8 : j = 0 ∨ j = 1 ∨ j = 2 ∨ j = 3 ∨ j = 4 ∨ j = 5 ∨ j = 6 ∨ j = 7 := by omega
        rcases hj8 with rfl | rfl | rfl | rfl | rfl | rfl | rfl | rfl
        · rw [wU_s, ← hA]
          show _ = some (eX zZ0 b7)
          unfold eX
          rw [e1, e3, e6]
          rfl
        · rw [wU_n (by omega), wU_n (by omega), wU_n (by omega), wU_n (by omega), vn3 _ (by omega) (by omega), vn2 _ (by omega) (by omega) (by omega), hV1, zHb_1, ← hA]
          show _ = some (eHouse zZ0 b7)
          unfold eHouse
          rw [e2]
          rfl
        · exact absurd rfl j2
        · rw [wU_n (by omega), wU_n (by omega), wU_n (by omega), wU_n (by omega), vn3 _ (by omega) (by omega), hV2, wU_n (by omega), wU_s, ← hA]
          show _ = some (eTr b7)
          unfold eTr
          rw [e5]
        · rw [wU_n (by omega), wU_s, ← hA]
          rfl
        · rw [wU_n (by omega), wU_n (by omega), wU_n (by omega), wU_n (by omega), vn3 _ (by omega) (by omega), hV2, wU_n (by omega), wU_n (by omega), wU_s, ← hA]
          rfl
        · rw [wU_n (by omega), wU_n (by omega), wU_n (by omega), wU_n (by omega), hV3, wU_n (by omega), wU_s, ← hA]
          rfl
        · rw [wU_n (by omega), wU_n (by omega), wU_s, ← hA]
          rfl
    · rw [if_neg j300] at hj
      rw [wU_n (by omega), wU_n (by omega), wU_n (by omega), wU_n (by omega), vn3 j (by omega) (by omega), vn2 j (by omega) (by omega) (by omega), vn j (by omega) (by omega)]
      exact hj
