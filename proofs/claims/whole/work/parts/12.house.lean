def fSum (f : Nat → Int32) : Nat → Int32
  | 0 => 0
  | n + 1 => fSum f n + f n
theorem fSum_z {f : Nat → Int32} {i : Nat} (h : f i = 0) : fSum f (i + 1) = fSum f i := by
  show fSum f i + f i = _
  rw [h]; simp
theorem fSum_1 {f : Nat → Int32} {i : Nat} (h : f i = 1) : fSum f (i + 1) = fSum f i + 1 := by
  show fSum f i + f i = _
  rw [h]
/-- the seat at row x, place y, by its number -/
def fPl (Z : zM) (x y : Int32) : Option Nat := if 0 ≤ x ∧ x < Z 23 0 ∧ 0 ≤ y ∧ y < Z 24 0 then some (x.toNatClampNeg * 10 + y.toNatClampNeg) else none
def rI (a i : Nat) : Int32 := nI a - 1 + nI i
theorem rI_s (a i : Nat) : rI a i + 1 = rI a (i + 1) := by unfold rI; rw [Int32.add_assoc, nI_1]
theorem rI_lt : ∀ a, a < 10 → ∀ i, i < 4 → (nI a + 1 < rI a i ↔ i = 3) := by decide +kernel
theorem rI_eq : ∀ a, a < 10 → ∀ i, i < 4 → (rI a i = nI a ↔ i = 1) := by decide +kernel
/-- one of the nine around row a, place b: itself, nothing, or what a neighbour makes heard -/
def fCell (Z : zM) (a b i j : Nat) (acc : Int32) : Int32 := if i = 1 ∧ j = 1 then acc else match fPl Z (rI a i) (rI b j) with
  | none => acc
  | some k => acc + fHeard Z k
def fRow (Z : zM) (a b i : Nat) (acc : Int32) : Nat → Int32
  | 0 => acc
  | j + 1 => fCell Z a b i j (fRow Z a b i acc j)
def fRows (Z : zM) (a b : Nat) : Nat → Int32
  | 0 => 0
  | i + 1 => fRow Z a b i (fRows Z a b i) 3
def fAround (Z : zM) (a b : Nat) : Int32 := fRows Z a b 3
def zHouse (Z : zM) : Prop := ∃ nr nc : Nat, Z 23 0 = nI nr ∧ Z 24 0 = nI nc ∧ nr ≤ 8 ∧ nc ≤ 10
theorem fPl_lt {Z : zM} (h : zHouse Z) {x y : Int32} {k : Nat} (e : fPl Z x y = some k) : k < 80 := by
  obtain ⟨nr, nc, h1, h2, h3, h4⟩ := h
  unfold fPl at e
  by_cases q : 0 ≤ x ∧ x < Z 23 0 ∧ 0 ≤ y ∧ y < Z 24 0
  · rw [if_pos q] at e
    cases e
    obtain ⟨q1, q2, q3, q4⟩ := q
    obtain ⟨a, ha, rfl⟩ := nI_of (x := x) (fun z => absurd q1 (Int32.not_le.mpr z))
    obtain ⟨b, hb, rfl⟩ := nI_of (x := y) (fun z => absurd q3 (Int32.not_le.mpr z))
    rw [h1] at q2; rw [h2] at q4
    have h5 := (nI_ltI ha (by omega)).mp q2
    have h6 := (nI_ltI hb (by omega)).mp q4
    rw [nI_clamp ha, nI_clamp hb]
    omega
  · rw [if_neg q] at e; cases e
set_option maxRecDepth 100000 in
set_option maxHeartbeats 4000000 in
theorem c_X3_seatOrNull {G : zG} {l : Launch} (hl : l.stackTraces = false) {Z : zM} {sb : Nat → Option Nat} {mcn : Nat → Int32} {cp : Nat → Nat} {Y : zM} {th : Int32} {o : Nat → Int64} {od : Nat → UInt64} {ad : Nat → Nat} (hh : zHouse Z) {x y : Int32} : zCt G l yX3_seatOrNull (zws yX3_seatOrNull cX3_seatOrNull 4 (some (.object "ClaqueRow$Seat"))) ({ frames := 0, cells := 0, slots := 0, locals := 0 }) [.ref (ad 1), .int x, .int y] (zent Z sb mcn cp G.2.2.2.1 Y th o od ad) ad (fun r w1 ad1 => some (va_rf ((fPl Z x y).map (fun k => ad (100 + k)))) = r ∧ zent Z sb mcn cp G.2.2.2.1 Y th o od ad = w1 ∧ ad = ad1) (zNoX) := by
  refine z_body hl (by decide +kernel) (Nat.le_of_ble_eq_true rfl) (fun X O => ?_)
  refine z_iload_n O dX3_seatOrNull_0 rfl ?_
  refine z_if_lt O dX3_seatOrNull_1 (tgt := 24) (by decide) (fun h1 => ?_) (fun h1 => ?_)
  · refine z_null O dX3_seatOrNull_24 ?_
    exact z_aret O (r := none) rfl (by first | exact Or.inl ⟨_, rfl⟩ | exact Or.inr ⟨_, rfl⟩) dX3_seatOrNull_25 (Nat.le_of_ble_eq_true rfl) (Nat.le_of_ble_eq_true rfl) (⟨(by unfold fPl; rw [if_neg (fun q => absurd q.1 (Int32.not_le.mpr h1))]; rfl), rfl, rfl⟩)
  · refine z_iload_n O dX3_seatOrNull_4 rfl ?_
    refine z_aload_n O dX3_seatOrNull_5 rfl ?_
    refine z_get O (fk := 1) (fun x h => zI x (zu_RX3 x h)) rfl (by decide) (zI _ zm0_63) dX3_seatOrNull_6 (zg_house) rfl ?_
    refine z_icmp_ge O dX3_seatOrNull_9 (tgt := 24) (by decide) (fun h2 => ?_) (fun h2 => ?_)
    · refine z_null O dX3_seatOrNull_24 ?_
      exact z_aret O (r := none) rfl (by first | exact Or.inl ⟨_, rfl⟩ | exact Or.inr ⟨_, rfl⟩) dX3_seatOrNull_25 (Nat.le_of_ble_eq_true rfl) (Nat.le_of_ble_eq_true rfl) (⟨(by unfold fPl; rw [if_neg (fun q => absurd q.2.1 (Int32.not_lt.mpr h2))]; rfl), rfl, rfl⟩)
    · refine z_iload_n O dX3_seatOrNull_12 rfl ?_
      refine z_if_lt O dX3_seatOrNull_13 (tgt := 24) (by decide) (fun h3 => ?_) (fun h3 => ?_)
      · refine z_null O dX3_seatOrNull_24 ?_
        exact z_aret O (r := none) rfl (by first | exact Or.inl ⟨_, rfl⟩ | exact Or.inr ⟨_, rfl⟩) dX3_seatOrNull_25 (Nat.le_of_ble_eq_true rfl) (Nat.le_of_ble_eq_true rfl) (⟨(by unfold fPl; rw [if_neg (fun q => absurd q.2.2.1 (Int32.not_le.mpr h3))]; rfl), rfl, rfl⟩)
      · refine z_iload_n O dX3_seatOrNull_16 rfl ?_
        refine z_aload_n O dX3_seatOrNull_17 rfl ?_
        refine z_get O (fk := 2) (fun x h => zI x (zu_RX3 x h)) rfl (by decide) (zI _ zm0_64) dX3_seatOrNull_18 (zg_house) rfl ?_
        refine z_icmp_lt O dX3_seatOrNull_21 (tgt := 26) (by decide) (fun h4 => ?_) (fun h4 => ?_)
        · obtain ⟨nr, nc, e1, e2, l1, l2⟩ := hh
          obtain ⟨a, ha, rfl⟩ := nI_of h1
          obtain ⟨b, hb, rfl⟩ := nI_of h3
          have h2a : a < nr := by rw [e1] at h2; exact z_ge_lt ha (by omega) h2
          have h4a : b < nc := by rw [e2] at h4; exact (nI_ltI hb (by omega)).mp h4
          have hix : nI a * 10 + nI b = nI (a * 10 + b) := by rw [show (10 : Int32) = nI 10 from rfl, pk_mul, nI_add]
          refine z_iload_n O dX3_seatOrNull_26 rfl ?_
          refine z_bipush O dX3_seatOrNull_27 (v := 10) (by decide) ?_
          refine z_imul O dX3_seatOrNull_29 ?_
          refine z_iload_n O dX3_seatOrNull_30 rfl ?_
          refine z_iadd O dX3_seatOrNull_31 ?_
          refine z_istore_n O dX3_seatOrNull_32 (by decide) ?_
          refine z_iload_n O dX3_seatOrNull_33 rfl ?_
          refine z_aload_n O dX3_seatOrNull_34 rfl ?_
          refine z_get O (fk := 0) (fun x h => zI x (zu_RX3 x h)) rfl (by decide) (zI _ zm0_57) dX3_seatOrNull_35 (zg_house) rfl ?_
          refine z_alen O (t := 5) (by decide) dX3_seatOrNull_38 (zg_arr) ?_
          refine z_icmp_ge O dX3_seatOrNull_39 (tgt := 51) (by decide) (fun g => ?_) (fun _ => ?_)
          · rw [hix] at g; exact absurd (z_ge_ge (b := 80) (by omega) (by decide) g) (by omega)
          · refine z_aload_n O dX3_seatOrNull_42 rfl ?_
            refine z_get O (fk := 0) (fun x h => zI x (zu_RX3 x h)) rfl (by decide) (zI _ zm0_57) dX3_seatOrNull_43 (zg_house) rfl ?_
            refine z_iload_n O dX3_seatOrNull_46 rfl ?_
            refine z_aald O (Or.inl rfl) dX3_seatOrNull_47 (zg_arr) (a * 10 + b) hix (by omega) (by decide) ?_
            refine z_goto O dX3_seatOrNull_48 (tgt := 52) (by decide) ?_
            exact z_aret O (r := (some (ad (100 + (a * 10 + b))))) rfl (by first | exact Or.inl ⟨_, rfl⟩ | exact Or.inr ⟨_, rfl⟩) dX3_seatOrNull_52 (Nat.le_of_ble_eq_true rfl) (Nat.le_of_ble_eq_true rfl) (⟨by unfold fPl; rw [if_pos ⟨Int32.not_lt.mp h1, Int32.not_le.mp h2, Int32.not_lt.mp h3, h4⟩, nI_clamp ha, nI_clamp hb]; rfl, rfl, rfl⟩)
        · refine z_null O dX3_seatOrNull_24 ?_
          exact z_aret O (r := none) rfl (by first | exact Or.inl ⟨_, rfl⟩ | exact Or.inr ⟨_, rfl⟩) dX3_seatOrNull_25 (Nat.le_of_ble_eq_true rfl) (Nat.le_of_ble_eq_true rfl) (⟨(by unfold fPl; rw [if_neg (fun q => absurd q.2.2.2 h4)]; rfl), rfl, rfl⟩)

set_option maxRecDepth 100000 in
set_option maxHeartbeats 4000000 in
theorem c_X3_noiseSum {G : zG} {l : Launch} (hl : l.stackTraces = false) {Z : zM} {sb : Nat → Option Nat} {mcn : Nat → Int32} {cp : Nat → Nat} {Y : zM} {th : Int32} {o : Nat → Int64} {od : Nat → UInt64} {ad : Nat → Nat} : zCt G l yX3_noiseSum (zws yX3_noiseSum cX3_noiseSum 6 (some .int)) ({ frames := 0, cells := 0, slots := 0, locals := 0 }) [.ref (ad 1)] (zent Z sb mcn cp G.2.2.2.1 Y th o od ad) ad (fun r w1 ad1 => some (.int (fSum (Z 3) 80)) = r ∧ zent Z sb mcn cp G.2.2.2.1 Y th o od ad = w1 ∧ ad = ad1) (zNoX) := by
  refine z_body hl (by decide +kernel) (Nat.le_of_ble_eq_true rfl) (fun X O => ?_)
  have L : ∀ (n : Nat) (i : Nat) (acc : Int32), i ≤ 80 → 80 < i + n → acc = fSum (Z 3) i → zV G X 6 0 0 13 [(0, .ref (ad 1)), (1, .int acc), (2, .ref (ad 2)), (3, .int (nI 80)), (4, .int (nI i))] [] (zent Z sb mcn cp G.2.2.2.1 Y th o od ad) ad := by
    intro n
    induction n with
    | zero => intro i acc h1 h2 hacc; omega
    | succ n ih =>
      intro i acc h1 h2 hacc
      refine z_iload O dX3_noiseSum_13 rfl ?_
      refine z_iload_n O dX3_noiseSum_15 rfl ?_
      refine z_icmp_ge O dX3_noiseSum_16 (tgt := 39) (by decide) (fun h => ?_) (fun h => ?_)
      · have hi : i = 80 := by have := z_ge_ge (by omega) (by decide) h; omega
        subst hi
        refine z_iload_n O dX3_noiseSum_39 rfl ?_
        exact z_iret O dX3_noiseSum_40 (Nat.le_of_ble_eq_true rfl) (Nat.le_of_ble_eq_true rfl) (⟨by subst hacc; rfl, rfl, rfl⟩)
      · have hi : i < 80 := z_ge_lt (by omega) (by decide) h
        refine z_aload_n O dX3_noiseSum_19 rfl ?_
        refine z_iload O dX3_noiseSum_20 rfl ?_
        refine z_aald O (Or.inl rfl) dX3_noiseSum_22 (zg_arr) i rfl hi (by decide) ?_
        refine z_astore O dX3_noiseSum_23 (by decide) ?_
        refine z_iload_n O dX3_noiseSum_25 rfl ?_
        refine z_aload O dX3_noiseSum_26 rfl ?_
        refine z_get O (fk := 3) (fun x h => zI x (zu_RX4 x h)) rfl (by decide) (zI _ zm2_5) dX3_noiseSum_28 (zg_seat hi) rfl ?_
        refine z_iadd O dX3_noiseSum_31 ?_
        refine z_istore_n O dX3_noiseSum_32 (by decide) ?_
        refine z_iincN O dX3_noiseSum_33 (a := i) rfl (by decide) ?_
        refine z_goto O dX3_noiseSum_36 (tgt := 13) (by decide) ?_
        exact zV.loc (ih (i + 1) _ (by omega) (by omega) (by rw [hacc]; rfl)) ⟨rfl, rfl, rfl, rfl, rfl, trivial⟩
  refine z_iconst O dX3_noiseSum_0 (v := 0) (by decide) ?_
  refine z_istore_n O dX3_noiseSum_1 (by decide) ?_
  refine z_aload_n O dX3_noiseSum_2 rfl ?_
  refine z_get O (fk := 0) (fun x h => zI x (zu_RX3 x h)) rfl (by decide) (zI _ zm0_57) dX3_noiseSum_3 (zg_house) rfl ?_
  refine z_astore_n O dX3_noiseSum_6 (by decide) ?_
  refine z_aload_n O dX3_noiseSum_7 rfl ?_
  refine z_alen O (t := 5) (by decide) dX3_noiseSum_8 (zg_arr) ?_
  refine z_istore_n O dX3_noiseSum_9 (by decide) ?_
  refine z_iconst O dX3_noiseSum_10 (v := 0) (by decide) ?_
  refine z_istore O dX3_noiseSum_11 (by decide) ?_
  exact zV.loc (L 81 0 _ (by omega) (by omega) rfl) ⟨rfl, rfl, rfl, rfl, rfl, trivial⟩

def fJoined (Z : zM) : Int32 := fSum (fun k => if Z 6 k = 0 then 0 else 1) 80
set_option maxRecDepth 100000 in
set_option maxHeartbeats 4000000 in
theorem c_X3_countJoined {G : zG} {l : Launch} (hl : l.stackTraces = false) {Z : zM} {sb : Nat → Option Nat} {mcn : Nat → Int32} {cp : Nat → Nat} {Y : zM} {th : Int32} {o : Nat → Int64} {od : Nat → UInt64} {ad : Nat → Nat} : zCt G l yX3_countJoined (zws yX3_countJoined cX3_countJoined 6 (some .int)) ({ frames := 0, cells := 0, slots := 0, locals := 0 }) [.ref (ad 1)] (zent Z sb mcn cp G.2.2.2.1 Y th o od ad) ad (fun r w1 ad1 => some (.int (fJoined Z)) = r ∧ zent Z sb mcn cp G.2.2.2.1 Y th o od ad = w1 ∧ ad = ad1) (zNoX) := by
  refine z_body hl (by decide +kernel) (Nat.le_of_ble_eq_true rfl) (fun X O => ?_)
  have L : ∀ (n : Nat) (i : Nat) (acc : Int32), i ≤ 80 → 80 < i + n → acc = fSum (fun k => if Z 6 k = 0 then 0 else 1) i → zV G X 6 0 0 13 [(0, .ref (ad 1)), (1, .int acc), (2, .ref (ad 2)), (3, .int (nI 80)), (4, .int (nI i))] [] (zent Z sb mcn cp G.2.2.2.1 Y th o od ad) ad := by
    intro n
    induction n with
    | zero => intro i acc h1 h2 hacc; omega
    | succ n ih =>
      intro i acc h1 h2 hacc
      refine z_iload O dX3_countJoined_13 rfl ?_
      refine z_iload_n O dX3_countJoined_15 rfl ?_
      refine z_icmp_ge O dX3_countJoined_16 (tgt := 42) (by decide) (fun h => ?_) (fun h => ?_)
      · have hi : i = 80 := by have := z_ge_ge (by omega) (by decide) h; omega
        subst hi
        refine z_iload_n O dX3_countJoined_42 rfl ?_
        exact z_iret O dX3_countJoined_43 (Nat.le_of_ble_eq_true rfl) (Nat.le_of_ble_eq_true rfl) (⟨by subst hacc; rfl, rfl, rfl⟩)
      · have hi : i < 80 := z_ge_lt (by omega) (by decide) h
        refine z_aload_n O dX3_countJoined_19 rfl ?_
        refine z_iload O dX3_countJoined_20 rfl ?_
        refine z_aald O (Or.inl rfl) dX3_countJoined_22 (zg_arr) i rfl hi (by decide) ?_
        refine z_astore O dX3_countJoined_23 (by decide) ?_
        refine z_aload O dX3_countJoined_25 rfl ?_
        refine z_get O (fk := 5) (fun x h => zI x (zu_RX4 x h)) rfl (by decide) (zI _ zm3_0) dX3_countJoined_27 (zg_seat hi) rfl ?_
        refine z_if_eq O dX3_countJoined_30 (tgt := 36) (by decide) (fun g => ?_) (fun g => ?_)
        · refine z_iincN O dX3_countJoined_36 (a := i) rfl (by decide) ?_
          refine z_goto O dX3_countJoined_39 (tgt := 13) (by decide) ?_
          exact zV.loc (ih (i + 1) _ (by omega) (by omega) (by rw [hacc, fSum_z (f := fun k => if Z 6 k = 0 then 0 else 1) (if_pos g)])) ⟨rfl, rfl, rfl, rfl, rfl, trivial⟩
        · refine z_iinc1 O dX3_countJoined_33 rfl (by decide) ?_
          refine z_iincN O dX3_countJoined_36 (a := i) rfl (by decide) ?_
          refine z_goto O dX3_countJoined_39 (tgt := 13) (by decide) ?_
          exact zV.loc (ih (i + 1) _ (by omega) (by omega) (by rw [hacc, fSum_1 (f := fun k => if Z 6 k = 0 then 0 else 1) (if_neg g)])) ⟨rfl, rfl, rfl, rfl, rfl, trivial⟩
  refine z_iconst O dX3_countJoined_0 (v := 0) (by decide) ?_
  refine z_istore_n O dX3_countJoined_1 (by decide) ?_
  refine z_aload_n O dX3_countJoined_2 rfl ?_
  refine z_get O (fk := 0) (fun x h => zI x (zu_RX3 x h)) rfl (by decide) (zI _ zm0_57) dX3_countJoined_3 (zg_house) rfl ?_
  refine z_astore_n O dX3_countJoined_6 (by decide) ?_
  refine z_aload_n O dX3_countJoined_7 rfl ?_
  refine z_alen O (t := 5) (by decide) dX3_countJoined_8 (zg_arr) ?_
  refine z_istore_n O dX3_countJoined_9 (by decide) ?_
  refine z_iconst O dX3_countJoined_10 (v := 0) (by decide) ?_
  refine z_istore O dX3_countJoined_11 (by decide) ?_
  exact zV.loc (L 81 0 _ (by omega) (by omega) rfl) ⟨rfl, rfl, rfl, rfl, rfl, trivial⟩

def fSeated (Z : zM) (ch : Int32) : Int32 := fSum (fun k => if Z 0 k = ch then 1 else 0) 80
set_option maxRecDepth 100000 in
set_option maxHeartbeats 4000000 in
theorem c_X3_countSeated {G : zG} {l : Launch} (hl : l.stackTraces = false) {Z : zM} {sb : Nat → Option Nat} {mcn : Nat → Int32} {cp : Nat → Nat} {Y : zM} {th : Int32} {o : Nat → Int64} {od : Nat → UInt64} {ad : Nat → Nat} {ch : Int32} : zCt G l yX3_countSeated (zws yX3_countSeated cX3_countSeated 7 (some .int)) ({ frames := 0, cells := 0, slots := 0, locals := 0 }) [.ref (ad 1), .int ch] (zent Z sb mcn cp G.2.2.2.1 Y th o od ad) ad (fun r w1 ad1 => some (.int (fSeated Z ch)) = r ∧ zent Z sb mcn cp G.2.2.2.1 Y th o od ad = w1 ∧ ad = ad1) (zNoX) := by
  refine z_body hl (by decide +kernel) (Nat.le_of_ble_eq_true rfl) (fun X O => ?_)
  have L : ∀ (n : Nat) (i : Nat) (acc : Int32), i ≤ 80 → 80 < i + n → acc = fSum (fun k => if Z 0 k = ch then 1 else 0) i → zV G X 7 0 0 14 [(0, .ref (ad 1)), (1, .int ch), (2, .int acc), (3, .ref (ad 2)), (4, .int (nI 80)), (5, .int (nI i))] [] (zent Z sb mcn cp G.2.2.2.1 Y th o od ad) ad := by
    intro n
    induction n with
    | zero => intro i acc h1 h2 hacc; omega
    | succ n ih =>
      intro i acc h1 h2 hacc
      refine z_iload O dX3_countSeated_14 rfl ?_
      refine z_iload O dX3_countSeated_16 rfl ?_
      refine z_icmp_ge O dX3_countSeated_18 (tgt := 45) (by decide) (fun h => ?_) (fun h => ?_)
      · have hi : i = 80 := by have := z_ge_ge (by omega) (by decide) h; omega
        subst hi
        refine z_iload_n O dX3_countSeated_45 rfl ?_
        exact z_iret O dX3_countSeated_46 (Nat.le_of_ble_eq_true rfl) (Nat.le_of_ble_eq_true rfl) (⟨by subst hacc; rfl, rfl, rfl⟩)
      · have hi : i < 80 := z_ge_lt (by omega) (by decide) h
        refine z_aload_n O dX3_countSeated_21 rfl ?_
        refine z_iload O dX3_countSeated_22 rfl ?_
        refine z_aald O (Or.inl rfl) dX3_countSeated_24 (zg_arr) i rfl hi (by decide) ?_
        refine z_astore O dX3_countSeated_25 (by decide) ?_
        refine z_aload O dX3_countSeated_27 rfl ?_
        refine z_get O (fk := 0) (fun x h => zI x (zu_RX4 x h)) rfl (by decide) (zI _ zm2_15) dX3_countSeated_29 (zg_seat hi) rfl ?_
        refine z_iload_n O dX3_countSeated_32 rfl ?_
        refine z_icmp_ne O dX3_countSeated_33 (tgt := 39) (by decide) (fun g => ?_) (fun g => ?_)
        · refine z_iincN O dX3_countSeated_39 (a := i) rfl (by decide) ?_
          refine z_goto O dX3_countSeated_42 (tgt := 14) (by decide) ?_
          exact zV.loc (ih (i + 1) _ (by omega) (by omega) (by rw [hacc, fSum_z (f := fun k => if Z 0 k = ch then 1 else 0) (if_neg g)])) ⟨rfl, rfl, rfl, rfl, rfl, rfl, trivial⟩
        · refine z_iinc1 O dX3_countSeated_36 rfl (by decide) ?_
          refine z_iincN O dX3_countSeated_39 (a := i) rfl (by decide) ?_
          refine z_goto O dX3_countSeated_42 (tgt := 14) (by decide) ?_
          exact zV.loc (ih (i + 1) _ (by omega) (by omega) (by rw [hacc, fSum_1 (f := fun k => if Z 0 k = ch then 1 else 0) (if_pos g)])) ⟨rfl, rfl, rfl, rfl, rfl, rfl, trivial⟩
  refine z_iconst O dX3_countSeated_0 (v := 0) (by decide) ?_
  refine z_istore_n O dX3_countSeated_1 (by decide) ?_
  refine z_aload_n O dX3_countSeated_2 rfl ?_
  refine z_get O (fk := 0) (fun x h => zI x (zu_RX3 x h)) rfl (by decide) (zI _ zm0_57) dX3_countSeated_3 (zg_house) rfl ?_
  refine z_astore_n O dX3_countSeated_6 (by decide) ?_
  refine z_aload_n O dX3_countSeated_7 rfl ?_
  refine z_alen O (t := 5) (by decide) dX3_countSeated_8 (zg_arr) ?_
  refine z_istore O dX3_countSeated_9 (by decide) ?_
  refine z_iconst O dX3_countSeated_11 (v := 0) (by decide) ?_
  refine z_istore O dX3_countSeated_12 (by decide) ?_
  exact zV.loc (L 81 0 _ (by omega) (by omega) rfl) ⟨rfl, rfl, rfl, rfl, rfl, rfl, trivial⟩

def fNoisy (Z : zM) (ch : Int32) : Int32 := fSum (fun k => if Z 0 k = ch ∧ 0 < Z 3 k then 1 else 0) 80
set_option maxRecDepth 100000 in
set_option maxHeartbeats 4000000 in
theorem c_X3_countNoisy {G : zG} {l : Launch} (hl : l.stackTraces = false) {Z : zM} {sb : Nat → Option Nat} {mcn : Nat → Int32} {cp : Nat → Nat} {Y : zM} {th : Int32} {o : Nat → Int64} {od : Nat → UInt64} {ad : Nat → Nat} {ch : Int32} : zCt G l yX3_countNoisy (zws yX3_countNoisy cX3_countNoisy 7 (some .int)) ({ frames := 0, cells := 0, slots := 0, locals := 0 }) [.ref (ad 1), .int ch] (zent Z sb mcn cp G.2.2.2.1 Y th o od ad) ad (fun r w1 ad1 => some (.int (fNoisy Z ch)) = r ∧ zent Z sb mcn cp G.2.2.2.1 Y th o od ad = w1 ∧ ad = ad1) (zNoX) := by
  refine z_body hl (by decide +kernel) (Nat.le_of_ble_eq_true rfl) (fun X O => ?_)
  have L : ∀ (n : Nat) (i : Nat) (acc : Int32), i ≤ 80 → 80 < i + n → acc = fSum (fun k => if Z 0 k = ch ∧ 0 < Z 3 k then 1 else 0) i → zV G X 7 0 0 14 [(0, .ref (ad 1)), (1, .int ch), (2, .int acc), (3, .ref (ad 2)), (4, .int (nI 80)), (5, .int (nI i))] [] (zent Z sb mcn cp G.2.2.2.1 Y th o od ad) ad := by
    intro n
    induction n with
    | zero => intro i acc h1 h2 hacc; omega
    | succ n ih =>
      intro i acc h1 h2 hacc
      refine z_iload O dX3_countNoisy_14 rfl ?_
      refine z_iload O dX3_countNoisy_16 rfl ?_
      refine z_icmp_ge O dX3_countNoisy_18 (tgt := 53) (by decide) (fun h => ?_) (fun h => ?_)
      · have hi : i = 80 := by have := z_ge_ge (by omega) (by decide) h; omega
        subst hi
        refine z_iload_n O dX3_countNoisy_53 rfl ?_
        exact z_iret O dX3_countNoisy_54 (Nat.le_of_ble_eq_true rfl) (Nat.le_of_ble_eq_true rfl) (⟨by subst hacc; rfl, rfl, rfl⟩)
      · have hi : i < 80 := z_ge_lt (by omega) (by decide) h
        refine z_aload_n O dX3_countNoisy_21 rfl ?_
        refine z_iload O dX3_countNoisy_22 rfl ?_
        refine z_aald O (Or.inl rfl) dX3_countNoisy_24 (zg_arr) i rfl hi (by decide) ?_
        refine z_astore O dX3_countNoisy_25 (by decide) ?_
        refine z_aload O dX3_countNoisy_27 rfl ?_
        refine z_get O (fk := 0) (fun x h => zI x (zu_RX4 x h)) rfl (by decide) (zI _ zm2_15) dX3_countNoisy_29 (zg_seat hi) rfl ?_
        refine z_iload_n O dX3_countNoisy_32 rfl ?_
        refine z_icmp_ne O dX3_countNoisy_33 (tgt := 47) (by decide) (fun g => ?_) (fun g => ?_)
        · refine z_iincN O dX3_countNoisy_47 (a := i) rfl (by decide) ?_
          refine z_goto O dX3_countNoisy_50 (tgt := 14) (by decide) ?_
          exact zV.loc (ih (i + 1) _ (by omega) (by omega) (by rw [hacc, fSum_z (f := fun k => if Z 0 k = ch ∧ 0 < Z 3 k then 1 else 0) (if_neg (fun q => g q.1))])) ⟨rfl, rfl, rfl, rfl, rfl, rfl, trivial⟩
        · refine z_aload O dX3_countNoisy_36 rfl ?_
          refine z_get O (fk := 3) (fun x h => zI x (zu_RX4 x h)) rfl (by decide) (zI _ zm2_5) dX3_countNoisy_38 (zg_seat hi) rfl ?_
          refine z_if_le O dX3_countNoisy_41 (tgt := 47) (by decide) (fun g2 => ?_) (fun g2 => ?_)
          · refine z_iincN O dX3_countNoisy_47 (a := i) rfl (by decide) ?_
            refine z_goto O dX3_countNoisy_50 (tgt := 14) (by decide) ?_
            exact zV.loc (ih (i + 1) _ (by omega) (by omega) (by rw [hacc, fSum_z (f := fun k => if Z 0 k = ch ∧ 0 < Z 3 k then 1 else 0) (if_neg (fun q => absurd q.2 (Int32.not_lt.mpr g2)))])) ⟨rfl, rfl, rfl, rfl, rfl, rfl, trivial⟩
          · refine z_iinc1 O dX3_countNoisy_44 rfl (by decide) ?_
            refine z_iincN O dX3_countNoisy_47 (a := i) rfl (by decide) ?_
            refine z_goto O dX3_countNoisy_50 (tgt := 14) (by decide) ?_
            exact zV.loc (ih (i + 1) _ (by omega) (by omega) (by rw [hacc, fSum_1 (f := fun k => if Z 0 k = ch ∧ 0 < Z 3 k then 1 else 0) (if_pos ⟨g, Int32.not_le.mp g2⟩)])) ⟨rfl, rfl, rfl, rfl, rfl, rfl, trivial⟩
  refine z_iconst O dX3_countNoisy_0 (v := 0) (by decide) ?_
  refine z_istore_n O dX3_countNoisy_1 (by decide) ?_
  refine z_aload_n O dX3_countNoisy_2 rfl ?_
  refine z_get O (fk := 0) (fun x h => zI x (zu_RX3 x h)) rfl (by decide) (zI _ zm0_57) dX3_countNoisy_3 (zg_house) rfl ?_
  refine z_astore_n O dX3_countNoisy_6 (by decide) ?_
  refine z_aload_n O dX3_countNoisy_7 rfl ?_
  refine z_alen O (t := 5) (by decide) dX3_countNoisy_8 (zg_arr) ?_
  refine z_istore O dX3_countNoisy_9 (by decide) ?_
  refine z_iconst O dX3_countNoisy_11 (v := 0) (by decide) ?_
  refine z_istore O dX3_countNoisy_12 (by decide) ?_
  exact zV.loc (L 81 0 _ (by omega) (by omega) rfl) ⟨rfl, rfl, rfl, rfl, rfl, rfl, trivial⟩
