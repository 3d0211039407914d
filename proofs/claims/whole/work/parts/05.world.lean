/-! ===== the world of this claim: one table of numbers for the class (Z), one for the reference (Y) ===== -/
/-- numbers: which table, which place. 0 who, 1 threshold, 2 handIn, 3 noise, 4 joined (how often), 5 before, 6 joins, 7 hissed, 8 hissedBefore (a seat each); 9 handKind, 11 strength, 12 rank, 13 price, 14 money (a hand each); 15 night, 16 perCall, 17 owed, 18 callsOf (a singer each); 10 cueKind, 19 cueSinger, 20 cueTick, 21 cueForce, 22 cueTicks (a cue each); at place 0: 23 rows, 24 wide, 25 hands, 26 singers, 27 cues, 28 level, 29 ticks, 30 loud, 31 calls, 32 hisses, 33 suspicions, 34 purse, 35 chiefs -/
abbrev zM : Type := Nat → Nat → Int32
def zu (Z : zM) (F k : Nat) (v : Int32) : zM := fun f j => if f = F ∧ j = k then v else Z f j
theorem zu_s (Z : zM) (F k : Nat) (v : Int32) : zu Z F k v F k = v := by simp [zu]
theorem zu_f {Z : zM} {F f k j : Nat} {v : Int32} (h : f ≠ F) : zu Z F k v f j = Z f j := by simp [zu, h]
theorem zu_k {Z : zM} {F f k j : Nat} {v : Int32} (h : j ≠ k) : zu Z F k v f j = Z f j := by simp [zu, h]
def zh (x : Int32) : Option Nat := if x < 0 then none else some x.toNatClampNeg
def zN (Z : zM) (i : Nat) : Nat := (Z (25 + i) 0).toNatClampNeg
def eX (Z : zM) (ad : Nat → Nat) : zE := .inr (10, [.ref (ad 1), .ref (ad 3), .ref (ad 6), .ref (ad 4), .int (Z 34 0), .int (Z 35 0)])
def eHouse (Z : zM) (ad : Nat → Nat) : zE := .inr (6, [.ref (ad 2), .int (Z 23 0), .int (Z 24 0)])
def eArr (ad : Nat → Nat) : zE := .inl (5, (80, .inr (.inr (.inr (.inr (fun k => some (ad (100 + k))))))))
def eTr (ad : Nat → Nat) : zE := .inr (9, [.ref (ad 5)])
def eEv (Z : zM) (ad : Nat → Nat) : zE := .inr (4, [.ref (ad 7), .int (Z 28 0), .int (Z 29 0), .int (Z 30 0), .int (Z 31 0), .int (Z 32 0), .int (Z 33 0)])
def eList (Z : zM) (mcn : Nat → Int32) (cp : Nat → Nat) (e0 : Nat) (ad : Nat → Nat) (i : Nat) : zE := .inr (2, [.int (mcn i), .ref (if cp i = 0 then e0 else ad (8 + i)), .int (Z (25 + i) 0)])
def eLArr (Z : zM) (cp : Nat → Nat) (ad : Nat → Nat) (i : Nat) : zE := .inl (6, (cp i, .inr (.inr (.inr (.inr (fun k => if k < zN Z i then some (ad (200 + 20 * i + k)) else none))))))
def sSeat (Z : zM) (ad : Nat → Nat) (k : Nat) : List Value := [.int (Z 0 k), .int (Z 1 k), va_rf ((zh (Z 2 k)).map (fun j => ad (200 + j))), .int (Z 3 k), .int (Z 5 k), .int (Z 6 k), .int (Z 4 k), .int (Z 7 k), .int (Z 8 k)]
def sHand (Z : zM) (sb : Nat → Option Nat) (ad : Nat → Nat) (j : Nat) : List Value := [.int (Z 9 j), .int (Z 11 j), .int (Z 12 j), .int (Z 13 j), .int (Z 14 j), va_rf ((sb j).map (fun k => ad (100 + k)))]
def sSinger (Z : zM) (j : Nat) : List Value := [.int (Z 15 j), .int (Z 16 j), .int (Z 18 j), .int (Z 17 j)]
def sCue (Z : zM) (ad : Nat → Nat) (j : Nat) : List Value := [.ref (ad (220 + (Z 19 j).toNatClampNeg)), .int (Z 10 j), .int (Z 20 j), .int (Z 21 j), .int (Z 22 j)]
def zC (Z : zM) (sb : Nat → Option Nat) (mcn : Nat → Int32) (cp : Nat → Nat) (e0 : Nat) (ad : Nat → Nat) (i : Nat) : Option zE :=
  if i < 100 then
    (if i = 0 then some (eX Z ad) else if i = 1 then some (eHouse Z ad) else if i = 2 then some (eArr ad) else if i = 3 then some (eTr ad) else if i = 4 then some (eEv Z ad)
      else if i < 8 then some (eList Z mcn cp e0 ad (i - 5)) else if i < 11 then (if cp (i - 8) = 0 then none else some (eLArr Z cp ad (i - 8))) else none)
  else if i < 180 then some (.inr (7, sSeat Z ad (i - 100)))
  else if i < 200 then none
  else if i < 220 then (if i - 200 < zN Z 0 then some (.inr (5, sHand Z sb ad (i - 200))) else none)
  else if i < 240 then (if i - 220 < zN Z 1 then some (.inr (8, sSinger Z (i - 220))) else none)
  else if i < 260 then (if i - 240 < zN Z 2 then some (.inr (3, sCue Z ad (i - 240))) else none)
  else none
def sModel (Y : zM) (th : Int32) (ad : Nat → Nat) : List Value := [.ref (ad 301), .ref (ad 302), .ref (ad 303), .ref (ad 304), .ref (ad 305), .ref (ad 306), .ref (ad 307), .ref (ad 308), .ref (ad 309), .ref (ad 310), .ref (ad 311), .ref (ad 312), .ref (ad 313), .ref (ad 314), .ref (ad 315), .ref (ad 316), .ref (ad 317), .ref (ad 318), .ref (ad 319), .ref (ad 320), .ref (ad 321), .ref (ad 322), .ref (ad 323), .int (Y 23 0), .int (Y 24 0), .int (Y 25 0), .int (Y 26 0), .int (Y 27 0), .int (Y 28 0), .int (Y 29 0), .int (Y 30 0), .int (Y 31 0), .int (Y 32 0), .int (Y 33 0), .int (Y 34 0), .int (Y 35 0), .int th]
def mty (i : Nat) : Nat := if i = 0 ∨ i = 9 ∨ i = 10 then 1 else if i = 6 ∨ i = 7 ∨ i = 8 then 2 else 0
def mln (i : Nat) : Nat := if i < 9 then 80 else if 15 ≤ i ∧ i < 19 then 6 else 12
def zD (Y : zM) (th : Int32) (o : Nat → Int64) (od : Nat → UInt64) (ad : Nat → Nat) (i : Nat) : Option zE :=
  if i = 300 then some (.inr (11, sModel Y th ad))
  else if i < 324 then some (.inl (mty (i - 301), (mln (i - 301), .inl (Y (i - 301)))))
  else if i = 340 then some (.inl (3, (1, .inr (.inl o))))
  else if i = 341 then some (.inl (4, (1, .inr (.inr (.inr (.inl od))))))
  else none
def zent (Z : zM) (sb : Nat → Option Nat) (mcn : Nat → Int32) (cp : Nat → Nat) (e0 : Nat) (Y : zM) (th : Int32) (o : Nat → Int64) (od : Nat → UInt64) (ad : Nat → Nat) : zH := fun i => if i < 300 then zC Z sb mcn cp e0 ad i else zD Y th o od ad i
section ZENT
variable {Z : zM} {sb : Nat → Option Nat} {mcn : Nat → Int32} {cp : Nat → Nat} {e0 : Nat} {Y : zM} {th : Int32} {o : Nat → Int64} {od : Nat → UInt64} {ad : Nat → Nat}
theorem zg_x : zent Z sb mcn cp e0 Y th o od ad 0 = some (eX Z ad) := rfl
theorem zg_house : zent Z sb mcn cp e0 Y th o od ad 1 = some (eHouse Z ad) := rfl
theorem zg_arr : zent Z sb mcn cp e0 Y th o od ad 2 = some (eArr ad) := rfl
theorem zg_tr : zent Z sb mcn cp e0 Y th o od ad 3 = some (eTr ad) := rfl
theorem zg_ev : zent Z sb mcn cp e0 Y th o od ad 4 = some (eEv Z ad) := rfl
theorem zg_list {i : Nat} (h : i < 3) : zent Z sb mcn cp e0 Y th o od ad (5 + i) = some (eList Z mcn cp e0 ad i) := by
  rcases (show i = 0 ∨ i = 1 ∨ i = 2 by omega) with rfl | rfl | rfl <;> rfl
theorem zg_larr {i : Nat} (h : i < 3) (hc : cp i ≠ 0) : zent Z sb mcn cp e0 Y th o od ad (8 + i) = some (eLArr Z cp ad i) := by
  rcases (show i = 0 ∨ i = 1 ∨ i = 2 by omega) with rfl | rfl | rfl <;> simp [zent, zC, hc]
theorem zg_seat {k : Nat} (h : k < 80) : zent Z sb mcn cp e0 Y th o od ad (100 + k) = some (.inr (7, sSeat Z ad k)) := by
  simp only [zent, zC]
  rw [if_pos (by omega), if_neg (by omega), if_pos (by omega), show 100 + k - 100 = k by omega]
theorem zg_hand {k : Nat} (h : k < zN Z 0) (h2 : k < 20) : zent Z sb mcn cp e0 Y th o od ad (200 + k) = some (.inr (5, sHand Z sb ad k)) := by
  simp only [zent, zC]
  rw [if_pos (by omega), if_neg (by omega), if_neg (by omega), if_neg (by omega), if_pos (by omega), show 200 + k - 200 = k by omega, if_pos h]
theorem zg_singer {k : Nat} (h : k < zN Z 1) (h2 : k < 20) : zent Z sb mcn cp e0 Y th o od ad (220 + k) = some (.inr (8, sSinger Z k)) := by
  simp only [zent, zC]
  rw [if_pos (by omega), if_neg (by omega), if_neg (by omega), if_neg (by omega), if_neg (by omega), if_pos (by omega), show 220 + k - 220 = k by omega, if_pos h]
theorem zg_cue {k : Nat} (h : k < zN Z 2) (h2 : k < 20) : zent Z sb mcn cp e0 Y th o od ad (240 + k) = some (.inr (3, sCue Z ad k)) := by
  simp only [zent, zC]
  rw [if_pos (by omega), if_neg (by omega), if_neg (by omega), if_neg (by omega), if_neg (by omega), if_neg (by omega), if_pos (by omega), show 240 + k - 240 = k by omega, if_pos h]
theorem zg_model : zent Z sb mcn cp e0 Y th o od ad 300 = some (.inr (11, sModel Y th ad)) := rfl
theorem zg_marr {i : Nat} (h : i < 23) : zent Z sb mcn cp e0 Y th o od ad (301 + i) = some (.inl (mty i, (mln i, .inl (Y i)))) := by
  simp only [zent, zD]
  rw [if_neg (by omega), if_neg (by omega), if_pos (by omega), show 301 + i - 301 = i by omega]
theorem zg_out : zent Z sb mcn cp e0 Y th o od ad 340 = some (.inl (3, (1, .inr (.inl o)))) := rfl
theorem zg_outD : zent Z sb mcn cp e0 Y th o od ad 341 = some (.inl (4, (1, .inr (.inr (.inr (.inl od)))))) := rfl
/-- the world behind a change of numbers that only one cell shows -/
theorem zp_gen {Z' : zM} {sb' : Nat → Option Nat} {i : Nat} {e : zE} (hi : i < 300) (he : zC Z' sb' mcn cp e0 ad i = some e)
    (hX : i ≠ 0 → eX Z' ad = eX Z ad) (hH : i ≠ 1 → eHouse Z' ad = eHouse Z ad) (hE : i ≠ 4 → eEv Z' ad = eEv Z ad) (hN : ∀ a, a < 3 → Z' (25 + a) 0 = Z (25 + a) 0)
    (hS : ∀ b, b < 80 → i ≠ 100 + b → sSeat Z' ad b = sSeat Z ad b) (hHd : ∀ b, b < 20 → i ≠ 200 + b → sHand Z' sb' ad b = sHand Z sb ad b) (hSg : ∀ b, b < 20 → i ≠ 220 + b → sSinger Z' b = sSinger Z b) (hCu : ∀ b, b < 20 → i ≠ 240 + b → sCue Z' ad b = sCue Z ad b) :
    ∀ j, zent Z' sb' mcn cp e0 Y th o od ad j = if j = i then some e else zent Z sb mcn cp e0 Y th o od ad j := by
  intro j
  by_cases hj : j = i
  · subst hj
    rw [if_pos rfl]
    simp only [zent, if_pos hi]
    exact he
  · rw [if_neg hj]
    have hNn : ∀ a, a < 3 → zN Z' a = zN Z a := fun a ha => by simp only [zN, hN a ha]
    by_cases h : j < 300
    · simp only [zent, if_pos h, zC]
      by_cases h1 : j < 100
      · rw [if_pos h1, if_pos h1]
        by_cases j0 : j = 0
        · rw [if_pos j0, if_pos j0, hX (by omega)]
        rw [if_neg j0, if_neg j0]
        by_cases j1 : j = 1
        · rw [if_pos j1, if_pos j1, hH (by omega)]
        rw [if_neg j1, if_neg j1]
        by_cases j2 : j = 2
        · rw [if_pos j2, if_pos j2]
        rw [if_neg j2, if_neg j2]
        by_cases j3 : j = 3
        · rw [if_pos j3, if_pos j3]
        rw [if_neg j3, if_neg j3]
        by_cases j4 : j = 4
        · rw [if_pos j4, if_pos j4, hE (by omega)]
        rw [if_neg j4, if_neg j4]
        by_cases j8 : j < 8
        · rw [if_pos j8, if_pos j8]
          simp only [eList, hN (j - 5) (by omega)]
        rw [if_neg j8, if_neg j8]
        by_cases j11 : j < 11
        · rw [if_pos j11, if_pos j11]
          unfold eLArr
          rw [hNn (j - 8) (by omega)]
        rw [if_neg j11, if_neg j11]
      · rw [if_neg h1, if_neg h1]
        by_cases h2 : j < 180
        · rw [if_pos h2, if_pos h2, hS (j - 100) (by omega) (by omega)]
        rw [if_neg h2, if_neg h2]
        by_cases h3 : j < 200
        · rw [if_pos h3, if_pos h3]
        rw [if_neg h3, if_neg h3]
        by_cases h4 : j < 220
        · rw [if_pos h4, if_pos h4, hNn 0 (by omega), hHd (j - 200) (by omega) (by omega)]
        rw [if_neg h4, if_neg h4]
        by_cases h5 : j < 240
        · rw [if_pos h5, if_pos h5, hNn 1 (by omega), hSg (j - 220) (by omega) (by omega)]
        rw [if_neg h5, if_neg h5]
        by_cases h6 : j < 260
        · rw [if_pos h6, if_pos h6, hNn 2 (by omega), hCu (j - 240) (by omega) (by omega)]
        rw [if_neg h6, if_neg h6]
    · simp only [zent, if_neg h]
theorem zC_seat {k : Nat} (h : k < 80) : zC Z sb mcn cp e0 ad (100 + k) = some (.inr (7, sSeat Z ad k)) := by
  simp only [zC]
  rw [if_neg (by omega), if_pos (by omega), show 100 + k - 100 = k by omega]
theorem zC_hand {k : Nat} (h : k < zN Z 0) (h2 : k < 20) : zC Z sb mcn cp e0 ad (200 + k) = some (.inr (5, sHand Z sb ad k)) := by
  simp only [zC]
  rw [if_neg (by omega), if_neg (by omega), if_neg (by omega), if_pos (by omega), show 200 + k - 200 = k by omega, if_pos h]
theorem zC_singer {k : Nat} (h : k < zN Z 1) (h2 : k < 20) : zC Z sb mcn cp e0 ad (220 + k) = some (.inr (8, sSinger Z k)) := by
  simp only [zC]
  rw [if_neg (by omega), if_neg (by omega), if_neg (by omega), if_neg (by omega), if_pos (by omega), show 220 + k - 220 = k by omega, if_pos h]
/-- a number of a seat changes -/
theorem zp_seat {k F p : Nat} {v : Int32} (hk : k < 80) (hF : F < 9) (hs : sSeat (zu Z F k v) ad k = (sSeat Z ad k).set p (.int v)) : ∀ j, zent (zu Z F k v) sb mcn cp e0 Y th o od ad j = if j = 100 + k then some (.inr (7, (sSeat Z ad k).set p (.int v))) else zent Z sb mcn cp e0 Y th o od ad j := by
  have hz : ∀ f a, 9 ≤ f → zu Z F k v f a = Z f a := fun f a h => zu_f (by omega)
  refine zp_gen (by omega) (by rw [zC_seat hk, hs]) (fun _ => ?_) (fun _ => ?_) (fun _ => ?_) (fun a _ => hz _ _ (by omega)) (fun b hb hn => ?_) (fun b _ _ => ?_) (fun b _ _ => ?_) (fun b _ _ => ?_)
  · simp [eX, hz]
  · simp [eHouse, hz]
  · simp [eEv, hz]
  · have : b ≠ k := by omega
    simp only [sSeat, zu_k this]
  · simp [sHand, hz]
  · simp [sSinger, hz]
  · simp [sCue, hz]
theorem zp_seat_who {k : Nat} {v : Int32} (hk : k < 80) : ∀ j, zent (zu Z 0 k v) sb mcn cp e0 Y th o od ad j = if j = 100 + k then some (.inr (7, (sSeat Z ad k).set 0 (.int v))) else zent Z sb mcn cp e0 Y th o od ad j := zp_seat hk (by omega) (by simp [sSeat, zu])
theorem zp_seat_threshold {k : Nat} {v : Int32} (hk : k < 80) : ∀ j, zent (zu Z 1 k v) sb mcn cp e0 Y th o od ad j = if j = 100 + k then some (.inr (7, (sSeat Z ad k).set 1 (.int v))) else zent Z sb mcn cp e0 Y th o od ad j := zp_seat hk (by omega) (by simp [sSeat, zu])
theorem zp_seat_noise {k : Nat} {v : Int32} (hk : k < 80) : ∀ j, zent (zu Z 3 k v) sb mcn cp e0 Y th o od ad j = if j = 100 + k then some (.inr (7, (sSeat Z ad k).set 3 (.int v))) else zent Z sb mcn cp e0 Y th o od ad j := zp_seat hk (by omega) (by simp [sSeat, zu])
theorem zp_seat_noiseAhead {k : Nat} {v : Int32} (hk : k < 80) : ∀ j, zent (zu Z 5 k v) sb mcn cp e0 Y th o od ad j = if j = 100 + k then some (.inr (7, (sSeat Z ad k).set 4 (.int v))) else zent Z sb mcn cp e0 Y th o od ad j := zp_seat hk (by omega) (by simp [sSeat, zu])
theorem zp_seat_joined {k : Nat} {v : Int32} (hk : k < 80) : ∀ j, zent (zu Z 6 k v) sb mcn cp e0 Y th o od ad j = if j = 100 + k then some (.inr (7, (sSeat Z ad k).set 5 (.int v))) else zent Z sb mcn cp e0 Y th o od ad j := zp_seat hk (by omega) (by simp [sSeat, zu])
theorem zp_seat_joins {k : Nat} {v : Int32} (hk : k < 80) : ∀ j, zent (zu Z 4 k v) sb mcn cp e0 Y th o od ad j = if j = 100 + k then some (.inr (7, (sSeat Z ad k).set 6 (.int v))) else zent Z sb mcn cp e0 Y th o od ad j := zp_seat hk (by omega) (by simp [sSeat, zu])
theorem zp_seat_hissed {k : Nat} {v : Int32} (hk : k < 80) : ∀ j, zent (zu Z 7 k v) sb mcn cp e0 Y th o od ad j = if j = 100 + k then some (.inr (7, (sSeat Z ad k).set 7 (.int v))) else zent Z sb mcn cp e0 Y th o od ad j := zp_seat hk (by omega) (by simp [sSeat, zu])
theorem zp_seat_hissedAhead {k : Nat} {v : Int32} (hk : k < 80) : ∀ j, zent (zu Z 8 k v) sb mcn cp e0 Y th o od ad j = if j = 100 + k then some (.inr (7, (sSeat Z ad k).set 8 (.int v))) else zent Z sb mcn cp e0 Y th o od ad j := zp_seat hk (by omega) (by simp [sSeat, zu])
/-- a seat's hand changes -/
theorem zp_seat_hand {k : Nat} {v : Int32} {r : Option Nat} (hk : k < 80) (hr : zh v = r) : ∀ j, zent (zu Z 2 k v) sb mcn cp e0 Y th o od ad j = if j = 100 + k then some (.inr (7, (sSeat Z ad k).set 2 (va_rf (r.map (fun j => ad (200 + j)))))) else zent Z sb mcn cp e0 Y th o od ad j := by
  have hz : ∀ f a, 9 ≤ f → zu Z 2 k v f a = Z f a := fun f a h => zu_f (by omega)
  subst hr
  refine zp_gen (by omega) (by rw [zC_seat hk]; simp [sSeat, zu]) (fun _ => ?_) (fun _ => ?_) (fun _ => ?_) (fun a _ => hz _ _ (by omega)) (fun b hb hn => ?_) (fun b _ _ => ?_) (fun b _ _ => ?_) (fun b _ _ => ?_)
  · simp [eX, hz]
  · simp [eHouse, hz]
  · simp [eEv, hz]
  · have : b ≠ k := by omega
    simp only [sSeat, zu_k this]
  · simp [sHand, hz]
  · simp [sSinger, hz]
  · simp [sCue, hz]
/-- a hand's seat changes, its money -/
theorem zp_hand_seat {k : Nat} {r : Option Nat} (hk : k < zN Z 0) (h2 : k < 20) : ∀ j, zent Z (va_up sb k r) mcn cp e0 Y th o od ad j = if j = 200 + k then some (.inr (5, (sHand Z sb ad k).set 5 (va_rf (r.map (fun k => ad (100 + k)))))) else zent Z sb mcn cp e0 Y th o od ad j := by
  refine zp_gen (by omega) (by rw [zC_hand hk h2]; simp [sHand, va_up]) (fun _ => rfl) (fun _ => rfl) (fun _ => rfl) (fun a _ => rfl) (fun b hb hn => rfl) (fun b _ hn => ?_) (fun b _ _ => rfl) (fun b _ _ => rfl)
  have : b ≠ k := by omega
  simp [sHand, va_up, this]
theorem zp_hand_money {k : Nat} {v : Int32} (hk : k < zN Z 0) (h2 : k < 20) : ∀ j, zent (zu Z 14 k v) sb mcn cp e0 Y th o od ad j = if j = 200 + k then some (.inr (5, (sHand Z sb ad k).set 4 (.int v))) else zent Z sb mcn cp e0 Y th o od ad j := by
  refine zp_gen (by omega) (by rw [zC_hand (by simpa [zN, zu] using hk) h2]; simp [sHand, zu]) (fun _ => by simp [eX, zu]) (fun _ => by simp [eHouse, zu]) (fun _ => by simp [eEv, zu]) (fun a _ => by simp [zu]; omega) (fun b hb hn => by simp [sSeat, zu]) (fun b _ hn => ?_) (fun b _ _ => by simp [sSinger, zu]) (fun b _ _ => by simp [sCue, zu])
  have : b ≠ k := by omega
  simp [sHand, zu, this]
/-- a singer's calls, and debt -/
theorem zp_singer_calls {k : Nat} {v : Int32} (hk : k < zN Z 1) (h2 : k < 20) : ∀ j, zent (zu Z 18 k v) sb mcn cp e0 Y th o od ad j = if j = 220 + k then some (.inr (8, (sSinger Z k).set 2 (.int v))) else zent Z sb mcn cp e0 Y th o od ad j := by
  refine zp_gen (by omega) (by rw [zC_singer (by simpa [zN, zu] using hk) h2]; simp [sSinger, zu]) (fun _ => by simp [eX, zu]) (fun _ => by simp [eHouse, zu]) (fun _ => by simp [eEv, zu]) (fun a _ => by simp [zu]; omega) (fun b hb hn => by simp [sSeat, zu]) (fun b _ hn => by simp [sHand, zu]) (fun b _ hn => ?_) (fun b _ _ => by simp [sCue, zu])
  have : b ≠ k := by omega
  simp [sSinger, zu, this]
theorem zp_singer_owed {k : Nat} {v : Int32} (hk : k < zN Z 1) (h2 : k < 20) : ∀ j, zent (zu Z 17 k v) sb mcn cp e0 Y th o od ad j = if j = 220 + k then some (.inr (8, (sSinger Z k).set 3 (.int v))) else zent Z sb mcn cp e0 Y th o od ad j := by
  refine zp_gen (by omega) (by rw [zC_singer (by simpa [zN, zu] using hk) h2]; simp [sSinger, zu]) (fun _ => by simp [eX, zu]) (fun _ => by simp [eHouse, zu]) (fun _ => by simp [eEv, zu]) (fun a _ => by simp [zu]; omega) (fun b hb hn => by simp [sSeat, zu]) (fun b _ hn => by simp [sHand, zu]) (fun b _ hn => ?_) (fun b _ _ => by simp [sCue, zu])
  have : b ≠ k := by omega
  simp [sSinger, zu, this]
/-- single numbers: of the evening (28 to 33, slots 1 to 6), the house (23, 24: 1, 2), the claque (34, 35: 4, 5) -/
theorem zp_ev {F p : Nat} {v : Int32} (hF : 28 ≤ F ∧ F < 34) (hs : eEv (zu Z F 0 v) ad = .inr (4, ([.ref (ad 7), .int (Z 28 0), .int (Z 29 0), .int (Z 30 0), .int (Z 31 0), .int (Z 32 0), .int (Z 33 0)] : List Value).set p (.int v))) : ∀ j, zent (zu Z F 0 v) sb mcn cp e0 Y th o od ad j = if j = 4 then some (.inr (4, ([.ref (ad 7), .int (Z 28 0), .int (Z 29 0), .int (Z 30 0), .int (Z 31 0), .int (Z 32 0), .int (Z 33 0)] : List Value).set p (.int v))) else zent Z sb mcn cp e0 Y th o od ad j := by
  have hz : ∀ f a, f < 28 ∨ 34 ≤ f → zu Z F 0 v f a = Z f a := fun f a h => zu_f (by omega)
  refine zp_gen (by omega) (by rw [← hs]; rfl) (fun _ => by simp [eX, hz]) (fun _ => by simp [eHouse, hz]) (fun h => absurd rfl h) (fun a _ => hz _ _ (by omega)) (fun b hb hn => by simp [sSeat, hz]) (fun b _ hn => by simp [sHand, hz]) (fun b _ hn => by simp [sSinger, hz]) (fun b _ _ => by simp [sCue, hz])
theorem zp_house {F p : Nat} {v : Int32} (hF : F = 23 ∨ F = 24) (hs : eHouse (zu Z F 0 v) ad = .inr (6, ([.ref (ad 2), .int (Z 23 0), .int (Z 24 0)] : List Value).set p (.int v))) : ∀ j, zent (zu Z F 0 v) sb mcn cp e0 Y th o od ad j = if j = 1 then some (.inr (6, ([.ref (ad 2), .int (Z 23 0), .int (Z 24 0)] : List Value).set p (.int v))) else zent Z sb mcn cp e0 Y th o od ad j := by
  have hz : ∀ f a, f < 23 ∨ 25 ≤ f → zu Z F 0 v f a = Z f a := fun f a h => zu_f (by omega)
  refine zp_gen (by omega) (by rw [← hs]; rfl) (fun _ => by simp [eX, hz]) (fun h => absurd rfl h) (fun _ => by simp [eEv, hz]) (fun a _ => hz _ _ (by omega)) (fun b hb hn => by simp [sSeat, hz]) (fun b _ hn => by simp [sHand, hz]) (fun b _ hn => by simp [sSinger, hz]) (fun b _ _ => by simp [sCue, hz])
theorem zp_x {F p : Nat} {v : Int32} (hF : F = 34 ∨ F = 35) (hs : eX (zu Z F 0 v) ad = .inr (10, ([.ref (ad 1), .ref (ad 3), .ref (ad 6), .ref (ad 4), .int (Z 34 0), .int (Z 35 0)] : List Value).set p (.int v))) : ∀ j, zent (zu Z F 0 v) sb mcn cp e0 Y th o od ad j = if j = 0 then some (.inr (10, ([.ref (ad 1), .ref (ad 3), .ref (ad 6), .ref (ad 4), .int (Z 34 0), .int (Z 35 0)] : List Value).set p (.int v))) else zent Z sb mcn cp e0 Y th o od ad j := by
  have hz : ∀ f a, f < 34 ∨ 36 ≤ f → zu Z F 0 v f a = Z f a := fun f a h => zu_f (by omega)
  refine zp_gen (by omega) (by rw [← hs]; rfl) (fun h => absurd rfl h) (fun _ => by simp [eHouse, hz]) (fun _ => by simp [eEv, hz]) (fun a _ => hz _ _ (by omega)) (fun b hb hn => by simp [sSeat, hz]) (fun b _ hn => by simp [sHand, hz]) (fun b _ hn => by simp [sSinger, hz]) (fun b _ _ => by simp [sCue, hz])
/-- the reference: an array's place, a number -/
theorem zp_marr {i k : Nat} {v : Int32} (hi : i < 23) : ∀ j, zent Z sb mcn cp e0 (zu Y i k v) th o od ad j = if j = 301 + i then some (.inl (mty i, (mln i, .inl (upd (Y i) k v)))) else zent Z sb mcn cp e0 Y th o od ad j := by
  intro j
  by_cases hj : j = 301 + i
  · subst hj
    rw [if_pos rfl, zg_marr hi]
    rw [show zu Y i k v i = upd (Y i) k v from funext fun b => by simp [zu, upd]]
  · rw [if_neg hj]
    by_cases h : j < 300
    · simp only [zent, if_pos h]
    · simp only [zent, if_neg h, zD]
      by_cases h1 : j = 300
      · have hz : ∀ f a, 23 ≤ f → zu Y i k v f a = Y f a := fun f a h => zu_f (by omega)
        rw [if_pos h1, if_pos h1]
        simp [sModel, hz]
      · rw [if_neg h1, if_neg h1]
        by_cases h2 : j < 324
        · rw [if_pos h2, if_pos h2]
          rw [show zu Y i k v (j - 301) = Y (j - 301) from funext fun b => zu_f (by omega)]
        · rw [if_neg h2, if_neg h2]
theorem zp_model {F : Nat} {v : Int32} (hF : 23 ≤ F ∧ F < 36) (hs : sModel (zu Y F 0 v) th ad = (sModel Y th ad).set F (.int v)) : ∀ j, zent Z sb mcn cp e0 (zu Y F 0 v) th o od ad j = if j = 300 then some (.inr (11, (sModel Y th ad).set F (.int v))) else zent Z sb mcn cp e0 Y th o od ad j := by
  intro j
  by_cases hj : j = 300
  · subst hj
    rw [if_pos rfl, zg_model, hs]
  · rw [if_neg hj]
    by_cases h : j < 300
    · simp only [zent, if_pos h]
    · simp only [zent, if_neg h, zD, if_neg hj]
      by_cases h2 : j < 324
      · rw [if_pos h2, if_pos h2]
        rw [show zu Y F 0 v (j - 301) = Y (j - 301) from funext fun b => zu_f (by omega)]
      · rw [if_neg h2, if_neg h2]
theorem zp_thrown {v : Int32} : ∀ j, zent Z sb mcn cp e0 Y v o od ad j = if j = 300 then some (.inr (11, (sModel Y th ad).set 36 (.int v))) else zent Z sb mcn cp e0 Y th o od ad j := by
  intro j
  by_cases hj : j = 300
  · subst hj
    rw [if_pos rfl, zg_model]
    rfl
  · rw [if_neg hj]
    by_cases h : j < 300
    · simp only [zent, if_pos h]
    · simp only [zent, if_neg h, zD, if_neg hj]
theorem zp_out {k : Nat} {v : Int64} : ∀ j, zent Z sb mcn cp e0 Y th (vp_updL o k v) od ad j = if j = 340 then some (.inl (3, (1, .inr (.inl (vp_updL o k v))))) else zent Z sb mcn cp e0 Y th o od ad j := by
  intro j
  by_cases hj : j = 340
  · subst hj
    rw [if_pos rfl]
    rfl
  · rw [if_neg hj]
    simp only [zent, zD, if_neg hj]
end ZENT
