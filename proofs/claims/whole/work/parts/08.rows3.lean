section ZROWS3
variable {G : zG} {l : Launch} {own : String} {cc : ByteArray} {nL : Nat} {ret : Option FieldType} {ws : List Cond} {R : Room} {mc ms : Nat} {et : List ExceptionTableEntry} {PQ : Option Value → zH → (Nat → Nat) → Prop} {PX : String → zH → (Nat → Nat) → Prop} {ini : Prop} {X : zXT} {kc ks pc : Nat} {lsv : List (Nat × Value)} {rest : List Value} {w : zH} {ad : Nat → Nat}
theorem z_ldcw (O : zOK G l own cc nL ret ws R mc ms et PQ PX ini X) {i : Nat} {v : Int32} (hc : Cond.constant own i v ∈ ws) (hdg : decode cc pc = .ok (.ldc_w i, 3)) (kk : zV G X nL kc ks (pc + 3) lsv (.int v :: rest) w ad) : zV G X nL kc ks pc lsv rest w ad := by
  obtain ⟨p, e, s, m, args, below, meth, c, hx, hb, -, hts, hown, -, -, -, -, -, -, -, -, rfl⟩ := O
  intro H lsA hR hL locs hS
  exact lv_ldcw hx hb hown (hts _ hc) hdg (kk H lsA hR hL locs hS)
theorem z_ldc2 (O : zOK G l own cc nL ret ws R mc ms et PQ PX ini X) {i : Nat} {v : Int64} (hc : Cond.constantLong own i v ∈ ws) (hdg : decode cc pc = .ok (.ldc2_w i, 3)) (kk : zV G X nL kc ks (pc + 3) lsv (.long v :: rest) w ad) : zV G X nL kc ks pc lsv rest w ad := by
  obtain ⟨p, e, s, m, args, below, meth, c, hx, hb, -, hts, hown, -, -, -, -, -, -, -, -, rfl⟩ := O
  intro H lsA hR hL locs hS
  exact lv_ldc2 hx hb hown (hts _ hc) hdg (kk H lsA hR hL locs hS)
end ZROWS3
