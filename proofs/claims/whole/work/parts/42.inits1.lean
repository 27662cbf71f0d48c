set_option maxHeartbeats 4000000 in
set_option maxRecDepth 100000 in
theorem c_X1_init (l : Launch) (dd : va_G) (cyI cyJ cyZ : ClassId) (q : Nat) (sz : Nat) : Met l yX1_init wsX1_init ({ frames := 1, cells := 3, slots := 4241, locals := 30 } : Room) (va_Pc [.ref q] (Wr dd [(cyI, .int), (cyJ, .long), (cyZ, .boolean)] [(q, .inr (1, [.int 0, .int 0, .null, .null, .null]))] sz)) (va_Qv (S := Nat → Nat) (fun _ => True) (WQ dd [(q, .inr (1, [.int 0, .int 0, .null, .null, .null]))] sz (fun u => [(q, .inr (1, [.int 0, .int 0, .ref (u 0), .ref (u 1), .ref (u 2)])), (u 0, .inl (cyI, 10, .inl (fun _ => 0))), (u 1, .inl (cyI, 10, .inl (fun _ => 0))), (u 2, .inl (cyI, 4221, .inl (fun _ => 0)))])) (va_A [(q, .inr (1, [.int 0, .int 0, .null, .null, .null]))] sz)) 3 4241 (va_A [(q, .inr (1, [.int 0, .int 0, .null, .null, .null]))] sz) := by
  refine mkW (Qc := fun A => (va_Qv (S := Nat → Nat) (fun _ => True) (WQ dd [(q, .inr (1, [.int 0, .int 0, .null, .null, .null]))] sz (fun u => [(q, .inr (1, [.int 0, .int 0, .ref (u 0), .ref (u 1), .ref (u 2)])), (u 0, .inl (cyI, 10, .inl (fun _ => 0))), (u 1, .inl (cyI, 10, .inl (fun _ => 0))), (u 2, .inl (cyI, 4221, .inl (fun _ => 0)))])) A)) (cc := cX1_init) (maxL := 1) (by decide) rfl (Nat.le_of_ble_eq_true rfl) (lv0 := [(0, .ref q)]) rfl ?_
  intro p e s m below meth c ls H A hx hb hr hml hown hlocks hts hmn hN hP hK hD hS hA hAe hl
  have hown : s.vm.findClass RX1 = some m.cls := hown
  have hiX1 : ∀ w ∈ wsX10, w ∈ wsX1_init := by decide +kernel
  have hin : meth.name = "<init>" := hmn
  refine lv_aload_n hx hb dX1_init_0 rfl (lv_at hl 0 rfl) ?_
  refine W.objInit hx hb hown (hts (.methodLink RX1 5 objectInit) (by decide +kernel)) (hts (.instanceMethod objectInit) (by decide +kernel)) (hts (.code objectInit ⟨#[0xb1]⟩ 1 none) (by decide +kernel)) rfl (by rw [hml]; exact hl.1) rfl dX1_init_1 (Nat.le_of_ble_eq_true rfl) (Nat.le_of_ble_eq_true rfl) ?_
  refine W.eq (g2 := F0 m 4 ls []) rfl ?_
  refine lv_aload_n hx hb dX1_init_4 rfl (lv_at hl 0 rfl) ?_
  refine lv_iconst (v := 0) hx hb dX1_init_5 (by decide) ?_
  refine va_put (D := dd) (ci := 1) (v := .int 0) (ty := .int) (C := RX1) (T := TX1) (N := 5) hx hb hts hiX1 tyX1 tyX1_ok nmX1 hown hK hP hD hS 0 rfl rfl 0 (by decide) (hts (.fieldLink RX1 11 "SliceDrift$Ranks" "firstRows" "I") (by decide +kernel)) (fun _ h9 => h9) rfl (by decide +kernel) rfl rfl (Nat.le_of_ble_eq_true rfl) dX1_init_6 (fun H locs hP hD hS => ?_)
  have hP : va_P dd vwCl [(q, .inr (1, [.int 0, .int 0, .null, .null, .null]))] H := hP
  have hD : va_D A [(q, .inr (1, [.int 0, .int 0, .null, .null, .null]))] := hD
  refine lv_aload_n hx hb dX1_init_9 rfl (lv_at hl 0 rfl) ?_
  refine lv_iconst (v := 0) hx hb dX1_init_10 (by decide) ?_
  refine va_put (D := dd) (ci := 1) (v := .int 0) (ty := .int) (C := RX1) (T := TX1) (N := 5) hx hb hts hiX1 tyX1 tyX1_ok nmX1 hown hK hP hD hS 0 rfl rfl 1 (by decide) (hts (.fieldLink RX1 15 "SliceDrift$Ranks" "secondRows" "I") (by decide +kernel)) (fun _ h9 => h9) rfl (by decide +kernel) rfl rfl (Nat.le_of_ble_eq_true rfl) dX1_init_11 (fun H locs hP hD hS => ?_)
  have hP : va_P dd vwCl [(q, .inr (1, [.int 0, .int 0, .null, .null, .null]))] H := hP
  have hD : va_D A [(q, .inr (1, [.int 0, .int 0, .null, .null, .null]))] := hD
  refine lv_aload_n hx hb dX1_init_14 rfl (lv_at hl 0 rfl) ?_
  refine lv_bipush (v := 10) hx hb dX1_init_15 (by decide) ?_
  refine va_newT (atype := .int) (ty := .int) hx hb (hts (.arrayClass .int) (by decide +kernel)) rfl (by decide) hK 0 rfl hP hD hS hA (a0 := (10, .inl (fun _ => 0))) (fun _ => rfl) (by decide) (N' := 10) (by decide) (by decide) (Nat.le_of_ble_eq_true rfl) (Nat.le_of_ble_eq_true rfl) dX1_init_17 (fun a17 H hP hD hS => ?_)
  have hP : va_P dd vwCl [(q, .inr (1, [.int 0, .int 0, .null, .null, .null])), (a17, .inl (cyI, 10, .inl (fun _ => 0)))] H := hP
  have hD : va_D A [(q, .inr (1, [.int 0, .int 0, .null, .null, .null])), (a17, .inl (cyI, 10, .inl (fun _ => 0)))] := hD
  refine W.widen (k := 1) (n := 10) (Nat.le_of_ble_eq_true rfl) (Nat.le_of_ble_eq_true rfl) ?_
  refine va_putF (D := dd) (ci := 1) (v := .ref a17) (ty := (.array .int)) (C := RX1) (T := TX1) (N := 5) hx hb hts hiX1 tyX1 tyX1_ok nmX1 hown hK hP hD hS 0 rfl rfl 2 (by decide) (hts (.fieldLink RX1 18 "SliceDrift$Ranks" "firsts" "[I") (by decide +kernel)) (fun _ h9 => h9) rfl hin rfl (by decide +kernel) rfl rfl (Nat.le_of_ble_eq_true rfl) dX1_init_19 (fun H locs hP hD hS => ?_)
  have hP : va_P dd vwCl [(q, .inr (1, [.int 0, .int 0, .ref a17, .null, .null])), (a17, .inl (cyI, 10, .inl (fun _ => 0)))] H := hP
  have hD : va_D A [(q, .inr (1, [.int 0, .int 0, .ref a17, .null, .null])), (a17, .inl (cyI, 10, .inl (fun _ => 0)))] := hD
  refine lv_aload_n hx hb dX1_init_22 rfl (lv_at hl 0 rfl) ?_
  refine lv_bipush (v := 10) hx hb dX1_init_23 (by decide) ?_
  refine va_newT (atype := .int) (ty := .int) hx hb (hts (.arrayClass .int) (by decide +kernel)) rfl (by decide) hK 0 rfl hP hD hS hA (a0 := (10, .inl (fun _ => 0))) (fun _ => rfl) (by decide) (N' := 10) (by decide) (by decide) (Nat.le_of_ble_eq_true rfl) (Nat.le_of_ble_eq_true rfl) dX1_init_25 (fun a25 H hP hD hS => ?_)
  have hP : va_P dd vwCl [(q, .inr (1, [.int 0, .int 0, .ref a17, .null, .null])), (a17, .inl (cyI, 10, .inl (fun _ => 0))), (a25, .inl (cyI, 10, .inl (fun _ => 0)))] H := hP
  have hD : va_D A [(q, .inr (1, [.int 0, .int 0, .ref a17, .null, .null])), (a17, .inl (cyI, 10, .inl (fun _ => 0))), (a25, .inl (cyI, 10, .inl (fun _ => 0)))] := hD
  refine W.widen (k := 2) (n := 20) (Nat.le_of_ble_eq_true rfl) (Nat.le_of_ble_eq_true rfl) ?_
  refine va_putF (D := dd) (ci := 1) (v := .ref a25) (ty := (.array .int)) (C := RX1) (T := TX1) (N := 5) hx hb hts hiX1 tyX1 tyX1_ok nmX1 hown hK hP hD hS 0 rfl rfl 3 (by decide) (hts (.fieldLink RX1 22 "SliceDrift$Ranks" "seconds" "[I") (by decide +kernel)) (fun _ h9 => h9) rfl hin rfl (by decide +kernel) rfl rfl (Nat.le_of_ble_eq_true rfl) dX1_init_27 (fun H locs hP hD hS => ?_)
  have hP : va_P dd vwCl [(q, .inr (1, [.int 0, .int 0, .ref a17, .ref a25, .null])), (a17, .inl (cyI, 10, .inl (fun _ => 0))), (a25, .inl (cyI, 10, .inl (fun _ => 0)))] H := hP
  have hD : va_D A [(q, .inr (1, [.int 0, .int 0, .ref a17, .ref a25, .null])), (a17, .inl (cyI, 10, .inl (fun _ => 0))), (a25, .inl (cyI, 10, .inl (fun _ => 0)))] := hD
  refine lv_aload_n hx hb dX1_init_30 rfl (lv_at hl 0 rfl) ?_
  refine lv_sipush (v := 4221) hx hb dX1_init_31 (by decide) ?_
  refine va_newT (atype := .int) (ty := .int) hx hb (hts (.arrayClass .int) (by decide +kernel)) rfl (by decide) hK 0 rfl hP hD hS hA (a0 := (4221, .inl (fun _ => 0))) (fun _ => rfl) (by decide) (N' := 4221) (by decide) (by decide) (Nat.le_of_ble_eq_true rfl) (Nat.le_of_ble_eq_true rfl) dX1_init_34 (fun a34 H hP hD hS => ?_)
  have hP : va_P dd vwCl [(q, .inr (1, [.int 0, .int 0, .ref a17, .ref a25, .null])), (a17, .inl (cyI, 10, .inl (fun _ => 0))), (a25, .inl (cyI, 10, .inl (fun _ => 0))), (a34, .inl (cyI, 4221, .inl (fun _ => 0)))] H := hP
  have hD : va_D A [(q, .inr (1, [.int 0, .int 0, .ref a17, .ref a25, .null])), (a17, .inl (cyI, 10, .inl (fun _ => 0))), (a25, .inl (cyI, 10, .inl (fun _ => 0))), (a34, .inl (cyI, 4221, .inl (fun _ => 0)))] := hD
  refine W.widen (k := 3) (n := 4241) (Nat.le_of_ble_eq_true rfl) (Nat.le_of_ble_eq_true rfl) ?_
  refine va_putF (D := dd) (ci := 1) (v := .ref a34) (ty := (.array .int)) (C := RX1) (T := TX1) (N := 5) hx hb hts hiX1 tyX1 tyX1_ok nmX1 hown hK hP hD hS 0 rfl rfl 4 (by decide) (hts (.fieldLink RX1 25 "SliceDrift$Ranks" "ways" "[I") (by decide +kernel)) (fun _ h9 => h9) rfl hin rfl (by decide +kernel) rfl rfl (Nat.le_of_ble_eq_true rfl) dX1_init_36 (fun H locs hP hD hS => ?_)
  have hP : va_P dd vwCl [(q, .inr (1, [.int 0, .int 0, .ref a17, .ref a25, .ref a34])), (a17, .inl (cyI, 10, .inl (fun _ => 0))), (a25, .inl (cyI, 10, .inl (fun _ => 0))), (a34, .inl (cyI, 4221, .inl (fun _ => 0)))] H := hP
  have hD : va_D A [(q, .inr (1, [.int 0, .int 0, .ref a17, .ref a25, .ref a34])), (a17, .inl (cyI, 10, .inl (fun _ => 0))), (a25, .inl (cyI, 10, .inl (fun _ => 0))), (a34, .inl (cyI, 4221, .inl (fun _ => 0)))] := hD
  exact ewV (fun k => ([a17, a25, a34] : List Nat).getD k 0) hx hb hr hlocks hAe hS dX1_init_39 trivial (hP.sub [0, 1, 2, 3] rfl) (hD.sub [0, 1, 2, 3] (by decide) rfl)

set_option maxHeartbeats 4000000 in
set_option maxRecDepth 100000 in
theorem c_X2_init (l : Launch) (dd : va_G) (cyI cyJ cyZ : ClassId) (q : Nat) (sz : Nat) : Met l yX2_init wsX2_init ({ frames := 1, cells := 2, slots := 103, locals := 30 } : Room) (va_Pc [.ref q] (Wr dd [(cyI, .int), (cyJ, .long), (cyZ, .boolean)] [(q, .inr (2, [.int 0, .long 0, .null, .null]))] sz)) (va_Qv (S := Nat → Nat) (fun _ => True) (WQ dd [(q, .inr (2, [.int 0, .long 0, .null, .null]))] sz (fun u => [(q, .inr (2, [.int 0, .long 0, .ref (u 0), .ref (u 1)])), (u 0, .inl (cyI, 48, .inl (fun _ => 0))), (u 1, .inl (cyJ, 55, .inr (.inl (fun _ => 0))))])) (va_A [(q, .inr (2, [.int 0, .long 0, .null, .null]))] sz)) 2 103 (va_A [(q, .inr (2, [.int 0, .long 0, .null, .null]))] sz) := by
  refine mkW (Qc := fun A => (va_Qv (S := Nat → Nat) (fun _ => True) (WQ dd [(q, .inr (2, [.int 0, .long 0, .null, .null]))] sz (fun u => [(q, .inr (2, [.int 0, .long 0, .ref (u 0), .ref (u 1)])), (u 0, .inl (cyI, 48, .inl (fun _ => 0))), (u 1, .inl (cyJ, 55, .inr (.inl (fun _ => 0))))])) A)) (cc := cX2_init) (maxL := 1) (by decide) rfl (Nat.le_of_ble_eq_true rfl) (lv0 := [(0, .ref q)]) rfl ?_
  intro p e s m below meth c ls H A hx hb hr hml hown hlocks hts hmn hN hP hK hD hS hA hAe hl
  have hown : s.vm.findClass RX2 = some m.cls := hown
  have hiX2 : ∀ w ∈ wsX20, w ∈ wsX2_init := by decide +kernel
  have hin : meth.name = "<init>" := hmn
  refine lv_aload_n hx hb dX2_init_0 rfl (lv_at hl 0 rfl) ?_
  refine W.objInit hx hb hown (hts (.methodLink RX2 3 objectInit) (by decide +kernel)) (hts (.instanceMethod objectInit) (by decide +kernel)) (hts (.code objectInit ⟨#[0xb1]⟩ 1 none) (by decide +kernel)) rfl (by rw [hml]; exact hl.1) rfl dX2_init_1 (Nat.le_of_ble_eq_true rfl) (Nat.le_of_ble_eq_true rfl) ?_
  refine W.eq (g2 := F0 m 4 ls []) rfl ?_
  refine lv_aload_n hx hb dX2_init_4 rfl (lv_at hl 0 rfl) ?_
  refine lv_iconst (v := 0) hx hb dX2_init_5 (by decide) ?_
  refine va_put (D := dd) (ci := 2) (v := .int 0) (ty := .int) (C := RX2) (T := TX2) (N := 4) hx hb hts hiX2 tyX2 tyX2_ok nmX2 hown hK hP hD hS 0 rfl rfl 0 (by decide) (hts (.fieldLink RX2 9 "SliceDrift$Rows" "size" "I") (by decide +kernel)) (fun _ h9 => h9) rfl (by decide +kernel) rfl rfl (Nat.le_of_ble_eq_true rfl) dX2_init_6 (fun H locs hP hD hS => ?_)
  have hP : va_P dd vwCl [(q, .inr (2, [.int 0, .long 0, .null, .null]))] H := hP
  have hD : va_D A [(q, .inr (2, [.int 0, .long 0, .null, .null]))] := hD
  refine lv_aload_n hx hb dX2_init_9 rfl (lv_at hl 0 rfl) ?_
  refine lv_lconst (v := 0) hx hb dX2_init_10 (by decide) ?_
  refine va_put (D := dd) (ci := 2) (v := .long 0) (ty := .long) (C := RX2) (T := TX2) (N := 4) hx hb hts hiX2 tyX2 tyX2_ok nmX2 hown hK hP hD hS 0 rfl rfl 1 (by decide) (hts (.fieldLink RX2 15 "SliceDrift$Rows" "hits" "J") (by decide +kernel)) (fun _ h9 => h9) rfl (by decide +kernel) rfl rfl (Nat.le_of_ble_eq_true rfl) dX2_init_11 (fun H locs hP hD hS => ?_)
  have hP : va_P dd vwCl [(q, .inr (2, [.int 0, .long 0, .null, .null]))] H := hP
  have hD : va_D A [(q, .inr (2, [.int 0, .long 0, .null, .null]))] := hD
  refine lv_aload_n hx hb dX2_init_14 rfl (lv_at hl 0 rfl) ?_
  refine lv_bipush (v := 48) hx hb dX2_init_15 (by decide) ?_
  refine va_newT (atype := .int) (ty := .int) hx hb (hts (.arrayClass .int) (by decide +kernel)) rfl (by decide) hK 0 rfl hP hD hS hA (a0 := (48, .inl (fun _ => 0))) (fun _ => rfl) (by decide) (N' := 48) (by decide) (by decide) (Nat.le_of_ble_eq_true rfl) (Nat.le_of_ble_eq_true rfl) dX2_init_17 (fun a17 H hP hD hS => ?_)
  have hP : va_P dd vwCl [(q, .inr (2, [.int 0, .long 0, .null, .null])), (a17, .inl (cyI, 48, .inl (fun _ => 0)))] H := hP
  have hD : va_D A [(q, .inr (2, [.int 0, .long 0, .null, .null])), (a17, .inl (cyI, 48, .inl (fun _ => 0)))] := hD
  refine W.widen (k := 1) (n := 48) (Nat.le_of_ble_eq_true rfl) (Nat.le_of_ble_eq_true rfl) ?_
  refine va_putF (D := dd) (ci := 2) (v := .ref a17) (ty := (.array .int)) (C := RX2) (T := TX2) (N := 4) hx hb hts hiX2 tyX2 tyX2_ok nmX2 hown hK hP hD hS 0 rfl rfl 2 (by decide) (hts (.fieldLink RX2 19 "SliceDrift$Rows" "times" "[I") (by decide +kernel)) (fun _ h9 => h9) rfl hin rfl (by decide +kernel) rfl rfl (Nat.le_of_ble_eq_true rfl) dX2_init_19 (fun H locs hP hD hS => ?_)
  have hP : va_P dd vwCl [(q, .inr (2, [.int 0, .long 0, .ref a17, .null])), (a17, .inl (cyI, 48, .inl (fun _ => 0)))] H := hP
  have hD : va_D A [(q, .inr (2, [.int 0, .long 0, .ref a17, .null])), (a17, .inl (cyI, 48, .inl (fun _ => 0)))] := hD
  refine lv_aload_n hx hb dX2_init_22 rfl (lv_at hl 0 rfl) ?_
  refine lv_bipush (v := 55) hx hb dX2_init_23 (by decide) ?_
  refine va_newT (atype := .long) (ty := .long) hx hb (hts (.arrayClass .long) (by decide +kernel)) rfl (by decide) hK 1 rfl hP hD hS hA (a0 := (55, .inr (.inl (fun _ => 0)))) (fun _ => rfl) (by decide) (N' := 55) (by decide) (by decide) (Nat.le_of_ble_eq_true rfl) (Nat.le_of_ble_eq_true rfl) dX2_init_25 (fun a25 H hP hD hS => ?_)
  have hP : va_P dd vwCl [(q, .inr (2, [.int 0, .long 0, .ref a17, .null])), (a17, .inl (cyI, 48, .inl (fun _ => 0))), (a25, .inl (cyJ, 55, .inr (.inl (fun _ => 0))))] H := hP
  have hD : va_D A [(q, .inr (2, [.int 0, .long 0, .ref a17, .null])), (a17, .inl (cyI, 48, .inl (fun _ => 0))), (a25, .inl (cyJ, 55, .inr (.inl (fun _ => 0))))] := hD
  refine W.widen (k := 2) (n := 103) (Nat.le_of_ble_eq_true rfl) (Nat.le_of_ble_eq_true rfl) ?_
  refine va_putF (D := dd) (ci := 2) (v := .ref a25) (ty := (.array .long)) (C := RX2) (T := TX2) (N := 4) hx hb hts hiX2 tyX2 tyX2_ok nmX2 hown hK hP hD hS 0 rfl rfl 3 (by decide) (hts (.fieldLink RX2 23 "SliceDrift$Rows" "having" "[J") (by decide +kernel)) (fun _ h9 => h9) rfl hin rfl (by decide +kernel) rfl rfl (Nat.le_of_ble_eq_true rfl) dX2_init_27 (fun H locs hP hD hS => ?_)
  have hP : va_P dd vwCl [(q, .inr (2, [.int 0, .long 0, .ref a17, .ref a25])), (a17, .inl (cyI, 48, .inl (fun _ => 0))), (a25, .inl (cyJ, 55, .inr (.inl (fun _ => 0))))] H := hP
  have hD : va_D A [(q, .inr (2, [.int 0, .long 0, .ref a17, .ref a25])), (a17, .inl (cyI, 48, .inl (fun _ => 0))), (a25, .inl (cyJ, 55, .inr (.inl (fun _ => 0))))] := hD
  exact ewV (fun k => ([a17, a25] : List Nat).getD k 0) hx hb hr hlocks hAe hS dX2_init_30 trivial (hP.sub [0, 1, 2] rfl) (hD.sub [0, 1, 2] (by decide) rfl)

set_option maxHeartbeats 4000000 in
set_option maxRecDepth 100000 in
theorem c_X3_init (l : Launch) (dd : va_G) (cyI cyJ cyZ : ClassId) (q : Nat) (sz : Nat) : Met l yX3_init wsX3_init ({ frames := 1, cells := 3, slots := 1605, locals := 30 } : Room) (va_Pc [.ref q] (Wr dd [(cyI, .int), (cyJ, .long), (cyZ, .boolean)] [(q, .inr (3, [.int 0, .long 0, .null, .null, .null]))] sz)) (va_Qv (S := Nat → Nat) (fun _ => True) (WQ dd [(q, .inr (3, [.int 0, .long 0, .null, .null, .null]))] sz (fun u => [(q, .inr (3, [.int 0, .long 0, .ref (u 0), .ref (u 1), .ref (u 2)])), (u 0, .inl (cyJ, 535, .inr (.inl (fun _ => 0)))), (u 1, .inl (cyI, 535, .inl (fun _ => 0))), (u 2, .inl (cyI, 535, .inl (fun _ => 0)))])) (va_A [(q, .inr (3, [.int 0, .long 0, .null, .null, .null]))] sz)) 3 1605 (va_A [(q, .inr (3, [.int 0, .long 0, .null, .null, .null]))] sz) := by
  refine mkW (Qc := fun A => (va_Qv (S := Nat → Nat) (fun _ => True) (WQ dd [(q, .inr (3, [.int 0, .long 0, .null, .null, .null]))] sz (fun u => [(q, .inr (3, [.int 0, .long 0, .ref (u 0), .ref (u 1), .ref (u 2)])), (u 0, .inl (cyJ, 535, .inr (.inl (fun _ => 0)))), (u 1, .inl (cyI, 535, .inl (fun _ => 0))), (u 2, .inl (cyI, 535, .inl (fun _ => 0)))])) A)) (cc := cX3_init) (maxL := 1) (by decide) rfl (Nat.le_of_ble_eq_true rfl) (lv0 := [(0, .ref q)]) rfl ?_
  intro p e s m below meth c ls H A hx hb hr hml hown hlocks hts hmn hN hP hK hD hS hA hAe hl
  have hown : s.vm.findClass RX3 = some m.cls := hown
  have hiX3 : ∀ w ∈ wsX30, w ∈ wsX3_init := by decide +kernel
  have hin : meth.name = "<init>" := hmn
  refine lv_aload_n hx hb dX3_init_0 rfl (lv_at hl 0 rfl) ?_
  refine W.objInit hx hb hown (hts (.methodLink RX3 3 objectInit) (by decide +kernel)) (hts (.instanceMethod objectInit) (by decide +kernel)) (hts (.code objectInit ⟨#[0xb1]⟩ 1 none) (by decide +kernel)) rfl (by rw [hml]; exact hl.1) rfl dX3_init_1 (Nat.le_of_ble_eq_true rfl) (Nat.le_of_ble_eq_true rfl) ?_
  refine W.eq (g2 := F0 m 4 ls []) rfl ?_
  refine lv_aload_n hx hb dX3_init_4 rfl (lv_at hl 0 rfl) ?_
  refine lv_iconst (v := 0) hx hb dX3_init_5 (by decide) ?_
  refine va_put (D := dd) (ci := 3) (v := .int 0) (ty := .int) (C := RX3) (T := TX3) (N := 5) hx hb hts hiX3 tyX3 tyX3_ok nmX3 hown hK hP hD hS 0 rfl rfl 0 (by decide) (hts (.fieldLink RX3 9 "SliceDrift$SliceList" "size" "I") (by decide +kernel)) (fun _ h9 => h9) rfl (by decide +kernel) rfl rfl (Nat.le_of_ble_eq_true rfl) dX3_init_6 (fun H locs hP hD hS => ?_)
  have hP : va_P dd vwCl [(q, .inr (3, [.int 0, .long 0, .null, .null, .null]))] H := hP
  have hD : va_D A [(q, .inr (3, [.int 0, .long 0, .null, .null, .null]))] := hD
  refine lv_aload_n hx hb dX3_init_9 rfl (lv_at hl 0 rfl) ?_
  refine lv_lconst (v := 0) hx hb dX3_init_10 (by decide) ?_
  refine va_put (D := dd) (ci := 3) (v := .long 0) (ty := .long) (C := RX3) (T := TX3) (N := 5) hx hb hts hiX3 tyX3 tyX3_ok nmX3 hown hK hP hD hS 0 rfl rfl 1 (by decide) (hts (.fieldLink RX3 15 "SliceDrift$SliceList" "hits" "J") (by decide +kernel)) (fun _ h9 => h9) rfl (by decide +kernel) rfl rfl (Nat.le_of_ble_eq_true rfl) dX3_init_11 (fun H locs hP hD hS => ?_)
  have hP : va_P dd vwCl [(q, .inr (3, [.int 0, .long 0, .null, .null, .null]))] H := hP
  have hD : va_D A [(q, .inr (3, [.int 0, .long 0, .null, .null, .null]))] := hD
  refine lv_aload_n hx hb dX3_init_14 rfl (lv_at hl 0 rfl) ?_
  refine lv_sipush (v := 535) hx hb dX3_init_15 (by decide) ?_
  refine va_newT (atype := .long) (ty := .long) hx hb (hts (.arrayClass .long) (by decide +kernel)) rfl (by decide) hK 1 rfl hP hD hS hA (a0 := (535, .inr (.inl (fun _ => 0)))) (fun _ => rfl) (by decide) (N' := 535) (by decide) (by decide) (Nat.le_of_ble_eq_true rfl) (Nat.le_of_ble_eq_true rfl) dX3_init_18 (fun a18 H hP hD hS => ?_)
  have hP : va_P dd vwCl [(q, .inr (3, [.int 0, .long 0, .null, .null, .null])), (a18, .inl (cyJ, 535, .inr (.inl (fun _ => 0))))] H := hP
  have hD : va_D A [(q, .inr (3, [.int 0, .long 0, .null, .null, .null])), (a18, .inl (cyJ, 535, .inr (.inl (fun _ => 0))))] := hD
  refine W.widen (k := 1) (n := 535) (Nat.le_of_ble_eq_true rfl) (Nat.le_of_ble_eq_true rfl) ?_
  refine va_putF (D := dd) (ci := 3) (v := .ref a18) (ty := (.array .long)) (C := RX3) (T := TX3) (N := 5) hx hb hts hiX3 tyX3 tyX3_ok nmX3 hown hK hP hD hS 0 rfl rfl 2 (by decide) (hts (.fieldLink RX3 19 "SliceDrift$SliceList" "members" "[J") (by decide +kernel)) (fun _ h9 => h9) rfl hin rfl (by decide +kernel) rfl rfl (Nat.le_of_ble_eq_true rfl) dX3_init_20 (fun H locs hP hD hS => ?_)
  have hP : va_P dd vwCl [(q, .inr (3, [.int 0, .long 0, .ref a18, .null, .null])), (a18, .inl (cyJ, 535, .inr (.inl (fun _ => 0))))] H := hP
  have hD : va_D A [(q, .inr (3, [.int 0, .long 0, .ref a18, .null, .null])), (a18, .inl (cyJ, 535, .inr (.inl (fun _ => 0))))] := hD
  refine lv_aload_n hx hb dX3_init_23 rfl (lv_at hl 0 rfl) ?_
  refine lv_sipush (v := 535) hx hb dX3_init_24 (by decide) ?_
  refine va_newT (atype := .int) (ty := .int) hx hb (hts (.arrayClass .int) (by decide +kernel)) rfl (by decide) hK 0 rfl hP hD hS hA (a0 := (535, .inl (fun _ => 0))) (fun _ => rfl) (by decide) (N' := 535) (by decide) (by decide) (Nat.le_of_ble_eq_true rfl) (Nat.le_of_ble_eq_true rfl) dX3_init_27 (fun a27 H hP hD hS => ?_)
  have hP : va_P dd vwCl [(q, .inr (3, [.int 0, .long 0, .ref a18, .null, .null])), (a18, .inl (cyJ, 535, .inr (.inl (fun _ => 0)))), (a27, .inl (cyI, 535, .inl (fun _ => 0)))] H := hP
  have hD : va_D A [(q, .inr (3, [.int 0, .long 0, .ref a18, .null, .null])), (a18, .inl (cyJ, 535, .inr (.inl (fun _ => 0)))), (a27, .inl (cyI, 535, .inl (fun _ => 0)))] := hD
  refine W.widen (k := 2) (n := 1070) (Nat.le_of_ble_eq_true rfl) (Nat.le_of_ble_eq_true rfl) ?_
  refine va_putF (D := dd) (ci := 3) (v := .ref a27) (ty := (.array .int)) (C := RX3) (T := TX3) (N := 5) hx hb hts hiX3 tyX3 tyX3_ok nmX3 hown hK hP hD hS 0 rfl rfl 3 (by decide) (hts (.fieldLink RX3 23 "SliceDrift$SliceList" "firsts" "[I") (by decide +kernel)) (fun _ h9 => h9) rfl hin rfl (by decide +kernel) rfl rfl (Nat.le_of_ble_eq_true rfl) dX3_init_29 (fun H locs hP hD hS => ?_)
  have hP : va_P dd vwCl [(q, .inr (3, [.int 0, .long 0, .ref a18, .ref a27, .null])), (a18, .inl (cyJ, 535, .inr (.inl (fun _ => 0)))), (a27, .inl (cyI, 535, .inl (fun _ => 0)))] H := hP
  have hD : va_D A [(q, .inr (3, [.int 0, .long 0, .ref a18, .ref a27, .null])), (a18, .inl (cyJ, 535, .inr (.inl (fun _ => 0)))), (a27, .inl (cyI, 535, .inl (fun _ => 0)))] := hD
  refine lv_aload_n hx hb dX3_init_32 rfl (lv_at hl 0 rfl) ?_
  refine lv_sipush (v := 535) hx hb dX3_init_33 (by decide) ?_
  refine va_newT (atype := .int) (ty := .int) hx hb (hts (.arrayClass .int) (by decide +kernel)) rfl (by decide) hK 0 rfl hP hD hS hA (a0 := (535, .inl (fun _ => 0))) (fun _ => rfl) (by decide) (N' := 535) (by decide) (by decide) (Nat.le_of_ble_eq_true rfl) (Nat.le_of_ble_eq_true rfl) dX3_init_36 (fun a36 H hP hD hS => ?_)
  have hP : va_P dd vwCl [(q, .inr (3, [.int 0, .long 0, .ref a18, .ref a27, .null])), (a18, .inl (cyJ, 535, .inr (.inl (fun _ => 0)))), (a27, .inl (cyI, 535, .inl (fun _ => 0))), (a36, .inl (cyI, 535, .inl (fun _ => 0)))] H := hP
  have hD : va_D A [(q, .inr (3, [.int 0, .long 0, .ref a18, .ref a27, .null])), (a18, .inl (cyJ, 535, .inr (.inl (fun _ => 0)))), (a27, .inl (cyI, 535, .inl (fun _ => 0))), (a36, .inl (cyI, 535, .inl (fun _ => 0)))] := hD
  refine W.widen (k := 3) (n := 1605) (Nat.le_of_ble_eq_true rfl) (Nat.le_of_ble_eq_true rfl) ?_
  refine va_putF (D := dd) (ci := 3) (v := .ref a36) (ty := (.array .int)) (C := RX3) (T := TX3) (N := 5) hx hb hts hiX3 tyX3 tyX3_ok nmX3 hown hK hP hD hS 0 rfl rfl 4 (by decide) (hts (.fieldLink RX3 27 "SliceDrift$SliceList" "seconds" "[I") (by decide +kernel)) (fun _ h9 => h9) rfl hin rfl (by decide +kernel) rfl rfl (Nat.le_of_ble_eq_true rfl) dX3_init_38 (fun H locs hP hD hS => ?_)
  have hP : va_P dd vwCl [(q, .inr (3, [.int 0, .long 0, .ref a18, .ref a27, .ref a36])), (a18, .inl (cyJ, 535, .inr (.inl (fun _ => 0)))), (a27, .inl (cyI, 535, .inl (fun _ => 0))), (a36, .inl (cyI, 535, .inl (fun _ => 0)))] H := hP
  have hD : va_D A [(q, .inr (3, [.int 0, .long 0, .ref a18, .ref a27, .ref a36])), (a18, .inl (cyJ, 535, .inr (.inl (fun _ => 0)))), (a27, .inl (cyI, 535, .inl (fun _ => 0))), (a36, .inl (cyI, 535, .inl (fun _ => 0)))] := hD
  exact ewV (fun k => ([a18, a27, a36] : List Nat).getD k 0) hx hb hr hlocks hAe hS dX3_init_41 trivial (hP.sub [0, 1, 2, 3] rfl) (hD.sub [0, 1, 2, 3] (by decide) rfl)
