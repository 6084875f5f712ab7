set_option maxHeartbeats 4000000 in
set_option maxRecDepth 100000 in
theorem cX2_init_1 (l : Launch) (hst : l.stackTraces = false) (G : pz_G) (X : Nat → Nat) (sz : Nat) (a0 : Nat) : pz_MR (S := Nat × Nat) l yX2_init (pz_cd yX2_init cX2_init 1 none) 1 12 2 480 G X sz [(a0, .inr (2, [.null, .null, .int 0]))] [.ref a0] (fun u => none) (fun u => [(a0, .inr (2, [.ref u.1, .ref u.2, .int 0])), (u.1, .inl (G.2 0, 240, .inl (fun _ => 0))), (u.2, .inl (G.2 0, 240, .inl (fun _ => 0)))]) := by
  refine pz_onR (by decide +kernel) (Nat.le_of_ble_eq_true rfl) ?_
  intro p e s m below meth c A hx hb hr hml hown hts hlocks hin hx0 hP hK hD hS hA hE ls hl
  have hown : s.vm.findClass "Sourcewright$Code" = some m.cls := hown
  have hl : lv_has ls 1 [(0, .ref a0)] := hl
  refine lv_aload_n hx hb dX2_init_0 rfl (lv_at hl 0 rfl) ?_
  refine W.objInit hx hb hown (hts _ wq_61) (hts _ wq_54) (hts _ wq_55) rfl (by rw [hml]; exact hl.1) rfl dX2_init_1 (Nat.le_of_ble_eq_true rfl) (Nat.le_of_ble_eq_true rfl) ?_
  refine W.eq (g2 := F0 m 4 ls []) rfl ?_
  refine lv_aload_n hx hb dX2_init_4 rfl (lv_at hl 0 rfl) ?_
  refine lv_sipush (v := 240) hx hb dX2_init_5 (by decide) ?_
  refine va_newa (atype := .int) (ty := .int) (a0 := (240, .inl (fun _ => 0))) hx hb (hts _ wq_72) rfl hK hP hD hS hA (fun _ => rfl) (by decide) (by decide) (Nat.le_of_ble_eq_true rfl) (Nat.le_of_ble_eq_true rfl) (Nat.le_of_ble_eq_true rfl) dX2_init_8 (fun q1 cA H hK hP hD hS => ?_)
  obtain rfl : cA = G.2 0 := pz_ty hK 7 0 rfl rfl (fun C h => by cases h)
  have hK : va_K G.1 pz_cl (pz_T G) s := hK.sub [0, 1, 2, 3, 4, 5, 6] rfl
  have hP : va_P G.1 pz_cl [(a0, .inr (2, [.null, .null, .int 0])), (q1, .inl (G.2 0, 240, .inl (fun _ => 0)))] H := hP
  have hD : va_D A [(a0, .inr (2, [.null, .null, .int 0])), (q1, .inl (G.2 0, 240, .inl (fun _ => 0)))] := hD
  refine va_putF (D := G.1) (ci := 2) (v := .ref q1) (ty := tyX2 0) (C := "Sourcewright$Code") (T := TX2) (N := 3) hx hb hts inX2 tyX2 tyX2_ok nmX2 hown hK hP hD hS 0 rfl rfl 0 (by decide) (hts _ wq_62) (fun _ h9 => h9) rfl hin rfl (by decide +kernel) rfl rfl (Nat.le_of_ble_eq_true rfl) dX2_init_10 (fun H locs hP hD hS => ?_)
  have hP : va_P G.1 pz_cl [(a0, .inr (2, [.ref q1, .null, .int 0])), (q1, .inl (G.2 0, 240, .inl (fun _ => 0)))] H := hP
  have hD : va_D A [(a0, .inr (2, [.ref q1, .null, .int 0])), (q1, .inl (G.2 0, 240, .inl (fun _ => 0)))] := hD
  refine lv_aload_n hx hb dX2_init_13 rfl (lv_at hl 0 rfl) ?_
  refine lv_sipush (v := 240) hx hb dX2_init_14 (by decide) ?_
  refine va_newa (atype := .int) (ty := .int) (a0 := (240, .inl (fun _ => 0))) hx hb (hts _ wq_72) rfl hK hP hD hS hA (fun _ => rfl) (by decide) (by decide) (Nat.le_of_ble_eq_true rfl) (Nat.le_of_ble_eq_true rfl) (Nat.le_of_ble_eq_true rfl) dX2_init_17 (fun q2 cA H hK hP hD hS => ?_)
  obtain rfl : cA = G.2 0 := pz_ty hK 7 0 rfl rfl (fun C h => by cases h)
  have hK : va_K G.1 pz_cl (pz_T G) s := hK.sub [0, 1, 2, 3, 4, 5, 6] rfl
  have hP : va_P G.1 pz_cl [(a0, .inr (2, [.ref q1, .null, .int 0])), (q1, .inl (G.2 0, 240, .inl (fun _ => 0))), (q2, .inl (G.2 0, 240, .inl (fun _ => 0)))] H := hP
  have hD : va_D A [(a0, .inr (2, [.ref q1, .null, .int 0])), (q1, .inl (G.2 0, 240, .inl (fun _ => 0))), (q2, .inl (G.2 0, 240, .inl (fun _ => 0)))] := hD
  refine va_putF (D := G.1) (ci := 2) (v := .ref q2) (ty := tyX2 1) (C := "Sourcewright$Code") (T := TX2) (N := 3) hx hb hts inX2 tyX2 tyX2_ok nmX2 hown hK hP hD hS 0 rfl rfl 1 (by decide) (hts _ wq_63) (fun _ h9 => h9) rfl hin rfl (by decide +kernel) rfl rfl (Nat.le_of_ble_eq_true rfl) dX2_init_19 (fun H locs hP hD hS => ?_)
  have hP : va_P G.1 pz_cl [(a0, .inr (2, [.ref q1, .ref q2, .int 0])), (q1, .inl (G.2 0, 240, .inl (fun _ => 0))), (q2, .inl (G.2 0, 240, .inl (fun _ => 0)))] H := hP
  have hD : va_D A [(a0, .inr (2, [.ref q1, .ref q2, .int 0])), (q1, .inl (G.2 0, 240, .inl (fun _ => 0))), (q2, .inl (G.2 0, 240, .inl (fun _ => 0)))] := hD
  refine lv_aload_n hx hb dX2_init_22 rfl (lv_at hl 0 rfl) ?_
  refine lv_iconst (v := 0) hx hb dX2_init_23 (by decide) ?_
  refine va_put (D := G.1) (ci := 2) (v := .int 0) (ty := tyX2 2) (C := "Sourcewright$Code") (T := TX2) (N := 3) hx hb hts inX2 tyX2 tyX2_ok nmX2 hown hK hP hD hS 0 rfl rfl 2 (by decide) (hts _ wq_64) (fun _ h9 => h9) rfl (by decide +kernel) rfl rfl (Nat.le_of_ble_eq_true rfl) dX2_init_24 (fun H locs hP hD hS => ?_)
  have hP : va_P G.1 pz_cl [(a0, .inr (2, [.ref q1, .ref q2, .int 0])), (q1, .inl (G.2 0, 240, .inl (fun _ => 0))), (q2, .inl (G.2 0, 240, .inl (fun _ => 0)))] H := hP
  have hD : va_D A [(a0, .inr (2, [.ref q1, .ref q2, .int 0])), (q1, .inl (G.2 0, 240, .inl (fun _ => 0))), (q2, .inl (G.2 0, 240, .inl (fun _ => 0)))] := hD
  exact pz_rv hx hb hr hlocks hS (Nat.le_of_ble_eq_true rfl) (Nat.le_of_ble_eq_true rfl) dX2_init_27 (q1, q2) rfl (hP.sub [0, 1, 2] rfl) (hD.sub [0, 1, 2] rfl rfl)
