set_option maxHeartbeats 4000000 in
set_option maxRecDepth 100000 in
theorem cX16_isIdle_1 (l : Launch) (hst : l.stackTraces = false) (G : pz_G) (X : Nat → Nat) (sz : Nat) (a0 : Nat) (x0 : Int32) (x1 : Int32) (a1 : Nat) (a2 : Nat) (a3 : Nat) (a4 : Nat) : pz_MR (S := Nat × Nat × Nat × Nat × Nat × Nat × Nat × Nat × Nat × Nat × Nat × Nat × Nat × Nat) l yX16_isIdle (pz_cd yX16_isIdle cX16_isIdle 4 (some .boolean)) 9 220 14 34 G X sz [(a0, .inr (15, [.int 0, .ref a1, .ref a2, .ref a3, .ref a4, .int 0, .null])), (a1, .inr (17, [.int 0, .ref (X 3), .int 0])), (a2, .inr (17, [.int 0, .ref (X 3), .int 0]))] [.ref a0, .int x0, .int x1] (fun u => some (.int 0)) (fun u => [(a0, .inr (15, [.int 1, .ref a1, .ref a2, .ref a3, .ref a4, .int 0, .null])), (a1, .inr (17, [.int 0, .ref (X 3), .int 0])), (a2, .inr (17, [.int 0, .ref (X 3), .int 0])), (u.1, .inr (12, [.ref u.2.1, .ref u.2.2.1, .ref u.2.2.2.2.1, .ref u.2.2.2.1])), (u.2.1, .inl (G.2 0, 0, .inl (fun _ => 0))), (u.2.2.2.2.1, .inl (G.2 1, 0, .inl (fun _ => 0))), (u.2.2.2.2.2.2.1, .inl (G.2 5, 0, .inr (.inr (.inr (.inr (fun _ => none)))))), (u.2.2.2.2.2.2.2.1, .inl (G.2 1, 0, .inl (fun _ => 0))), (u.2.2.2.2.2.2.2.2.1, .inl (G.2 1, 0, .inl (fun _ => 0))), (u.2.2.2.2.2.2.2.2.2.2.1, .inr (18, [.int 1, .int 0, .int 2, .ref u.2.2.1])), (u.2.2.2.2.2.2.2.2.2.1, .inr (17, [.int 0, .ref (X 3), .int 0])), (u.2.2.1, .inr (17, [.int 2, .ref u.2.2.2.2.2.1, .int 1])), (u.2.2.2.2.2.1, .inl (G.2 5, 10, .inr (.inr (.inr (.inr (va_up (fun _ => none) 0 (some (X (1000 + 128))))))))), (u.2.2.2.2.2.2.2.2.2.2.2.1, .inl (G.2 1, 0, .inl (fun _ => 0))), (u.2.2.2.2.2.2.2.2.2.2.2.2.2, .inr (18, [.int 1, .int 0, .int 2, .ref u.2.2.1])), (u.2.2.2.2.2.2.2.2.2.2.2.2.1, .inr (17, [.int 0, .ref (X 3), .int 0])), (u.2.2.2.1, .inr (17, [.int 0, .ref (X 3), .int 0]))]) := by
  refine pz_onR (by decide +kernel) (Nat.le_of_ble_eq_true rfl) ?_
  intro p e s m below meth c A hx hb hr hml hown hts hlocks hin hx0 hP hK hD hS hA hE ls hl
  have hown : s.vm.findClass "SourcewrightModel" = some m.cls := hown
  have hl : lv_has ls 4 [(0, .ref a0), (1, .int x0), (2, .int x1)] := hl
  have hlo_x0 : (-2147483648 : Int) ≤ x0.toInt := by have h9 := Int32.le_toInt x0; omega
  have hhi_x0 : x0.toInt ≤ (2147483647 : Int) := by have h9 := Int32.toInt_lt x0; omega
  have hlo_x1 : (-2147483648 : Int) ≤ x1.toInt := by have h9 := Int32.le_toInt x1; omega
  have hhi_x1 : x1.toInt ≤ (2147483647 : Int) := by have h9 := Int32.toInt_lt x1; omega
  refine lv_aload_n hx hb dX16_isIdle_0 rfl (lv_at hl 0 rfl) ?_
  refine lv_iload_n hx hb dX16_isIdle_1 rfl (lv_at hl 1 rfl) ?_
  refine lv_iload_n hx hb dX16_isIdle_2 rfl (lv_at hl 2 rfl) ?_
  refine pz_go (wr := []) (vx_runV (C := "SourcewrightModel") (As := [.int x0, .int x1]) (rest := []) ⟨hx, hb, hml, hown, hts⟩ (cX16_withPlace_1 l hst G X s.heap.size a0 x0 x1 a1 a2 a3 a4) (cwV 2 hts (pz_gV wq_2517 wq_2519 wqs_103 wq_13 wq_2520) rfl rfl rfl (by decide +kernel) ⟨(Nat.le_of_ble_eq_true rfl), (Nat.le_of_ble_eq_true rfl)⟩) (pz_preV (C := ("SourcewrightModel", TX16, 7)) hK hP hD hS hA hE 0 (ci := 15) rfl rfl [0, 1, 2] rfl rfl) rfl rfl hl.1 rfl (lv_room (Nat.le_of_ble_eq_true rfl)) dX16_isIdle_3 ⟨(Nat.le_of_ble_eq_true rfl), (Nat.le_of_ble_eq_true rfl)⟩) hP hD hS hA [0, 1, 2] [] rfl rfl rfl (by decide) (fun u H locs hP hD hS => ?_)
  obtain ⟨q1, q2, q3, q4, q5, q6, q7, q8, q9, q10, q11, q12, q13, q14⟩ := u
  have hP : va_P G.1 pz_cl [(a0, .inr (15, [.int 1, .ref a1, .ref a2, .ref a3, .ref a4, .int 0, .null])), (a1, .inr (17, [.int 0, .ref (X 3), .int 0])), (a2, .inr (17, [.int 0, .ref (X 3), .int 0])), (q1, .inr (12, [.ref q2, .ref q3, .ref q5, .ref q4])), (q2, .inl (G.2 0, 0, .inl (fun _ => 0))), (q5, .inl (G.2 1, 0, .inl (fun _ => 0))), (q7, .inl (G.2 5, 0, .inr (.inr (.inr (.inr (fun _ => none)))))), (q8, .inl (G.2 1, 0, .inl (fun _ => 0))), (q9, .inl (G.2 1, 0, .inl (fun _ => 0))), (q11, .inr (18, [.int 1, .int 0, .int 2, .ref q3])), (q10, .inr (17, [.int 0, .ref (X 3), .int 0])), (q3, .inr (17, [.int 2, .ref q6, .int 1])), (q6, .inl (G.2 5, 10, .inr (.inr (.inr (.inr (va_up (fun _ => none) 0 (some (X (1000 + 128))))))))), (q12, .inl (G.2 1, 0, .inl (fun _ => 0))), (q14, .inr (18, [.int 1, .int 0, .int 2, .ref q3])), (q13, .inr (17, [.int 0, .ref (X 3), .int 0])), (q4, .inr (17, [.int 0, .ref (X 3), .int 0]))] H := hP
  have hD : va_D A [(a0, .inr (15, [.int 1, .ref a1, .ref a2, .ref a3, .ref a4, .int 0, .null])), (a1, .inr (17, [.int 0, .ref (X 3), .int 0])), (a2, .inr (17, [.int 0, .ref (X 3), .int 0])), (q1, .inr (12, [.ref q2, .ref q3, .ref q5, .ref q4])), (q2, .inl (G.2 0, 0, .inl (fun _ => 0))), (q5, .inl (G.2 1, 0, .inl (fun _ => 0))), (q7, .inl (G.2 5, 0, .inr (.inr (.inr (.inr (fun _ => none)))))), (q8, .inl (G.2 1, 0, .inl (fun _ => 0))), (q9, .inl (G.2 1, 0, .inl (fun _ => 0))), (q11, .inr (18, [.int 1, .int 0, .int 2, .ref q3])), (q10, .inr (17, [.int 0, .ref (X 3), .int 0])), (q3, .inr (17, [.int 2, .ref q6, .int 1])), (q6, .inl (G.2 5, 10, .inr (.inr (.inr (.inr (va_up (fun _ => none) 0 (some (X (1000 + 128))))))))), (q12, .inl (G.2 1, 0, .inl (fun _ => 0))), (q14, .inr (18, [.int 1, .int 0, .int 2, .ref q3])), (q13, .inr (17, [.int 0, .ref (X 3), .int 0])), (q4, .inr (17, [.int 0, .ref (X 3), .int 0]))] := hD
  refine W.eq (g2 := F0 m 6 ls [.null]) rfl ?_
  refine lv_astore_nN (lv' := [(3, .null), (0, .ref a0), (1, .int x0), (2, .int x1)]) hx hb dX16_isIdle_6 rfl hl (by decide) rfl (fun ls hl => ?_)
  refine lv_aload_nN hx hb dX16_isIdle_7 rfl (lv_at hl 0 rfl) ?_
  refine lv_ifnullN (tgt := 23) hx hb dX16_isIdle_8 (by decide) ?_
  refine lv_iconst (v := 0) hx hb dX16_isIdle_23 (by decide) ?_
  exact pz_rz hx hb hr hlocks (by decide +kernel) hS (Nat.le_of_ble_eq_true rfl) (Nat.le_of_ble_eq_true rfl) dX16_isIdle_24 (q1, q2, q3, q4, q5, q6, q7, q8, q9, q10, q11, q12, q13, q14) rfl (hP.sub [0, 1, 2, 3, 4, 5, 6, 7, 8, 9, 10, 11, 12, 13, 14, 15, 16] rfl) (hD.sub [0, 1, 2, 3, 4, 5, 6, 7, 8, 9, 10, 11, 12, 13, 14, 15, 16] rfl rfl)
set_option maxHeartbeats 4000000 in
set_option maxRecDepth 100000 in
theorem cX11_tidy_1 (l : Launch) (hst : l.stackTraces = false) (G : pz_G) (X : Nat → Nat) (sz : Nat) (a0 : Nat) (a1 : Nat) (a2 : Nat) (a3 : Nat) (a4 : Nat) (a5 : Nat) (a6 : Nat) (a7 : Nat) (a8 : Nat) (a9 : Nat) (a10 : Nat) (a11 : Nat) (a12 : Nat) (a13 : Nat) : pz_MR (S := Unit) l yX11_tidy (pz_cd yX11_tidy cX11_tidy 3 (some .boolean)) 0 0 0 0 G X sz [(a0, .inr (11, [.ref a1, .ref a2, .int 0, .ref a3, .int 0, .int 0, .ref a4, .ref a5, .ref a6, .ref a7, .ref a8, .ref a9, .ref a10, .ref a11, .ref a12, .ref a13, .int 0, .int (-1), .int (-1), .int 0]))] [.ref a0, .int 1] (fun u => some (.int 0)) (fun u => [(a0, .inr (11, [.ref a1, .ref a2, .int 0, .ref a3, .int 0, .int 1, .ref a4, .ref a5, .ref a6, .ref a7, .ref a8, .ref a9, .ref a10, .ref a11, .ref a12, .ref a13, .int 0, .int (-1), .int (-1), .int 0]))]) := by
  refine pz_onR (by decide +kernel) (Nat.le_of_ble_eq_true rfl) ?_
  intro p e s m below meth c A hx hb hr hml hown hts hlocks hin hx0 hP hK hD hS hA hE ls hl
  have hown : s.vm.findClass "Sourcewright" = some m.cls := hown
  have hl : lv_has ls 3 [(0, .ref a0), (1, .int 1)] := hl
  refine lv_aload_n hx hb dX11_tidy_0 rfl (lv_at hl 0 rfl) ?_
  refine va_get (D := G.1) (ci := 11) (v := .int 0) (C := "Sourcewright") (T := TX11) (N := 20) hx hb hts inX11 hown hK hP 0 rfl rfl 5 (by decide) (hts _ wq_448) (fun _ h9 => h9) rfl dX11_tidy_1 ?_
  refine lv_istore_n (lv' := [(2, .int 0), (0, .ref a0), (1, .int 1)]) hx hb dX11_tidy_4 rfl hl (by decide) rfl (fun ls hl => ?_)
  refine lv_aload_n hx hb dX11_tidy_5 rfl (lv_at hl 1 rfl) ?_
  refine lv_iload_n hx hb dX11_tidy_6 rfl (lv_at hl 2 rfl) ?_
  refine va_put (D := G.1) (ci := 11) (v := .int 1) (ty := tyX11 5) (C := "Sourcewright") (T := TX11) (N := 20) hx hb hts inX11 tyX11 tyX11_ok nmX11 hown hK hP hD hS 0 rfl rfl 5 (by decide) (hts _ wq_448) (fun _ h9 => h9) rfl (by decide +kernel) (by decide +kernel) (by decide +kernel) (Nat.le_of_ble_eq_true rfl) dX11_tidy_7 (fun H locs hP hD hS => ?_)
  have hP : va_P G.1 pz_cl [(a0, .inr (11, [.ref a1, .ref a2, .int 0, .ref a3, .int 0, .int 1, .ref a4, .ref a5, .ref a6, .ref a7, .ref a8, .ref a9, .ref a10, .ref a11, .ref a12, .ref a13, .int 0, .int (-1), .int (-1), .int 0]))] H := hP
  have hD : va_D A [(a0, .inr (11, [.ref a1, .ref a2, .int 0, .ref a3, .int 0, .int 1, .ref a4, .ref a5, .ref a6, .ref a7, .ref a8, .ref a9, .ref a10, .ref a11, .ref a12, .ref a13, .int 0, .int (-1), .int (-1), .int 0]))] := hD
  refine lv_iload_n hx hb dX11_tidy_10 rfl (lv_at hl 0 rfl) ?_
  refine lv_iload_n hx hb dX11_tidy_11 rfl (lv_at hl 2 rfl) ?_
  refine lv_icmp_eq (tgt := 25) hx hb dX11_tidy_12 (by decide) (fun hc => absurd hc (by decide)) (fun _ => ?_)
  refine lv_aload_n hx hb dX11_tidy_15 rfl (lv_at hl 1 rfl) ?_
  refine lv_iconst (v := (-1)) hx hb dX11_tidy_16 (by decide) ?_
  refine va_put (D := G.1) (ci := 11) (v := .int (-1)) (ty := tyX11 18) (C := "Sourcewright") (T := TX11) (N := 20) hx hb hts inX11 tyX11 tyX11_ok nmX11 hown hK hP hD hS 0 rfl rfl 18 (by decide) (hts _ wq_461) (fun _ h9 => h9) rfl (by decide +kernel) rfl rfl (Nat.le_of_ble_eq_true rfl) dX11_tidy_17 (fun H locs hP hD hS => ?_)
  have hP : va_P G.1 pz_cl [(a0, .inr (11, [.ref a1, .ref a2, .int 0, .ref a3, .int 0, .int 1, .ref a4, .ref a5, .ref a6, .ref a7, .ref a8, .ref a9, .ref a10, .ref a11, .ref a12, .ref a13, .int 0, .int (-1), .int (-1), .int 0]))] H := hP
  have hD : va_D A [(a0, .inr (11, [.ref a1, .ref a2, .int 0, .ref a3, .int 0, .int 1, .ref a4, .ref a5, .ref a6, .ref a7, .ref a8, .ref a9, .ref a10, .ref a11, .ref a12, .ref a13, .int 0, .int (-1), .int (-1), .int 0]))] := hD
  refine lv_aload_n hx hb dX11_tidy_20 rfl (lv_at hl 1 rfl) ?_
  refine lv_iconst (v := 0) hx hb dX11_tidy_21 (by decide) ?_
  refine va_put (D := G.1) (ci := 11) (v := .int 0) (ty := tyX11 19) (C := "Sourcewright") (T := TX11) (N := 20) hx hb hts inX11 tyX11 tyX11_ok nmX11 hown hK hP hD hS 0 rfl rfl 19 (by decide) (hts _ wq_462) (fun _ h9 => h9) rfl (by decide +kernel) (by decide +kernel) (by decide +kernel) (Nat.le_of_ble_eq_true rfl) dX11_tidy_22 (fun H locs hP hD hS => ?_)
  have hP : va_P G.1 pz_cl [(a0, .inr (11, [.ref a1, .ref a2, .int 0, .ref a3, .int 0, .int 1, .ref a4, .ref a5, .ref a6, .ref a7, .ref a8, .ref a9, .ref a10, .ref a11, .ref a12, .ref a13, .int 0, .int (-1), .int (-1), .int 0]))] H := hP
  have hD : va_D A [(a0, .inr (11, [.ref a1, .ref a2, .int 0, .ref a3, .int 0, .int 1, .ref a4, .ref a5, .ref a6, .ref a7, .ref a8, .ref a9, .ref a10, .ref a11, .ref a12, .ref a13, .int 0, .int (-1), .int (-1), .int 0]))] := hD
  refine lv_iload_n hx hb dX11_tidy_25 rfl (lv_at hl 0 rfl) ?_
  exact pz_rz hx hb hr hlocks (by decide +kernel) hS (Nat.le_of_ble_eq_true rfl) (Nat.le_of_ble_eq_true rfl) dX11_tidy_26 () rfl (hP.sub [0] rfl) (hD.sub [0] rfl rfl)
set_option maxHeartbeats 4000000 in
set_option maxRecDepth 100000 in
theorem cX16_tidy_1 (l : Launch) (hst : l.stackTraces = false) (G : pz_G) (X : Nat → Nat) (sz : Nat) (a0 : Nat) (a1 : Nat) (a2 : Nat) (a3 : Nat) (a4 : Nat) : pz_MR (S := Unit) l yX16_tidy (pz_cd yX16_tidy cX16_tidy 3 (some .boolean)) 0 0 0 0 G X sz [(a0, .inr (15, [.int 0, .ref a1, .ref a2, .ref a3, .ref a4, .int 0, .null]))] [.ref a0, .int 1] (fun u => some (.int 0)) (fun u => [(a0, .inr (15, [.int 0, .ref a1, .ref a2, .ref a3, .ref a4, .int 1, .null]))]) := by
  refine pz_onR (by decide +kernel) (Nat.le_of_ble_eq_true rfl) ?_
  intro p e s m below meth c A hx hb hr hml hown hts hlocks hin hx0 hP hK hD hS hA hE ls hl
  have hown : s.vm.findClass "SourcewrightModel" = some m.cls := hown
  have hl : lv_has ls 3 [(0, .ref a0), (1, .int 1)] := hl
  refine lv_aload_n hx hb dX16_tidy_0 rfl (lv_at hl 0 rfl) ?_
  refine lv_iconst (v := 0) hx hb dX16_tidy_1 (by decide) ?_
  refine va_put (D := G.1) (ci := 15) (v := .int 0) (ty := tyX16 0) (C := "SourcewrightModel") (T := TX16) (N := 7) hx hb hts inX16 tyX16 tyX16_ok nmX16 hown hK hP hD hS 0 rfl rfl 0 (by decide) (hts _ wq_1813) (fun _ h9 => h9) rfl (by decide +kernel) rfl rfl (Nat.le_of_ble_eq_true rfl) dX16_tidy_2 (fun H locs hP hD hS => ?_)
  have hP : va_P G.1 pz_cl [(a0, .inr (15, [.int 0, .ref a1, .ref a2, .ref a3, .ref a4, .int 0, .null]))] H := hP
  have hD : va_D A [(a0, .inr (15, [.int 0, .ref a1, .ref a2, .ref a3, .ref a4, .int 0, .null]))] := hD
  refine lv_aload_n hx hb dX16_tidy_5 rfl (lv_at hl 0 rfl) ?_
  refine va_get (D := G.1) (ci := 15) (v := .int 0) (C := "SourcewrightModel") (T := TX16) (N := 7) hx hb hts inX16 hown hK hP 0 rfl rfl 5 (by decide) (hts _ wq_1818) (fun _ h9 => h9) rfl dX16_tidy_6 ?_
  refine lv_istore_n (lv' := [(2, .int 0), (0, .ref a0), (1, .int 1)]) hx hb dX16_tidy_9 rfl hl (by decide) rfl (fun ls hl => ?_)
  refine lv_aload_n hx hb dX16_tidy_10 rfl (lv_at hl 1 rfl) ?_
  refine lv_iload_n hx hb dX16_tidy_11 rfl (lv_at hl 2 rfl) ?_
  refine va_put (D := G.1) (ci := 15) (v := .int 1) (ty := tyX16 5) (C := "SourcewrightModel") (T := TX16) (N := 7) hx hb hts inX16 tyX16 tyX16_ok nmX16 hown hK hP hD hS 0 rfl rfl 5 (by decide) (hts _ wq_1818) (fun _ h9 => h9) rfl (by decide +kernel) (by decide +kernel) (by decide +kernel) (Nat.le_of_ble_eq_true rfl) dX16_tidy_12 (fun H locs hP hD hS => ?_)
  have hP : va_P G.1 pz_cl [(a0, .inr (15, [.int 0, .ref a1, .ref a2, .ref a3, .ref a4, .int 1, .null]))] H := hP
  have hD : va_D A [(a0, .inr (15, [.int 0, .ref a1, .ref a2, .ref a3, .ref a4, .int 1, .null]))] := hD
  refine lv_iload_n hx hb dX16_tidy_15 rfl (lv_at hl 0 rfl) ?_
  exact pz_rz hx hb hr hlocks (by decide +kernel) hS (Nat.le_of_ble_eq_true rfl) (Nat.le_of_ble_eq_true rfl) dX16_tidy_16 () rfl (hP.sub [0] rfl) (hD.sub [0] rfl rfl)
set_option maxHeartbeats 4000000 in
set_option maxRecDepth 100000 in
theorem cX11_tidy_2 (l : Launch) (hst : l.stackTraces = false) (G : pz_G) (X : Nat → Nat) (sz : Nat) (a0 : Nat) (a1 : Nat) (a2 : Nat) (a3 : Nat) (a4 : Nat) (a5 : Nat) (a6 : Nat) (a7 : Nat) (a8 : Nat) (a9 : Nat) (a10 : Nat) (a11 : Nat) (a12 : Nat) (a13 : Nat) : pz_MR (S := Unit) l yX11_tidy (pz_cd yX11_tidy cX11_tidy 3 (some .boolean)) 0 0 0 0 G X sz [(a0, .inr (11, [.ref a1, .ref a2, .int 0, .ref a3, .int 0, .int 0, .ref a4, .ref a5, .ref a6, .ref a7, .ref a8, .ref a9, .ref a10, .ref a11, .ref a12, .ref a13, .int 0, .int (-1), .int (-1), .int 0]))] [.ref a0, .int 0] (fun u => some (.int 0)) (fun u => [(a0, .inr (11, [.ref a1, .ref a2, .int 0, .ref a3, .int 0, .int 0, .ref a4, .ref a5, .ref a6, .ref a7, .ref a8, .ref a9, .ref a10, .ref a11, .ref a12, .ref a13, .int 0, .int (-1), .int (-1), .int 0]))]) := by
  refine pz_onR (by decide +kernel) (Nat.le_of_ble_eq_true rfl) ?_
  intro p e s m below meth c A hx hb hr hml hown hts hlocks hin hx0 hP hK hD hS hA hE ls hl
  have hown : s.vm.findClass "Sourcewright" = some m.cls := hown
  have hl : lv_has ls 3 [(0, .ref a0), (1, .int 0)] := hl
  refine lv_aload_n hx hb dX11_tidy_0 rfl (lv_at hl 0 rfl) ?_
  refine va_get (D := G.1) (ci := 11) (v := .int 0) (C := "Sourcewright") (T := TX11) (N := 20) hx hb hts inX11 hown hK hP 0 rfl rfl 5 (by decide) (hts _ wq_448) (fun _ h9 => h9) rfl dX11_tidy_1 ?_
  refine lv_istore_n (lv' := [(2, .int 0), (0, .ref a0), (1, .int 0)]) hx hb dX11_tidy_4 rfl hl (by decide) rfl (fun ls hl => ?_)
  refine lv_aload_n hx hb dX11_tidy_5 rfl (lv_at hl 1 rfl) ?_
  refine lv_iload_n hx hb dX11_tidy_6 rfl (lv_at hl 2 rfl) ?_
  refine va_put (D := G.1) (ci := 11) (v := .int 0) (ty := tyX11 5) (C := "Sourcewright") (T := TX11) (N := 20) hx hb hts inX11 tyX11 tyX11_ok nmX11 hown hK hP hD hS 0 rfl rfl 5 (by decide) (hts _ wq_448) (fun _ h9 => h9) rfl (by decide +kernel) (by decide +kernel) (by decide +kernel) (Nat.le_of_ble_eq_true rfl) dX11_tidy_7 (fun H locs hP hD hS => ?_)
  have hP : va_P G.1 pz_cl [(a0, .inr (11, [.ref a1, .ref a2, .int 0, .ref a3, .int 0, .int 0, .ref a4, .ref a5, .ref a6, .ref a7, .ref a8, .ref a9, .ref a10, .ref a11, .ref a12, .ref a13, .int 0, .int (-1), .int (-1), .int 0]))] H := hP
  have hD : va_D A [(a0, .inr (11, [.ref a1, .ref a2, .int 0, .ref a3, .int 0, .int 0, .ref a4, .ref a5, .ref a6, .ref a7, .ref a8, .ref a9, .ref a10, .ref a11, .ref a12, .ref a13, .int 0, .int (-1), .int (-1), .int 0]))] := hD
  refine lv_iload_n hx hb dX11_tidy_10 rfl (lv_at hl 0 rfl) ?_
  refine lv_iload_n hx hb dX11_tidy_11 rfl (lv_at hl 2 rfl) ?_
  refine lv_icmp_eq (tgt := 25) hx hb dX11_tidy_12 (by decide) (fun _ => ?_) (fun hc => absurd hc (by decide))
  refine lv_iload_n hx hb dX11_tidy_25 rfl (lv_at hl 0 rfl) ?_
  exact pz_rz hx hb hr hlocks (by decide +kernel) hS (Nat.le_of_ble_eq_true rfl) (Nat.le_of_ble_eq_true rfl) dX11_tidy_26 () rfl (hP.sub [0] rfl) (hD.sub [0] rfl rfl)
set_option maxHeartbeats 4000000 in
set_option maxRecDepth 100000 in
theorem cX16_tidy_2 (l : Launch) (hst : l.stackTraces = false) (G : pz_G) (X : Nat → Nat) (sz : Nat) (a0 : Nat) (a1 : Nat) (a2 : Nat) (a3 : Nat) (a4 : Nat) : pz_MR (S := Unit) l yX16_tidy (pz_cd yX16_tidy cX16_tidy 3 (some .boolean)) 0 0 0 0 G X sz [(a0, .inr (15, [.int 0, .ref a1, .ref a2, .ref a3, .ref a4, .int 0, .null]))] [.ref a0, .int 0] (fun u => some (.int 0)) (fun u => [(a0, .inr (15, [.int 0, .ref a1, .ref a2, .ref a3, .ref a4, .int 0, .null]))]) := by
  refine pz_onR (by decide +kernel) (Nat.le_of_ble_eq_true rfl) ?_
  intro p e s m below meth c A hx hb hr hml hown hts hlocks hin hx0 hP hK hD hS hA hE ls hl
  have hown : s.vm.findClass "SourcewrightModel" = some m.cls := hown
  have hl : lv_has ls 3 [(0, .ref a0), (1, .int 0)] := hl
  refine lv_aload_n hx hb dX16_tidy_0 rfl (lv_at hl 0 rfl) ?_
  refine lv_iconst (v := 0) hx hb dX16_tidy_1 (by decide) ?_
  refine va_put (D := G.1) (ci := 15) (v := .int 0) (ty := tyX16 0) (C := "SourcewrightModel") (T := TX16) (N := 7) hx hb hts inX16 tyX16 tyX16_ok nmX16 hown hK hP hD hS 0 rfl rfl 0 (by decide) (hts _ wq_1813) (fun _ h9 => h9) rfl (by decide +kernel) rfl rfl (Nat.le_of_ble_eq_true rfl) dX16_tidy_2 (fun H locs hP hD hS => ?_)
  have hP : va_P G.1 pz_cl [(a0, .inr (15, [.int 0, .ref a1, .ref a2, .ref a3, .ref a4, .int 0, .null]))] H := hP
  have hD : va_D A [(a0, .inr (15, [.int 0, .ref a1, .ref a2, .ref a3, .ref a4, .int 0, .null]))] := hD
  refine lv_aload_n hx hb dX16_tidy_5 rfl (lv_at hl 0 rfl) ?_
  refine va_get (D := G.1) (ci := 15) (v := .int 0) (C := "SourcewrightModel") (T := TX16) (N := 7) hx hb hts inX16 hown hK hP 0 rfl rfl 5 (by decide) (hts _ wq_1818) (fun _ h9 => h9) rfl dX16_tidy_6 ?_
  refine lv_istore_n (lv' := [(2, .int 0), (0, .ref a0), (1, .int 0)]) hx hb dX16_tidy_9 rfl hl (by decide) rfl (fun ls hl => ?_)
  refine lv_aload_n hx hb dX16_tidy_10 rfl (lv_at hl 1 rfl) ?_
  refine lv_iload_n hx hb dX16_tidy_11 rfl (lv_at hl 2 rfl) ?_
  refine va_put (D := G.1) (ci := 15) (v := .int 0) (ty := tyX16 5) (C := "SourcewrightModel") (T := TX16) (N := 7) hx hb hts inX16 tyX16 tyX16_ok nmX16 hown hK hP hD hS 0 rfl rfl 5 (by decide) (hts _ wq_1818) (fun _ h9 => h9) rfl (by decide +kernel) (by decide +kernel) (by decide +kernel) (Nat.le_of_ble_eq_true rfl) dX16_tidy_12 (fun H locs hP hD hS => ?_)
  have hP : va_P G.1 pz_cl [(a0, .inr (15, [.int 0, .ref a1, .ref a2, .ref a3, .ref a4, .int 0, .null]))] H := hP
  have hD : va_D A [(a0, .inr (15, [.int 0, .ref a1, .ref a2, .ref a3, .ref a4, .int 0, .null]))] := hD
  refine lv_iload_n hx hb dX16_tidy_15 rfl (lv_at hl 0 rfl) ?_
  exact pz_rz hx hb hr hlocks (by decide +kernel) hS (Nat.le_of_ble_eq_true rfl) (Nat.le_of_ble_eq_true rfl) dX16_tidy_16 () rfl (hP.sub [0] rfl) (hD.sub [0] rfl rfl)
set_option maxHeartbeats 4000000 in
set_option maxRecDepth 100000 in
theorem cX11_source_1 (l : Launch) (hst : l.stackTraces = false) (G : pz_G) (X : Nat → Nat) (sz : Nat) (a0 : Nat) (x0 : Int32) (a1 : Nat) (a2 : Nat) (a3 : Nat) (a4 : Nat) (a5 : Nat) (a6 : Nat) (a7 : Nat) (a8 : Nat) (a9 : Nat) (a10 : Nat) (a11 : Nat) (a12 : Nat) (a13 : Nat) (a14 : Nat) (a15 : Nat) (a16 : Nat) (a17 : Nat) (a18 : Nat) (a19 : Nat) (a20 : Nat) (a21 : Nat) (a22 : Nat) (a23 : Nat) (a24 : Nat) (f0 : Nat → Int64) (f1 : Nat → Int64) (f2 : Nat → Int32) : pz_MT l yX11_source (pz_cd yX11_source cX11_source 2 (some .int)) 7 108 1 6 G X sz [(a0, .inr (11, [.ref a1, .ref a8, .int 0, .ref a9, .int 0, .int 0, .ref a2, .ref a10, .ref a11, .ref a6, .ref a12, .ref a13, .ref a14, .ref a15, .ref a16, .ref a17, .int 0, .int (-1), .int (-1), .int 0])), (a1, .inr (2, [.ref a18, .ref a19, .int 0])), (a2, .inr (5, [.ref a1, .ref a3, .ref a20, .ref a21, .ref a22, .ref a23, .ref a24, .int 0, .int 0, .int 0])), (a3, .inr (7, [.ref a4, .ref a5])), (a4, .inl (G.2 2, 121, .inr (.inl (f0)))), (a5, .inl (G.2 2, 121, .inr (.inl (f1)))), (a6, .inr (3, [.ref a1, .ref a2, .ref a7])), (a7, .inl (G.2 0, 120, .inl (f2)))] [.ref a0, .int x0] "java/lang/IndexOutOfBoundsException" := by
  refine pz_onT (by decide +kernel) (Nat.le_of_ble_eq_true rfl) ?_
  intro p e s m below meth c A hx hb hr hml hown hts hlocks hin hx0 hP hK hD hS hA hE ls hl
  have hown : s.vm.findClass "Sourcewright" = some m.cls := hown
  have hl : lv_has ls 2 [(0, .ref a0), (1, .int x0)] := hl
  have hlo_x0 : (-2147483648 : Int) ≤ x0.toInt := by have h9 := Int32.le_toInt x0; omega
  have hhi_x0 : x0.toInt ≤ (2147483647 : Int) := by have h9 := Int32.toInt_lt x0; omega
  refine lv_aload_n hx hb dX11_source_0 rfl (lv_at hl 0 rfl) ?_
  refine lv_iload_n hx hb dX11_source_1 rfl (lv_at hl 1 rfl) ?_
  refine pz_goT (wr := []) (vx_runV (C := "Sourcewright") (As := [.int x0]) (rest := []) ⟨hx, hb, hml, hown, hts⟩ (cX11_checkFunction_1 l hst G X s.heap.size a0 x0 a1 a2 a3 a4 a5 a6 a7 a8 a9 a10 a11 a12 a13 a14 a15 a16 a17 a18 a19 a20 a21 a22 a23 a24 f0 f1 f2) (cwV 1 hts (pz_gV wq_1468 wq_1470 wqs_77 wq_1 wq_1471) rfl rfl rfl (by decide +kernel) ⟨(Nat.le_of_ble_eq_true rfl), (Nat.le_of_ble_eq_true rfl)⟩) (pz_preV (C := ("Sourcewright", TX11, 20)) hK hP hD hS hA hE 0 (ci := 11) rfl rfl [0, 1, 2, 3, 4, 5, 6, 7] rfl rfl) rfl rfl hl.1 rfl (lv_room (Nat.le_of_ble_eq_true rfl)) dX11_source_2 ⟨(Nat.le_of_ble_eq_true rfl), (Nat.le_of_ble_eq_true rfl)⟩) hP hD hS hA [0, 1, 2, 3, 4, 5, 6, 7] [] rfl rfl rfl (by decide) (fun ce q9 H locs hP hD hS hce hcv hcl => ?_)
  exact pz_out hx0 hlocks hce hcv hcl hS (Nat.le_of_ble_eq_true rfl) (Nat.le_of_ble_eq_true rfl)
set_option maxHeartbeats 4000000 in
set_option maxRecDepth 100000 in
theorem cL_source_1 (l : Launch) (hst : l.stackTraces = false) (G : pz_G) (X : Nat → Nat) (sz : Nat) (a0 : Nat) (x0 : Int32) (a1 : Nat) (a2 : Nat) (a3 : Nat) (a4 : Nat) (a5 : Nat) (a6 : Nat) (a7 : Nat) (a8 : Nat) (a9 : Nat) (a10 : Nat) (a11 : Nat) (a12 : Nat) (a13 : Nat) (a14 : Nat) (a15 : Nat) (a16 : Nat) (a17 : Nat) (a18 : Nat) (a19 : Nat) (a20 : Nat) (a21 : Nat) (a22 : Nat) (a23 : Nat) (a24 : Nat) (a25 : Nat) (f0 : Nat → Int64) (f1 : Nat → Int64) (f2 : Nat → Int32) : pz_MR (S := Unit) l yL_source (pz_cw yL_source cL_source 4 (some .int) [(0, 9, 12, 21)]) 8 129 1 6 G X sz [(a0, .inr (11, [.ref a2, .ref a9, .int 0, .ref a10, .int 0, .int 0, .ref a3, .ref a11, .ref a12, .ref a7, .ref a13, .ref a14, .ref a15, .ref a16, .ref a17, .ref a18, .int 0, .int (-1), .int (-1), .int 0])), (a2, .inr (2, [.ref a19, .ref a20, .int 0])), (a3, .inr (5, [.ref a2, .ref a4, .ref a21, .ref a22, .ref a23, .ref a24, .ref a25, .int 0, .int 0, .int 0])), (a4, .inr (7, [.ref a5, .ref a6])), (a5, .inl (G.2 2, 121, .inr (.inl (f0)))), (a6, .inl (G.2 2, 121, .inr (.inl (f1)))), (a7, .inr (3, [.ref a2, .ref a3, .ref a8])), (a8, .inl (G.2 0, 120, .inl (f2)))] [.ref a0, .int x0, .ref a1] (fun u => some (.int 1)) (fun u => []) := by
  refine pz_onHR (by decide +kernel) (Nat.le_of_ble_eq_true rfl) ?_
  intro p e s m below meth c A hx hb hr hml hown hts hlocks hin hx0 hP hK hD hS hA hE ls hl
  have hown : s.vm.findClass "SourcewrightLaw" = some m.cls := hown
  have hl : lv_has ls 4 [(0, .ref a0), (1, .int x0), (2, .ref a1)] := hl
  have hlo_x0 : (-2147483648 : Int) ≤ x0.toInt := by have h9 := Int32.le_toInt x0; omega
  have hhi_x0 : x0.toInt ≤ (2147483647 : Int) := by have h9 := Int32.toInt_lt x0; omega
  refine lv_aload_n hx hb dL_source_0 rfl (lv_at hl 2 rfl) ?_
  refine lv_iconst (v := 0) hx hb dL_source_1 (by decide) ?_
  refine lv_aload_n hx hb dL_source_2 rfl (lv_at hl 0 rfl) ?_
  refine lv_iload_n hx hb dL_source_3 rfl (lv_at hl 1 rfl) ?_
  refine pz_goT (wr := []) (vx_runV (C := "Sourcewright") (As := [.int x0]) (rest := [.int 0, .ref a1]) ⟨hx, hb, hml, hown, hts⟩ (cX11_source_1 l hst G X s.heap.size a0 x0 a2 a3 a4 a5 a6 a7 a8 a9 a10 a11 a12 a13 a14 a15 a16 a17 a18 a19 a20 a21 a22 a23 a24 a25 f0 f1 f2) (cwV 1 hts (pz_gV wq_1657 wq_1658 wq_1659 wq_1 wq_1660) rfl rfl rfl (by decide +kernel) ⟨(Nat.le_of_ble_eq_true rfl), (Nat.le_of_ble_eq_true rfl)⟩) (pz_preV (C := ("Sourcewright", TX11, 20)) hK hP hD hS hA hE 0 (ci := 11) rfl rfl [0, 1, 2, 3, 4, 5, 6, 7] rfl rfl) rfl rfl hl.1 rfl (lv_room (Nat.le_of_ble_eq_true rfl)) dL_source_4 ⟨(Nat.le_of_ble_eq_true rfl), (Nat.le_of_ble_eq_true rfl)⟩) hP hD hS hA [0, 1, 2, 3, 4, 5, 6, 7] [] rfl rfl rfl (by decide) (fun ce q9 H locs hP hD hS hce hcv hcl => ?_)
  refine vx_catch hown [] ⟨0, 9, 12, 21⟩ [] hx0 (fun z hz => by cases hz) rfl (by decide) (hts _ wq_1356) (va_Nw.use rfl (hE.2.2.2.2.2.2.2.2.1 _ nx_1390)) hce hcv hcl ?_
  have hP : va_P G.1 pz_cl [] H := hP
  have hD : va_D A [] := hD
  refine W.eq (g2 := F0 m 12 ls [.ref q9]) rfl ?_
  refine lv_astore_n (lv' := [(3, .ref q9), (0, .ref a0), (1, .int x0), (2, .ref a1)]) hx hb dL_source_12 rfl hl (by decide) rfl (fun ls hl => ?_)
  refine lv_iconst (v := 1) hx hb dL_source_13 (by decide) ?_
  exact pz_rz hx hb hr hlocks (by decide +kernel) hS (Nat.le_of_ble_eq_true rfl) (Nat.le_of_ble_eq_true rfl) dL_source_14 () rfl (hP.sub [] rfl) (hD.sub [] rfl rfl)
set_option maxHeartbeats 4000000 in
set_option maxRecDepth 100000 in
theorem cX16_source_1 (l : Launch) (hst : l.stackTraces = false) (G : pz_G) (X : Nat → Nat) (sz : Nat) (a0 : Nat) (x0 : Int32) (a1 : Nat) (a2 : Nat) (a3 : Nat) (a4 : Nat) : pz_MR (S := Nat × Nat × Nat × Nat × Nat × Nat × Nat × Nat × Nat × Nat × Nat × Nat × Nat × Nat) l yX16_source (pz_cd yX16_source cX16_source 3 (some .int)) 8 197 14 34 G X sz [(a0, .inr (15, [.int 0, .ref a1, .ref a2, .ref a3, .ref a4, .int 0, .null])), (a1, .inr (17, [.int 0, .ref (X 3), .int 0])), (a2, .inr (17, [.int 0, .ref (X 3), .int 0]))] [.ref a0, .int x0] (fun u => some (.int 0)) (fun u => [(a0, .inr (15, [.int 1, .ref a1, .ref a2, .ref a3, .ref a4, .int 0, .null])), (a1, .inr (17, [.int 0, .ref (X 3), .int 0])), (a2, .inr (17, [.int 0, .ref (X 3), .int 0])), (u.1, .inr (12, [.ref u.2.1, .ref u.2.2.1, .ref u.2.2.2.2.1, .ref u.2.2.2.1])), (u.2.1, .inl (G.2 0, 0, .inl (fun _ => 0))), (u.2.2.2.2.1, .inl (G.2 1, 0, .inl (fun _ => 0))), (u.2.2.2.2.2.2.1, .inl (G.2 5, 0, .inr (.inr (.inr (.inr (fun _ => none)))))), (u.2.2.2.2.2.2.2.1, .inl (G.2 1, 0, .inl (fun _ => 0))), (u.2.2.2.2.2.2.2.2.1, .inl (G.2 1, 0, .inl (fun _ => 0))), (u.2.2.2.2.2.2.2.2.2.2.1, .inr (18, [.int 1, .int 0, .int 2, .ref u.2.2.1])), (u.2.2.2.2.2.2.2.2.2.1, .inr (17, [.int 0, .ref (X 3), .int 0])), (u.2.2.1, .inr (17, [.int 2, .ref u.2.2.2.2.2.1, .int 1])), (u.2.2.2.2.2.1, .inl (G.2 5, 10, .inr (.inr (.inr (.inr (va_up (fun _ => none) 0 (some (X (1000 + 128))))))))), (u.2.2.2.2.2.2.2.2.2.2.2.1, .inl (G.2 1, 0, .inl (fun _ => 0))), (u.2.2.2.2.2.2.2.2.2.2.2.2.2, .inr (18, [.int 1, .int 0, .int 2, .ref u.2.2.1])), (u.2.2.2.2.2.2.2.2.2.2.2.2.1, .inr (17, [.int 0, .ref (X 3), .int 0])), (u.2.2.2.1, .inr (17, [.int 0, .ref (X 3), .int 0]))]) := by
  refine pz_onR (by decide +kernel) (Nat.le_of_ble_eq_true rfl) ?_
  intro p e s m below meth c A hx hb hr hml hown hts hlocks hin hx0 hP hK hD hS hA hE ls hl
  have hown : s.vm.findClass "SourcewrightModel" = some m.cls := hown
  have hl : lv_has ls 3 [(0, .ref a0), (1, .int x0)] := hl
  have hlo_x0 : (-2147483648 : Int) ≤ x0.toInt := by have h9 := Int32.le_toInt x0; omega
  have hhi_x0 : x0.toInt ≤ (2147483647 : Int) := by have h9 := Int32.toInt_lt x0; omega
  refine lv_aload_n hx hb dX16_source_0 rfl (lv_at hl 0 rfl) ?_
  refine lv_iload_n hx hb dX16_source_1 rfl (lv_at hl 1 rfl) ?_
  refine pz_go (wr := []) (vx_runV (C := "SourcewrightModel") (As := [.int x0]) (rest := []) ⟨hx, hb, hml, hown, hts⟩ (cX16_function_1 l hst G X s.heap.size a0 x0 a1 a2 a3 a4) (cwV 1 hts (pz_gV wq_2391 wq_2393 wqs_99 wq_13 wq_2394) rfl rfl rfl (by decide +kernel) ⟨(Nat.le_of_ble_eq_true rfl), (Nat.le_of_ble_eq_true rfl)⟩) (pz_preV (C := ("SourcewrightModel", TX16, 7)) hK hP hD hS hA hE 0 (ci := 15) rfl rfl [0, 1, 2] rfl rfl) rfl rfl hl.1 rfl (lv_room (Nat.le_of_ble_eq_true rfl)) dX16_source_2 ⟨(Nat.le_of_ble_eq_true rfl), (Nat.le_of_ble_eq_true rfl)⟩) hP hD hS hA [0, 1, 2] [] rfl rfl rfl (by decide) (fun u H locs hP hD hS => ?_)
  obtain ⟨q1, q2, q3, q4, q5, q6, q7, q8, q9, q10, q11, q12, q13, q14⟩ := u
  have hP : va_P G.1 pz_cl [(a0, .inr (15, [.int 1, .ref a1, .ref a2, .ref a3, .ref a4, .int 0, .null])), (a1, .inr (17, [.int 0, .ref (X 3), .int 0])), (a2, .inr (17, [.int 0, .ref (X 3), .int 0])), (q1, .inr (12, [.ref q2, .ref q3, .ref q5, .ref q4])), (q2, .inl (G.2 0, 0, .inl (fun _ => 0))), (q5, .inl (G.2 1, 0, .inl (fun _ => 0))), (q7, .inl (G.2 5, 0, .inr (.inr (.inr (.inr (fun _ => none)))))), (q8, .inl (G.2 1, 0, .inl (fun _ => 0))), (q9, .inl (G.2 1, 0, .inl (fun _ => 0))), (q11, .inr (18, [.int 1, .int 0, .int 2, .ref q3])), (q10, .inr (17, [.int 0, .ref (X 3), .int 0])), (q3, .inr (17, [.int 2, .ref q6, .int 1])), (q6, .inl (G.2 5, 10, .inr (.inr (.inr (.inr (va_up (fun _ => none) 0 (some (X (1000 + 128))))))))), (q12, .inl (G.2 1, 0, .inl (fun _ => 0))), (q14, .inr (18, [.int 1, .int 0, .int 2, .ref q3])), (q13, .inr (17, [.int 0, .ref (X 3), .int 0])), (q4, .inr (17, [.int 0, .ref (X 3), .int 0]))] H := hP
  have hD : va_D A [(a0, .inr (15, [.int 1, .ref a1, .ref a2, .ref a3, .ref a4, .int 0, .null])), (a1, .inr (17, [.int 0, .ref (X 3), .int 0])), (a2, .inr (17, [.int 0, .ref (X 3), .int 0])), (q1, .inr (12, [.ref q2, .ref q3, .ref q5, .ref q4])), (q2, .inl (G.2 0, 0, .inl (fun _ => 0))), (q5, .inl (G.2 1, 0, .inl (fun _ => 0))), (q7, .inl (G.2 5, 0, .inr (.inr (.inr (.inr (fun _ => none)))))), (q8, .inl (G.2 1, 0, .inl (fun _ => 0))), (q9, .inl (G.2 1, 0, .inl (fun _ => 0))), (q11, .inr (18, [.int 1, .int 0, .int 2, .ref q3])), (q10, .inr (17, [.int 0, .ref (X 3), .int 0])), (q3, .inr (17, [.int 2, .ref q6, .int 1])), (q6, .inl (G.2 5, 10, .inr (.inr (.inr (.inr (va_up (fun _ => none) 0 (some (X (1000 + 128))))))))), (q12, .inl (G.2 1, 0, .inl (fun _ => 0))), (q14, .inr (18, [.int 1, .int 0, .int 2, .ref q3])), (q13, .inr (17, [.int 0, .ref (X 3), .int 0])), (q4, .inr (17, [.int 0, .ref (X 3), .int 0]))] := hD
  refine W.eq (g2 := F0 m 5 ls [.null]) rfl ?_
  refine lv_astore_nN (lv' := [(2, .null), (0, .ref a0), (1, .int x0)]) hx hb dX16_source_5 rfl hl (by decide) rfl (fun ls hl => ?_)
  refine lv_aload_nN hx hb dX16_source_6 rfl (lv_at hl 0 rfl) ?_
  refine lv_ifnonnullN hx hb dX16_source_7 ?_
  refine lv_iconst (v := 0) hx hb dX16_source_10 (by decide) ?_
  refine lv_goto (tgt := 25) hx hb dX16_source_11 (by decide) ?_
  exact pz_rz hx hb hr hlocks (by decide +kernel) hS (Nat.le_of_ble_eq_true rfl) (Nat.le_of_ble_eq_true rfl) dX16_source_25 (q1, q2, q3, q4, q5, q6, q7, q8, q9, q10, q11, q12, q13, q14) rfl (hP.sub [0, 1, 2, 3, 4, 5, 6, 7, 8, 9, 10, 11, 12, 13, 14, 15, 16] rfl) (hD.sub [0, 1, 2, 3, 4, 5, 6, 7, 8, 9, 10, 11, 12, 13, 14, 15, 16] rfl rfl)
set_option maxHeartbeats 4000000 in
set_option maxRecDepth 100000 in
theorem cX11_sign_1 (l : Launch) (hst : l.stackTraces = false) (G : pz_G) (X : Nat → Nat) (sz : Nat) (a0 : Nat) (x0 : Int32) (x1 : Int32) (a1 : Nat) (a2 : Nat) (a3 : Nat) (a4 : Nat) (a5 : Nat) (a6 : Nat) (a7 : Nat) (a8 : Nat) (a9 : Nat) (a10 : Nat) (a11 : Nat) (a12 : Nat) (a13 : Nat) (a14 : Nat) (a15 : Nat) (a16 : Nat) (a17 : Nat) (a18 : Nat) (a19 : Nat) (a20 : Nat) (a21 : Nat) (a22 : Nat) (a23 : Nat) (a24 : Nat) (f0 : Nat → Int64) (f1 : Nat → Int64) (f2 : Nat → Int32) : pz_MT l yX11_sign (pz_cd yX11_sign cX11_sign 3 (some .char)) 7 108 1 6 G X sz [(a0, .inr (11, [.ref a1, .ref a8, .int 0, .ref a9, .int 0, .int 0, .ref a2, .ref a10, .ref a11, .ref a6, .ref a12, .ref a13, .ref a14, .ref a15, .ref a16, .ref a17, .int 0, .int (-1), .int (-1), .int 0])), (a1, .inr (2, [.ref a18, .ref a19, .int 0])), (a2, .inr (5, [.ref a1, .ref a3, .ref a20, .ref a21, .ref a22, .ref a23, .ref a24, .int 0, .int 0, .int 0])), (a3, .inr (7, [.ref a4, .ref a5])), (a4, .inl (G.2 2, 121, .inr (.inl (f0)))), (a5, .inl (G.2 2, 121, .inr (.inl (f1)))), (a6, .inr (3, [.ref a1, .ref a2, .ref a7])), (a7, .inl (G.2 0, 120, .inl (f2)))] [.ref a0, .int x0, .int x1] "java/lang/IndexOutOfBoundsException" := by
  refine pz_onT (by decide +kernel) (Nat.le_of_ble_eq_true rfl) ?_
  intro p e s m below meth c A hx hb hr hml hown hts hlocks hin hx0 hP hK hD hS hA hE ls hl
  have hown : s.vm.findClass "Sourcewright" = some m.cls := hown
  have hl : lv_has ls 3 [(0, .ref a0), (1, .int x0), (2, .int x1)] := hl
  have hlo_x0 : (-2147483648 : Int) ≤ x0.toInt := by have h9 := Int32.le_toInt x0; omega
  have hhi_x0 : x0.toInt ≤ (2147483647 : Int) := by have h9 := Int32.toInt_lt x0; omega
  have hlo_x1 : (-2147483648 : Int) ≤ x1.toInt := by have h9 := Int32.le_toInt x1; omega
  have hhi_x1 : x1.toInt ≤ (2147483647 : Int) := by have h9 := Int32.toInt_lt x1; omega
  refine lv_aload_n hx hb dX11_sign_0 rfl (lv_at hl 0 rfl) ?_
  refine lv_iload_n hx hb dX11_sign_1 rfl (lv_at hl 1 rfl) ?_
  refine pz_goT (wr := []) (vx_runV (C := "Sourcewright") (As := [.int x0]) (rest := []) ⟨hx, hb, hml, hown, hts⟩ (cX11_checkFunction_1 l hst G X s.heap.size a0 x0 a1 a2 a3 a4 a5 a6 a7 a8 a9 a10 a11 a12 a13 a14 a15 a16 a17 a18 a19 a20 a21 a22 a23 a24 f0 f1 f2) (cwV 1 hts (pz_gV wq_1468 wq_1470 wqs_77 wq_1 wq_1471) rfl rfl rfl (by decide +kernel) ⟨(Nat.le_of_ble_eq_true rfl), (Nat.le_of_ble_eq_true rfl)⟩) (pz_preV (C := ("Sourcewright", TX11, 20)) hK hP hD hS hA hE 0 (ci := 11) rfl rfl [0, 1, 2, 3, 4, 5, 6, 7] rfl rfl) rfl rfl hl.1 rfl (lv_room (Nat.le_of_ble_eq_true rfl)) dX11_sign_2 ⟨(Nat.le_of_ble_eq_true rfl), (Nat.le_of_ble_eq_true rfl)⟩) hP hD hS hA [0, 1, 2, 3, 4, 5, 6, 7] [] rfl rfl rfl (by decide) (fun ce q9 H locs hP hD hS hce hcv hcl => ?_)
  exact pz_out hx0 hlocks hce hcv hcl hS (Nat.le_of_ble_eq_true rfl) (Nat.le_of_ble_eq_true rfl)
set_option maxHeartbeats 4000000 in
set_option maxRecDepth 100000 in
theorem cL_sign_1 (l : Launch) (hst : l.stackTraces = false) (G : pz_G) (X : Nat → Nat) (sz : Nat) (a0 : Nat) (x0 : Int32) (x1 : Int32) (a1 : Nat) (a2 : Nat) (a3 : Nat) (a4 : Nat) (a5 : Nat) (a6 : Nat) (a7 : Nat) (a8 : Nat) (a9 : Nat) (a10 : Nat) (a11 : Nat) (a12 : Nat) (a13 : Nat) (a14 : Nat) (a15 : Nat) (a16 : Nat) (a17 : Nat) (a18 : Nat) (a19 : Nat) (a20 : Nat) (a21 : Nat) (a22 : Nat) (a23 : Nat) (a24 : Nat) (a25 : Nat) (f0 : Nat → Int64) (f1 : Nat → Int64) (f2 : Nat → Int32) : pz_MR (S := Unit) l yL_sign (pz_cw yL_sign cL_sign 5 (some .int) [(0, 10, 13, 21), (0, 10, 17, 48)]) 8 130 1 6 G X sz [(a0, .inr (11, [.ref a2, .ref a9, .int 0, .ref a10, .int 0, .int 0, .ref a3, .ref a11, .ref a12, .ref a7, .ref a13, .ref a14, .ref a15, .ref a16, .ref a17, .ref a18, .int 0, .int (-1), .int (-1), .int 0])), (a2, .inr (2, [.ref a19, .ref a20, .int 0])), (a3, .inr (5, [.ref a2, .ref a4, .ref a21, .ref a22, .ref a23, .ref a24, .ref a25, .int 0, .int 0, .int 0])), (a4, .inr (7, [.ref a5, .ref a6])), (a5, .inl (G.2 2, 121, .inr (.inl (f0)))), (a6, .inl (G.2 2, 121, .inr (.inl (f1)))), (a7, .inr (3, [.ref a2, .ref a3, .ref a8])), (a8, .inl (G.2 0, 120, .inl (f2)))] [.ref a0, .int x0, .int x1, .ref a1] (fun u => some (.int 1)) (fun u => []) := by
  refine pz_onHR (by decide +kernel) (Nat.le_of_ble_eq_true rfl) ?_
  intro p e s m below meth c A hx hb hr hml hown hts hlocks hin hx0 hP hK hD hS hA hE ls hl
  have hown : s.vm.findClass "SourcewrightLaw" = some m.cls := hown
  have hl : lv_has ls 5 [(0, .ref a0), (1, .int x0), (2, .int x1), (3, .ref a1)] := hl
  have hlo_x0 : (-2147483648 : Int) ≤ x0.toInt := by have h9 := Int32.le_toInt x0; omega
  have hhi_x0 : x0.toInt ≤ (2147483647 : Int) := by have h9 := Int32.toInt_lt x0; omega
  have hlo_x1 : (-2147483648 : Int) ≤ x1.toInt := by have h9 := Int32.le_toInt x1; omega
  have hhi_x1 : x1.toInt ≤ (2147483647 : Int) := by have h9 := Int32.toInt_lt x1; omega
  refine lv_aload_n hx hb dL_sign_0 rfl (lv_at hl 3 rfl) ?_
  refine lv_iconst (v := 0) hx hb dL_sign_1 (by decide) ?_
  refine lv_aload_n hx hb dL_sign_2 rfl (lv_at hl 0 rfl) ?_
  refine lv_iload_n hx hb dL_sign_3 rfl (lv_at hl 1 rfl) ?_
  refine lv_iload_n hx hb dL_sign_4 rfl (lv_at hl 2 rfl) ?_
  refine pz_goT (wr := []) (vx_runV (C := "Sourcewright") (As := [.int x0, .int x1]) (rest := [.int 0, .ref a1]) ⟨hx, hb, hml, hown, hts⟩ (cX11_sign_1 l hst G X s.heap.size a0 x0 x1 a2 a3 a4 a5 a6 a7 a8 a9 a10 a11 a12 a13 a14 a15 a16 a17 a18 a19 a20 a21 a22 a23 a24 a25 f0 f1 f2) (cwV 2 hts (pz_gV wq_1664 wq_1665 wq_1666 wq_1 wq_1667) rfl rfl rfl (by decide +kernel) ⟨(Nat.le_of_ble_eq_true rfl), (Nat.le_of_ble_eq_true rfl)⟩) (pz_preV (C := ("Sourcewright", TX11, 20)) hK hP hD hS hA hE 0 (ci := 11) rfl rfl [0, 1, 2, 3, 4, 5, 6, 7] rfl rfl) rfl rfl hl.1 rfl (lv_room (Nat.le_of_ble_eq_true rfl)) dL_sign_5 ⟨(Nat.le_of_ble_eq_true rfl), (Nat.le_of_ble_eq_true rfl)⟩) hP hD hS hA [0, 1, 2, 3, 4, 5, 6, 7] [] rfl rfl rfl (by decide) (fun ce q9 H locs hP hD hS hce hcv hcl => ?_)
  refine vx_catch hown [] ⟨0, 10, 13, 21⟩ [⟨0, 10, 17, 48⟩] hx0 (fun z hz => by cases hz) rfl (by decide) (hts _ wq_1356) (va_Nw.use rfl (hE.2.2.2.2.2.2.2.2.1 _ nx_1390)) hce hcv hcl ?_
  have hP : va_P G.1 pz_cl [] H := hP
  have hD : va_D A [] := hD
  refine W.eq (g2 := F0 m 13 ls [.ref q9]) rfl ?_
  refine lv_astore (lv' := [(4, .ref q9), (0, .ref a0), (1, .int x0), (2, .int x1), (3, .ref a1)]) hx hb dL_sign_13 hl (by decide) rfl (fun ls hl => ?_)
  refine lv_iconst (v := 1) hx hb dL_sign_15 (by decide) ?_
  exact pz_rz hx hb hr hlocks (by decide +kernel) hS (Nat.le_of_ble_eq_true rfl) (Nat.le_of_ble_eq_true rfl) dL_sign_16 () rfl (hP.sub [] rfl) (hD.sub [] rfl rfl)
set_option maxHeartbeats 4000000 in
set_option maxRecDepth 100000 in
theorem cX16_sign_1 (l : Launch) (hst : l.stackTraces = false) (G : pz_G) (X : Nat → Nat) (sz : Nat) (a0 : Nat) (x0 : Int32) (x1 : Int32) (a1 : Nat) (a2 : Nat) (a3 : Nat) (a4 : Nat) : pz_MR (S := Nat × Nat × Nat × Nat × Nat × Nat × Nat × Nat × Nat × Nat × Nat × Nat × Nat × Nat) l yX16_sign (pz_cd yX16_sign cX16_sign 5 (some .char)) 8 197 14 34 G X sz [(a0, .inr (15, [.int 0, .ref a1, .ref a2, .ref a3, .ref a4, .int 0, .null])), (a1, .inr (17, [.int 0, .ref (X 3), .int 0])), (a2, .inr (17, [.int 0, .ref (X 3), .int 0]))] [.ref a0, .int x0, .int x1] (fun u => some (.int 32)) (fun u => [(a0, .inr (15, [.int 1, .ref a1, .ref a2, .ref a3, .ref a4, .int 0, .null])), (a1, .inr (17, [.int 0, .ref (X 3), .int 0])), (a2, .inr (17, [.int 0, .ref (X 3), .int 0])), (u.1, .inr (12, [.ref u.2.1, .ref u.2.2.1, .ref u.2.2.2.2.1, .ref u.2.2.2.1])), (u.2.1, .inl (G.2 0, 0, .inl (fun _ => 0))), (u.2.2.2.2.1, .inl (G.2 1, 0, .inl (fun _ => 0))), (u.2.2.2.2.2.2.1, .inl (G.2 5, 0, .inr (.inr (.inr (.inr (fun _ => none)))))), (u.2.2.2.2.2.2.2.1, .inl (G.2 1, 0, .inl (fun _ => 0))), (u.2.2.2.2.2.2.2.2.1, .inl (G.2 1, 0, .inl (fun _ => 0))), (u.2.2.2.2.2.2.2.2.2.2.1, .inr (18, [.int 1, .int 0, .int 2, .ref u.2.2.1])), (u.2.2.2.2.2.2.2.2.2.1, .inr (17, [.int 0, .ref (X 3), .int 0])), (u.2.2.1, .inr (17, [.int 2, .ref u.2.2.2.2.2.1, .int 1])), (u.2.2.2.2.2.1, .inl (G.2 5, 10, .inr (.inr (.inr (.inr (va_up (fun _ => none) 0 (some (X (1000 + 128))))))))), (u.2.2.2.2.2.2.2.2.2.2.2.1, .inl (G.2 1, 0, .inl (fun _ => 0))), (u.2.2.2.2.2.2.2.2.2.2.2.2.2, .inr (18, [.int 1, .int 0, .int 2, .ref u.2.2.1])), (u.2.2.2.2.2.2.2.2.2.2.2.2.1, .inr (17, [.int 0, .ref (X 3), .int 0])), (u.2.2.2.1, .inr (17, [.int 0, .ref (X 3), .int 0]))]) := by
  refine pz_onR (by decide +kernel) (Nat.le_of_ble_eq_true rfl) ?_
  intro p e s m below meth c A hx hb hr hml hown hts hlocks hin hx0 hP hK hD hS hA hE ls hl
  have hown : s.vm.findClass "SourcewrightModel" = some m.cls := hown
  have hl : lv_has ls 5 [(0, .ref a0), (1, .int x0), (2, .int x1)] := hl
  have hlo_x0 : (-2147483648 : Int) ≤ x0.toInt := by have h9 := Int32.le_toInt x0; omega
  have hhi_x0 : x0.toInt ≤ (2147483647 : Int) := by have h9 := Int32.toInt_lt x0; omega
  have hlo_x1 : (-2147483648 : Int) ≤ x1.toInt := by have h9 := Int32.le_toInt x1; omega
  have hhi_x1 : x1.toInt ≤ (2147483647 : Int) := by have h9 := Int32.toInt_lt x1; omega
  refine lv_aload_n hx hb dX16_sign_0 rfl (lv_at hl 0 rfl) ?_
  refine lv_iload_n hx hb dX16_sign_1 rfl (lv_at hl 1 rfl) ?_
  refine pz_go (wr := []) (vx_runV (C := "SourcewrightModel") (As := [.int x0]) (rest := []) ⟨hx, hb, hml, hown, hts⟩ (cX16_function_1 l hst G X s.heap.size a0 x0 a1 a2 a3 a4) (cwV 1 hts (pz_gV wq_2391 wq_2393 wqs_99 wq_13 wq_2394) rfl rfl rfl (by decide +kernel) ⟨(Nat.le_of_ble_eq_true rfl), (Nat.le_of_ble_eq_true rfl)⟩) (pz_preV (C := ("SourcewrightModel", TX16, 7)) hK hP hD hS hA hE 0 (ci := 15) rfl rfl [0, 1, 2] rfl rfl) rfl rfl hl.1 rfl (lv_room (Nat.le_of_ble_eq_true rfl)) dX16_sign_2 ⟨(Nat.le_of_ble_eq_true rfl), (Nat.le_of_ble_eq_true rfl)⟩) hP hD hS hA [0, 1, 2] [] rfl rfl rfl (by decide) (fun u H locs hP hD hS => ?_)
  obtain ⟨q1, q2, q3, q4, q5, q6, q7, q8, q9, q10, q11, q12, q13, q14⟩ := u
  have hP : va_P G.1 pz_cl [(a0, .inr (15, [.int 1, .ref a1, .ref a2, .ref a3, .ref a4, .int 0, .null])), (a1, .inr (17, [.int 0, .ref (X 3), .int 0])), (a2, .inr (17, [.int 0, .ref (X 3), .int 0])), (q1, .inr (12, [.ref q2, .ref q3, .ref q5, .ref q4])), (q2, .inl (G.2 0, 0, .inl (fun _ => 0))), (q5, .inl (G.2 1, 0, .inl (fun _ => 0))), (q7, .inl (G.2 5, 0, .inr (.inr (.inr (.inr (fun _ => none)))))), (q8, .inl (G.2 1, 0, .inl (fun _ => 0))), (q9, .inl (G.2 1, 0, .inl (fun _ => 0))), (q11, .inr (18, [.int 1, .int 0, .int 2, .ref q3])), (q10, .inr (17, [.int 0, .ref (X 3), .int 0])), (q3, .inr (17, [.int 2, .ref q6, .int 1])), (q6, .inl (G.2 5, 10, .inr (.inr (.inr (.inr (va_up (fun _ => none) 0 (some (X (1000 + 128))))))))), (q12, .inl (G.2 1, 0, .inl (fun _ => 0))), (q14, .inr (18, [.int 1, .int 0, .int 2, .ref q3])), (q13, .inr (17, [.int 0, .ref (X 3), .int 0])), (q4, .inr (17, [.int 0, .ref (X 3), .int 0]))] H := hP
  have hD : va_D A [(a0, .inr (15, [.int 1, .ref a1, .ref a2, .ref a3, .ref a4, .int 0, .null])), (a1, .inr (17, [.int 0, .ref (X 3), .int 0])), (a2, .inr (17, [.int 0, .ref (X 3), .int 0])), (q1, .inr (12, [.ref q2, .ref q3, .ref q5, .ref q4])), (q2, .inl (G.2 0, 0, .inl (fun _ => 0))), (q5, .inl (G.2 1, 0, .inl (fun _ => 0))), (q7, .inl (G.2 5, 0, .inr (.inr (.inr (.inr (fun _ => none)))))), (q8, .inl (G.2 1, 0, .inl (fun _ => 0))), (q9, .inl (G.2 1, 0, .inl (fun _ => 0))), (q11, .inr (18, [.int 1, .int 0, .int 2, .ref q3])), (q10, .inr (17, [.int 0, .ref (X 3), .int 0])), (q3, .inr (17, [.int 2, .ref q6, .int 1])), (q6, .inl (G.2 5, 10, .inr (.inr (.inr (.inr (va_up (fun _ => none) 0 (some (X (1000 + 128))))))))), (q12, .inl (G.2 1, 0, .inl (fun _ => 0))), (q14, .inr (18, [.int 1, .int 0, .int 2, .ref q3])), (q13, .inr (17, [.int 0, .ref (X 3), .int 0])), (q4, .inr (17, [.int 0, .ref (X 3), .int 0]))] := hD
  refine W.eq (g2 := F0 m 5 ls [.null]) rfl ?_
  refine lv_astore_nN (lv' := [(3, .null), (0, .ref a0), (1, .int x0), (2, .int x1)]) hx hb dX16_sign_5 rfl hl (by decide) rfl (fun ls hl => ?_)
  refine lv_aload_nN hx hb dX16_sign_6 rfl (lv_at hl 0 rfl) ?_
  refine lv_ifnonnullN hx hb dX16_sign_7 ?_
  refine lv_bipush (v := 32) hx hb dX16_sign_10 (by decide) ?_
  exact pz_rz hx hb hr hlocks (by decide +kernel) hS (Nat.le_of_ble_eq_true rfl) (Nat.le_of_ble_eq_true rfl) dX16_sign_12 (q1, q2, q3, q4, q5, q6, q7, q8, q9, q10, q11, q12, q13, q14) rfl (hP.sub [0, 1, 2, 3, 4, 5, 6, 7, 8, 9, 10, 11, 12, 13, 14, 15, 16] rfl) (hD.sub [0, 1, 2, 3, 4, 5, 6, 7, 8, 9, 10, 11, 12, 13, 14, 15, 16] rfl rfl)
set_option maxHeartbeats 4000000 in
set_option maxRecDepth 100000 in
theorem cX2_put_3 (l : Launch) (hst : l.stackTraces = false) (G : pz_G) (X : Nat → Nat) (sz : Nat) (a0 : Nat) (a1 : Nat) (a2 : Nat) (f0 : Nat → Int32) : pz_MR (S := Unit) l yX2_put (pz_cd yX2_put cX2_put 3 none) 0 0 0 0 G X sz [(a0, .inr (2, [.ref a1, .ref a2, .int 0])), (a1, .inl (G.2 0, 240, .inl (f0)))] [.ref a0, .int 0, .int 128] (fun u => none) (fun u => [(a0, .inr (2, [.ref a1, .ref a2, .int 0])), (a1, .inl (G.2 0, 240, .inl (upd (f0) 0 128)))]) := by
  refine pz_onR (by decide +kernel) (Nat.le_of_ble_eq_true rfl) ?_
  intro p e s m below meth c A hx hb hr hml hown hts hlocks hin hx0 hP hK hD hS hA hE ls hl
  have hown : s.vm.findClass "Sourcewright$Code" = some m.cls := hown
  have hl : lv_has ls 3 [(0, .ref a0), (1, .int 0), (2, .int 128)] := hl
  refine lv_iload_n hx hb dX2_put_0 rfl (lv_at hl 1 rfl) ?_
  refine lv_if_lt (tgt := 20) hx hb dX2_put_1 (by decide) (fun hc => absurd hc (by decide)) (fun _ => ?_)
  refine lv_iload_n hx hb dX2_put_4 rfl (lv_at hl 1 rfl) ?_
  refine lv_aload_n hx hb dX2_put_5 rfl (lv_at hl 0 rfl) ?_
  refine va_get (D := G.1) (ci := 2) (v := .ref a1) (C := "Sourcewright$Code") (T := TX2) (N := 3) hx hb hts inX2 hown hK hP 0 rfl rfl 0 (by decide) (hts _ wq_62) (fun _ h9 => h9) rfl dX2_put_6 ?_
  refine va_alen (v := 240) hx hb hK hP 1 0 rfl rfl (by show Int32.ofNat 240 = 240; decide) dX2_put_9 ?_
  refine lv_icmp_ge (tgt := 20) hx hb dX2_put_10 (by decide) (fun hc => absurd hc (by decide)) (fun _ => ?_)
  refine lv_aload_n hx hb dX2_put_13 rfl (lv_at hl 0 rfl) ?_
  refine va_get (D := G.1) (ci := 2) (v := .ref a1) (C := "Sourcewright$Code") (T := TX2) (N := 3) hx hb hts inX2 hown hK hP 0 rfl rfl 0 (by decide) (hts _ wq_62) (fun _ h9 => h9) rfl dX2_put_14 ?_
  refine lv_iload_n hx hb dX2_put_17 rfl (lv_at hl 1 rfl) ?_
  refine lv_iload_n hx hb dX2_put_18 rfl (lv_at hl 2 rfl) ?_
  refine va_iast hx hb hK hP hD hS 1 0 rfl rfl (pz_vi rfl) dX2_put_19 (fun H locs hP hD hS => ?_)
  have hP : va_P G.1 pz_cl [(a0, .inr (2, [.ref a1, .ref a2, .int 0])), (a1, .inl (G.2 0, 240, .inl (upd (f0) 0 128)))] H := hP
  have hD : va_D A [(a0, .inr (2, [.ref a1, .ref a2, .int 0])), (a1, .inl (G.2 0, 240, .inl (upd (f0) 0 128)))] := hD
  exact pz_rv hx hb hr hlocks hS (Nat.le_of_ble_eq_true rfl) (Nat.le_of_ble_eq_true rfl) dX2_put_20 () rfl (hP.sub [0, 1] rfl) (hD.sub [0, 1] rfl rfl)
set_option maxHeartbeats 4000000 in
set_option maxRecDepth 100000 in
theorem cX1_put_1 (l : Launch) (hst : l.stackTraces = false) (G : pz_G) (X : Nat → Nat) (sz : Nat) (a0 : Nat) (a1 : Nat) (a2 : Nat) (a3 : Nat) (a4 : Nat) (a5 : Nat) (a6 : Nat) (a7 : Nat) (a8 : Nat) (a9 : Nat) (a10 : Nat) (a11 : Nat) (a12 : Nat) (a13 : Nat) (a14 : Nat) (f0 : Nat → Int32) : pz_MR (S := Unit) l yX1_put (pz_cd yX1_put cX1_put 2 none) 1 22 0 0 G X sz [(a0, .inr (1, [.ref a3, .ref a4, .ref a5, .ref a6, .ref a1, .ref a7, .ref a8, .ref a9, .ref a10, .ref a11, .ref a12, .ref a13, .int 0, .int 0, .int 0, .int 0])), (a1, .inr (2, [.ref a2, .ref a14, .int 0])), (a2, .inl (G.2 0, 240, .inl (f0)))] [.ref a0, .int 128] (fun u => none) (fun u => [(a0, .inr (1, [.ref a3, .ref a4, .ref a5, .ref a6, .ref a1, .ref a7, .ref a8, .ref a9, .ref a10, .ref a11, .ref a12, .ref a13, .int 0, .int 0, .int 1, .int 0])), (a1, .inr (2, [.ref a2, .ref a14, .int 0])), (a2, .inl (G.2 0, 240, .inl (upd (f0) 0 128)))]) := by
  refine pz_onR (by decide +kernel) (Nat.le_of_ble_eq_true rfl) ?_
  intro p e s m below meth c A hx hb hr hml hown hts hlocks hin hx0 hP hK hD hS hA hE ls hl
  have hown : s.vm.findClass "Sourcewright$Builder" = some m.cls := hown
  have hl : lv_has ls 2 [(0, .ref a0), (1, .int 128)] := hl
  refine lv_aload_n hx hb dX1_put_0 rfl (lv_at hl 0 rfl) ?_
  refine va_get (D := G.1) (ci := 1) (v := .ref a1) (C := "Sourcewright$Builder") (T := TX1) (N := 16) hx hb hts inX1 hown hK hP 0 rfl rfl 4 (by decide) (hts _ wq_345) (fun _ h9 => h9) rfl dX1_put_1 ?_
  refine lv_aload_n hx hb dX1_put_4 rfl (lv_at hl 0 rfl) ?_
  refine va_get (D := G.1) (ci := 1) (v := .int 0) (C := "Sourcewright$Builder") (T := TX1) (N := 16) hx hb hts inX1 hown hK hP 0 rfl rfl 14 (by decide) (hts _ wq_355) (fun _ h9 => h9) rfl dX1_put_5 ?_
  refine lv_iload_n hx hb dX1_put_8 rfl (lv_at hl 1 rfl) ?_
  refine pz_go (wr := [(a0, .inr (1, [.ref a3, .ref a4, .ref a5, .ref a6, .ref a1, .ref a7, .ref a8, .ref a9, .ref a10, .ref a11, .ref a12, .ref a13, .int 0, .int 0, .int 0, .int 0]))]) (vx_runV (C := "Sourcewright$Code") (As := [.int 0, .int 128]) (rest := []) ⟨hx, hb, hml, hown, hts⟩ (cX2_put_3 l hst G X s.heap.size a1 a2 a14 f0) (cwV 2 hts (pz_gV wq_1144 wq_1145 wq_1146 wq_2 wq_1147) rfl rfl rfl (by decide +kernel) ⟨(Nat.le_of_ble_eq_true rfl), (Nat.le_of_ble_eq_true rfl)⟩) (pz_preV (C := ("Sourcewright$Code", TX2, 3)) hK hP hD hS hA hE 1 (ci := 2) rfl rfl [1, 2] rfl rfl) rfl rfl hl.1 rfl (lv_room (Nat.le_of_ble_eq_true rfl)) dX1_put_9 ⟨(Nat.le_of_ble_eq_true rfl), (Nat.le_of_ble_eq_true rfl)⟩) hP hD hS hA [1, 2] [0] rfl rfl rfl (by decide) (fun u H locs hP hD hS => ?_)
  have hP : va_P G.1 pz_cl [(a0, .inr (1, [.ref a3, .ref a4, .ref a5, .ref a6, .ref a1, .ref a7, .ref a8, .ref a9, .ref a10, .ref a11, .ref a12, .ref a13, .int 0, .int 0, .int 0, .int 0])), (a1, .inr (2, [.ref a2, .ref a14, .int 0])), (a2, .inl (G.2 0, 240, .inl (upd (f0) 0 128)))] H := hP
  have hD : va_D A [(a0, .inr (1, [.ref a3, .ref a4, .ref a5, .ref a6, .ref a1, .ref a7, .ref a8, .ref a9, .ref a10, .ref a11, .ref a12, .ref a13, .int 0, .int 0, .int 0, .int 0])), (a1, .inr (2, [.ref a2, .ref a14, .int 0])), (a2, .inl (G.2 0, 240, .inl (upd (f0) 0 128)))] := hD
  refine W.eq (g2 := F0 m 12 ls []) rfl ?_
  refine lv_aload_n hx hb dX1_put_12 rfl (lv_at hl 0 rfl) ?_
  refine lv_dup hx hb dX1_put_13 rfl ?_
  refine va_get (D := G.1) (ci := 1) (v := .int 0) (C := "Sourcewright$Builder") (T := TX1) (N := 16) hx hb hts inX1 hown hK hP 0 rfl rfl 14 (by decide) (hts _ wq_355) (fun _ h9 => h9) rfl dX1_put_14 ?_
  refine lv_iconst (v := 1) hx hb dX1_put_17 (by decide) ?_
  refine lv_iadd hx hb dX1_put_18 (pz_K (y := 1) (by decide) ?_)
  refine va_put (D := G.1) (ci := 1) (v := .int 1) (ty := tyX1 14) (C := "Sourcewright$Builder") (T := TX1) (N := 16) hx hb hts inX1 tyX1 tyX1_ok nmX1 hown hK hP hD hS 0 rfl rfl 14 (by decide) (hts _ wq_355) (fun _ h9 => h9) rfl (by decide +kernel) rfl rfl (Nat.le_of_ble_eq_true rfl) dX1_put_19 (fun H locs hP hD hS => ?_)
  have hP : va_P G.1 pz_cl [(a0, .inr (1, [.ref a3, .ref a4, .ref a5, .ref a6, .ref a1, .ref a7, .ref a8, .ref a9, .ref a10, .ref a11, .ref a12, .ref a13, .int 0, .int 0, .int 1, .int 0])), (a1, .inr (2, [.ref a2, .ref a14, .int 0])), (a2, .inl (G.2 0, 240, .inl (upd (f0) 0 128)))] H := hP
  have hD : va_D A [(a0, .inr (1, [.ref a3, .ref a4, .ref a5, .ref a6, .ref a1, .ref a7, .ref a8, .ref a9, .ref a10, .ref a11, .ref a12, .ref a13, .int 0, .int 0, .int 1, .int 0])), (a1, .inr (2, [.ref a2, .ref a14, .int 0])), (a2, .inl (G.2 0, 240, .inl (upd (f0) 0 128)))] := hD
  exact pz_rv hx hb hr hlocks hS (Nat.le_of_ble_eq_true rfl) (Nat.le_of_ble_eq_true rfl) dX1_put_22 () rfl (hP.sub [0, 1, 2] rfl) (hD.sub [0, 1, 2] rfl rfl)
set_option maxHeartbeats 4000000 in
set_option maxRecDepth 100000 in
theorem cX2_put_4 (l : Launch) (hst : l.stackTraces = false) (G : pz_G) (X : Nat → Nat) (sz : Nat) (a0 : Nat) (a1 : Nat) (a2 : Nat) (f0 : Nat → Int32) : pz_MR (S := Unit) l yX2_put (pz_cd yX2_put cX2_put 3 none) 0 0 0 0 G X sz [(a0, .inr (2, [.ref a1, .ref a2, .int 0])), (a1, .inl (G.2 0, 240, .inl (f0)))] [.ref a0, .int 1, .int 255] (fun u => none) (fun u => [(a0, .inr (2, [.ref a1, .ref a2, .int 0])), (a1, .inl (G.2 0, 240, .inl (upd (f0) 1 255)))]) := by
  refine pz_onR (by decide +kernel) (Nat.le_of_ble_eq_true rfl) ?_
  intro p e s m below meth c A hx hb hr hml hown hts hlocks hin hx0 hP hK hD hS hA hE ls hl
  have hown : s.vm.findClass "Sourcewright$Code" = some m.cls := hown
  have hl : lv_has ls 3 [(0, .ref a0), (1, .int 1), (2, .int 255)] := hl
  refine lv_iload_n hx hb dX2_put_0 rfl (lv_at hl 1 rfl) ?_
  refine lv_if_lt (tgt := 20) hx hb dX2_put_1 (by decide) (fun hc => absurd hc (by decide)) (fun _ => ?_)
  refine lv_iload_n hx hb dX2_put_4 rfl (lv_at hl 1 rfl) ?_
  refine lv_aload_n hx hb dX2_put_5 rfl (lv_at hl 0 rfl) ?_
  refine va_get (D := G.1) (ci := 2) (v := .ref a1) (C := "Sourcewright$Code") (T := TX2) (N := 3) hx hb hts inX2 hown hK hP 0 rfl rfl 0 (by decide) (hts _ wq_62) (fun _ h9 => h9) rfl dX2_put_6 ?_
  refine va_alen (v := 240) hx hb hK hP 1 0 rfl rfl (by show Int32.ofNat 240 = 240; decide) dX2_put_9 ?_
  refine lv_icmp_ge (tgt := 20) hx hb dX2_put_10 (by decide) (fun hc => absurd hc (by decide)) (fun _ => ?_)
  refine lv_aload_n hx hb dX2_put_13 rfl (lv_at hl 0 rfl) ?_
  refine va_get (D := G.1) (ci := 2) (v := .ref a1) (C := "Sourcewright$Code") (T := TX2) (N := 3) hx hb hts inX2 hown hK hP 0 rfl rfl 0 (by decide) (hts _ wq_62) (fun _ h9 => h9) rfl dX2_put_14 ?_
  refine lv_iload_n hx hb dX2_put_17 rfl (lv_at hl 1 rfl) ?_
  refine lv_iload_n hx hb dX2_put_18 rfl (lv_at hl 2 rfl) ?_
  refine va_iast hx hb hK hP hD hS 1 0 rfl rfl (pz_vi rfl) dX2_put_19 (fun H locs hP hD hS => ?_)
  have hP : va_P G.1 pz_cl [(a0, .inr (2, [.ref a1, .ref a2, .int 0])), (a1, .inl (G.2 0, 240, .inl (upd (f0) 1 255)))] H := hP
  have hD : va_D A [(a0, .inr (2, [.ref a1, .ref a2, .int 0])), (a1, .inl (G.2 0, 240, .inl (upd (f0) 1 255)))] := hD
  exact pz_rv hx hb hr hlocks hS (Nat.le_of_ble_eq_true rfl) (Nat.le_of_ble_eq_true rfl) dX2_put_20 () rfl (hP.sub [0, 1] rfl) (hD.sub [0, 1] rfl rfl)
set_option maxHeartbeats 4000000 in
set_option maxRecDepth 100000 in
theorem cX1_put_2 (l : Launch) (hst : l.stackTraces = false) (G : pz_G) (X : Nat → Nat) (sz : Nat) (a0 : Nat) (a1 : Nat) (a2 : Nat) (a3 : Nat) (a4 : Nat) (a5 : Nat) (a6 : Nat) (a7 : Nat) (a8 : Nat) (a9 : Nat) (a10 : Nat) (a11 : Nat) (a12 : Nat) (a13 : Nat) (a14 : Nat) (f0 : Nat → Int32) : pz_MR (S := Unit) l yX1_put (pz_cd yX1_put cX1_put 2 none) 1 22 0 0 G X sz [(a0, .inr (1, [.ref a3, .ref a4, .ref a5, .ref a6, .ref a1, .ref a7, .ref a8, .ref a9, .ref a10, .ref a11, .ref a12, .ref a13, .int 0, .int 0, .int 1, .int 0])), (a1, .inr (2, [.ref a2, .ref a14, .int 0])), (a2, .inl (G.2 0, 240, .inl (f0)))] [.ref a0, .int 255] (fun u => none) (fun u => [(a0, .inr (1, [.ref a3, .ref a4, .ref a5, .ref a6, .ref a1, .ref a7, .ref a8, .ref a9, .ref a10, .ref a11, .ref a12, .ref a13, .int 0, .int 0, .int 2, .int 0])), (a1, .inr (2, [.ref a2, .ref a14, .int 0])), (a2, .inl (G.2 0, 240, .inl (upd (f0) 1 255)))]) := by
  refine pz_onR (by decide +kernel) (Nat.le_of_ble_eq_true rfl) ?_
  intro p e s m below meth c A hx hb hr hml hown hts hlocks hin hx0 hP hK hD hS hA hE ls hl
  have hown : s.vm.findClass "Sourcewright$Builder" = some m.cls := hown
  have hl : lv_has ls 2 [(0, .ref a0), (1, .int 255)] := hl
  refine lv_aload_n hx hb dX1_put_0 rfl (lv_at hl 0 rfl) ?_
  refine va_get (D := G.1) (ci := 1) (v := .ref a1) (C := "Sourcewright$Builder") (T := TX1) (N := 16) hx hb hts inX1 hown hK hP 0 rfl rfl 4 (by decide) (hts _ wq_345) (fun _ h9 => h9) rfl dX1_put_1 ?_
  refine lv_aload_n hx hb dX1_put_4 rfl (lv_at hl 0 rfl) ?_
  refine va_get (D := G.1) (ci := 1) (v := .int 1) (C := "Sourcewright$Builder") (T := TX1) (N := 16) hx hb hts inX1 hown hK hP 0 rfl rfl 14 (by decide) (hts _ wq_355) (fun _ h9 => h9) rfl dX1_put_5 ?_
  refine lv_iload_n hx hb dX1_put_8 rfl (lv_at hl 1 rfl) ?_
  refine pz_go (wr := [(a0, .inr (1, [.ref a3, .ref a4, .ref a5, .ref a6, .ref a1, .ref a7, .ref a8, .ref a9, .ref a10, .ref a11, .ref a12, .ref a13, .int 0, .int 0, .int 1, .int 0]))]) (vx_runV (C := "Sourcewright$Code") (As := [.int 1, .int 255]) (rest := []) ⟨hx, hb, hml, hown, hts⟩ (cX2_put_4 l hst G X s.heap.size a1 a2 a14 f0) (cwV 2 hts (pz_gV wq_1144 wq_1145 wq_1146 wq_2 wq_1147) rfl rfl rfl (by decide +kernel) ⟨(Nat.le_of_ble_eq_true rfl), (Nat.le_of_ble_eq_true rfl)⟩) (pz_preV (C := ("Sourcewright$Code", TX2, 3)) hK hP hD hS hA hE 1 (ci := 2) rfl rfl [1, 2] rfl rfl) rfl rfl hl.1 rfl (lv_room (Nat.le_of_ble_eq_true rfl)) dX1_put_9 ⟨(Nat.le_of_ble_eq_true rfl), (Nat.le_of_ble_eq_true rfl)⟩) hP hD hS hA [1, 2] [0] rfl rfl rfl (by decide) (fun u H locs hP hD hS => ?_)
  have hP : va_P G.1 pz_cl [(a0, .inr (1, [.ref a3, .ref a4, .ref a5, .ref a6, .ref a1, .ref a7, .ref a8, .ref a9, .ref a10, .ref a11, .ref a12, .ref a13, .int 0, .int 0, .int 1, .int 0])), (a1, .inr (2, [.ref a2, .ref a14, .int 0])), (a2, .inl (G.2 0, 240, .inl (upd (f0) 1 255)))] H := hP
  have hD : va_D A [(a0, .inr (1, [.ref a3, .ref a4, .ref a5, .ref a6, .ref a1, .ref a7, .ref a8, .ref a9, .ref a10, .ref a11, .ref a12, .ref a13, .int 0, .int 0, .int 1, .int 0])), (a1, .inr (2, [.ref a2, .ref a14, .int 0])), (a2, .inl (G.2 0, 240, .inl (upd (f0) 1 255)))] := hD
  refine W.eq (g2 := F0 m 12 ls []) rfl ?_
  refine lv_aload_n hx hb dX1_put_12 rfl (lv_at hl 0 rfl) ?_
  refine lv_dup hx hb dX1_put_13 rfl ?_
  refine va_get (D := G.1) (ci := 1) (v := .int 1) (C := "Sourcewright$Builder") (T := TX1) (N := 16) hx hb hts inX1 hown hK hP 0 rfl rfl 14 (by decide) (hts _ wq_355) (fun _ h9 => h9) rfl dX1_put_14 ?_
  refine lv_iconst (v := 1) hx hb dX1_put_17 (by decide) ?_
  refine lv_iadd hx hb dX1_put_18 (pz_K (y := 2) (by decide) ?_)
  refine va_put (D := G.1) (ci := 1) (v := .int 2) (ty := tyX1 14) (C := "Sourcewright$Builder") (T := TX1) (N := 16) hx hb hts inX1 tyX1 tyX1_ok nmX1 hown hK hP hD hS 0 rfl rfl 14 (by decide) (hts _ wq_355) (fun _ h9 => h9) rfl (by decide +kernel) rfl rfl (Nat.le_of_ble_eq_true rfl) dX1_put_19 (fun H locs hP hD hS => ?_)
  have hP : va_P G.1 pz_cl [(a0, .inr (1, [.ref a3, .ref a4, .ref a5, .ref a6, .ref a1, .ref a7, .ref a8, .ref a9, .ref a10, .ref a11, .ref a12, .ref a13, .int 0, .int 0, .int 2, .int 0])), (a1, .inr (2, [.ref a2, .ref a14, .int 0])), (a2, .inl (G.2 0, 240, .inl (upd (f0) 1 255)))] H := hP
  have hD : va_D A [(a0, .inr (1, [.ref a3, .ref a4, .ref a5, .ref a6, .ref a1, .ref a7, .ref a8, .ref a9, .ref a10, .ref a11, .ref a12, .ref a13, .int 0, .int 0, .int 2, .int 0])), (a1, .inr (2, [.ref a2, .ref a14, .int 0])), (a2, .inl (G.2 0, 240, .inl (upd (f0) 1 255)))] := hD
  exact pz_rv hx hb hr hlocks hS (Nat.le_of_ble_eq_true rfl) (Nat.le_of_ble_eq_true rfl) dX1_put_22 () rfl (hP.sub [0, 1, 2] rfl) (hD.sub [0, 1, 2] rfl rfl)
set_option maxHeartbeats 4000000 in
set_option maxRecDepth 100000 in
theorem cX1_start_1 (l : Launch) (hst : l.stackTraces = false) (G : pz_G) (X : Nat → Nat) (sz : Nat) (a0 : Nat) (a1 : Nat) (a2 : Nat) (a3 : Nat) (a4 : Nat) (a5 : Nat) (a6 : Nat) (a7 : Nat) (a8 : Nat) (a9 : Nat) (a10 : Nat) (a11 : Nat) (a12 : Nat) (a13 : Nat) (f0 : Nat → Int32) (a14 : Nat) (f1 : Nat → Int32) : pz_MR (S := (Nat → Int32)) l yX1_start (pz_cd yX1_start cX1_start 3 none) 2 43 0 0 G X sz [(a0, .inr (1, [.ref a4, .ref a5, .ref a6, .ref a7, .ref a2, .ref a8, .ref a9, .ref a10, .ref a11, .ref a12, .ref a13, .ref a1, .int 0, .int 0, .int 0, .int 0])), (a1, .inl (G.2 0, 120, .inl (f0))), (a2, .inr (2, [.ref a3, .ref a14, .int 0])), (a3, .inl (G.2 0, 240, .inl (f1)))] [.ref a0, .int 0] (fun u => none) (fun u => [(a0, .inr (1, [.ref a4, .ref a5, .ref a6, .ref a7, .ref a2, .ref a8, .ref a9, .ref a10, .ref a11, .ref a12, .ref a13, .ref a1, .int 0, .int 0, .int 2, .int 0])), (a1, .inl (G.2 0, 120, .inl (upd (upd (upd (u) 117 255) 118 255) 119 255))), (a2, .inr (2, [.ref a3, .ref a14, .int 0])), (a3, .inl (G.2 0, 240, .inl (upd (upd (f1) 0 128) 1 255)))]) := by
  refine pz_onR (by decide +kernel) (Nat.le_of_ble_eq_true rfl) ?_
  intro p e s m below meth c A hx hb hr hml hown hts hlocks hin hx0 hP hK hD hS hA hE ls hl
  have hown : s.vm.findClass "Sourcewright$Builder" = some m.cls := hown
  have hl : lv_has ls 3 [(0, .ref a0), (1, .int 0)] := hl
  refine lv_aload_n hx hb dX1_start_0 rfl (lv_at hl 0 rfl) ?_
  refine lv_iconst (v := 0) hx hb dX1_start_1 (by decide) ?_
  refine va_put (D := G.1) (ci := 1) (v := .int 0) (ty := tyX1 14) (C := "Sourcewright$Builder") (T := TX1) (N := 16) hx hb hts inX1 tyX1 tyX1_ok nmX1 hown hK hP hD hS 0 rfl rfl 14 (by decide) (hts _ wq_355) (fun _ h9 => h9) rfl (by decide +kernel) rfl rfl (Nat.le_of_ble_eq_true rfl) dX1_start_2 (fun H locs hP hD hS => ?_)
  have hP : va_P G.1 pz_cl [(a0, .inr (1, [.ref a4, .ref a5, .ref a6, .ref a7, .ref a2, .ref a8, .ref a9, .ref a10, .ref a11, .ref a12, .ref a13, .ref a1, .int 0, .int 0, .int 0, .int 0])), (a1, .inl (G.2 0, 120, .inl (f0))), (a2, .inr (2, [.ref a3, .ref a14, .int 0])), (a3, .inl (G.2 0, 240, .inl (f1)))] H := hP
  have hD : va_D A [(a0, .inr (1, [.ref a4, .ref a5, .ref a6, .ref a7, .ref a2, .ref a8, .ref a9, .ref a10, .ref a11, .ref a12, .ref a13, .ref a1, .int 0, .int 0, .int 0, .int 0])), (a1, .inl (G.2 0, 120, .inl (f0))), (a2, .inr (2, [.ref a3, .ref a14, .int 0])), (a3, .inl (G.2 0, 240, .inl (f1)))] := hD
  refine lv_aload_n hx hb dX1_start_5 rfl (lv_at hl 0 rfl) ?_
  refine lv_iconst (v := 0) hx hb dX1_start_6 (by decide) ?_
  refine va_put (D := G.1) (ci := 1) (v := .int 0) (ty := tyX1 13) (C := "Sourcewright$Builder") (T := TX1) (N := 16) hx hb hts inX1 tyX1 tyX1_ok nmX1 hown hK hP hD hS 0 rfl rfl 13 (by decide) (hts _ wq_354) (fun _ h9 => h9) rfl (by decide +kernel) rfl rfl (Nat.le_of_ble_eq_true rfl) dX1_start_7 (fun H locs hP hD hS => ?_)
  have hP : va_P G.1 pz_cl [(a0, .inr (1, [.ref a4, .ref a5, .ref a6, .ref a7, .ref a2, .ref a8, .ref a9, .ref a10, .ref a11, .ref a12, .ref a13, .ref a1, .int 0, .int 0, .int 0, .int 0])), (a1, .inl (G.2 0, 120, .inl (f0))), (a2, .inr (2, [.ref a3, .ref a14, .int 0])), (a3, .inl (G.2 0, 240, .inl (f1)))] H := hP
  have hD : va_D A [(a0, .inr (1, [.ref a4, .ref a5, .ref a6, .ref a7, .ref a2, .ref a8, .ref a9, .ref a10, .ref a11, .ref a12, .ref a13, .ref a1, .int 0, .int 0, .int 0, .int 0])), (a1, .inl (G.2 0, 120, .inl (f0))), (a2, .inr (2, [.ref a3, .ref a14, .int 0])), (a3, .inl (G.2 0, 240, .inl (f1)))] := hD
  refine lv_iconst (v := 0) hx hb dX1_start_10 (by decide) ?_
  refine lv_istore_n (lv' := [(2, .int 0), (0, .ref a0), (1, .int 0)]) hx hb dX1_start_11 rfl hl (by decide) rfl (fun ls hl => ?_)
  refine lv_iload_n hx hb dX1_start_12 rfl (lv_at hl 0 rfl) ?_
  refine lv_aload_n hx hb dX1_start_13 rfl (lv_at hl 1 rfl) ?_
  refine va_get (D := G.1) (ci := 1) (v := .ref a1) (C := "Sourcewright$Builder") (T := TX1) (N := 16) hx hb hts inX1 hown hK hP 0 rfl rfl 11 (by decide) (hts _ wq_352) (fun _ h9 => h9) rfl dX1_start_14 ?_
  refine va_alen (v := 120) hx hb hK hP 1 0 rfl rfl (by show Int32.ofNat 120 = 120; decide) dX1_start_17 ?_
  refine lv_icmp_ge (tgt := 36) hx hb dX1_start_18 (by decide) (fun hc => absurd hc (by decide)) (fun _ => ?_)
  refine lv_aload_n hx hb dX1_start_21 rfl (lv_at hl 1 rfl) ?_
  refine va_get (D := G.1) (ci := 1) (v := .ref a1) (C := "Sourcewright$Builder") (T := TX1) (N := 16) hx hb hts inX1 hown hK hP 0 rfl rfl 11 (by decide) (hts _ wq_352) (fun _ h9 => h9) rfl dX1_start_22 ?_
  refine lv_iload_n hx hb dX1_start_25 rfl (lv_at hl 0 rfl) ?_
  refine lv_sipush (v := 255) hx hb dX1_start_26 (by decide) ?_
  refine va_iast hx hb hK hP hD hS 1 0 rfl rfl (pz_vi rfl) dX1_start_29 (fun H locs hP hD hS => ?_)
  have hP : va_P G.1 pz_cl [(a0, .inr (1, [.ref a4, .ref a5, .ref a6, .ref a7, .ref a2, .ref a8, .ref a9, .ref a10, .ref a11, .ref a12, .ref a13, .ref a1, .int 0, .int 0, .int 0, .int 0])), (a1, .inl (G.2 0, 120, .inl (upd (f0) 0 255))), (a2, .inr (2, [.ref a3, .ref a14, .int 0])), (a3, .inl (G.2 0, 240, .inl (f1)))] H := hP
  have hD : va_D A [(a0, .inr (1, [.ref a4, .ref a5, .ref a6, .ref a7, .ref a2, .ref a8, .ref a9, .ref a10, .ref a11, .ref a12, .ref a13, .ref a1, .int 0, .int 0, .int 0, .int 0])), (a1, .inl (G.2 0, 120, .inl (upd (f0) 0 255))), (a2, .inr (2, [.ref a3, .ref a14, .int 0])), (a3, .inl (G.2 0, 240, .inl (f1)))] := hD
  refine lv_iinc (v := 1) (lv' := [(2, .int 1), (0, .ref a0), (1, .int 0)]) hx hb dX1_start_30 hl (k := 0) rfl (by decide) (by decide) rfl (fun ls hl => ?_)
  refine lv_goto (tgt := 12) hx hb dX1_start_33 (by decide) ?_
  refine lv_iload_n hx hb dX1_start_12 rfl (lv_at hl 0 rfl) ?_
  refine lv_aload_n hx hb dX1_start_13 rfl (lv_at hl 1 rfl) ?_
  refine va_get (D := G.1) (ci := 1) (v := .ref a1) (C := "Sourcewright$Builder") (T := TX1) (N := 16) hx hb hts inX1 hown hK hP 0 rfl rfl 11 (by decide) (hts _ wq_352) (fun _ h9 => h9) rfl dX1_start_14 ?_
  refine va_alen (v := 120) hx hb hK hP 1 0 rfl rfl (by show Int32.ofNat 120 = 120; decide) dX1_start_17 ?_
  refine lv_icmp_ge (tgt := 36) hx hb dX1_start_18 (by decide) (fun hc => absurd hc (by decide)) (fun _ => ?_)
  refine lv_aload_n hx hb dX1_start_21 rfl (lv_at hl 1 rfl) ?_
  refine va_get (D := G.1) (ci := 1) (v := .ref a1) (C := "Sourcewright$Builder") (T := TX1) (N := 16) hx hb hts inX1 hown hK hP 0 rfl rfl 11 (by decide) (hts _ wq_352) (fun _ h9 => h9) rfl dX1_start_22 ?_
  refine lv_iload_n hx hb dX1_start_25 rfl (lv_at hl 0 rfl) ?_
  refine lv_sipush (v := 255) hx hb dX1_start_26 (by decide) ?_
  refine va_iast hx hb hK hP hD hS 1 0 rfl rfl (pz_vi rfl) dX1_start_29 (fun H locs hP hD hS => ?_)
  have hP : va_P G.1 pz_cl [(a0, .inr (1, [.ref a4, .ref a5, .ref a6, .ref a7, .ref a2, .ref a8, .ref a9, .ref a10, .ref a11, .ref a12, .ref a13, .ref a1, .int 0, .int 0, .int 0, .int 0])), (a1, .inl (G.2 0, 120, .inl (upd (upd (f0) 0 255) 1 255))), (a2, .inr (2, [.ref a3, .ref a14, .int 0])), (a3, .inl (G.2 0, 240, .inl (f1)))] H := hP
  have hD : va_D A [(a0, .inr (1, [.ref a4, .ref a5, .ref a6, .ref a7, .ref a2, .ref a8, .ref a9, .ref a10, .ref a11, .ref a12, .ref a13, .ref a1, .int 0, .int 0, .int 0, .int 0])), (a1, .inl (G.2 0, 120, .inl (upd (upd (f0) 0 255) 1 255))), (a2, .inr (2, [.ref a3, .ref a14, .int 0])), (a3, .inl (G.2 0, 240, .inl (f1)))] := hD
  refine lv_iinc (v := 2) (lv' := [(2, .int 2), (0, .ref a0), (1, .int 0)]) hx hb dX1_start_30 hl (k := 0) rfl (by decide) (by decide) rfl (fun ls hl => ?_)
  refine lv_goto (tgt := 12) hx hb dX1_start_33 (by decide) ?_
  refine lv_iload_n hx hb dX1_start_12 rfl (lv_at hl 0 rfl) ?_
  refine lv_aload_n hx hb dX1_start_13 rfl (lv_at hl 1 rfl) ?_
  refine va_get (D := G.1) (ci := 1) (v := .ref a1) (C := "Sourcewright$Builder") (T := TX1) (N := 16) hx hb hts inX1 hown hK hP 0 rfl rfl 11 (by decide) (hts _ wq_352) (fun _ h9 => h9) rfl dX1_start_14 ?_
  refine va_alen (v := 120) hx hb hK hP 1 0 rfl rfl (by show Int32.ofNat 120 = 120; decide) dX1_start_17 ?_
  refine lv_icmp_ge (tgt := 36) hx hb dX1_start_18 (by decide) (fun hc => absurd hc (by decide)) (fun _ => ?_)
  refine lv_aload_n hx hb dX1_start_21 rfl (lv_at hl 1 rfl) ?_
  refine va_get (D := G.1) (ci := 1) (v := .ref a1) (C := "Sourcewright$Builder") (T := TX1) (N := 16) hx hb hts inX1 hown hK hP 0 rfl rfl 11 (by decide) (hts _ wq_352) (fun _ h9 => h9) rfl dX1_start_22 ?_
  refine lv_iload_n hx hb dX1_start_25 rfl (lv_at hl 0 rfl) ?_
  refine lv_sipush (v := 255) hx hb dX1_start_26 (by decide) ?_
  refine va_iast hx hb hK hP hD hS 1 0 rfl rfl (pz_vi rfl) dX1_start_29 (fun H locs hP hD hS => ?_)
  have hP : va_P G.1 pz_cl [(a0, .inr (1, [.ref a4, .ref a5, .ref a6, .ref a7, .ref a2, .ref a8, .ref a9, .ref a10, .ref a11, .ref a12, .ref a13, .ref a1, .int 0, .int 0, .int 0, .int 0])), (a1, .inl (G.2 0, 120, .inl (upd (upd (upd (f0) 0 255) 1 255) 2 255))), (a2, .inr (2, [.ref a3, .ref a14, .int 0])), (a3, .inl (G.2 0, 240, .inl (f1)))] H := hP
  have hD : va_D A [(a0, .inr (1, [.ref a4, .ref a5, .ref a6, .ref a7, .ref a2, .ref a8, .ref a9, .ref a10, .ref a11, .ref a12, .ref a13, .ref a1, .int 0, .int 0, .int 0, .int 0])), (a1, .inl (G.2 0, 120, .inl (upd (upd (upd (f0) 0 255) 1 255) 2 255))), (a2, .inr (2, [.ref a3, .ref a14, .int 0])), (a3, .inl (G.2 0, 240, .inl (f1)))] := hD
  refine lv_iinc (v := 3) (lv' := [(2, .int 3), (0, .ref a0), (1, .int 0)]) hx hb dX1_start_30 hl (k := 0) rfl (by decide) (by decide) rfl (fun ls hl => ?_)
  refine lv_goto (tgt := 12) hx hb dX1_start_33 (by decide) ?_
  refine lv_iload_n hx hb dX1_start_12 rfl (lv_at hl 0 rfl) ?_
  refine lv_aload_n hx hb dX1_start_13 rfl (lv_at hl 1 rfl) ?_
  refine va_get (D := G.1) (ci := 1) (v := .ref a1) (C := "Sourcewright$Builder") (T := TX1) (N := 16) hx hb hts inX1 hown hK hP 0 rfl rfl 11 (by decide) (hts _ wq_352) (fun _ h9 => h9) rfl dX1_start_14 ?_
  refine va_alen (v := 120) hx hb hK hP 1 0 rfl rfl (by show Int32.ofNat 120 = 120; decide) dX1_start_17 ?_
  refine lv_icmp_ge (tgt := 36) hx hb dX1_start_18 (by decide) (fun hc => absurd hc (by decide)) (fun _ => ?_)
  refine lv_aload_n hx hb dX1_start_21 rfl (lv_at hl 1 rfl) ?_
  refine va_get (D := G.1) (ci := 1) (v := .ref a1) (C := "Sourcewright$Builder") (T := TX1) (N := 16) hx hb hts inX1 hown hK hP 0 rfl rfl 11 (by decide) (hts _ wq_352) (fun _ h9 => h9) rfl dX1_start_22 ?_
  refine lv_iload_n hx hb dX1_start_25 rfl (lv_at hl 0 rfl) ?_
  refine lv_sipush (v := 255) hx hb dX1_start_26 (by decide) ?_
  refine va_iast hx hb hK hP hD hS 1 0 rfl rfl (pz_vi rfl) dX1_start_29 (fun H locs hP hD hS => ?_)
  have hP : va_P G.1 pz_cl [(a0, .inr (1, [.ref a4, .ref a5, .ref a6, .ref a7, .ref a2, .ref a8, .ref a9, .ref a10, .ref a11, .ref a12, .ref a13, .ref a1, .int 0, .int 0, .int 0, .int 0])), (a1, .inl (G.2 0, 120, .inl (upd (upd (upd (upd (f0) 0 255) 1 255) 2 255) 3 255))), (a2, .inr (2, [.ref a3, .ref a14, .int 0])), (a3, .inl (G.2 0, 240, .inl (f1)))] H := hP
  have hD : va_D A [(a0, .inr (1, [.ref a4, .ref a5, .ref a6, .ref a7, .ref a2, .ref a8, .ref a9, .ref a10, .ref a11, .ref a12, .ref a13, .ref a1, .int 0, .int 0, .int 0, .int 0])), (a1, .inl (G.2 0, 120, .inl (upd (upd (upd (upd (f0) 0 255) 1 255) 2 255) 3 255))), (a2, .inr (2, [.ref a3, .ref a14, .int 0])), (a3, .inl (G.2 0, 240, .inl (f1)))] := hD
  refine lv_iinc (v := 4) (lv' := [(2, .int 4), (0, .ref a0), (1, .int 0)]) hx hb dX1_start_30 hl (k := 0) rfl (by decide) (by decide) rfl (fun ls hl => ?_)
  refine lv_goto (tgt := 12) hx hb dX1_start_33 (by decide) ?_
  refine lv_iload_n hx hb dX1_start_12 rfl (lv_at hl 0 rfl) ?_
  refine lv_aload_n hx hb dX1_start_13 rfl (lv_at hl 1 rfl) ?_
  refine va_get (D := G.1) (ci := 1) (v := .ref a1) (C := "Sourcewright$Builder") (T := TX1) (N := 16) hx hb hts inX1 hown hK hP 0 rfl rfl 11 (by decide) (hts _ wq_352) (fun _ h9 => h9) rfl dX1_start_14 ?_
  refine va_alen (v := 120) hx hb hK hP 1 0 rfl rfl (by show Int32.ofNat 120 = 120; decide) dX1_start_17 ?_
  refine lv_icmp_ge (tgt := 36) hx hb dX1_start_18 (by decide) (fun hc => absurd hc (by decide)) (fun _ => ?_)
  refine lv_aload_n hx hb dX1_start_21 rfl (lv_at hl 1 rfl) ?_
  refine va_get (D := G.1) (ci := 1) (v := .ref a1) (C := "Sourcewright$Builder") (T := TX1) (N := 16) hx hb hts inX1 hown hK hP 0 rfl rfl 11 (by decide) (hts _ wq_352) (fun _ h9 => h9) rfl dX1_start_22 ?_
  refine lv_iload_n hx hb dX1_start_25 rfl (lv_at hl 0 rfl) ?_
  refine lv_sipush (v := 255) hx hb dX1_start_26 (by decide) ?_
  refine va_iast hx hb hK hP hD hS 1 0 rfl rfl (pz_vi rfl) dX1_start_29 (fun H locs hP hD hS => ?_)
  have hP : va_P G.1 pz_cl [(a0, .inr (1, [.ref a4, .ref a5, .ref a6, .ref a7, .ref a2, .ref a8, .ref a9, .ref a10, .ref a11, .ref a12, .ref a13, .ref a1, .int 0, .int 0, .int 0, .int 0])), (a1, .inl (G.2 0, 120, .inl (upd (upd (upd (upd (upd (f0) 0 255) 1 255) 2 255) 3 255) 4 255))), (a2, .inr (2, [.ref a3, .ref a14, .int 0])), (a3, .inl (G.2 0, 240, .inl (f1)))] H := hP
  have hD : va_D A [(a0, .inr (1, [.ref a4, .ref a5, .ref a6, .ref a7, .ref a2, .ref a8, .ref a9, .ref a10, .ref a11, .ref a12, .ref a13, .ref a1, .int 0, .int 0, .int 0, .int 0])), (a1, .inl (G.2 0, 120, .inl (upd (upd (upd (upd (upd (f0) 0 255) 1 255) 2 255) 3 255) 4 255))), (a2, .inr (2, [.ref a3, .ref a14, .int 0])), (a3, .inl (G.2 0, 240, .inl (f1)))] := hD
  refine lv_iinc (v := 5) (lv' := [(2, .int 5), (0, .ref a0), (1, .int 0)]) hx hb dX1_start_30 hl (k := 0) rfl (by decide) (by decide) rfl (fun ls hl => ?_)
  refine lv_goto (tgt := 12) hx hb dX1_start_33 (by decide) ?_
  refine lv_iload_n hx hb dX1_start_12 rfl (lv_at hl 0 rfl) ?_
  refine lv_aload_n hx hb dX1_start_13 rfl (lv_at hl 1 rfl) ?_
  refine va_get (D := G.1) (ci := 1) (v := .ref a1) (C := "Sourcewright$Builder") (T := TX1) (N := 16) hx hb hts inX1 hown hK hP 0 rfl rfl 11 (by decide) (hts _ wq_352) (fun _ h9 => h9) rfl dX1_start_14 ?_
  refine va_alen (v := 120) hx hb hK hP 1 0 rfl rfl (by show Int32.ofNat 120 = 120; decide) dX1_start_17 ?_
  refine lv_icmp_ge (tgt := 36) hx hb dX1_start_18 (by decide) (fun hc => absurd hc (by decide)) (fun _ => ?_)
  refine lv_aload_n hx hb dX1_start_21 rfl (lv_at hl 1 rfl) ?_
  refine va_get (D := G.1) (ci := 1) (v := .ref a1) (C := "Sourcewright$Builder") (T := TX1) (N := 16) hx hb hts inX1 hown hK hP 0 rfl rfl 11 (by decide) (hts _ wq_352) (fun _ h9 => h9) rfl dX1_start_22 ?_
  refine lv_iload_n hx hb dX1_start_25 rfl (lv_at hl 0 rfl) ?_
  refine lv_sipush (v := 255) hx hb dX1_start_26 (by decide) ?_
  refine va_iast hx hb hK hP hD hS 1 0 rfl rfl (pz_vi rfl) dX1_start_29 (fun H locs hP hD hS => ?_)
  have hP : va_P G.1 pz_cl [(a0, .inr (1, [.ref a4, .ref a5, .ref a6, .ref a7, .ref a2, .ref a8, .ref a9, .ref a10, .ref a11, .ref a12, .ref a13, .ref a1, .int 0, .int 0, .int 0, .int 0])), (a1, .inl (G.2 0, 120, .inl (upd (upd (upd (upd (upd (upd (f0) 0 255) 1 255) 2 255) 3 255) 4 255) 5 255))), (a2, .inr (2, [.ref a3, .ref a14, .int 0])), (a3, .inl (G.2 0, 240, .inl (f1)))] H := hP
  have hD : va_D A [(a0, .inr (1, [.ref a4, .ref a5, .ref a6, .ref a7, .ref a2, .ref a8, .ref a9, .ref a10, .ref a11, .ref a12, .ref a13, .ref a1, .int 0, .int 0, .int 0, .int 0])), (a1, .inl (G.2 0, 120, .inl (upd (upd (upd (upd (upd (upd (f0) 0 255) 1 255) 2 255) 3 255) 4 255) 5 255))), (a2, .inr (2, [.ref a3, .ref a14, .int 0])), (a3, .inl (G.2 0, 240, .inl (f1)))] := hD
  refine lv_iinc (v := 6) (lv' := [(2, .int 6), (0, .ref a0), (1, .int 0)]) hx hb dX1_start_30 hl (k := 0) rfl (by decide) (by decide) rfl (fun ls hl => ?_)
  refine lv_goto (tgt := 12) hx hb dX1_start_33 (by decide) ?_
  refine lv_iload_n hx hb dX1_start_12 rfl (lv_at hl 0 rfl) ?_
  refine lv_aload_n hx hb dX1_start_13 rfl (lv_at hl 1 rfl) ?_
  refine va_get (D := G.1) (ci := 1) (v := .ref a1) (C := "Sourcewright$Builder") (T := TX1) (N := 16) hx hb hts inX1 hown hK hP 0 rfl rfl 11 (by decide) (hts _ wq_352) (fun _ h9 => h9) rfl dX1_start_14 ?_
  refine va_alen (v := 120) hx hb hK hP 1 0 rfl rfl (by show Int32.ofNat 120 = 120; decide) dX1_start_17 ?_
  refine lv_icmp_ge (tgt := 36) hx hb dX1_start_18 (by decide) (fun hc => absurd hc (by decide)) (fun _ => ?_)
  refine lv_aload_n hx hb dX1_start_21 rfl (lv_at hl 1 rfl) ?_
  refine va_get (D := G.1) (ci := 1) (v := .ref a1) (C := "Sourcewright$Builder") (T := TX1) (N := 16) hx hb hts inX1 hown hK hP 0 rfl rfl 11 (by decide) (hts _ wq_352) (fun _ h9 => h9) rfl dX1_start_22 ?_
  refine lv_iload_n hx hb dX1_start_25 rfl (lv_at hl 0 rfl) ?_
  refine lv_sipush (v := 255) hx hb dX1_start_26 (by decide) ?_
  refine va_iast hx hb hK hP hD hS 1 0 rfl rfl (pz_vi rfl) dX1_start_29 (fun H locs hP hD hS => ?_)
  have hP : va_P G.1 pz_cl [(a0, .inr (1, [.ref a4, .ref a5, .ref a6, .ref a7, .ref a2, .ref a8, .ref a9, .ref a10, .ref a11, .ref a12, .ref a13, .ref a1, .int 0, .int 0, .int 0, .int 0])), (a1, .inl (G.2 0, 120, .inl (upd (upd (upd (upd (upd (upd (upd (f0) 0 255) 1 255) 2 255) 3 255) 4 255) 5 255) 6 255))), (a2, .inr (2, [.ref a3, .ref a14, .int 0])), (a3, .inl (G.2 0, 240, .inl (f1)))] H := hP
  have hD : va_D A [(a0, .inr (1, [.ref a4, .ref a5, .ref a6, .ref a7, .ref a2, .ref a8, .ref a9, .ref a10, .ref a11, .ref a12, .ref a13, .ref a1, .int 0, .int 0, .int 0, .int 0])), (a1, .inl (G.2 0, 120, .inl (upd (upd (upd (upd (upd (upd (upd (f0) 0 255) 1 255) 2 255) 3 255) 4 255) 5 255) 6 255))), (a2, .inr (2, [.ref a3, .ref a14, .int 0])), (a3, .inl (G.2 0, 240, .inl (f1)))] := hD
  refine lv_iinc (v := 7) (lv' := [(2, .int 7), (0, .ref a0), (1, .int 0)]) hx hb dX1_start_30 hl (k := 0) rfl (by decide) (by decide) rfl (fun ls hl => ?_)
  refine lv_goto (tgt := 12) hx hb dX1_start_33 (by decide) ?_
  refine lv_iload_n hx hb dX1_start_12 rfl (lv_at hl 0 rfl) ?_
  refine lv_aload_n hx hb dX1_start_13 rfl (lv_at hl 1 rfl) ?_
  refine va_get (D := G.1) (ci := 1) (v := .ref a1) (C := "Sourcewright$Builder") (T := TX1) (N := 16) hx hb hts inX1 hown hK hP 0 rfl rfl 11 (by decide) (hts _ wq_352) (fun _ h9 => h9) rfl dX1_start_14 ?_
  refine va_alen (v := 120) hx hb hK hP 1 0 rfl rfl (by show Int32.ofNat 120 = 120; decide) dX1_start_17 ?_
  refine lv_icmp_ge (tgt := 36) hx hb dX1_start_18 (by decide) (fun hc => absurd hc (by decide)) (fun _ => ?_)
  refine lv_aload_n hx hb dX1_start_21 rfl (lv_at hl 1 rfl) ?_
  refine va_get (D := G.1) (ci := 1) (v := .ref a1) (C := "Sourcewright$Builder") (T := TX1) (N := 16) hx hb hts inX1 hown hK hP 0 rfl rfl 11 (by decide) (hts _ wq_352) (fun _ h9 => h9) rfl dX1_start_22 ?_
  refine lv_iload_n hx hb dX1_start_25 rfl (lv_at hl 0 rfl) ?_
  refine lv_sipush (v := 255) hx hb dX1_start_26 (by decide) ?_
  refine va_iast hx hb hK hP hD hS 1 0 rfl rfl (pz_vi rfl) dX1_start_29 (fun H locs hP hD hS => ?_)
  have hP : va_P G.1 pz_cl [(a0, .inr (1, [.ref a4, .ref a5, .ref a6, .ref a7, .ref a2, .ref a8, .ref a9, .ref a10, .ref a11, .ref a12, .ref a13, .ref a1, .int 0, .int 0, .int 0, .int 0])), (a1, .inl (G.2 0, 120, .inl (upd (upd (upd (upd (upd (upd (upd (upd (f0) 0 255) 1 255) 2 255) 3 255) 4 255) 5 255) 6 255) 7 255))), (a2, .inr (2, [.ref a3, .ref a14, .int 0])), (a3, .inl (G.2 0, 240, .inl (f1)))] H := hP
  have hD : va_D A [(a0, .inr (1, [.ref a4, .ref a5, .ref a6, .ref a7, .ref a2, .ref a8, .ref a9, .ref a10, .ref a11, .ref a12, .ref a13, .ref a1, .int 0, .int 0, .int 0, .int 0])), (a1, .inl (G.2 0, 120, .inl (upd (upd (upd (upd (upd (upd (upd (upd (f0) 0 255) 1 255) 2 255) 3 255) 4 255) 5 255) 6 255) 7 255))), (a2, .inr (2, [.ref a3, .ref a14, .int 0])), (a3, .inl (G.2 0, 240, .inl (f1)))] := hD
  refine lv_iinc (v := 8) (lv' := [(2, .int 8), (0, .ref a0), (1, .int 0)]) hx hb dX1_start_30 hl (k := 0) rfl (by decide) (by decide) rfl (fun ls hl => ?_)
  refine lv_goto (tgt := 12) hx hb dX1_start_33 (by decide) ?_
  refine lv_iload_n hx hb dX1_start_12 rfl (lv_at hl 0 rfl) ?_
  refine lv_aload_n hx hb dX1_start_13 rfl (lv_at hl 1 rfl) ?_
  refine va_get (D := G.1) (ci := 1) (v := .ref a1) (C := "Sourcewright$Builder") (T := TX1) (N := 16) hx hb hts inX1 hown hK hP 0 rfl rfl 11 (by decide) (hts _ wq_352) (fun _ h9 => h9) rfl dX1_start_14 ?_
  refine va_alen (v := 120) hx hb hK hP 1 0 rfl rfl (by show Int32.ofNat 120 = 120; decide) dX1_start_17 ?_
  refine lv_icmp_ge (tgt := 36) hx hb dX1_start_18 (by decide) (fun hc => absurd hc (by decide)) (fun _ => ?_)
  refine lv_aload_n hx hb dX1_start_21 rfl (lv_at hl 1 rfl) ?_
  refine va_get (D := G.1) (ci := 1) (v := .ref a1) (C := "Sourcewright$Builder") (T := TX1) (N := 16) hx hb hts inX1 hown hK hP 0 rfl rfl 11 (by decide) (hts _ wq_352) (fun _ h9 => h9) rfl dX1_start_22 ?_
  refine lv_iload_n hx hb dX1_start_25 rfl (lv_at hl 0 rfl) ?_
  refine lv_sipush (v := 255) hx hb dX1_start_26 (by decide) ?_
  refine va_iast hx hb hK hP hD hS 1 0 rfl rfl (pz_vi rfl) dX1_start_29 (fun H locs hP hD hS => ?_)
  obtain ⟨g1, hg1⟩ : ∃ z, z = upd (upd (upd (upd (upd (upd (upd (upd (upd (f0) 0 255) 1 255) 2 255) 3 255) 4 255) 5 255) 6 255) 7 255) 8 255 := ⟨_, rfl⟩
  have hP : va_P G.1 pz_cl [(a0, .inr (1, [.ref a4, .ref a5, .ref a6, .ref a7, .ref a2, .ref a8, .ref a9, .ref a10, .ref a11, .ref a12, .ref a13, .ref a1, .int 0, .int 0, .int 0, .int 0])), (a1, .inl (G.2 0, 120, .inl (g1))), (a2, .inr (2, [.ref a3, .ref a14, .int 0])), (a3, .inl (G.2 0, 240, .inl (f1)))] H := by rw [hg1]; exact hP
  have hD : va_D A [(a0, .inr (1, [.ref a4, .ref a5, .ref a6, .ref a7, .ref a2, .ref a8, .ref a9, .ref a10, .ref a11, .ref a12, .ref a13, .ref a1, .int 0, .int 0, .int 0, .int 0])), (a1, .inl (G.2 0, 120, .inl (g1))), (a2, .inr (2, [.ref a3, .ref a14, .int 0])), (a3, .inl (G.2 0, 240, .inl (f1)))] := by rw [hg1]; exact hD
  refine lv_iinc (v := 9) (lv' := [(2, .int 9), (0, .ref a0), (1, .int 0)]) hx hb dX1_start_30 hl (k := 0) rfl (by decide) (by decide) rfl (fun ls hl => ?_)
  refine lv_goto (tgt := 12) hx hb dX1_start_33 (by decide) ?_
  refine lv_iload_n hx hb dX1_start_12 rfl (lv_at hl 0 rfl) ?_
  refine lv_aload_n hx hb dX1_start_13 rfl (lv_at hl 1 rfl) ?_
  refine va_get (D := G.1) (ci := 1) (v := .ref a1) (C := "Sourcewright$Builder") (T := TX1) (N := 16) hx hb hts inX1 hown hK hP 0 rfl rfl 11 (by decide) (hts _ wq_352) (fun _ h9 => h9) rfl dX1_start_14 ?_
  refine va_alen (v := 120) hx hb hK hP 1 0 rfl rfl (by show Int32.ofNat 120 = 120; decide) dX1_start_17 ?_
  refine lv_icmp_ge (tgt := 36) hx hb dX1_start_18 (by decide) (fun hc => absurd hc (by decide)) (fun _ => ?_)
  refine lv_aload_n hx hb dX1_start_21 rfl (lv_at hl 1 rfl) ?_
  refine va_get (D := G.1) (ci := 1) (v := .ref a1) (C := "Sourcewright$Builder") (T := TX1) (N := 16) hx hb hts inX1 hown hK hP 0 rfl rfl 11 (by decide) (hts _ wq_352) (fun _ h9 => h9) rfl dX1_start_22 ?_
  refine lv_iload_n hx hb dX1_start_25 rfl (lv_at hl 0 rfl) ?_
  refine lv_sipush (v := 255) hx hb dX1_start_26 (by decide) ?_
  refine va_iast hx hb hK hP hD hS 1 0 rfl rfl (pz_vi rfl) dX1_start_29 (fun H locs hP hD hS => ?_)
  have hP : va_P G.1 pz_cl [(a0, .inr (1, [.ref a4, .ref a5, .ref a6, .ref a7, .ref a2, .ref a8, .ref a9, .ref a10, .ref a11, .ref a12, .ref a13, .ref a1, .int 0, .int 0, .int 0, .int 0])), (a1, .inl (G.2 0, 120, .inl (upd (g1) 9 255))), (a2, .inr (2, [.ref a3, .ref a14, .int 0])), (a3, .inl (G.2 0, 240, .inl (f1)))] H := hP
  have hD : va_D A [(a0, .inr (1, [.ref a4, .ref a5, .ref a6, .ref a7, .ref a2, .ref a8, .ref a9, .ref a10, .ref a11, .ref a12, .ref a13, .ref a1, .int 0, .int 0, .int 0, .int 0])), (a1, .inl (G.2 0, 120, .inl (upd (g1) 9 255))), (a2, .inr (2, [.ref a3, .ref a14, .int 0])), (a3, .inl (G.2 0, 240, .inl (f1)))] := hD
  refine lv_iinc (v := 10) (lv' := [(2, .int 10), (0, .ref a0), (1, .int 0)]) hx hb dX1_start_30 hl (k := 0) rfl (by decide) (by decide) rfl (fun ls hl => ?_)
  refine lv_goto (tgt := 12) hx hb dX1_start_33 (by decide) ?_
  refine lv_iload_n hx hb dX1_start_12 rfl (lv_at hl 0 rfl) ?_
  refine lv_aload_n hx hb dX1_start_13 rfl (lv_at hl 1 rfl) ?_
  refine va_get (D := G.1) (ci := 1) (v := .ref a1) (C := "Sourcewright$Builder") (T := TX1) (N := 16) hx hb hts inX1 hown hK hP 0 rfl rfl 11 (by decide) (hts _ wq_352) (fun _ h9 => h9) rfl dX1_start_14 ?_
  refine va_alen (v := 120) hx hb hK hP 1 0 rfl rfl (by show Int32.ofNat 120 = 120; decide) dX1_start_17 ?_
  refine lv_icmp_ge (tgt := 36) hx hb dX1_start_18 (by decide) (fun hc => absurd hc (by decide)) (fun _ => ?_)
  refine lv_aload_n hx hb dX1_start_21 rfl (lv_at hl 1 rfl) ?_
  refine va_get (D := G.1) (ci := 1) (v := .ref a1) (C := "Sourcewright$Builder") (T := TX1) (N := 16) hx hb hts inX1 hown hK hP 0 rfl rfl 11 (by decide) (hts _ wq_352) (fun _ h9 => h9) rfl dX1_start_22 ?_
  refine lv_iload_n hx hb dX1_start_25 rfl (lv_at hl 0 rfl) ?_
  refine lv_sipush (v := 255) hx hb dX1_start_26 (by decide) ?_
  refine va_iast hx hb hK hP hD hS 1 0 rfl rfl (pz_vi rfl) dX1_start_29 (fun H locs hP hD hS => ?_)
  have hP : va_P G.1 pz_cl [(a0, .inr (1, [.ref a4, .ref a5, .ref a6, .ref a7, .ref a2, .ref a8, .ref a9, .ref a10, .ref a11, .ref a12, .ref a13, .ref a1, .int 0, .int 0, .int 0, .int 0])), (a1, .inl (G.2 0, 120, .inl (upd (upd (g1) 9 255) 10 255))), (a2, .inr (2, [.ref a3, .ref a14, .int 0])), (a3, .inl (G.2 0, 240, .inl (f1)))] H := hP
  have hD : va_D A [(a0, .inr (1, [.ref a4, .ref a5, .ref a6, .ref a7, .ref a2, .ref a8, .ref a9, .ref a10, .ref a11, .ref a12, .ref a13, .ref a1, .int 0, .int 0, .int 0, .int 0])), (a1, .inl (G.2 0, 120, .inl (upd (upd (g1) 9 255) 10 255))), (a2, .inr (2, [.ref a3, .ref a14, .int 0])), (a3, .inl (G.2 0, 240, .inl (f1)))] := hD
  refine lv_iinc (v := 11) (lv' := [(2, .int 11), (0, .ref a0), (1, .int 0)]) hx hb dX1_start_30 hl (k := 0) rfl (by decide) (by decide) rfl (fun ls hl => ?_)
  refine lv_goto (tgt := 12) hx hb dX1_start_33 (by decide) ?_
  refine lv_iload_n hx hb dX1_start_12 rfl (lv_at hl 0 rfl) ?_
  refine lv_aload_n hx hb dX1_start_13 rfl (lv_at hl 1 rfl) ?_
  refine va_get (D := G.1) (ci := 1) (v := .ref a1) (C := "Sourcewright$Builder") (T := TX1) (N := 16) hx hb hts inX1 hown hK hP 0 rfl rfl 11 (by decide) (hts _ wq_352) (fun _ h9 => h9) rfl dX1_start_14 ?_
  refine va_alen (v := 120) hx hb hK hP 1 0 rfl rfl (by show Int32.ofNat 120 = 120; decide) dX1_start_17 ?_
  refine lv_icmp_ge (tgt := 36) hx hb dX1_start_18 (by decide) (fun hc => absurd hc (by decide)) (fun _ => ?_)
  refine lv_aload_n hx hb dX1_start_21 rfl (lv_at hl 1 rfl) ?_
  refine va_get (D := G.1) (ci := 1) (v := .ref a1) (C := "Sourcewright$Builder") (T := TX1) (N := 16) hx hb hts inX1 hown hK hP 0 rfl rfl 11 (by decide) (hts _ wq_352) (fun _ h9 => h9) rfl dX1_start_22 ?_
  refine lv_iload_n hx hb dX1_start_25 rfl (lv_at hl 0 rfl) ?_
  refine lv_sipush (v := 255) hx hb dX1_start_26 (by decide) ?_
  refine va_iast hx hb hK hP hD hS 1 0 rfl rfl (pz_vi rfl) dX1_start_29 (fun H locs hP hD hS => ?_)
  have hP : va_P G.1 pz_cl [(a0, .inr (1, [.ref a4, .ref a5, .ref a6, .ref a7, .ref a2, .ref a8, .ref a9, .ref a10, .ref a11, .ref a12, .ref a13, .ref a1, .int 0, .int 0, .int 0, .int 0])), (a1, .inl (G.2 0, 120, .inl (upd (upd (upd (g1) 9 255) 10 255) 11 255))), (a2, .inr (2, [.ref a3, .ref a14, .int 0])), (a3, .inl (G.2 0, 240, .inl (f1)))] H := hP
  have hD : va_D A [(a0, .inr (1, [.ref a4, .ref a5, .ref a6, .ref a7, .ref a2, .ref a8, .ref a9, .ref a10, .ref a11, .ref a12, .ref a13, .ref a1, .int 0, .int 0, .int 0, .int 0])), (a1, .inl (G.2 0, 120, .inl (upd (upd (upd (g1) 9 255) 10 255) 11 255))), (a2, .inr (2, [.ref a3, .ref a14, .int 0])), (a3, .inl (G.2 0, 240, .inl (f1)))] := hD
  refine lv_iinc (v := 12) (lv' := [(2, .int 12), (0, .ref a0), (1, .int 0)]) hx hb dX1_start_30 hl (k := 0) rfl (by decide) (by decide) rfl (fun ls hl => ?_)
  refine lv_goto (tgt := 12) hx hb dX1_start_33 (by decide) ?_
  refine lv_iload_n hx hb dX1_start_12 rfl (lv_at hl 0 rfl) ?_
  refine lv_aload_n hx hb dX1_start_13 rfl (lv_at hl 1 rfl) ?_
  refine va_get (D := G.1) (ci := 1) (v := .ref a1) (C := "Sourcewright$Builder") (T := TX1) (N := 16) hx hb hts inX1 hown hK hP 0 rfl rfl 11 (by decide) (hts _ wq_352) (fun _ h9 => h9) rfl dX1_start_14 ?_
  refine va_alen (v := 120) hx hb hK hP 1 0 rfl rfl (by show Int32.ofNat 120 = 120; decide) dX1_start_17 ?_
  refine lv_icmp_ge (tgt := 36) hx hb dX1_start_18 (by decide) (fun hc => absurd hc (by decide)) (fun _ => ?_)
  refine lv_aload_n hx hb dX1_start_21 rfl (lv_at hl 1 rfl) ?_
  refine va_get (D := G.1) (ci := 1) (v := .ref a1) (C := "Sourcewright$Builder") (T := TX1) (N := 16) hx hb hts inX1 hown hK hP 0 rfl rfl 11 (by decide) (hts _ wq_352) (fun _ h9 => h9) rfl dX1_start_22 ?_
  refine lv_iload_n hx hb dX1_start_25 rfl (lv_at hl 0 rfl) ?_
  refine lv_sipush (v := 255) hx hb dX1_start_26 (by decide) ?_
  refine va_iast hx hb hK hP hD hS 1 0 rfl rfl (pz_vi rfl) dX1_start_29 (fun H locs hP hD hS => ?_)
  have hP : va_P G.1 pz_cl [(a0, .inr (1, [.ref a4, .ref a5, .ref a6, .ref a7, .ref a2, .ref a8, .ref a9, .ref a10, .ref a11, .ref a12, .ref a13, .ref a1, .int 0, .int 0, .int 0, .int 0])), (a1, .inl (G.2 0, 120, .inl (upd (upd (upd (upd (g1) 9 255) 10 255) 11 255) 12 255))), (a2, .inr (2, [.ref a3, .ref a14, .int 0])), (a3, .inl (G.2 0, 240, .inl (f1)))] H := hP
  have hD : va_D A [(a0, .inr (1, [.ref a4, .ref a5, .ref a6, .ref a7, .ref a2, .ref a8, .ref a9, .ref a10, .ref a11, .ref a12, .ref a13, .ref a1, .int 0, .int 0, .int 0, .int 0])), (a1, .inl (G.2 0, 120, .inl (upd (upd (upd (upd (g1) 9 255) 10 255) 11 255) 12 255))), (a2, .inr (2, [.ref a3, .ref a14, .int 0])), (a3, .inl (G.2 0, 240, .inl (f1)))] := hD
  refine lv_iinc (v := 13) (lv' := [(2, .int 13), (0, .ref a0), (1, .int 0)]) hx hb dX1_start_30 hl (k := 0) rfl (by decide) (by decide) rfl (fun ls hl => ?_)
  refine lv_goto (tgt := 12) hx hb dX1_start_33 (by decide) ?_
  refine lv_iload_n hx hb dX1_start_12 rfl (lv_at hl 0 rfl) ?_
  refine lv_aload_n hx hb dX1_start_13 rfl (lv_at hl 1 rfl) ?_
  refine va_get (D := G.1) (ci := 1) (v := .ref a1) (C := "Sourcewright$Builder") (T := TX1) (N := 16) hx hb hts inX1 hown hK hP 0 rfl rfl 11 (by decide) (hts _ wq_352) (fun _ h9 => h9) rfl dX1_start_14 ?_
  refine va_alen (v := 120) hx hb hK hP 1 0 rfl rfl (by show Int32.ofNat 120 = 120; decide) dX1_start_17 ?_
  refine lv_icmp_ge (tgt := 36) hx hb dX1_start_18 (by decide) (fun hc => absurd hc (by decide)) (fun _ => ?_)
  refine lv_aload_n hx hb dX1_start_21 rfl (lv_at hl 1 rfl) ?_
  refine va_get (D := G.1) (ci := 1) (v := .ref a1) (C := "Sourcewright$Builder") (T := TX1) (N := 16) hx hb hts inX1 hown hK hP 0 rfl rfl 11 (by decide) (hts _ wq_352) (fun _ h9 => h9) rfl dX1_start_22 ?_
  refine lv_iload_n hx hb dX1_start_25 rfl (lv_at hl 0 rfl) ?_
  refine lv_sipush (v := 255) hx hb dX1_start_26 (by decide) ?_
  refine va_iast hx hb hK hP hD hS 1 0 rfl rfl (pz_vi rfl) dX1_start_29 (fun H locs hP hD hS => ?_)
  have hP : va_P G.1 pz_cl [(a0, .inr (1, [.ref a4, .ref a5, .ref a6, .ref a7, .ref a2, .ref a8, .ref a9, .ref a10, .ref a11, .ref a12, .ref a13, .ref a1, .int 0, .int 0, .int 0, .int 0])), (a1, .inl (G.2 0, 120, .inl (upd (upd (upd (upd (upd (g1) 9 255) 10 255) 11 255) 12 255) 13 255))), (a2, .inr (2, [.ref a3, .ref a14, .int 0])), (a3, .inl (G.2 0, 240, .inl (f1)))] H := hP
  have hD : va_D A [(a0, .inr (1, [.ref a4, .ref a5, .ref a6, .ref a7, .ref a2, .ref a8, .ref a9, .ref a10, .ref a11, .ref a12, .ref a13, .ref a1, .int 0, .int 0, .int 0, .int 0])), (a1, .inl (G.2 0, 120, .inl (upd (upd (upd (upd (upd (g1) 9 255) 10 255) 11 255) 12 255) 13 255))), (a2, .inr (2, [.ref a3, .ref a14, .int 0])), (a3, .inl (G.2 0, 240, .inl (f1)))] := hD
  refine lv_iinc (v := 14) (lv' := [(2, .int 14), (0, .ref a0), (1, .int 0)]) hx hb dX1_start_30 hl (k := 0) rfl (by decide) (by decide) rfl (fun ls hl => ?_)
  refine lv_goto (tgt := 12) hx hb dX1_start_33 (by decide) ?_
  refine lv_iload_n hx hb dX1_start_12 rfl (lv_at hl 0 rfl) ?_
  refine lv_aload_n hx hb dX1_start_13 rfl (lv_at hl 1 rfl) ?_
  refine va_get (D := G.1) (ci := 1) (v := .ref a1) (C := "Sourcewright$Builder") (T := TX1) (N := 16) hx hb hts inX1 hown hK hP 0 rfl rfl 11 (by decide) (hts _ wq_352) (fun _ h9 => h9) rfl dX1_start_14 ?_
  refine va_alen (v := 120) hx hb hK hP 1 0 rfl rfl (by show Int32.ofNat 120 = 120; decide) dX1_start_17 ?_
  refine lv_icmp_ge (tgt := 36) hx hb dX1_start_18 (by decide) (fun hc => absurd hc (by decide)) (fun _ => ?_)
  refine lv_aload_n hx hb dX1_start_21 rfl (lv_at hl 1 rfl) ?_
  refine va_get (D := G.1) (ci := 1) (v := .ref a1) (C := "Sourcewright$Builder") (T := TX1) (N := 16) hx hb hts inX1 hown hK hP 0 rfl rfl 11 (by decide) (hts _ wq_352) (fun _ h9 => h9) rfl dX1_start_22 ?_
  refine lv_iload_n hx hb dX1_start_25 rfl (lv_at hl 0 rfl) ?_
  refine lv_sipush (v := 255) hx hb dX1_start_26 (by decide) ?_
  refine va_iast hx hb hK hP hD hS 1 0 rfl rfl (pz_vi rfl) dX1_start_29 (fun H locs hP hD hS => ?_)
  have hP : va_P G.1 pz_cl [(a0, .inr (1, [.ref a4, .ref a5, .ref a6, .ref a7, .ref a2, .ref a8, .ref a9, .ref a10, .ref a11, .ref a12, .ref a13, .ref a1, .int 0, .int 0, .int 0, .int 0])), (a1, .inl (G.2 0, 120, .inl (upd (upd (upd (upd (upd (upd (g1) 9 255) 10 255) 11 255) 12 255) 13 255) 14 255))), (a2, .inr (2, [.ref a3, .ref a14, .int 0])), (a3, .inl (G.2 0, 240, .inl (f1)))] H := hP
  have hD : va_D A [(a0, .inr (1, [.ref a4, .ref a5, .ref a6, .ref a7, .ref a2, .ref a8, .ref a9, .ref a10, .ref a11, .ref a12, .ref a13, .ref a1, .int 0, .int 0, .int 0, .int 0])), (a1, .inl (G.2 0, 120, .inl (upd (upd (upd (upd (upd (upd (g1) 9 255) 10 255) 11 255) 12 255) 13 255) 14 255))), (a2, .inr (2, [.ref a3, .ref a14, .int 0])), (a3, .inl (G.2 0, 240, .inl (f1)))] := hD
  refine lv_iinc (v := 15) (lv' := [(2, .int 15), (0, .ref a0), (1, .int 0)]) hx hb dX1_start_30 hl (k := 0) rfl (by decide) (by decide) rfl (fun ls hl => ?_)
  refine lv_goto (tgt := 12) hx hb dX1_start_33 (by decide) ?_
  refine lv_iload_n hx hb dX1_start_12 rfl (lv_at hl 0 rfl) ?_
  refine lv_aload_n hx hb dX1_start_13 rfl (lv_at hl 1 rfl) ?_
  refine va_get (D := G.1) (ci := 1) (v := .ref a1) (C := "Sourcewright$Builder") (T := TX1) (N := 16) hx hb hts inX1 hown hK hP 0 rfl rfl 11 (by decide) (hts _ wq_352) (fun _ h9 => h9) rfl dX1_start_14 ?_
  refine va_alen (v := 120) hx hb hK hP 1 0 rfl rfl (by show Int32.ofNat 120 = 120; decide) dX1_start_17 ?_
  refine lv_icmp_ge (tgt := 36) hx hb dX1_start_18 (by decide) (fun hc => absurd hc (by decide)) (fun _ => ?_)
  refine lv_aload_n hx hb dX1_start_21 rfl (lv_at hl 1 rfl) ?_
  refine va_get (D := G.1) (ci := 1) (v := .ref a1) (C := "Sourcewright$Builder") (T := TX1) (N := 16) hx hb hts inX1 hown hK hP 0 rfl rfl 11 (by decide) (hts _ wq_352) (fun _ h9 => h9) rfl dX1_start_22 ?_
  refine lv_iload_n hx hb dX1_start_25 rfl (lv_at hl 0 rfl) ?_
  refine lv_sipush (v := 255) hx hb dX1_start_26 (by decide) ?_
  refine va_iast hx hb hK hP hD hS 1 0 rfl rfl (pz_vi rfl) dX1_start_29 (fun H locs hP hD hS => ?_)
  have hP : va_P G.1 pz_cl [(a0, .inr (1, [.ref a4, .ref a5, .ref a6, .ref a7, .ref a2, .ref a8, .ref a9, .ref a10, .ref a11, .ref a12, .ref a13, .ref a1, .int 0, .int 0, .int 0, .int 0])), (a1, .inl (G.2 0, 120, .inl (upd (upd (upd (upd (upd (upd (upd (g1) 9 255) 10 255) 11 255) 12 255) 13 255) 14 255) 15 255))), (a2, .inr (2, [.ref a3, .ref a14, .int 0])), (a3, .inl (G.2 0, 240, .inl (f1)))] H := hP
  have hD : va_D A [(a0, .inr (1, [.ref a4, .ref a5, .ref a6, .ref a7, .ref a2, .ref a8, .ref a9, .ref a10, .ref a11, .ref a12, .ref a13, .ref a1, .int 0, .int 0, .int 0, .int 0])), (a1, .inl (G.2 0, 120, .inl (upd (upd (upd (upd (upd (upd (upd (g1) 9 255) 10 255) 11 255) 12 255) 13 255) 14 255) 15 255))), (a2, .inr (2, [.ref a3, .ref a14, .int 0])), (a3, .inl (G.2 0, 240, .inl (f1)))] := hD
  refine lv_iinc (v := 16) (lv' := [(2, .int 16), (0, .ref a0), (1, .int 0)]) hx hb dX1_start_30 hl (k := 0) rfl (by decide) (by decide) rfl (fun ls hl => ?_)
  refine lv_goto (tgt := 12) hx hb dX1_start_33 (by decide) ?_
  refine lv_iload_n hx hb dX1_start_12 rfl (lv_at hl 0 rfl) ?_
  refine lv_aload_n hx hb dX1_start_13 rfl (lv_at hl 1 rfl) ?_
  refine va_get (D := G.1) (ci := 1) (v := .ref a1) (C := "Sourcewright$Builder") (T := TX1) (N := 16) hx hb hts inX1 hown hK hP 0 rfl rfl 11 (by decide) (hts _ wq_352) (fun _ h9 => h9) rfl dX1_start_14 ?_
  refine va_alen (v := 120) hx hb hK hP 1 0 rfl rfl (by show Int32.ofNat 120 = 120; decide) dX1_start_17 ?_
  refine lv_icmp_ge (tgt := 36) hx hb dX1_start_18 (by decide) (fun hc => absurd hc (by decide)) (fun _ => ?_)
  refine lv_aload_n hx hb dX1_start_21 rfl (lv_at hl 1 rfl) ?_
  refine va_get (D := G.1) (ci := 1) (v := .ref a1) (C := "Sourcewright$Builder") (T := TX1) (N := 16) hx hb hts inX1 hown hK hP 0 rfl rfl 11 (by decide) (hts _ wq_352) (fun _ h9 => h9) rfl dX1_start_22 ?_
  refine lv_iload_n hx hb dX1_start_25 rfl (lv_at hl 0 rfl) ?_
  refine lv_sipush (v := 255) hx hb dX1_start_26 (by decide) ?_
  refine va_iast hx hb hK hP hD hS 1 0 rfl rfl (pz_vi rfl) dX1_start_29 (fun H locs hP hD hS => ?_)
  have hP : va_P G.1 pz_cl [(a0, .inr (1, [.ref a4, .ref a5, .ref a6, .ref a7, .ref a2, .ref a8, .ref a9, .ref a10, .ref a11, .ref a12, .ref a13, .ref a1, .int 0, .int 0, .int 0, .int 0])), (a1, .inl (G.2 0, 120, .inl (upd (upd (upd (upd (upd (upd (upd (upd (g1) 9 255) 10 255) 11 255) 12 255) 13 255) 14 255) 15 255) 16 255))), (a2, .inr (2, [.ref a3, .ref a14, .int 0])), (a3, .inl (G.2 0, 240, .inl (f1)))] H := hP
  have hD : va_D A [(a0, .inr (1, [.ref a4, .ref a5, .ref a6, .ref a7, .ref a2, .ref a8, .ref a9, .ref a10, .ref a11, .ref a12, .ref a13, .ref a1, .int 0, .int 0, .int 0, .int 0])), (a1, .inl (G.2 0, 120, .inl (upd (upd (upd (upd (upd (upd (upd (upd (g1) 9 255) 10 255) 11 255) 12 255) 13 255) 14 255) 15 255) 16 255))), (a2, .inr (2, [.ref a3, .ref a14, .int 0])), (a3, .inl (G.2 0, 240, .inl (f1)))] := hD
  refine lv_iinc (v := 17) (lv' := [(2, .int 17), (0, .ref a0), (1, .int 0)]) hx hb dX1_start_30 hl (k := 0) rfl (by decide) (by decide) rfl (fun ls hl => ?_)
  refine lv_goto (tgt := 12) hx hb dX1_start_33 (by decide) ?_
  refine lv_iload_n hx hb dX1_start_12 rfl (lv_at hl 0 rfl) ?_
  refine lv_aload_n hx hb dX1_start_13 rfl (lv_at hl 1 rfl) ?_
  refine va_get (D := G.1) (ci := 1) (v := .ref a1) (C := "Sourcewright$Builder") (T := TX1) (N := 16) hx hb hts inX1 hown hK hP 0 rfl rfl 11 (by decide) (hts _ wq_352) (fun _ h9 => h9) rfl dX1_start_14 ?_
  refine va_alen (v := 120) hx hb hK hP 1 0 rfl rfl (by show Int32.ofNat 120 = 120; decide) dX1_start_17 ?_
  refine lv_icmp_ge (tgt := 36) hx hb dX1_start_18 (by decide) (fun hc => absurd hc (by decide)) (fun _ => ?_)
  refine lv_aload_n hx hb dX1_start_21 rfl (lv_at hl 1 rfl) ?_
  refine va_get (D := G.1) (ci := 1) (v := .ref a1) (C := "Sourcewright$Builder") (T := TX1) (N := 16) hx hb hts inX1 hown hK hP 0 rfl rfl 11 (by decide) (hts _ wq_352) (fun _ h9 => h9) rfl dX1_start_22 ?_
  refine lv_iload_n hx hb dX1_start_25 rfl (lv_at hl 0 rfl) ?_
  refine lv_sipush (v := 255) hx hb dX1_start_26 (by decide) ?_
  refine va_iast hx hb hK hP hD hS 1 0 rfl rfl (pz_vi rfl) dX1_start_29 (fun H locs hP hD hS => ?_)
  obtain ⟨g2, hg2⟩ : ∃ z, z = upd (upd (upd (upd (upd (upd (upd (upd (upd (g1) 9 255) 10 255) 11 255) 12 255) 13 255) 14 255) 15 255) 16 255) 17 255 := ⟨_, rfl⟩
  have hP : va_P G.1 pz_cl [(a0, .inr (1, [.ref a4, .ref a5, .ref a6, .ref a7, .ref a2, .ref a8, .ref a9, .ref a10, .ref a11, .ref a12, .ref a13, .ref a1, .int 0, .int 0, .int 0, .int 0])), (a1, .inl (G.2 0, 120, .inl (g2))), (a2, .inr (2, [.ref a3, .ref a14, .int 0])), (a3, .inl (G.2 0, 240, .inl (f1)))] H := by rw [hg2]; exact hP
  have hD : va_D A [(a0, .inr (1, [.ref a4, .ref a5, .ref a6, .ref a7, .ref a2, .ref a8, .ref a9, .ref a10, .ref a11, .ref a12, .ref a13, .ref a1, .int 0, .int 0, .int 0, .int 0])), (a1, .inl (G.2 0, 120, .inl (g2))), (a2, .inr (2, [.ref a3, .ref a14, .int 0])), (a3, .inl (G.2 0, 240, .inl (f1)))] := by rw [hg2]; exact hD
  refine lv_iinc (v := 18) (lv' := [(2, .int 18), (0, .ref a0), (1, .int 0)]) hx hb dX1_start_30 hl (k := 0) rfl (by decide) (by decide) rfl (fun ls hl => ?_)
  refine lv_goto (tgt := 12) hx hb dX1_start_33 (by decide) ?_
  refine lv_iload_n hx hb dX1_start_12 rfl (lv_at hl 0 rfl) ?_
  refine lv_aload_n hx hb dX1_start_13 rfl (lv_at hl 1 rfl) ?_
  refine va_get (D := G.1) (ci := 1) (v := .ref a1) (C := "Sourcewright$Builder") (T := TX1) (N := 16) hx hb hts inX1 hown hK hP 0 rfl rfl 11 (by decide) (hts _ wq_352) (fun _ h9 => h9) rfl dX1_start_14 ?_
  refine va_alen (v := 120) hx hb hK hP 1 0 rfl rfl (by show Int32.ofNat 120 = 120; decide) dX1_start_17 ?_
  refine lv_icmp_ge (tgt := 36) hx hb dX1_start_18 (by decide) (fun hc => absurd hc (by decide)) (fun _ => ?_)
  refine lv_aload_n hx hb dX1_start_21 rfl (lv_at hl 1 rfl) ?_
  refine va_get (D := G.1) (ci := 1) (v := .ref a1) (C := "Sourcewright$Builder") (T := TX1) (N := 16) hx hb hts inX1 hown hK hP 0 rfl rfl 11 (by decide) (hts _ wq_352) (fun _ h9 => h9) rfl dX1_start_22 ?_
  refine lv_iload_n hx hb dX1_start_25 rfl (lv_at hl 0 rfl) ?_
  refine lv_sipush (v := 255) hx hb dX1_start_26 (by decide) ?_
  refine va_iast hx hb hK hP hD hS 1 0 rfl rfl (pz_vi rfl) dX1_start_29 (fun H locs hP hD hS => ?_)
  have hP : va_P G.1 pz_cl [(a0, .inr (1, [.ref a4, .ref a5, .ref a6, .ref a7, .ref a2, .ref a8, .ref a9, .ref a10, .ref a11, .ref a12, .ref a13, .ref a1, .int 0, .int 0, .int 0, .int 0])), (a1, .inl (G.2 0, 120, .inl (upd (g2) 18 255))), (a2, .inr (2, [.ref a3, .ref a14, .int 0])), (a3, .inl (G.2 0, 240, .inl (f1)))] H := hP
  have hD : va_D A [(a0, .inr (1, [.ref a4, .ref a5, .ref a6, .ref a7, .ref a2, .ref a8, .ref a9, .ref a10, .ref a11, .ref a12, .ref a13, .ref a1, .int 0, .int 0, .int 0, .int 0])), (a1, .inl (G.2 0, 120, .inl (upd (g2) 18 255))), (a2, .inr (2, [.ref a3, .ref a14, .int 0])), (a3, .inl (G.2 0, 240, .inl (f1)))] := hD
  refine lv_iinc (v := 19) (lv' := [(2, .int 19), (0, .ref a0), (1, .int 0)]) hx hb dX1_start_30 hl (k := 0) rfl (by decide) (by decide) rfl (fun ls hl => ?_)
  refine lv_goto (tgt := 12) hx hb dX1_start_33 (by decide) ?_
  refine lv_iload_n hx hb dX1_start_12 rfl (lv_at hl 0 rfl) ?_
  refine lv_aload_n hx hb dX1_start_13 rfl (lv_at hl 1 rfl) ?_
  refine va_get (D := G.1) (ci := 1) (v := .ref a1) (C := "Sourcewright$Builder") (T := TX1) (N := 16) hx hb hts inX1 hown hK hP 0 rfl rfl 11 (by decide) (hts _ wq_352) (fun _ h9 => h9) rfl dX1_start_14 ?_
  refine va_alen (v := 120) hx hb hK hP 1 0 rfl rfl (by show Int32.ofNat 120 = 120; decide) dX1_start_17 ?_
  refine lv_icmp_ge (tgt := 36) hx hb dX1_start_18 (by decide) (fun hc => absurd hc (by decide)) (fun _ => ?_)
  refine lv_aload_n hx hb dX1_start_21 rfl (lv_at hl 1 rfl) ?_
  refine va_get (D := G.1) (ci := 1) (v := .ref a1) (C := "Sourcewright$Builder") (T := TX1) (N := 16) hx hb hts inX1 hown hK hP 0 rfl rfl 11 (by decide) (hts _ wq_352) (fun _ h9 => h9) rfl dX1_start_22 ?_
  refine lv_iload_n hx hb dX1_start_25 rfl (lv_at hl 0 rfl) ?_
  refine lv_sipush (v := 255) hx hb dX1_start_26 (by decide) ?_
  refine va_iast hx hb hK hP hD hS 1 0 rfl rfl (pz_vi rfl) dX1_start_29 (fun H locs hP hD hS => ?_)
  have hP : va_P G.1 pz_cl [(a0, .inr (1, [.ref a4, .ref a5, .ref a6, .ref a7, .ref a2, .ref a8, .ref a9, .ref a10, .ref a11, .ref a12, .ref a13, .ref a1, .int 0, .int 0, .int 0, .int 0])), (a1, .inl (G.2 0, 120, .inl (upd (upd (g2) 18 255) 19 255))), (a2, .inr (2, [.ref a3, .ref a14, .int 0])), (a3, .inl (G.2 0, 240, .inl (f1)))] H := hP
  have hD : va_D A [(a0, .inr (1, [.ref a4, .ref a5, .ref a6, .ref a7, .ref a2, .ref a8, .ref a9, .ref a10, .ref a11, .ref a12, .ref a13, .ref a1, .int 0, .int 0, .int 0, .int 0])), (a1, .inl (G.2 0, 120, .inl (upd (upd (g2) 18 255) 19 255))), (a2, .inr (2, [.ref a3, .ref a14, .int 0])), (a3, .inl (G.2 0, 240, .inl (f1)))] := hD
  refine lv_iinc (v := 20) (lv' := [(2, .int 20), (0, .ref a0), (1, .int 0)]) hx hb dX1_start_30 hl (k := 0) rfl (by decide) (by decide) rfl (fun ls hl => ?_)
  refine lv_goto (tgt := 12) hx hb dX1_start_33 (by decide) ?_
  refine lv_iload_n hx hb dX1_start_12 rfl (lv_at hl 0 rfl) ?_
  refine lv_aload_n hx hb dX1_start_13 rfl (lv_at hl 1 rfl) ?_
  refine va_get (D := G.1) (ci := 1) (v := .ref a1) (C := "Sourcewright$Builder") (T := TX1) (N := 16) hx hb hts inX1 hown hK hP 0 rfl rfl 11 (by decide) (hts _ wq_352) (fun _ h9 => h9) rfl dX1_start_14 ?_
  refine va_alen (v := 120) hx hb hK hP 1 0 rfl rfl (by show Int32.ofNat 120 = 120; decide) dX1_start_17 ?_
  refine lv_icmp_ge (tgt := 36) hx hb dX1_start_18 (by decide) (fun hc => absurd hc (by decide)) (fun _ => ?_)
  refine lv_aload_n hx hb dX1_start_21 rfl (lv_at hl 1 rfl) ?_
  refine va_get (D := G.1) (ci := 1) (v := .ref a1) (C := "Sourcewright$Builder") (T := TX1) (N := 16) hx hb hts inX1 hown hK hP 0 rfl rfl 11 (by decide) (hts _ wq_352) (fun _ h9 => h9) rfl dX1_start_22 ?_
  refine lv_iload_n hx hb dX1_start_25 rfl (lv_at hl 0 rfl) ?_
  refine lv_sipush (v := 255) hx hb dX1_start_26 (by decide) ?_
  refine va_iast hx hb hK hP hD hS 1 0 rfl rfl (pz_vi rfl) dX1_start_29 (fun H locs hP hD hS => ?_)
  have hP : va_P G.1 pz_cl [(a0, .inr (1, [.ref a4, .ref a5, .ref a6, .ref a7, .ref a2, .ref a8, .ref a9, .ref a10, .ref a11, .ref a12, .ref a13, .ref a1, .int 0, .int 0, .int 0, .int 0])), (a1, .inl (G.2 0, 120, .inl (upd (upd (upd (g2) 18 255) 19 255) 20 255))), (a2, .inr (2, [.ref a3, .ref a14, .int 0])), (a3, .inl (G.2 0, 240, .inl (f1)))] H := hP
  have hD : va_D A [(a0, .inr (1, [.ref a4, .ref a5, .ref a6, .ref a7, .ref a2, .ref a8, .ref a9, .ref a10, .ref a11, .ref a12, .ref a13, .ref a1, .int 0, .int 0, .int 0, .int 0])), (a1, .inl (G.2 0, 120, .inl (upd (upd (upd (g2) 18 255) 19 255) 20 255))), (a2, .inr (2, [.ref a3, .ref a14, .int 0])), (a3, .inl (G.2 0, 240, .inl (f1)))] := hD
  refine lv_iinc (v := 21) (lv' := [(2, .int 21), (0, .ref a0), (1, .int 0)]) hx hb dX1_start_30 hl (k := 0) rfl (by decide) (by decide) rfl (fun ls hl => ?_)
  refine lv_goto (tgt := 12) hx hb dX1_start_33 (by decide) ?_
  refine lv_iload_n hx hb dX1_start_12 rfl (lv_at hl 0 rfl) ?_
  refine lv_aload_n hx hb dX1_start_13 rfl (lv_at hl 1 rfl) ?_
  refine va_get (D := G.1) (ci := 1) (v := .ref a1) (C := "Sourcewright$Builder") (T := TX1) (N := 16) hx hb hts inX1 hown hK hP 0 rfl rfl 11 (by decide) (hts _ wq_352) (fun _ h9 => h9) rfl dX1_start_14 ?_
  refine va_alen (v := 120) hx hb hK hP 1 0 rfl rfl (by show Int32.ofNat 120 = 120; decide) dX1_start_17 ?_
  refine lv_icmp_ge (tgt := 36) hx hb dX1_start_18 (by decide) (fun hc => absurd hc (by decide)) (fun _ => ?_)
  refine lv_aload_n hx hb dX1_start_21 rfl (lv_at hl 1 rfl) ?_
  refine va_get (D := G.1) (ci := 1) (v := .ref a1) (C := "Sourcewright$Builder") (T := TX1) (N := 16) hx hb hts inX1 hown hK hP 0 rfl rfl 11 (by decide) (hts _ wq_352) (fun _ h9 => h9) rfl dX1_start_22 ?_
  refine lv_iload_n hx hb dX1_start_25 rfl (lv_at hl 0 rfl) ?_
  refine lv_sipush (v := 255) hx hb dX1_start_26 (by decide) ?_
  refine va_iast hx hb hK hP hD hS 1 0 rfl rfl (pz_vi rfl) dX1_start_29 (fun H locs hP hD hS => ?_)
  have hP : va_P G.1 pz_cl [(a0, .inr (1, [.ref a4, .ref a5, .ref a6, .ref a7, .ref a2, .ref a8, .ref a9, .ref a10, .ref a11, .ref a12, .ref a13, .ref a1, .int 0, .int 0, .int 0, .int 0])), (a1, .inl (G.2 0, 120, .inl (upd (upd (upd (upd (g2) 18 255) 19 255) 20 255) 21 255))), (a2, .inr (2, [.ref a3, .ref a14, .int 0])), (a3, .inl (G.2 0, 240, .inl (f1)))] H := hP
  have hD : va_D A [(a0, .inr (1, [.ref a4, .ref a5, .ref a6, .ref a7, .ref a2, .ref a8, .ref a9, .ref a10, .ref a11, .ref a12, .ref a13, .ref a1, .int 0, .int 0, .int 0, .int 0])), (a1, .inl (G.2 0, 120, .inl (upd (upd (upd (upd (g2) 18 255) 19 255) 20 255) 21 255))), (a2, .inr (2, [.ref a3, .ref a14, .int 0])), (a3, .inl (G.2 0, 240, .inl (f1)))] := hD
  refine lv_iinc (v := 22) (lv' := [(2, .int 22), (0, .ref a0), (1, .int 0)]) hx hb dX1_start_30 hl (k := 0) rfl (by decide) (by decide) rfl (fun ls hl => ?_)
  refine lv_goto (tgt := 12) hx hb dX1_start_33 (by decide) ?_
  refine lv_iload_n hx hb dX1_start_12 rfl (lv_at hl 0 rfl) ?_
  refine lv_aload_n hx hb dX1_start_13 rfl (lv_at hl 1 rfl) ?_
  refine va_get (D := G.1) (ci := 1) (v := .ref a1) (C := "Sourcewright$Builder") (T := TX1) (N := 16) hx hb hts inX1 hown hK hP 0 rfl rfl 11 (by decide) (hts _ wq_352) (fun _ h9 => h9) rfl dX1_start_14 ?_
  refine va_alen (v := 120) hx hb hK hP 1 0 rfl rfl (by show Int32.ofNat 120 = 120; decide) dX1_start_17 ?_
  refine lv_icmp_ge (tgt := 36) hx hb dX1_start_18 (by decide) (fun hc => absurd hc (by decide)) (fun _ => ?_)
  refine lv_aload_n hx hb dX1_start_21 rfl (lv_at hl 1 rfl) ?_
  refine va_get (D := G.1) (ci := 1) (v := .ref a1) (C := "Sourcewright$Builder") (T := TX1) (N := 16) hx hb hts inX1 hown hK hP 0 rfl rfl 11 (by decide) (hts _ wq_352) (fun _ h9 => h9) rfl dX1_start_22 ?_
  refine lv_iload_n hx hb dX1_start_25 rfl (lv_at hl 0 rfl) ?_
  refine lv_sipush (v := 255) hx hb dX1_start_26 (by decide) ?_
  refine va_iast hx hb hK hP hD hS 1 0 rfl rfl (pz_vi rfl) dX1_start_29 (fun H locs hP hD hS => ?_)
  have hP : va_P G.1 pz_cl [(a0, .inr (1, [.ref a4, .ref a5, .ref a6, .ref a7, .ref a2, .ref a8, .ref a9, .ref a10, .ref a11, .ref a12, .ref a13, .ref a1, .int 0, .int 0, .int 0, .int 0])), (a1, .inl (G.2 0, 120, .inl (upd (upd (upd (upd (upd (g2) 18 255) 19 255) 20 255) 21 255) 22 255))), (a2, .inr (2, [.ref a3, .ref a14, .int 0])), (a3, .inl (G.2 0, 240, .inl (f1)))] H := hP
  have hD : va_D A [(a0, .inr (1, [.ref a4, .ref a5, .ref a6, .ref a7, .ref a2, .ref a8, .ref a9, .ref a10, .ref a11, .ref a12, .ref a13, .ref a1, .int 0, .int 0, .int 0, .int 0])), (a1, .inl (G.2 0, 120, .inl (upd (upd (upd (upd (upd (g2) 18 255) 19 255) 20 255) 21 255) 22 255))), (a2, .inr (2, [.ref a3, .ref a14, .int 0])), (a3, .inl (G.2 0, 240, .inl (f1)))] := hD
  refine lv_iinc (v := 23) (lv' := [(2, .int 23), (0, .ref a0), (1, .int 0)]) hx hb dX1_start_30 hl (k := 0) rfl (by decide) (by decide) rfl (fun ls hl => ?_)
  refine lv_goto (tgt := 12) hx hb dX1_start_33 (by decide) ?_
  refine lv_iload_n hx hb dX1_start_12 rfl (lv_at hl 0 rfl) ?_
  refine lv_aload_n hx hb dX1_start_13 rfl (lv_at hl 1 rfl) ?_
  refine va_get (D := G.1) (ci := 1) (v := .ref a1) (C := "Sourcewright$Builder") (T := TX1) (N := 16) hx hb hts inX1 hown hK hP 0 rfl rfl 11 (by decide) (hts _ wq_352) (fun _ h9 => h9) rfl dX1_start_14 ?_
  refine va_alen (v := 120) hx hb hK hP 1 0 rfl rfl (by show Int32.ofNat 120 = 120; decide) dX1_start_17 ?_
  refine lv_icmp_ge (tgt := 36) hx hb dX1_start_18 (by decide) (fun hc => absurd hc (by decide)) (fun _ => ?_)
  refine lv_aload_n hx hb dX1_start_21 rfl (lv_at hl 1 rfl) ?_
  refine va_get (D := G.1) (ci := 1) (v := .ref a1) (C := "Sourcewright$Builder") (T := TX1) (N := 16) hx hb hts inX1 hown hK hP 0 rfl rfl 11 (by decide) (hts _ wq_352) (fun _ h9 => h9) rfl dX1_start_22 ?_
  refine lv_iload_n hx hb dX1_start_25 rfl (lv_at hl 0 rfl) ?_
  refine lv_sipush (v := 255) hx hb dX1_start_26 (by decide) ?_
  refine va_iast hx hb hK hP hD hS 1 0 rfl rfl (pz_vi rfl) dX1_start_29 (fun H locs hP hD hS => ?_)
  have hP : va_P G.1 pz_cl [(a0, .inr (1, [.ref a4, .ref a5, .ref a6, .ref a7, .ref a2, .ref a8, .ref a9, .ref a10, .ref a11, .ref a12, .ref a13, .ref a1, .int 0, .int 0, .int 0, .int 0])), (a1, .inl (G.2 0, 120, .inl (upd (upd (upd (upd (upd (upd (g2) 18 255) 19 255) 20 255) 21 255) 22 255) 23 255))), (a2, .inr (2, [.ref a3, .ref a14, .int 0])), (a3, .inl (G.2 0, 240, .inl (f1)))] H := hP
  have hD : va_D A [(a0, .inr (1, [.ref a4, .ref a5, .ref a6, .ref a7, .ref a2, .ref a8, .ref a9, .ref a10, .ref a11, .ref a12, .ref a13, .ref a1, .int 0, .int 0, .int 0, .int 0])), (a1, .inl (G.2 0, 120, .inl (upd (upd (upd (upd (upd (upd (g2) 18 255) 19 255) 20 255) 21 255) 22 255) 23 255))), (a2, .inr (2, [.ref a3, .ref a14, .int 0])), (a3, .inl (G.2 0, 240, .inl (f1)))] := hD
  refine lv_iinc (v := 24) (lv' := [(2, .int 24), (0, .ref a0), (1, .int 0)]) hx hb dX1_start_30 hl (k := 0) rfl (by decide) (by decide) rfl (fun ls hl => ?_)
  refine lv_goto (tgt := 12) hx hb dX1_start_33 (by decide) ?_
  refine lv_iload_n hx hb dX1_start_12 rfl (lv_at hl 0 rfl) ?_
  refine lv_aload_n hx hb dX1_start_13 rfl (lv_at hl 1 rfl) ?_
  refine va_get (D := G.1) (ci := 1) (v := .ref a1) (C := "Sourcewright$Builder") (T := TX1) (N := 16) hx hb hts inX1 hown hK hP 0 rfl rfl 11 (by decide) (hts _ wq_352) (fun _ h9 => h9) rfl dX1_start_14 ?_
  refine va_alen (v := 120) hx hb hK hP 1 0 rfl rfl (by show Int32.ofNat 120 = 120; decide) dX1_start_17 ?_
  refine lv_icmp_ge (tgt := 36) hx hb dX1_start_18 (by decide) (fun hc => absurd hc (by decide)) (fun _ => ?_)
  refine lv_aload_n hx hb dX1_start_21 rfl (lv_at hl 1 rfl) ?_
  refine va_get (D := G.1) (ci := 1) (v := .ref a1) (C := "Sourcewright$Builder") (T := TX1) (N := 16) hx hb hts inX1 hown hK hP 0 rfl rfl 11 (by decide) (hts _ wq_352) (fun _ h9 => h9) rfl dX1_start_22 ?_
  refine lv_iload_n hx hb dX1_start_25 rfl (lv_at hl 0 rfl) ?_
  refine lv_sipush (v := 255) hx hb dX1_start_26 (by decide) ?_
  refine va_iast hx hb hK hP hD hS 1 0 rfl rfl (pz_vi rfl) dX1_start_29 (fun H locs hP hD hS => ?_)
  have hP : va_P G.1 pz_cl [(a0, .inr (1, [.ref a4, .ref a5, .ref a6, .ref a7, .ref a2, .ref a8, .ref a9, .ref a10, .ref a11, .ref a12, .ref a13, .ref a1, .int 0, .int 0, .int 0, .int 0])), (a1, .inl (G.2 0, 120, .inl (upd (upd (upd (upd (upd (upd (upd (g2) 18 255) 19 255) 20 255) 21 255) 22 255) 23 255) 24 255))), (a2, .inr (2, [.ref a3, .ref a14, .int 0])), (a3, .inl (G.2 0, 240, .inl (f1)))] H := hP
  have hD : va_D A [(a0, .inr (1, [.ref a4, .ref a5, .ref a6, .ref a7, .ref a2, .ref a8, .ref a9, .ref a10, .ref a11, .ref a12, .ref a13, .ref a1, .int 0, .int 0, .int 0, .int 0])), (a1, .inl (G.2 0, 120, .inl (upd (upd (upd (upd (upd (upd (upd (g2) 18 255) 19 255) 20 255) 21 255) 22 255) 23 255) 24 255))), (a2, .inr (2, [.ref a3, .ref a14, .int 0])), (a3, .inl (G.2 0, 240, .inl (f1)))] := hD
  refine lv_iinc (v := 25) (lv' := [(2, .int 25), (0, .ref a0), (1, .int 0)]) hx hb dX1_start_30 hl (k := 0) rfl (by decide) (by decide) rfl (fun ls hl => ?_)
  refine lv_goto (tgt := 12) hx hb dX1_start_33 (by decide) ?_
  refine lv_iload_n hx hb dX1_start_12 rfl (lv_at hl 0 rfl) ?_
  refine lv_aload_n hx hb dX1_start_13 rfl (lv_at hl 1 rfl) ?_
  refine va_get (D := G.1) (ci := 1) (v := .ref a1) (C := "Sourcewright$Builder") (T := TX1) (N := 16) hx hb hts inX1 hown hK hP 0 rfl rfl 11 (by decide) (hts _ wq_352) (fun _ h9 => h9) rfl dX1_start_14 ?_
  refine va_alen (v := 120) hx hb hK hP 1 0 rfl rfl (by show Int32.ofNat 120 = 120; decide) dX1_start_17 ?_
  refine lv_icmp_ge (tgt := 36) hx hb dX1_start_18 (by decide) (fun hc => absurd hc (by decide)) (fun _ => ?_)
  refine lv_aload_n hx hb dX1_start_21 rfl (lv_at hl 1 rfl) ?_
  refine va_get (D := G.1) (ci := 1) (v := .ref a1) (C := "Sourcewright$Builder") (T := TX1) (N := 16) hx hb hts inX1 hown hK hP 0 rfl rfl 11 (by decide) (hts _ wq_352) (fun _ h9 => h9) rfl dX1_start_22 ?_
  refine lv_iload_n hx hb dX1_start_25 rfl (lv_at hl 0 rfl) ?_
  refine lv_sipush (v := 255) hx hb dX1_start_26 (by decide) ?_
  refine va_iast hx hb hK hP hD hS 1 0 rfl rfl (pz_vi rfl) dX1_start_29 (fun H locs hP hD hS => ?_)
  have hP : va_P G.1 pz_cl [(a0, .inr (1, [.ref a4, .ref a5, .ref a6, .ref a7, .ref a2, .ref a8, .ref a9, .ref a10, .ref a11, .ref a12, .ref a13, .ref a1, .int 0, .int 0, .int 0, .int 0])), (a1, .inl (G.2 0, 120, .inl (upd (upd (upd (upd (upd (upd (upd (upd (g2) 18 255) 19 255) 20 255) 21 255) 22 255) 23 255) 24 255) 25 255))), (a2, .inr (2, [.ref a3, .ref a14, .int 0])), (a3, .inl (G.2 0, 240, .inl (f1)))] H := hP
  have hD : va_D A [(a0, .inr (1, [.ref a4, .ref a5, .ref a6, .ref a7, .ref a2, .ref a8, .ref a9, .ref a10, .ref a11, .ref a12, .ref a13, .ref a1, .int 0, .int 0, .int 0, .int 0])), (a1, .inl (G.2 0, 120, .inl (upd (upd (upd (upd (upd (upd (upd (upd (g2) 18 255) 19 255) 20 255) 21 255) 22 255) 23 255) 24 255) 25 255))), (a2, .inr (2, [.ref a3, .ref a14, .int 0])), (a3, .inl (G.2 0, 240, .inl (f1)))] := hD
  refine lv_iinc (v := 26) (lv' := [(2, .int 26), (0, .ref a0), (1, .int 0)]) hx hb dX1_start_30 hl (k := 0) rfl (by decide) (by decide) rfl (fun ls hl => ?_)
  refine lv_goto (tgt := 12) hx hb dX1_start_33 (by decide) ?_
  refine lv_iload_n hx hb dX1_start_12 rfl (lv_at hl 0 rfl) ?_
  refine lv_aload_n hx hb dX1_start_13 rfl (lv_at hl 1 rfl) ?_
  refine va_get (D := G.1) (ci := 1) (v := .ref a1) (C := "Sourcewright$Builder") (T := TX1) (N := 16) hx hb hts inX1 hown hK hP 0 rfl rfl 11 (by decide) (hts _ wq_352) (fun _ h9 => h9) rfl dX1_start_14 ?_
  refine va_alen (v := 120) hx hb hK hP 1 0 rfl rfl (by show Int32.ofNat 120 = 120; decide) dX1_start_17 ?_
  refine lv_icmp_ge (tgt := 36) hx hb dX1_start_18 (by decide) (fun hc => absurd hc (by decide)) (fun _ => ?_)
  refine lv_aload_n hx hb dX1_start_21 rfl (lv_at hl 1 rfl) ?_
  refine va_get (D := G.1) (ci := 1) (v := .ref a1) (C := "Sourcewright$Builder") (T := TX1) (N := 16) hx hb hts inX1 hown hK hP 0 rfl rfl 11 (by decide) (hts _ wq_352) (fun _ h9 => h9) rfl dX1_start_22 ?_
  refine lv_iload_n hx hb dX1_start_25 rfl (lv_at hl 0 rfl) ?_
  refine lv_sipush (v := 255) hx hb dX1_start_26 (by decide) ?_
  refine va_iast hx hb hK hP hD hS 1 0 rfl rfl (pz_vi rfl) dX1_start_29 (fun H locs hP hD hS => ?_)
  obtain ⟨g3, hg3⟩ : ∃ z, z = upd (upd (upd (upd (upd (upd (upd (upd (upd (g2) 18 255) 19 255) 20 255) 21 255) 22 255) 23 255) 24 255) 25 255) 26 255 := ⟨_, rfl⟩
  have hP : va_P G.1 pz_cl [(a0, .inr (1, [.ref a4, .ref a5, .ref a6, .ref a7, .ref a2, .ref a8, .ref a9, .ref a10, .ref a11, .ref a12, .ref a13, .ref a1, .int 0, .int 0, .int 0, .int 0])), (a1, .inl (G.2 0, 120, .inl (g3))), (a2, .inr (2, [.ref a3, .ref a14, .int 0])), (a3, .inl (G.2 0, 240, .inl (f1)))] H := by rw [hg3]; exact hP
  have hD : va_D A [(a0, .inr (1, [.ref a4, .ref a5, .ref a6, .ref a7, .ref a2, .ref a8, .ref a9, .ref a10, .ref a11, .ref a12, .ref a13, .ref a1, .int 0, .int 0, .int 0, .int 0])), (a1, .inl (G.2 0, 120, .inl (g3))), (a2, .inr (2, [.ref a3, .ref a14, .int 0])), (a3, .inl (G.2 0, 240, .inl (f1)))] := by rw [hg3]; exact hD
  refine lv_iinc (v := 27) (lv' := [(2, .int 27), (0, .ref a0), (1, .int 0)]) hx hb dX1_start_30 hl (k := 0) rfl (by decide) (by decide) rfl (fun ls hl => ?_)
  refine lv_goto (tgt := 12) hx hb dX1_start_33 (by decide) ?_
  refine lv_iload_n hx hb dX1_start_12 rfl (lv_at hl 0 rfl) ?_
  refine lv_aload_n hx hb dX1_start_13 rfl (lv_at hl 1 rfl) ?_
  refine va_get (D := G.1) (ci := 1) (v := .ref a1) (C := "Sourcewright$Builder") (T := TX1) (N := 16) hx hb hts inX1 hown hK hP 0 rfl rfl 11 (by decide) (hts _ wq_352) (fun _ h9 => h9) rfl dX1_start_14 ?_
  refine va_alen (v := 120) hx hb hK hP 1 0 rfl rfl (by show Int32.ofNat 120 = 120; decide) dX1_start_17 ?_
  refine lv_icmp_ge (tgt := 36) hx hb dX1_start_18 (by decide) (fun hc => absurd hc (by decide)) (fun _ => ?_)
  refine lv_aload_n hx hb dX1_start_21 rfl (lv_at hl 1 rfl) ?_
  refine va_get (D := G.1) (ci := 1) (v := .ref a1) (C := "Sourcewright$Builder") (T := TX1) (N := 16) hx hb hts inX1 hown hK hP 0 rfl rfl 11 (by decide) (hts _ wq_352) (fun _ h9 => h9) rfl dX1_start_22 ?_
  refine lv_iload_n hx hb dX1_start_25 rfl (lv_at hl 0 rfl) ?_
  refine lv_sipush (v := 255) hx hb dX1_start_26 (by decide) ?_
  refine va_iast hx hb hK hP hD hS 1 0 rfl rfl (pz_vi rfl) dX1_start_29 (fun H locs hP hD hS => ?_)
  have hP : va_P G.1 pz_cl [(a0, .inr (1, [.ref a4, .ref a5, .ref a6, .ref a7, .ref a2, .ref a8, .ref a9, .ref a10, .ref a11, .ref a12, .ref a13, .ref a1, .int 0, .int 0, .int 0, .int 0])), (a1, .inl (G.2 0, 120, .inl (upd (g3) 27 255))), (a2, .inr (2, [.ref a3, .ref a14, .int 0])), (a3, .inl (G.2 0, 240, .inl (f1)))] H := hP
  have hD : va_D A [(a0, .inr (1, [.ref a4, .ref a5, .ref a6, .ref a7, .ref a2, .ref a8, .ref a9, .ref a10, .ref a11, .ref a12, .ref a13, .ref a1, .int 0, .int 0, .int 0, .int 0])), (a1, .inl (G.2 0, 120, .inl (upd (g3) 27 255))), (a2, .inr (2, [.ref a3, .ref a14, .int 0])), (a3, .inl (G.2 0, 240, .inl (f1)))] := hD
  refine lv_iinc (v := 28) (lv' := [(2, .int 28), (0, .ref a0), (1, .int 0)]) hx hb dX1_start_30 hl (k := 0) rfl (by decide) (by decide) rfl (fun ls hl => ?_)
  refine lv_goto (tgt := 12) hx hb dX1_start_33 (by decide) ?_
  refine lv_iload_n hx hb dX1_start_12 rfl (lv_at hl 0 rfl) ?_
  refine lv_aload_n hx hb dX1_start_13 rfl (lv_at hl 1 rfl) ?_
  refine va_get (D := G.1) (ci := 1) (v := .ref a1) (C := "Sourcewright$Builder") (T := TX1) (N := 16) hx hb hts inX1 hown hK hP 0 rfl rfl 11 (by decide) (hts _ wq_352) (fun _ h9 => h9) rfl dX1_start_14 ?_
  refine va_alen (v := 120) hx hb hK hP 1 0 rfl rfl (by show Int32.ofNat 120 = 120; decide) dX1_start_17 ?_
  refine lv_icmp_ge (tgt := 36) hx hb dX1_start_18 (by decide) (fun hc => absurd hc (by decide)) (fun _ => ?_)
  refine lv_aload_n hx hb dX1_start_21 rfl (lv_at hl 1 rfl) ?_
  refine va_get (D := G.1) (ci := 1) (v := .ref a1) (C := "Sourcewright$Builder") (T := TX1) (N := 16) hx hb hts inX1 hown hK hP 0 rfl rfl 11 (by decide) (hts _ wq_352) (fun _ h9 => h9) rfl dX1_start_22 ?_
  refine lv_iload_n hx hb dX1_start_25 rfl (lv_at hl 0 rfl) ?_
  refine lv_sipush (v := 255) hx hb dX1_start_26 (by decide) ?_
  refine va_iast hx hb hK hP hD hS 1 0 rfl rfl (pz_vi rfl) dX1_start_29 (fun H locs hP hD hS => ?_)
  have hP : va_P G.1 pz_cl [(a0, .inr (1, [.ref a4, .ref a5, .ref a6, .ref a7, .ref a2, .ref a8, .ref a9, .ref a10, .ref a11, .ref a12, .ref a13, .ref a1, .int 0, .int 0, .int 0, .int 0])), (a1, .inl (G.2 0, 120, .inl (upd (upd (g3) 27 255) 28 255))), (a2, .inr (2, [.ref a3, .ref a14, .int 0])), (a3, .inl (G.2 0, 240, .inl (f1)))] H := hP
  have hD : va_D A [(a0, .inr (1, [.ref a4, .ref a5, .ref a6, .ref a7, .ref a2, .ref a8, .ref a9, .ref a10, .ref a11, .ref a12, .ref a13, .ref a1, .int 0, .int 0, .int 0, .int 0])), (a1, .inl (G.2 0, 120, .inl (upd (upd (g3) 27 255) 28 255))), (a2, .inr (2, [.ref a3, .ref a14, .int 0])), (a3, .inl (G.2 0, 240, .inl (f1)))] := hD
  refine lv_iinc (v := 29) (lv' := [(2, .int 29), (0, .ref a0), (1, .int 0)]) hx hb dX1_start_30 hl (k := 0) rfl (by decide) (by decide) rfl (fun ls hl => ?_)
  refine lv_goto (tgt := 12) hx hb dX1_start_33 (by decide) ?_
  refine lv_iload_n hx hb dX1_start_12 rfl (lv_at hl 0 rfl) ?_
  refine lv_aload_n hx hb dX1_start_13 rfl (lv_at hl 1 rfl) ?_
  refine va_get (D := G.1) (ci := 1) (v := .ref a1) (C := "Sourcewright$Builder") (T := TX1) (N := 16) hx hb hts inX1 hown hK hP 0 rfl rfl 11 (by decide) (hts _ wq_352) (fun _ h9 => h9) rfl dX1_start_14 ?_
  refine va_alen (v := 120) hx hb hK hP 1 0 rfl rfl (by show Int32.ofNat 120 = 120; decide) dX1_start_17 ?_
  refine lv_icmp_ge (tgt := 36) hx hb dX1_start_18 (by decide) (fun hc => absurd hc (by decide)) (fun _ => ?_)
  refine lv_aload_n hx hb dX1_start_21 rfl (lv_at hl 1 rfl) ?_
  refine va_get (D := G.1) (ci := 1) (v := .ref a1) (C := "Sourcewright$Builder") (T := TX1) (N := 16) hx hb hts inX1 hown hK hP 0 rfl rfl 11 (by decide) (hts _ wq_352) (fun _ h9 => h9) rfl dX1_start_22 ?_
  refine lv_iload_n hx hb dX1_start_25 rfl (lv_at hl 0 rfl) ?_
  refine lv_sipush (v := 255) hx hb dX1_start_26 (by decide) ?_
  refine va_iast hx hb hK hP hD hS 1 0 rfl rfl (pz_vi rfl) dX1_start_29 (fun H locs hP hD hS => ?_)
  have hP : va_P G.1 pz_cl [(a0, .inr (1, [.ref a4, .ref a5, .ref a6, .ref a7, .ref a2, .ref a8, .ref a9, .ref a10, .ref a11, .ref a12, .ref a13, .ref a1, .int 0, .int 0, .int 0, .int 0])), (a1, .inl (G.2 0, 120, .inl (upd (upd (upd (g3) 27 255) 28 255) 29 255))), (a2, .inr (2, [.ref a3, .ref a14, .int 0])), (a3, .inl (G.2 0, 240, .inl (f1)))] H := hP
  have hD : va_D A [(a0, .inr (1, [.ref a4, .ref a5, .ref a6, .ref a7, .ref a2, .ref a8, .ref a9, .ref a10, .ref a11, .ref a12, .ref a13, .ref a1, .int 0, .int 0, .int 0, .int 0])), (a1, .inl (G.2 0, 120, .inl (upd (upd (upd (g3) 27 255) 28 255) 29 255))), (a2, .inr (2, [.ref a3, .ref a14, .int 0])), (a3, .inl (G.2 0, 240, .inl (f1)))] := hD
  refine lv_iinc (v := 30) (lv' := [(2, .int 30), (0, .ref a0), (1, .int 0)]) hx hb dX1_start_30 hl (k := 0) rfl (by decide) (by decide) rfl (fun ls hl => ?_)
  refine lv_goto (tgt := 12) hx hb dX1_start_33 (by decide) ?_
  refine lv_iload_n hx hb dX1_start_12 rfl (lv_at hl 0 rfl) ?_
  refine lv_aload_n hx hb dX1_start_13 rfl (lv_at hl 1 rfl) ?_
  refine va_get (D := G.1) (ci := 1) (v := .ref a1) (C := "Sourcewright$Builder") (T := TX1) (N := 16) hx hb hts inX1 hown hK hP 0 rfl rfl 11 (by decide) (hts _ wq_352) (fun _ h9 => h9) rfl dX1_start_14 ?_
  refine va_alen (v := 120) hx hb hK hP 1 0 rfl rfl (by show Int32.ofNat 120 = 120; decide) dX1_start_17 ?_
  refine lv_icmp_ge (tgt := 36) hx hb dX1_start_18 (by decide) (fun hc => absurd hc (by decide)) (fun _ => ?_)
  refine lv_aload_n hx hb dX1_start_21 rfl (lv_at hl 1 rfl) ?_
  refine va_get (D := G.1) (ci := 1) (v := .ref a1) (C := "Sourcewright$Builder") (T := TX1) (N := 16) hx hb hts inX1 hown hK hP 0 rfl rfl 11 (by decide) (hts _ wq_352) (fun _ h9 => h9) rfl dX1_start_22 ?_
  refine lv_iload_n hx hb dX1_start_25 rfl (lv_at hl 0 rfl) ?_
  refine lv_sipush (v := 255) hx hb dX1_start_26 (by decide) ?_
  refine va_iast hx hb hK hP hD hS 1 0 rfl rfl (pz_vi rfl) dX1_start_29 (fun H locs hP hD hS => ?_)
  have hP : va_P G.1 pz_cl [(a0, .inr (1, [.ref a4, .ref a5, .ref a6, .ref a7, .ref a2, .ref a8, .ref a9, .ref a10, .ref a11, .ref a12, .ref a13, .ref a1, .int 0, .int 0, .int 0, .int 0])), (a1, .inl (G.2 0, 120, .inl (upd (upd (upd (upd (g3) 27 255) 28 255) 29 255) 30 255))), (a2, .inr (2, [.ref a3, .ref a14, .int 0])), (a3, .inl (G.2 0, 240, .inl (f1)))] H := hP
  have hD : va_D A [(a0, .inr (1, [.ref a4, .ref a5, .ref a6, .ref a7, .ref a2, .ref a8, .ref a9, .ref a10, .ref a11, .ref a12, .ref a13, .ref a1, .int 0, .int 0, .int 0, .int 0])), (a1, .inl (G.2 0, 120, .inl (upd (upd (upd (upd (g3) 27 255) 28 255) 29 255) 30 255))), (a2, .inr (2, [.ref a3, .ref a14, .int 0])), (a3, .inl (G.2 0, 240, .inl (f1)))] := hD
  refine lv_iinc (v := 31) (lv' := [(2, .int 31), (0, .ref a0), (1, .int 0)]) hx hb dX1_start_30 hl (k := 0) rfl (by decide) (by decide) rfl (fun ls hl => ?_)
  refine lv_goto (tgt := 12) hx hb dX1_start_33 (by decide) ?_
  refine lv_iload_n hx hb dX1_start_12 rfl (lv_at hl 0 rfl) ?_
  refine lv_aload_n hx hb dX1_start_13 rfl (lv_at hl 1 rfl) ?_
  refine va_get (D := G.1) (ci := 1) (v := .ref a1) (C := "Sourcewright$Builder") (T := TX1) (N := 16) hx hb hts inX1 hown hK hP 0 rfl rfl 11 (by decide) (hts _ wq_352) (fun _ h9 => h9) rfl dX1_start_14 ?_
  refine va_alen (v := 120) hx hb hK hP 1 0 rfl rfl (by show Int32.ofNat 120 = 120; decide) dX1_start_17 ?_
  refine lv_icmp_ge (tgt := 36) hx hb dX1_start_18 (by decide) (fun hc => absurd hc (by decide)) (fun _ => ?_)
  refine lv_aload_n hx hb dX1_start_21 rfl (lv_at hl 1 rfl) ?_
  refine va_get (D := G.1) (ci := 1) (v := .ref a1) (C := "Sourcewright$Builder") (T := TX1) (N := 16) hx hb hts inX1 hown hK hP 0 rfl rfl 11 (by decide) (hts _ wq_352) (fun _ h9 => h9) rfl dX1_start_22 ?_
  refine lv_iload_n hx hb dX1_start_25 rfl (lv_at hl 0 rfl) ?_
  refine lv_sipush (v := 255) hx hb dX1_start_26 (by decide) ?_
  refine va_iast hx hb hK hP hD hS 1 0 rfl rfl (pz_vi rfl) dX1_start_29 (fun H locs hP hD hS => ?_)
  have hP : va_P G.1 pz_cl [(a0, .inr (1, [.ref a4, .ref a5, .ref a6, .ref a7, .ref a2, .ref a8, .ref a9, .ref a10, .ref a11, .ref a12, .ref a13, .ref a1, .int 0, .int 0, .int 0, .int 0])), (a1, .inl (G.2 0, 120, .inl (upd (upd (upd (upd (upd (g3) 27 255) 28 255) 29 255) 30 255) 31 255))), (a2, .inr (2, [.ref a3, .ref a14, .int 0])), (a3, .inl (G.2 0, 240, .inl (f1)))] H := hP
  have hD : va_D A [(a0, .inr (1, [.ref a4, .ref a5, .ref a6, .ref a7, .ref a2, .ref a8, .ref a9, .ref a10, .ref a11, .ref a12, .ref a13, .ref a1, .int 0, .int 0, .int 0, .int 0])), (a1, .inl (G.2 0, 120, .inl (upd (upd (upd (upd (upd (g3) 27 255) 28 255) 29 255) 30 255) 31 255))), (a2, .inr (2, [.ref a3, .ref a14, .int 0])), (a3, .inl (G.2 0, 240, .inl (f1)))] := hD
  refine lv_iinc (v := 32) (lv' := [(2, .int 32), (0, .ref a0), (1, .int 0)]) hx hb dX1_start_30 hl (k := 0) rfl (by decide) (by decide) rfl (fun ls hl => ?_)
  refine lv_goto (tgt := 12) hx hb dX1_start_33 (by decide) ?_
  refine lv_iload_n hx hb dX1_start_12 rfl (lv_at hl 0 rfl) ?_
  refine lv_aload_n hx hb dX1_start_13 rfl (lv_at hl 1 rfl) ?_
  refine va_get (D := G.1) (ci := 1) (v := .ref a1) (C := "Sourcewright$Builder") (T := TX1) (N := 16) hx hb hts inX1 hown hK hP 0 rfl rfl 11 (by decide) (hts _ wq_352) (fun _ h9 => h9) rfl dX1_start_14 ?_
  refine va_alen (v := 120) hx hb hK hP 1 0 rfl rfl (by show Int32.ofNat 120 = 120; decide) dX1_start_17 ?_
  refine lv_icmp_ge (tgt := 36) hx hb dX1_start_18 (by decide) (fun hc => absurd hc (by decide)) (fun _ => ?_)
  refine lv_aload_n hx hb dX1_start_21 rfl (lv_at hl 1 rfl) ?_
  refine va_get (D := G.1) (ci := 1) (v := .ref a1) (C := "Sourcewright$Builder") (T := TX1) (N := 16) hx hb hts inX1 hown hK hP 0 rfl rfl 11 (by decide) (hts _ wq_352) (fun _ h9 => h9) rfl dX1_start_22 ?_
  refine lv_iload_n hx hb dX1_start_25 rfl (lv_at hl 0 rfl) ?_
  refine lv_sipush (v := 255) hx hb dX1_start_26 (by decide) ?_
  refine va_iast hx hb hK hP hD hS 1 0 rfl rfl (pz_vi rfl) dX1_start_29 (fun H locs hP hD hS => ?_)
  have hP : va_P G.1 pz_cl [(a0, .inr (1, [.ref a4, .ref a5, .ref a6, .ref a7, .ref a2, .ref a8, .ref a9, .ref a10, .ref a11, .ref a12, .ref a13, .ref a1, .int 0, .int 0, .int 0, .int 0])), (a1, .inl (G.2 0, 120, .inl (upd (upd (upd (upd (upd (upd (g3) 27 255) 28 255) 29 255) 30 255) 31 255) 32 255))), (a2, .inr (2, [.ref a3, .ref a14, .int 0])), (a3, .inl (G.2 0, 240, .inl (f1)))] H := hP
  have hD : va_D A [(a0, .inr (1, [.ref a4, .ref a5, .ref a6, .ref a7, .ref a2, .ref a8, .ref a9, .ref a10, .ref a11, .ref a12, .ref a13, .ref a1, .int 0, .int 0, .int 0, .int 0])), (a1, .inl (G.2 0, 120, .inl (upd (upd (upd (upd (upd (upd (g3) 27 255) 28 255) 29 255) 30 255) 31 255) 32 255))), (a2, .inr (2, [.ref a3, .ref a14, .int 0])), (a3, .inl (G.2 0, 240, .inl (f1)))] := hD
  refine lv_iinc (v := 33) (lv' := [(2, .int 33), (0, .ref a0), (1, .int 0)]) hx hb dX1_start_30 hl (k := 0) rfl (by decide) (by decide) rfl (fun ls hl => ?_)
  refine lv_goto (tgt := 12) hx hb dX1_start_33 (by decide) ?_
  refine lv_iload_n hx hb dX1_start_12 rfl (lv_at hl 0 rfl) ?_
  refine lv_aload_n hx hb dX1_start_13 rfl (lv_at hl 1 rfl) ?_
  refine va_get (D := G.1) (ci := 1) (v := .ref a1) (C := "Sourcewright$Builder") (T := TX1) (N := 16) hx hb hts inX1 hown hK hP 0 rfl rfl 11 (by decide) (hts _ wq_352) (fun _ h9 => h9) rfl dX1_start_14 ?_
  refine va_alen (v := 120) hx hb hK hP 1 0 rfl rfl (by show Int32.ofNat 120 = 120; decide) dX1_start_17 ?_
  refine lv_icmp_ge (tgt := 36) hx hb dX1_start_18 (by decide) (fun hc => absurd hc (by decide)) (fun _ => ?_)
  refine lv_aload_n hx hb dX1_start_21 rfl (lv_at hl 1 rfl) ?_
  refine va_get (D := G.1) (ci := 1) (v := .ref a1) (C := "Sourcewright$Builder") (T := TX1) (N := 16) hx hb hts inX1 hown hK hP 0 rfl rfl 11 (by decide) (hts _ wq_352) (fun _ h9 => h9) rfl dX1_start_22 ?_
  refine lv_iload_n hx hb dX1_start_25 rfl (lv_at hl 0 rfl) ?_
  refine lv_sipush (v := 255) hx hb dX1_start_26 (by decide) ?_
  refine va_iast hx hb hK hP hD hS 1 0 rfl rfl (pz_vi rfl) dX1_start_29 (fun H locs hP hD hS => ?_)
  have hP : va_P G.1 pz_cl [(a0, .inr (1, [.ref a4, .ref a5, .ref a6, .ref a7, .ref a2, .ref a8, .ref a9, .ref a10, .ref a11, .ref a12, .ref a13, .ref a1, .int 0, .int 0, .int 0, .int 0])), (a1, .inl (G.2 0, 120, .inl (upd (upd (upd (upd (upd (upd (upd (g3) 27 255) 28 255) 29 255) 30 255) 31 255) 32 255) 33 255))), (a2, .inr (2, [.ref a3, .ref a14, .int 0])), (a3, .inl (G.2 0, 240, .inl (f1)))] H := hP
  have hD : va_D A [(a0, .inr (1, [.ref a4, .ref a5, .ref a6, .ref a7, .ref a2, .ref a8, .ref a9, .ref a10, .ref a11, .ref a12, .ref a13, .ref a1, .int 0, .int 0, .int 0, .int 0])), (a1, .inl (G.2 0, 120, .inl (upd (upd (upd (upd (upd (upd (upd (g3) 27 255) 28 255) 29 255) 30 255) 31 255) 32 255) 33 255))), (a2, .inr (2, [.ref a3, .ref a14, .int 0])), (a3, .inl (G.2 0, 240, .inl (f1)))] := hD
  refine lv_iinc (v := 34) (lv' := [(2, .int 34), (0, .ref a0), (1, .int 0)]) hx hb dX1_start_30 hl (k := 0) rfl (by decide) (by decide) rfl (fun ls hl => ?_)
  refine lv_goto (tgt := 12) hx hb dX1_start_33 (by decide) ?_
  refine lv_iload_n hx hb dX1_start_12 rfl (lv_at hl 0 rfl) ?_
  refine lv_aload_n hx hb dX1_start_13 rfl (lv_at hl 1 rfl) ?_
  refine va_get (D := G.1) (ci := 1) (v := .ref a1) (C := "Sourcewright$Builder") (T := TX1) (N := 16) hx hb hts inX1 hown hK hP 0 rfl rfl 11 (by decide) (hts _ wq_352) (fun _ h9 => h9) rfl dX1_start_14 ?_
  refine va_alen (v := 120) hx hb hK hP 1 0 rfl rfl (by show Int32.ofNat 120 = 120; decide) dX1_start_17 ?_
  refine lv_icmp_ge (tgt := 36) hx hb dX1_start_18 (by decide) (fun hc => absurd hc (by decide)) (fun _ => ?_)
  refine lv_aload_n hx hb dX1_start_21 rfl (lv_at hl 1 rfl) ?_
  refine va_get (D := G.1) (ci := 1) (v := .ref a1) (C := "Sourcewright$Builder") (T := TX1) (N := 16) hx hb hts inX1 hown hK hP 0 rfl rfl 11 (by decide) (hts _ wq_352) (fun _ h9 => h9) rfl dX1_start_22 ?_
  refine lv_iload_n hx hb dX1_start_25 rfl (lv_at hl 0 rfl) ?_
  refine lv_sipush (v := 255) hx hb dX1_start_26 (by decide) ?_
  refine va_iast hx hb hK hP hD hS 1 0 rfl rfl (pz_vi rfl) dX1_start_29 (fun H locs hP hD hS => ?_)
  have hP : va_P G.1 pz_cl [(a0, .inr (1, [.ref a4, .ref a5, .ref a6, .ref a7, .ref a2, .ref a8, .ref a9, .ref a10, .ref a11, .ref a12, .ref a13, .ref a1, .int 0, .int 0, .int 0, .int 0])), (a1, .inl (G.2 0, 120, .inl (upd (upd (upd (upd (upd (upd (upd (upd (g3) 27 255) 28 255) 29 255) 30 255) 31 255) 32 255) 33 255) 34 255))), (a2, .inr (2, [.ref a3, .ref a14, .int 0])), (a3, .inl (G.2 0, 240, .inl (f1)))] H := hP
  have hD : va_D A [(a0, .inr (1, [.ref a4, .ref a5, .ref a6, .ref a7, .ref a2, .ref a8, .ref a9, .ref a10, .ref a11, .ref a12, .ref a13, .ref a1, .int 0, .int 0, .int 0, .int 0])), (a1, .inl (G.2 0, 120, .inl (upd (upd (upd (upd (upd (upd (upd (upd (g3) 27 255) 28 255) 29 255) 30 255) 31 255) 32 255) 33 255) 34 255))), (a2, .inr (2, [.ref a3, .ref a14, .int 0])), (a3, .inl (G.2 0, 240, .inl (f1)))] := hD
  refine lv_iinc (v := 35) (lv' := [(2, .int 35), (0, .ref a0), (1, .int 0)]) hx hb dX1_start_30 hl (k := 0) rfl (by decide) (by decide) rfl (fun ls hl => ?_)
  refine lv_goto (tgt := 12) hx hb dX1_start_33 (by decide) ?_
  refine lv_iload_n hx hb dX1_start_12 rfl (lv_at hl 0 rfl) ?_
  refine lv_aload_n hx hb dX1_start_13 rfl (lv_at hl 1 rfl) ?_
  refine va_get (D := G.1) (ci := 1) (v := .ref a1) (C := "Sourcewright$Builder") (T := TX1) (N := 16) hx hb hts inX1 hown hK hP 0 rfl rfl 11 (by decide) (hts _ wq_352) (fun _ h9 => h9) rfl dX1_start_14 ?_
  refine va_alen (v := 120) hx hb hK hP 1 0 rfl rfl (by show Int32.ofNat 120 = 120; decide) dX1_start_17 ?_
  refine lv_icmp_ge (tgt := 36) hx hb dX1_start_18 (by decide) (fun hc => absurd hc (by decide)) (fun _ => ?_)
  refine lv_aload_n hx hb dX1_start_21 rfl (lv_at hl 1 rfl) ?_
  refine va_get (D := G.1) (ci := 1) (v := .ref a1) (C := "Sourcewright$Builder") (T := TX1) (N := 16) hx hb hts inX1 hown hK hP 0 rfl rfl 11 (by decide) (hts _ wq_352) (fun _ h9 => h9) rfl dX1_start_22 ?_
  refine lv_iload_n hx hb dX1_start_25 rfl (lv_at hl 0 rfl) ?_
  refine lv_sipush (v := 255) hx hb dX1_start_26 (by decide) ?_
  refine va_iast hx hb hK hP hD hS 1 0 rfl rfl (pz_vi rfl) dX1_start_29 (fun H locs hP hD hS => ?_)
  obtain ⟨g4, hg4⟩ : ∃ z, z = upd (upd (upd (upd (upd (upd (upd (upd (upd (g3) 27 255) 28 255) 29 255) 30 255) 31 255) 32 255) 33 255) 34 255) 35 255 := ⟨_, rfl⟩
  have hP : va_P G.1 pz_cl [(a0, .inr (1, [.ref a4, .ref a5, .ref a6, .ref a7, .ref a2, .ref a8, .ref a9, .ref a10, .ref a11, .ref a12, .ref a13, .ref a1, .int 0, .int 0, .int 0, .int 0])), (a1, .inl (G.2 0, 120, .inl (g4))), (a2, .inr (2, [.ref a3, .ref a14, .int 0])), (a3, .inl (G.2 0, 240, .inl (f1)))] H := by rw [hg4]; exact hP
  have hD : va_D A [(a0, .inr (1, [.ref a4, .ref a5, .ref a6, .ref a7, .ref a2, .ref a8, .ref a9, .ref a10, .ref a11, .ref a12, .ref a13, .ref a1, .int 0, .int 0, .int 0, .int 0])), (a1, .inl (G.2 0, 120, .inl (g4))), (a2, .inr (2, [.ref a3, .ref a14, .int 0])), (a3, .inl (G.2 0, 240, .inl (f1)))] := by rw [hg4]; exact hD
  refine lv_iinc (v := 36) (lv' := [(2, .int 36), (0, .ref a0), (1, .int 0)]) hx hb dX1_start_30 hl (k := 0) rfl (by decide) (by decide) rfl (fun ls hl => ?_)
  refine lv_goto (tgt := 12) hx hb dX1_start_33 (by decide) ?_
  refine lv_iload_n hx hb dX1_start_12 rfl (lv_at hl 0 rfl) ?_
  refine lv_aload_n hx hb dX1_start_13 rfl (lv_at hl 1 rfl) ?_
  refine va_get (D := G.1) (ci := 1) (v := .ref a1) (C := "Sourcewright$Builder") (T := TX1) (N := 16) hx hb hts inX1 hown hK hP 0 rfl rfl 11 (by decide) (hts _ wq_352) (fun _ h9 => h9) rfl dX1_start_14 ?_
  refine va_alen (v := 120) hx hb hK hP 1 0 rfl rfl (by show Int32.ofNat 120 = 120; decide) dX1_start_17 ?_
  refine lv_icmp_ge (tgt := 36) hx hb dX1_start_18 (by decide) (fun hc => absurd hc (by decide)) (fun _ => ?_)
  refine lv_aload_n hx hb dX1_start_21 rfl (lv_at hl 1 rfl) ?_
  refine va_get (D := G.1) (ci := 1) (v := .ref a1) (C := "Sourcewright$Builder") (T := TX1) (N := 16) hx hb hts inX1 hown hK hP 0 rfl rfl 11 (by decide) (hts _ wq_352) (fun _ h9 => h9) rfl dX1_start_22 ?_
  refine lv_iload_n hx hb dX1_start_25 rfl (lv_at hl 0 rfl) ?_
  refine lv_sipush (v := 255) hx hb dX1_start_26 (by decide) ?_
  refine va_iast hx hb hK hP hD hS 1 0 rfl rfl (pz_vi rfl) dX1_start_29 (fun H locs hP hD hS => ?_)
  have hP : va_P G.1 pz_cl [(a0, .inr (1, [.ref a4, .ref a5, .ref a6, .ref a7, .ref a2, .ref a8, .ref a9, .ref a10, .ref a11, .ref a12, .ref a13, .ref a1, .int 0, .int 0, .int 0, .int 0])), (a1, .inl (G.2 0, 120, .inl (upd (g4) 36 255))), (a2, .inr (2, [.ref a3, .ref a14, .int 0])), (a3, .inl (G.2 0, 240, .inl (f1)))] H := hP
  have hD : va_D A [(a0, .inr (1, [.ref a4, .ref a5, .ref a6, .ref a7, .ref a2, .ref a8, .ref a9, .ref a10, .ref a11, .ref a12, .ref a13, .ref a1, .int 0, .int 0, .int 0, .int 0])), (a1, .inl (G.2 0, 120, .inl (upd (g4) 36 255))), (a2, .inr (2, [.ref a3, .ref a14, .int 0])), (a3, .inl (G.2 0, 240, .inl (f1)))] := hD
  refine lv_iinc (v := 37) (lv' := [(2, .int 37), (0, .ref a0), (1, .int 0)]) hx hb dX1_start_30 hl (k := 0) rfl (by decide) (by decide) rfl (fun ls hl => ?_)
  refine lv_goto (tgt := 12) hx hb dX1_start_33 (by decide) ?_
  refine lv_iload_n hx hb dX1_start_12 rfl (lv_at hl 0 rfl) ?_
  refine lv_aload_n hx hb dX1_start_13 rfl (lv_at hl 1 rfl) ?_
  refine va_get (D := G.1) (ci := 1) (v := .ref a1) (C := "Sourcewright$Builder") (T := TX1) (N := 16) hx hb hts inX1 hown hK hP 0 rfl rfl 11 (by decide) (hts _ wq_352) (fun _ h9 => h9) rfl dX1_start_14 ?_
  refine va_alen (v := 120) hx hb hK hP 1 0 rfl rfl (by show Int32.ofNat 120 = 120; decide) dX1_start_17 ?_
  refine lv_icmp_ge (tgt := 36) hx hb dX1_start_18 (by decide) (fun hc => absurd hc (by decide)) (fun _ => ?_)
  refine lv_aload_n hx hb dX1_start_21 rfl (lv_at hl 1 rfl) ?_
  refine va_get (D := G.1) (ci := 1) (v := .ref a1) (C := "Sourcewright$Builder") (T := TX1) (N := 16) hx hb hts inX1 hown hK hP 0 rfl rfl 11 (by decide) (hts _ wq_352) (fun _ h9 => h9) rfl dX1_start_22 ?_
  refine lv_iload_n hx hb dX1_start_25 rfl (lv_at hl 0 rfl) ?_
  refine lv_sipush (v := 255) hx hb dX1_start_26 (by decide) ?_
  refine va_iast hx hb hK hP hD hS 1 0 rfl rfl (pz_vi rfl) dX1_start_29 (fun H locs hP hD hS => ?_)
  have hP : va_P G.1 pz_cl [(a0, .inr (1, [.ref a4, .ref a5, .ref a6, .ref a7, .ref a2, .ref a8, .ref a9, .ref a10, .ref a11, .ref a12, .ref a13, .ref a1, .int 0, .int 0, .int 0, .int 0])), (a1, .inl (G.2 0, 120, .inl (upd (upd (g4) 36 255) 37 255))), (a2, .inr (2, [.ref a3, .ref a14, .int 0])), (a3, .inl (G.2 0, 240, .inl (f1)))] H := hP
  have hD : va_D A [(a0, .inr (1, [.ref a4, .ref a5, .ref a6, .ref a7, .ref a2, .ref a8, .ref a9, .ref a10, .ref a11, .ref a12, .ref a13, .ref a1, .int 0, .int 0, .int 0, .int 0])), (a1, .inl (G.2 0, 120, .inl (upd (upd (g4) 36 255) 37 255))), (a2, .inr (2, [.ref a3, .ref a14, .int 0])), (a3, .inl (G.2 0, 240, .inl (f1)))] := hD
  refine lv_iinc (v := 38) (lv' := [(2, .int 38), (0, .ref a0), (1, .int 0)]) hx hb dX1_start_30 hl (k := 0) rfl (by decide) (by decide) rfl (fun ls hl => ?_)
  refine lv_goto (tgt := 12) hx hb dX1_start_33 (by decide) ?_
  refine lv_iload_n hx hb dX1_start_12 rfl (lv_at hl 0 rfl) ?_
  refine lv_aload_n hx hb dX1_start_13 rfl (lv_at hl 1 rfl) ?_
  refine va_get (D := G.1) (ci := 1) (v := .ref a1) (C := "Sourcewright$Builder") (T := TX1) (N := 16) hx hb hts inX1 hown hK hP 0 rfl rfl 11 (by decide) (hts _ wq_352) (fun _ h9 => h9) rfl dX1_start_14 ?_
  refine va_alen (v := 120) hx hb hK hP 1 0 rfl rfl (by show Int32.ofNat 120 = 120; decide) dX1_start_17 ?_
  refine lv_icmp_ge (tgt := 36) hx hb dX1_start_18 (by decide) (fun hc => absurd hc (by decide)) (fun _ => ?_)
  refine lv_aload_n hx hb dX1_start_21 rfl (lv_at hl 1 rfl) ?_
  refine va_get (D := G.1) (ci := 1) (v := .ref a1) (C := "Sourcewright$Builder") (T := TX1) (N := 16) hx hb hts inX1 hown hK hP 0 rfl rfl 11 (by decide) (hts _ wq_352) (fun _ h9 => h9) rfl dX1_start_22 ?_
  refine lv_iload_n hx hb dX1_start_25 rfl (lv_at hl 0 rfl) ?_
  refine lv_sipush (v := 255) hx hb dX1_start_26 (by decide) ?_
  refine va_iast hx hb hK hP hD hS 1 0 rfl rfl (pz_vi rfl) dX1_start_29 (fun H locs hP hD hS => ?_)
  have hP : va_P G.1 pz_cl [(a0, .inr (1, [.ref a4, .ref a5, .ref a6, .ref a7, .ref a2, .ref a8, .ref a9, .ref a10, .ref a11, .ref a12, .ref a13, .ref a1, .int 0, .int 0, .int 0, .int 0])), (a1, .inl (G.2 0, 120, .inl (upd (upd (upd (g4) 36 255) 37 255) 38 255))), (a2, .inr (2, [.ref a3, .ref a14, .int 0])), (a3, .inl (G.2 0, 240, .inl (f1)))] H := hP
  have hD : va_D A [(a0, .inr (1, [.ref a4, .ref a5, .ref a6, .ref a7, .ref a2, .ref a8, .ref a9, .ref a10, .ref a11, .ref a12, .ref a13, .ref a1, .int 0, .int 0, .int 0, .int 0])), (a1, .inl (G.2 0, 120, .inl (upd (upd (upd (g4) 36 255) 37 255) 38 255))), (a2, .inr (2, [.ref a3, .ref a14, .int 0])), (a3, .inl (G.2 0, 240, .inl (f1)))] := hD
  refine lv_iinc (v := 39) (lv' := [(2, .int 39), (0, .ref a0), (1, .int 0)]) hx hb dX1_start_30 hl (k := 0) rfl (by decide) (by decide) rfl (fun ls hl => ?_)
  refine lv_goto (tgt := 12) hx hb dX1_start_33 (by decide) ?_
  refine lv_iload_n hx hb dX1_start_12 rfl (lv_at hl 0 rfl) ?_
  refine lv_aload_n hx hb dX1_start_13 rfl (lv_at hl 1 rfl) ?_
  refine va_get (D := G.1) (ci := 1) (v := .ref a1) (C := "Sourcewright$Builder") (T := TX1) (N := 16) hx hb hts inX1 hown hK hP 0 rfl rfl 11 (by decide) (hts _ wq_352) (fun _ h9 => h9) rfl dX1_start_14 ?_
  refine va_alen (v := 120) hx hb hK hP 1 0 rfl rfl (by show Int32.ofNat 120 = 120; decide) dX1_start_17 ?_
  refine lv_icmp_ge (tgt := 36) hx hb dX1_start_18 (by decide) (fun hc => absurd hc (by decide)) (fun _ => ?_)
  refine lv_aload_n hx hb dX1_start_21 rfl (lv_at hl 1 rfl) ?_
  refine va_get (D := G.1) (ci := 1) (v := .ref a1) (C := "Sourcewright$Builder") (T := TX1) (N := 16) hx hb hts inX1 hown hK hP 0 rfl rfl 11 (by decide) (hts _ wq_352) (fun _ h9 => h9) rfl dX1_start_22 ?_
  refine lv_iload_n hx hb dX1_start_25 rfl (lv_at hl 0 rfl) ?_
  refine lv_sipush (v := 255) hx hb dX1_start_26 (by decide) ?_
  refine va_iast hx hb hK hP hD hS 1 0 rfl rfl (pz_vi rfl) dX1_start_29 (fun H locs hP hD hS => ?_)
  have hP : va_P G.1 pz_cl [(a0, .inr (1, [.ref a4, .ref a5, .ref a6, .ref a7, .ref a2, .ref a8, .ref a9, .ref a10, .ref a11, .ref a12, .ref a13, .ref a1, .int 0, .int 0, .int 0, .int 0])), (a1, .inl (G.2 0, 120, .inl (upd (upd (upd (upd (g4) 36 255) 37 255) 38 255) 39 255))), (a2, .inr (2, [.ref a3, .ref a14, .int 0])), (a3, .inl (G.2 0, 240, .inl (f1)))] H := hP
  have hD : va_D A [(a0, .inr (1, [.ref a4, .ref a5, .ref a6, .ref a7, .ref a2, .ref a8, .ref a9, .ref a10, .ref a11, .ref a12, .ref a13, .ref a1, .int 0, .int 0, .int 0, .int 0])), (a1, .inl (G.2 0, 120, .inl (upd (upd (upd (upd (g4) 36 255) 37 255) 38 255) 39 255))), (a2, .inr (2, [.ref a3, .ref a14, .int 0])), (a3, .inl (G.2 0, 240, .inl (f1)))] := hD
  refine lv_iinc (v := 40) (lv' := [(2, .int 40), (0, .ref a0), (1, .int 0)]) hx hb dX1_start_30 hl (k := 0) rfl (by decide) (by decide) rfl (fun ls hl => ?_)
  refine lv_goto (tgt := 12) hx hb dX1_start_33 (by decide) ?_
  refine lv_iload_n hx hb dX1_start_12 rfl (lv_at hl 0 rfl) ?_
  refine lv_aload_n hx hb dX1_start_13 rfl (lv_at hl 1 rfl) ?_
  refine va_get (D := G.1) (ci := 1) (v := .ref a1) (C := "Sourcewright$Builder") (T := TX1) (N := 16) hx hb hts inX1 hown hK hP 0 rfl rfl 11 (by decide) (hts _ wq_352) (fun _ h9 => h9) rfl dX1_start_14 ?_
  refine va_alen (v := 120) hx hb hK hP 1 0 rfl rfl (by show Int32.ofNat 120 = 120; decide) dX1_start_17 ?_
  refine lv_icmp_ge (tgt := 36) hx hb dX1_start_18 (by decide) (fun hc => absurd hc (by decide)) (fun _ => ?_)
  refine lv_aload_n hx hb dX1_start_21 rfl (lv_at hl 1 rfl) ?_
  refine va_get (D := G.1) (ci := 1) (v := .ref a1) (C := "Sourcewright$Builder") (T := TX1) (N := 16) hx hb hts inX1 hown hK hP 0 rfl rfl 11 (by decide) (hts _ wq_352) (fun _ h9 => h9) rfl dX1_start_22 ?_
  refine lv_iload_n hx hb dX1_start_25 rfl (lv_at hl 0 rfl) ?_
  refine lv_sipush (v := 255) hx hb dX1_start_26 (by decide) ?_
  refine va_iast hx hb hK hP hD hS 1 0 rfl rfl (pz_vi rfl) dX1_start_29 (fun H locs hP hD hS => ?_)
  have hP : va_P G.1 pz_cl [(a0, .inr (1, [.ref a4, .ref a5, .ref a6, .ref a7, .ref a2, .ref a8, .ref a9, .ref a10, .ref a11, .ref a12, .ref a13, .ref a1, .int 0, .int 0, .int 0, .int 0])), (a1, .inl (G.2 0, 120, .inl (upd (upd (upd (upd (upd (g4) 36 255) 37 255) 38 255) 39 255) 40 255))), (a2, .inr (2, [.ref a3, .ref a14, .int 0])), (a3, .inl (G.2 0, 240, .inl (f1)))] H := hP
  have hD : va_D A [(a0, .inr (1, [.ref a4, .ref a5, .ref a6, .ref a7, .ref a2, .ref a8, .ref a9, .ref a10, .ref a11, .ref a12, .ref a13, .ref a1, .int 0, .int 0, .int 0, .int 0])), (a1, .inl (G.2 0, 120, .inl (upd (upd (upd (upd (upd (g4) 36 255) 37 255) 38 255) 39 255) 40 255))), (a2, .inr (2, [.ref a3, .ref a14, .int 0])), (a3, .inl (G.2 0, 240, .inl (f1)))] := hD
  refine lv_iinc (v := 41) (lv' := [(2, .int 41), (0, .ref a0), (1, .int 0)]) hx hb dX1_start_30 hl (k := 0) rfl (by decide) (by decide) rfl (fun ls hl => ?_)
  refine lv_goto (tgt := 12) hx hb dX1_start_33 (by decide) ?_
  refine lv_iload_n hx hb dX1_start_12 rfl (lv_at hl 0 rfl) ?_
  refine lv_aload_n hx hb dX1_start_13 rfl (lv_at hl 1 rfl) ?_
  refine va_get (D := G.1) (ci := 1) (v := .ref a1) (C := "Sourcewright$Builder") (T := TX1) (N := 16) hx hb hts inX1 hown hK hP 0 rfl rfl 11 (by decide) (hts _ wq_352) (fun _ h9 => h9) rfl dX1_start_14 ?_
  refine va_alen (v := 120) hx hb hK hP 1 0 rfl rfl (by show Int32.ofNat 120 = 120; decide) dX1_start_17 ?_
  refine lv_icmp_ge (tgt := 36) hx hb dX1_start_18 (by decide) (fun hc => absurd hc (by decide)) (fun _ => ?_)
  refine lv_aload_n hx hb dX1_start_21 rfl (lv_at hl 1 rfl) ?_
  refine va_get (D := G.1) (ci := 1) (v := .ref a1) (C := "Sourcewright$Builder") (T := TX1) (N := 16) hx hb hts inX1 hown hK hP 0 rfl rfl 11 (by decide) (hts _ wq_352) (fun _ h9 => h9) rfl dX1_start_22 ?_
  refine lv_iload_n hx hb dX1_start_25 rfl (lv_at hl 0 rfl) ?_
  refine lv_sipush (v := 255) hx hb dX1_start_26 (by decide) ?_
  refine va_iast hx hb hK hP hD hS 1 0 rfl rfl (pz_vi rfl) dX1_start_29 (fun H locs hP hD hS => ?_)
  have hP : va_P G.1 pz_cl [(a0, .inr (1, [.ref a4, .ref a5, .ref a6, .ref a7, .ref a2, .ref a8, .ref a9, .ref a10, .ref a11, .ref a12, .ref a13, .ref a1, .int 0, .int 0, .int 0, .int 0])), (a1, .inl (G.2 0, 120, .inl (upd (upd (upd (upd (upd (upd (g4) 36 255) 37 255) 38 255) 39 255) 40 255) 41 255))), (a2, .inr (2, [.ref a3, .ref a14, .int 0])), (a3, .inl (G.2 0, 240, .inl (f1)))] H := hP
  have hD : va_D A [(a0, .inr (1, [.ref a4, .ref a5, .ref a6, .ref a7, .ref a2, .ref a8, .ref a9, .ref a10, .ref a11, .ref a12, .ref a13, .ref a1, .int 0, .int 0, .int 0, .int 0])), (a1, .inl (G.2 0, 120, .inl (upd (upd (upd (upd (upd (upd (g4) 36 255) 37 255) 38 255) 39 255) 40 255) 41 255))), (a2, .inr (2, [.ref a3, .ref a14, .int 0])), (a3, .inl (G.2 0, 240, .inl (f1)))] := hD
  refine lv_iinc (v := 42) (lv' := [(2, .int 42), (0, .ref a0), (1, .int 0)]) hx hb dX1_start_30 hl (k := 0) rfl (by decide) (by decide) rfl (fun ls hl => ?_)
  refine lv_goto (tgt := 12) hx hb dX1_start_33 (by decide) ?_
  refine lv_iload_n hx hb dX1_start_12 rfl (lv_at hl 0 rfl) ?_
  refine lv_aload_n hx hb dX1_start_13 rfl (lv_at hl 1 rfl) ?_
  refine va_get (D := G.1) (ci := 1) (v := .ref a1) (C := "Sourcewright$Builder") (T := TX1) (N := 16) hx hb hts inX1 hown hK hP 0 rfl rfl 11 (by decide) (hts _ wq_352) (fun _ h9 => h9) rfl dX1_start_14 ?_
  refine va_alen (v := 120) hx hb hK hP 1 0 rfl rfl (by show Int32.ofNat 120 = 120; decide) dX1_start_17 ?_
  refine lv_icmp_ge (tgt := 36) hx hb dX1_start_18 (by decide) (fun hc => absurd hc (by decide)) (fun _ => ?_)
  refine lv_aload_n hx hb dX1_start_21 rfl (lv_at hl 1 rfl) ?_
  refine va_get (D := G.1) (ci := 1) (v := .ref a1) (C := "Sourcewright$Builder") (T := TX1) (N := 16) hx hb hts inX1 hown hK hP 0 rfl rfl 11 (by decide) (hts _ wq_352) (fun _ h9 => h9) rfl dX1_start_22 ?_
  refine lv_iload_n hx hb dX1_start_25 rfl (lv_at hl 0 rfl) ?_
  refine lv_sipush (v := 255) hx hb dX1_start_26 (by decide) ?_
  refine va_iast hx hb hK hP hD hS 1 0 rfl rfl (pz_vi rfl) dX1_start_29 (fun H locs hP hD hS => ?_)
  have hP : va_P G.1 pz_cl [(a0, .inr (1, [.ref a4, .ref a5, .ref a6, .ref a7, .ref a2, .ref a8, .ref a9, .ref a10, .ref a11, .ref a12, .ref a13, .ref a1, .int 0, .int 0, .int 0, .int 0])), (a1, .inl (G.2 0, 120, .inl (upd (upd (upd (upd (upd (upd (upd (g4) 36 255) 37 255) 38 255) 39 255) 40 255) 41 255) 42 255))), (a2, .inr (2, [.ref a3, .ref a14, .int 0])), (a3, .inl (G.2 0, 240, .inl (f1)))] H := hP
  have hD : va_D A [(a0, .inr (1, [.ref a4, .ref a5, .ref a6, .ref a7, .ref a2, .ref a8, .ref a9, .ref a10, .ref a11, .ref a12, .ref a13, .ref a1, .int 0, .int 0, .int 0, .int 0])), (a1, .inl (G.2 0, 120, .inl (upd (upd (upd (upd (upd (upd (upd (g4) 36 255) 37 255) 38 255) 39 255) 40 255) 41 255) 42 255))), (a2, .inr (2, [.ref a3, .ref a14, .int 0])), (a3, .inl (G.2 0, 240, .inl (f1)))] := hD
  refine lv_iinc (v := 43) (lv' := [(2, .int 43), (0, .ref a0), (1, .int 0)]) hx hb dX1_start_30 hl (k := 0) rfl (by decide) (by decide) rfl (fun ls hl => ?_)
  refine lv_goto (tgt := 12) hx hb dX1_start_33 (by decide) ?_
  refine lv_iload_n hx hb dX1_start_12 rfl (lv_at hl 0 rfl) ?_
  refine lv_aload_n hx hb dX1_start_13 rfl (lv_at hl 1 rfl) ?_
  refine va_get (D := G.1) (ci := 1) (v := .ref a1) (C := "Sourcewright$Builder") (T := TX1) (N := 16) hx hb hts inX1 hown hK hP 0 rfl rfl 11 (by decide) (hts _ wq_352) (fun _ h9 => h9) rfl dX1_start_14 ?_
  refine va_alen (v := 120) hx hb hK hP 1 0 rfl rfl (by show Int32.ofNat 120 = 120; decide) dX1_start_17 ?_
  refine lv_icmp_ge (tgt := 36) hx hb dX1_start_18 (by decide) (fun hc => absurd hc (by decide)) (fun _ => ?_)
  refine lv_aload_n hx hb dX1_start_21 rfl (lv_at hl 1 rfl) ?_
  refine va_get (D := G.1) (ci := 1) (v := .ref a1) (C := "Sourcewright$Builder") (T := TX1) (N := 16) hx hb hts inX1 hown hK hP 0 rfl rfl 11 (by decide) (hts _ wq_352) (fun _ h9 => h9) rfl dX1_start_22 ?_
  refine lv_iload_n hx hb dX1_start_25 rfl (lv_at hl 0 rfl) ?_
  refine lv_sipush (v := 255) hx hb dX1_start_26 (by decide) ?_
  refine va_iast hx hb hK hP hD hS 1 0 rfl rfl (pz_vi rfl) dX1_start_29 (fun H locs hP hD hS => ?_)
  have hP : va_P G.1 pz_cl [(a0, .inr (1, [.ref a4, .ref a5, .ref a6, .ref a7, .ref a2, .ref a8, .ref a9, .ref a10, .ref a11, .ref a12, .ref a13, .ref a1, .int 0, .int 0, .int 0, .int 0])), (a1, .inl (G.2 0, 120, .inl (upd (upd (upd (upd (upd (upd (upd (upd (g4) 36 255) 37 255) 38 255) 39 255) 40 255) 41 255) 42 255) 43 255))), (a2, .inr (2, [.ref a3, .ref a14, .int 0])), (a3, .inl (G.2 0, 240, .inl (f1)))] H := hP
  have hD : va_D A [(a0, .inr (1, [.ref a4, .ref a5, .ref a6, .ref a7, .ref a2, .ref a8, .ref a9, .ref a10, .ref a11, .ref a12, .ref a13, .ref a1, .int 0, .int 0, .int 0, .int 0])), (a1, .inl (G.2 0, 120, .inl (upd (upd (upd (upd (upd (upd (upd (upd (g4) 36 255) 37 255) 38 255) 39 255) 40 255) 41 255) 42 255) 43 255))), (a2, .inr (2, [.ref a3, .ref a14, .int 0])), (a3, .inl (G.2 0, 240, .inl (f1)))] := hD
  refine lv_iinc (v := 44) (lv' := [(2, .int 44), (0, .ref a0), (1, .int 0)]) hx hb dX1_start_30 hl (k := 0) rfl (by decide) (by decide) rfl (fun ls hl => ?_)
  refine lv_goto (tgt := 12) hx hb dX1_start_33 (by decide) ?_
  refine lv_iload_n hx hb dX1_start_12 rfl (lv_at hl 0 rfl) ?_
  refine lv_aload_n hx hb dX1_start_13 rfl (lv_at hl 1 rfl) ?_
  refine va_get (D := G.1) (ci := 1) (v := .ref a1) (C := "Sourcewright$Builder") (T := TX1) (N := 16) hx hb hts inX1 hown hK hP 0 rfl rfl 11 (by decide) (hts _ wq_352) (fun _ h9 => h9) rfl dX1_start_14 ?_
  refine va_alen (v := 120) hx hb hK hP 1 0 rfl rfl (by show Int32.ofNat 120 = 120; decide) dX1_start_17 ?_
  refine lv_icmp_ge (tgt := 36) hx hb dX1_start_18 (by decide) (fun hc => absurd hc (by decide)) (fun _ => ?_)
  refine lv_aload_n hx hb dX1_start_21 rfl (lv_at hl 1 rfl) ?_
  refine va_get (D := G.1) (ci := 1) (v := .ref a1) (C := "Sourcewright$Builder") (T := TX1) (N := 16) hx hb hts inX1 hown hK hP 0 rfl rfl 11 (by decide) (hts _ wq_352) (fun _ h9 => h9) rfl dX1_start_22 ?_
  refine lv_iload_n hx hb dX1_start_25 rfl (lv_at hl 0 rfl) ?_
  refine lv_sipush (v := 255) hx hb dX1_start_26 (by decide) ?_
  refine va_iast hx hb hK hP hD hS 1 0 rfl rfl (pz_vi rfl) dX1_start_29 (fun H locs hP hD hS => ?_)
  obtain ⟨g5, hg5⟩ : ∃ z, z = upd (upd (upd (upd (upd (upd (upd (upd (upd (g4) 36 255) 37 255) 38 255) 39 255) 40 255) 41 255) 42 255) 43 255) 44 255 := ⟨_, rfl⟩
  have hP : va_P G.1 pz_cl [(a0, .inr (1, [.ref a4, .ref a5, .ref a6, .ref a7, .ref a2, .ref a8, .ref a9, .ref a10, .ref a11, .ref a12, .ref a13, .ref a1, .int 0, .int 0, .int 0, .int 0])), (a1, .inl (G.2 0, 120, .inl (g5))), (a2, .inr (2, [.ref a3, .ref a14, .int 0])), (a3, .inl (G.2 0, 240, .inl (f1)))] H := by rw [hg5]; exact hP
  have hD : va_D A [(a0, .inr (1, [.ref a4, .ref a5, .ref a6, .ref a7, .ref a2, .ref a8, .ref a9, .ref a10, .ref a11, .ref a12, .ref a13, .ref a1, .int 0, .int 0, .int 0, .int 0])), (a1, .inl (G.2 0, 120, .inl (g5))), (a2, .inr (2, [.ref a3, .ref a14, .int 0])), (a3, .inl (G.2 0, 240, .inl (f1)))] := by rw [hg5]; exact hD
  refine lv_iinc (v := 45) (lv' := [(2, .int 45), (0, .ref a0), (1, .int 0)]) hx hb dX1_start_30 hl (k := 0) rfl (by decide) (by decide) rfl (fun ls hl => ?_)
  refine lv_goto (tgt := 12) hx hb dX1_start_33 (by decide) ?_
  refine lv_iload_n hx hb dX1_start_12 rfl (lv_at hl 0 rfl) ?_
  refine lv_aload_n hx hb dX1_start_13 rfl (lv_at hl 1 rfl) ?_
  refine va_get (D := G.1) (ci := 1) (v := .ref a1) (C := "Sourcewright$Builder") (T := TX1) (N := 16) hx hb hts inX1 hown hK hP 0 rfl rfl 11 (by decide) (hts _ wq_352) (fun _ h9 => h9) rfl dX1_start_14 ?_
  refine va_alen (v := 120) hx hb hK hP 1 0 rfl rfl (by show Int32.ofNat 120 = 120; decide) dX1_start_17 ?_
  refine lv_icmp_ge (tgt := 36) hx hb dX1_start_18 (by decide) (fun hc => absurd hc (by decide)) (fun _ => ?_)
  refine lv_aload_n hx hb dX1_start_21 rfl (lv_at hl 1 rfl) ?_
  refine va_get (D := G.1) (ci := 1) (v := .ref a1) (C := "Sourcewright$Builder") (T := TX1) (N := 16) hx hb hts inX1 hown hK hP 0 rfl rfl 11 (by decide) (hts _ wq_352) (fun _ h9 => h9) rfl dX1_start_22 ?_
  refine lv_iload_n hx hb dX1_start_25 rfl (lv_at hl 0 rfl) ?_
  refine lv_sipush (v := 255) hx hb dX1_start_26 (by decide) ?_
  refine va_iast hx hb hK hP hD hS 1 0 rfl rfl (pz_vi rfl) dX1_start_29 (fun H locs hP hD hS => ?_)
  have hP : va_P G.1 pz_cl [(a0, .inr (1, [.ref a4, .ref a5, .ref a6, .ref a7, .ref a2, .ref a8, .ref a9, .ref a10, .ref a11, .ref a12, .ref a13, .ref a1, .int 0, .int 0, .int 0, .int 0])), (a1, .inl (G.2 0, 120, .inl (upd (g5) 45 255))), (a2, .inr (2, [.ref a3, .ref a14, .int 0])), (a3, .inl (G.2 0, 240, .inl (f1)))] H := hP
  have hD : va_D A [(a0, .inr (1, [.ref a4, .ref a5, .ref a6, .ref a7, .ref a2, .ref a8, .ref a9, .ref a10, .ref a11, .ref a12, .ref a13, .ref a1, .int 0, .int 0, .int 0, .int 0])), (a1, .inl (G.2 0, 120, .inl (upd (g5) 45 255))), (a2, .inr (2, [.ref a3, .ref a14, .int 0])), (a3, .inl (G.2 0, 240, .inl (f1)))] := hD
  refine lv_iinc (v := 46) (lv' := [(2, .int 46), (0, .ref a0), (1, .int 0)]) hx hb dX1_start_30 hl (k := 0) rfl (by decide) (by decide) rfl (fun ls hl => ?_)
  refine lv_goto (tgt := 12) hx hb dX1_start_33 (by decide) ?_
  refine lv_iload_n hx hb dX1_start_12 rfl (lv_at hl 0 rfl) ?_
  refine lv_aload_n hx hb dX1_start_13 rfl (lv_at hl 1 rfl) ?_
  refine va_get (D := G.1) (ci := 1) (v := .ref a1) (C := "Sourcewright$Builder") (T := TX1) (N := 16) hx hb hts inX1 hown hK hP 0 rfl rfl 11 (by decide) (hts _ wq_352) (fun _ h9 => h9) rfl dX1_start_14 ?_
  refine va_alen (v := 120) hx hb hK hP 1 0 rfl rfl (by show Int32.ofNat 120 = 120; decide) dX1_start_17 ?_
  refine lv_icmp_ge (tgt := 36) hx hb dX1_start_18 (by decide) (fun hc => absurd hc (by decide)) (fun _ => ?_)
  refine lv_aload_n hx hb dX1_start_21 rfl (lv_at hl 1 rfl) ?_
  refine va_get (D := G.1) (ci := 1) (v := .ref a1) (C := "Sourcewright$Builder") (T := TX1) (N := 16) hx hb hts inX1 hown hK hP 0 rfl rfl 11 (by decide) (hts _ wq_352) (fun _ h9 => h9) rfl dX1_start_22 ?_
  refine lv_iload_n hx hb dX1_start_25 rfl (lv_at hl 0 rfl) ?_
  refine lv_sipush (v := 255) hx hb dX1_start_26 (by decide) ?_
  refine va_iast hx hb hK hP hD hS 1 0 rfl rfl (pz_vi rfl) dX1_start_29 (fun H locs hP hD hS => ?_)
  have hP : va_P G.1 pz_cl [(a0, .inr (1, [.ref a4, .ref a5, .ref a6, .ref a7, .ref a2, .ref a8, .ref a9, .ref a10, .ref a11, .ref a12, .ref a13, .ref a1, .int 0, .int 0, .int 0, .int 0])), (a1, .inl (G.2 0, 120, .inl (upd (upd (g5) 45 255) 46 255))), (a2, .inr (2, [.ref a3, .ref a14, .int 0])), (a3, .inl (G.2 0, 240, .inl (f1)))] H := hP
  have hD : va_D A [(a0, .inr (1, [.ref a4, .ref a5, .ref a6, .ref a7, .ref a2, .ref a8, .ref a9, .ref a10, .ref a11, .ref a12, .ref a13, .ref a1, .int 0, .int 0, .int 0, .int 0])), (a1, .inl (G.2 0, 120, .inl (upd (upd (g5) 45 255) 46 255))), (a2, .inr (2, [.ref a3, .ref a14, .int 0])), (a3, .inl (G.2 0, 240, .inl (f1)))] := hD
  refine lv_iinc (v := 47) (lv' := [(2, .int 47), (0, .ref a0), (1, .int 0)]) hx hb dX1_start_30 hl (k := 0) rfl (by decide) (by decide) rfl (fun ls hl => ?_)
  refine lv_goto (tgt := 12) hx hb dX1_start_33 (by decide) ?_
  refine lv_iload_n hx hb dX1_start_12 rfl (lv_at hl 0 rfl) ?_
  refine lv_aload_n hx hb dX1_start_13 rfl (lv_at hl 1 rfl) ?_
  refine va_get (D := G.1) (ci := 1) (v := .ref a1) (C := "Sourcewright$Builder") (T := TX1) (N := 16) hx hb hts inX1 hown hK hP 0 rfl rfl 11 (by decide) (hts _ wq_352) (fun _ h9 => h9) rfl dX1_start_14 ?_
  refine va_alen (v := 120) hx hb hK hP 1 0 rfl rfl (by show Int32.ofNat 120 = 120; decide) dX1_start_17 ?_
  refine lv_icmp_ge (tgt := 36) hx hb dX1_start_18 (by decide) (fun hc => absurd hc (by decide)) (fun _ => ?_)
  refine lv_aload_n hx hb dX1_start_21 rfl (lv_at hl 1 rfl) ?_
  refine va_get (D := G.1) (ci := 1) (v := .ref a1) (C := "Sourcewright$Builder") (T := TX1) (N := 16) hx hb hts inX1 hown hK hP 0 rfl rfl 11 (by decide) (hts _ wq_352) (fun _ h9 => h9) rfl dX1_start_22 ?_
  refine lv_iload_n hx hb dX1_start_25 rfl (lv_at hl 0 rfl) ?_
  refine lv_sipush (v := 255) hx hb dX1_start_26 (by decide) ?_
  refine va_iast hx hb hK hP hD hS 1 0 rfl rfl (pz_vi rfl) dX1_start_29 (fun H locs hP hD hS => ?_)
  have hP : va_P G.1 pz_cl [(a0, .inr (1, [.ref a4, .ref a5, .ref a6, .ref a7, .ref a2, .ref a8, .ref a9, .ref a10, .ref a11, .ref a12, .ref a13, .ref a1, .int 0, .int 0, .int 0, .int 0])), (a1, .inl (G.2 0, 120, .inl (upd (upd (upd (g5) 45 255) 46 255) 47 255))), (a2, .inr (2, [.ref a3, .ref a14, .int 0])), (a3, .inl (G.2 0, 240, .inl (f1)))] H := hP
  have hD : va_D A [(a0, .inr (1, [.ref a4, .ref a5, .ref a6, .ref a7, .ref a2, .ref a8, .ref a9, .ref a10, .ref a11, .ref a12, .ref a13, .ref a1, .int 0, .int 0, .int 0, .int 0])), (a1, .inl (G.2 0, 120, .inl (upd (upd (upd (g5) 45 255) 46 255) 47 255))), (a2, .inr (2, [.ref a3, .ref a14, .int 0])), (a3, .inl (G.2 0, 240, .inl (f1)))] := hD
  refine lv_iinc (v := 48) (lv' := [(2, .int 48), (0, .ref a0), (1, .int 0)]) hx hb dX1_start_30 hl (k := 0) rfl (by decide) (by decide) rfl (fun ls hl => ?_)
  refine lv_goto (tgt := 12) hx hb dX1_start_33 (by decide) ?_
  refine lv_iload_n hx hb dX1_start_12 rfl (lv_at hl 0 rfl) ?_
  refine lv_aload_n hx hb dX1_start_13 rfl (lv_at hl 1 rfl) ?_
  refine va_get (D := G.1) (ci := 1) (v := .ref a1) (C := "Sourcewright$Builder") (T := TX1) (N := 16) hx hb hts inX1 hown hK hP 0 rfl rfl 11 (by decide) (hts _ wq_352) (fun _ h9 => h9) rfl dX1_start_14 ?_
  refine va_alen (v := 120) hx hb hK hP 1 0 rfl rfl (by show Int32.ofNat 120 = 120; decide) dX1_start_17 ?_
  refine lv_icmp_ge (tgt := 36) hx hb dX1_start_18 (by decide) (fun hc => absurd hc (by decide)) (fun _ => ?_)
  refine lv_aload_n hx hb dX1_start_21 rfl (lv_at hl 1 rfl) ?_
  refine va_get (D := G.1) (ci := 1) (v := .ref a1) (C := "Sourcewright$Builder") (T := TX1) (N := 16) hx hb hts inX1 hown hK hP 0 rfl rfl 11 (by decide) (hts _ wq_352) (fun _ h9 => h9) rfl dX1_start_22 ?_
  refine lv_iload_n hx hb dX1_start_25 rfl (lv_at hl 0 rfl) ?_
  refine lv_sipush (v := 255) hx hb dX1_start_26 (by decide) ?_
  refine va_iast hx hb hK hP hD hS 1 0 rfl rfl (pz_vi rfl) dX1_start_29 (fun H locs hP hD hS => ?_)
  have hP : va_P G.1 pz_cl [(a0, .inr (1, [.ref a4, .ref a5, .ref a6, .ref a7, .ref a2, .ref a8, .ref a9, .ref a10, .ref a11, .ref a12, .ref a13, .ref a1, .int 0, .int 0, .int 0, .int 0])), (a1, .inl (G.2 0, 120, .inl (upd (upd (upd (upd (g5) 45 255) 46 255) 47 255) 48 255))), (a2, .inr (2, [.ref a3, .ref a14, .int 0])), (a3, .inl (G.2 0, 240, .inl (f1)))] H := hP
  have hD : va_D A [(a0, .inr (1, [.ref a4, .ref a5, .ref a6, .ref a7, .ref a2, .ref a8, .ref a9, .ref a10, .ref a11, .ref a12, .ref a13, .ref a1, .int 0, .int 0, .int 0, .int 0])), (a1, .inl (G.2 0, 120, .inl (upd (upd (upd (upd (g5) 45 255) 46 255) 47 255) 48 255))), (a2, .inr (2, [.ref a3, .ref a14, .int 0])), (a3, .inl (G.2 0, 240, .inl (f1)))] := hD
  refine lv_iinc (v := 49) (lv' := [(2, .int 49), (0, .ref a0), (1, .int 0)]) hx hb dX1_start_30 hl (k := 0) rfl (by decide) (by decide) rfl (fun ls hl => ?_)
  refine lv_goto (tgt := 12) hx hb dX1_start_33 (by decide) ?_
  refine lv_iload_n hx hb dX1_start_12 rfl (lv_at hl 0 rfl) ?_
  refine lv_aload_n hx hb dX1_start_13 rfl (lv_at hl 1 rfl) ?_
  refine va_get (D := G.1) (ci := 1) (v := .ref a1) (C := "Sourcewright$Builder") (T := TX1) (N := 16) hx hb hts inX1 hown hK hP 0 rfl rfl 11 (by decide) (hts _ wq_352) (fun _ h9 => h9) rfl dX1_start_14 ?_
  refine va_alen (v := 120) hx hb hK hP 1 0 rfl rfl (by show Int32.ofNat 120 = 120; decide) dX1_start_17 ?_
  refine lv_icmp_ge (tgt := 36) hx hb dX1_start_18 (by decide) (fun hc => absurd hc (by decide)) (fun _ => ?_)
  refine lv_aload_n hx hb dX1_start_21 rfl (lv_at hl 1 rfl) ?_
  refine va_get (D := G.1) (ci := 1) (v := .ref a1) (C := "Sourcewright$Builder") (T := TX1) (N := 16) hx hb hts inX1 hown hK hP 0 rfl rfl 11 (by decide) (hts _ wq_352) (fun _ h9 => h9) rfl dX1_start_22 ?_
  refine lv_iload_n hx hb dX1_start_25 rfl (lv_at hl 0 rfl) ?_
  refine lv_sipush (v := 255) hx hb dX1_start_26 (by decide) ?_
  refine va_iast hx hb hK hP hD hS 1 0 rfl rfl (pz_vi rfl) dX1_start_29 (fun H locs hP hD hS => ?_)
  have hP : va_P G.1 pz_cl [(a0, .inr (1, [.ref a4, .ref a5, .ref a6, .ref a7, .ref a2, .ref a8, .ref a9, .ref a10, .ref a11, .ref a12, .ref a13, .ref a1, .int 0, .int 0, .int 0, .int 0])), (a1, .inl (G.2 0, 120, .inl (upd (upd (upd (upd (upd (g5) 45 255) 46 255) 47 255) 48 255) 49 255))), (a2, .inr (2, [.ref a3, .ref a14, .int 0])), (a3, .inl (G.2 0, 240, .inl (f1)))] H := hP
  have hD : va_D A [(a0, .inr (1, [.ref a4, .ref a5, .ref a6, .ref a7, .ref a2, .ref a8, .ref a9, .ref a10, .ref a11, .ref a12, .ref a13, .ref a1, .int 0, .int 0, .int 0, .int 0])), (a1, .inl (G.2 0, 120, .inl (upd (upd (upd (upd (upd (g5) 45 255) 46 255) 47 255) 48 255) 49 255))), (a2, .inr (2, [.ref a3, .ref a14, .int 0])), (a3, .inl (G.2 0, 240, .inl (f1)))] := hD
  refine lv_iinc (v := 50) (lv' := [(2, .int 50), (0, .ref a0), (1, .int 0)]) hx hb dX1_start_30 hl (k := 0) rfl (by decide) (by decide) rfl (fun ls hl => ?_)
  refine lv_goto (tgt := 12) hx hb dX1_start_33 (by decide) ?_
  refine lv_iload_n hx hb dX1_start_12 rfl (lv_at hl 0 rfl) ?_
  refine lv_aload_n hx hb dX1_start_13 rfl (lv_at hl 1 rfl) ?_
  refine va_get (D := G.1) (ci := 1) (v := .ref a1) (C := "Sourcewright$Builder") (T := TX1) (N := 16) hx hb hts inX1 hown hK hP 0 rfl rfl 11 (by decide) (hts _ wq_352) (fun _ h9 => h9) rfl dX1_start_14 ?_
  refine va_alen (v := 120) hx hb hK hP 1 0 rfl rfl (by show Int32.ofNat 120 = 120; decide) dX1_start_17 ?_
  refine lv_icmp_ge (tgt := 36) hx hb dX1_start_18 (by decide) (fun hc => absurd hc (by decide)) (fun _ => ?_)
  refine lv_aload_n hx hb dX1_start_21 rfl (lv_at hl 1 rfl) ?_
  refine va_get (D := G.1) (ci := 1) (v := .ref a1) (C := "Sourcewright$Builder") (T := TX1) (N := 16) hx hb hts inX1 hown hK hP 0 rfl rfl 11 (by decide) (hts _ wq_352) (fun _ h9 => h9) rfl dX1_start_22 ?_
  refine lv_iload_n hx hb dX1_start_25 rfl (lv_at hl 0 rfl) ?_
  refine lv_sipush (v := 255) hx hb dX1_start_26 (by decide) ?_
  refine va_iast hx hb hK hP hD hS 1 0 rfl rfl (pz_vi rfl) dX1_start_29 (fun H locs hP hD hS => ?_)
  have hP : va_P G.1 pz_cl [(a0, .inr (1, [.ref a4, .ref a5, .ref a6, .ref a7, .ref a2, .ref a8, .ref a9, .ref a10, .ref a11, .ref a12, .ref a13, .ref a1, .int 0, .int 0, .int 0, .int 0])), (a1, .inl (G.2 0, 120, .inl (upd (upd (upd (upd (upd (upd (g5) 45 255) 46 255) 47 255) 48 255) 49 255) 50 255))), (a2, .inr (2, [.ref a3, .ref a14, .int 0])), (a3, .inl (G.2 0, 240, .inl (f1)))] H := hP
  have hD : va_D A [(a0, .inr (1, [.ref a4, .ref a5, .ref a6, .ref a7, .ref a2, .ref a8, .ref a9, .ref a10, .ref a11, .ref a12, .ref a13, .ref a1, .int 0, .int 0, .int 0, .int 0])), (a1, .inl (G.2 0, 120, .inl (upd (upd (upd (upd (upd (upd (g5) 45 255) 46 255) 47 255) 48 255) 49 255) 50 255))), (a2, .inr (2, [.ref a3, .ref a14, .int 0])), (a3, .inl (G.2 0, 240, .inl (f1)))] := hD
  refine lv_iinc (v := 51) (lv' := [(2, .int 51), (0, .ref a0), (1, .int 0)]) hx hb dX1_start_30 hl (k := 0) rfl (by decide) (by decide) rfl (fun ls hl => ?_)
  refine lv_goto (tgt := 12) hx hb dX1_start_33 (by decide) ?_
  refine lv_iload_n hx hb dX1_start_12 rfl (lv_at hl 0 rfl) ?_
  refine lv_aload_n hx hb dX1_start_13 rfl (lv_at hl 1 rfl) ?_
  refine va_get (D := G.1) (ci := 1) (v := .ref a1) (C := "Sourcewright$Builder") (T := TX1) (N := 16) hx hb hts inX1 hown hK hP 0 rfl rfl 11 (by decide) (hts _ wq_352) (fun _ h9 => h9) rfl dX1_start_14 ?_
  refine va_alen (v := 120) hx hb hK hP 1 0 rfl rfl (by show Int32.ofNat 120 = 120; decide) dX1_start_17 ?_
  refine lv_icmp_ge (tgt := 36) hx hb dX1_start_18 (by decide) (fun hc => absurd hc (by decide)) (fun _ => ?_)
  refine lv_aload_n hx hb dX1_start_21 rfl (lv_at hl 1 rfl) ?_
  refine va_get (D := G.1) (ci := 1) (v := .ref a1) (C := "Sourcewright$Builder") (T := TX1) (N := 16) hx hb hts inX1 hown hK hP 0 rfl rfl 11 (by decide) (hts _ wq_352) (fun _ h9 => h9) rfl dX1_start_22 ?_
  refine lv_iload_n hx hb dX1_start_25 rfl (lv_at hl 0 rfl) ?_
  refine lv_sipush (v := 255) hx hb dX1_start_26 (by decide) ?_
  refine va_iast hx hb hK hP hD hS 1 0 rfl rfl (pz_vi rfl) dX1_start_29 (fun H locs hP hD hS => ?_)
  have hP : va_P G.1 pz_cl [(a0, .inr (1, [.ref a4, .ref a5, .ref a6, .ref a7, .ref a2, .ref a8, .ref a9, .ref a10, .ref a11, .ref a12, .ref a13, .ref a1, .int 0, .int 0, .int 0, .int 0])), (a1, .inl (G.2 0, 120, .inl (upd (upd (upd (upd (upd (upd (upd (g5) 45 255) 46 255) 47 255) 48 255) 49 255) 50 255) 51 255))), (a2, .inr (2, [.ref a3, .ref a14, .int 0])), (a3, .inl (G.2 0, 240, .inl (f1)))] H := hP
  have hD : va_D A [(a0, .inr (1, [.ref a4, .ref a5, .ref a6, .ref a7, .ref a2, .ref a8, .ref a9, .ref a10, .ref a11, .ref a12, .ref a13, .ref a1, .int 0, .int 0, .int 0, .int 0])), (a1, .inl (G.2 0, 120, .inl (upd (upd (upd (upd (upd (upd (upd (g5) 45 255) 46 255) 47 255) 48 255) 49 255) 50 255) 51 255))), (a2, .inr (2, [.ref a3, .ref a14, .int 0])), (a3, .inl (G.2 0, 240, .inl (f1)))] := hD
  refine lv_iinc (v := 52) (lv' := [(2, .int 52), (0, .ref a0), (1, .int 0)]) hx hb dX1_start_30 hl (k := 0) rfl (by decide) (by decide) rfl (fun ls hl => ?_)
  refine lv_goto (tgt := 12) hx hb dX1_start_33 (by decide) ?_
  refine lv_iload_n hx hb dX1_start_12 rfl (lv_at hl 0 rfl) ?_
  refine lv_aload_n hx hb dX1_start_13 rfl (lv_at hl 1 rfl) ?_
  refine va_get (D := G.1) (ci := 1) (v := .ref a1) (C := "Sourcewright$Builder") (T := TX1) (N := 16) hx hb hts inX1 hown hK hP 0 rfl rfl 11 (by decide) (hts _ wq_352) (fun _ h9 => h9) rfl dX1_start_14 ?_
  refine va_alen (v := 120) hx hb hK hP 1 0 rfl rfl (by show Int32.ofNat 120 = 120; decide) dX1_start_17 ?_
  refine lv_icmp_ge (tgt := 36) hx hb dX1_start_18 (by decide) (fun hc => absurd hc (by decide)) (fun _ => ?_)
  refine lv_aload_n hx hb dX1_start_21 rfl (lv_at hl 1 rfl) ?_
  refine va_get (D := G.1) (ci := 1) (v := .ref a1) (C := "Sourcewright$Builder") (T := TX1) (N := 16) hx hb hts inX1 hown hK hP 0 rfl rfl 11 (by decide) (hts _ wq_352) (fun _ h9 => h9) rfl dX1_start_22 ?_
  refine lv_iload_n hx hb dX1_start_25 rfl (lv_at hl 0 rfl) ?_
  refine lv_sipush (v := 255) hx hb dX1_start_26 (by decide) ?_
  refine va_iast hx hb hK hP hD hS 1 0 rfl rfl (pz_vi rfl) dX1_start_29 (fun H locs hP hD hS => ?_)
  have hP : va_P G.1 pz_cl [(a0, .inr (1, [.ref a4, .ref a5, .ref a6, .ref a7, .ref a2, .ref a8, .ref a9, .ref a10, .ref a11, .ref a12, .ref a13, .ref a1, .int 0, .int 0, .int 0, .int 0])), (a1, .inl (G.2 0, 120, .inl (upd (upd (upd (upd (upd (upd (upd (upd (g5) 45 255) 46 255) 47 255) 48 255) 49 255) 50 255) 51 255) 52 255))), (a2, .inr (2, [.ref a3, .ref a14, .int 0])), (a3, .inl (G.2 0, 240, .inl (f1)))] H := hP
  have hD : va_D A [(a0, .inr (1, [.ref a4, .ref a5, .ref a6, .ref a7, .ref a2, .ref a8, .ref a9, .ref a10, .ref a11, .ref a12, .ref a13, .ref a1, .int 0, .int 0, .int 0, .int 0])), (a1, .inl (G.2 0, 120, .inl (upd (upd (upd (upd (upd (upd (upd (upd (g5) 45 255) 46 255) 47 255) 48 255) 49 255) 50 255) 51 255) 52 255))), (a2, .inr (2, [.ref a3, .ref a14, .int 0])), (a3, .inl (G.2 0, 240, .inl (f1)))] := hD
  refine lv_iinc (v := 53) (lv' := [(2, .int 53), (0, .ref a0), (1, .int 0)]) hx hb dX1_start_30 hl (k := 0) rfl (by decide) (by decide) rfl (fun ls hl => ?_)
  refine lv_goto (tgt := 12) hx hb dX1_start_33 (by decide) ?_
  refine lv_iload_n hx hb dX1_start_12 rfl (lv_at hl 0 rfl) ?_
  refine lv_aload_n hx hb dX1_start_13 rfl (lv_at hl 1 rfl) ?_
  refine va_get (D := G.1) (ci := 1) (v := .ref a1) (C := "Sourcewright$Builder") (T := TX1) (N := 16) hx hb hts inX1 hown hK hP 0 rfl rfl 11 (by decide) (hts _ wq_352) (fun _ h9 => h9) rfl dX1_start_14 ?_
  refine va_alen (v := 120) hx hb hK hP 1 0 rfl rfl (by show Int32.ofNat 120 = 120; decide) dX1_start_17 ?_
  refine lv_icmp_ge (tgt := 36) hx hb dX1_start_18 (by decide) (fun hc => absurd hc (by decide)) (fun _ => ?_)
  refine lv_aload_n hx hb dX1_start_21 rfl (lv_at hl 1 rfl) ?_
  refine va_get (D := G.1) (ci := 1) (v := .ref a1) (C := "Sourcewright$Builder") (T := TX1) (N := 16) hx hb hts inX1 hown hK hP 0 rfl rfl 11 (by decide) (hts _ wq_352) (fun _ h9 => h9) rfl dX1_start_22 ?_
  refine lv_iload_n hx hb dX1_start_25 rfl (lv_at hl 0 rfl) ?_
  refine lv_sipush (v := 255) hx hb dX1_start_26 (by decide) ?_
  refine va_iast hx hb hK hP hD hS 1 0 rfl rfl (pz_vi rfl) dX1_start_29 (fun H locs hP hD hS => ?_)
  obtain ⟨g6, hg6⟩ : ∃ z, z = upd (upd (upd (upd (upd (upd (upd (upd (upd (g5) 45 255) 46 255) 47 255) 48 255) 49 255) 50 255) 51 255) 52 255) 53 255 := ⟨_, rfl⟩
  have hP : va_P G.1 pz_cl [(a0, .inr (1, [.ref a4, .ref a5, .ref a6, .ref a7, .ref a2, .ref a8, .ref a9, .ref a10, .ref a11, .ref a12, .ref a13, .ref a1, .int 0, .int 0, .int 0, .int 0])), (a1, .inl (G.2 0, 120, .inl (g6))), (a2, .inr (2, [.ref a3, .ref a14, .int 0])), (a3, .inl (G.2 0, 240, .inl (f1)))] H := by rw [hg6]; exact hP
  have hD : va_D A [(a0, .inr (1, [.ref a4, .ref a5, .ref a6, .ref a7, .ref a2, .ref a8, .ref a9, .ref a10, .ref a11, .ref a12, .ref a13, .ref a1, .int 0, .int 0, .int 0, .int 0])), (a1, .inl (G.2 0, 120, .inl (g6))), (a2, .inr (2, [.ref a3, .ref a14, .int 0])), (a3, .inl (G.2 0, 240, .inl (f1)))] := by rw [hg6]; exact hD
  refine lv_iinc (v := 54) (lv' := [(2, .int 54), (0, .ref a0), (1, .int 0)]) hx hb dX1_start_30 hl (k := 0) rfl (by decide) (by decide) rfl (fun ls hl => ?_)
  refine lv_goto (tgt := 12) hx hb dX1_start_33 (by decide) ?_
  refine lv_iload_n hx hb dX1_start_12 rfl (lv_at hl 0 rfl) ?_
  refine lv_aload_n hx hb dX1_start_13 rfl (lv_at hl 1 rfl) ?_
  refine va_get (D := G.1) (ci := 1) (v := .ref a1) (C := "Sourcewright$Builder") (T := TX1) (N := 16) hx hb hts inX1 hown hK hP 0 rfl rfl 11 (by decide) (hts _ wq_352) (fun _ h9 => h9) rfl dX1_start_14 ?_
  refine va_alen (v := 120) hx hb hK hP 1 0 rfl rfl (by show Int32.ofNat 120 = 120; decide) dX1_start_17 ?_
  refine lv_icmp_ge (tgt := 36) hx hb dX1_start_18 (by decide) (fun hc => absurd hc (by decide)) (fun _ => ?_)
  refine lv_aload_n hx hb dX1_start_21 rfl (lv_at hl 1 rfl) ?_
  refine va_get (D := G.1) (ci := 1) (v := .ref a1) (C := "Sourcewright$Builder") (T := TX1) (N := 16) hx hb hts inX1 hown hK hP 0 rfl rfl 11 (by decide) (hts _ wq_352) (fun _ h9 => h9) rfl dX1_start_22 ?_
  refine lv_iload_n hx hb dX1_start_25 rfl (lv_at hl 0 rfl) ?_
  refine lv_sipush (v := 255) hx hb dX1_start_26 (by decide) ?_
  refine va_iast hx hb hK hP hD hS 1 0 rfl rfl (pz_vi rfl) dX1_start_29 (fun H locs hP hD hS => ?_)
  have hP : va_P G.1 pz_cl [(a0, .inr (1, [.ref a4, .ref a5, .ref a6, .ref a7, .ref a2, .ref a8, .ref a9, .ref a10, .ref a11, .ref a12, .ref a13, .ref a1, .int 0, .int 0, .int 0, .int 0])), (a1, .inl (G.2 0, 120, .inl (upd (g6) 54 255))), (a2, .inr (2, [.ref a3, .ref a14, .int 0])), (a3, .inl (G.2 0, 240, .inl (f1)))] H := hP
  have hD : va_D A [(a0, .inr (1, [.ref a4, .ref a5, .ref a6, .ref a7, .ref a2, .ref a8, .ref a9, .ref a10, .ref a11, .ref a12, .ref a13, .ref a1, .int 0, .int 0, .int 0, .int 0])), (a1, .inl (G.2 0, 120, .inl (upd (g6) 54 255))), (a2, .inr (2, [.ref a3, .ref a14, .int 0])), (a3, .inl (G.2 0, 240, .inl (f1)))] := hD
  refine lv_iinc (v := 55) (lv' := [(2, .int 55), (0, .ref a0), (1, .int 0)]) hx hb dX1_start_30 hl (k := 0) rfl (by decide) (by decide) rfl (fun ls hl => ?_)
  refine lv_goto (tgt := 12) hx hb dX1_start_33 (by decide) ?_
  refine lv_iload_n hx hb dX1_start_12 rfl (lv_at hl 0 rfl) ?_
  refine lv_aload_n hx hb dX1_start_13 rfl (lv_at hl 1 rfl) ?_
  refine va_get (D := G.1) (ci := 1) (v := .ref a1) (C := "Sourcewright$Builder") (T := TX1) (N := 16) hx hb hts inX1 hown hK hP 0 rfl rfl 11 (by decide) (hts _ wq_352) (fun _ h9 => h9) rfl dX1_start_14 ?_
  refine va_alen (v := 120) hx hb hK hP 1 0 rfl rfl (by show Int32.ofNat 120 = 120; decide) dX1_start_17 ?_
  refine lv_icmp_ge (tgt := 36) hx hb dX1_start_18 (by decide) (fun hc => absurd hc (by decide)) (fun _ => ?_)
  refine lv_aload_n hx hb dX1_start_21 rfl (lv_at hl 1 rfl) ?_
  refine va_get (D := G.1) (ci := 1) (v := .ref a1) (C := "Sourcewright$Builder") (T := TX1) (N := 16) hx hb hts inX1 hown hK hP 0 rfl rfl 11 (by decide) (hts _ wq_352) (fun _ h9 => h9) rfl dX1_start_22 ?_
  refine lv_iload_n hx hb dX1_start_25 rfl (lv_at hl 0 rfl) ?_
  refine lv_sipush (v := 255) hx hb dX1_start_26 (by decide) ?_
  refine va_iast hx hb hK hP hD hS 1 0 rfl rfl (pz_vi rfl) dX1_start_29 (fun H locs hP hD hS => ?_)
  have hP : va_P G.1 pz_cl [(a0, .inr (1, [.ref a4, .ref a5, .ref a6, .ref a7, .ref a2, .ref a8, .ref a9, .ref a10, .ref a11, .ref a12, .ref a13, .ref a1, .int 0, .int 0, .int 0, .int 0])), (a1, .inl (G.2 0, 120, .inl (upd (upd (g6) 54 255) 55 255))), (a2, .inr (2, [.ref a3, .ref a14, .int 0])), (a3, .inl (G.2 0, 240, .inl (f1)))] H := hP
  have hD : va_D A [(a0, .inr (1, [.ref a4, .ref a5, .ref a6, .ref a7, .ref a2, .ref a8, .ref a9, .ref a10, .ref a11, .ref a12, .ref a13, .ref a1, .int 0, .int 0, .int 0, .int 0])), (a1, .inl (G.2 0, 120, .inl (upd (upd (g6) 54 255) 55 255))), (a2, .inr (2, [.ref a3, .ref a14, .int 0])), (a3, .inl (G.2 0, 240, .inl (f1)))] := hD
  refine lv_iinc (v := 56) (lv' := [(2, .int 56), (0, .ref a0), (1, .int 0)]) hx hb dX1_start_30 hl (k := 0) rfl (by decide) (by decide) rfl (fun ls hl => ?_)
  refine lv_goto (tgt := 12) hx hb dX1_start_33 (by decide) ?_
  refine lv_iload_n hx hb dX1_start_12 rfl (lv_at hl 0 rfl) ?_
  refine lv_aload_n hx hb dX1_start_13 rfl (lv_at hl 1 rfl) ?_
  refine va_get (D := G.1) (ci := 1) (v := .ref a1) (C := "Sourcewright$Builder") (T := TX1) (N := 16) hx hb hts inX1 hown hK hP 0 rfl rfl 11 (by decide) (hts _ wq_352) (fun _ h9 => h9) rfl dX1_start_14 ?_
  refine va_alen (v := 120) hx hb hK hP 1 0 rfl rfl (by show Int32.ofNat 120 = 120; decide) dX1_start_17 ?_
  refine lv_icmp_ge (tgt := 36) hx hb dX1_start_18 (by decide) (fun hc => absurd hc (by decide)) (fun _ => ?_)
  refine lv_aload_n hx hb dX1_start_21 rfl (lv_at hl 1 rfl) ?_
  refine va_get (D := G.1) (ci := 1) (v := .ref a1) (C := "Sourcewright$Builder") (T := TX1) (N := 16) hx hb hts inX1 hown hK hP 0 rfl rfl 11 (by decide) (hts _ wq_352) (fun _ h9 => h9) rfl dX1_start_22 ?_
  refine lv_iload_n hx hb dX1_start_25 rfl (lv_at hl 0 rfl) ?_
  refine lv_sipush (v := 255) hx hb dX1_start_26 (by decide) ?_
  refine va_iast hx hb hK hP hD hS 1 0 rfl rfl (pz_vi rfl) dX1_start_29 (fun H locs hP hD hS => ?_)
  have hP : va_P G.1 pz_cl [(a0, .inr (1, [.ref a4, .ref a5, .ref a6, .ref a7, .ref a2, .ref a8, .ref a9, .ref a10, .ref a11, .ref a12, .ref a13, .ref a1, .int 0, .int 0, .int 0, .int 0])), (a1, .inl (G.2 0, 120, .inl (upd (upd (upd (g6) 54 255) 55 255) 56 255))), (a2, .inr (2, [.ref a3, .ref a14, .int 0])), (a3, .inl (G.2 0, 240, .inl (f1)))] H := hP
  have hD : va_D A [(a0, .inr (1, [.ref a4, .ref a5, .ref a6, .ref a7, .ref a2, .ref a8, .ref a9, .ref a10, .ref a11, .ref a12, .ref a13, .ref a1, .int 0, .int 0, .int 0, .int 0])), (a1, .inl (G.2 0, 120, .inl (upd (upd (upd (g6) 54 255) 55 255) 56 255))), (a2, .inr (2, [.ref a3, .ref a14, .int 0])), (a3, .inl (G.2 0, 240, .inl (f1)))] := hD
  refine lv_iinc (v := 57) (lv' := [(2, .int 57), (0, .ref a0), (1, .int 0)]) hx hb dX1_start_30 hl (k := 0) rfl (by decide) (by decide) rfl (fun ls hl => ?_)
  refine lv_goto (tgt := 12) hx hb dX1_start_33 (by decide) ?_
  refine lv_iload_n hx hb dX1_start_12 rfl (lv_at hl 0 rfl) ?_
  refine lv_aload_n hx hb dX1_start_13 rfl (lv_at hl 1 rfl) ?_
  refine va_get (D := G.1) (ci := 1) (v := .ref a1) (C := "Sourcewright$Builder") (T := TX1) (N := 16) hx hb hts inX1 hown hK hP 0 rfl rfl 11 (by decide) (hts _ wq_352) (fun _ h9 => h9) rfl dX1_start_14 ?_
  refine va_alen (v := 120) hx hb hK hP 1 0 rfl rfl (by show Int32.ofNat 120 = 120; decide) dX1_start_17 ?_
  refine lv_icmp_ge (tgt := 36) hx hb dX1_start_18 (by decide) (fun hc => absurd hc (by decide)) (fun _ => ?_)
  refine lv_aload_n hx hb dX1_start_21 rfl (lv_at hl 1 rfl) ?_
  refine va_get (D := G.1) (ci := 1) (v := .ref a1) (C := "Sourcewright$Builder") (T := TX1) (N := 16) hx hb hts inX1 hown hK hP 0 rfl rfl 11 (by decide) (hts _ wq_352) (fun _ h9 => h9) rfl dX1_start_22 ?_
  refine lv_iload_n hx hb dX1_start_25 rfl (lv_at hl 0 rfl) ?_
  refine lv_sipush (v := 255) hx hb dX1_start_26 (by decide) ?_
  refine va_iast hx hb hK hP hD hS 1 0 rfl rfl (pz_vi rfl) dX1_start_29 (fun H locs hP hD hS => ?_)
  have hP : va_P G.1 pz_cl [(a0, .inr (1, [.ref a4, .ref a5, .ref a6, .ref a7, .ref a2, .ref a8, .ref a9, .ref a10, .ref a11, .ref a12, .ref a13, .ref a1, .int 0, .int 0, .int 0, .int 0])), (a1, .inl (G.2 0, 120, .inl (upd (upd (upd (upd (g6) 54 255) 55 255) 56 255) 57 255))), (a2, .inr (2, [.ref a3, .ref a14, .int 0])), (a3, .inl (G.2 0, 240, .inl (f1)))] H := hP
  have hD : va_D A [(a0, .inr (1, [.ref a4, .ref a5, .ref a6, .ref a7, .ref a2, .ref a8, .ref a9, .ref a10, .ref a11, .ref a12, .ref a13, .ref a1, .int 0, .int 0, .int 0, .int 0])), (a1, .inl (G.2 0, 120, .inl (upd (upd (upd (upd (g6) 54 255) 55 255) 56 255) 57 255))), (a2, .inr (2, [.ref a3, .ref a14, .int 0])), (a3, .inl (G.2 0, 240, .inl (f1)))] := hD
  refine lv_iinc (v := 58) (lv' := [(2, .int 58), (0, .ref a0), (1, .int 0)]) hx hb dX1_start_30 hl (k := 0) rfl (by decide) (by decide) rfl (fun ls hl => ?_)
  refine lv_goto (tgt := 12) hx hb dX1_start_33 (by decide) ?_
  refine lv_iload_n hx hb dX1_start_12 rfl (lv_at hl 0 rfl) ?_
  refine lv_aload_n hx hb dX1_start_13 rfl (lv_at hl 1 rfl) ?_
  refine va_get (D := G.1) (ci := 1) (v := .ref a1) (C := "Sourcewright$Builder") (T := TX1) (N := 16) hx hb hts inX1 hown hK hP 0 rfl rfl 11 (by decide) (hts _ wq_352) (fun _ h9 => h9) rfl dX1_start_14 ?_
  refine va_alen (v := 120) hx hb hK hP 1 0 rfl rfl (by show Int32.ofNat 120 = 120; decide) dX1_start_17 ?_
  refine lv_icmp_ge (tgt := 36) hx hb dX1_start_18 (by decide) (fun hc => absurd hc (by decide)) (fun _ => ?_)
  refine lv_aload_n hx hb dX1_start_21 rfl (lv_at hl 1 rfl) ?_
  refine va_get (D := G.1) (ci := 1) (v := .ref a1) (C := "Sourcewright$Builder") (T := TX1) (N := 16) hx hb hts inX1 hown hK hP 0 rfl rfl 11 (by decide) (hts _ wq_352) (fun _ h9 => h9) rfl dX1_start_22 ?_
  refine lv_iload_n hx hb dX1_start_25 rfl (lv_at hl 0 rfl) ?_
  refine lv_sipush (v := 255) hx hb dX1_start_26 (by decide) ?_
  refine va_iast hx hb hK hP hD hS 1 0 rfl rfl (pz_vi rfl) dX1_start_29 (fun H locs hP hD hS => ?_)
  have hP : va_P G.1 pz_cl [(a0, .inr (1, [.ref a4, .ref a5, .ref a6, .ref a7, .ref a2, .ref a8, .ref a9, .ref a10, .ref a11, .ref a12, .ref a13, .ref a1, .int 0, .int 0, .int 0, .int 0])), (a1, .inl (G.2 0, 120, .inl (upd (upd (upd (upd (upd (g6) 54 255) 55 255) 56 255) 57 255) 58 255))), (a2, .inr (2, [.ref a3, .ref a14, .int 0])), (a3, .inl (G.2 0, 240, .inl (f1)))] H := hP
  have hD : va_D A [(a0, .inr (1, [.ref a4, .ref a5, .ref a6, .ref a7, .ref a2, .ref a8, .ref a9, .ref a10, .ref a11, .ref a12, .ref a13, .ref a1, .int 0, .int 0, .int 0, .int 0])), (a1, .inl (G.2 0, 120, .inl (upd (upd (upd (upd (upd (g6) 54 255) 55 255) 56 255) 57 255) 58 255))), (a2, .inr (2, [.ref a3, .ref a14, .int 0])), (a3, .inl (G.2 0, 240, .inl (f1)))] := hD
  refine lv_iinc (v := 59) (lv' := [(2, .int 59), (0, .ref a0), (1, .int 0)]) hx hb dX1_start_30 hl (k := 0) rfl (by decide) (by decide) rfl (fun ls hl => ?_)
  refine lv_goto (tgt := 12) hx hb dX1_start_33 (by decide) ?_
  refine lv_iload_n hx hb dX1_start_12 rfl (lv_at hl 0 rfl) ?_
  refine lv_aload_n hx hb dX1_start_13 rfl (lv_at hl 1 rfl) ?_
  refine va_get (D := G.1) (ci := 1) (v := .ref a1) (C := "Sourcewright$Builder") (T := TX1) (N := 16) hx hb hts inX1 hown hK hP 0 rfl rfl 11 (by decide) (hts _ wq_352) (fun _ h9 => h9) rfl dX1_start_14 ?_
  refine va_alen (v := 120) hx hb hK hP 1 0 rfl rfl (by show Int32.ofNat 120 = 120; decide) dX1_start_17 ?_
  refine lv_icmp_ge (tgt := 36) hx hb dX1_start_18 (by decide) (fun hc => absurd hc (by decide)) (fun _ => ?_)
  refine lv_aload_n hx hb dX1_start_21 rfl (lv_at hl 1 rfl) ?_
  refine va_get (D := G.1) (ci := 1) (v := .ref a1) (C := "Sourcewright$Builder") (T := TX1) (N := 16) hx hb hts inX1 hown hK hP 0 rfl rfl 11 (by decide) (hts _ wq_352) (fun _ h9 => h9) rfl dX1_start_22 ?_
  refine lv_iload_n hx hb dX1_start_25 rfl (lv_at hl 0 rfl) ?_
  refine lv_sipush (v := 255) hx hb dX1_start_26 (by decide) ?_
  refine va_iast hx hb hK hP hD hS 1 0 rfl rfl (pz_vi rfl) dX1_start_29 (fun H locs hP hD hS => ?_)
  have hP : va_P G.1 pz_cl [(a0, .inr (1, [.ref a4, .ref a5, .ref a6, .ref a7, .ref a2, .ref a8, .ref a9, .ref a10, .ref a11, .ref a12, .ref a13, .ref a1, .int 0, .int 0, .int 0, .int 0])), (a1, .inl (G.2 0, 120, .inl (upd (upd (upd (upd (upd (upd (g6) 54 255) 55 255) 56 255) 57 255) 58 255) 59 255))), (a2, .inr (2, [.ref a3, .ref a14, .int 0])), (a3, .inl (G.2 0, 240, .inl (f1)))] H := hP
  have hD : va_D A [(a0, .inr (1, [.ref a4, .ref a5, .ref a6, .ref a7, .ref a2, .ref a8, .ref a9, .ref a10, .ref a11, .ref a12, .ref a13, .ref a1, .int 0, .int 0, .int 0, .int 0])), (a1, .inl (G.2 0, 120, .inl (upd (upd (upd (upd (upd (upd (g6) 54 255) 55 255) 56 255) 57 255) 58 255) 59 255))), (a2, .inr (2, [.ref a3, .ref a14, .int 0])), (a3, .inl (G.2 0, 240, .inl (f1)))] := hD
  refine lv_iinc (v := 60) (lv' := [(2, .int 60), (0, .ref a0), (1, .int 0)]) hx hb dX1_start_30 hl (k := 0) rfl (by decide) (by decide) rfl (fun ls hl => ?_)
  refine lv_goto (tgt := 12) hx hb dX1_start_33 (by decide) ?_
  refine lv_iload_n hx hb dX1_start_12 rfl (lv_at hl 0 rfl) ?_
  refine lv_aload_n hx hb dX1_start_13 rfl (lv_at hl 1 rfl) ?_
  refine va_get (D := G.1) (ci := 1) (v := .ref a1) (C := "Sourcewright$Builder") (T := TX1) (N := 16) hx hb hts inX1 hown hK hP 0 rfl rfl 11 (by decide) (hts _ wq_352) (fun _ h9 => h9) rfl dX1_start_14 ?_
  refine va_alen (v := 120) hx hb hK hP 1 0 rfl rfl (by show Int32.ofNat 120 = 120; decide) dX1_start_17 ?_
  refine lv_icmp_ge (tgt := 36) hx hb dX1_start_18 (by decide) (fun hc => absurd hc (by decide)) (fun _ => ?_)
  refine lv_aload_n hx hb dX1_start_21 rfl (lv_at hl 1 rfl) ?_
  refine va_get (D := G.1) (ci := 1) (v := .ref a1) (C := "Sourcewright$Builder") (T := TX1) (N := 16) hx hb hts inX1 hown hK hP 0 rfl rfl 11 (by decide) (hts _ wq_352) (fun _ h9 => h9) rfl dX1_start_22 ?_
  refine lv_iload_n hx hb dX1_start_25 rfl (lv_at hl 0 rfl) ?_
  refine lv_sipush (v := 255) hx hb dX1_start_26 (by decide) ?_
  refine va_iast hx hb hK hP hD hS 1 0 rfl rfl (pz_vi rfl) dX1_start_29 (fun H locs hP hD hS => ?_)
  have hP : va_P G.1 pz_cl [(a0, .inr (1, [.ref a4, .ref a5, .ref a6, .ref a7, .ref a2, .ref a8, .ref a9, .ref a10, .ref a11, .ref a12, .ref a13, .ref a1, .int 0, .int 0, .int 0, .int 0])), (a1, .inl (G.2 0, 120, .inl (upd (upd (upd (upd (upd (upd (upd (g6) 54 255) 55 255) 56 255) 57 255) 58 255) 59 255) 60 255))), (a2, .inr (2, [.ref a3, .ref a14, .int 0])), (a3, .inl (G.2 0, 240, .inl (f1)))] H := hP
  have hD : va_D A [(a0, .inr (1, [.ref a4, .ref a5, .ref a6, .ref a7, .ref a2, .ref a8, .ref a9, .ref a10, .ref a11, .ref a12, .ref a13, .ref a1, .int 0, .int 0, .int 0, .int 0])), (a1, .inl (G.2 0, 120, .inl (upd (upd (upd (upd (upd (upd (upd (g6) 54 255) 55 255) 56 255) 57 255) 58 255) 59 255) 60 255))), (a2, .inr (2, [.ref a3, .ref a14, .int 0])), (a3, .inl (G.2 0, 240, .inl (f1)))] := hD
  refine lv_iinc (v := 61) (lv' := [(2, .int 61), (0, .ref a0), (1, .int 0)]) hx hb dX1_start_30 hl (k := 0) rfl (by decide) (by decide) rfl (fun ls hl => ?_)
  refine lv_goto (tgt := 12) hx hb dX1_start_33 (by decide) ?_
  refine lv_iload_n hx hb dX1_start_12 rfl (lv_at hl 0 rfl) ?_
  refine lv_aload_n hx hb dX1_start_13 rfl (lv_at hl 1 rfl) ?_
  refine va_get (D := G.1) (ci := 1) (v := .ref a1) (C := "Sourcewright$Builder") (T := TX1) (N := 16) hx hb hts inX1 hown hK hP 0 rfl rfl 11 (by decide) (hts _ wq_352) (fun _ h9 => h9) rfl dX1_start_14 ?_
  refine va_alen (v := 120) hx hb hK hP 1 0 rfl rfl (by show Int32.ofNat 120 = 120; decide) dX1_start_17 ?_
  refine lv_icmp_ge (tgt := 36) hx hb dX1_start_18 (by decide) (fun hc => absurd hc (by decide)) (fun _ => ?_)
  refine lv_aload_n hx hb dX1_start_21 rfl (lv_at hl 1 rfl) ?_
  refine va_get (D := G.1) (ci := 1) (v := .ref a1) (C := "Sourcewright$Builder") (T := TX1) (N := 16) hx hb hts inX1 hown hK hP 0 rfl rfl 11 (by decide) (hts _ wq_352) (fun _ h9 => h9) rfl dX1_start_22 ?_
  refine lv_iload_n hx hb dX1_start_25 rfl (lv_at hl 0 rfl) ?_
  refine lv_sipush (v := 255) hx hb dX1_start_26 (by decide) ?_
  refine va_iast hx hb hK hP hD hS 1 0 rfl rfl (pz_vi rfl) dX1_start_29 (fun H locs hP hD hS => ?_)
  have hP : va_P G.1 pz_cl [(a0, .inr (1, [.ref a4, .ref a5, .ref a6, .ref a7, .ref a2, .ref a8, .ref a9, .ref a10, .ref a11, .ref a12, .ref a13, .ref a1, .int 0, .int 0, .int 0, .int 0])), (a1, .inl (G.2 0, 120, .inl (upd (upd (upd (upd (upd (upd (upd (upd (g6) 54 255) 55 255) 56 255) 57 255) 58 255) 59 255) 60 255) 61 255))), (a2, .inr (2, [.ref a3, .ref a14, .int 0])), (a3, .inl (G.2 0, 240, .inl (f1)))] H := hP
  have hD : va_D A [(a0, .inr (1, [.ref a4, .ref a5, .ref a6, .ref a7, .ref a2, .ref a8, .ref a9, .ref a10, .ref a11, .ref a12, .ref a13, .ref a1, .int 0, .int 0, .int 0, .int 0])), (a1, .inl (G.2 0, 120, .inl (upd (upd (upd (upd (upd (upd (upd (upd (g6) 54 255) 55 255) 56 255) 57 255) 58 255) 59 255) 60 255) 61 255))), (a2, .inr (2, [.ref a3, .ref a14, .int 0])), (a3, .inl (G.2 0, 240, .inl (f1)))] := hD
  refine lv_iinc (v := 62) (lv' := [(2, .int 62), (0, .ref a0), (1, .int 0)]) hx hb dX1_start_30 hl (k := 0) rfl (by decide) (by decide) rfl (fun ls hl => ?_)
  refine lv_goto (tgt := 12) hx hb dX1_start_33 (by decide) ?_
  refine lv_iload_n hx hb dX1_start_12 rfl (lv_at hl 0 rfl) ?_
  refine lv_aload_n hx hb dX1_start_13 rfl (lv_at hl 1 rfl) ?_
  refine va_get (D := G.1) (ci := 1) (v := .ref a1) (C := "Sourcewright$Builder") (T := TX1) (N := 16) hx hb hts inX1 hown hK hP 0 rfl rfl 11 (by decide) (hts _ wq_352) (fun _ h9 => h9) rfl dX1_start_14 ?_
  refine va_alen (v := 120) hx hb hK hP 1 0 rfl rfl (by show Int32.ofNat 120 = 120; decide) dX1_start_17 ?_
  refine lv_icmp_ge (tgt := 36) hx hb dX1_start_18 (by decide) (fun hc => absurd hc (by decide)) (fun _ => ?_)
  refine lv_aload_n hx hb dX1_start_21 rfl (lv_at hl 1 rfl) ?_
  refine va_get (D := G.1) (ci := 1) (v := .ref a1) (C := "Sourcewright$Builder") (T := TX1) (N := 16) hx hb hts inX1 hown hK hP 0 rfl rfl 11 (by decide) (hts _ wq_352) (fun _ h9 => h9) rfl dX1_start_22 ?_
  refine lv_iload_n hx hb dX1_start_25 rfl (lv_at hl 0 rfl) ?_
  refine lv_sipush (v := 255) hx hb dX1_start_26 (by decide) ?_
  refine va_iast hx hb hK hP hD hS 1 0 rfl rfl (pz_vi rfl) dX1_start_29 (fun H locs hP hD hS => ?_)
  obtain ⟨g7, hg7⟩ : ∃ z, z = upd (upd (upd (upd (upd (upd (upd (upd (upd (g6) 54 255) 55 255) 56 255) 57 255) 58 255) 59 255) 60 255) 61 255) 62 255 := ⟨_, rfl⟩
  have hP : va_P G.1 pz_cl [(a0, .inr (1, [.ref a4, .ref a5, .ref a6, .ref a7, .ref a2, .ref a8, .ref a9, .ref a10, .ref a11, .ref a12, .ref a13, .ref a1, .int 0, .int 0, .int 0, .int 0])), (a1, .inl (G.2 0, 120, .inl (g7))), (a2, .inr (2, [.ref a3, .ref a14, .int 0])), (a3, .inl (G.2 0, 240, .inl (f1)))] H := by rw [hg7]; exact hP
  have hD : va_D A [(a0, .inr (1, [.ref a4, .ref a5, .ref a6, .ref a7, .ref a2, .ref a8, .ref a9, .ref a10, .ref a11, .ref a12, .ref a13, .ref a1, .int 0, .int 0, .int 0, .int 0])), (a1, .inl (G.2 0, 120, .inl (g7))), (a2, .inr (2, [.ref a3, .ref a14, .int 0])), (a3, .inl (G.2 0, 240, .inl (f1)))] := by rw [hg7]; exact hD
  refine lv_iinc (v := 63) (lv' := [(2, .int 63), (0, .ref a0), (1, .int 0)]) hx hb dX1_start_30 hl (k := 0) rfl (by decide) (by decide) rfl (fun ls hl => ?_)
  refine lv_goto (tgt := 12) hx hb dX1_start_33 (by decide) ?_
  refine lv_iload_n hx hb dX1_start_12 rfl (lv_at hl 0 rfl) ?_
  refine lv_aload_n hx hb dX1_start_13 rfl (lv_at hl 1 rfl) ?_
  refine va_get (D := G.1) (ci := 1) (v := .ref a1) (C := "Sourcewright$Builder") (T := TX1) (N := 16) hx hb hts inX1 hown hK hP 0 rfl rfl 11 (by decide) (hts _ wq_352) (fun _ h9 => h9) rfl dX1_start_14 ?_
  refine va_alen (v := 120) hx hb hK hP 1 0 rfl rfl (by show Int32.ofNat 120 = 120; decide) dX1_start_17 ?_
  refine lv_icmp_ge (tgt := 36) hx hb dX1_start_18 (by decide) (fun hc => absurd hc (by decide)) (fun _ => ?_)
  refine lv_aload_n hx hb dX1_start_21 rfl (lv_at hl 1 rfl) ?_
  refine va_get (D := G.1) (ci := 1) (v := .ref a1) (C := "Sourcewright$Builder") (T := TX1) (N := 16) hx hb hts inX1 hown hK hP 0 rfl rfl 11 (by decide) (hts _ wq_352) (fun _ h9 => h9) rfl dX1_start_22 ?_
  refine lv_iload_n hx hb dX1_start_25 rfl (lv_at hl 0 rfl) ?_
  refine lv_sipush (v := 255) hx hb dX1_start_26 (by decide) ?_
  refine va_iast hx hb hK hP hD hS 1 0 rfl rfl (pz_vi rfl) dX1_start_29 (fun H locs hP hD hS => ?_)
  have hP : va_P G.1 pz_cl [(a0, .inr (1, [.ref a4, .ref a5, .ref a6, .ref a7, .ref a2, .ref a8, .ref a9, .ref a10, .ref a11, .ref a12, .ref a13, .ref a1, .int 0, .int 0, .int 0, .int 0])), (a1, .inl (G.2 0, 120, .inl (upd (g7) 63 255))), (a2, .inr (2, [.ref a3, .ref a14, .int 0])), (a3, .inl (G.2 0, 240, .inl (f1)))] H := hP
  have hD : va_D A [(a0, .inr (1, [.ref a4, .ref a5, .ref a6, .ref a7, .ref a2, .ref a8, .ref a9, .ref a10, .ref a11, .ref a12, .ref a13, .ref a1, .int 0, .int 0, .int 0, .int 0])), (a1, .inl (G.2 0, 120, .inl (upd (g7) 63 255))), (a2, .inr (2, [.ref a3, .ref a14, .int 0])), (a3, .inl (G.2 0, 240, .inl (f1)))] := hD
  refine lv_iinc (v := 64) (lv' := [(2, .int 64), (0, .ref a0), (1, .int 0)]) hx hb dX1_start_30 hl (k := 0) rfl (by decide) (by decide) rfl (fun ls hl => ?_)
  refine lv_goto (tgt := 12) hx hb dX1_start_33 (by decide) ?_
  refine lv_iload_n hx hb dX1_start_12 rfl (lv_at hl 0 rfl) ?_
  refine lv_aload_n hx hb dX1_start_13 rfl (lv_at hl 1 rfl) ?_
  refine va_get (D := G.1) (ci := 1) (v := .ref a1) (C := "Sourcewright$Builder") (T := TX1) (N := 16) hx hb hts inX1 hown hK hP 0 rfl rfl 11 (by decide) (hts _ wq_352) (fun _ h9 => h9) rfl dX1_start_14 ?_
  refine va_alen (v := 120) hx hb hK hP 1 0 rfl rfl (by show Int32.ofNat 120 = 120; decide) dX1_start_17 ?_
  refine lv_icmp_ge (tgt := 36) hx hb dX1_start_18 (by decide) (fun hc => absurd hc (by decide)) (fun _ => ?_)
  refine lv_aload_n hx hb dX1_start_21 rfl (lv_at hl 1 rfl) ?_
  refine va_get (D := G.1) (ci := 1) (v := .ref a1) (C := "Sourcewright$Builder") (T := TX1) (N := 16) hx hb hts inX1 hown hK hP 0 rfl rfl 11 (by decide) (hts _ wq_352) (fun _ h9 => h9) rfl dX1_start_22 ?_
  refine lv_iload_n hx hb dX1_start_25 rfl (lv_at hl 0 rfl) ?_
  refine lv_sipush (v := 255) hx hb dX1_start_26 (by decide) ?_
  refine va_iast hx hb hK hP hD hS 1 0 rfl rfl (pz_vi rfl) dX1_start_29 (fun H locs hP hD hS => ?_)
  have hP : va_P G.1 pz_cl [(a0, .inr (1, [.ref a4, .ref a5, .ref a6, .ref a7, .ref a2, .ref a8, .ref a9, .ref a10, .ref a11, .ref a12, .ref a13, .ref a1, .int 0, .int 0, .int 0, .int 0])), (a1, .inl (G.2 0, 120, .inl (upd (upd (g7) 63 255) 64 255))), (a2, .inr (2, [.ref a3, .ref a14, .int 0])), (a3, .inl (G.2 0, 240, .inl (f1)))] H := hP
  have hD : va_D A [(a0, .inr (1, [.ref a4, .ref a5, .ref a6, .ref a7, .ref a2, .ref a8, .ref a9, .ref a10, .ref a11, .ref a12, .ref a13, .ref a1, .int 0, .int 0, .int 0, .int 0])), (a1, .inl (G.2 0, 120, .inl (upd (upd (g7) 63 255) 64 255))), (a2, .inr (2, [.ref a3, .ref a14, .int 0])), (a3, .inl (G.2 0, 240, .inl (f1)))] := hD
  refine lv_iinc (v := 65) (lv' := [(2, .int 65), (0, .ref a0), (1, .int 0)]) hx hb dX1_start_30 hl (k := 0) rfl (by decide) (by decide) rfl (fun ls hl => ?_)
  refine lv_goto (tgt := 12) hx hb dX1_start_33 (by decide) ?_
  refine lv_iload_n hx hb dX1_start_12 rfl (lv_at hl 0 rfl) ?_
  refine lv_aload_n hx hb dX1_start_13 rfl (lv_at hl 1 rfl) ?_
  refine va_get (D := G.1) (ci := 1) (v := .ref a1) (C := "Sourcewright$Builder") (T := TX1) (N := 16) hx hb hts inX1 hown hK hP 0 rfl rfl 11 (by decide) (hts _ wq_352) (fun _ h9 => h9) rfl dX1_start_14 ?_
  refine va_alen (v := 120) hx hb hK hP 1 0 rfl rfl (by show Int32.ofNat 120 = 120; decide) dX1_start_17 ?_
  refine lv_icmp_ge (tgt := 36) hx hb dX1_start_18 (by decide) (fun hc => absurd hc (by decide)) (fun _ => ?_)
  refine lv_aload_n hx hb dX1_start_21 rfl (lv_at hl 1 rfl) ?_
  refine va_get (D := G.1) (ci := 1) (v := .ref a1) (C := "Sourcewright$Builder") (T := TX1) (N := 16) hx hb hts inX1 hown hK hP 0 rfl rfl 11 (by decide) (hts _ wq_352) (fun _ h9 => h9) rfl dX1_start_22 ?_
  refine lv_iload_n hx hb dX1_start_25 rfl (lv_at hl 0 rfl) ?_
  refine lv_sipush (v := 255) hx hb dX1_start_26 (by decide) ?_
  refine va_iast hx hb hK hP hD hS 1 0 rfl rfl (pz_vi rfl) dX1_start_29 (fun H locs hP hD hS => ?_)
  have hP : va_P G.1 pz_cl [(a0, .inr (1, [.ref a4, .ref a5, .ref a6, .ref a7, .ref a2, .ref a8, .ref a9, .ref a10, .ref a11, .ref a12, .ref a13, .ref a1, .int 0, .int 0, .int 0, .int 0])), (a1, .inl (G.2 0, 120, .inl (upd (upd (upd (g7) 63 255) 64 255) 65 255))), (a2, .inr (2, [.ref a3, .ref a14, .int 0])), (a3, .inl (G.2 0, 240, .inl (f1)))] H := hP
  have hD : va_D A [(a0, .inr (1, [.ref a4, .ref a5, .ref a6, .ref a7, .ref a2, .ref a8, .ref a9, .ref a10, .ref a11, .ref a12, .ref a13, .ref a1, .int 0, .int 0, .int 0, .int 0])), (a1, .inl (G.2 0, 120, .inl (upd (upd (upd (g7) 63 255) 64 255) 65 255))), (a2, .inr (2, [.ref a3, .ref a14, .int 0])), (a3, .inl (G.2 0, 240, .inl (f1)))] := hD
  refine lv_iinc (v := 66) (lv' := [(2, .int 66), (0, .ref a0), (1, .int 0)]) hx hb dX1_start_30 hl (k := 0) rfl (by decide) (by decide) rfl (fun ls hl => ?_)
  refine lv_goto (tgt := 12) hx hb dX1_start_33 (by decide) ?_
  refine lv_iload_n hx hb dX1_start_12 rfl (lv_at hl 0 rfl) ?_
  refine lv_aload_n hx hb dX1_start_13 rfl (lv_at hl 1 rfl) ?_
  refine va_get (D := G.1) (ci := 1) (v := .ref a1) (C := "Sourcewright$Builder") (T := TX1) (N := 16) hx hb hts inX1 hown hK hP 0 rfl rfl 11 (by decide) (hts _ wq_352) (fun _ h9 => h9) rfl dX1_start_14 ?_
  refine va_alen (v := 120) hx hb hK hP 1 0 rfl rfl (by show Int32.ofNat 120 = 120; decide) dX1_start_17 ?_
  refine lv_icmp_ge (tgt := 36) hx hb dX1_start_18 (by decide) (fun hc => absurd hc (by decide)) (fun _ => ?_)
  refine lv_aload_n hx hb dX1_start_21 rfl (lv_at hl 1 rfl) ?_
  refine va_get (D := G.1) (ci := 1) (v := .ref a1) (C := "Sourcewright$Builder") (T := TX1) (N := 16) hx hb hts inX1 hown hK hP 0 rfl rfl 11 (by decide) (hts _ wq_352) (fun _ h9 => h9) rfl dX1_start_22 ?_
  refine lv_iload_n hx hb dX1_start_25 rfl (lv_at hl 0 rfl) ?_
  refine lv_sipush (v := 255) hx hb dX1_start_26 (by decide) ?_
  refine va_iast hx hb hK hP hD hS 1 0 rfl rfl (pz_vi rfl) dX1_start_29 (fun H locs hP hD hS => ?_)
  have hP : va_P G.1 pz_cl [(a0, .inr (1, [.ref a4, .ref a5, .ref a6, .ref a7, .ref a2, .ref a8, .ref a9, .ref a10, .ref a11, .ref a12, .ref a13, .ref a1, .int 0, .int 0, .int 0, .int 0])), (a1, .inl (G.2 0, 120, .inl (upd (upd (upd (upd (g7) 63 255) 64 255) 65 255) 66 255))), (a2, .inr (2, [.ref a3, .ref a14, .int 0])), (a3, .inl (G.2 0, 240, .inl (f1)))] H := hP
  have hD : va_D A [(a0, .inr (1, [.ref a4, .ref a5, .ref a6, .ref a7, .ref a2, .ref a8, .ref a9, .ref a10, .ref a11, .ref a12, .ref a13, .ref a1, .int 0, .int 0, .int 0, .int 0])), (a1, .inl (G.2 0, 120, .inl (upd (upd (upd (upd (g7) 63 255) 64 255) 65 255) 66 255))), (a2, .inr (2, [.ref a3, .ref a14, .int 0])), (a3, .inl (G.2 0, 240, .inl (f1)))] := hD
  refine lv_iinc (v := 67) (lv' := [(2, .int 67), (0, .ref a0), (1, .int 0)]) hx hb dX1_start_30 hl (k := 0) rfl (by decide) (by decide) rfl (fun ls hl => ?_)
  refine lv_goto (tgt := 12) hx hb dX1_start_33 (by decide) ?_
  refine lv_iload_n hx hb dX1_start_12 rfl (lv_at hl 0 rfl) ?_
  refine lv_aload_n hx hb dX1_start_13 rfl (lv_at hl 1 rfl) ?_
  refine va_get (D := G.1) (ci := 1) (v := .ref a1) (C := "Sourcewright$Builder") (T := TX1) (N := 16) hx hb hts inX1 hown hK hP 0 rfl rfl 11 (by decide) (hts _ wq_352) (fun _ h9 => h9) rfl dX1_start_14 ?_
  refine va_alen (v := 120) hx hb hK hP 1 0 rfl rfl (by show Int32.ofNat 120 = 120; decide) dX1_start_17 ?_
  refine lv_icmp_ge (tgt := 36) hx hb dX1_start_18 (by decide) (fun hc => absurd hc (by decide)) (fun _ => ?_)
  refine lv_aload_n hx hb dX1_start_21 rfl (lv_at hl 1 rfl) ?_
  refine va_get (D := G.1) (ci := 1) (v := .ref a1) (C := "Sourcewright$Builder") (T := TX1) (N := 16) hx hb hts inX1 hown hK hP 0 rfl rfl 11 (by decide) (hts _ wq_352) (fun _ h9 => h9) rfl dX1_start_22 ?_
  refine lv_iload_n hx hb dX1_start_25 rfl (lv_at hl 0 rfl) ?_
  refine lv_sipush (v := 255) hx hb dX1_start_26 (by decide) ?_
  refine va_iast hx hb hK hP hD hS 1 0 rfl rfl (pz_vi rfl) dX1_start_29 (fun H locs hP hD hS => ?_)
  have hP : va_P G.1 pz_cl [(a0, .inr (1, [.ref a4, .ref a5, .ref a6, .ref a7, .ref a2, .ref a8, .ref a9, .ref a10, .ref a11, .ref a12, .ref a13, .ref a1, .int 0, .int 0, .int 0, .int 0])), (a1, .inl (G.2 0, 120, .inl (upd (upd (upd (upd (upd (g7) 63 255) 64 255) 65 255) 66 255) 67 255))), (a2, .inr (2, [.ref a3, .ref a14, .int 0])), (a3, .inl (G.2 0, 240, .inl (f1)))] H := hP
  have hD : va_D A [(a0, .inr (1, [.ref a4, .ref a5, .ref a6, .ref a7, .ref a2, .ref a8, .ref a9, .ref a10, .ref a11, .ref a12, .ref a13, .ref a1, .int 0, .int 0, .int 0, .int 0])), (a1, .inl (G.2 0, 120, .inl (upd (upd (upd (upd (upd (g7) 63 255) 64 255) 65 255) 66 255) 67 255))), (a2, .inr (2, [.ref a3, .ref a14, .int 0])), (a3, .inl (G.2 0, 240, .inl (f1)))] := hD
  refine lv_iinc (v := 68) (lv' := [(2, .int 68), (0, .ref a0), (1, .int 0)]) hx hb dX1_start_30 hl (k := 0) rfl (by decide) (by decide) rfl (fun ls hl => ?_)
  refine lv_goto (tgt := 12) hx hb dX1_start_33 (by decide) ?_
  refine lv_iload_n hx hb dX1_start_12 rfl (lv_at hl 0 rfl) ?_
  refine lv_aload_n hx hb dX1_start_13 rfl (lv_at hl 1 rfl) ?_
  refine va_get (D := G.1) (ci := 1) (v := .ref a1) (C := "Sourcewright$Builder") (T := TX1) (N := 16) hx hb hts inX1 hown hK hP 0 rfl rfl 11 (by decide) (hts _ wq_352) (fun _ h9 => h9) rfl dX1_start_14 ?_
  refine va_alen (v := 120) hx hb hK hP 1 0 rfl rfl (by show Int32.ofNat 120 = 120; decide) dX1_start_17 ?_
  refine lv_icmp_ge (tgt := 36) hx hb dX1_start_18 (by decide) (fun hc => absurd hc (by decide)) (fun _ => ?_)
  refine lv_aload_n hx hb dX1_start_21 rfl (lv_at hl 1 rfl) ?_
  refine va_get (D := G.1) (ci := 1) (v := .ref a1) (C := "Sourcewright$Builder") (T := TX1) (N := 16) hx hb hts inX1 hown hK hP 0 rfl rfl 11 (by decide) (hts _ wq_352) (fun _ h9 => h9) rfl dX1_start_22 ?_
  refine lv_iload_n hx hb dX1_start_25 rfl (lv_at hl 0 rfl) ?_
  refine lv_sipush (v := 255) hx hb dX1_start_26 (by decide) ?_
  refine va_iast hx hb hK hP hD hS 1 0 rfl rfl (pz_vi rfl) dX1_start_29 (fun H locs hP hD hS => ?_)
  have hP : va_P G.1 pz_cl [(a0, .inr (1, [.ref a4, .ref a5, .ref a6, .ref a7, .ref a2, .ref a8, .ref a9, .ref a10, .ref a11, .ref a12, .ref a13, .ref a1, .int 0, .int 0, .int 0, .int 0])), (a1, .inl (G.2 0, 120, .inl (upd (upd (upd (upd (upd (upd (g7) 63 255) 64 255) 65 255) 66 255) 67 255) 68 255))), (a2, .inr (2, [.ref a3, .ref a14, .int 0])), (a3, .inl (G.2 0, 240, .inl (f1)))] H := hP
  have hD : va_D A [(a0, .inr (1, [.ref a4, .ref a5, .ref a6, .ref a7, .ref a2, .ref a8, .ref a9, .ref a10, .ref a11, .ref a12, .ref a13, .ref a1, .int 0, .int 0, .int 0, .int 0])), (a1, .inl (G.2 0, 120, .inl (upd (upd (upd (upd (upd (upd (g7) 63 255) 64 255) 65 255) 66 255) 67 255) 68 255))), (a2, .inr (2, [.ref a3, .ref a14, .int 0])), (a3, .inl (G.2 0, 240, .inl (f1)))] := hD
  refine lv_iinc (v := 69) (lv' := [(2, .int 69), (0, .ref a0), (1, .int 0)]) hx hb dX1_start_30 hl (k := 0) rfl (by decide) (by decide) rfl (fun ls hl => ?_)
  refine lv_goto (tgt := 12) hx hb dX1_start_33 (by decide) ?_
  refine lv_iload_n hx hb dX1_start_12 rfl (lv_at hl 0 rfl) ?_
  refine lv_aload_n hx hb dX1_start_13 rfl (lv_at hl 1 rfl) ?_
  refine va_get (D := G.1) (ci := 1) (v := .ref a1) (C := "Sourcewright$Builder") (T := TX1) (N := 16) hx hb hts inX1 hown hK hP 0 rfl rfl 11 (by decide) (hts _ wq_352) (fun _ h9 => h9) rfl dX1_start_14 ?_
  refine va_alen (v := 120) hx hb hK hP 1 0 rfl rfl (by show Int32.ofNat 120 = 120; decide) dX1_start_17 ?_
  refine lv_icmp_ge (tgt := 36) hx hb dX1_start_18 (by decide) (fun hc => absurd hc (by decide)) (fun _ => ?_)
  refine lv_aload_n hx hb dX1_start_21 rfl (lv_at hl 1 rfl) ?_
  refine va_get (D := G.1) (ci := 1) (v := .ref a1) (C := "Sourcewright$Builder") (T := TX1) (N := 16) hx hb hts inX1 hown hK hP 0 rfl rfl 11 (by decide) (hts _ wq_352) (fun _ h9 => h9) rfl dX1_start_22 ?_
  refine lv_iload_n hx hb dX1_start_25 rfl (lv_at hl 0 rfl) ?_
  refine lv_sipush (v := 255) hx hb dX1_start_26 (by decide) ?_
  refine va_iast hx hb hK hP hD hS 1 0 rfl rfl (pz_vi rfl) dX1_start_29 (fun H locs hP hD hS => ?_)
  have hP : va_P G.1 pz_cl [(a0, .inr (1, [.ref a4, .ref a5, .ref a6, .ref a7, .ref a2, .ref a8, .ref a9, .ref a10, .ref a11, .ref a12, .ref a13, .ref a1, .int 0, .int 0, .int 0, .int 0])), (a1, .inl (G.2 0, 120, .inl (upd (upd (upd (upd (upd (upd (upd (g7) 63 255) 64 255) 65 255) 66 255) 67 255) 68 255) 69 255))), (a2, .inr (2, [.ref a3, .ref a14, .int 0])), (a3, .inl (G.2 0, 240, .inl (f1)))] H := hP
  have hD : va_D A [(a0, .inr (1, [.ref a4, .ref a5, .ref a6, .ref a7, .ref a2, .ref a8, .ref a9, .ref a10, .ref a11, .ref a12, .ref a13, .ref a1, .int 0, .int 0, .int 0, .int 0])), (a1, .inl (G.2 0, 120, .inl (upd (upd (upd (upd (upd (upd (upd (g7) 63 255) 64 255) 65 255) 66 255) 67 255) 68 255) 69 255))), (a2, .inr (2, [.ref a3, .ref a14, .int 0])), (a3, .inl (G.2 0, 240, .inl (f1)))] := hD
  refine lv_iinc (v := 70) (lv' := [(2, .int 70), (0, .ref a0), (1, .int 0)]) hx hb dX1_start_30 hl (k := 0) rfl (by decide) (by decide) rfl (fun ls hl => ?_)
  refine lv_goto (tgt := 12) hx hb dX1_start_33 (by decide) ?_
  refine lv_iload_n hx hb dX1_start_12 rfl (lv_at hl 0 rfl) ?_
  refine lv_aload_n hx hb dX1_start_13 rfl (lv_at hl 1 rfl) ?_
  refine va_get (D := G.1) (ci := 1) (v := .ref a1) (C := "Sourcewright$Builder") (T := TX1) (N := 16) hx hb hts inX1 hown hK hP 0 rfl rfl 11 (by decide) (hts _ wq_352) (fun _ h9 => h9) rfl dX1_start_14 ?_
  refine va_alen (v := 120) hx hb hK hP 1 0 rfl rfl (by show Int32.ofNat 120 = 120; decide) dX1_start_17 ?_
  refine lv_icmp_ge (tgt := 36) hx hb dX1_start_18 (by decide) (fun hc => absurd hc (by decide)) (fun _ => ?_)
  refine lv_aload_n hx hb dX1_start_21 rfl (lv_at hl 1 rfl) ?_
  refine va_get (D := G.1) (ci := 1) (v := .ref a1) (C := "Sourcewright$Builder") (T := TX1) (N := 16) hx hb hts inX1 hown hK hP 0 rfl rfl 11 (by decide) (hts _ wq_352) (fun _ h9 => h9) rfl dX1_start_22 ?_
  refine lv_iload_n hx hb dX1_start_25 rfl (lv_at hl 0 rfl) ?_
  refine lv_sipush (v := 255) hx hb dX1_start_26 (by decide) ?_
  refine va_iast hx hb hK hP hD hS 1 0 rfl rfl (pz_vi rfl) dX1_start_29 (fun H locs hP hD hS => ?_)
  have hP : va_P G.1 pz_cl [(a0, .inr (1, [.ref a4, .ref a5, .ref a6, .ref a7, .ref a2, .ref a8, .ref a9, .ref a10, .ref a11, .ref a12, .ref a13, .ref a1, .int 0, .int 0, .int 0, .int 0])), (a1, .inl (G.2 0, 120, .inl (upd (upd (upd (upd (upd (upd (upd (upd (g7) 63 255) 64 255) 65 255) 66 255) 67 255) 68 255) 69 255) 70 255))), (a2, .inr (2, [.ref a3, .ref a14, .int 0])), (a3, .inl (G.2 0, 240, .inl (f1)))] H := hP
  have hD : va_D A [(a0, .inr (1, [.ref a4, .ref a5, .ref a6, .ref a7, .ref a2, .ref a8, .ref a9, .ref a10, .ref a11, .ref a12, .ref a13, .ref a1, .int 0, .int 0, .int 0, .int 0])), (a1, .inl (G.2 0, 120, .inl (upd (upd (upd (upd (upd (upd (upd (upd (g7) 63 255) 64 255) 65 255) 66 255) 67 255) 68 255) 69 255) 70 255))), (a2, .inr (2, [.ref a3, .ref a14, .int 0])), (a3, .inl (G.2 0, 240, .inl (f1)))] := hD
  refine lv_iinc (v := 71) (lv' := [(2, .int 71), (0, .ref a0), (1, .int 0)]) hx hb dX1_start_30 hl (k := 0) rfl (by decide) (by decide) rfl (fun ls hl => ?_)
  refine lv_goto (tgt := 12) hx hb dX1_start_33 (by decide) ?_
  refine lv_iload_n hx hb dX1_start_12 rfl (lv_at hl 0 rfl) ?_
  refine lv_aload_n hx hb dX1_start_13 rfl (lv_at hl 1 rfl) ?_
  refine va_get (D := G.1) (ci := 1) (v := .ref a1) (C := "Sourcewright$Builder") (T := TX1) (N := 16) hx hb hts inX1 hown hK hP 0 rfl rfl 11 (by decide) (hts _ wq_352) (fun _ h9 => h9) rfl dX1_start_14 ?_
  refine va_alen (v := 120) hx hb hK hP 1 0 rfl rfl (by show Int32.ofNat 120 = 120; decide) dX1_start_17 ?_
  refine lv_icmp_ge (tgt := 36) hx hb dX1_start_18 (by decide) (fun hc => absurd hc (by decide)) (fun _ => ?_)
  refine lv_aload_n hx hb dX1_start_21 rfl (lv_at hl 1 rfl) ?_
  refine va_get (D := G.1) (ci := 1) (v := .ref a1) (C := "Sourcewright$Builder") (T := TX1) (N := 16) hx hb hts inX1 hown hK hP 0 rfl rfl 11 (by decide) (hts _ wq_352) (fun _ h9 => h9) rfl dX1_start_22 ?_
  refine lv_iload_n hx hb dX1_start_25 rfl (lv_at hl 0 rfl) ?_
  refine lv_sipush (v := 255) hx hb dX1_start_26 (by decide) ?_
  refine va_iast hx hb hK hP hD hS 1 0 rfl rfl (pz_vi rfl) dX1_start_29 (fun H locs hP hD hS => ?_)
  obtain ⟨g8, hg8⟩ : ∃ z, z = upd (upd (upd (upd (upd (upd (upd (upd (upd (g7) 63 255) 64 255) 65 255) 66 255) 67 255) 68 255) 69 255) 70 255) 71 255 := ⟨_, rfl⟩
  have hP : va_P G.1 pz_cl [(a0, .inr (1, [.ref a4, .ref a5, .ref a6, .ref a7, .ref a2, .ref a8, .ref a9, .ref a10, .ref a11, .ref a12, .ref a13, .ref a1, .int 0, .int 0, .int 0, .int 0])), (a1, .inl (G.2 0, 120, .inl (g8))), (a2, .inr (2, [.ref a3, .ref a14, .int 0])), (a3, .inl (G.2 0, 240, .inl (f1)))] H := by rw [hg8]; exact hP
  have hD : va_D A [(a0, .inr (1, [.ref a4, .ref a5, .ref a6, .ref a7, .ref a2, .ref a8, .ref a9, .ref a10, .ref a11, .ref a12, .ref a13, .ref a1, .int 0, .int 0, .int 0, .int 0])), (a1, .inl (G.2 0, 120, .inl (g8))), (a2, .inr (2, [.ref a3, .ref a14, .int 0])), (a3, .inl (G.2 0, 240, .inl (f1)))] := by rw [hg8]; exact hD
  refine lv_iinc (v := 72) (lv' := [(2, .int 72), (0, .ref a0), (1, .int 0)]) hx hb dX1_start_30 hl (k := 0) rfl (by decide) (by decide) rfl (fun ls hl => ?_)
  refine lv_goto (tgt := 12) hx hb dX1_start_33 (by decide) ?_
  refine lv_iload_n hx hb dX1_start_12 rfl (lv_at hl 0 rfl) ?_
  refine lv_aload_n hx hb dX1_start_13 rfl (lv_at hl 1 rfl) ?_
  refine va_get (D := G.1) (ci := 1) (v := .ref a1) (C := "Sourcewright$Builder") (T := TX1) (N := 16) hx hb hts inX1 hown hK hP 0 rfl rfl 11 (by decide) (hts _ wq_352) (fun _ h9 => h9) rfl dX1_start_14 ?_
  refine va_alen (v := 120) hx hb hK hP 1 0 rfl rfl (by show Int32.ofNat 120 = 120; decide) dX1_start_17 ?_
  refine lv_icmp_ge (tgt := 36) hx hb dX1_start_18 (by decide) (fun hc => absurd hc (by decide)) (fun _ => ?_)
  refine lv_aload_n hx hb dX1_start_21 rfl (lv_at hl 1 rfl) ?_
  refine va_get (D := G.1) (ci := 1) (v := .ref a1) (C := "Sourcewright$Builder") (T := TX1) (N := 16) hx hb hts inX1 hown hK hP 0 rfl rfl 11 (by decide) (hts _ wq_352) (fun _ h9 => h9) rfl dX1_start_22 ?_
  refine lv_iload_n hx hb dX1_start_25 rfl (lv_at hl 0 rfl) ?_
  refine lv_sipush (v := 255) hx hb dX1_start_26 (by decide) ?_
  refine va_iast hx hb hK hP hD hS 1 0 rfl rfl (pz_vi rfl) dX1_start_29 (fun H locs hP hD hS => ?_)
  have hP : va_P G.1 pz_cl [(a0, .inr (1, [.ref a4, .ref a5, .ref a6, .ref a7, .ref a2, .ref a8, .ref a9, .ref a10, .ref a11, .ref a12, .ref a13, .ref a1, .int 0, .int 0, .int 0, .int 0])), (a1, .inl (G.2 0, 120, .inl (upd (g8) 72 255))), (a2, .inr (2, [.ref a3, .ref a14, .int 0])), (a3, .inl (G.2 0, 240, .inl (f1)))] H := hP
  have hD : va_D A [(a0, .inr (1, [.ref a4, .ref a5, .ref a6, .ref a7, .ref a2, .ref a8, .ref a9, .ref a10, .ref a11, .ref a12, .ref a13, .ref a1, .int 0, .int 0, .int 0, .int 0])), (a1, .inl (G.2 0, 120, .inl (upd (g8) 72 255))), (a2, .inr (2, [.ref a3, .ref a14, .int 0])), (a3, .inl (G.2 0, 240, .inl (f1)))] := hD
  refine lv_iinc (v := 73) (lv' := [(2, .int 73), (0, .ref a0), (1, .int 0)]) hx hb dX1_start_30 hl (k := 0) rfl (by decide) (by decide) rfl (fun ls hl => ?_)
  refine lv_goto (tgt := 12) hx hb dX1_start_33 (by decide) ?_
  refine lv_iload_n hx hb dX1_start_12 rfl (lv_at hl 0 rfl) ?_
  refine lv_aload_n hx hb dX1_start_13 rfl (lv_at hl 1 rfl) ?_
  refine va_get (D := G.1) (ci := 1) (v := .ref a1) (C := "Sourcewright$Builder") (T := TX1) (N := 16) hx hb hts inX1 hown hK hP 0 rfl rfl 11 (by decide) (hts _ wq_352) (fun _ h9 => h9) rfl dX1_start_14 ?_
  refine va_alen (v := 120) hx hb hK hP 1 0 rfl rfl (by show Int32.ofNat 120 = 120; decide) dX1_start_17 ?_
  refine lv_icmp_ge (tgt := 36) hx hb dX1_start_18 (by decide) (fun hc => absurd hc (by decide)) (fun _ => ?_)
  refine lv_aload_n hx hb dX1_start_21 rfl (lv_at hl 1 rfl) ?_
  refine va_get (D := G.1) (ci := 1) (v := .ref a1) (C := "Sourcewright$Builder") (T := TX1) (N := 16) hx hb hts inX1 hown hK hP 0 rfl rfl 11 (by decide) (hts _ wq_352) (fun _ h9 => h9) rfl dX1_start_22 ?_
  refine lv_iload_n hx hb dX1_start_25 rfl (lv_at hl 0 rfl) ?_
  refine lv_sipush (v := 255) hx hb dX1_start_26 (by decide) ?_
  refine va_iast hx hb hK hP hD hS 1 0 rfl rfl (pz_vi rfl) dX1_start_29 (fun H locs hP hD hS => ?_)
  have hP : va_P G.1 pz_cl [(a0, .inr (1, [.ref a4, .ref a5, .ref a6, .ref a7, .ref a2, .ref a8, .ref a9, .ref a10, .ref a11, .ref a12, .ref a13, .ref a1, .int 0, .int 0, .int 0, .int 0])), (a1, .inl (G.2 0, 120, .inl (upd (upd (g8) 72 255) 73 255))), (a2, .inr (2, [.ref a3, .ref a14, .int 0])), (a3, .inl (G.2 0, 240, .inl (f1)))] H := hP
  have hD : va_D A [(a0, .inr (1, [.ref a4, .ref a5, .ref a6, .ref a7, .ref a2, .ref a8, .ref a9, .ref a10, .ref a11, .ref a12, .ref a13, .ref a1, .int 0, .int 0, .int 0, .int 0])), (a1, .inl (G.2 0, 120, .inl (upd (upd (g8) 72 255) 73 255))), (a2, .inr (2, [.ref a3, .ref a14, .int 0])), (a3, .inl (G.2 0, 240, .inl (f1)))] := hD
  refine lv_iinc (v := 74) (lv' := [(2, .int 74), (0, .ref a0), (1, .int 0)]) hx hb dX1_start_30 hl (k := 0) rfl (by decide) (by decide) rfl (fun ls hl => ?_)
  refine lv_goto (tgt := 12) hx hb dX1_start_33 (by decide) ?_
  refine lv_iload_n hx hb dX1_start_12 rfl (lv_at hl 0 rfl) ?_
  refine lv_aload_n hx hb dX1_start_13 rfl (lv_at hl 1 rfl) ?_
  refine va_get (D := G.1) (ci := 1) (v := .ref a1) (C := "Sourcewright$Builder") (T := TX1) (N := 16) hx hb hts inX1 hown hK hP 0 rfl rfl 11 (by decide) (hts _ wq_352) (fun _ h9 => h9) rfl dX1_start_14 ?_
  refine va_alen (v := 120) hx hb hK hP 1 0 rfl rfl (by show Int32.ofNat 120 = 120; decide) dX1_start_17 ?_
  refine lv_icmp_ge (tgt := 36) hx hb dX1_start_18 (by decide) (fun hc => absurd hc (by decide)) (fun _ => ?_)
  refine lv_aload_n hx hb dX1_start_21 rfl (lv_at hl 1 rfl) ?_
  refine va_get (D := G.1) (ci := 1) (v := .ref a1) (C := "Sourcewright$Builder") (T := TX1) (N := 16) hx hb hts inX1 hown hK hP 0 rfl rfl 11 (by decide) (hts _ wq_352) (fun _ h9 => h9) rfl dX1_start_22 ?_
  refine lv_iload_n hx hb dX1_start_25 rfl (lv_at hl 0 rfl) ?_
  refine lv_sipush (v := 255) hx hb dX1_start_26 (by decide) ?_
  refine va_iast hx hb hK hP hD hS 1 0 rfl rfl (pz_vi rfl) dX1_start_29 (fun H locs hP hD hS => ?_)
  have hP : va_P G.1 pz_cl [(a0, .inr (1, [.ref a4, .ref a5, .ref a6, .ref a7, .ref a2, .ref a8, .ref a9, .ref a10, .ref a11, .ref a12, .ref a13, .ref a1, .int 0, .int 0, .int 0, .int 0])), (a1, .inl (G.2 0, 120, .inl (upd (upd (upd (g8) 72 255) 73 255) 74 255))), (a2, .inr (2, [.ref a3, .ref a14, .int 0])), (a3, .inl (G.2 0, 240, .inl (f1)))] H := hP
  have hD : va_D A [(a0, .inr (1, [.ref a4, .ref a5, .ref a6, .ref a7, .ref a2, .ref a8, .ref a9, .ref a10, .ref a11, .ref a12, .ref a13, .ref a1, .int 0, .int 0, .int 0, .int 0])), (a1, .inl (G.2 0, 120, .inl (upd (upd (upd (g8) 72 255) 73 255) 74 255))), (a2, .inr (2, [.ref a3, .ref a14, .int 0])), (a3, .inl (G.2 0, 240, .inl (f1)))] := hD
  refine lv_iinc (v := 75) (lv' := [(2, .int 75), (0, .ref a0), (1, .int 0)]) hx hb dX1_start_30 hl (k := 0) rfl (by decide) (by decide) rfl (fun ls hl => ?_)
  refine lv_goto (tgt := 12) hx hb dX1_start_33 (by decide) ?_
  refine lv_iload_n hx hb dX1_start_12 rfl (lv_at hl 0 rfl) ?_
  refine lv_aload_n hx hb dX1_start_13 rfl (lv_at hl 1 rfl) ?_
  refine va_get (D := G.1) (ci := 1) (v := .ref a1) (C := "Sourcewright$Builder") (T := TX1) (N := 16) hx hb hts inX1 hown hK hP 0 rfl rfl 11 (by decide) (hts _ wq_352) (fun _ h9 => h9) rfl dX1_start_14 ?_
  refine va_alen (v := 120) hx hb hK hP 1 0 rfl rfl (by show Int32.ofNat 120 = 120; decide) dX1_start_17 ?_
  refine lv_icmp_ge (tgt := 36) hx hb dX1_start_18 (by decide) (fun hc => absurd hc (by decide)) (fun _ => ?_)
  refine lv_aload_n hx hb dX1_start_21 rfl (lv_at hl 1 rfl) ?_
  refine va_get (D := G.1) (ci := 1) (v := .ref a1) (C := "Sourcewright$Builder") (T := TX1) (N := 16) hx hb hts inX1 hown hK hP 0 rfl rfl 11 (by decide) (hts _ wq_352) (fun _ h9 => h9) rfl dX1_start_22 ?_
  refine lv_iload_n hx hb dX1_start_25 rfl (lv_at hl 0 rfl) ?_
  refine lv_sipush (v := 255) hx hb dX1_start_26 (by decide) ?_
  refine va_iast hx hb hK hP hD hS 1 0 rfl rfl (pz_vi rfl) dX1_start_29 (fun H locs hP hD hS => ?_)
  have hP : va_P G.1 pz_cl [(a0, .inr (1, [.ref a4, .ref a5, .ref a6, .ref a7, .ref a2, .ref a8, .ref a9, .ref a10, .ref a11, .ref a12, .ref a13, .ref a1, .int 0, .int 0, .int 0, .int 0])), (a1, .inl (G.2 0, 120, .inl (upd (upd (upd (upd (g8) 72 255) 73 255) 74 255) 75 255))), (a2, .inr (2, [.ref a3, .ref a14, .int 0])), (a3, .inl (G.2 0, 240, .inl (f1)))] H := hP
  have hD : va_D A [(a0, .inr (1, [.ref a4, .ref a5, .ref a6, .ref a7, .ref a2, .ref a8, .ref a9, .ref a10, .ref a11, .ref a12, .ref a13, .ref a1, .int 0, .int 0, .int 0, .int 0])), (a1, .inl (G.2 0, 120, .inl (upd (upd (upd (upd (g8) 72 255) 73 255) 74 255) 75 255))), (a2, .inr (2, [.ref a3, .ref a14, .int 0])), (a3, .inl (G.2 0, 240, .inl (f1)))] := hD
  refine lv_iinc (v := 76) (lv' := [(2, .int 76), (0, .ref a0), (1, .int 0)]) hx hb dX1_start_30 hl (k := 0) rfl (by decide) (by decide) rfl (fun ls hl => ?_)
  refine lv_goto (tgt := 12) hx hb dX1_start_33 (by decide) ?_
  refine lv_iload_n hx hb dX1_start_12 rfl (lv_at hl 0 rfl) ?_
  refine lv_aload_n hx hb dX1_start_13 rfl (lv_at hl 1 rfl) ?_
  refine va_get (D := G.1) (ci := 1) (v := .ref a1) (C := "Sourcewright$Builder") (T := TX1) (N := 16) hx hb hts inX1 hown hK hP 0 rfl rfl 11 (by decide) (hts _ wq_352) (fun _ h9 => h9) rfl dX1_start_14 ?_
  refine va_alen (v := 120) hx hb hK hP 1 0 rfl rfl (by show Int32.ofNat 120 = 120; decide) dX1_start_17 ?_
  refine lv_icmp_ge (tgt := 36) hx hb dX1_start_18 (by decide) (fun hc => absurd hc (by decide)) (fun _ => ?_)
  refine lv_aload_n hx hb dX1_start_21 rfl (lv_at hl 1 rfl) ?_
  refine va_get (D := G.1) (ci := 1) (v := .ref a1) (C := "Sourcewright$Builder") (T := TX1) (N := 16) hx hb hts inX1 hown hK hP 0 rfl rfl 11 (by decide) (hts _ wq_352) (fun _ h9 => h9) rfl dX1_start_22 ?_
  refine lv_iload_n hx hb dX1_start_25 rfl (lv_at hl 0 rfl) ?_
  refine lv_sipush (v := 255) hx hb dX1_start_26 (by decide) ?_
  refine va_iast hx hb hK hP hD hS 1 0 rfl rfl (pz_vi rfl) dX1_start_29 (fun H locs hP hD hS => ?_)
  have hP : va_P G.1 pz_cl [(a0, .inr (1, [.ref a4, .ref a5, .ref a6, .ref a7, .ref a2, .ref a8, .ref a9, .ref a10, .ref a11, .ref a12, .ref a13, .ref a1, .int 0, .int 0, .int 0, .int 0])), (a1, .inl (G.2 0, 120, .inl (upd (upd (upd (upd (upd (g8) 72 255) 73 255) 74 255) 75 255) 76 255))), (a2, .inr (2, [.ref a3, .ref a14, .int 0])), (a3, .inl (G.2 0, 240, .inl (f1)))] H := hP
  have hD : va_D A [(a0, .inr (1, [.ref a4, .ref a5, .ref a6, .ref a7, .ref a2, .ref a8, .ref a9, .ref a10, .ref a11, .ref a12, .ref a13, .ref a1, .int 0, .int 0, .int 0, .int 0])), (a1, .inl (G.2 0, 120, .inl (upd (upd (upd (upd (upd (g8) 72 255) 73 255) 74 255) 75 255) 76 255))), (a2, .inr (2, [.ref a3, .ref a14, .int 0])), (a3, .inl (G.2 0, 240, .inl (f1)))] := hD
  refine lv_iinc (v := 77) (lv' := [(2, .int 77), (0, .ref a0), (1, .int 0)]) hx hb dX1_start_30 hl (k := 0) rfl (by decide) (by decide) rfl (fun ls hl => ?_)
  refine lv_goto (tgt := 12) hx hb dX1_start_33 (by decide) ?_
  refine lv_iload_n hx hb dX1_start_12 rfl (lv_at hl 0 rfl) ?_
  refine lv_aload_n hx hb dX1_start_13 rfl (lv_at hl 1 rfl) ?_
  refine va_get (D := G.1) (ci := 1) (v := .ref a1) (C := "Sourcewright$Builder") (T := TX1) (N := 16) hx hb hts inX1 hown hK hP 0 rfl rfl 11 (by decide) (hts _ wq_352) (fun _ h9 => h9) rfl dX1_start_14 ?_
  refine va_alen (v := 120) hx hb hK hP 1 0 rfl rfl (by show Int32.ofNat 120 = 120; decide) dX1_start_17 ?_
  refine lv_icmp_ge (tgt := 36) hx hb dX1_start_18 (by decide) (fun hc => absurd hc (by decide)) (fun _ => ?_)
  refine lv_aload_n hx hb dX1_start_21 rfl (lv_at hl 1 rfl) ?_
  refine va_get (D := G.1) (ci := 1) (v := .ref a1) (C := "Sourcewright$Builder") (T := TX1) (N := 16) hx hb hts inX1 hown hK hP 0 rfl rfl 11 (by decide) (hts _ wq_352) (fun _ h9 => h9) rfl dX1_start_22 ?_
  refine lv_iload_n hx hb dX1_start_25 rfl (lv_at hl 0 rfl) ?_
  refine lv_sipush (v := 255) hx hb dX1_start_26 (by decide) ?_
  refine va_iast hx hb hK hP hD hS 1 0 rfl rfl (pz_vi rfl) dX1_start_29 (fun H locs hP hD hS => ?_)
  have hP : va_P G.1 pz_cl [(a0, .inr (1, [.ref a4, .ref a5, .ref a6, .ref a7, .ref a2, .ref a8, .ref a9, .ref a10, .ref a11, .ref a12, .ref a13, .ref a1, .int 0, .int 0, .int 0, .int 0])), (a1, .inl (G.2 0, 120, .inl (upd (upd (upd (upd (upd (upd (g8) 72 255) 73 255) 74 255) 75 255) 76 255) 77 255))), (a2, .inr (2, [.ref a3, .ref a14, .int 0])), (a3, .inl (G.2 0, 240, .inl (f1)))] H := hP
  have hD : va_D A [(a0, .inr (1, [.ref a4, .ref a5, .ref a6, .ref a7, .ref a2, .ref a8, .ref a9, .ref a10, .ref a11, .ref a12, .ref a13, .ref a1, .int 0, .int 0, .int 0, .int 0])), (a1, .inl (G.2 0, 120, .inl (upd (upd (upd (upd (upd (upd (g8) 72 255) 73 255) 74 255) 75 255) 76 255) 77 255))), (a2, .inr (2, [.ref a3, .ref a14, .int 0])), (a3, .inl (G.2 0, 240, .inl (f1)))] := hD
  refine lv_iinc (v := 78) (lv' := [(2, .int 78), (0, .ref a0), (1, .int 0)]) hx hb dX1_start_30 hl (k := 0) rfl (by decide) (by decide) rfl (fun ls hl => ?_)
  refine lv_goto (tgt := 12) hx hb dX1_start_33 (by decide) ?_
  refine lv_iload_n hx hb dX1_start_12 rfl (lv_at hl 0 rfl) ?_
  refine lv_aload_n hx hb dX1_start_13 rfl (lv_at hl 1 rfl) ?_
  refine va_get (D := G.1) (ci := 1) (v := .ref a1) (C := "Sourcewright$Builder") (T := TX1) (N := 16) hx hb hts inX1 hown hK hP 0 rfl rfl 11 (by decide) (hts _ wq_352) (fun _ h9 => h9) rfl dX1_start_14 ?_
  refine va_alen (v := 120) hx hb hK hP 1 0 rfl rfl (by show Int32.ofNat 120 = 120; decide) dX1_start_17 ?_
  refine lv_icmp_ge (tgt := 36) hx hb dX1_start_18 (by decide) (fun hc => absurd hc (by decide)) (fun _ => ?_)
  refine lv_aload_n hx hb dX1_start_21 rfl (lv_at hl 1 rfl) ?_
  refine va_get (D := G.1) (ci := 1) (v := .ref a1) (C := "Sourcewright$Builder") (T := TX1) (N := 16) hx hb hts inX1 hown hK hP 0 rfl rfl 11 (by decide) (hts _ wq_352) (fun _ h9 => h9) rfl dX1_start_22 ?_
  refine lv_iload_n hx hb dX1_start_25 rfl (lv_at hl 0 rfl) ?_
  refine lv_sipush (v := 255) hx hb dX1_start_26 (by decide) ?_
  refine va_iast hx hb hK hP hD hS 1 0 rfl rfl (pz_vi rfl) dX1_start_29 (fun H locs hP hD hS => ?_)
  have hP : va_P G.1 pz_cl [(a0, .inr (1, [.ref a4, .ref a5, .ref a6, .ref a7, .ref a2, .ref a8, .ref a9, .ref a10, .ref a11, .ref a12, .ref a13, .ref a1, .int 0, .int 0, .int 0, .int 0])), (a1, .inl (G.2 0, 120, .inl (upd (upd (upd (upd (upd (upd (upd (g8) 72 255) 73 255) 74 255) 75 255) 76 255) 77 255) 78 255))), (a2, .inr (2, [.ref a3, .ref a14, .int 0])), (a3, .inl (G.2 0, 240, .inl (f1)))] H := hP
  have hD : va_D A [(a0, .inr (1, [.ref a4, .ref a5, .ref a6, .ref a7, .ref a2, .ref a8, .ref a9, .ref a10, .ref a11, .ref a12, .ref a13, .ref a1, .int 0, .int 0, .int 0, .int 0])), (a1, .inl (G.2 0, 120, .inl (upd (upd (upd (upd (upd (upd (upd (g8) 72 255) 73 255) 74 255) 75 255) 76 255) 77 255) 78 255))), (a2, .inr (2, [.ref a3, .ref a14, .int 0])), (a3, .inl (G.2 0, 240, .inl (f1)))] := hD
  refine lv_iinc (v := 79) (lv' := [(2, .int 79), (0, .ref a0), (1, .int 0)]) hx hb dX1_start_30 hl (k := 0) rfl (by decide) (by decide) rfl (fun ls hl => ?_)
  refine lv_goto (tgt := 12) hx hb dX1_start_33 (by decide) ?_
  refine lv_iload_n hx hb dX1_start_12 rfl (lv_at hl 0 rfl) ?_
  refine lv_aload_n hx hb dX1_start_13 rfl (lv_at hl 1 rfl) ?_
  refine va_get (D := G.1) (ci := 1) (v := .ref a1) (C := "Sourcewright$Builder") (T := TX1) (N := 16) hx hb hts inX1 hown hK hP 0 rfl rfl 11 (by decide) (hts _ wq_352) (fun _ h9 => h9) rfl dX1_start_14 ?_
  refine va_alen (v := 120) hx hb hK hP 1 0 rfl rfl (by show Int32.ofNat 120 = 120; decide) dX1_start_17 ?_
  refine lv_icmp_ge (tgt := 36) hx hb dX1_start_18 (by decide) (fun hc => absurd hc (by decide)) (fun _ => ?_)
  refine lv_aload_n hx hb dX1_start_21 rfl (lv_at hl 1 rfl) ?_
  refine va_get (D := G.1) (ci := 1) (v := .ref a1) (C := "Sourcewright$Builder") (T := TX1) (N := 16) hx hb hts inX1 hown hK hP 0 rfl rfl 11 (by decide) (hts _ wq_352) (fun _ h9 => h9) rfl dX1_start_22 ?_
  refine lv_iload_n hx hb dX1_start_25 rfl (lv_at hl 0 rfl) ?_
  refine lv_sipush (v := 255) hx hb dX1_start_26 (by decide) ?_
  refine va_iast hx hb hK hP hD hS 1 0 rfl rfl (pz_vi rfl) dX1_start_29 (fun H locs hP hD hS => ?_)
  have hP : va_P G.1 pz_cl [(a0, .inr (1, [.ref a4, .ref a5, .ref a6, .ref a7, .ref a2, .ref a8, .ref a9, .ref a10, .ref a11, .ref a12, .ref a13, .ref a1, .int 0, .int 0, .int 0, .int 0])), (a1, .inl (G.2 0, 120, .inl (upd (upd (upd (upd (upd (upd (upd (upd (g8) 72 255) 73 255) 74 255) 75 255) 76 255) 77 255) 78 255) 79 255))), (a2, .inr (2, [.ref a3, .ref a14, .int 0])), (a3, .inl (G.2 0, 240, .inl (f1)))] H := hP
  have hD : va_D A [(a0, .inr (1, [.ref a4, .ref a5, .ref a6, .ref a7, .ref a2, .ref a8, .ref a9, .ref a10, .ref a11, .ref a12, .ref a13, .ref a1, .int 0, .int 0, .int 0, .int 0])), (a1, .inl (G.2 0, 120, .inl (upd (upd (upd (upd (upd (upd (upd (upd (g8) 72 255) 73 255) 74 255) 75 255) 76 255) 77 255) 78 255) 79 255))), (a2, .inr (2, [.ref a3, .ref a14, .int 0])), (a3, .inl (G.2 0, 240, .inl (f1)))] := hD
  refine lv_iinc (v := 80) (lv' := [(2, .int 80), (0, .ref a0), (1, .int 0)]) hx hb dX1_start_30 hl (k := 0) rfl (by decide) (by decide) rfl (fun ls hl => ?_)
  refine lv_goto (tgt := 12) hx hb dX1_start_33 (by decide) ?_
  refine lv_iload_n hx hb dX1_start_12 rfl (lv_at hl 0 rfl) ?_
  refine lv_aload_n hx hb dX1_start_13 rfl (lv_at hl 1 rfl) ?_
  refine va_get (D := G.1) (ci := 1) (v := .ref a1) (C := "Sourcewright$Builder") (T := TX1) (N := 16) hx hb hts inX1 hown hK hP 0 rfl rfl 11 (by decide) (hts _ wq_352) (fun _ h9 => h9) rfl dX1_start_14 ?_
  refine va_alen (v := 120) hx hb hK hP 1 0 rfl rfl (by show Int32.ofNat 120 = 120; decide) dX1_start_17 ?_
  refine lv_icmp_ge (tgt := 36) hx hb dX1_start_18 (by decide) (fun hc => absurd hc (by decide)) (fun _ => ?_)
  refine lv_aload_n hx hb dX1_start_21 rfl (lv_at hl 1 rfl) ?_
  refine va_get (D := G.1) (ci := 1) (v := .ref a1) (C := "Sourcewright$Builder") (T := TX1) (N := 16) hx hb hts inX1 hown hK hP 0 rfl rfl 11 (by decide) (hts _ wq_352) (fun _ h9 => h9) rfl dX1_start_22 ?_
  refine lv_iload_n hx hb dX1_start_25 rfl (lv_at hl 0 rfl) ?_
  refine lv_sipush (v := 255) hx hb dX1_start_26 (by decide) ?_
  refine va_iast hx hb hK hP hD hS 1 0 rfl rfl (pz_vi rfl) dX1_start_29 (fun H locs hP hD hS => ?_)
  obtain ⟨g9, hg9⟩ : ∃ z, z = upd (upd (upd (upd (upd (upd (upd (upd (upd (g8) 72 255) 73 255) 74 255) 75 255) 76 255) 77 255) 78 255) 79 255) 80 255 := ⟨_, rfl⟩
  have hP : va_P G.1 pz_cl [(a0, .inr (1, [.ref a4, .ref a5, .ref a6, .ref a7, .ref a2, .ref a8, .ref a9, .ref a10, .ref a11, .ref a12, .ref a13, .ref a1, .int 0, .int 0, .int 0, .int 0])), (a1, .inl (G.2 0, 120, .inl (g9))), (a2, .inr (2, [.ref a3, .ref a14, .int 0])), (a3, .inl (G.2 0, 240, .inl (f1)))] H := by rw [hg9]; exact hP
  have hD : va_D A [(a0, .inr (1, [.ref a4, .ref a5, .ref a6, .ref a7, .ref a2, .ref a8, .ref a9, .ref a10, .ref a11, .ref a12, .ref a13, .ref a1, .int 0, .int 0, .int 0, .int 0])), (a1, .inl (G.2 0, 120, .inl (g9))), (a2, .inr (2, [.ref a3, .ref a14, .int 0])), (a3, .inl (G.2 0, 240, .inl (f1)))] := by rw [hg9]; exact hD
  refine lv_iinc (v := 81) (lv' := [(2, .int 81), (0, .ref a0), (1, .int 0)]) hx hb dX1_start_30 hl (k := 0) rfl (by decide) (by decide) rfl (fun ls hl => ?_)
  refine lv_goto (tgt := 12) hx hb dX1_start_33 (by decide) ?_
  refine lv_iload_n hx hb dX1_start_12 rfl (lv_at hl 0 rfl) ?_
  refine lv_aload_n hx hb dX1_start_13 rfl (lv_at hl 1 rfl) ?_
  refine va_get (D := G.1) (ci := 1) (v := .ref a1) (C := "Sourcewright$Builder") (T := TX1) (N := 16) hx hb hts inX1 hown hK hP 0 rfl rfl 11 (by decide) (hts _ wq_352) (fun _ h9 => h9) rfl dX1_start_14 ?_
  refine va_alen (v := 120) hx hb hK hP 1 0 rfl rfl (by show Int32.ofNat 120 = 120; decide) dX1_start_17 ?_
  refine lv_icmp_ge (tgt := 36) hx hb dX1_start_18 (by decide) (fun hc => absurd hc (by decide)) (fun _ => ?_)
  refine lv_aload_n hx hb dX1_start_21 rfl (lv_at hl 1 rfl) ?_
  refine va_get (D := G.1) (ci := 1) (v := .ref a1) (C := "Sourcewright$Builder") (T := TX1) (N := 16) hx hb hts inX1 hown hK hP 0 rfl rfl 11 (by decide) (hts _ wq_352) (fun _ h9 => h9) rfl dX1_start_22 ?_
  refine lv_iload_n hx hb dX1_start_25 rfl (lv_at hl 0 rfl) ?_
  refine lv_sipush (v := 255) hx hb dX1_start_26 (by decide) ?_
  refine va_iast hx hb hK hP hD hS 1 0 rfl rfl (pz_vi rfl) dX1_start_29 (fun H locs hP hD hS => ?_)
  have hP : va_P G.1 pz_cl [(a0, .inr (1, [.ref a4, .ref a5, .ref a6, .ref a7, .ref a2, .ref a8, .ref a9, .ref a10, .ref a11, .ref a12, .ref a13, .ref a1, .int 0, .int 0, .int 0, .int 0])), (a1, .inl (G.2 0, 120, .inl (upd (g9) 81 255))), (a2, .inr (2, [.ref a3, .ref a14, .int 0])), (a3, .inl (G.2 0, 240, .inl (f1)))] H := hP
  have hD : va_D A [(a0, .inr (1, [.ref a4, .ref a5, .ref a6, .ref a7, .ref a2, .ref a8, .ref a9, .ref a10, .ref a11, .ref a12, .ref a13, .ref a1, .int 0, .int 0, .int 0, .int 0])), (a1, .inl (G.2 0, 120, .inl (upd (g9) 81 255))), (a2, .inr (2, [.ref a3, .ref a14, .int 0])), (a3, .inl (G.2 0, 240, .inl (f1)))] := hD
  refine lv_iinc (v := 82) (lv' := [(2, .int 82), (0, .ref a0), (1, .int 0)]) hx hb dX1_start_30 hl (k := 0) rfl (by decide) (by decide) rfl (fun ls hl => ?_)
  refine lv_goto (tgt := 12) hx hb dX1_start_33 (by decide) ?_
  refine lv_iload_n hx hb dX1_start_12 rfl (lv_at hl 0 rfl) ?_
  refine lv_aload_n hx hb dX1_start_13 rfl (lv_at hl 1 rfl) ?_
  refine va_get (D := G.1) (ci := 1) (v := .ref a1) (C := "Sourcewright$Builder") (T := TX1) (N := 16) hx hb hts inX1 hown hK hP 0 rfl rfl 11 (by decide) (hts _ wq_352) (fun _ h9 => h9) rfl dX1_start_14 ?_
  refine va_alen (v := 120) hx hb hK hP 1 0 rfl rfl (by show Int32.ofNat 120 = 120; decide) dX1_start_17 ?_
  refine lv_icmp_ge (tgt := 36) hx hb dX1_start_18 (by decide) (fun hc => absurd hc (by decide)) (fun _ => ?_)
  refine lv_aload_n hx hb dX1_start_21 rfl (lv_at hl 1 rfl) ?_
  refine va_get (D := G.1) (ci := 1) (v := .ref a1) (C := "Sourcewright$Builder") (T := TX1) (N := 16) hx hb hts inX1 hown hK hP 0 rfl rfl 11 (by decide) (hts _ wq_352) (fun _ h9 => h9) rfl dX1_start_22 ?_
  refine lv_iload_n hx hb dX1_start_25 rfl (lv_at hl 0 rfl) ?_
  refine lv_sipush (v := 255) hx hb dX1_start_26 (by decide) ?_
  refine va_iast hx hb hK hP hD hS 1 0 rfl rfl (pz_vi rfl) dX1_start_29 (fun H locs hP hD hS => ?_)
  have hP : va_P G.1 pz_cl [(a0, .inr (1, [.ref a4, .ref a5, .ref a6, .ref a7, .ref a2, .ref a8, .ref a9, .ref a10, .ref a11, .ref a12, .ref a13, .ref a1, .int 0, .int 0, .int 0, .int 0])), (a1, .inl (G.2 0, 120, .inl (upd (upd (g9) 81 255) 82 255))), (a2, .inr (2, [.ref a3, .ref a14, .int 0])), (a3, .inl (G.2 0, 240, .inl (f1)))] H := hP
  have hD : va_D A [(a0, .inr (1, [.ref a4, .ref a5, .ref a6, .ref a7, .ref a2, .ref a8, .ref a9, .ref a10, .ref a11, .ref a12, .ref a13, .ref a1, .int 0, .int 0, .int 0, .int 0])), (a1, .inl (G.2 0, 120, .inl (upd (upd (g9) 81 255) 82 255))), (a2, .inr (2, [.ref a3, .ref a14, .int 0])), (a3, .inl (G.2 0, 240, .inl (f1)))] := hD
  refine lv_iinc (v := 83) (lv' := [(2, .int 83), (0, .ref a0), (1, .int 0)]) hx hb dX1_start_30 hl (k := 0) rfl (by decide) (by decide) rfl (fun ls hl => ?_)
  refine lv_goto (tgt := 12) hx hb dX1_start_33 (by decide) ?_
  refine lv_iload_n hx hb dX1_start_12 rfl (lv_at hl 0 rfl) ?_
  refine lv_aload_n hx hb dX1_start_13 rfl (lv_at hl 1 rfl) ?_
  refine va_get (D := G.1) (ci := 1) (v := .ref a1) (C := "Sourcewright$Builder") (T := TX1) (N := 16) hx hb hts inX1 hown hK hP 0 rfl rfl 11 (by decide) (hts _ wq_352) (fun _ h9 => h9) rfl dX1_start_14 ?_
  refine va_alen (v := 120) hx hb hK hP 1 0 rfl rfl (by show Int32.ofNat 120 = 120; decide) dX1_start_17 ?_
  refine lv_icmp_ge (tgt := 36) hx hb dX1_start_18 (by decide) (fun hc => absurd hc (by decide)) (fun _ => ?_)
  refine lv_aload_n hx hb dX1_start_21 rfl (lv_at hl 1 rfl) ?_
  refine va_get (D := G.1) (ci := 1) (v := .ref a1) (C := "Sourcewright$Builder") (T := TX1) (N := 16) hx hb hts inX1 hown hK hP 0 rfl rfl 11 (by decide) (hts _ wq_352) (fun _ h9 => h9) rfl dX1_start_22 ?_
  refine lv_iload_n hx hb dX1_start_25 rfl (lv_at hl 0 rfl) ?_
  refine lv_sipush (v := 255) hx hb dX1_start_26 (by decide) ?_
  refine va_iast hx hb hK hP hD hS 1 0 rfl rfl (pz_vi rfl) dX1_start_29 (fun H locs hP hD hS => ?_)
  have hP : va_P G.1 pz_cl [(a0, .inr (1, [.ref a4, .ref a5, .ref a6, .ref a7, .ref a2, .ref a8, .ref a9, .ref a10, .ref a11, .ref a12, .ref a13, .ref a1, .int 0, .int 0, .int 0, .int 0])), (a1, .inl (G.2 0, 120, .inl (upd (upd (upd (g9) 81 255) 82 255) 83 255))), (a2, .inr (2, [.ref a3, .ref a14, .int 0])), (a3, .inl (G.2 0, 240, .inl (f1)))] H := hP
  have hD : va_D A [(a0, .inr (1, [.ref a4, .ref a5, .ref a6, .ref a7, .ref a2, .ref a8, .ref a9, .ref a10, .ref a11, .ref a12, .ref a13, .ref a1, .int 0, .int 0, .int 0, .int 0])), (a1, .inl (G.2 0, 120, .inl (upd (upd (upd (g9) 81 255) 82 255) 83 255))), (a2, .inr (2, [.ref a3, .ref a14, .int 0])), (a3, .inl (G.2 0, 240, .inl (f1)))] := hD
  refine lv_iinc (v := 84) (lv' := [(2, .int 84), (0, .ref a0), (1, .int 0)]) hx hb dX1_start_30 hl (k := 0) rfl (by decide) (by decide) rfl (fun ls hl => ?_)
  refine lv_goto (tgt := 12) hx hb dX1_start_33 (by decide) ?_
  refine lv_iload_n hx hb dX1_start_12 rfl (lv_at hl 0 rfl) ?_
  refine lv_aload_n hx hb dX1_start_13 rfl (lv_at hl 1 rfl) ?_
  refine va_get (D := G.1) (ci := 1) (v := .ref a1) (C := "Sourcewright$Builder") (T := TX1) (N := 16) hx hb hts inX1 hown hK hP 0 rfl rfl 11 (by decide) (hts _ wq_352) (fun _ h9 => h9) rfl dX1_start_14 ?_
  refine va_alen (v := 120) hx hb hK hP 1 0 rfl rfl (by show Int32.ofNat 120 = 120; decide) dX1_start_17 ?_
  refine lv_icmp_ge (tgt := 36) hx hb dX1_start_18 (by decide) (fun hc => absurd hc (by decide)) (fun _ => ?_)
  refine lv_aload_n hx hb dX1_start_21 rfl (lv_at hl 1 rfl) ?_
  refine va_get (D := G.1) (ci := 1) (v := .ref a1) (C := "Sourcewright$Builder") (T := TX1) (N := 16) hx hb hts inX1 hown hK hP 0 rfl rfl 11 (by decide) (hts _ wq_352) (fun _ h9 => h9) rfl dX1_start_22 ?_
  refine lv_iload_n hx hb dX1_start_25 rfl (lv_at hl 0 rfl) ?_
  refine lv_sipush (v := 255) hx hb dX1_start_26 (by decide) ?_
  refine va_iast hx hb hK hP hD hS 1 0 rfl rfl (pz_vi rfl) dX1_start_29 (fun H locs hP hD hS => ?_)
  have hP : va_P G.1 pz_cl [(a0, .inr (1, [.ref a4, .ref a5, .ref a6, .ref a7, .ref a2, .ref a8, .ref a9, .ref a10, .ref a11, .ref a12, .ref a13, .ref a1, .int 0, .int 0, .int 0, .int 0])), (a1, .inl (G.2 0, 120, .inl (upd (upd (upd (upd (g9) 81 255) 82 255) 83 255) 84 255))), (a2, .inr (2, [.ref a3, .ref a14, .int 0])), (a3, .inl (G.2 0, 240, .inl (f1)))] H := hP
  have hD : va_D A [(a0, .inr (1, [.ref a4, .ref a5, .ref a6, .ref a7, .ref a2, .ref a8, .ref a9, .ref a10, .ref a11, .ref a12, .ref a13, .ref a1, .int 0, .int 0, .int 0, .int 0])), (a1, .inl (G.2 0, 120, .inl (upd (upd (upd (upd (g9) 81 255) 82 255) 83 255) 84 255))), (a2, .inr (2, [.ref a3, .ref a14, .int 0])), (a3, .inl (G.2 0, 240, .inl (f1)))] := hD
  refine lv_iinc (v := 85) (lv' := [(2, .int 85), (0, .ref a0), (1, .int 0)]) hx hb dX1_start_30 hl (k := 0) rfl (by decide) (by decide) rfl (fun ls hl => ?_)
  refine lv_goto (tgt := 12) hx hb dX1_start_33 (by decide) ?_
  refine lv_iload_n hx hb dX1_start_12 rfl (lv_at hl 0 rfl) ?_
  refine lv_aload_n hx hb dX1_start_13 rfl (lv_at hl 1 rfl) ?_
  refine va_get (D := G.1) (ci := 1) (v := .ref a1) (C := "Sourcewright$Builder") (T := TX1) (N := 16) hx hb hts inX1 hown hK hP 0 rfl rfl 11 (by decide) (hts _ wq_352) (fun _ h9 => h9) rfl dX1_start_14 ?_
  refine va_alen (v := 120) hx hb hK hP 1 0 rfl rfl (by show Int32.ofNat 120 = 120; decide) dX1_start_17 ?_
  refine lv_icmp_ge (tgt := 36) hx hb dX1_start_18 (by decide) (fun hc => absurd hc (by decide)) (fun _ => ?_)
  refine lv_aload_n hx hb dX1_start_21 rfl (lv_at hl 1 rfl) ?_
  refine va_get (D := G.1) (ci := 1) (v := .ref a1) (C := "Sourcewright$Builder") (T := TX1) (N := 16) hx hb hts inX1 hown hK hP 0 rfl rfl 11 (by decide) (hts _ wq_352) (fun _ h9 => h9) rfl dX1_start_22 ?_
  refine lv_iload_n hx hb dX1_start_25 rfl (lv_at hl 0 rfl) ?_
  refine lv_sipush (v := 255) hx hb dX1_start_26 (by decide) ?_
  refine va_iast hx hb hK hP hD hS 1 0 rfl rfl (pz_vi rfl) dX1_start_29 (fun H locs hP hD hS => ?_)
  have hP : va_P G.1 pz_cl [(a0, .inr (1, [.ref a4, .ref a5, .ref a6, .ref a7, .ref a2, .ref a8, .ref a9, .ref a10, .ref a11, .ref a12, .ref a13, .ref a1, .int 0, .int 0, .int 0, .int 0])), (a1, .inl (G.2 0, 120, .inl (upd (upd (upd (upd (upd (g9) 81 255) 82 255) 83 255) 84 255) 85 255))), (a2, .inr (2, [.ref a3, .ref a14, .int 0])), (a3, .inl (G.2 0, 240, .inl (f1)))] H := hP
  have hD : va_D A [(a0, .inr (1, [.ref a4, .ref a5, .ref a6, .ref a7, .ref a2, .ref a8, .ref a9, .ref a10, .ref a11, .ref a12, .ref a13, .ref a1, .int 0, .int 0, .int 0, .int 0])), (a1, .inl (G.2 0, 120, .inl (upd (upd (upd (upd (upd (g9) 81 255) 82 255) 83 255) 84 255) 85 255))), (a2, .inr (2, [.ref a3, .ref a14, .int 0])), (a3, .inl (G.2 0, 240, .inl (f1)))] := hD
  refine lv_iinc (v := 86) (lv' := [(2, .int 86), (0, .ref a0), (1, .int 0)]) hx hb dX1_start_30 hl (k := 0) rfl (by decide) (by decide) rfl (fun ls hl => ?_)
  refine lv_goto (tgt := 12) hx hb dX1_start_33 (by decide) ?_
  refine lv_iload_n hx hb dX1_start_12 rfl (lv_at hl 0 rfl) ?_
  refine lv_aload_n hx hb dX1_start_13 rfl (lv_at hl 1 rfl) ?_
  refine va_get (D := G.1) (ci := 1) (v := .ref a1) (C := "Sourcewright$Builder") (T := TX1) (N := 16) hx hb hts inX1 hown hK hP 0 rfl rfl 11 (by decide) (hts _ wq_352) (fun _ h9 => h9) rfl dX1_start_14 ?_
  refine va_alen (v := 120) hx hb hK hP 1 0 rfl rfl (by show Int32.ofNat 120 = 120; decide) dX1_start_17 ?_
  refine lv_icmp_ge (tgt := 36) hx hb dX1_start_18 (by decide) (fun hc => absurd hc (by decide)) (fun _ => ?_)
  refine lv_aload_n hx hb dX1_start_21 rfl (lv_at hl 1 rfl) ?_
  refine va_get (D := G.1) (ci := 1) (v := .ref a1) (C := "Sourcewright$Builder") (T := TX1) (N := 16) hx hb hts inX1 hown hK hP 0 rfl rfl 11 (by decide) (hts _ wq_352) (fun _ h9 => h9) rfl dX1_start_22 ?_
  refine lv_iload_n hx hb dX1_start_25 rfl (lv_at hl 0 rfl) ?_
  refine lv_sipush (v := 255) hx hb dX1_start_26 (by decide) ?_
  refine va_iast hx hb hK hP hD hS 1 0 rfl rfl (pz_vi rfl) dX1_start_29 (fun H locs hP hD hS => ?_)
  have hP : va_P G.1 pz_cl [(a0, .inr (1, [.ref a4, .ref a5, .ref a6, .ref a7, .ref a2, .ref a8, .ref a9, .ref a10, .ref a11, .ref a12, .ref a13, .ref a1, .int 0, .int 0, .int 0, .int 0])), (a1, .inl (G.2 0, 120, .inl (upd (upd (upd (upd (upd (upd (g9) 81 255) 82 255) 83 255) 84 255) 85 255) 86 255))), (a2, .inr (2, [.ref a3, .ref a14, .int 0])), (a3, .inl (G.2 0, 240, .inl (f1)))] H := hP
  have hD : va_D A [(a0, .inr (1, [.ref a4, .ref a5, .ref a6, .ref a7, .ref a2, .ref a8, .ref a9, .ref a10, .ref a11, .ref a12, .ref a13, .ref a1, .int 0, .int 0, .int 0, .int 0])), (a1, .inl (G.2 0, 120, .inl (upd (upd (upd (upd (upd (upd (g9) 81 255) 82 255) 83 255) 84 255) 85 255) 86 255))), (a2, .inr (2, [.ref a3, .ref a14, .int 0])), (a3, .inl (G.2 0, 240, .inl (f1)))] := hD
  refine lv_iinc (v := 87) (lv' := [(2, .int 87), (0, .ref a0), (1, .int 0)]) hx hb dX1_start_30 hl (k := 0) rfl (by decide) (by decide) rfl (fun ls hl => ?_)
  refine lv_goto (tgt := 12) hx hb dX1_start_33 (by decide) ?_
  refine lv_iload_n hx hb dX1_start_12 rfl (lv_at hl 0 rfl) ?_
  refine lv_aload_n hx hb dX1_start_13 rfl (lv_at hl 1 rfl) ?_
  refine va_get (D := G.1) (ci := 1) (v := .ref a1) (C := "Sourcewright$Builder") (T := TX1) (N := 16) hx hb hts inX1 hown hK hP 0 rfl rfl 11 (by decide) (hts _ wq_352) (fun _ h9 => h9) rfl dX1_start_14 ?_
  refine va_alen (v := 120) hx hb hK hP 1 0 rfl rfl (by show Int32.ofNat 120 = 120; decide) dX1_start_17 ?_
  refine lv_icmp_ge (tgt := 36) hx hb dX1_start_18 (by decide) (fun hc => absurd hc (by decide)) (fun _ => ?_)
  refine lv_aload_n hx hb dX1_start_21 rfl (lv_at hl 1 rfl) ?_
  refine va_get (D := G.1) (ci := 1) (v := .ref a1) (C := "Sourcewright$Builder") (T := TX1) (N := 16) hx hb hts inX1 hown hK hP 0 rfl rfl 11 (by decide) (hts _ wq_352) (fun _ h9 => h9) rfl dX1_start_22 ?_
  refine lv_iload_n hx hb dX1_start_25 rfl (lv_at hl 0 rfl) ?_
  refine lv_sipush (v := 255) hx hb dX1_start_26 (by decide) ?_
  refine va_iast hx hb hK hP hD hS 1 0 rfl rfl (pz_vi rfl) dX1_start_29 (fun H locs hP hD hS => ?_)
  have hP : va_P G.1 pz_cl [(a0, .inr (1, [.ref a4, .ref a5, .ref a6, .ref a7, .ref a2, .ref a8, .ref a9, .ref a10, .ref a11, .ref a12, .ref a13, .ref a1, .int 0, .int 0, .int 0, .int 0])), (a1, .inl (G.2 0, 120, .inl (upd (upd (upd (upd (upd (upd (upd (g9) 81 255) 82 255) 83 255) 84 255) 85 255) 86 255) 87 255))), (a2, .inr (2, [.ref a3, .ref a14, .int 0])), (a3, .inl (G.2 0, 240, .inl (f1)))] H := hP
  have hD : va_D A [(a0, .inr (1, [.ref a4, .ref a5, .ref a6, .ref a7, .ref a2, .ref a8, .ref a9, .ref a10, .ref a11, .ref a12, .ref a13, .ref a1, .int 0, .int 0, .int 0, .int 0])), (a1, .inl (G.2 0, 120, .inl (upd (upd (upd (upd (upd (upd (upd (g9) 81 255) 82 255) 83 255) 84 255) 85 255) 86 255) 87 255))), (a2, .inr (2, [.ref a3, .ref a14, .int 0])), (a3, .inl (G.2 0, 240, .inl (f1)))] := hD
  refine lv_iinc (v := 88) (lv' := [(2, .int 88), (0, .ref a0), (1, .int 0)]) hx hb dX1_start_30 hl (k := 0) rfl (by decide) (by decide) rfl (fun ls hl => ?_)
  refine lv_goto (tgt := 12) hx hb dX1_start_33 (by decide) ?_
  refine lv_iload_n hx hb dX1_start_12 rfl (lv_at hl 0 rfl) ?_
  refine lv_aload_n hx hb dX1_start_13 rfl (lv_at hl 1 rfl) ?_
  refine va_get (D := G.1) (ci := 1) (v := .ref a1) (C := "Sourcewright$Builder") (T := TX1) (N := 16) hx hb hts inX1 hown hK hP 0 rfl rfl 11 (by decide) (hts _ wq_352) (fun _ h9 => h9) rfl dX1_start_14 ?_
  refine va_alen (v := 120) hx hb hK hP 1 0 rfl rfl (by show Int32.ofNat 120 = 120; decide) dX1_start_17 ?_
  refine lv_icmp_ge (tgt := 36) hx hb dX1_start_18 (by decide) (fun hc => absurd hc (by decide)) (fun _ => ?_)
  refine lv_aload_n hx hb dX1_start_21 rfl (lv_at hl 1 rfl) ?_
  refine va_get (D := G.1) (ci := 1) (v := .ref a1) (C := "Sourcewright$Builder") (T := TX1) (N := 16) hx hb hts inX1 hown hK hP 0 rfl rfl 11 (by decide) (hts _ wq_352) (fun _ h9 => h9) rfl dX1_start_22 ?_
  refine lv_iload_n hx hb dX1_start_25 rfl (lv_at hl 0 rfl) ?_
  refine lv_sipush (v := 255) hx hb dX1_start_26 (by decide) ?_
  refine va_iast hx hb hK hP hD hS 1 0 rfl rfl (pz_vi rfl) dX1_start_29 (fun H locs hP hD hS => ?_)
  have hP : va_P G.1 pz_cl [(a0, .inr (1, [.ref a4, .ref a5, .ref a6, .ref a7, .ref a2, .ref a8, .ref a9, .ref a10, .ref a11, .ref a12, .ref a13, .ref a1, .int 0, .int 0, .int 0, .int 0])), (a1, .inl (G.2 0, 120, .inl (upd (upd (upd (upd (upd (upd (upd (upd (g9) 81 255) 82 255) 83 255) 84 255) 85 255) 86 255) 87 255) 88 255))), (a2, .inr (2, [.ref a3, .ref a14, .int 0])), (a3, .inl (G.2 0, 240, .inl (f1)))] H := hP
  have hD : va_D A [(a0, .inr (1, [.ref a4, .ref a5, .ref a6, .ref a7, .ref a2, .ref a8, .ref a9, .ref a10, .ref a11, .ref a12, .ref a13, .ref a1, .int 0, .int 0, .int 0, .int 0])), (a1, .inl (G.2 0, 120, .inl (upd (upd (upd (upd (upd (upd (upd (upd (g9) 81 255) 82 255) 83 255) 84 255) 85 255) 86 255) 87 255) 88 255))), (a2, .inr (2, [.ref a3, .ref a14, .int 0])), (a3, .inl (G.2 0, 240, .inl (f1)))] := hD
  refine lv_iinc (v := 89) (lv' := [(2, .int 89), (0, .ref a0), (1, .int 0)]) hx hb dX1_start_30 hl (k := 0) rfl (by decide) (by decide) rfl (fun ls hl => ?_)
  refine lv_goto (tgt := 12) hx hb dX1_start_33 (by decide) ?_
  refine lv_iload_n hx hb dX1_start_12 rfl (lv_at hl 0 rfl) ?_
  refine lv_aload_n hx hb dX1_start_13 rfl (lv_at hl 1 rfl) ?_
  refine va_get (D := G.1) (ci := 1) (v := .ref a1) (C := "Sourcewright$Builder") (T := TX1) (N := 16) hx hb hts inX1 hown hK hP 0 rfl rfl 11 (by decide) (hts _ wq_352) (fun _ h9 => h9) rfl dX1_start_14 ?_
  refine va_alen (v := 120) hx hb hK hP 1 0 rfl rfl (by show Int32.ofNat 120 = 120; decide) dX1_start_17 ?_
  refine lv_icmp_ge (tgt := 36) hx hb dX1_start_18 (by decide) (fun hc => absurd hc (by decide)) (fun _ => ?_)
  refine lv_aload_n hx hb dX1_start_21 rfl (lv_at hl 1 rfl) ?_
  refine va_get (D := G.1) (ci := 1) (v := .ref a1) (C := "Sourcewright$Builder") (T := TX1) (N := 16) hx hb hts inX1 hown hK hP 0 rfl rfl 11 (by decide) (hts _ wq_352) (fun _ h9 => h9) rfl dX1_start_22 ?_
  refine lv_iload_n hx hb dX1_start_25 rfl (lv_at hl 0 rfl) ?_
  refine lv_sipush (v := 255) hx hb dX1_start_26 (by decide) ?_
  refine va_iast hx hb hK hP hD hS 1 0 rfl rfl (pz_vi rfl) dX1_start_29 (fun H locs hP hD hS => ?_)
  obtain ⟨g10, hg10⟩ : ∃ z, z = upd (upd (upd (upd (upd (upd (upd (upd (upd (g9) 81 255) 82 255) 83 255) 84 255) 85 255) 86 255) 87 255) 88 255) 89 255 := ⟨_, rfl⟩
  have hP : va_P G.1 pz_cl [(a0, .inr (1, [.ref a4, .ref a5, .ref a6, .ref a7, .ref a2, .ref a8, .ref a9, .ref a10, .ref a11, .ref a12, .ref a13, .ref a1, .int 0, .int 0, .int 0, .int 0])), (a1, .inl (G.2 0, 120, .inl (g10))), (a2, .inr (2, [.ref a3, .ref a14, .int 0])), (a3, .inl (G.2 0, 240, .inl (f1)))] H := by rw [hg10]; exact hP
  have hD : va_D A [(a0, .inr (1, [.ref a4, .ref a5, .ref a6, .ref a7, .ref a2, .ref a8, .ref a9, .ref a10, .ref a11, .ref a12, .ref a13, .ref a1, .int 0, .int 0, .int 0, .int 0])), (a1, .inl (G.2 0, 120, .inl (g10))), (a2, .inr (2, [.ref a3, .ref a14, .int 0])), (a3, .inl (G.2 0, 240, .inl (f1)))] := by rw [hg10]; exact hD
  refine lv_iinc (v := 90) (lv' := [(2, .int 90), (0, .ref a0), (1, .int 0)]) hx hb dX1_start_30 hl (k := 0) rfl (by decide) (by decide) rfl (fun ls hl => ?_)
  refine lv_goto (tgt := 12) hx hb dX1_start_33 (by decide) ?_
  refine lv_iload_n hx hb dX1_start_12 rfl (lv_at hl 0 rfl) ?_
  refine lv_aload_n hx hb dX1_start_13 rfl (lv_at hl 1 rfl) ?_
  refine va_get (D := G.1) (ci := 1) (v := .ref a1) (C := "Sourcewright$Builder") (T := TX1) (N := 16) hx hb hts inX1 hown hK hP 0 rfl rfl 11 (by decide) (hts _ wq_352) (fun _ h9 => h9) rfl dX1_start_14 ?_
  refine va_alen (v := 120) hx hb hK hP 1 0 rfl rfl (by show Int32.ofNat 120 = 120; decide) dX1_start_17 ?_
  refine lv_icmp_ge (tgt := 36) hx hb dX1_start_18 (by decide) (fun hc => absurd hc (by decide)) (fun _ => ?_)
  refine lv_aload_n hx hb dX1_start_21 rfl (lv_at hl 1 rfl) ?_
  refine va_get (D := G.1) (ci := 1) (v := .ref a1) (C := "Sourcewright$Builder") (T := TX1) (N := 16) hx hb hts inX1 hown hK hP 0 rfl rfl 11 (by decide) (hts _ wq_352) (fun _ h9 => h9) rfl dX1_start_22 ?_
  refine lv_iload_n hx hb dX1_start_25 rfl (lv_at hl 0 rfl) ?_
  refine lv_sipush (v := 255) hx hb dX1_start_26 (by decide) ?_
  refine va_iast hx hb hK hP hD hS 1 0 rfl rfl (pz_vi rfl) dX1_start_29 (fun H locs hP hD hS => ?_)
  have hP : va_P G.1 pz_cl [(a0, .inr (1, [.ref a4, .ref a5, .ref a6, .ref a7, .ref a2, .ref a8, .ref a9, .ref a10, .ref a11, .ref a12, .ref a13, .ref a1, .int 0, .int 0, .int 0, .int 0])), (a1, .inl (G.2 0, 120, .inl (upd (g10) 90 255))), (a2, .inr (2, [.ref a3, .ref a14, .int 0])), (a3, .inl (G.2 0, 240, .inl (f1)))] H := hP
  have hD : va_D A [(a0, .inr (1, [.ref a4, .ref a5, .ref a6, .ref a7, .ref a2, .ref a8, .ref a9, .ref a10, .ref a11, .ref a12, .ref a13, .ref a1, .int 0, .int 0, .int 0, .int 0])), (a1, .inl (G.2 0, 120, .inl (upd (g10) 90 255))), (a2, .inr (2, [.ref a3, .ref a14, .int 0])), (a3, .inl (G.2 0, 240, .inl (f1)))] := hD
  refine lv_iinc (v := 91) (lv' := [(2, .int 91), (0, .ref a0), (1, .int 0)]) hx hb dX1_start_30 hl (k := 0) rfl (by decide) (by decide) rfl (fun ls hl => ?_)
  refine lv_goto (tgt := 12) hx hb dX1_start_33 (by decide) ?_
  refine lv_iload_n hx hb dX1_start_12 rfl (lv_at hl 0 rfl) ?_
  refine lv_aload_n hx hb dX1_start_13 rfl (lv_at hl 1 rfl) ?_
  refine va_get (D := G.1) (ci := 1) (v := .ref a1) (C := "Sourcewright$Builder") (T := TX1) (N := 16) hx hb hts inX1 hown hK hP 0 rfl rfl 11 (by decide) (hts _ wq_352) (fun _ h9 => h9) rfl dX1_start_14 ?_
  refine va_alen (v := 120) hx hb hK hP 1 0 rfl rfl (by show Int32.ofNat 120 = 120; decide) dX1_start_17 ?_
  refine lv_icmp_ge (tgt := 36) hx hb dX1_start_18 (by decide) (fun hc => absurd hc (by decide)) (fun _ => ?_)
  refine lv_aload_n hx hb dX1_start_21 rfl (lv_at hl 1 rfl) ?_
  refine va_get (D := G.1) (ci := 1) (v := .ref a1) (C := "Sourcewright$Builder") (T := TX1) (N := 16) hx hb hts inX1 hown hK hP 0 rfl rfl 11 (by decide) (hts _ wq_352) (fun _ h9 => h9) rfl dX1_start_22 ?_
  refine lv_iload_n hx hb dX1_start_25 rfl (lv_at hl 0 rfl) ?_
  refine lv_sipush (v := 255) hx hb dX1_start_26 (by decide) ?_
  refine va_iast hx hb hK hP hD hS 1 0 rfl rfl (pz_vi rfl) dX1_start_29 (fun H locs hP hD hS => ?_)
  have hP : va_P G.1 pz_cl [(a0, .inr (1, [.ref a4, .ref a5, .ref a6, .ref a7, .ref a2, .ref a8, .ref a9, .ref a10, .ref a11, .ref a12, .ref a13, .ref a1, .int 0, .int 0, .int 0, .int 0])), (a1, .inl (G.2 0, 120, .inl (upd (upd (g10) 90 255) 91 255))), (a2, .inr (2, [.ref a3, .ref a14, .int 0])), (a3, .inl (G.2 0, 240, .inl (f1)))] H := hP
  have hD : va_D A [(a0, .inr (1, [.ref a4, .ref a5, .ref a6, .ref a7, .ref a2, .ref a8, .ref a9, .ref a10, .ref a11, .ref a12, .ref a13, .ref a1, .int 0, .int 0, .int 0, .int 0])), (a1, .inl (G.2 0, 120, .inl (upd (upd (g10) 90 255) 91 255))), (a2, .inr (2, [.ref a3, .ref a14, .int 0])), (a3, .inl (G.2 0, 240, .inl (f1)))] := hD
  refine lv_iinc (v := 92) (lv' := [(2, .int 92), (0, .ref a0), (1, .int 0)]) hx hb dX1_start_30 hl (k := 0) rfl (by decide) (by decide) rfl (fun ls hl => ?_)
  refine lv_goto (tgt := 12) hx hb dX1_start_33 (by decide) ?_
  refine lv_iload_n hx hb dX1_start_12 rfl (lv_at hl 0 rfl) ?_
  refine lv_aload_n hx hb dX1_start_13 rfl (lv_at hl 1 rfl) ?_
  refine va_get (D := G.1) (ci := 1) (v := .ref a1) (C := "Sourcewright$Builder") (T := TX1) (N := 16) hx hb hts inX1 hown hK hP 0 rfl rfl 11 (by decide) (hts _ wq_352) (fun _ h9 => h9) rfl dX1_start_14 ?_
  refine va_alen (v := 120) hx hb hK hP 1 0 rfl rfl (by show Int32.ofNat 120 = 120; decide) dX1_start_17 ?_
  refine lv_icmp_ge (tgt := 36) hx hb dX1_start_18 (by decide) (fun hc => absurd hc (by decide)) (fun _ => ?_)
  refine lv_aload_n hx hb dX1_start_21 rfl (lv_at hl 1 rfl) ?_
  refine va_get (D := G.1) (ci := 1) (v := .ref a1) (C := "Sourcewright$Builder") (T := TX1) (N := 16) hx hb hts inX1 hown hK hP 0 rfl rfl 11 (by decide) (hts _ wq_352) (fun _ h9 => h9) rfl dX1_start_22 ?_
  refine lv_iload_n hx hb dX1_start_25 rfl (lv_at hl 0 rfl) ?_
  refine lv_sipush (v := 255) hx hb dX1_start_26 (by decide) ?_
  refine va_iast hx hb hK hP hD hS 1 0 rfl rfl (pz_vi rfl) dX1_start_29 (fun H locs hP hD hS => ?_)
  have hP : va_P G.1 pz_cl [(a0, .inr (1, [.ref a4, .ref a5, .ref a6, .ref a7, .ref a2, .ref a8, .ref a9, .ref a10, .ref a11, .ref a12, .ref a13, .ref a1, .int 0, .int 0, .int 0, .int 0])), (a1, .inl (G.2 0, 120, .inl (upd (upd (upd (g10) 90 255) 91 255) 92 255))), (a2, .inr (2, [.ref a3, .ref a14, .int 0])), (a3, .inl (G.2 0, 240, .inl (f1)))] H := hP
  have hD : va_D A [(a0, .inr (1, [.ref a4, .ref a5, .ref a6, .ref a7, .ref a2, .ref a8, .ref a9, .ref a10, .ref a11, .ref a12, .ref a13, .ref a1, .int 0, .int 0, .int 0, .int 0])), (a1, .inl (G.2 0, 120, .inl (upd (upd (upd (g10) 90 255) 91 255) 92 255))), (a2, .inr (2, [.ref a3, .ref a14, .int 0])), (a3, .inl (G.2 0, 240, .inl (f1)))] := hD
  refine lv_iinc (v := 93) (lv' := [(2, .int 93), (0, .ref a0), (1, .int 0)]) hx hb dX1_start_30 hl (k := 0) rfl (by decide) (by decide) rfl (fun ls hl => ?_)
  refine lv_goto (tgt := 12) hx hb dX1_start_33 (by decide) ?_
  refine lv_iload_n hx hb dX1_start_12 rfl (lv_at hl 0 rfl) ?_
  refine lv_aload_n hx hb dX1_start_13 rfl (lv_at hl 1 rfl) ?_
  refine va_get (D := G.1) (ci := 1) (v := .ref a1) (C := "Sourcewright$Builder") (T := TX1) (N := 16) hx hb hts inX1 hown hK hP 0 rfl rfl 11 (by decide) (hts _ wq_352) (fun _ h9 => h9) rfl dX1_start_14 ?_
  refine va_alen (v := 120) hx hb hK hP 1 0 rfl rfl (by show Int32.ofNat 120 = 120; decide) dX1_start_17 ?_
  refine lv_icmp_ge (tgt := 36) hx hb dX1_start_18 (by decide) (fun hc => absurd hc (by decide)) (fun _ => ?_)
  refine lv_aload_n hx hb dX1_start_21 rfl (lv_at hl 1 rfl) ?_
  refine va_get (D := G.1) (ci := 1) (v := .ref a1) (C := "Sourcewright$Builder") (T := TX1) (N := 16) hx hb hts inX1 hown hK hP 0 rfl rfl 11 (by decide) (hts _ wq_352) (fun _ h9 => h9) rfl dX1_start_22 ?_
  refine lv_iload_n hx hb dX1_start_25 rfl (lv_at hl 0 rfl) ?_
  refine lv_sipush (v := 255) hx hb dX1_start_26 (by decide) ?_
  refine va_iast hx hb hK hP hD hS 1 0 rfl rfl (pz_vi rfl) dX1_start_29 (fun H locs hP hD hS => ?_)
  have hP : va_P G.1 pz_cl [(a0, .inr (1, [.ref a4, .ref a5, .ref a6, .ref a7, .ref a2, .ref a8, .ref a9, .ref a10, .ref a11, .ref a12, .ref a13, .ref a1, .int 0, .int 0, .int 0, .int 0])), (a1, .inl (G.2 0, 120, .inl (upd (upd (upd (upd (g10) 90 255) 91 255) 92 255) 93 255))), (a2, .inr (2, [.ref a3, .ref a14, .int 0])), (a3, .inl (G.2 0, 240, .inl (f1)))] H := hP
  have hD : va_D A [(a0, .inr (1, [.ref a4, .ref a5, .ref a6, .ref a7, .ref a2, .ref a8, .ref a9, .ref a10, .ref a11, .ref a12, .ref a13, .ref a1, .int 0, .int 0, .int 0, .int 0])), (a1, .inl (G.2 0, 120, .inl (upd (upd (upd (upd (g10) 90 255) 91 255) 92 255) 93 255))), (a2, .inr (2, [.ref a3, .ref a14, .int 0])), (a3, .inl (G.2 0, 240, .inl (f1)))] := hD
  refine lv_iinc (v := 94) (lv' := [(2, .int 94), (0, .ref a0), (1, .int 0)]) hx hb dX1_start_30 hl (k := 0) rfl (by decide) (by decide) rfl (fun ls hl => ?_)
  refine lv_goto (tgt := 12) hx hb dX1_start_33 (by decide) ?_
  refine lv_iload_n hx hb dX1_start_12 rfl (lv_at hl 0 rfl) ?_
  refine lv_aload_n hx hb dX1_start_13 rfl (lv_at hl 1 rfl) ?_
  refine va_get (D := G.1) (ci := 1) (v := .ref a1) (C := "Sourcewright$Builder") (T := TX1) (N := 16) hx hb hts inX1 hown hK hP 0 rfl rfl 11 (by decide) (hts _ wq_352) (fun _ h9 => h9) rfl dX1_start_14 ?_
  refine va_alen (v := 120) hx hb hK hP 1 0 rfl rfl (by show Int32.ofNat 120 = 120; decide) dX1_start_17 ?_
  refine lv_icmp_ge (tgt := 36) hx hb dX1_start_18 (by decide) (fun hc => absurd hc (by decide)) (fun _ => ?_)
  refine lv_aload_n hx hb dX1_start_21 rfl (lv_at hl 1 rfl) ?_
  refine va_get (D := G.1) (ci := 1) (v := .ref a1) (C := "Sourcewright$Builder") (T := TX1) (N := 16) hx hb hts inX1 hown hK hP 0 rfl rfl 11 (by decide) (hts _ wq_352) (fun _ h9 => h9) rfl dX1_start_22 ?_
  refine lv_iload_n hx hb dX1_start_25 rfl (lv_at hl 0 rfl) ?_
  refine lv_sipush (v := 255) hx hb dX1_start_26 (by decide) ?_
  refine va_iast hx hb hK hP hD hS 1 0 rfl rfl (pz_vi rfl) dX1_start_29 (fun H locs hP hD hS => ?_)
  have hP : va_P G.1 pz_cl [(a0, .inr (1, [.ref a4, .ref a5, .ref a6, .ref a7, .ref a2, .ref a8, .ref a9, .ref a10, .ref a11, .ref a12, .ref a13, .ref a1, .int 0, .int 0, .int 0, .int 0])), (a1, .inl (G.2 0, 120, .inl (upd (upd (upd (upd (upd (g10) 90 255) 91 255) 92 255) 93 255) 94 255))), (a2, .inr (2, [.ref a3, .ref a14, .int 0])), (a3, .inl (G.2 0, 240, .inl (f1)))] H := hP
  have hD : va_D A [(a0, .inr (1, [.ref a4, .ref a5, .ref a6, .ref a7, .ref a2, .ref a8, .ref a9, .ref a10, .ref a11, .ref a12, .ref a13, .ref a1, .int 0, .int 0, .int 0, .int 0])), (a1, .inl (G.2 0, 120, .inl (upd (upd (upd (upd (upd (g10) 90 255) 91 255) 92 255) 93 255) 94 255))), (a2, .inr (2, [.ref a3, .ref a14, .int 0])), (a3, .inl (G.2 0, 240, .inl (f1)))] := hD
  refine lv_iinc (v := 95) (lv' := [(2, .int 95), (0, .ref a0), (1, .int 0)]) hx hb dX1_start_30 hl (k := 0) rfl (by decide) (by decide) rfl (fun ls hl => ?_)
  refine lv_goto (tgt := 12) hx hb dX1_start_33 (by decide) ?_
  refine lv_iload_n hx hb dX1_start_12 rfl (lv_at hl 0 rfl) ?_
  refine lv_aload_n hx hb dX1_start_13 rfl (lv_at hl 1 rfl) ?_
  refine va_get (D := G.1) (ci := 1) (v := .ref a1) (C := "Sourcewright$Builder") (T := TX1) (N := 16) hx hb hts inX1 hown hK hP 0 rfl rfl 11 (by decide) (hts _ wq_352) (fun _ h9 => h9) rfl dX1_start_14 ?_
  refine va_alen (v := 120) hx hb hK hP 1 0 rfl rfl (by show Int32.ofNat 120 = 120; decide) dX1_start_17 ?_
  refine lv_icmp_ge (tgt := 36) hx hb dX1_start_18 (by decide) (fun hc => absurd hc (by decide)) (fun _ => ?_)
  refine lv_aload_n hx hb dX1_start_21 rfl (lv_at hl 1 rfl) ?_
  refine va_get (D := G.1) (ci := 1) (v := .ref a1) (C := "Sourcewright$Builder") (T := TX1) (N := 16) hx hb hts inX1 hown hK hP 0 rfl rfl 11 (by decide) (hts _ wq_352) (fun _ h9 => h9) rfl dX1_start_22 ?_
  refine lv_iload_n hx hb dX1_start_25 rfl (lv_at hl 0 rfl) ?_
  refine lv_sipush (v := 255) hx hb dX1_start_26 (by decide) ?_
  refine va_iast hx hb hK hP hD hS 1 0 rfl rfl (pz_vi rfl) dX1_start_29 (fun H locs hP hD hS => ?_)
  have hP : va_P G.1 pz_cl [(a0, .inr (1, [.ref a4, .ref a5, .ref a6, .ref a7, .ref a2, .ref a8, .ref a9, .ref a10, .ref a11, .ref a12, .ref a13, .ref a1, .int 0, .int 0, .int 0, .int 0])), (a1, .inl (G.2 0, 120, .inl (upd (upd (upd (upd (upd (upd (g10) 90 255) 91 255) 92 255) 93 255) 94 255) 95 255))), (a2, .inr (2, [.ref a3, .ref a14, .int 0])), (a3, .inl (G.2 0, 240, .inl (f1)))] H := hP
  have hD : va_D A [(a0, .inr (1, [.ref a4, .ref a5, .ref a6, .ref a7, .ref a2, .ref a8, .ref a9, .ref a10, .ref a11, .ref a12, .ref a13, .ref a1, .int 0, .int 0, .int 0, .int 0])), (a1, .inl (G.2 0, 120, .inl (upd (upd (upd (upd (upd (upd (g10) 90 255) 91 255) 92 255) 93 255) 94 255) 95 255))), (a2, .inr (2, [.ref a3, .ref a14, .int 0])), (a3, .inl (G.2 0, 240, .inl (f1)))] := hD
  refine lv_iinc (v := 96) (lv' := [(2, .int 96), (0, .ref a0), (1, .int 0)]) hx hb dX1_start_30 hl (k := 0) rfl (by decide) (by decide) rfl (fun ls hl => ?_)
  refine lv_goto (tgt := 12) hx hb dX1_start_33 (by decide) ?_
  refine lv_iload_n hx hb dX1_start_12 rfl (lv_at hl 0 rfl) ?_
  refine lv_aload_n hx hb dX1_start_13 rfl (lv_at hl 1 rfl) ?_
  refine va_get (D := G.1) (ci := 1) (v := .ref a1) (C := "Sourcewright$Builder") (T := TX1) (N := 16) hx hb hts inX1 hown hK hP 0 rfl rfl 11 (by decide) (hts _ wq_352) (fun _ h9 => h9) rfl dX1_start_14 ?_
  refine va_alen (v := 120) hx hb hK hP 1 0 rfl rfl (by show Int32.ofNat 120 = 120; decide) dX1_start_17 ?_
  refine lv_icmp_ge (tgt := 36) hx hb dX1_start_18 (by decide) (fun hc => absurd hc (by decide)) (fun _ => ?_)
  refine lv_aload_n hx hb dX1_start_21 rfl (lv_at hl 1 rfl) ?_
  refine va_get (D := G.1) (ci := 1) (v := .ref a1) (C := "Sourcewright$Builder") (T := TX1) (N := 16) hx hb hts inX1 hown hK hP 0 rfl rfl 11 (by decide) (hts _ wq_352) (fun _ h9 => h9) rfl dX1_start_22 ?_
  refine lv_iload_n hx hb dX1_start_25 rfl (lv_at hl 0 rfl) ?_
  refine lv_sipush (v := 255) hx hb dX1_start_26 (by decide) ?_
  refine va_iast hx hb hK hP hD hS 1 0 rfl rfl (pz_vi rfl) dX1_start_29 (fun H locs hP hD hS => ?_)
  have hP : va_P G.1 pz_cl [(a0, .inr (1, [.ref a4, .ref a5, .ref a6, .ref a7, .ref a2, .ref a8, .ref a9, .ref a10, .ref a11, .ref a12, .ref a13, .ref a1, .int 0, .int 0, .int 0, .int 0])), (a1, .inl (G.2 0, 120, .inl (upd (upd (upd (upd (upd (upd (upd (g10) 90 255) 91 255) 92 255) 93 255) 94 255) 95 255) 96 255))), (a2, .inr (2, [.ref a3, .ref a14, .int 0])), (a3, .inl (G.2 0, 240, .inl (f1)))] H := hP
  have hD : va_D A [(a0, .inr (1, [.ref a4, .ref a5, .ref a6, .ref a7, .ref a2, .ref a8, .ref a9, .ref a10, .ref a11, .ref a12, .ref a13, .ref a1, .int 0, .int 0, .int 0, .int 0])), (a1, .inl (G.2 0, 120, .inl (upd (upd (upd (upd (upd (upd (upd (g10) 90 255) 91 255) 92 255) 93 255) 94 255) 95 255) 96 255))), (a2, .inr (2, [.ref a3, .ref a14, .int 0])), (a3, .inl (G.2 0, 240, .inl (f1)))] := hD
  refine lv_iinc (v := 97) (lv' := [(2, .int 97), (0, .ref a0), (1, .int 0)]) hx hb dX1_start_30 hl (k := 0) rfl (by decide) (by decide) rfl (fun ls hl => ?_)
  refine lv_goto (tgt := 12) hx hb dX1_start_33 (by decide) ?_
  refine lv_iload_n hx hb dX1_start_12 rfl (lv_at hl 0 rfl) ?_
  refine lv_aload_n hx hb dX1_start_13 rfl (lv_at hl 1 rfl) ?_
  refine va_get (D := G.1) (ci := 1) (v := .ref a1) (C := "Sourcewright$Builder") (T := TX1) (N := 16) hx hb hts inX1 hown hK hP 0 rfl rfl 11 (by decide) (hts _ wq_352) (fun _ h9 => h9) rfl dX1_start_14 ?_
  refine va_alen (v := 120) hx hb hK hP 1 0 rfl rfl (by show Int32.ofNat 120 = 120; decide) dX1_start_17 ?_
  refine lv_icmp_ge (tgt := 36) hx hb dX1_start_18 (by decide) (fun hc => absurd hc (by decide)) (fun _ => ?_)
  refine lv_aload_n hx hb dX1_start_21 rfl (lv_at hl 1 rfl) ?_
  refine va_get (D := G.1) (ci := 1) (v := .ref a1) (C := "Sourcewright$Builder") (T := TX1) (N := 16) hx hb hts inX1 hown hK hP 0 rfl rfl 11 (by decide) (hts _ wq_352) (fun _ h9 => h9) rfl dX1_start_22 ?_
  refine lv_iload_n hx hb dX1_start_25 rfl (lv_at hl 0 rfl) ?_
  refine lv_sipush (v := 255) hx hb dX1_start_26 (by decide) ?_
  refine va_iast hx hb hK hP hD hS 1 0 rfl rfl (pz_vi rfl) dX1_start_29 (fun H locs hP hD hS => ?_)
  have hP : va_P G.1 pz_cl [(a0, .inr (1, [.ref a4, .ref a5, .ref a6, .ref a7, .ref a2, .ref a8, .ref a9, .ref a10, .ref a11, .ref a12, .ref a13, .ref a1, .int 0, .int 0, .int 0, .int 0])), (a1, .inl (G.2 0, 120, .inl (upd (upd (upd (upd (upd (upd (upd (upd (g10) 90 255) 91 255) 92 255) 93 255) 94 255) 95 255) 96 255) 97 255))), (a2, .inr (2, [.ref a3, .ref a14, .int 0])), (a3, .inl (G.2 0, 240, .inl (f1)))] H := hP
  have hD : va_D A [(a0, .inr (1, [.ref a4, .ref a5, .ref a6, .ref a7, .ref a2, .ref a8, .ref a9, .ref a10, .ref a11, .ref a12, .ref a13, .ref a1, .int 0, .int 0, .int 0, .int 0])), (a1, .inl (G.2 0, 120, .inl (upd (upd (upd (upd (upd (upd (upd (upd (g10) 90 255) 91 255) 92 255) 93 255) 94 255) 95 255) 96 255) 97 255))), (a2, .inr (2, [.ref a3, .ref a14, .int 0])), (a3, .inl (G.2 0, 240, .inl (f1)))] := hD
  refine lv_iinc (v := 98) (lv' := [(2, .int 98), (0, .ref a0), (1, .int 0)]) hx hb dX1_start_30 hl (k := 0) rfl (by decide) (by decide) rfl (fun ls hl => ?_)
  refine lv_goto (tgt := 12) hx hb dX1_start_33 (by decide) ?_
  refine lv_iload_n hx hb dX1_start_12 rfl (lv_at hl 0 rfl) ?_
  refine lv_aload_n hx hb dX1_start_13 rfl (lv_at hl 1 rfl) ?_
  refine va_get (D := G.1) (ci := 1) (v := .ref a1) (C := "Sourcewright$Builder") (T := TX1) (N := 16) hx hb hts inX1 hown hK hP 0 rfl rfl 11 (by decide) (hts _ wq_352) (fun _ h9 => h9) rfl dX1_start_14 ?_
  refine va_alen (v := 120) hx hb hK hP 1 0 rfl rfl (by show Int32.ofNat 120 = 120; decide) dX1_start_17 ?_
  refine lv_icmp_ge (tgt := 36) hx hb dX1_start_18 (by decide) (fun hc => absurd hc (by decide)) (fun _ => ?_)
  refine lv_aload_n hx hb dX1_start_21 rfl (lv_at hl 1 rfl) ?_
  refine va_get (D := G.1) (ci := 1) (v := .ref a1) (C := "Sourcewright$Builder") (T := TX1) (N := 16) hx hb hts inX1 hown hK hP 0 rfl rfl 11 (by decide) (hts _ wq_352) (fun _ h9 => h9) rfl dX1_start_22 ?_
  refine lv_iload_n hx hb dX1_start_25 rfl (lv_at hl 0 rfl) ?_
  refine lv_sipush (v := 255) hx hb dX1_start_26 (by decide) ?_
  refine va_iast hx hb hK hP hD hS 1 0 rfl rfl (pz_vi rfl) dX1_start_29 (fun H locs hP hD hS => ?_)
  obtain ⟨g11, hg11⟩ : ∃ z, z = upd (upd (upd (upd (upd (upd (upd (upd (upd (g10) 90 255) 91 255) 92 255) 93 255) 94 255) 95 255) 96 255) 97 255) 98 255 := ⟨_, rfl⟩
  have hP : va_P G.1 pz_cl [(a0, .inr (1, [.ref a4, .ref a5, .ref a6, .ref a7, .ref a2, .ref a8, .ref a9, .ref a10, .ref a11, .ref a12, .ref a13, .ref a1, .int 0, .int 0, .int 0, .int 0])), (a1, .inl (G.2 0, 120, .inl (g11))), (a2, .inr (2, [.ref a3, .ref a14, .int 0])), (a3, .inl (G.2 0, 240, .inl (f1)))] H := by rw [hg11]; exact hP
  have hD : va_D A [(a0, .inr (1, [.ref a4, .ref a5, .ref a6, .ref a7, .ref a2, .ref a8, .ref a9, .ref a10, .ref a11, .ref a12, .ref a13, .ref a1, .int 0, .int 0, .int 0, .int 0])), (a1, .inl (G.2 0, 120, .inl (g11))), (a2, .inr (2, [.ref a3, .ref a14, .int 0])), (a3, .inl (G.2 0, 240, .inl (f1)))] := by rw [hg11]; exact hD
  refine lv_iinc (v := 99) (lv' := [(2, .int 99), (0, .ref a0), (1, .int 0)]) hx hb dX1_start_30 hl (k := 0) rfl (by decide) (by decide) rfl (fun ls hl => ?_)
  refine lv_goto (tgt := 12) hx hb dX1_start_33 (by decide) ?_
  refine lv_iload_n hx hb dX1_start_12 rfl (lv_at hl 0 rfl) ?_
  refine lv_aload_n hx hb dX1_start_13 rfl (lv_at hl 1 rfl) ?_
  refine va_get (D := G.1) (ci := 1) (v := .ref a1) (C := "Sourcewright$Builder") (T := TX1) (N := 16) hx hb hts inX1 hown hK hP 0 rfl rfl 11 (by decide) (hts _ wq_352) (fun _ h9 => h9) rfl dX1_start_14 ?_
  refine va_alen (v := 120) hx hb hK hP 1 0 rfl rfl (by show Int32.ofNat 120 = 120; decide) dX1_start_17 ?_
  refine lv_icmp_ge (tgt := 36) hx hb dX1_start_18 (by decide) (fun hc => absurd hc (by decide)) (fun _ => ?_)
  refine lv_aload_n hx hb dX1_start_21 rfl (lv_at hl 1 rfl) ?_
  refine va_get (D := G.1) (ci := 1) (v := .ref a1) (C := "Sourcewright$Builder") (T := TX1) (N := 16) hx hb hts inX1 hown hK hP 0 rfl rfl 11 (by decide) (hts _ wq_352) (fun _ h9 => h9) rfl dX1_start_22 ?_
  refine lv_iload_n hx hb dX1_start_25 rfl (lv_at hl 0 rfl) ?_
  refine lv_sipush (v := 255) hx hb dX1_start_26 (by decide) ?_
  refine va_iast hx hb hK hP hD hS 1 0 rfl rfl (pz_vi rfl) dX1_start_29 (fun H locs hP hD hS => ?_)
  have hP : va_P G.1 pz_cl [(a0, .inr (1, [.ref a4, .ref a5, .ref a6, .ref a7, .ref a2, .ref a8, .ref a9, .ref a10, .ref a11, .ref a12, .ref a13, .ref a1, .int 0, .int 0, .int 0, .int 0])), (a1, .inl (G.2 0, 120, .inl (upd (g11) 99 255))), (a2, .inr (2, [.ref a3, .ref a14, .int 0])), (a3, .inl (G.2 0, 240, .inl (f1)))] H := hP
  have hD : va_D A [(a0, .inr (1, [.ref a4, .ref a5, .ref a6, .ref a7, .ref a2, .ref a8, .ref a9, .ref a10, .ref a11, .ref a12, .ref a13, .ref a1, .int 0, .int 0, .int 0, .int 0])), (a1, .inl (G.2 0, 120, .inl (upd (g11) 99 255))), (a2, .inr (2, [.ref a3, .ref a14, .int 0])), (a3, .inl (G.2 0, 240, .inl (f1)))] := hD
  refine lv_iinc (v := 100) (lv' := [(2, .int 100), (0, .ref a0), (1, .int 0)]) hx hb dX1_start_30 hl (k := 0) rfl (by decide) (by decide) rfl (fun ls hl => ?_)
  refine lv_goto (tgt := 12) hx hb dX1_start_33 (by decide) ?_
  refine lv_iload_n hx hb dX1_start_12 rfl (lv_at hl 0 rfl) ?_
  refine lv_aload_n hx hb dX1_start_13 rfl (lv_at hl 1 rfl) ?_
  refine va_get (D := G.1) (ci := 1) (v := .ref a1) (C := "Sourcewright$Builder") (T := TX1) (N := 16) hx hb hts inX1 hown hK hP 0 rfl rfl 11 (by decide) (hts _ wq_352) (fun _ h9 => h9) rfl dX1_start_14 ?_
  refine va_alen (v := 120) hx hb hK hP 1 0 rfl rfl (by show Int32.ofNat 120 = 120; decide) dX1_start_17 ?_
  refine lv_icmp_ge (tgt := 36) hx hb dX1_start_18 (by decide) (fun hc => absurd hc (by decide)) (fun _ => ?_)
  refine lv_aload_n hx hb dX1_start_21 rfl (lv_at hl 1 rfl) ?_
  refine va_get (D := G.1) (ci := 1) (v := .ref a1) (C := "Sourcewright$Builder") (T := TX1) (N := 16) hx hb hts inX1 hown hK hP 0 rfl rfl 11 (by decide) (hts _ wq_352) (fun _ h9 => h9) rfl dX1_start_22 ?_
  refine lv_iload_n hx hb dX1_start_25 rfl (lv_at hl 0 rfl) ?_
  refine lv_sipush (v := 255) hx hb dX1_start_26 (by decide) ?_
  refine va_iast hx hb hK hP hD hS 1 0 rfl rfl (pz_vi rfl) dX1_start_29 (fun H locs hP hD hS => ?_)
  have hP : va_P G.1 pz_cl [(a0, .inr (1, [.ref a4, .ref a5, .ref a6, .ref a7, .ref a2, .ref a8, .ref a9, .ref a10, .ref a11, .ref a12, .ref a13, .ref a1, .int 0, .int 0, .int 0, .int 0])), (a1, .inl (G.2 0, 120, .inl (upd (upd (g11) 99 255) 100 255))), (a2, .inr (2, [.ref a3, .ref a14, .int 0])), (a3, .inl (G.2 0, 240, .inl (f1)))] H := hP
  have hD : va_D A [(a0, .inr (1, [.ref a4, .ref a5, .ref a6, .ref a7, .ref a2, .ref a8, .ref a9, .ref a10, .ref a11, .ref a12, .ref a13, .ref a1, .int 0, .int 0, .int 0, .int 0])), (a1, .inl (G.2 0, 120, .inl (upd (upd (g11) 99 255) 100 255))), (a2, .inr (2, [.ref a3, .ref a14, .int 0])), (a3, .inl (G.2 0, 240, .inl (f1)))] := hD
  refine lv_iinc (v := 101) (lv' := [(2, .int 101), (0, .ref a0), (1, .int 0)]) hx hb dX1_start_30 hl (k := 0) rfl (by decide) (by decide) rfl (fun ls hl => ?_)
  refine lv_goto (tgt := 12) hx hb dX1_start_33 (by decide) ?_
  refine lv_iload_n hx hb dX1_start_12 rfl (lv_at hl 0 rfl) ?_
  refine lv_aload_n hx hb dX1_start_13 rfl (lv_at hl 1 rfl) ?_
  refine va_get (D := G.1) (ci := 1) (v := .ref a1) (C := "Sourcewright$Builder") (T := TX1) (N := 16) hx hb hts inX1 hown hK hP 0 rfl rfl 11 (by decide) (hts _ wq_352) (fun _ h9 => h9) rfl dX1_start_14 ?_
  refine va_alen (v := 120) hx hb hK hP 1 0 rfl rfl (by show Int32.ofNat 120 = 120; decide) dX1_start_17 ?_
  refine lv_icmp_ge (tgt := 36) hx hb dX1_start_18 (by decide) (fun hc => absurd hc (by decide)) (fun _ => ?_)
  refine lv_aload_n hx hb dX1_start_21 rfl (lv_at hl 1 rfl) ?_
  refine va_get (D := G.1) (ci := 1) (v := .ref a1) (C := "Sourcewright$Builder") (T := TX1) (N := 16) hx hb hts inX1 hown hK hP 0 rfl rfl 11 (by decide) (hts _ wq_352) (fun _ h9 => h9) rfl dX1_start_22 ?_
  refine lv_iload_n hx hb dX1_start_25 rfl (lv_at hl 0 rfl) ?_
  refine lv_sipush (v := 255) hx hb dX1_start_26 (by decide) ?_
  refine va_iast hx hb hK hP hD hS 1 0 rfl rfl (pz_vi rfl) dX1_start_29 (fun H locs hP hD hS => ?_)
  have hP : va_P G.1 pz_cl [(a0, .inr (1, [.ref a4, .ref a5, .ref a6, .ref a7, .ref a2, .ref a8, .ref a9, .ref a10, .ref a11, .ref a12, .ref a13, .ref a1, .int 0, .int 0, .int 0, .int 0])), (a1, .inl (G.2 0, 120, .inl (upd (upd (upd (g11) 99 255) 100 255) 101 255))), (a2, .inr (2, [.ref a3, .ref a14, .int 0])), (a3, .inl (G.2 0, 240, .inl (f1)))] H := hP
  have hD : va_D A [(a0, .inr (1, [.ref a4, .ref a5, .ref a6, .ref a7, .ref a2, .ref a8, .ref a9, .ref a10, .ref a11, .ref a12, .ref a13, .ref a1, .int 0, .int 0, .int 0, .int 0])), (a1, .inl (G.2 0, 120, .inl (upd (upd (upd (g11) 99 255) 100 255) 101 255))), (a2, .inr (2, [.ref a3, .ref a14, .int 0])), (a3, .inl (G.2 0, 240, .inl (f1)))] := hD
  refine lv_iinc (v := 102) (lv' := [(2, .int 102), (0, .ref a0), (1, .int 0)]) hx hb dX1_start_30 hl (k := 0) rfl (by decide) (by decide) rfl (fun ls hl => ?_)
  refine lv_goto (tgt := 12) hx hb dX1_start_33 (by decide) ?_
  refine lv_iload_n hx hb dX1_start_12 rfl (lv_at hl 0 rfl) ?_
  refine lv_aload_n hx hb dX1_start_13 rfl (lv_at hl 1 rfl) ?_
  refine va_get (D := G.1) (ci := 1) (v := .ref a1) (C := "Sourcewright$Builder") (T := TX1) (N := 16) hx hb hts inX1 hown hK hP 0 rfl rfl 11 (by decide) (hts _ wq_352) (fun _ h9 => h9) rfl dX1_start_14 ?_
  refine va_alen (v := 120) hx hb hK hP 1 0 rfl rfl (by show Int32.ofNat 120 = 120; decide) dX1_start_17 ?_
  refine lv_icmp_ge (tgt := 36) hx hb dX1_start_18 (by decide) (fun hc => absurd hc (by decide)) (fun _ => ?_)
  refine lv_aload_n hx hb dX1_start_21 rfl (lv_at hl 1 rfl) ?_
  refine va_get (D := G.1) (ci := 1) (v := .ref a1) (C := "Sourcewright$Builder") (T := TX1) (N := 16) hx hb hts inX1 hown hK hP 0 rfl rfl 11 (by decide) (hts _ wq_352) (fun _ h9 => h9) rfl dX1_start_22 ?_
  refine lv_iload_n hx hb dX1_start_25 rfl (lv_at hl 0 rfl) ?_
  refine lv_sipush (v := 255) hx hb dX1_start_26 (by decide) ?_
  refine va_iast hx hb hK hP hD hS 1 0 rfl rfl (pz_vi rfl) dX1_start_29 (fun H locs hP hD hS => ?_)
  have hP : va_P G.1 pz_cl [(a0, .inr (1, [.ref a4, .ref a5, .ref a6, .ref a7, .ref a2, .ref a8, .ref a9, .ref a10, .ref a11, .ref a12, .ref a13, .ref a1, .int 0, .int 0, .int 0, .int 0])), (a1, .inl (G.2 0, 120, .inl (upd (upd (upd (upd (g11) 99 255) 100 255) 101 255) 102 255))), (a2, .inr (2, [.ref a3, .ref a14, .int 0])), (a3, .inl (G.2 0, 240, .inl (f1)))] H := hP
  have hD : va_D A [(a0, .inr (1, [.ref a4, .ref a5, .ref a6, .ref a7, .ref a2, .ref a8, .ref a9, .ref a10, .ref a11, .ref a12, .ref a13, .ref a1, .int 0, .int 0, .int 0, .int 0])), (a1, .inl (G.2 0, 120, .inl (upd (upd (upd (upd (g11) 99 255) 100 255) 101 255) 102 255))), (a2, .inr (2, [.ref a3, .ref a14, .int 0])), (a3, .inl (G.2 0, 240, .inl (f1)))] := hD
  refine lv_iinc (v := 103) (lv' := [(2, .int 103), (0, .ref a0), (1, .int 0)]) hx hb dX1_start_30 hl (k := 0) rfl (by decide) (by decide) rfl (fun ls hl => ?_)
  refine lv_goto (tgt := 12) hx hb dX1_start_33 (by decide) ?_
  refine lv_iload_n hx hb dX1_start_12 rfl (lv_at hl 0 rfl) ?_
  refine lv_aload_n hx hb dX1_start_13 rfl (lv_at hl 1 rfl) ?_
  refine va_get (D := G.1) (ci := 1) (v := .ref a1) (C := "Sourcewright$Builder") (T := TX1) (N := 16) hx hb hts inX1 hown hK hP 0 rfl rfl 11 (by decide) (hts _ wq_352) (fun _ h9 => h9) rfl dX1_start_14 ?_
  refine va_alen (v := 120) hx hb hK hP 1 0 rfl rfl (by show Int32.ofNat 120 = 120; decide) dX1_start_17 ?_
  refine lv_icmp_ge (tgt := 36) hx hb dX1_start_18 (by decide) (fun hc => absurd hc (by decide)) (fun _ => ?_)
  refine lv_aload_n hx hb dX1_start_21 rfl (lv_at hl 1 rfl) ?_
  refine va_get (D := G.1) (ci := 1) (v := .ref a1) (C := "Sourcewright$Builder") (T := TX1) (N := 16) hx hb hts inX1 hown hK hP 0 rfl rfl 11 (by decide) (hts _ wq_352) (fun _ h9 => h9) rfl dX1_start_22 ?_
  refine lv_iload_n hx hb dX1_start_25 rfl (lv_at hl 0 rfl) ?_
  refine lv_sipush (v := 255) hx hb dX1_start_26 (by decide) ?_
  refine va_iast hx hb hK hP hD hS 1 0 rfl rfl (pz_vi rfl) dX1_start_29 (fun H locs hP hD hS => ?_)
  have hP : va_P G.1 pz_cl [(a0, .inr (1, [.ref a4, .ref a5, .ref a6, .ref a7, .ref a2, .ref a8, .ref a9, .ref a10, .ref a11, .ref a12, .ref a13, .ref a1, .int 0, .int 0, .int 0, .int 0])), (a1, .inl (G.2 0, 120, .inl (upd (upd (upd (upd (upd (g11) 99 255) 100 255) 101 255) 102 255) 103 255))), (a2, .inr (2, [.ref a3, .ref a14, .int 0])), (a3, .inl (G.2 0, 240, .inl (f1)))] H := hP
  have hD : va_D A [(a0, .inr (1, [.ref a4, .ref a5, .ref a6, .ref a7, .ref a2, .ref a8, .ref a9, .ref a10, .ref a11, .ref a12, .ref a13, .ref a1, .int 0, .int 0, .int 0, .int 0])), (a1, .inl (G.2 0, 120, .inl (upd (upd (upd (upd (upd (g11) 99 255) 100 255) 101 255) 102 255) 103 255))), (a2, .inr (2, [.ref a3, .ref a14, .int 0])), (a3, .inl (G.2 0, 240, .inl (f1)))] := hD
  refine lv_iinc (v := 104) (lv' := [(2, .int 104), (0, .ref a0), (1, .int 0)]) hx hb dX1_start_30 hl (k := 0) rfl (by decide) (by decide) rfl (fun ls hl => ?_)
  refine lv_goto (tgt := 12) hx hb dX1_start_33 (by decide) ?_
  refine lv_iload_n hx hb dX1_start_12 rfl (lv_at hl 0 rfl) ?_
  refine lv_aload_n hx hb dX1_start_13 rfl (lv_at hl 1 rfl) ?_
  refine va_get (D := G.1) (ci := 1) (v := .ref a1) (C := "Sourcewright$Builder") (T := TX1) (N := 16) hx hb hts inX1 hown hK hP 0 rfl rfl 11 (by decide) (hts _ wq_352) (fun _ h9 => h9) rfl dX1_start_14 ?_
  refine va_alen (v := 120) hx hb hK hP 1 0 rfl rfl (by show Int32.ofNat 120 = 120; decide) dX1_start_17 ?_
  refine lv_icmp_ge (tgt := 36) hx hb dX1_start_18 (by decide) (fun hc => absurd hc (by decide)) (fun _ => ?_)
  refine lv_aload_n hx hb dX1_start_21 rfl (lv_at hl 1 rfl) ?_
  refine va_get (D := G.1) (ci := 1) (v := .ref a1) (C := "Sourcewright$Builder") (T := TX1) (N := 16) hx hb hts inX1 hown hK hP 0 rfl rfl 11 (by decide) (hts _ wq_352) (fun _ h9 => h9) rfl dX1_start_22 ?_
  refine lv_iload_n hx hb dX1_start_25 rfl (lv_at hl 0 rfl) ?_
  refine lv_sipush (v := 255) hx hb dX1_start_26 (by decide) ?_
  refine va_iast hx hb hK hP hD hS 1 0 rfl rfl (pz_vi rfl) dX1_start_29 (fun H locs hP hD hS => ?_)
  have hP : va_P G.1 pz_cl [(a0, .inr (1, [.ref a4, .ref a5, .ref a6, .ref a7, .ref a2, .ref a8, .ref a9, .ref a10, .ref a11, .ref a12, .ref a13, .ref a1, .int 0, .int 0, .int 0, .int 0])), (a1, .inl (G.2 0, 120, .inl (upd (upd (upd (upd (upd (upd (g11) 99 255) 100 255) 101 255) 102 255) 103 255) 104 255))), (a2, .inr (2, [.ref a3, .ref a14, .int 0])), (a3, .inl (G.2 0, 240, .inl (f1)))] H := hP
  have hD : va_D A [(a0, .inr (1, [.ref a4, .ref a5, .ref a6, .ref a7, .ref a2, .ref a8, .ref a9, .ref a10, .ref a11, .ref a12, .ref a13, .ref a1, .int 0, .int 0, .int 0, .int 0])), (a1, .inl (G.2 0, 120, .inl (upd (upd (upd (upd (upd (upd (g11) 99 255) 100 255) 101 255) 102 255) 103 255) 104 255))), (a2, .inr (2, [.ref a3, .ref a14, .int 0])), (a3, .inl (G.2 0, 240, .inl (f1)))] := hD
  refine lv_iinc (v := 105) (lv' := [(2, .int 105), (0, .ref a0), (1, .int 0)]) hx hb dX1_start_30 hl (k := 0) rfl (by decide) (by decide) rfl (fun ls hl => ?_)
  refine lv_goto (tgt := 12) hx hb dX1_start_33 (by decide) ?_
  refine lv_iload_n hx hb dX1_start_12 rfl (lv_at hl 0 rfl) ?_
  refine lv_aload_n hx hb dX1_start_13 rfl (lv_at hl 1 rfl) ?_
  refine va_get (D := G.1) (ci := 1) (v := .ref a1) (C := "Sourcewright$Builder") (T := TX1) (N := 16) hx hb hts inX1 hown hK hP 0 rfl rfl 11 (by decide) (hts _ wq_352) (fun _ h9 => h9) rfl dX1_start_14 ?_
  refine va_alen (v := 120) hx hb hK hP 1 0 rfl rfl (by show Int32.ofNat 120 = 120; decide) dX1_start_17 ?_
  refine lv_icmp_ge (tgt := 36) hx hb dX1_start_18 (by decide) (fun hc => absurd hc (by decide)) (fun _ => ?_)
  refine lv_aload_n hx hb dX1_start_21 rfl (lv_at hl 1 rfl) ?_
  refine va_get (D := G.1) (ci := 1) (v := .ref a1) (C := "Sourcewright$Builder") (T := TX1) (N := 16) hx hb hts inX1 hown hK hP 0 rfl rfl 11 (by decide) (hts _ wq_352) (fun _ h9 => h9) rfl dX1_start_22 ?_
  refine lv_iload_n hx hb dX1_start_25 rfl (lv_at hl 0 rfl) ?_
  refine lv_sipush (v := 255) hx hb dX1_start_26 (by decide) ?_
  refine va_iast hx hb hK hP hD hS 1 0 rfl rfl (pz_vi rfl) dX1_start_29 (fun H locs hP hD hS => ?_)
  have hP : va_P G.1 pz_cl [(a0, .inr (1, [.ref a4, .ref a5, .ref a6, .ref a7, .ref a2, .ref a8, .ref a9, .ref a10, .ref a11, .ref a12, .ref a13, .ref a1, .int 0, .int 0, .int 0, .int 0])), (a1, .inl (G.2 0, 120, .inl (upd (upd (upd (upd (upd (upd (upd (g11) 99 255) 100 255) 101 255) 102 255) 103 255) 104 255) 105 255))), (a2, .inr (2, [.ref a3, .ref a14, .int 0])), (a3, .inl (G.2 0, 240, .inl (f1)))] H := hP
  have hD : va_D A [(a0, .inr (1, [.ref a4, .ref a5, .ref a6, .ref a7, .ref a2, .ref a8, .ref a9, .ref a10, .ref a11, .ref a12, .ref a13, .ref a1, .int 0, .int 0, .int 0, .int 0])), (a1, .inl (G.2 0, 120, .inl (upd (upd (upd (upd (upd (upd (upd (g11) 99 255) 100 255) 101 255) 102 255) 103 255) 104 255) 105 255))), (a2, .inr (2, [.ref a3, .ref a14, .int 0])), (a3, .inl (G.2 0, 240, .inl (f1)))] := hD
  refine lv_iinc (v := 106) (lv' := [(2, .int 106), (0, .ref a0), (1, .int 0)]) hx hb dX1_start_30 hl (k := 0) rfl (by decide) (by decide) rfl (fun ls hl => ?_)
  refine lv_goto (tgt := 12) hx hb dX1_start_33 (by decide) ?_
  refine lv_iload_n hx hb dX1_start_12 rfl (lv_at hl 0 rfl) ?_
  refine lv_aload_n hx hb dX1_start_13 rfl (lv_at hl 1 rfl) ?_
  refine va_get (D := G.1) (ci := 1) (v := .ref a1) (C := "Sourcewright$Builder") (T := TX1) (N := 16) hx hb hts inX1 hown hK hP 0 rfl rfl 11 (by decide) (hts _ wq_352) (fun _ h9 => h9) rfl dX1_start_14 ?_
  refine va_alen (v := 120) hx hb hK hP 1 0 rfl rfl (by show Int32.ofNat 120 = 120; decide) dX1_start_17 ?_
  refine lv_icmp_ge (tgt := 36) hx hb dX1_start_18 (by decide) (fun hc => absurd hc (by decide)) (fun _ => ?_)
  refine lv_aload_n hx hb dX1_start_21 rfl (lv_at hl 1 rfl) ?_
  refine va_get (D := G.1) (ci := 1) (v := .ref a1) (C := "Sourcewright$Builder") (T := TX1) (N := 16) hx hb hts inX1 hown hK hP 0 rfl rfl 11 (by decide) (hts _ wq_352) (fun _ h9 => h9) rfl dX1_start_22 ?_
  refine lv_iload_n hx hb dX1_start_25 rfl (lv_at hl 0 rfl) ?_
  refine lv_sipush (v := 255) hx hb dX1_start_26 (by decide) ?_
  refine va_iast hx hb hK hP hD hS 1 0 rfl rfl (pz_vi rfl) dX1_start_29 (fun H locs hP hD hS => ?_)
  have hP : va_P G.1 pz_cl [(a0, .inr (1, [.ref a4, .ref a5, .ref a6, .ref a7, .ref a2, .ref a8, .ref a9, .ref a10, .ref a11, .ref a12, .ref a13, .ref a1, .int 0, .int 0, .int 0, .int 0])), (a1, .inl (G.2 0, 120, .inl (upd (upd (upd (upd (upd (upd (upd (upd (g11) 99 255) 100 255) 101 255) 102 255) 103 255) 104 255) 105 255) 106 255))), (a2, .inr (2, [.ref a3, .ref a14, .int 0])), (a3, .inl (G.2 0, 240, .inl (f1)))] H := hP
  have hD : va_D A [(a0, .inr (1, [.ref a4, .ref a5, .ref a6, .ref a7, .ref a2, .ref a8, .ref a9, .ref a10, .ref a11, .ref a12, .ref a13, .ref a1, .int 0, .int 0, .int 0, .int 0])), (a1, .inl (G.2 0, 120, .inl (upd (upd (upd (upd (upd (upd (upd (upd (g11) 99 255) 100 255) 101 255) 102 255) 103 255) 104 255) 105 255) 106 255))), (a2, .inr (2, [.ref a3, .ref a14, .int 0])), (a3, .inl (G.2 0, 240, .inl (f1)))] := hD
  refine lv_iinc (v := 107) (lv' := [(2, .int 107), (0, .ref a0), (1, .int 0)]) hx hb dX1_start_30 hl (k := 0) rfl (by decide) (by decide) rfl (fun ls hl => ?_)
  refine lv_goto (tgt := 12) hx hb dX1_start_33 (by decide) ?_
  refine lv_iload_n hx hb dX1_start_12 rfl (lv_at hl 0 rfl) ?_
  refine lv_aload_n hx hb dX1_start_13 rfl (lv_at hl 1 rfl) ?_
  refine va_get (D := G.1) (ci := 1) (v := .ref a1) (C := "Sourcewright$Builder") (T := TX1) (N := 16) hx hb hts inX1 hown hK hP 0 rfl rfl 11 (by decide) (hts _ wq_352) (fun _ h9 => h9) rfl dX1_start_14 ?_
  refine va_alen (v := 120) hx hb hK hP 1 0 rfl rfl (by show Int32.ofNat 120 = 120; decide) dX1_start_17 ?_
  refine lv_icmp_ge (tgt := 36) hx hb dX1_start_18 (by decide) (fun hc => absurd hc (by decide)) (fun _ => ?_)
  refine lv_aload_n hx hb dX1_start_21 rfl (lv_at hl 1 rfl) ?_
  refine va_get (D := G.1) (ci := 1) (v := .ref a1) (C := "Sourcewright$Builder") (T := TX1) (N := 16) hx hb hts inX1 hown hK hP 0 rfl rfl 11 (by decide) (hts _ wq_352) (fun _ h9 => h9) rfl dX1_start_22 ?_
  refine lv_iload_n hx hb dX1_start_25 rfl (lv_at hl 0 rfl) ?_
  refine lv_sipush (v := 255) hx hb dX1_start_26 (by decide) ?_
  refine va_iast hx hb hK hP hD hS 1 0 rfl rfl (pz_vi rfl) dX1_start_29 (fun H locs hP hD hS => ?_)
  obtain ⟨g12, hg12⟩ : ∃ z, z = upd (upd (upd (upd (upd (upd (upd (upd (upd (g11) 99 255) 100 255) 101 255) 102 255) 103 255) 104 255) 105 255) 106 255) 107 255 := ⟨_, rfl⟩
  have hP : va_P G.1 pz_cl [(a0, .inr (1, [.ref a4, .ref a5, .ref a6, .ref a7, .ref a2, .ref a8, .ref a9, .ref a10, .ref a11, .ref a12, .ref a13, .ref a1, .int 0, .int 0, .int 0, .int 0])), (a1, .inl (G.2 0, 120, .inl (g12))), (a2, .inr (2, [.ref a3, .ref a14, .int 0])), (a3, .inl (G.2 0, 240, .inl (f1)))] H := by rw [hg12]; exact hP
  have hD : va_D A [(a0, .inr (1, [.ref a4, .ref a5, .ref a6, .ref a7, .ref a2, .ref a8, .ref a9, .ref a10, .ref a11, .ref a12, .ref a13, .ref a1, .int 0, .int 0, .int 0, .int 0])), (a1, .inl (G.2 0, 120, .inl (g12))), (a2, .inr (2, [.ref a3, .ref a14, .int 0])), (a3, .inl (G.2 0, 240, .inl (f1)))] := by rw [hg12]; exact hD
  refine lv_iinc (v := 108) (lv' := [(2, .int 108), (0, .ref a0), (1, .int 0)]) hx hb dX1_start_30 hl (k := 0) rfl (by decide) (by decide) rfl (fun ls hl => ?_)
  refine lv_goto (tgt := 12) hx hb dX1_start_33 (by decide) ?_
  refine lv_iload_n hx hb dX1_start_12 rfl (lv_at hl 0 rfl) ?_
  refine lv_aload_n hx hb dX1_start_13 rfl (lv_at hl 1 rfl) ?_
  refine va_get (D := G.1) (ci := 1) (v := .ref a1) (C := "Sourcewright$Builder") (T := TX1) (N := 16) hx hb hts inX1 hown hK hP 0 rfl rfl 11 (by decide) (hts _ wq_352) (fun _ h9 => h9) rfl dX1_start_14 ?_
  refine va_alen (v := 120) hx hb hK hP 1 0 rfl rfl (by show Int32.ofNat 120 = 120; decide) dX1_start_17 ?_
  refine lv_icmp_ge (tgt := 36) hx hb dX1_start_18 (by decide) (fun hc => absurd hc (by decide)) (fun _ => ?_)
  refine lv_aload_n hx hb dX1_start_21 rfl (lv_at hl 1 rfl) ?_
  refine va_get (D := G.1) (ci := 1) (v := .ref a1) (C := "Sourcewright$Builder") (T := TX1) (N := 16) hx hb hts inX1 hown hK hP 0 rfl rfl 11 (by decide) (hts _ wq_352) (fun _ h9 => h9) rfl dX1_start_22 ?_
  refine lv_iload_n hx hb dX1_start_25 rfl (lv_at hl 0 rfl) ?_
  refine lv_sipush (v := 255) hx hb dX1_start_26 (by decide) ?_
  refine va_iast hx hb hK hP hD hS 1 0 rfl rfl (pz_vi rfl) dX1_start_29 (fun H locs hP hD hS => ?_)
  have hP : va_P G.1 pz_cl [(a0, .inr (1, [.ref a4, .ref a5, .ref a6, .ref a7, .ref a2, .ref a8, .ref a9, .ref a10, .ref a11, .ref a12, .ref a13, .ref a1, .int 0, .int 0, .int 0, .int 0])), (a1, .inl (G.2 0, 120, .inl (upd (g12) 108 255))), (a2, .inr (2, [.ref a3, .ref a14, .int 0])), (a3, .inl (G.2 0, 240, .inl (f1)))] H := hP
  have hD : va_D A [(a0, .inr (1, [.ref a4, .ref a5, .ref a6, .ref a7, .ref a2, .ref a8, .ref a9, .ref a10, .ref a11, .ref a12, .ref a13, .ref a1, .int 0, .int 0, .int 0, .int 0])), (a1, .inl (G.2 0, 120, .inl (upd (g12) 108 255))), (a2, .inr (2, [.ref a3, .ref a14, .int 0])), (a3, .inl (G.2 0, 240, .inl (f1)))] := hD
  refine lv_iinc (v := 109) (lv' := [(2, .int 109), (0, .ref a0), (1, .int 0)]) hx hb dX1_start_30 hl (k := 0) rfl (by decide) (by decide) rfl (fun ls hl => ?_)
  refine lv_goto (tgt := 12) hx hb dX1_start_33 (by decide) ?_
  refine lv_iload_n hx hb dX1_start_12 rfl (lv_at hl 0 rfl) ?_
  refine lv_aload_n hx hb dX1_start_13 rfl (lv_at hl 1 rfl) ?_
  refine va_get (D := G.1) (ci := 1) (v := .ref a1) (C := "Sourcewright$Builder") (T := TX1) (N := 16) hx hb hts inX1 hown hK hP 0 rfl rfl 11 (by decide) (hts _ wq_352) (fun _ h9 => h9) rfl dX1_start_14 ?_
  refine va_alen (v := 120) hx hb hK hP 1 0 rfl rfl (by show Int32.ofNat 120 = 120; decide) dX1_start_17 ?_
  refine lv_icmp_ge (tgt := 36) hx hb dX1_start_18 (by decide) (fun hc => absurd hc (by decide)) (fun _ => ?_)
  refine lv_aload_n hx hb dX1_start_21 rfl (lv_at hl 1 rfl) ?_
  refine va_get (D := G.1) (ci := 1) (v := .ref a1) (C := "Sourcewright$Builder") (T := TX1) (N := 16) hx hb hts inX1 hown hK hP 0 rfl rfl 11 (by decide) (hts _ wq_352) (fun _ h9 => h9) rfl dX1_start_22 ?_
  refine lv_iload_n hx hb dX1_start_25 rfl (lv_at hl 0 rfl) ?_
  refine lv_sipush (v := 255) hx hb dX1_start_26 (by decide) ?_
  refine va_iast hx hb hK hP hD hS 1 0 rfl rfl (pz_vi rfl) dX1_start_29 (fun H locs hP hD hS => ?_)
  have hP : va_P G.1 pz_cl [(a0, .inr (1, [.ref a4, .ref a5, .ref a6, .ref a7, .ref a2, .ref a8, .ref a9, .ref a10, .ref a11, .ref a12, .ref a13, .ref a1, .int 0, .int 0, .int 0, .int 0])), (a1, .inl (G.2 0, 120, .inl (upd (upd (g12) 108 255) 109 255))), (a2, .inr (2, [.ref a3, .ref a14, .int 0])), (a3, .inl (G.2 0, 240, .inl (f1)))] H := hP
  have hD : va_D A [(a0, .inr (1, [.ref a4, .ref a5, .ref a6, .ref a7, .ref a2, .ref a8, .ref a9, .ref a10, .ref a11, .ref a12, .ref a13, .ref a1, .int 0, .int 0, .int 0, .int 0])), (a1, .inl (G.2 0, 120, .inl (upd (upd (g12) 108 255) 109 255))), (a2, .inr (2, [.ref a3, .ref a14, .int 0])), (a3, .inl (G.2 0, 240, .inl (f1)))] := hD
  refine lv_iinc (v := 110) (lv' := [(2, .int 110), (0, .ref a0), (1, .int 0)]) hx hb dX1_start_30 hl (k := 0) rfl (by decide) (by decide) rfl (fun ls hl => ?_)
  refine lv_goto (tgt := 12) hx hb dX1_start_33 (by decide) ?_
  refine lv_iload_n hx hb dX1_start_12 rfl (lv_at hl 0 rfl) ?_
  refine lv_aload_n hx hb dX1_start_13 rfl (lv_at hl 1 rfl) ?_
  refine va_get (D := G.1) (ci := 1) (v := .ref a1) (C := "Sourcewright$Builder") (T := TX1) (N := 16) hx hb hts inX1 hown hK hP 0 rfl rfl 11 (by decide) (hts _ wq_352) (fun _ h9 => h9) rfl dX1_start_14 ?_
  refine va_alen (v := 120) hx hb hK hP 1 0 rfl rfl (by show Int32.ofNat 120 = 120; decide) dX1_start_17 ?_
  refine lv_icmp_ge (tgt := 36) hx hb dX1_start_18 (by decide) (fun hc => absurd hc (by decide)) (fun _ => ?_)
  refine lv_aload_n hx hb dX1_start_21 rfl (lv_at hl 1 rfl) ?_
  refine va_get (D := G.1) (ci := 1) (v := .ref a1) (C := "Sourcewright$Builder") (T := TX1) (N := 16) hx hb hts inX1 hown hK hP 0 rfl rfl 11 (by decide) (hts _ wq_352) (fun _ h9 => h9) rfl dX1_start_22 ?_
  refine lv_iload_n hx hb dX1_start_25 rfl (lv_at hl 0 rfl) ?_
  refine lv_sipush (v := 255) hx hb dX1_start_26 (by decide) ?_
  refine va_iast hx hb hK hP hD hS 1 0 rfl rfl (pz_vi rfl) dX1_start_29 (fun H locs hP hD hS => ?_)
  have hP : va_P G.1 pz_cl [(a0, .inr (1, [.ref a4, .ref a5, .ref a6, .ref a7, .ref a2, .ref a8, .ref a9, .ref a10, .ref a11, .ref a12, .ref a13, .ref a1, .int 0, .int 0, .int 0, .int 0])), (a1, .inl (G.2 0, 120, .inl (upd (upd (upd (g12) 108 255) 109 255) 110 255))), (a2, .inr (2, [.ref a3, .ref a14, .int 0])), (a3, .inl (G.2 0, 240, .inl (f1)))] H := hP
  have hD : va_D A [(a0, .inr (1, [.ref a4, .ref a5, .ref a6, .ref a7, .ref a2, .ref a8, .ref a9, .ref a10, .ref a11, .ref a12, .ref a13, .ref a1, .int 0, .int 0, .int 0, .int 0])), (a1, .inl (G.2 0, 120, .inl (upd (upd (upd (g12) 108 255) 109 255) 110 255))), (a2, .inr (2, [.ref a3, .ref a14, .int 0])), (a3, .inl (G.2 0, 240, .inl (f1)))] := hD
  refine lv_iinc (v := 111) (lv' := [(2, .int 111), (0, .ref a0), (1, .int 0)]) hx hb dX1_start_30 hl (k := 0) rfl (by decide) (by decide) rfl (fun ls hl => ?_)
  refine lv_goto (tgt := 12) hx hb dX1_start_33 (by decide) ?_
  refine lv_iload_n hx hb dX1_start_12 rfl (lv_at hl 0 rfl) ?_
  refine lv_aload_n hx hb dX1_start_13 rfl (lv_at hl 1 rfl) ?_
  refine va_get (D := G.1) (ci := 1) (v := .ref a1) (C := "Sourcewright$Builder") (T := TX1) (N := 16) hx hb hts inX1 hown hK hP 0 rfl rfl 11 (by decide) (hts _ wq_352) (fun _ h9 => h9) rfl dX1_start_14 ?_
  refine va_alen (v := 120) hx hb hK hP 1 0 rfl rfl (by show Int32.ofNat 120 = 120; decide) dX1_start_17 ?_
  refine lv_icmp_ge (tgt := 36) hx hb dX1_start_18 (by decide) (fun hc => absurd hc (by decide)) (fun _ => ?_)
  refine lv_aload_n hx hb dX1_start_21 rfl (lv_at hl 1 rfl) ?_
  refine va_get (D := G.1) (ci := 1) (v := .ref a1) (C := "Sourcewright$Builder") (T := TX1) (N := 16) hx hb hts inX1 hown hK hP 0 rfl rfl 11 (by decide) (hts _ wq_352) (fun _ h9 => h9) rfl dX1_start_22 ?_
  refine lv_iload_n hx hb dX1_start_25 rfl (lv_at hl 0 rfl) ?_
  refine lv_sipush (v := 255) hx hb dX1_start_26 (by decide) ?_
  refine va_iast hx hb hK hP hD hS 1 0 rfl rfl (pz_vi rfl) dX1_start_29 (fun H locs hP hD hS => ?_)
  have hP : va_P G.1 pz_cl [(a0, .inr (1, [.ref a4, .ref a5, .ref a6, .ref a7, .ref a2, .ref a8, .ref a9, .ref a10, .ref a11, .ref a12, .ref a13, .ref a1, .int 0, .int 0, .int 0, .int 0])), (a1, .inl (G.2 0, 120, .inl (upd (upd (upd (upd (g12) 108 255) 109 255) 110 255) 111 255))), (a2, .inr (2, [.ref a3, .ref a14, .int 0])), (a3, .inl (G.2 0, 240, .inl (f1)))] H := hP
  have hD : va_D A [(a0, .inr (1, [.ref a4, .ref a5, .ref a6, .ref a7, .ref a2, .ref a8, .ref a9, .ref a10, .ref a11, .ref a12, .ref a13, .ref a1, .int 0, .int 0, .int 0, .int 0])), (a1, .inl (G.2 0, 120, .inl (upd (upd (upd (upd (g12) 108 255) 109 255) 110 255) 111 255))), (a2, .inr (2, [.ref a3, .ref a14, .int 0])), (a3, .inl (G.2 0, 240, .inl (f1)))] := hD
  refine lv_iinc (v := 112) (lv' := [(2, .int 112), (0, .ref a0), (1, .int 0)]) hx hb dX1_start_30 hl (k := 0) rfl (by decide) (by decide) rfl (fun ls hl => ?_)
  refine lv_goto (tgt := 12) hx hb dX1_start_33 (by decide) ?_
  refine lv_iload_n hx hb dX1_start_12 rfl (lv_at hl 0 rfl) ?_
  refine lv_aload_n hx hb dX1_start_13 rfl (lv_at hl 1 rfl) ?_
  refine va_get (D := G.1) (ci := 1) (v := .ref a1) (C := "Sourcewright$Builder") (T := TX1) (N := 16) hx hb hts inX1 hown hK hP 0 rfl rfl 11 (by decide) (hts _ wq_352) (fun _ h9 => h9) rfl dX1_start_14 ?_
  refine va_alen (v := 120) hx hb hK hP 1 0 rfl rfl (by show Int32.ofNat 120 = 120; decide) dX1_start_17 ?_
  refine lv_icmp_ge (tgt := 36) hx hb dX1_start_18 (by decide) (fun hc => absurd hc (by decide)) (fun _ => ?_)
  refine lv_aload_n hx hb dX1_start_21 rfl (lv_at hl 1 rfl) ?_
  refine va_get (D := G.1) (ci := 1) (v := .ref a1) (C := "Sourcewright$Builder") (T := TX1) (N := 16) hx hb hts inX1 hown hK hP 0 rfl rfl 11 (by decide) (hts _ wq_352) (fun _ h9 => h9) rfl dX1_start_22 ?_
  refine lv_iload_n hx hb dX1_start_25 rfl (lv_at hl 0 rfl) ?_
  refine lv_sipush (v := 255) hx hb dX1_start_26 (by decide) ?_
  refine va_iast hx hb hK hP hD hS 1 0 rfl rfl (pz_vi rfl) dX1_start_29 (fun H locs hP hD hS => ?_)
  have hP : va_P G.1 pz_cl [(a0, .inr (1, [.ref a4, .ref a5, .ref a6, .ref a7, .ref a2, .ref a8, .ref a9, .ref a10, .ref a11, .ref a12, .ref a13, .ref a1, .int 0, .int 0, .int 0, .int 0])), (a1, .inl (G.2 0, 120, .inl (upd (upd (upd (upd (upd (g12) 108 255) 109 255) 110 255) 111 255) 112 255))), (a2, .inr (2, [.ref a3, .ref a14, .int 0])), (a3, .inl (G.2 0, 240, .inl (f1)))] H := hP
  have hD : va_D A [(a0, .inr (1, [.ref a4, .ref a5, .ref a6, .ref a7, .ref a2, .ref a8, .ref a9, .ref a10, .ref a11, .ref a12, .ref a13, .ref a1, .int 0, .int 0, .int 0, .int 0])), (a1, .inl (G.2 0, 120, .inl (upd (upd (upd (upd (upd (g12) 108 255) 109 255) 110 255) 111 255) 112 255))), (a2, .inr (2, [.ref a3, .ref a14, .int 0])), (a3, .inl (G.2 0, 240, .inl (f1)))] := hD
  refine lv_iinc (v := 113) (lv' := [(2, .int 113), (0, .ref a0), (1, .int 0)]) hx hb dX1_start_30 hl (k := 0) rfl (by decide) (by decide) rfl (fun ls hl => ?_)
  refine lv_goto (tgt := 12) hx hb dX1_start_33 (by decide) ?_
  refine lv_iload_n hx hb dX1_start_12 rfl (lv_at hl 0 rfl) ?_
  refine lv_aload_n hx hb dX1_start_13 rfl (lv_at hl 1 rfl) ?_
  refine va_get (D := G.1) (ci := 1) (v := .ref a1) (C := "Sourcewright$Builder") (T := TX1) (N := 16) hx hb hts inX1 hown hK hP 0 rfl rfl 11 (by decide) (hts _ wq_352) (fun _ h9 => h9) rfl dX1_start_14 ?_
  refine va_alen (v := 120) hx hb hK hP 1 0 rfl rfl (by show Int32.ofNat 120 = 120; decide) dX1_start_17 ?_
  refine lv_icmp_ge (tgt := 36) hx hb dX1_start_18 (by decide) (fun hc => absurd hc (by decide)) (fun _ => ?_)
  refine lv_aload_n hx hb dX1_start_21 rfl (lv_at hl 1 rfl) ?_
  refine va_get (D := G.1) (ci := 1) (v := .ref a1) (C := "Sourcewright$Builder") (T := TX1) (N := 16) hx hb hts inX1 hown hK hP 0 rfl rfl 11 (by decide) (hts _ wq_352) (fun _ h9 => h9) rfl dX1_start_22 ?_
  refine lv_iload_n hx hb dX1_start_25 rfl (lv_at hl 0 rfl) ?_
  refine lv_sipush (v := 255) hx hb dX1_start_26 (by decide) ?_
  refine va_iast hx hb hK hP hD hS 1 0 rfl rfl (pz_vi rfl) dX1_start_29 (fun H locs hP hD hS => ?_)
  have hP : va_P G.1 pz_cl [(a0, .inr (1, [.ref a4, .ref a5, .ref a6, .ref a7, .ref a2, .ref a8, .ref a9, .ref a10, .ref a11, .ref a12, .ref a13, .ref a1, .int 0, .int 0, .int 0, .int 0])), (a1, .inl (G.2 0, 120, .inl (upd (upd (upd (upd (upd (upd (g12) 108 255) 109 255) 110 255) 111 255) 112 255) 113 255))), (a2, .inr (2, [.ref a3, .ref a14, .int 0])), (a3, .inl (G.2 0, 240, .inl (f1)))] H := hP
  have hD : va_D A [(a0, .inr (1, [.ref a4, .ref a5, .ref a6, .ref a7, .ref a2, .ref a8, .ref a9, .ref a10, .ref a11, .ref a12, .ref a13, .ref a1, .int 0, .int 0, .int 0, .int 0])), (a1, .inl (G.2 0, 120, .inl (upd (upd (upd (upd (upd (upd (g12) 108 255) 109 255) 110 255) 111 255) 112 255) 113 255))), (a2, .inr (2, [.ref a3, .ref a14, .int 0])), (a3, .inl (G.2 0, 240, .inl (f1)))] := hD
  refine lv_iinc (v := 114) (lv' := [(2, .int 114), (0, .ref a0), (1, .int 0)]) hx hb dX1_start_30 hl (k := 0) rfl (by decide) (by decide) rfl (fun ls hl => ?_)
  refine lv_goto (tgt := 12) hx hb dX1_start_33 (by decide) ?_
  refine lv_iload_n hx hb dX1_start_12 rfl (lv_at hl 0 rfl) ?_
  refine lv_aload_n hx hb dX1_start_13 rfl (lv_at hl 1 rfl) ?_
  refine va_get (D := G.1) (ci := 1) (v := .ref a1) (C := "Sourcewright$Builder") (T := TX1) (N := 16) hx hb hts inX1 hown hK hP 0 rfl rfl 11 (by decide) (hts _ wq_352) (fun _ h9 => h9) rfl dX1_start_14 ?_
  refine va_alen (v := 120) hx hb hK hP 1 0 rfl rfl (by show Int32.ofNat 120 = 120; decide) dX1_start_17 ?_
  refine lv_icmp_ge (tgt := 36) hx hb dX1_start_18 (by decide) (fun hc => absurd hc (by decide)) (fun _ => ?_)
  refine lv_aload_n hx hb dX1_start_21 rfl (lv_at hl 1 rfl) ?_
  refine va_get (D := G.1) (ci := 1) (v := .ref a1) (C := "Sourcewright$Builder") (T := TX1) (N := 16) hx hb hts inX1 hown hK hP 0 rfl rfl 11 (by decide) (hts _ wq_352) (fun _ h9 => h9) rfl dX1_start_22 ?_
  refine lv_iload_n hx hb dX1_start_25 rfl (lv_at hl 0 rfl) ?_
  refine lv_sipush (v := 255) hx hb dX1_start_26 (by decide) ?_
  refine va_iast hx hb hK hP hD hS 1 0 rfl rfl (pz_vi rfl) dX1_start_29 (fun H locs hP hD hS => ?_)
  have hP : va_P G.1 pz_cl [(a0, .inr (1, [.ref a4, .ref a5, .ref a6, .ref a7, .ref a2, .ref a8, .ref a9, .ref a10, .ref a11, .ref a12, .ref a13, .ref a1, .int 0, .int 0, .int 0, .int 0])), (a1, .inl (G.2 0, 120, .inl (upd (upd (upd (upd (upd (upd (upd (g12) 108 255) 109 255) 110 255) 111 255) 112 255) 113 255) 114 255))), (a2, .inr (2, [.ref a3, .ref a14, .int 0])), (a3, .inl (G.2 0, 240, .inl (f1)))] H := hP
  have hD : va_D A [(a0, .inr (1, [.ref a4, .ref a5, .ref a6, .ref a7, .ref a2, .ref a8, .ref a9, .ref a10, .ref a11, .ref a12, .ref a13, .ref a1, .int 0, .int 0, .int 0, .int 0])), (a1, .inl (G.2 0, 120, .inl (upd (upd (upd (upd (upd (upd (upd (g12) 108 255) 109 255) 110 255) 111 255) 112 255) 113 255) 114 255))), (a2, .inr (2, [.ref a3, .ref a14, .int 0])), (a3, .inl (G.2 0, 240, .inl (f1)))] := hD
  refine lv_iinc (v := 115) (lv' := [(2, .int 115), (0, .ref a0), (1, .int 0)]) hx hb dX1_start_30 hl (k := 0) rfl (by decide) (by decide) rfl (fun ls hl => ?_)
  refine lv_goto (tgt := 12) hx hb dX1_start_33 (by decide) ?_
  refine lv_iload_n hx hb dX1_start_12 rfl (lv_at hl 0 rfl) ?_
  refine lv_aload_n hx hb dX1_start_13 rfl (lv_at hl 1 rfl) ?_
  refine va_get (D := G.1) (ci := 1) (v := .ref a1) (C := "Sourcewright$Builder") (T := TX1) (N := 16) hx hb hts inX1 hown hK hP 0 rfl rfl 11 (by decide) (hts _ wq_352) (fun _ h9 => h9) rfl dX1_start_14 ?_
  refine va_alen (v := 120) hx hb hK hP 1 0 rfl rfl (by show Int32.ofNat 120 = 120; decide) dX1_start_17 ?_
  refine lv_icmp_ge (tgt := 36) hx hb dX1_start_18 (by decide) (fun hc => absurd hc (by decide)) (fun _ => ?_)
  refine lv_aload_n hx hb dX1_start_21 rfl (lv_at hl 1 rfl) ?_
  refine va_get (D := G.1) (ci := 1) (v := .ref a1) (C := "Sourcewright$Builder") (T := TX1) (N := 16) hx hb hts inX1 hown hK hP 0 rfl rfl 11 (by decide) (hts _ wq_352) (fun _ h9 => h9) rfl dX1_start_22 ?_
  refine lv_iload_n hx hb dX1_start_25 rfl (lv_at hl 0 rfl) ?_
  refine lv_sipush (v := 255) hx hb dX1_start_26 (by decide) ?_
  refine va_iast hx hb hK hP hD hS 1 0 rfl rfl (pz_vi rfl) dX1_start_29 (fun H locs hP hD hS => ?_)
  have hP : va_P G.1 pz_cl [(a0, .inr (1, [.ref a4, .ref a5, .ref a6, .ref a7, .ref a2, .ref a8, .ref a9, .ref a10, .ref a11, .ref a12, .ref a13, .ref a1, .int 0, .int 0, .int 0, .int 0])), (a1, .inl (G.2 0, 120, .inl (upd (upd (upd (upd (upd (upd (upd (upd (g12) 108 255) 109 255) 110 255) 111 255) 112 255) 113 255) 114 255) 115 255))), (a2, .inr (2, [.ref a3, .ref a14, .int 0])), (a3, .inl (G.2 0, 240, .inl (f1)))] H := hP
  have hD : va_D A [(a0, .inr (1, [.ref a4, .ref a5, .ref a6, .ref a7, .ref a2, .ref a8, .ref a9, .ref a10, .ref a11, .ref a12, .ref a13, .ref a1, .int 0, .int 0, .int 0, .int 0])), (a1, .inl (G.2 0, 120, .inl (upd (upd (upd (upd (upd (upd (upd (upd (g12) 108 255) 109 255) 110 255) 111 255) 112 255) 113 255) 114 255) 115 255))), (a2, .inr (2, [.ref a3, .ref a14, .int 0])), (a3, .inl (G.2 0, 240, .inl (f1)))] := hD
  refine lv_iinc (v := 116) (lv' := [(2, .int 116), (0, .ref a0), (1, .int 0)]) hx hb dX1_start_30 hl (k := 0) rfl (by decide) (by decide) rfl (fun ls hl => ?_)
  refine lv_goto (tgt := 12) hx hb dX1_start_33 (by decide) ?_
  refine lv_iload_n hx hb dX1_start_12 rfl (lv_at hl 0 rfl) ?_
  refine lv_aload_n hx hb dX1_start_13 rfl (lv_at hl 1 rfl) ?_
  refine va_get (D := G.1) (ci := 1) (v := .ref a1) (C := "Sourcewright$Builder") (T := TX1) (N := 16) hx hb hts inX1 hown hK hP 0 rfl rfl 11 (by decide) (hts _ wq_352) (fun _ h9 => h9) rfl dX1_start_14 ?_
  refine va_alen (v := 120) hx hb hK hP 1 0 rfl rfl (by show Int32.ofNat 120 = 120; decide) dX1_start_17 ?_
  refine lv_icmp_ge (tgt := 36) hx hb dX1_start_18 (by decide) (fun hc => absurd hc (by decide)) (fun _ => ?_)
  refine lv_aload_n hx hb dX1_start_21 rfl (lv_at hl 1 rfl) ?_
  refine va_get (D := G.1) (ci := 1) (v := .ref a1) (C := "Sourcewright$Builder") (T := TX1) (N := 16) hx hb hts inX1 hown hK hP 0 rfl rfl 11 (by decide) (hts _ wq_352) (fun _ h9 => h9) rfl dX1_start_22 ?_
  refine lv_iload_n hx hb dX1_start_25 rfl (lv_at hl 0 rfl) ?_
  refine lv_sipush (v := 255) hx hb dX1_start_26 (by decide) ?_
  refine va_iast hx hb hK hP hD hS 1 0 rfl rfl (pz_vi rfl) dX1_start_29 (fun H locs hP hD hS => ?_)
  obtain ⟨g13, hg13⟩ : ∃ z, z = upd (upd (upd (upd (upd (upd (upd (upd (upd (g12) 108 255) 109 255) 110 255) 111 255) 112 255) 113 255) 114 255) 115 255) 116 255 := ⟨_, rfl⟩
  have hP : va_P G.1 pz_cl [(a0, .inr (1, [.ref a4, .ref a5, .ref a6, .ref a7, .ref a2, .ref a8, .ref a9, .ref a10, .ref a11, .ref a12, .ref a13, .ref a1, .int 0, .int 0, .int 0, .int 0])), (a1, .inl (G.2 0, 120, .inl (g13))), (a2, .inr (2, [.ref a3, .ref a14, .int 0])), (a3, .inl (G.2 0, 240, .inl (f1)))] H := by rw [hg13]; exact hP
  have hD : va_D A [(a0, .inr (1, [.ref a4, .ref a5, .ref a6, .ref a7, .ref a2, .ref a8, .ref a9, .ref a10, .ref a11, .ref a12, .ref a13, .ref a1, .int 0, .int 0, .int 0, .int 0])), (a1, .inl (G.2 0, 120, .inl (g13))), (a2, .inr (2, [.ref a3, .ref a14, .int 0])), (a3, .inl (G.2 0, 240, .inl (f1)))] := by rw [hg13]; exact hD
  refine lv_iinc (v := 117) (lv' := [(2, .int 117), (0, .ref a0), (1, .int 0)]) hx hb dX1_start_30 hl (k := 0) rfl (by decide) (by decide) rfl (fun ls hl => ?_)
  refine lv_goto (tgt := 12) hx hb dX1_start_33 (by decide) ?_
  refine lv_iload_n hx hb dX1_start_12 rfl (lv_at hl 0 rfl) ?_
  refine lv_aload_n hx hb dX1_start_13 rfl (lv_at hl 1 rfl) ?_
  refine va_get (D := G.1) (ci := 1) (v := .ref a1) (C := "Sourcewright$Builder") (T := TX1) (N := 16) hx hb hts inX1 hown hK hP 0 rfl rfl 11 (by decide) (hts _ wq_352) (fun _ h9 => h9) rfl dX1_start_14 ?_
  refine va_alen (v := 120) hx hb hK hP 1 0 rfl rfl (by show Int32.ofNat 120 = 120; decide) dX1_start_17 ?_
  refine lv_icmp_ge (tgt := 36) hx hb dX1_start_18 (by decide) (fun hc => absurd hc (by decide)) (fun _ => ?_)
  refine lv_aload_n hx hb dX1_start_21 rfl (lv_at hl 1 rfl) ?_
  refine va_get (D := G.1) (ci := 1) (v := .ref a1) (C := "Sourcewright$Builder") (T := TX1) (N := 16) hx hb hts inX1 hown hK hP 0 rfl rfl 11 (by decide) (hts _ wq_352) (fun _ h9 => h9) rfl dX1_start_22 ?_
  refine lv_iload_n hx hb dX1_start_25 rfl (lv_at hl 0 rfl) ?_
  refine lv_sipush (v := 255) hx hb dX1_start_26 (by decide) ?_
  refine va_iast hx hb hK hP hD hS 1 0 rfl rfl (pz_vi rfl) dX1_start_29 (fun H locs hP hD hS => ?_)
  have hP : va_P G.1 pz_cl [(a0, .inr (1, [.ref a4, .ref a5, .ref a6, .ref a7, .ref a2, .ref a8, .ref a9, .ref a10, .ref a11, .ref a12, .ref a13, .ref a1, .int 0, .int 0, .int 0, .int 0])), (a1, .inl (G.2 0, 120, .inl (upd (g13) 117 255))), (a2, .inr (2, [.ref a3, .ref a14, .int 0])), (a3, .inl (G.2 0, 240, .inl (f1)))] H := hP
  have hD : va_D A [(a0, .inr (1, [.ref a4, .ref a5, .ref a6, .ref a7, .ref a2, .ref a8, .ref a9, .ref a10, .ref a11, .ref a12, .ref a13, .ref a1, .int 0, .int 0, .int 0, .int 0])), (a1, .inl (G.2 0, 120, .inl (upd (g13) 117 255))), (a2, .inr (2, [.ref a3, .ref a14, .int 0])), (a3, .inl (G.2 0, 240, .inl (f1)))] := hD
  refine lv_iinc (v := 118) (lv' := [(2, .int 118), (0, .ref a0), (1, .int 0)]) hx hb dX1_start_30 hl (k := 0) rfl (by decide) (by decide) rfl (fun ls hl => ?_)
  refine lv_goto (tgt := 12) hx hb dX1_start_33 (by decide) ?_
  refine lv_iload_n hx hb dX1_start_12 rfl (lv_at hl 0 rfl) ?_
  refine lv_aload_n hx hb dX1_start_13 rfl (lv_at hl 1 rfl) ?_
  refine va_get (D := G.1) (ci := 1) (v := .ref a1) (C := "Sourcewright$Builder") (T := TX1) (N := 16) hx hb hts inX1 hown hK hP 0 rfl rfl 11 (by decide) (hts _ wq_352) (fun _ h9 => h9) rfl dX1_start_14 ?_
  refine va_alen (v := 120) hx hb hK hP 1 0 rfl rfl (by show Int32.ofNat 120 = 120; decide) dX1_start_17 ?_
  refine lv_icmp_ge (tgt := 36) hx hb dX1_start_18 (by decide) (fun hc => absurd hc (by decide)) (fun _ => ?_)
  refine lv_aload_n hx hb dX1_start_21 rfl (lv_at hl 1 rfl) ?_
  refine va_get (D := G.1) (ci := 1) (v := .ref a1) (C := "Sourcewright$Builder") (T := TX1) (N := 16) hx hb hts inX1 hown hK hP 0 rfl rfl 11 (by decide) (hts _ wq_352) (fun _ h9 => h9) rfl dX1_start_22 ?_
  refine lv_iload_n hx hb dX1_start_25 rfl (lv_at hl 0 rfl) ?_
  refine lv_sipush (v := 255) hx hb dX1_start_26 (by decide) ?_
  refine va_iast hx hb hK hP hD hS 1 0 rfl rfl (pz_vi rfl) dX1_start_29 (fun H locs hP hD hS => ?_)
  have hP : va_P G.1 pz_cl [(a0, .inr (1, [.ref a4, .ref a5, .ref a6, .ref a7, .ref a2, .ref a8, .ref a9, .ref a10, .ref a11, .ref a12, .ref a13, .ref a1, .int 0, .int 0, .int 0, .int 0])), (a1, .inl (G.2 0, 120, .inl (upd (upd (g13) 117 255) 118 255))), (a2, .inr (2, [.ref a3, .ref a14, .int 0])), (a3, .inl (G.2 0, 240, .inl (f1)))] H := hP
  have hD : va_D A [(a0, .inr (1, [.ref a4, .ref a5, .ref a6, .ref a7, .ref a2, .ref a8, .ref a9, .ref a10, .ref a11, .ref a12, .ref a13, .ref a1, .int 0, .int 0, .int 0, .int 0])), (a1, .inl (G.2 0, 120, .inl (upd (upd (g13) 117 255) 118 255))), (a2, .inr (2, [.ref a3, .ref a14, .int 0])), (a3, .inl (G.2 0, 240, .inl (f1)))] := hD
  refine lv_iinc (v := 119) (lv' := [(2, .int 119), (0, .ref a0), (1, .int 0)]) hx hb dX1_start_30 hl (k := 0) rfl (by decide) (by decide) rfl (fun ls hl => ?_)
  refine lv_goto (tgt := 12) hx hb dX1_start_33 (by decide) ?_
  refine lv_iload_n hx hb dX1_start_12 rfl (lv_at hl 0 rfl) ?_
  refine lv_aload_n hx hb dX1_start_13 rfl (lv_at hl 1 rfl) ?_
  refine va_get (D := G.1) (ci := 1) (v := .ref a1) (C := "Sourcewright$Builder") (T := TX1) (N := 16) hx hb hts inX1 hown hK hP 0 rfl rfl 11 (by decide) (hts _ wq_352) (fun _ h9 => h9) rfl dX1_start_14 ?_
  refine va_alen (v := 120) hx hb hK hP 1 0 rfl rfl (by show Int32.ofNat 120 = 120; decide) dX1_start_17 ?_
  refine lv_icmp_ge (tgt := 36) hx hb dX1_start_18 (by decide) (fun hc => absurd hc (by decide)) (fun _ => ?_)
  refine lv_aload_n hx hb dX1_start_21 rfl (lv_at hl 1 rfl) ?_
  refine va_get (D := G.1) (ci := 1) (v := .ref a1) (C := "Sourcewright$Builder") (T := TX1) (N := 16) hx hb hts inX1 hown hK hP 0 rfl rfl 11 (by decide) (hts _ wq_352) (fun _ h9 => h9) rfl dX1_start_22 ?_
  refine lv_iload_n hx hb dX1_start_25 rfl (lv_at hl 0 rfl) ?_
  refine lv_sipush (v := 255) hx hb dX1_start_26 (by decide) ?_
  refine va_iast hx hb hK hP hD hS 1 0 rfl rfl (pz_vi rfl) dX1_start_29 (fun H locs hP hD hS => ?_)
  have hP : va_P G.1 pz_cl [(a0, .inr (1, [.ref a4, .ref a5, .ref a6, .ref a7, .ref a2, .ref a8, .ref a9, .ref a10, .ref a11, .ref a12, .ref a13, .ref a1, .int 0, .int 0, .int 0, .int 0])), (a1, .inl (G.2 0, 120, .inl (upd (upd (upd (g13) 117 255) 118 255) 119 255))), (a2, .inr (2, [.ref a3, .ref a14, .int 0])), (a3, .inl (G.2 0, 240, .inl (f1)))] H := hP
  have hD : va_D A [(a0, .inr (1, [.ref a4, .ref a5, .ref a6, .ref a7, .ref a2, .ref a8, .ref a9, .ref a10, .ref a11, .ref a12, .ref a13, .ref a1, .int 0, .int 0, .int 0, .int 0])), (a1, .inl (G.2 0, 120, .inl (upd (upd (upd (g13) 117 255) 118 255) 119 255))), (a2, .inr (2, [.ref a3, .ref a14, .int 0])), (a3, .inl (G.2 0, 240, .inl (f1)))] := hD
  refine lv_iinc (v := 120) (lv' := [(2, .int 120), (0, .ref a0), (1, .int 0)]) hx hb dX1_start_30 hl (k := 0) rfl (by decide) (by decide) rfl (fun ls hl => ?_)
  refine lv_goto (tgt := 12) hx hb dX1_start_33 (by decide) ?_
  refine lv_iload_n hx hb dX1_start_12 rfl (lv_at hl 0 rfl) ?_
  refine lv_aload_n hx hb dX1_start_13 rfl (lv_at hl 1 rfl) ?_
  refine va_get (D := G.1) (ci := 1) (v := .ref a1) (C := "Sourcewright$Builder") (T := TX1) (N := 16) hx hb hts inX1 hown hK hP 0 rfl rfl 11 (by decide) (hts _ wq_352) (fun _ h9 => h9) rfl dX1_start_14 ?_
  refine va_alen (v := 120) hx hb hK hP 1 0 rfl rfl (by show Int32.ofNat 120 = 120; decide) dX1_start_17 ?_
  refine lv_icmp_ge (tgt := 36) hx hb dX1_start_18 (by decide) (fun _ => ?_) (fun hc => absurd hc (by decide))
  refine lv_iload_n hx hb dX1_start_36 rfl (lv_at hl 2 rfl) ?_
  refine lv_if_ne (tgt := 54) hx hb dX1_start_37 (by decide) (fun hc => absurd hc (by decide)) (fun _ => ?_)
  refine lv_aload_n hx hb dX1_start_40 rfl (lv_at hl 1 rfl) ?_
  refine lv_sipush (v := 128) hx hb dX1_start_41 (by decide) ?_
  refine pz_go (wr := [(a1, .inl (G.2 0, 120, .inl (upd (upd (upd (g13) 117 255) 118 255) 119 255)))]) (vx_runV (C := "Sourcewright$Builder") (As := [.int 128]) (rest := []) ⟨hx, hb, hml, hown, hts⟩ (cX1_put_1 l hst G X H.size a0 a2 a3 a4 a5 a6 a7 a8 a9 a10 a11 a12 a13 a1 a14 f1) (cwV 1 hts (pz_gV wq_1140 wq_1142 wqs_59 wq_10 wq_1143) rfl rfl rfl (by decide +kernel) ⟨(Nat.le_of_ble_eq_true rfl), (Nat.le_of_ble_eq_true rfl)⟩) (pz_preV (C := ("Sourcewright$Builder", TX1, 16)) hK hP hD hS hA hE 0 (ci := 1) rfl rfl [0, 2, 3] rfl rfl) rfl rfl hl.1 rfl (lv_room (Nat.le_of_ble_eq_true rfl)) dX1_start_44 ⟨(Nat.le_of_ble_eq_true rfl), (Nat.le_of_ble_eq_true rfl)⟩) hP hD hS hA [0, 2, 3] [1] rfl rfl rfl (by decide) (fun u H locs hP hD hS => ?_)
  have hP : va_P G.1 pz_cl [(a1, .inl (G.2 0, 120, .inl (upd (upd (upd (g13) 117 255) 118 255) 119 255))), (a0, .inr (1, [.ref a4, .ref a5, .ref a6, .ref a7, .ref a2, .ref a8, .ref a9, .ref a10, .ref a11, .ref a12, .ref a13, .ref a1, .int 0, .int 0, .int 1, .int 0])), (a2, .inr (2, [.ref a3, .ref a14, .int 0])), (a3, .inl (G.2 0, 240, .inl (upd (f1) 0 128)))] H := hP
  have hD : va_D A [(a1, .inl (G.2 0, 120, .inl (upd (upd (upd (g13) 117 255) 118 255) 119 255))), (a0, .inr (1, [.ref a4, .ref a5, .ref a6, .ref a7, .ref a2, .ref a8, .ref a9, .ref a10, .ref a11, .ref a12, .ref a13, .ref a1, .int 0, .int 0, .int 1, .int 0])), (a2, .inr (2, [.ref a3, .ref a14, .int 0])), (a3, .inl (G.2 0, 240, .inl (upd (f1) 0 128)))] := hD
  refine W.eq (g2 := F0 m 47 ls []) rfl ?_
  refine lv_aload_n hx hb dX1_start_47 rfl (lv_at hl 1 rfl) ?_
  refine lv_sipush (v := 255) hx hb dX1_start_48 (by decide) ?_
  refine pz_go (wr := [(a1, .inl (G.2 0, 120, .inl (upd (upd (upd (g13) 117 255) 118 255) 119 255)))]) (vx_runV (C := "Sourcewright$Builder") (As := [.int 255]) (rest := []) ⟨hx, hb, hml, hown, hts⟩ (cX1_put_2 l hst G X H.size a0 a2 a3 a4 a5 a6 a7 a8 a9 a10 a11 a12 a13 a1 a14 (upd (f1) 0 128)) (cwV 1 hts (pz_gV wq_1140 wq_1142 wqs_59 wq_10 wq_1143) rfl rfl rfl (by decide +kernel) ⟨(Nat.le_of_ble_eq_true rfl), (Nat.le_of_ble_eq_true rfl)⟩) (pz_preV (C := ("Sourcewright$Builder", TX1, 16)) hK hP hD hS hA hE 1 (ci := 1) rfl rfl [1, 2, 3] rfl rfl) rfl rfl hl.1 rfl (lv_room (Nat.le_of_ble_eq_true rfl)) dX1_start_51 ⟨(Nat.le_of_ble_eq_true rfl), (Nat.le_of_ble_eq_true rfl)⟩) hP hD hS hA [1, 2, 3] [0] rfl rfl rfl (by decide) (fun u H locs hP hD hS => ?_)
  have hP : va_P G.1 pz_cl [(a1, .inl (G.2 0, 120, .inl (upd (upd (upd (g13) 117 255) 118 255) 119 255))), (a0, .inr (1, [.ref a4, .ref a5, .ref a6, .ref a7, .ref a2, .ref a8, .ref a9, .ref a10, .ref a11, .ref a12, .ref a13, .ref a1, .int 0, .int 0, .int 2, .int 0])), (a2, .inr (2, [.ref a3, .ref a14, .int 0])), (a3, .inl (G.2 0, 240, .inl (upd (upd (f1) 0 128) 1 255)))] H := hP
  have hD : va_D A [(a1, .inl (G.2 0, 120, .inl (upd (upd (upd (g13) 117 255) 118 255) 119 255))), (a0, .inr (1, [.ref a4, .ref a5, .ref a6, .ref a7, .ref a2, .ref a8, .ref a9, .ref a10, .ref a11, .ref a12, .ref a13, .ref a1, .int 0, .int 0, .int 2, .int 0])), (a2, .inr (2, [.ref a3, .ref a14, .int 0])), (a3, .inl (G.2 0, 240, .inl (upd (upd (f1) 0 128) 1 255)))] := hD
  refine W.eq (g2 := F0 m 54 ls []) rfl ?_
  exact pz_rv hx hb hr hlocks hS (Nat.le_of_ble_eq_true rfl) (Nat.le_of_ble_eq_true rfl) dX1_start_54 g13 rfl (hP.sub [1, 0, 2, 3] rfl) (hD.sub [1, 0, 2, 3] rfl rfl)
