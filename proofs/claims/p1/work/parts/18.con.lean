set_option maxHeartbeats 4000000 in
set_option maxRecDepth 100000 in
theorem cJ6_valueOf_2dffe_7 (l : Launch) (hst : l.stackTraces = false) (G : pz_G) (X : Nat → Nat) (sz : Nat) (x0 : Int32) (hx0l : (-128 : Int) ≤ x0.toInt) (hx0h : x0.toInt ≤ (127 : Int)) : pz_MR (S := Unit) l yJ6_valueOf_2dffe (pz_cd yJ6_valueOf_2dffe cJ6_valueOf_2dffe 1 (some (.object "java/lang/Integer"))) 0 0 0 0 G X sz [] [.int x0] (fun u => some (.ref (X (1000 + (x0 + 128).toNatClampNeg)))) (fun u => []) := by
  refine pz_onR (by decide +kernel) (Nat.le_of_ble_eq_true rfl) ?_
  intro p e s m below meth c A hx hb hr hml hown hts hlocks hin hx0 hP hK hD hS hA hE ls hl
  have hown : s.vm.findClass "java/lang/Integer" = some m.cls := hown
  have hl : lv_has ls 1 [(0, .int x0)] := hl
  refine lv_iload_n hx hb dJ6_valueOf_2dffe_0 rfl (lv_at hl 0 rfl) ?_
  refine lv_bipush (v := (-128)) hx hb dJ6_valueOf_2dffe_1 (by decide) ?_
  refine lv_icmp_lt (tgt := 23) hx hb dJ6_valueOf_2dffe_3 (by decide) (fun hc => by have h9 : (x0).toInt < (-128) := pz_lt hc; omega) (fun _ => ?_)
  refine lv_iload_n hx hb dJ6_valueOf_2dffe_6 rfl (lv_at hl 0 rfl) ?_
  refine va_gets hx hb hE.2.2.2.2.1.1 hS hown (hts _ wq_1853) (fun _ h9 => h9) dJ6_valueOf_2dffe_7 ?_
  refine lv_icmp_gt (tgt := 23) hx hb dJ6_valueOf_2dffe_10 (by decide) (fun hc => by have h9 : 127 < (x0).toInt := pz_lt hc; omega) (fun _ => ?_)
  refine va_gets hx hb hE.2.2.2.2.1.2.1 hS hown (hts _ wq_1855) (fun _ h9 => h9) dJ6_valueOf_2dffe_13 ?_
  refine lv_iload_n hx hb dJ6_valueOf_2dffe_16 rfl (lv_at hl 0 rfl) ?_
  refine lv_sipush (v := 128) hx hb dJ6_valueOf_2dffe_17 (by decide) ?_
  refine lv_iadd hx hb dJ6_valueOf_2dffe_20 ?_
  refine vb_tq (v := .ref (X (1000 + (x0 + 128).toNatClampNeg))) hx hb hE.2.2.2.2.1.2.2.1 hS (pz_vb (by omega) (by omega)) rfl dJ6_valueOf_2dffe_21 ?_
  exact pz_ra hx hb hr hlocks (Or.inl ⟨_, rfl⟩) (Or.inr ⟨_, rfl⟩) hS (Nat.le_of_ble_eq_true rfl) (Nat.le_of_ble_eq_true rfl) dJ6_valueOf_2dffe_22 () rfl (hP.sub [] rfl) (hD.sub [] rfl rfl)
set_option maxHeartbeats 4000000 in
set_option maxRecDepth 100000 in
theorem cJx4a65c_add_72be8_9 (l : Launch) (hst : l.stackTraces = false) (G : pz_G) (X : Nat → Nat) (sz : Nat) (a0 : Nat) (x0 : Int32) (hx0l : (-128 : Int) ≤ x0.toInt) (hx0h : x0.toInt ≤ (127 : Int)) : pz_MR (S := Nat) l yJx4a65c_add_72be8 (pz_cd yJx4a65c_add_72be8 cJx4a65c_add_72be8 4 none) 3 57 1 10 G X sz [(a0, .inr (17, [.int 1, .ref (X 3), .int 0]))] [.ref a0, .ref (X (1000 + (x0 + 128).toNatClampNeg)), .ref (X 3), .int 0] (fun u => none) (fun u => [(a0, .inr (17, [.int 1, .ref u, .int 1])), (u, .inl (G.2 5, 10, .inr (.inr (.inr (.inr (va_up (fun _ => none) 0 (some (X (1000 + (x0 + 128).toNatClampNeg)))))))))]) := by
  refine pz_onR (by decide +kernel) (Nat.le_of_ble_eq_true rfl) ?_
  intro p e s m below meth c A hx hb hr hml hown hts hlocks hin hx0 hP hK hD hS hA hE ls hl
  have hown : s.vm.findClass "java/util/ArrayList" = some m.cls := hown
  have hl : lv_has ls 4 [(0, .ref a0), (1, .ref (X (1000 + (x0 + 128).toNatClampNeg))), (2, .ref (X 3)), (3, .int 0)] := hl
  refine lv_iload_n hx hb dJx4a65c_add_72be8_0 rfl (lv_at hl 3 rfl) ?_
  refine lv_aload_n hx hb dJx4a65c_add_72be8_1 rfl (lv_at hl 2 rfl) ?_
  refine va_tlen (v := 0) hx hb hE.2.2.2.1.2.1 hS (by decide) dJx4a65c_add_72be8_2 ?_
  refine lv_icmp_ne (tgt := 11) hx hb dJx4a65c_add_72be8_3 (by decide) (fun hc => absurd hc (by decide)) (fun _ => ?_)
  refine lv_aload_n hx hb dJx4a65c_add_72be8_6 rfl (lv_at hl 0 rfl) ?_
  refine pz_go (wr := []) (vx_runV (C := "java/util/ArrayList") (As := []) (rest := []) ⟨hx, hb, hml, hown, hts⟩ (cJx4a65c_grow_d5877_1 l hst G X s.heap.size a0) (cwV 0 hts (pz_gV wq_1878 wq_1880 wqs_85 wq_16 wq_1881) rfl rfl rfl (by decide +kernel) ⟨(Nat.le_of_ble_eq_true rfl), (Nat.le_of_ble_eq_true rfl)⟩) (pz_preV (C := ("java/util/ArrayList", TJx4a65c, 3)) hK hP hD hS hA hE 0 (ci := 17) rfl rfl [0] rfl rfl) rfl rfl hl.1 rfl (lv_room (Nat.le_of_ble_eq_true rfl)) dJx4a65c_add_72be8_7 ⟨(Nat.le_of_ble_eq_true rfl), (Nat.le_of_ble_eq_true rfl)⟩) hP hD hS hA [0] [] rfl rfl rfl (by decide) (fun q1 H locs hP hD hS => ?_)
  have hP : va_P G.1 pz_cl [(a0, .inr (17, [.int 1, .ref q1, .int 0])), (q1, .inl (G.2 5, 10, .inr (.inr (.inr (.inr (fun _ => none))))))] H := hP
  have hD : va_D A [(a0, .inr (17, [.int 1, .ref q1, .int 0])), (q1, .inl (G.2 5, 10, .inr (.inr (.inr (.inr (fun _ => none))))))] := hD
  refine W.eq (g2 := F0 m 10 ls [.ref q1]) rfl ?_
  refine lv_astore_n (lv' := [(2, .ref q1), (0, .ref a0), (1, .ref (X (1000 + (x0 + 128).toNatClampNeg))), (3, .int 0)]) hx hb dJx4a65c_add_72be8_10 rfl hl (by decide) rfl (fun ls hl => ?_)
  refine lv_aload_n hx hb dJx4a65c_add_72be8_11 rfl (lv_at hl 0 rfl) ?_
  refine lv_iload_n hx hb dJx4a65c_add_72be8_12 rfl (lv_at hl 3 rfl) ?_
  refine lv_aload_n hx hb dJx4a65c_add_72be8_13 rfl (lv_at hl 2 rfl) ?_
  refine vb_astq (E := "java/lang/Object") (C := "java/lang/Integer") hx hb hK hP hD hS 1 5 rfl rfl (va_Orecv (hE.2.2.2.2.1.2.2.2.1 _ (pz_vk (x := x0) (by omega) (by omega))) hS) (vb_asgC (hE.2.2.2.2.2.2.2.2.1 _ nx_3213)) (pz_vi rfl) dJx4a65c_add_72be8_14 (fun H locs hP hD hS => ?_)
  have hP : va_P G.1 pz_cl [(a0, .inr (17, [.int 1, .ref q1, .int 0])), (q1, .inl (G.2 5, 10, .inr (.inr (.inr (.inr (va_up (fun _ => none) 0 (some (X (1000 + (x0 + 128).toNatClampNeg)))))))))] H := hP
  have hD : va_D A [(a0, .inr (17, [.int 1, .ref q1, .int 0])), (q1, .inl (G.2 5, 10, .inr (.inr (.inr (.inr (va_up (fun _ => none) 0 (some (X (1000 + (x0 + 128).toNatClampNeg)))))))))] := hD
  refine lv_aload_n hx hb dJx4a65c_add_72be8_15 rfl (lv_at hl 1 rfl) ?_
  refine lv_iload_n hx hb dJx4a65c_add_72be8_16 rfl (lv_at hl 3 rfl) ?_
  refine lv_iconst (v := 1) hx hb dJx4a65c_add_72be8_17 (by decide) ?_
  refine lv_iadd hx hb dJx4a65c_add_72be8_18 (pz_K (y := 1) (by decide) ?_)
  refine va_put (D := G.1) (ci := 17) (v := .int 1) (ty := tyJx4a65c 2) (C := "java/util/ArrayList") (T := TJx4a65c) (N := 3) hx hb hts inJx4a65c tyJx4a65c tyJx4a65c_ok nmJx4a65c hown hK hP hD hS 0 rfl rfl 2 (by decide) (hts _ wq_1801) (fun _ h9 => h9) rfl (by decide +kernel) rfl rfl (Nat.le_of_ble_eq_true rfl) dJx4a65c_add_72be8_19 (fun H locs hP hD hS => ?_)
  have hP : va_P G.1 pz_cl [(a0, .inr (17, [.int 1, .ref q1, .int 1])), (q1, .inl (G.2 5, 10, .inr (.inr (.inr (.inr (va_up (fun _ => none) 0 (some (X (1000 + (x0 + 128).toNatClampNeg)))))))))] H := hP
  have hD : va_D A [(a0, .inr (17, [.int 1, .ref q1, .int 1])), (q1, .inl (G.2 5, 10, .inr (.inr (.inr (.inr (va_up (fun _ => none) 0 (some (X (1000 + (x0 + 128).toNatClampNeg)))))))))] := hD
  exact pz_rv hx hb hr hlocks hS (Nat.le_of_ble_eq_true rfl) (Nat.le_of_ble_eq_true rfl) dJx4a65c_add_72be8_22 q1 rfl (hP.sub [0, 1] rfl) (hD.sub [0, 1] rfl rfl)
set_option maxHeartbeats 4000000 in
set_option maxRecDepth 100000 in
theorem cJx4a65c_add_9ea2d_9 (l : Launch) (hst : l.stackTraces = false) (G : pz_G) (X : Nat → Nat) (sz : Nat) (a0 : Nat) (x0 : Int32) (hx0l : (-128 : Int) ≤ x0.toInt) (hx0h : x0.toInt ≤ (127 : Int)) : pz_MR (S := Nat) l yJx4a65c_add_9ea2d (pz_cd yJx4a65c_add_9ea2d cJx4a65c_add_9ea2d 2 (some .boolean)) 4 80 1 10 G X sz [(a0, .inr (17, [.int 0, .ref (X 3), .int 0]))] [.ref a0, .ref (X (1000 + (x0 + 128).toNatClampNeg))] (fun u => some (.int 1)) (fun u => [(a0, .inr (17, [.int 1, .ref u, .int 1])), (u, .inl (G.2 5, 10, .inr (.inr (.inr (.inr (va_up (fun _ => none) 0 (some (X (1000 + (x0 + 128).toNatClampNeg)))))))))]) := by
  refine pz_onR (by decide +kernel) (Nat.le_of_ble_eq_true rfl) ?_
  intro p e s m below meth c A hx hb hr hml hown hts hlocks hin hx0 hP hK hD hS hA hE ls hl
  have hown : s.vm.findClass "java/util/ArrayList" = some m.cls := hown
  have hl : lv_has ls 2 [(0, .ref a0), (1, .ref (X (1000 + (x0 + 128).toNatClampNeg)))] := hl
  refine lv_aload_n hx hb dJx4a65c_add_9ea2d_0 rfl (lv_at hl 0 rfl) ?_
  refine lv_dup hx hb dJx4a65c_add_9ea2d_1 rfl ?_
  refine va_get (D := G.1) (ci := 17) (v := .int 0) (C := "java/util/ArrayList") (T := TJx4a65c) (N := 3) hx hb hts inJx4a65c hown hK hP 0 rfl rfl 0 (by decide) (hts _ wq_1805) (fun x9 h9 => u_same (hts _ wq_1804) x9 h9) rfl dJx4a65c_add_9ea2d_2 ?_
  refine lv_iconst (v := 1) hx hb dJx4a65c_add_9ea2d_5 (by decide) ?_
  refine lv_iadd hx hb dJx4a65c_add_9ea2d_6 (pz_K (y := 1) (by decide) ?_)
  refine va_put (D := G.1) (ci := 17) (v := .int 1) (ty := tyJx4a65c 0) (C := "java/util/ArrayList") (T := TJx4a65c) (N := 3) hx hb hts inJx4a65c tyJx4a65c tyJx4a65c_ok nmJx4a65c hown hK hP hD hS 0 rfl rfl 0 (by decide) (hts _ wq_1805) (fun x9 h9 => u_same (hts _ wq_1804) x9 h9) rfl (by decide +kernel) rfl rfl (Nat.le_of_ble_eq_true rfl) dJx4a65c_add_9ea2d_7 (fun H locs hP hD hS => ?_)
  have hP : va_P G.1 pz_cl [(a0, .inr (17, [.int 1, .ref (X 3), .int 0]))] H := hP
  have hD : va_D A [(a0, .inr (17, [.int 1, .ref (X 3), .int 0]))] := hD
  refine lv_aload_n hx hb dJx4a65c_add_9ea2d_10 rfl (lv_at hl 0 rfl) ?_
  refine lv_aload_n hx hb dJx4a65c_add_9ea2d_11 rfl (lv_at hl 1 rfl) ?_
  refine lv_aload_n hx hb dJx4a65c_add_9ea2d_12 rfl (lv_at hl 0 rfl) ?_
  refine va_get (D := G.1) (ci := 17) (v := .ref (X 3)) (C := "java/util/ArrayList") (T := TJx4a65c) (N := 3) hx hb hts inJx4a65c hown hK hP 0 rfl rfl 1 (by decide) (hts _ wq_1798) (fun _ h9 => h9) rfl dJx4a65c_add_9ea2d_13 ?_
  refine lv_aload_n hx hb dJx4a65c_add_9ea2d_16 rfl (lv_at hl 0 rfl) ?_
  refine va_get (D := G.1) (ci := 17) (v := .int 0) (C := "java/util/ArrayList") (T := TJx4a65c) (N := 3) hx hb hts inJx4a65c hown hK hP 0 rfl rfl 2 (by decide) (hts _ wq_1801) (fun _ h9 => h9) rfl dJx4a65c_add_9ea2d_17 ?_
  refine pz_go (wr := []) (vx_runV (C := "java/util/ArrayList") (As := [.ref (X (1000 + (x0 + 128).toNatClampNeg)), .ref (X 3), .int 0]) (rest := []) ⟨hx, hb, hml, hown, hts⟩ (cJx4a65c_add_72be8_9 l hst G X H.size a0 x0 (by omega) (by omega)) (cwV 3 hts (pz_gV wq_1874 wq_1876 wqs_84 wq_16 wq_1877) rfl rfl rfl (by decide +kernel) ⟨(Nat.le_of_ble_eq_true rfl), (Nat.le_of_ble_eq_true rfl)⟩) (pz_preV (C := ("java/util/ArrayList", TJx4a65c, 3)) hK hP hD hS hA hE 0 (ci := 17) rfl rfl [0] rfl rfl) rfl rfl hl.1 rfl (lv_room (Nat.le_of_ble_eq_true rfl)) dJx4a65c_add_9ea2d_20 ⟨(Nat.le_of_ble_eq_true rfl), (Nat.le_of_ble_eq_true rfl)⟩) hP hD hS hA [0] [] rfl rfl rfl (by decide) (fun q1 H locs hP hD hS => ?_)
  have hP : va_P G.1 pz_cl [(a0, .inr (17, [.int 1, .ref q1, .int 1])), (q1, .inl (G.2 5, 10, .inr (.inr (.inr (.inr (va_up (fun _ => none) 0 (some (X (1000 + (x0 + 128).toNatClampNeg)))))))))] H := hP
  have hD : va_D A [(a0, .inr (17, [.int 1, .ref q1, .int 1])), (q1, .inl (G.2 5, 10, .inr (.inr (.inr (.inr (va_up (fun _ => none) 0 (some (X (1000 + (x0 + 128).toNatClampNeg)))))))))] := hD
  refine W.eq (g2 := F0 m 23 ls []) rfl ?_
  refine lv_iconst (v := 1) hx hb dJx4a65c_add_9ea2d_23 (by decide) ?_
  exact pz_rz hx hb hr hlocks (by decide +kernel) hS (Nat.le_of_ble_eq_true rfl) (Nat.le_of_ble_eq_true rfl) dJx4a65c_add_9ea2d_24 q1 rfl (hP.sub [0, 1] rfl) (hD.sub [0, 1] rfl rfl)
set_option maxHeartbeats 4000000 in
set_option maxRecDepth 100000 in
theorem cX16_input_2 (l : Launch) (hst : l.stackTraces = false) (G : pz_G) (X : Nat → Nat) (sz : Nat) (a0 : Nat) (x0 : Int32) (a1 : Nat) (a2 : Nat) (a3 : Nat) (a4 : Nat) (hx0l : (-128 : Int) ≤ x0.toInt) (hx0h : x0.toInt ≤ (127 : Int)) : pz_MR (S := Nat) l yX16_input (pz_cd yX16_input cX16_input 2 (some .int)) 5 101 1 10 G X sz [(a0, .inr (15, [.int 0, .ref a2, .ref a3, .ref a1, .ref a4, .int 0, .null])), (a1, .inr (17, [.int 0, .ref (X 3), .int 0]))] [.ref a0, .int x0] (fun u => some (.int 1)) (fun u => [(a0, .inr (15, [.int 0, .ref a2, .ref a3, .ref a1, .ref a4, .int 0, .null])), (a1, .inr (17, [.int 1, .ref u, .int 1])), (u, .inl (G.2 5, 10, .inr (.inr (.inr (.inr (va_up (fun _ => none) 0 (some (X (1000 + (x0 + 128).toNatClampNeg)))))))))]) := by
  refine pz_onR (by decide +kernel) (Nat.le_of_ble_eq_true rfl) ?_
  intro p e s m below meth c A hx hb hr hml hown hts hlocks hin hx0 hP hK hD hS hA hE ls hl
  have hown : s.vm.findClass "SourcewrightModel" = some m.cls := hown
  have hl : lv_has ls 2 [(0, .ref a0), (1, .int x0)] := hl
  refine lv_aload_n hx hb dX16_input_0 rfl (lv_at hl 0 rfl) ?_
  refine lv_aload_n hx hb dX16_input_1 rfl (lv_at hl 0 rfl) ?_
  refine va_get (D := G.1) (ci := 15) (v := .ref a1) (C := "SourcewrightModel") (T := TX16) (N := 7) hx hb hts inX16 hown hK hP 0 rfl rfl 3 (by decide) (hts _ wq_1816) (fun _ h9 => h9) rfl dX16_input_2 ?_
  refine pz_go (wr := [(a0, .inr (15, [.int 0, .ref a2, .ref a3, .ref a1, .ref a4, .int 0, .null]))]) (vx_runV (C := "java/util/ArrayList") (As := []) (rest := [.ref a0]) ⟨hx, hb, hml, hown, hts⟩ (cJx4a65c_size_8abf5_1 l hst G X s.heap.size a1) (cwV 0 hts (pz_gV wq_1846 wq_1847 wq_1848 wq_16 wq_1849) rfl rfl rfl (by decide +kernel) ⟨(Nat.le_of_ble_eq_true rfl), (Nat.le_of_ble_eq_true rfl)⟩) (pz_preV (C := ("java/util/ArrayList", TJx4a65c, 3)) hK hP hD hS hA hE 1 (ci := 17) rfl rfl [1] rfl rfl) rfl rfl hl.1 rfl (lv_room (Nat.le_of_ble_eq_true rfl)) dX16_input_5 ⟨(Nat.le_of_ble_eq_true rfl), (Nat.le_of_ble_eq_true rfl)⟩) hP hD hS hA [1] [0] rfl rfl rfl (by decide) (fun u H locs hP hD hS => ?_)
  have hP : va_P G.1 pz_cl [(a0, .inr (15, [.int 0, .ref a2, .ref a3, .ref a1, .ref a4, .int 0, .null])), (a1, .inr (17, [.int 0, .ref (X 3), .int 0]))] H := hP
  have hD : va_D A [(a0, .inr (15, [.int 0, .ref a2, .ref a3, .ref a1, .ref a4, .int 0, .null])), (a1, .inr (17, [.int 0, .ref (X 3), .int 0]))] := hD
  refine W.eq (g2 := F0 m 8 ls [.int 0, .ref a0]) rfl ?_
  refine lv_bipush (v := 12) hx hb dX16_input_8 (by decide) ?_
  refine lv_icmp_ne (tgt := 17) hx hb dX16_input_10 (by decide) (fun _ => ?_) (fun hc => absurd hc (by decide))
  refine lv_iconst (v := 0) hx hb dX16_input_17 (by decide) ?_
  refine va_put (D := G.1) (ci := 15) (v := .int 0) (ty := tyX16 0) (C := "SourcewrightModel") (T := TX16) (N := 7) hx hb hts inX16 tyX16 tyX16_ok nmX16 hown hK hP hD hS 0 rfl rfl 0 (by decide) (hts _ wq_1813) (fun _ h9 => h9) rfl (by decide +kernel) rfl rfl (Nat.le_of_ble_eq_true rfl) dX16_input_18 (fun H locs hP hD hS => ?_)
  have hP : va_P G.1 pz_cl [(a0, .inr (15, [.int 0, .ref a2, .ref a3, .ref a1, .ref a4, .int 0, .null])), (a1, .inr (17, [.int 0, .ref (X 3), .int 0]))] H := hP
  have hD : va_D A [(a0, .inr (15, [.int 0, .ref a2, .ref a3, .ref a1, .ref a4, .int 0, .null])), (a1, .inr (17, [.int 0, .ref (X 3), .int 0]))] := hD
  refine lv_aload_n hx hb dX16_input_21 rfl (lv_at hl 0 rfl) ?_
  refine va_get (D := G.1) (ci := 15) (v := .int 0) (C := "SourcewrightModel") (T := TX16) (N := 7) hx hb hts inX16 hown hK hP 0 rfl rfl 0 (by decide) (hts _ wq_1813) (fun _ h9 => h9) rfl dX16_input_22 ?_
  refine lv_if_le (tgt := 30) hx hb dX16_input_25 (by decide) (fun _ => ?_) (fun hc => absurd hc (by decide))
  refine lv_aload_n hx hb dX16_input_30 rfl (lv_at hl 0 rfl) ?_
  refine va_get (D := G.1) (ci := 15) (v := .ref a1) (C := "SourcewrightModel") (T := TX16) (N := 7) hx hb hts inX16 hown hK hP 0 rfl rfl 3 (by decide) (hts _ wq_1816) (fun _ h9 => h9) rfl dX16_input_31 ?_
  refine lv_iload_n hx hb dX16_input_34 rfl (lv_at hl 1 rfl) ?_
  refine pz_go (wr := [(a0, .inr (15, [.int 0, .ref a2, .ref a3, .ref a1, .ref a4, .int 0, .null])), (a1, .inr (17, [.int 0, .ref (X 3), .int 0]))]) (vx_runS (As := [.int x0]) (rest := [.ref a1]) ⟨hx, hb, hml, hown, hts⟩ (cJ6_valueOf_2dffe_7 l hst G X H.size x0 (by omega) (by omega)) (va_cwS 1 hts (pz_gS wq_1850 wq_1851 wq_24 wq_1852) rfl rfl rfl (by decide +kernel) ⟨(Nat.le_of_ble_eq_true rfl), (Nat.le_of_ble_eq_true rfl)⟩) (pz_preS hK hP hD hS hA hE [] rfl rfl) rfl rfl hl.1 rfl (lv_room (Nat.le_of_ble_eq_true rfl)) dX16_input_35 ⟨(Nat.le_of_ble_eq_true rfl), (Nat.le_of_ble_eq_true rfl)⟩) hP hD hS hA [] [0, 1] rfl rfl rfl (by decide) (fun u H locs hP hD hS => ?_)
  have hP : va_P G.1 pz_cl [(a0, .inr (15, [.int 0, .ref a2, .ref a3, .ref a1, .ref a4, .int 0, .null])), (a1, .inr (17, [.int 0, .ref (X 3), .int 0]))] H := hP
  have hD : va_D A [(a0, .inr (15, [.int 0, .ref a2, .ref a3, .ref a1, .ref a4, .int 0, .null])), (a1, .inr (17, [.int 0, .ref (X 3), .int 0]))] := hD
  refine W.eq (g2 := F0 m 38 ls [.ref (X (1000 + (x0 + 128).toNatClampNeg)), .ref a1]) rfl ?_
  refine pz_go (wr := [(a0, .inr (15, [.int 0, .ref a2, .ref a3, .ref a1, .ref a4, .int 0, .null]))]) (vx_runV (C := "java/util/ArrayList") (As := [.ref (X (1000 + (x0 + 128).toNatClampNeg))]) (rest := []) ⟨hx, hb, hml, hown, hts⟩ (cJx4a65c_add_9ea2d_9 l hst G X H.size a1 x0 (by omega) (by omega)) (cwV 1 hts (pz_gV wq_1870 wq_1871 wq_1872 wq_16 wq_1873) rfl rfl rfl (by decide +kernel) ⟨(Nat.le_of_ble_eq_true rfl), (Nat.le_of_ble_eq_true rfl)⟩) (pz_preV (C := ("java/util/ArrayList", TJx4a65c, 3)) hK hP hD hS hA hE 1 (ci := 17) rfl rfl [1] rfl rfl) rfl rfl hl.1 rfl (lv_room (Nat.le_of_ble_eq_true rfl)) dX16_input_38 ⟨(Nat.le_of_ble_eq_true rfl), (Nat.le_of_ble_eq_true rfl)⟩) hP hD hS hA [1] [0] rfl rfl rfl (by decide) (fun q1 H locs hP hD hS => ?_)
  have hP : va_P G.1 pz_cl [(a0, .inr (15, [.int 0, .ref a2, .ref a3, .ref a1, .ref a4, .int 0, .null])), (a1, .inr (17, [.int 1, .ref q1, .int 1])), (q1, .inl (G.2 5, 10, .inr (.inr (.inr (.inr (va_up (fun _ => none) 0 (some (X (1000 + (x0 + 128).toNatClampNeg)))))))))] H := hP
  have hD : va_D A [(a0, .inr (15, [.int 0, .ref a2, .ref a3, .ref a1, .ref a4, .int 0, .null])), (a1, .inr (17, [.int 1, .ref q1, .int 1])), (q1, .inl (G.2 5, 10, .inr (.inr (.inr (.inr (va_up (fun _ => none) 0 (some (X (1000 + (x0 + 128).toNatClampNeg)))))))))] := hD
  refine W.eq (g2 := F0 m 41 ls [.int 1]) rfl ?_
  refine lv_pop hx hb dX16_input_41 rfl ?_
  refine lv_aload_n hx hb dX16_input_42 rfl (lv_at hl 0 rfl) ?_
  refine va_get (D := G.1) (ci := 15) (v := .ref a1) (C := "SourcewrightModel") (T := TX16) (N := 7) hx hb hts inX16 hown hK hP 0 rfl rfl 3 (by decide) (hts _ wq_1816) (fun _ h9 => h9) rfl dX16_input_43 ?_
  refine pz_go (wr := [(a0, .inr (15, [.int 0, .ref a2, .ref a3, .ref a1, .ref a4, .int 0, .null])), (q1, .inl (G.2 5, 10, .inr (.inr (.inr (.inr (va_up (fun _ => none) 0 (some (X (1000 + (x0 + 128).toNatClampNeg)))))))))]) (vx_runV (C := "java/util/ArrayList") (As := []) (rest := []) ⟨hx, hb, hml, hown, hts⟩ (cJx4a65c_size_8abf5_2 l hst G X H.size a1 q1) (cwV 0 hts (pz_gV wq_1846 wq_1847 wq_1848 wq_16 wq_1849) rfl rfl rfl (by decide +kernel) ⟨(Nat.le_of_ble_eq_true rfl), (Nat.le_of_ble_eq_true rfl)⟩) (pz_preV (C := ("java/util/ArrayList", TJx4a65c, 3)) hK hP hD hS hA hE 1 (ci := 17) rfl rfl [1] rfl rfl) rfl rfl hl.1 rfl (lv_room (Nat.le_of_ble_eq_true rfl)) dX16_input_46 ⟨(Nat.le_of_ble_eq_true rfl), (Nat.le_of_ble_eq_true rfl)⟩) hP hD hS hA [1] [0, 2] rfl rfl rfl (by decide) (fun u H locs hP hD hS => ?_)
  have hP : va_P G.1 pz_cl [(a0, .inr (15, [.int 0, .ref a2, .ref a3, .ref a1, .ref a4, .int 0, .null])), (q1, .inl (G.2 5, 10, .inr (.inr (.inr (.inr (va_up (fun _ => none) 0 (some (X (1000 + (x0 + 128).toNatClampNeg))))))))), (a1, .inr (17, [.int 1, .ref q1, .int 1]))] H := hP
  have hD : va_D A [(a0, .inr (15, [.int 0, .ref a2, .ref a3, .ref a1, .ref a4, .int 0, .null])), (q1, .inl (G.2 5, 10, .inr (.inr (.inr (.inr (va_up (fun _ => none) 0 (some (X (1000 + (x0 + 128).toNatClampNeg))))))))), (a1, .inr (17, [.int 1, .ref q1, .int 1]))] := hD
  refine W.eq (g2 := F0 m 49 ls [.int 1]) rfl ?_
  exact pz_rz hx hb hr hlocks (by decide +kernel) hS (Nat.le_of_ble_eq_true rfl) (Nat.le_of_ble_eq_true rfl) dX16_input_49 q1 rfl (hP.sub [0, 2, 1] rfl) (hD.sub [0, 2, 1] rfl rfl)
set_option maxHeartbeats 4000000 in
set_option maxRecDepth 100000 in
theorem cX11_input_3 (l : Launch) (hst : l.stackTraces = false) (G : pz_G) (X : Nat → Nat) (sz : Nat) (a0 : Nat) (x0 : Int32) (a1 : Nat) (a2 : Nat) (a3 : Nat) (a4 : Nat) (a5 : Nat) (a6 : Nat) (a7 : Nat) (a8 : Nat) (a9 : Nat) (a10 : Nat) (a11 : Nat) (a12 : Nat) (a13 : Nat) (f0 : Nat → Int32) (hx0l : (128 : Int) ≤ x0.toInt) (hx0h : x0.toInt ≤ (2147483647 : Int)) : pz_MR (S := Unit) l yX11_input (pz_cd yX11_input cX11_input 2 (some .int)) 0 0 0 0 G X sz [(a0, .inr (11, [.ref a2, .ref a3, .int 0, .ref a1, .int 0, .int 0, .ref a4, .ref a5, .ref a6, .ref a7, .ref a8, .ref a9, .ref a10, .ref a11, .ref a12, .ref a13, .int 0, .int (-1), .int (-1), .int 0])), (a1, .inl (G.2 0, 12, .inl (f0)))] [.ref a0, .int x0] (fun u => some (.int 1)) (fun u => [(a0, .inr (11, [.ref a2, .ref a3, .int 0, .ref a1, .int 1, .int 0, .ref a4, .ref a5, .ref a6, .ref a7, .ref a8, .ref a9, .ref a10, .ref a11, .ref a12, .ref a13, .int 0, .int (-1), .int (-1), .int 0])), (a1, .inl (G.2 0, 12, .inl (upd (f0) 0 x0)))]) := by
  refine pz_onR (by decide +kernel) (Nat.le_of_ble_eq_true rfl) ?_
  intro p e s m below meth c A hx hb hr hml hown hts hlocks hin hx0 hP hK hD hS hA hE ls hl
  have hown : s.vm.findClass "Sourcewright" = some m.cls := hown
  have hl : lv_has ls 2 [(0, .ref a0), (1, .int x0)] := hl
  refine lv_aload_n hx hb dX11_input_0 rfl (lv_at hl 0 rfl) ?_
  refine va_get (D := G.1) (ci := 11) (v := .int 0) (C := "Sourcewright") (T := TX11) (N := 20) hx hb hts inX11 hown hK hP 0 rfl rfl 4 (by decide) (hts _ wq_447) (fun _ h9 => h9) rfl dX11_input_1 ?_
  refine lv_if_lt (tgt := 19) hx hb dX11_input_4 (by decide) (fun hc => absurd hc (by decide)) (fun _ => ?_)
  refine lv_aload_n hx hb dX11_input_7 rfl (lv_at hl 0 rfl) ?_
  refine va_get (D := G.1) (ci := 11) (v := .int 0) (C := "Sourcewright") (T := TX11) (N := 20) hx hb hts inX11 hown hK hP 0 rfl rfl 4 (by decide) (hts _ wq_447) (fun _ h9 => h9) rfl dX11_input_8 ?_
  refine lv_aload_n hx hb dX11_input_11 rfl (lv_at hl 0 rfl) ?_
  refine va_get (D := G.1) (ci := 11) (v := .ref a1) (C := "Sourcewright") (T := TX11) (N := 20) hx hb hts inX11 hown hK hP 0 rfl rfl 3 (by decide) (hts _ wq_446) (fun _ h9 => h9) rfl dX11_input_12 ?_
  refine va_alen (v := 12) hx hb hK hP 1 0 rfl rfl (by show Int32.ofNat 12 = 12; decide) dX11_input_15 ?_
  refine lv_icmp_lt (tgt := 30) hx hb dX11_input_16 (by decide) (fun _ => ?_) (fun hc => absurd hc (by decide))
  refine lv_aload_n hx hb dX11_input_30 rfl (lv_at hl 0 rfl) ?_
  refine va_get (D := G.1) (ci := 11) (v := .ref a1) (C := "Sourcewright") (T := TX11) (N := 20) hx hb hts inX11 hown hK hP 0 rfl rfl 3 (by decide) (hts _ wq_446) (fun _ h9 => h9) rfl dX11_input_31 ?_
  refine lv_aload_n hx hb dX11_input_34 rfl (lv_at hl 0 rfl) ?_
  refine va_get (D := G.1) (ci := 11) (v := .int 0) (C := "Sourcewright") (T := TX11) (N := 20) hx hb hts inX11 hown hK hP 0 rfl rfl 4 (by decide) (hts _ wq_447) (fun _ h9 => h9) rfl dX11_input_35 ?_
  refine lv_iload_n hx hb dX11_input_38 rfl (lv_at hl 1 rfl) ?_
  refine va_iast hx hb hK hP hD hS 1 0 rfl rfl (pz_vi rfl) dX11_input_39 (fun H locs hP hD hS => ?_)
  have hP : va_P G.1 pz_cl [(a0, .inr (11, [.ref a2, .ref a3, .int 0, .ref a1, .int 0, .int 0, .ref a4, .ref a5, .ref a6, .ref a7, .ref a8, .ref a9, .ref a10, .ref a11, .ref a12, .ref a13, .int 0, .int (-1), .int (-1), .int 0])), (a1, .inl (G.2 0, 12, .inl (upd (f0) 0 x0)))] H := hP
  have hD : va_D A [(a0, .inr (11, [.ref a2, .ref a3, .int 0, .ref a1, .int 0, .int 0, .ref a4, .ref a5, .ref a6, .ref a7, .ref a8, .ref a9, .ref a10, .ref a11, .ref a12, .ref a13, .int 0, .int (-1), .int (-1), .int 0])), (a1, .inl (G.2 0, 12, .inl (upd (f0) 0 x0)))] := hD
  refine lv_aload_n hx hb dX11_input_40 rfl (lv_at hl 0 rfl) ?_
  refine lv_dup hx hb dX11_input_41 rfl ?_
  refine va_get (D := G.1) (ci := 11) (v := .int 0) (C := "Sourcewright") (T := TX11) (N := 20) hx hb hts inX11 hown hK hP 0 rfl rfl 4 (by decide) (hts _ wq_447) (fun _ h9 => h9) rfl dX11_input_42 ?_
  refine lv_iconst (v := 1) hx hb dX11_input_45 (by decide) ?_
  refine lv_iadd hx hb dX11_input_46 (pz_K (y := 1) (by decide) ?_)
  refine va_put (D := G.1) (ci := 11) (v := .int 1) (ty := tyX11 4) (C := "Sourcewright") (T := TX11) (N := 20) hx hb hts inX11 tyX11 tyX11_ok nmX11 hown hK hP hD hS 0 rfl rfl 4 (by decide) (hts _ wq_447) (fun _ h9 => h9) rfl (by decide +kernel) rfl rfl (Nat.le_of_ble_eq_true rfl) dX11_input_47 (fun H locs hP hD hS => ?_)
  have hP : va_P G.1 pz_cl [(a0, .inr (11, [.ref a2, .ref a3, .int 0, .ref a1, .int 1, .int 0, .ref a4, .ref a5, .ref a6, .ref a7, .ref a8, .ref a9, .ref a10, .ref a11, .ref a12, .ref a13, .int 0, .int (-1), .int (-1), .int 0])), (a1, .inl (G.2 0, 12, .inl (upd (f0) 0 x0)))] H := hP
  have hD : va_D A [(a0, .inr (11, [.ref a2, .ref a3, .int 0, .ref a1, .int 1, .int 0, .ref a4, .ref a5, .ref a6, .ref a7, .ref a8, .ref a9, .ref a10, .ref a11, .ref a12, .ref a13, .int 0, .int (-1), .int (-1), .int 0])), (a1, .inl (G.2 0, 12, .inl (upd (f0) 0 x0)))] := hD
  refine lv_aload_n hx hb dX11_input_50 rfl (lv_at hl 0 rfl) ?_
  refine va_get (D := G.1) (ci := 11) (v := .int 1) (C := "Sourcewright") (T := TX11) (N := 20) hx hb hts inX11 hown hK hP 0 rfl rfl 4 (by decide) (hts _ wq_447) (fun _ h9 => h9) rfl dX11_input_51 ?_
  exact pz_rz hx hb hr hlocks (by decide +kernel) hS (Nat.le_of_ble_eq_true rfl) (Nat.le_of_ble_eq_true rfl) dX11_input_54 () rfl (hP.sub [0, 1] rfl) (hD.sub [0, 1] rfl rfl)
set_option maxHeartbeats 4000000 in
set_option maxRecDepth 100000 in
theorem cL_input_3 (l : Launch) (hst : l.stackTraces = false) (G : pz_G) (X : Nat → Nat) (sz : Nat) (a0 : Nat) (x0 : Int32) (a1 : Nat) (a2 : Nat) (a3 : Nat) (a4 : Nat) (a5 : Nat) (a6 : Nat) (a7 : Nat) (a8 : Nat) (a9 : Nat) (a10 : Nat) (a11 : Nat) (a12 : Nat) (a13 : Nat) (a14 : Nat) (f0 : Nat → Int32) (f1 : Nat → Int64) (hx0l : (128 : Int) ≤ x0.toInt) (hx0h : x0.toInt ≤ (2147483647 : Int)) : pz_MR (S := Unit) l yL_input (pz_cw yL_input cL_input 4 (some .int) [(0, 9, 12, 15)]) 1 21 0 0 G X sz [(a0, .inr (11, [.ref a3, .ref a4, .int 0, .ref a2, .int 0, .int 0, .ref a5, .ref a6, .ref a7, .ref a8, .ref a9, .ref a10, .ref a11, .ref a12, .ref a13, .ref a14, .int 0, .int (-1), .int (-1), .int 0])), (a2, .inl (G.2 0, 12, .inl (f0))), (a1, .inl (G.2 2, 1, .inr (.inl (f1))))] [.ref a0, .int x0, .ref a1] (fun u => some (.int 0)) (fun u => [(a0, .inr (11, [.ref a3, .ref a4, .int 0, .ref a2, .int 1, .int 0, .ref a5, .ref a6, .ref a7, .ref a8, .ref a9, .ref a10, .ref a11, .ref a12, .ref a13, .ref a14, .int 0, .int (-1), .int (-1), .int 0])), (a2, .inl (G.2 0, 12, .inl (upd (f0) 0 x0))), (a1, .inl (G.2 2, 1, .inr (.inl (vp_updL (f1) 0 1))))]) := by
  refine pz_onHR (by decide +kernel) (Nat.le_of_ble_eq_true rfl) ?_
  intro p e s m below meth c A hx hb hr hml hown hts hlocks hin hx0 hP hK hD hS hA hE ls hl
  have hown : s.vm.findClass "SourcewrightLaw" = some m.cls := hown
  have hl : lv_has ls 4 [(0, .ref a0), (1, .int x0), (2, .ref a1)] := hl
  refine lv_aload_n hx hb dL_input_0 rfl (lv_at hl 2 rfl) ?_
  refine lv_iconst (v := 0) hx hb dL_input_1 (by decide) ?_
  refine lv_aload_n hx hb dL_input_2 rfl (lv_at hl 0 rfl) ?_
  refine lv_iload_n hx hb dL_input_3 rfl (lv_at hl 1 rfl) ?_
  refine pz_go (wr := [(a1, .inl (G.2 2, 1, .inr (.inl (f1))))]) (vx_runV (C := "Sourcewright") (As := [.int x0]) (rest := [.int 0, .ref a1]) ⟨hx, hb, hml, hown, hts⟩ (cX11_input_3 l hst G X s.heap.size a0 x0 a2 a3 a4 a5 a6 a7 a8 a9 a10 a11 a12 a13 a14 f0 (by omega) (by omega)) (cwV 1 hts (pz_gV wq_1695 wq_1696 wq_1697 wq_1 wq_1698) rfl rfl rfl (by decide +kernel) ⟨(Nat.le_of_ble_eq_true rfl), (Nat.le_of_ble_eq_true rfl)⟩) (pz_preV (C := ("Sourcewright", TX11, 20)) hK hP hD hS hA hE 0 (ci := 11) rfl rfl [0, 1] rfl rfl) rfl rfl hl.1 rfl (lv_room (Nat.le_of_ble_eq_true rfl)) dL_input_4 ⟨(Nat.le_of_ble_eq_true rfl), (Nat.le_of_ble_eq_true rfl)⟩) hP hD hS hA [0, 1] [2] rfl rfl rfl (by decide) (fun u H locs hP hD hS => ?_)
  have hP : va_P G.1 pz_cl [(a1, .inl (G.2 2, 1, .inr (.inl (f1)))), (a0, .inr (11, [.ref a3, .ref a4, .int 0, .ref a2, .int 1, .int 0, .ref a5, .ref a6, .ref a7, .ref a8, .ref a9, .ref a10, .ref a11, .ref a12, .ref a13, .ref a14, .int 0, .int (-1), .int (-1), .int 0])), (a2, .inl (G.2 0, 12, .inl (upd (f0) 0 x0)))] H := hP
  have hD : va_D A [(a1, .inl (G.2 2, 1, .inr (.inl (f1)))), (a0, .inr (11, [.ref a3, .ref a4, .int 0, .ref a2, .int 1, .int 0, .ref a5, .ref a6, .ref a7, .ref a8, .ref a9, .ref a10, .ref a11, .ref a12, .ref a13, .ref a14, .int 0, .int (-1), .int (-1), .int 0])), (a2, .inl (G.2 0, 12, .inl (upd (f0) 0 x0)))] := hD
  refine W.eq (g2 := F0 m 7 ls [.int 1, .int 0, .ref a1]) rfl ?_
  refine lv_i2l (v := 1) hx hb dL_input_7 (by decide) ?_
  refine va_last hx hb hK hP hD hS 0 2 rfl rfl (pz_vi rfl) dL_input_8 (fun H locs hP hD hS => ?_)
  have hP : va_P G.1 pz_cl [(a1, .inl (G.2 2, 1, .inr (.inl (vp_updL (f1) 0 1)))), (a0, .inr (11, [.ref a3, .ref a4, .int 0, .ref a2, .int 1, .int 0, .ref a5, .ref a6, .ref a7, .ref a8, .ref a9, .ref a10, .ref a11, .ref a12, .ref a13, .ref a14, .int 0, .int (-1), .int (-1), .int 0])), (a2, .inl (G.2 0, 12, .inl (upd (f0) 0 x0)))] H := hP
  have hD : va_D A [(a1, .inl (G.2 2, 1, .inr (.inl (vp_updL (f1) 0 1)))), (a0, .inr (11, [.ref a3, .ref a4, .int 0, .ref a2, .int 1, .int 0, .ref a5, .ref a6, .ref a7, .ref a8, .ref a9, .ref a10, .ref a11, .ref a12, .ref a13, .ref a14, .int 0, .int (-1), .int (-1), .int 0])), (a2, .inl (G.2 0, 12, .inl (upd (f0) 0 x0)))] := hD
  refine lv_goto (tgt := 15) hx hb dL_input_9 (by decide) ?_
  refine lv_iconst (v := 0) hx hb dL_input_15 (by decide) ?_
  exact pz_rz hx hb hr hlocks (by decide +kernel) hS (Nat.le_of_ble_eq_true rfl) (Nat.le_of_ble_eq_true rfl) dL_input_16 () rfl (hP.sub [1, 2, 0] rfl) (hD.sub [1, 2, 0] rfl rfl)
set_option maxHeartbeats 4000000 in
set_option maxRecDepth 100000 in
theorem cJ6_init_d00df_5 (l : Launch) (hst : l.stackTraces = false) (G : pz_G) (X : Nat → Nat) (sz : Nat) (a0 : Nat) (x0 : Int32) (hx0l : (128 : Int) ≤ x0.toInt) (hx0h : x0.toInt ≤ (2147483647 : Int)) : pz_MR (S := Unit) l yJ6_init_d00df (pz_cd yJ6_init_d00df cJ6_init_d00df 2 none) 2 32 0 0 G X sz [(a0, .inr (16, [.int 0]))] [.ref a0, .int x0] (fun u => none) (fun u => [(a0, .inr (16, [.int x0]))]) := by
  refine pz_onR (by decide +kernel) (Nat.le_of_ble_eq_true rfl) ?_
  intro p e s m below meth c A hx hb hr hml hown hts hlocks hin hx0 hP hK hD hS hA hE ls hl
  have hown : s.vm.findClass "java/lang/Integer" = some m.cls := hown
  have hl : lv_has ls 2 [(0, .ref a0), (1, .int x0)] := hl
  refine lv_aload_n hx hb dJ6_init_d00df_0 rfl (lv_at hl 0 rfl) ?_
  refine pz_go (wr := [(a0, .inr (16, [.int 0]))]) (vx_runI (As := []) (rest := []) ⟨hx, hb, hml, hown, hts⟩ (cJxd2413_init_da8c8_1 l hst G X s.heap.size a0) (cwI 0 hts (pz_gC wq_1864) rfl rfl rfl (hts _ wq_23) (hts _ wq_1862) (hts _ wq_1863) rfl (by decide +kernel) ⟨(Nat.le_of_ble_eq_true rfl), (Nat.le_of_ble_eq_true rfl)⟩) (pz_preS hK hP hD hS hA hE [] rfl rfl) rfl rfl hl.1 rfl (lv_room (Nat.le_of_ble_eq_true rfl)) dJ6_init_d00df_1 ⟨(Nat.le_of_ble_eq_true rfl), (Nat.le_of_ble_eq_true rfl)⟩) hP hD hS hA [] [0] rfl rfl rfl (by decide) (fun u H locs hP hD hS => ?_)
  have hP : va_P G.1 pz_cl [(a0, .inr (16, [.int 0]))] H := hP
  have hD : va_D A [(a0, .inr (16, [.int 0]))] := hD
  refine W.eq (g2 := F0 m 4 ls []) rfl ?_
  refine lv_aload_n hx hb dJ6_init_d00df_4 rfl (lv_at hl 0 rfl) ?_
  refine lv_iload_n hx hb dJ6_init_d00df_5 rfl (lv_at hl 1 rfl) ?_
  refine va_putF (D := G.1) (ci := 16) (v := .int x0) (ty := tyJ6 0) (C := "java/lang/Integer") (T := TJ6) (N := 1) hx hb hts inJ6 tyJ6 tyJ6_ok nmJ6 hown hK hP hD hS 0 rfl rfl 0 (by decide) (hts _ wq_1866) (fun _ h9 => h9) rfl hin rfl (by decide +kernel) rfl rfl (Nat.le_of_ble_eq_true rfl) dJ6_init_d00df_6 (fun H locs hP hD hS => ?_)
  have hP : va_P G.1 pz_cl [(a0, .inr (16, [.int x0]))] H := hP
  have hD : va_D A [(a0, .inr (16, [.int x0]))] := hD
  exact pz_rv hx hb hr hlocks hS (Nat.le_of_ble_eq_true rfl) (Nat.le_of_ble_eq_true rfl) dJ6_init_d00df_9 () rfl (hP.sub [0] rfl) (hD.sub [0] rfl rfl)
set_option maxHeartbeats 4000000 in
set_option maxRecDepth 100000 in
theorem cJ6_valueOf_2dffe_8 (l : Launch) (hst : l.stackTraces = false) (G : pz_G) (X : Nat → Nat) (sz : Nat) (x0 : Int32) (hx0l : (128 : Int) ≤ x0.toInt) (hx0h : x0.toInt ≤ (2147483647 : Int)) : pz_MR (S := Nat) l yJ6_valueOf_2dffe (pz_cd yJ6_valueOf_2dffe cJ6_valueOf_2dffe 1 (some (.object "java/lang/Integer"))) 3 53 1 1 G X sz [] [.int x0] (fun u => some (.ref u)) (fun u => [(u, .inr (16, [.int x0]))]) := by
  refine pz_onR (by decide +kernel) (Nat.le_of_ble_eq_true rfl) ?_
  intro p e s m below meth c A hx hb hr hml hown hts hlocks hin hx0 hP hK hD hS hA hE ls hl
  have hown : s.vm.findClass "java/lang/Integer" = some m.cls := hown
  have hl : lv_has ls 1 [(0, .int x0)] := hl
  refine lv_iload_n hx hb dJ6_valueOf_2dffe_0 rfl (lv_at hl 0 rfl) ?_
  refine lv_bipush (v := (-128)) hx hb dJ6_valueOf_2dffe_1 (by decide) ?_
  refine lv_icmp_lt (tgt := 23) hx hb dJ6_valueOf_2dffe_3 (by decide) (fun hc => by have h9 : (x0).toInt < (-128) := pz_lt hc; omega) (fun _ => ?_)
  refine lv_iload_n hx hb dJ6_valueOf_2dffe_6 rfl (lv_at hl 0 rfl) ?_
  refine va_gets hx hb hE.2.2.2.2.1.1 hS hown (hts _ wq_1853) (fun _ h9 => h9) dJ6_valueOf_2dffe_7 ?_
  refine lv_icmp_gt (tgt := 23) hx hb dJ6_valueOf_2dffe_10 (by decide) (fun _ => ?_) (fun hc => by have h9 : (x0).toInt ≤ 127 := pz_nlt hc; omega)
  refine va_new (ci := 16) (fs := [.int 0]) (C := "java/lang/Integer") (T := TJ6) (N := 1) hx hb hts inJ6 tyJ6 tyJ6_ok hown (hts _ wq_1857) (hts _ wq_1858) (hts _ wq_24) hK hP hD hS hA rfl (pz_dfJ6) (Nat.le_of_ble_eq_true rfl) (Nat.le_of_ble_eq_true rfl) dJ6_valueOf_2dffe_23 (fun q1 H hP hD hS => ?_)
  have hP : va_P G.1 pz_cl [(q1, .inr (16, [.int 0]))] H := hP
  have hD : va_D A [(q1, .inr (16, [.int 0]))] := hD
  refine lv_dup hx hb dJ6_valueOf_2dffe_26 rfl ?_
  refine lv_iload_n hx hb dJ6_valueOf_2dffe_27 rfl (lv_at hl 0 rfl) ?_
  refine pz_go (wr := []) (vx_runI (As := [.int x0]) (rest := [.ref q1]) ⟨hx, hb, hml, hown, hts⟩ (cJ6_init_d00df_5 l hst G X H.size q1 x0 (by omega) (by omega)) (cwI 1 hts (pz_gC wq_1861) rfl rfl rfl (hts _ wq_24) (hts _ wq_1859) (hts _ wq_1860) rfl (by decide +kernel) ⟨(Nat.le_of_ble_eq_true rfl), (Nat.le_of_ble_eq_true rfl)⟩) (pz_preS hK hP hD hS hA hE [0] rfl rfl) rfl rfl hl.1 rfl (lv_room (Nat.le_of_ble_eq_true rfl)) dJ6_valueOf_2dffe_28 ⟨(Nat.le_of_ble_eq_true rfl), (Nat.le_of_ble_eq_true rfl)⟩) hP hD hS hA [0] [] rfl rfl rfl (by decide) (fun u H locs hP hD hS => ?_)
  have hP : va_P G.1 pz_cl [(q1, .inr (16, [.int x0]))] H := hP
  have hD : va_D A [(q1, .inr (16, [.int x0]))] := hD
  refine W.eq (g2 := F0 m 31 ls [.ref q1]) rfl ?_
  exact pz_ra hx hb hr hlocks (Or.inl ⟨_, rfl⟩) (Or.inr ⟨_, rfl⟩) hS (Nat.le_of_ble_eq_true rfl) (Nat.le_of_ble_eq_true rfl) dJ6_valueOf_2dffe_31 q1 rfl (hP.sub [0] rfl) (hD.sub [0] rfl rfl)
set_option maxHeartbeats 4000000 in
set_option maxRecDepth 100000 in
theorem cJx4a65c_add_72be8_10 (l : Launch) (hst : l.stackTraces = false) (G : pz_G) (X : Nat → Nat) (sz : Nat) (a0 : Nat) (a1 : Nat) (x0 : Int32) (hx0l : (128 : Int) ≤ x0.toInt) (hx0h : x0.toInt ≤ (2147483647 : Int)) : pz_MR (S := Nat) l yJx4a65c_add_72be8 (pz_cd yJx4a65c_add_72be8 cJx4a65c_add_72be8 4 none) 3 57 1 10 G X sz [(a0, .inr (17, [.int 1, .ref (X 3), .int 0])), (a1, .inr (16, [.int x0]))] [.ref a0, .ref a1, .ref (X 3), .int 0] (fun u => none) (fun u => [(a0, .inr (17, [.int 1, .ref u, .int 1])), (a1, .inr (16, [.int x0])), (u, .inl (G.2 5, 10, .inr (.inr (.inr (.inr (va_up (fun _ => none) 0 (some a1)))))))]) := by
  refine pz_onR (by decide +kernel) (Nat.le_of_ble_eq_true rfl) ?_
  intro p e s m below meth c A hx hb hr hml hown hts hlocks hin hx0 hP hK hD hS hA hE ls hl
  have hown : s.vm.findClass "java/util/ArrayList" = some m.cls := hown
  have hl : lv_has ls 4 [(0, .ref a0), (1, .ref a1), (2, .ref (X 3)), (3, .int 0)] := hl
  refine lv_iload_n hx hb dJx4a65c_add_72be8_0 rfl (lv_at hl 3 rfl) ?_
  refine lv_aload_n hx hb dJx4a65c_add_72be8_1 rfl (lv_at hl 2 rfl) ?_
  refine va_tlen (v := 0) hx hb hE.2.2.2.1.2.1 hS (by decide) dJx4a65c_add_72be8_2 ?_
  refine lv_icmp_ne (tgt := 11) hx hb dJx4a65c_add_72be8_3 (by decide) (fun hc => absurd hc (by decide)) (fun _ => ?_)
  refine lv_aload_n hx hb dJx4a65c_add_72be8_6 rfl (lv_at hl 0 rfl) ?_
  refine pz_go (wr := [(a1, .inr (16, [.int x0]))]) (vx_runV (C := "java/util/ArrayList") (As := []) (rest := []) ⟨hx, hb, hml, hown, hts⟩ (cJx4a65c_grow_d5877_1 l hst G X s.heap.size a0) (cwV 0 hts (pz_gV wq_1878 wq_1880 wqs_85 wq_16 wq_1881) rfl rfl rfl (by decide +kernel) ⟨(Nat.le_of_ble_eq_true rfl), (Nat.le_of_ble_eq_true rfl)⟩) (pz_preV (C := ("java/util/ArrayList", TJx4a65c, 3)) hK hP hD hS hA hE 0 (ci := 17) rfl rfl [0] rfl rfl) rfl rfl hl.1 rfl (lv_room (Nat.le_of_ble_eq_true rfl)) dJx4a65c_add_72be8_7 ⟨(Nat.le_of_ble_eq_true rfl), (Nat.le_of_ble_eq_true rfl)⟩) hP hD hS hA [0] [1] rfl rfl rfl (by decide) (fun q1 H locs hP hD hS => ?_)
  have hP : va_P G.1 pz_cl [(a1, .inr (16, [.int x0])), (a0, .inr (17, [.int 1, .ref q1, .int 0])), (q1, .inl (G.2 5, 10, .inr (.inr (.inr (.inr (fun _ => none))))))] H := hP
  have hD : va_D A [(a1, .inr (16, [.int x0])), (a0, .inr (17, [.int 1, .ref q1, .int 0])), (q1, .inl (G.2 5, 10, .inr (.inr (.inr (.inr (fun _ => none))))))] := hD
  refine W.eq (g2 := F0 m 10 ls [.ref q1]) rfl ?_
  refine lv_astore_n (lv' := [(2, .ref q1), (0, .ref a0), (1, .ref a1), (3, .int 0)]) hx hb dJx4a65c_add_72be8_10 rfl hl (by decide) rfl (fun ls hl => ?_)
  refine lv_aload_n hx hb dJx4a65c_add_72be8_11 rfl (lv_at hl 0 rfl) ?_
  refine lv_iload_n hx hb dJx4a65c_add_72be8_12 rfl (lv_at hl 3 rfl) ?_
  refine lv_aload_n hx hb dJx4a65c_add_72be8_13 rfl (lv_at hl 2 rfl) ?_
  refine vb_astq (E := "java/lang/Object") (C := "java/lang/Integer") hx hb hK hP hD hS 2 5 rfl rfl (va_recv hK hP (ci := 16) (q0 := 0) rfl rfl) (vb_asgC (hE.2.2.2.2.2.2.2.2.1 _ nx_3213)) (pz_vi rfl) dJx4a65c_add_72be8_14 (fun H locs hP hD hS => ?_)
  have hP : va_P G.1 pz_cl [(a1, .inr (16, [.int x0])), (a0, .inr (17, [.int 1, .ref q1, .int 0])), (q1, .inl (G.2 5, 10, .inr (.inr (.inr (.inr (va_up (fun _ => none) 0 (some a1)))))))] H := hP
  have hD : va_D A [(a1, .inr (16, [.int x0])), (a0, .inr (17, [.int 1, .ref q1, .int 0])), (q1, .inl (G.2 5, 10, .inr (.inr (.inr (.inr (va_up (fun _ => none) 0 (some a1)))))))] := hD
  refine lv_aload_n hx hb dJx4a65c_add_72be8_15 rfl (lv_at hl 1 rfl) ?_
  refine lv_iload_n hx hb dJx4a65c_add_72be8_16 rfl (lv_at hl 3 rfl) ?_
  refine lv_iconst (v := 1) hx hb dJx4a65c_add_72be8_17 (by decide) ?_
  refine lv_iadd hx hb dJx4a65c_add_72be8_18 (pz_K (y := 1) (by decide) ?_)
  refine va_put (D := G.1) (ci := 17) (v := .int 1) (ty := tyJx4a65c 2) (C := "java/util/ArrayList") (T := TJx4a65c) (N := 3) hx hb hts inJx4a65c tyJx4a65c tyJx4a65c_ok nmJx4a65c hown hK hP hD hS 1 rfl rfl 2 (by decide) (hts _ wq_1801) (fun _ h9 => h9) rfl (by decide +kernel) rfl rfl (Nat.le_of_ble_eq_true rfl) dJx4a65c_add_72be8_19 (fun H locs hP hD hS => ?_)
  have hP : va_P G.1 pz_cl [(a1, .inr (16, [.int x0])), (a0, .inr (17, [.int 1, .ref q1, .int 1])), (q1, .inl (G.2 5, 10, .inr (.inr (.inr (.inr (va_up (fun _ => none) 0 (some a1)))))))] H := hP
  have hD : va_D A [(a1, .inr (16, [.int x0])), (a0, .inr (17, [.int 1, .ref q1, .int 1])), (q1, .inl (G.2 5, 10, .inr (.inr (.inr (.inr (va_up (fun _ => none) 0 (some a1)))))))] := hD
  exact pz_rv hx hb hr hlocks hS (Nat.le_of_ble_eq_true rfl) (Nat.le_of_ble_eq_true rfl) dJx4a65c_add_72be8_22 q1 rfl (hP.sub [1, 0, 2] rfl) (hD.sub [1, 0, 2] rfl rfl)
set_option maxHeartbeats 4000000 in
set_option maxRecDepth 100000 in
theorem cJx4a65c_add_9ea2d_10 (l : Launch) (hst : l.stackTraces = false) (G : pz_G) (X : Nat → Nat) (sz : Nat) (a0 : Nat) (a1 : Nat) (x0 : Int32) (hx0l : (128 : Int) ≤ x0.toInt) (hx0h : x0.toInt ≤ (2147483647 : Int)) : pz_MR (S := Nat) l yJx4a65c_add_9ea2d (pz_cd yJx4a65c_add_9ea2d cJx4a65c_add_9ea2d 2 (some .boolean)) 4 80 1 10 G X sz [(a0, .inr (17, [.int 0, .ref (X 3), .int 0])), (a1, .inr (16, [.int x0]))] [.ref a0, .ref a1] (fun u => some (.int 1)) (fun u => [(a0, .inr (17, [.int 1, .ref u, .int 1])), (a1, .inr (16, [.int x0])), (u, .inl (G.2 5, 10, .inr (.inr (.inr (.inr (va_up (fun _ => none) 0 (some a1)))))))]) := by
  refine pz_onR (by decide +kernel) (Nat.le_of_ble_eq_true rfl) ?_
  intro p e s m below meth c A hx hb hr hml hown hts hlocks hin hx0 hP hK hD hS hA hE ls hl
  have hown : s.vm.findClass "java/util/ArrayList" = some m.cls := hown
  have hl : lv_has ls 2 [(0, .ref a0), (1, .ref a1)] := hl
  refine lv_aload_n hx hb dJx4a65c_add_9ea2d_0 rfl (lv_at hl 0 rfl) ?_
  refine lv_dup hx hb dJx4a65c_add_9ea2d_1 rfl ?_
  refine va_get (D := G.1) (ci := 17) (v := .int 0) (C := "java/util/ArrayList") (T := TJx4a65c) (N := 3) hx hb hts inJx4a65c hown hK hP 0 rfl rfl 0 (by decide) (hts _ wq_1805) (fun x9 h9 => u_same (hts _ wq_1804) x9 h9) rfl dJx4a65c_add_9ea2d_2 ?_
  refine lv_iconst (v := 1) hx hb dJx4a65c_add_9ea2d_5 (by decide) ?_
  refine lv_iadd hx hb dJx4a65c_add_9ea2d_6 (pz_K (y := 1) (by decide) ?_)
  refine va_put (D := G.1) (ci := 17) (v := .int 1) (ty := tyJx4a65c 0) (C := "java/util/ArrayList") (T := TJx4a65c) (N := 3) hx hb hts inJx4a65c tyJx4a65c tyJx4a65c_ok nmJx4a65c hown hK hP hD hS 0 rfl rfl 0 (by decide) (hts _ wq_1805) (fun x9 h9 => u_same (hts _ wq_1804) x9 h9) rfl (by decide +kernel) rfl rfl (Nat.le_of_ble_eq_true rfl) dJx4a65c_add_9ea2d_7 (fun H locs hP hD hS => ?_)
  have hP : va_P G.1 pz_cl [(a0, .inr (17, [.int 1, .ref (X 3), .int 0])), (a1, .inr (16, [.int x0]))] H := hP
  have hD : va_D A [(a0, .inr (17, [.int 1, .ref (X 3), .int 0])), (a1, .inr (16, [.int x0]))] := hD
  refine lv_aload_n hx hb dJx4a65c_add_9ea2d_10 rfl (lv_at hl 0 rfl) ?_
  refine lv_aload_n hx hb dJx4a65c_add_9ea2d_11 rfl (lv_at hl 1 rfl) ?_
  refine lv_aload_n hx hb dJx4a65c_add_9ea2d_12 rfl (lv_at hl 0 rfl) ?_
  refine va_get (D := G.1) (ci := 17) (v := .ref (X 3)) (C := "java/util/ArrayList") (T := TJx4a65c) (N := 3) hx hb hts inJx4a65c hown hK hP 0 rfl rfl 1 (by decide) (hts _ wq_1798) (fun _ h9 => h9) rfl dJx4a65c_add_9ea2d_13 ?_
  refine lv_aload_n hx hb dJx4a65c_add_9ea2d_16 rfl (lv_at hl 0 rfl) ?_
  refine va_get (D := G.1) (ci := 17) (v := .int 0) (C := "java/util/ArrayList") (T := TJx4a65c) (N := 3) hx hb hts inJx4a65c hown hK hP 0 rfl rfl 2 (by decide) (hts _ wq_1801) (fun _ h9 => h9) rfl dJx4a65c_add_9ea2d_17 ?_
  refine pz_go (wr := []) (vx_runV (C := "java/util/ArrayList") (As := [.ref a1, .ref (X 3), .int 0]) (rest := []) ⟨hx, hb, hml, hown, hts⟩ (cJx4a65c_add_72be8_10 l hst G X H.size a0 a1 x0 (by omega) (by omega)) (cwV 3 hts (pz_gV wq_1874 wq_1876 wqs_84 wq_16 wq_1877) rfl rfl rfl (by decide +kernel) ⟨(Nat.le_of_ble_eq_true rfl), (Nat.le_of_ble_eq_true rfl)⟩) (pz_preV (C := ("java/util/ArrayList", TJx4a65c, 3)) hK hP hD hS hA hE 0 (ci := 17) rfl rfl [0, 1] rfl rfl) rfl rfl hl.1 rfl (lv_room (Nat.le_of_ble_eq_true rfl)) dJx4a65c_add_9ea2d_20 ⟨(Nat.le_of_ble_eq_true rfl), (Nat.le_of_ble_eq_true rfl)⟩) hP hD hS hA [0, 1] [] rfl rfl rfl (by decide) (fun q1 H locs hP hD hS => ?_)
  have hP : va_P G.1 pz_cl [(a0, .inr (17, [.int 1, .ref q1, .int 1])), (a1, .inr (16, [.int x0])), (q1, .inl (G.2 5, 10, .inr (.inr (.inr (.inr (va_up (fun _ => none) 0 (some a1)))))))] H := hP
  have hD : va_D A [(a0, .inr (17, [.int 1, .ref q1, .int 1])), (a1, .inr (16, [.int x0])), (q1, .inl (G.2 5, 10, .inr (.inr (.inr (.inr (va_up (fun _ => none) 0 (some a1)))))))] := hD
  refine W.eq (g2 := F0 m 23 ls []) rfl ?_
  refine lv_iconst (v := 1) hx hb dJx4a65c_add_9ea2d_23 (by decide) ?_
  exact pz_rz hx hb hr hlocks (by decide +kernel) hS (Nat.le_of_ble_eq_true rfl) (Nat.le_of_ble_eq_true rfl) dJx4a65c_add_9ea2d_24 q1 rfl (hP.sub [0, 1, 2] rfl) (hD.sub [0, 1, 2] rfl rfl)
set_option maxHeartbeats 4000000 in
set_option maxRecDepth 100000 in
theorem cX16_input_3 (l : Launch) (hst : l.stackTraces = false) (G : pz_G) (X : Nat → Nat) (sz : Nat) (a0 : Nat) (x0 : Int32) (a1 : Nat) (a2 : Nat) (a3 : Nat) (a4 : Nat) (hx0l : (128 : Int) ≤ x0.toInt) (hx0h : x0.toInt ≤ (2147483647 : Int)) : pz_MR (S := Nat × Nat) l yX16_input (pz_cd yX16_input cX16_input 2 (some .int)) 5 101 2 11 G X sz [(a0, .inr (15, [.int 0, .ref a2, .ref a3, .ref a1, .ref a4, .int 0, .null])), (a1, .inr (17, [.int 0, .ref (X 3), .int 0]))] [.ref a0, .int x0] (fun u => some (.int 1)) (fun u => [(a0, .inr (15, [.int 0, .ref a2, .ref a3, .ref a1, .ref a4, .int 0, .null])), (a1, .inr (17, [.int 1, .ref u.2, .int 1])), (u.1, .inr (16, [.int x0])), (u.2, .inl (G.2 5, 10, .inr (.inr (.inr (.inr (va_up (fun _ => none) 0 (some u.1)))))))]) := by
  refine pz_onR (by decide +kernel) (Nat.le_of_ble_eq_true rfl) ?_
  intro p e s m below meth c A hx hb hr hml hown hts hlocks hin hx0 hP hK hD hS hA hE ls hl
  have hown : s.vm.findClass "SourcewrightModel" = some m.cls := hown
  have hl : lv_has ls 2 [(0, .ref a0), (1, .int x0)] := hl
  refine lv_aload_n hx hb dX16_input_0 rfl (lv_at hl 0 rfl) ?_
  refine lv_aload_n hx hb dX16_input_1 rfl (lv_at hl 0 rfl) ?_
  refine va_get (D := G.1) (ci := 15) (v := .ref a1) (C := "SourcewrightModel") (T := TX16) (N := 7) hx hb hts inX16 hown hK hP 0 rfl rfl 3 (by decide) (hts _ wq_1816) (fun _ h9 => h9) rfl dX16_input_2 ?_
  refine pz_go (wr := [(a0, .inr (15, [.int 0, .ref a2, .ref a3, .ref a1, .ref a4, .int 0, .null]))]) (vx_runV (C := "java/util/ArrayList") (As := []) (rest := [.ref a0]) ⟨hx, hb, hml, hown, hts⟩ (cJx4a65c_size_8abf5_1 l hst G X s.heap.size a1) (cwV 0 hts (pz_gV wq_1846 wq_1847 wq_1848 wq_16 wq_1849) rfl rfl rfl (by decide +kernel) ⟨(Nat.le_of_ble_eq_true rfl), (Nat.le_of_ble_eq_true rfl)⟩) (pz_preV (C := ("java/util/ArrayList", TJx4a65c, 3)) hK hP hD hS hA hE 1 (ci := 17) rfl rfl [1] rfl rfl) rfl rfl hl.1 rfl (lv_room (Nat.le_of_ble_eq_true rfl)) dX16_input_5 ⟨(Nat.le_of_ble_eq_true rfl), (Nat.le_of_ble_eq_true rfl)⟩) hP hD hS hA [1] [0] rfl rfl rfl (by decide) (fun u H locs hP hD hS => ?_)
  have hP : va_P G.1 pz_cl [(a0, .inr (15, [.int 0, .ref a2, .ref a3, .ref a1, .ref a4, .int 0, .null])), (a1, .inr (17, [.int 0, .ref (X 3), .int 0]))] H := hP
  have hD : va_D A [(a0, .inr (15, [.int 0, .ref a2, .ref a3, .ref a1, .ref a4, .int 0, .null])), (a1, .inr (17, [.int 0, .ref (X 3), .int 0]))] := hD
  refine W.eq (g2 := F0 m 8 ls [.int 0, .ref a0]) rfl ?_
  refine lv_bipush (v := 12) hx hb dX16_input_8 (by decide) ?_
  refine lv_icmp_ne (tgt := 17) hx hb dX16_input_10 (by decide) (fun _ => ?_) (fun hc => absurd hc (by decide))
  refine lv_iconst (v := 0) hx hb dX16_input_17 (by decide) ?_
  refine va_put (D := G.1) (ci := 15) (v := .int 0) (ty := tyX16 0) (C := "SourcewrightModel") (T := TX16) (N := 7) hx hb hts inX16 tyX16 tyX16_ok nmX16 hown hK hP hD hS 0 rfl rfl 0 (by decide) (hts _ wq_1813) (fun _ h9 => h9) rfl (by decide +kernel) rfl rfl (Nat.le_of_ble_eq_true rfl) dX16_input_18 (fun H locs hP hD hS => ?_)
  have hP : va_P G.1 pz_cl [(a0, .inr (15, [.int 0, .ref a2, .ref a3, .ref a1, .ref a4, .int 0, .null])), (a1, .inr (17, [.int 0, .ref (X 3), .int 0]))] H := hP
  have hD : va_D A [(a0, .inr (15, [.int 0, .ref a2, .ref a3, .ref a1, .ref a4, .int 0, .null])), (a1, .inr (17, [.int 0, .ref (X 3), .int 0]))] := hD
  refine lv_aload_n hx hb dX16_input_21 rfl (lv_at hl 0 rfl) ?_
  refine va_get (D := G.1) (ci := 15) (v := .int 0) (C := "SourcewrightModel") (T := TX16) (N := 7) hx hb hts inX16 hown hK hP 0 rfl rfl 0 (by decide) (hts _ wq_1813) (fun _ h9 => h9) rfl dX16_input_22 ?_
  refine lv_if_le (tgt := 30) hx hb dX16_input_25 (by decide) (fun _ => ?_) (fun hc => absurd hc (by decide))
  refine lv_aload_n hx hb dX16_input_30 rfl (lv_at hl 0 rfl) ?_
  refine va_get (D := G.1) (ci := 15) (v := .ref a1) (C := "SourcewrightModel") (T := TX16) (N := 7) hx hb hts inX16 hown hK hP 0 rfl rfl 3 (by decide) (hts _ wq_1816) (fun _ h9 => h9) rfl dX16_input_31 ?_
  refine lv_iload_n hx hb dX16_input_34 rfl (lv_at hl 1 rfl) ?_
  refine pz_go (wr := [(a0, .inr (15, [.int 0, .ref a2, .ref a3, .ref a1, .ref a4, .int 0, .null])), (a1, .inr (17, [.int 0, .ref (X 3), .int 0]))]) (vx_runS (As := [.int x0]) (rest := [.ref a1]) ⟨hx, hb, hml, hown, hts⟩ (cJ6_valueOf_2dffe_8 l hst G X H.size x0 (by omega) (by omega)) (va_cwS 1 hts (pz_gS wq_1850 wq_1851 wq_24 wq_1852) rfl rfl rfl (by decide +kernel) ⟨(Nat.le_of_ble_eq_true rfl), (Nat.le_of_ble_eq_true rfl)⟩) (pz_preS hK hP hD hS hA hE [] rfl rfl) rfl rfl hl.1 rfl (lv_room (Nat.le_of_ble_eq_true rfl)) dX16_input_35 ⟨(Nat.le_of_ble_eq_true rfl), (Nat.le_of_ble_eq_true rfl)⟩) hP hD hS hA [] [0, 1] rfl rfl rfl (by decide) (fun q1 H locs hP hD hS => ?_)
  have hP : va_P G.1 pz_cl [(a0, .inr (15, [.int 0, .ref a2, .ref a3, .ref a1, .ref a4, .int 0, .null])), (a1, .inr (17, [.int 0, .ref (X 3), .int 0])), (q1, .inr (16, [.int x0]))] H := hP
  have hD : va_D A [(a0, .inr (15, [.int 0, .ref a2, .ref a3, .ref a1, .ref a4, .int 0, .null])), (a1, .inr (17, [.int 0, .ref (X 3), .int 0])), (q1, .inr (16, [.int x0]))] := hD
  refine W.eq (g2 := F0 m 38 ls [.ref q1, .ref a1]) rfl ?_
  refine pz_go (wr := [(a0, .inr (15, [.int 0, .ref a2, .ref a3, .ref a1, .ref a4, .int 0, .null]))]) (vx_runV (C := "java/util/ArrayList") (As := [.ref q1]) (rest := []) ⟨hx, hb, hml, hown, hts⟩ (cJx4a65c_add_9ea2d_10 l hst G X H.size a1 q1 x0 (by omega) (by omega)) (cwV 1 hts (pz_gV wq_1870 wq_1871 wq_1872 wq_16 wq_1873) rfl rfl rfl (by decide +kernel) ⟨(Nat.le_of_ble_eq_true rfl), (Nat.le_of_ble_eq_true rfl)⟩) (pz_preV (C := ("java/util/ArrayList", TJx4a65c, 3)) hK hP hD hS hA hE 1 (ci := 17) rfl rfl [1, 2] rfl rfl) rfl rfl hl.1 rfl (lv_room (Nat.le_of_ble_eq_true rfl)) dX16_input_38 ⟨(Nat.le_of_ble_eq_true rfl), (Nat.le_of_ble_eq_true rfl)⟩) hP hD hS hA [1, 2] [0] rfl rfl rfl (by decide) (fun q2 H locs hP hD hS => ?_)
  have hP : va_P G.1 pz_cl [(a0, .inr (15, [.int 0, .ref a2, .ref a3, .ref a1, .ref a4, .int 0, .null])), (a1, .inr (17, [.int 1, .ref q2, .int 1])), (q1, .inr (16, [.int x0])), (q2, .inl (G.2 5, 10, .inr (.inr (.inr (.inr (va_up (fun _ => none) 0 (some q1)))))))] H := hP
  have hD : va_D A [(a0, .inr (15, [.int 0, .ref a2, .ref a3, .ref a1, .ref a4, .int 0, .null])), (a1, .inr (17, [.int 1, .ref q2, .int 1])), (q1, .inr (16, [.int x0])), (q2, .inl (G.2 5, 10, .inr (.inr (.inr (.inr (va_up (fun _ => none) 0 (some q1)))))))] := hD
  refine W.eq (g2 := F0 m 41 ls [.int 1]) rfl ?_
  refine lv_pop hx hb dX16_input_41 rfl ?_
  refine lv_aload_n hx hb dX16_input_42 rfl (lv_at hl 0 rfl) ?_
  refine va_get (D := G.1) (ci := 15) (v := .ref a1) (C := "SourcewrightModel") (T := TX16) (N := 7) hx hb hts inX16 hown hK hP 0 rfl rfl 3 (by decide) (hts _ wq_1816) (fun _ h9 => h9) rfl dX16_input_43 ?_
  refine pz_go (wr := [(a0, .inr (15, [.int 0, .ref a2, .ref a3, .ref a1, .ref a4, .int 0, .null])), (q1, .inr (16, [.int x0])), (q2, .inl (G.2 5, 10, .inr (.inr (.inr (.inr (va_up (fun _ => none) 0 (some q1)))))))]) (vx_runV (C := "java/util/ArrayList") (As := []) (rest := []) ⟨hx, hb, hml, hown, hts⟩ (cJx4a65c_size_8abf5_2 l hst G X H.size a1 q2) (cwV 0 hts (pz_gV wq_1846 wq_1847 wq_1848 wq_16 wq_1849) rfl rfl rfl (by decide +kernel) ⟨(Nat.le_of_ble_eq_true rfl), (Nat.le_of_ble_eq_true rfl)⟩) (pz_preV (C := ("java/util/ArrayList", TJx4a65c, 3)) hK hP hD hS hA hE 1 (ci := 17) rfl rfl [1] rfl rfl) rfl rfl hl.1 rfl (lv_room (Nat.le_of_ble_eq_true rfl)) dX16_input_46 ⟨(Nat.le_of_ble_eq_true rfl), (Nat.le_of_ble_eq_true rfl)⟩) hP hD hS hA [1] [0, 2, 3] rfl rfl rfl (by decide) (fun u H locs hP hD hS => ?_)
  have hP : va_P G.1 pz_cl [(a0, .inr (15, [.int 0, .ref a2, .ref a3, .ref a1, .ref a4, .int 0, .null])), (q1, .inr (16, [.int x0])), (q2, .inl (G.2 5, 10, .inr (.inr (.inr (.inr (va_up (fun _ => none) 0 (some q1))))))), (a1, .inr (17, [.int 1, .ref q2, .int 1]))] H := hP
  have hD : va_D A [(a0, .inr (15, [.int 0, .ref a2, .ref a3, .ref a1, .ref a4, .int 0, .null])), (q1, .inr (16, [.int x0])), (q2, .inl (G.2 5, 10, .inr (.inr (.inr (.inr (va_up (fun _ => none) 0 (some q1))))))), (a1, .inr (17, [.int 1, .ref q2, .int 1]))] := hD
  refine W.eq (g2 := F0 m 49 ls [.int 1]) rfl ?_
  exact pz_rz hx hb hr hlocks (by decide +kernel) hS (Nat.le_of_ble_eq_true rfl) (Nat.le_of_ble_eq_true rfl) dX16_input_49 (q1, q2) rfl (hP.sub [0, 3, 1, 2] rfl) (hD.sub [0, 3, 1, 2] rfl rfl)
set_option maxHeartbeats 4000000 in
set_option maxRecDepth 100000 in
theorem cX11_dry_1 (l : Launch) (hst : l.stackTraces = false) (G : pz_G) (X : Nat → Nat) (sz : Nat) (a0 : Nat) (a1 : Nat) (a2 : Nat) (a3 : Nat) (a4 : Nat) (a5 : Nat) (a6 : Nat) (a7 : Nat) (a8 : Nat) (a9 : Nat) (a10 : Nat) (a11 : Nat) (a12 : Nat) (a13 : Nat) : pz_MR (S := Unit) l yX11_dry (pz_cd yX11_dry cX11_dry 2 (some .int)) 0 0 0 0 G X sz [(a0, .inr (11, [.ref a1, .ref a2, .int 0, .ref a3, .int 0, .int 0, .ref a4, .ref a5, .ref a6, .ref a7, .ref a8, .ref a9, .ref a10, .ref a11, .ref a12, .ref a13, .int 0, .int (-1), .int (-1), .int 0]))] [.ref a0] (fun u => some (.int 0)) (fun u => [(a0, .inr (11, [.ref a1, .ref a2, .int 0, .ref a3, .int 0, .int 0, .ref a4, .ref a5, .ref a6, .ref a7, .ref a8, .ref a9, .ref a10, .ref a11, .ref a12, .ref a13, .int 0, .int (-1), .int (-1), .int 0]))]) := by
  refine pz_onR (by decide +kernel) (Nat.le_of_ble_eq_true rfl) ?_
  intro p e s m below meth c A hx hb hr hml hown hts hlocks hin hx0 hP hK hD hS hA hE ls hl
  have hown : s.vm.findClass "Sourcewright" = some m.cls := hown
  have hl : lv_has ls 2 [(0, .ref a0)] := hl
  refine lv_aload_n hx hb dX11_dry_0 rfl (lv_at hl 0 rfl) ?_
  refine va_get (D := G.1) (ci := 11) (v := .int 0) (C := "Sourcewright") (T := TX11) (N := 20) hx hb hts inX11 hown hK hP 0 rfl rfl 4 (by decide) (hts _ wq_447) (fun _ h9 => h9) rfl dX11_dry_1 ?_
  refine lv_istore_n (lv' := [(1, .int 0), (0, .ref a0)]) hx hb dX11_dry_4 rfl hl (by decide) rfl (fun ls hl => ?_)
  refine lv_aload_n hx hb dX11_dry_5 rfl (lv_at hl 1 rfl) ?_
  refine lv_iconst (v := 0) hx hb dX11_dry_6 (by decide) ?_
  refine va_put (D := G.1) (ci := 11) (v := .int 0) (ty := tyX11 4) (C := "Sourcewright") (T := TX11) (N := 20) hx hb hts inX11 tyX11 tyX11_ok nmX11 hown hK hP hD hS 0 rfl rfl 4 (by decide) (hts _ wq_447) (fun _ h9 => h9) rfl (by decide +kernel) rfl rfl (Nat.le_of_ble_eq_true rfl) dX11_dry_7 (fun H locs hP hD hS => ?_)
  have hP : va_P G.1 pz_cl [(a0, .inr (11, [.ref a1, .ref a2, .int 0, .ref a3, .int 0, .int 0, .ref a4, .ref a5, .ref a6, .ref a7, .ref a8, .ref a9, .ref a10, .ref a11, .ref a12, .ref a13, .int 0, .int (-1), .int (-1), .int 0]))] H := hP
  have hD : va_D A [(a0, .inr (11, [.ref a1, .ref a2, .int 0, .ref a3, .int 0, .int 0, .ref a4, .ref a5, .ref a6, .ref a7, .ref a8, .ref a9, .ref a10, .ref a11, .ref a12, .ref a13, .int 0, .int (-1), .int (-1), .int 0]))] := hD
  refine lv_iload_n hx hb dX11_dry_10 rfl (lv_at hl 0 rfl) ?_
  exact pz_rz hx hb hr hlocks (by decide +kernel) hS (Nat.le_of_ble_eq_true rfl) (Nat.le_of_ble_eq_true rfl) dX11_dry_11 () rfl (hP.sub [0] rfl) (hD.sub [0] rfl rfl)
set_option maxHeartbeats 4000000 in
set_option maxRecDepth 100000 in
theorem cX16_dry_1 (l : Launch) (hst : l.stackTraces = false) (G : pz_G) (X : Nat → Nat) (sz : Nat) (a0 : Nat) (a1 : Nat) (a2 : Nat) (a3 : Nat) (a4 : Nat) : pz_MR (S := Unit) l yX16_dry (pz_cd yX16_dry cX16_dry 2 (some .int)) 1 23 0 0 G X sz [(a0, .inr (15, [.int 0, .ref a2, .ref a3, .ref a1, .ref a4, .int 0, .null])), (a1, .inr (17, [.int 0, .ref (X 3), .int 0]))] [.ref a0] (fun u => some (.int 0)) (fun u => [(a0, .inr (15, [.int 0, .ref a2, .ref a3, .ref a1, .ref a4, .int 0, .null])), (a1, .inr (17, [.int 1, .ref (X 3), .int 0]))]) := by
  refine pz_onR (by decide +kernel) (Nat.le_of_ble_eq_true rfl) ?_
  intro p e s m below meth c A hx hb hr hml hown hts hlocks hin hx0 hP hK hD hS hA hE ls hl
  have hown : s.vm.findClass "SourcewrightModel" = some m.cls := hown
  have hl : lv_has ls 2 [(0, .ref a0)] := hl
  refine lv_aload_n hx hb dX16_dry_0 rfl (lv_at hl 0 rfl) ?_
  refine lv_iconst (v := 0) hx hb dX16_dry_1 (by decide) ?_
  refine va_put (D := G.1) (ci := 15) (v := .int 0) (ty := tyX16 0) (C := "SourcewrightModel") (T := TX16) (N := 7) hx hb hts inX16 tyX16 tyX16_ok nmX16 hown hK hP hD hS 0 rfl rfl 0 (by decide) (hts _ wq_1813) (fun _ h9 => h9) rfl (by decide +kernel) rfl rfl (Nat.le_of_ble_eq_true rfl) dX16_dry_2 (fun H locs hP hD hS => ?_)
  have hP : va_P G.1 pz_cl [(a0, .inr (15, [.int 0, .ref a2, .ref a3, .ref a1, .ref a4, .int 0, .null])), (a1, .inr (17, [.int 0, .ref (X 3), .int 0]))] H := hP
  have hD : va_D A [(a0, .inr (15, [.int 0, .ref a2, .ref a3, .ref a1, .ref a4, .int 0, .null])), (a1, .inr (17, [.int 0, .ref (X 3), .int 0]))] := hD
  refine lv_aload_n hx hb dX16_dry_5 rfl (lv_at hl 0 rfl) ?_
  refine va_get (D := G.1) (ci := 15) (v := .ref a1) (C := "SourcewrightModel") (T := TX16) (N := 7) hx hb hts inX16 hown hK hP 0 rfl rfl 3 (by decide) (hts _ wq_1816) (fun _ h9 => h9) rfl dX16_dry_6 ?_
  refine pz_go (wr := [(a0, .inr (15, [.int 0, .ref a2, .ref a3, .ref a1, .ref a4, .int 0, .null]))]) (vx_runV (C := "java/util/ArrayList") (As := []) (rest := []) ⟨hx, hb, hml, hown, hts⟩ (cJx4a65c_size_8abf5_1 l hst G X H.size a1) (cwV 0 hts (pz_gV wq_1846 wq_1847 wq_1848 wq_16 wq_1849) rfl rfl rfl (by decide +kernel) ⟨(Nat.le_of_ble_eq_true rfl), (Nat.le_of_ble_eq_true rfl)⟩) (pz_preV (C := ("java/util/ArrayList", TJx4a65c, 3)) hK hP hD hS hA hE 1 (ci := 17) rfl rfl [1] rfl rfl) rfl rfl hl.1 rfl (lv_room (Nat.le_of_ble_eq_true rfl)) dX16_dry_9 ⟨(Nat.le_of_ble_eq_true rfl), (Nat.le_of_ble_eq_true rfl)⟩) hP hD hS hA [1] [0] rfl rfl rfl (by decide) (fun u H locs hP hD hS => ?_)
  have hP : va_P G.1 pz_cl [(a0, .inr (15, [.int 0, .ref a2, .ref a3, .ref a1, .ref a4, .int 0, .null])), (a1, .inr (17, [.int 0, .ref (X 3), .int 0]))] H := hP
  have hD : va_D A [(a0, .inr (15, [.int 0, .ref a2, .ref a3, .ref a1, .ref a4, .int 0, .null])), (a1, .inr (17, [.int 0, .ref (X 3), .int 0]))] := hD
  refine W.eq (g2 := F0 m 12 ls [.int 0]) rfl ?_
  refine lv_istore_n (lv' := [(1, .int 0), (0, .ref a0)]) hx hb dX16_dry_12 rfl hl (by decide) rfl (fun ls hl => ?_)
  refine lv_aload_n hx hb dX16_dry_13 rfl (lv_at hl 1 rfl) ?_
  refine va_get (D := G.1) (ci := 15) (v := .ref a1) (C := "SourcewrightModel") (T := TX16) (N := 7) hx hb hts inX16 hown hK hP 0 rfl rfl 3 (by decide) (hts _ wq_1816) (fun _ h9 => h9) rfl dX16_dry_14 ?_
  refine pz_go (wr := [(a0, .inr (15, [.int 0, .ref a2, .ref a3, .ref a1, .ref a4, .int 0, .null]))]) (vx_runV (C := "java/util/ArrayList") (As := []) (rest := []) ⟨hx, hb, hml, hown, hts⟩ (cJx4a65c_clear_da8c8_1 l hst G X H.size a1) (cwV 0 hts (pz_gV wq_1970 wq_1971 wq_1972 wq_16 wq_1973) rfl rfl rfl (by decide +kernel) ⟨(Nat.le_of_ble_eq_true rfl), (Nat.le_of_ble_eq_true rfl)⟩) (pz_preV (C := ("java/util/ArrayList", TJx4a65c, 3)) hK hP hD hS hA hE 1 (ci := 17) rfl rfl [1] rfl rfl) rfl rfl hl.1 rfl (lv_room (Nat.le_of_ble_eq_true rfl)) dX16_dry_17 ⟨(Nat.le_of_ble_eq_true rfl), (Nat.le_of_ble_eq_true rfl)⟩) hP hD hS hA [1] [0] rfl rfl rfl (by decide) (fun u H locs hP hD hS => ?_)
  have hP : va_P G.1 pz_cl [(a0, .inr (15, [.int 0, .ref a2, .ref a3, .ref a1, .ref a4, .int 0, .null])), (a1, .inr (17, [.int 1, .ref (X 3), .int 0]))] H := hP
  have hD : va_D A [(a0, .inr (15, [.int 0, .ref a2, .ref a3, .ref a1, .ref a4, .int 0, .null])), (a1, .inr (17, [.int 1, .ref (X 3), .int 0]))] := hD
  refine W.eq (g2 := F0 m 20 ls []) rfl ?_
  refine lv_iload_n hx hb dX16_dry_20 rfl (lv_at hl 0 rfl) ?_
  exact pz_rz hx hb hr hlocks (by decide +kernel) hS (Nat.le_of_ble_eq_true rfl) (Nat.le_of_ble_eq_true rfl) dX16_dry_21 () rfl (hP.sub [0, 1] rfl) (hD.sub [0, 1] rfl rfl)
set_option maxHeartbeats 4000000 in
set_option maxRecDepth 100000 in
theorem cX11_checkSteps_1 (l : Launch) (hst : l.stackTraces = false) (G : pz_G) (X : Nat → Nat) (sz : Nat) (a0 : Nat) (x0 : Int32) (hx0l : (-2147483648 : Int) ≤ x0.toInt) (hx0h : x0.toInt ≤ (-1 : Int)) : pz_MT l yX11_checkSteps (pz_cd yX11_checkSteps cX11_checkSteps 2 none) 6 84 1 6 G X sz [] [.ref a0, .int x0] "java/lang/IllegalArgumentException" := by
  refine pz_onT (by decide +kernel) (Nat.le_of_ble_eq_true rfl) ?_
  intro p e s m below meth c A hx hb hr hml hown hts hlocks hin hx0 hP hK hD hS hA hE ls hl
  have hown : s.vm.findClass "Sourcewright" = some m.cls := hown
  have hl : lv_has ls 2 [(0, .ref a0), (1, .int x0)] := hl
  refine lv_iload_n hx hb dX11_checkSteps_0 rfl (lv_at hl 1 rfl) ?_
  refine lv_if_lt (tgt := 11) hx hb dX11_checkSteps_1 (by decide) (fun _ => ?_) (fun hc => by have h9 : 0 ≤ (x0).toInt := pz_nlt hc; omega)
  obtain ⟨sa, hsa⟩ := hE.2.2.2.2.2.2.2.1 _ (str_Sourcewright_345)
  exact vx_throwSW (names := ["java/lang/RuntimeException", "java/lang/Exception"]) hx hb hst hown (by decide +kernel) (by decide +kernel) (hts _ wq_1264) (hts _ wq_20) hsa (pz_hat hts hE.2.2.2.2.2.2.2.2.1 pz_at_Sourcewright_124) pz_hg_Sourcewright_124 hE.2.2.2.2.2.1.1 hE.2.2.2.2.2.1.2 hS (hl.1.trans hml.symm) dX11_checkSteps_11 dX11_checkSteps_14 dX11_checkSteps_15 dX11_checkSteps_18 dX11_checkSteps_21 (fun x h => (hx0 x h).elim) (Nat.le_of_ble_eq_true rfl) (Nat.le_of_ble_eq_true rfl) (Nat.le_of_ble_eq_true rfl) (Nat.le_of_ble_eq_true rfl) hlocks (fun t hvm hsz hkp => ⟨rfl, pz_thrF hS hsz hkp⟩) hS.2.2 (Nat.le_of_ble_eq_true rfl) (Nat.le_of_ble_eq_true rfl)
set_option maxHeartbeats 4000000 in
set_option maxRecDepth 100000 in
theorem cX11_run_1 (l : Launch) (hst : l.stackTraces = false) (G : pz_G) (X : Nat → Nat) (sz : Nat) (a0 : Nat) (x0 : Int32) (a1 : Nat) (a2 : Nat) (a3 : Nat) (a4 : Nat) (a5 : Nat) (a6 : Nat) (a7 : Nat) (a8 : Nat) (a9 : Nat) (a10 : Nat) (a11 : Nat) (a12 : Nat) (a13 : Nat) (hx0l : (-2147483648 : Int) ≤ x0.toInt) (hx0h : x0.toInt ≤ (-1 : Int)) : pz_MT l yX11_run (pz_cd yX11_run cX11_run 3 (some .char)) 7 105 1 6 G X sz [(a0, .inr (11, [.ref a1, .ref a2, .int 0, .ref a3, .int 0, .int 0, .ref a4, .ref a5, .ref a6, .ref a7, .ref a8, .ref a9, .ref a10, .ref a11, .ref a12, .ref a13, .int 0, .int (-1), .int (-1), .int 0]))] [.ref a0, .int 1, .int x0] "java/lang/IllegalArgumentException" := by
  refine pz_onT (by decide +kernel) (Nat.le_of_ble_eq_true rfl) ?_
  intro p e s m below meth c A hx hb hr hml hown hts hlocks hin hx0 hP hK hD hS hA hE ls hl
  have hown : s.vm.findClass "Sourcewright" = some m.cls := hown
  have hl : lv_has ls 3 [(0, .ref a0), (1, .int 1), (2, .int x0)] := hl
  refine lv_aload_n hx hb dX11_run_0 rfl (lv_at hl 0 rfl) ?_
  refine lv_iload_n hx hb dX11_run_1 rfl (lv_at hl 2 rfl) ?_
  refine pz_goT (wr := [(a0, .inr (11, [.ref a1, .ref a2, .int 0, .ref a3, .int 0, .int 0, .ref a4, .ref a5, .ref a6, .ref a7, .ref a8, .ref a9, .ref a10, .ref a11, .ref a12, .ref a13, .int 0, .int (-1), .int (-1), .int 0]))]) (vx_runV (C := "Sourcewright") (As := [.int x0]) (rest := []) ⟨hx, hb, hml, hown, hts⟩ (cX11_checkSteps_1 l hst G X s.heap.size a0 x0 (by omega) (by omega)) (cwV 1 hts (pz_gV wq_1707 wq_1709 wqs_81 wq_1 wq_1710) rfl rfl rfl (by decide +kernel) ⟨(Nat.le_of_ble_eq_true rfl), (Nat.le_of_ble_eq_true rfl)⟩) (pz_preV (C := ("Sourcewright", TX11, 20)) hK hP hD hS hA hE 0 (ci := 11) rfl rfl [] rfl rfl) rfl rfl hl.1 rfl (lv_room (Nat.le_of_ble_eq_true rfl)) dX11_run_2 ⟨(Nat.le_of_ble_eq_true rfl), (Nat.le_of_ble_eq_true rfl)⟩) hP hD hS hA [] [0] rfl rfl rfl (by decide) (fun ce q9 H locs hP hD hS hce hcv hcl => ?_)
  exact pz_out hx0 hlocks hce hcv hcl hS (Nat.le_of_ble_eq_true rfl) (Nat.le_of_ble_eq_true rfl)
set_option maxHeartbeats 4000000 in
set_option maxRecDepth 100000 in
theorem cL_run_1 (l : Launch) (hst : l.stackTraces = false) (G : pz_G) (X : Nat → Nat) (sz : Nat) (a0 : Nat) (x0 : Int32) (a1 : Nat) (a2 : Nat) (a3 : Nat) (a4 : Nat) (a5 : Nat) (a6 : Nat) (a7 : Nat) (a8 : Nat) (a9 : Nat) (a10 : Nat) (a11 : Nat) (a12 : Nat) (a13 : Nat) (a14 : Nat) (hx0l : (-2147483648 : Int) ≤ x0.toInt) (hx0h : x0.toInt ≤ (-1 : Int)) : pz_MR (S := Unit) l yL_run (pz_cw yL_run cL_run 5 (some .int) [(0, 10, 13, 13), (0, 10, 17, 29)]) 8 127 1 6 G X sz [(a0, .inr (11, [.ref a2, .ref a3, .int 0, .ref a4, .int 0, .int 0, .ref a5, .ref a6, .ref a7, .ref a8, .ref a9, .ref a10, .ref a11, .ref a12, .ref a13, .ref a14, .int 0, .int (-1), .int (-1), .int 0]))] [.ref a0, .int 1, .int x0, .ref a1] (fun u => some (.int 1)) (fun u => []) := by
  refine pz_onHR (by decide +kernel) (Nat.le_of_ble_eq_true rfl) ?_
  intro p e s m below meth c A hx hb hr hml hown hts hlocks hin hx0 hP hK hD hS hA hE ls hl
  have hown : s.vm.findClass "SourcewrightLaw" = some m.cls := hown
  have hl : lv_has ls 5 [(0, .ref a0), (1, .int 1), (2, .int x0), (3, .ref a1)] := hl
  refine lv_aload_n hx hb dL_run_0 rfl (lv_at hl 3 rfl) ?_
  refine lv_iconst (v := 0) hx hb dL_run_1 (by decide) ?_
  refine lv_aload_n hx hb dL_run_2 rfl (lv_at hl 0 rfl) ?_
  refine lv_iload_n hx hb dL_run_3 rfl (lv_at hl 1 rfl) ?_
  refine lv_iload_n hx hb dL_run_4 rfl (lv_at hl 2 rfl) ?_
  refine pz_goT (wr := []) (vx_runV (C := "Sourcewright") (As := [.int 1, .int x0]) (rest := [.int 0, .ref a1]) ⟨hx, hb, hml, hown, hts⟩ (cX11_run_1 l hst G X s.heap.size a0 x0 a2 a3 a4 a5 a6 a7 a8 a9 a10 a11 a12 a13 a14 (by omega) (by omega)) (cwV 2 hts (pz_gV wq_1703 wq_1704 wq_1705 wq_1 wq_1706) rfl rfl rfl (by decide +kernel) ⟨(Nat.le_of_ble_eq_true rfl), (Nat.le_of_ble_eq_true rfl)⟩) (pz_preV (C := ("Sourcewright", TX11, 20)) hK hP hD hS hA hE 0 (ci := 11) rfl rfl [0] rfl rfl) rfl rfl hl.1 rfl (lv_room (Nat.le_of_ble_eq_true rfl)) dL_run_5 ⟨(Nat.le_of_ble_eq_true rfl), (Nat.le_of_ble_eq_true rfl)⟩) hP hD hS hA [0] [] rfl rfl rfl (by decide) (fun ce q9 H locs hP hD hS hce hcv hcl => ?_)
  refine vx_catch hown [] ⟨0, 10, 13, 13⟩ [⟨0, 10, 17, 29⟩] hx0 (fun z hz => by cases hz) rfl (by decide) (hts _ wq_1255) (va_Nw.use rfl (hE.2.2.2.2.2.2.2.2.1 _ nx_1266)) hce hcv hcl ?_
  have hP : va_P G.1 pz_cl [] H := hP
  have hD : va_D A [] := hD
  refine W.eq (g2 := F0 m 13 ls [.ref q9]) rfl ?_
  refine lv_astore (lv' := [(4, .ref q9), (0, .ref a0), (1, .int 1), (2, .int x0), (3, .ref a1)]) hx hb dL_run_13 hl (by decide) rfl (fun ls hl => ?_)
  refine lv_iconst (v := 1) hx hb dL_run_15 (by decide) ?_
  exact pz_rz hx hb hr hlocks (by decide +kernel) hS (Nat.le_of_ble_eq_true rfl) (Nat.le_of_ble_eq_true rfl) dL_run_16 () rfl (hP.sub [] rfl) (hD.sub [] rfl rfl)
set_option maxHeartbeats 4000000 in
set_option maxRecDepth 100000 in
theorem cX16_in_11 (l : Launch) (hst : l.stackTraces = false) (G : pz_G) (X : Nat → Nat) (sz : Nat) (x0 : Int32) (hx0l : (-2147483648 : Int) ≤ x0.toInt) (hx0h : x0.toInt ≤ (-1 : Int)) : pz_MR (S := Unit) l yX16_in (pz_cd yX16_in cX16_in 3 (some .boolean)) 0 0 0 0 G X sz [] [.int x0, .int 0, .int 2000] (fun u => some (.int 0)) (fun u => []) := by
  refine pz_onR (by decide +kernel) (Nat.le_of_ble_eq_true rfl) ?_
  intro p e s m below meth c A hx hb hr hml hown hts hlocks hin hx0 hP hK hD hS hA hE ls hl
  have hown : s.vm.findClass "SourcewrightModel" = some m.cls := hown
  have hl : lv_has ls 3 [(0, .int x0), (1, .int 0), (2, .int 2000)] := hl
  refine lv_iload_n hx hb dX16_in_0 rfl (lv_at hl 0 rfl) ?_
  refine lv_iload_n hx hb dX16_in_1 rfl (lv_at hl 1 rfl) ?_
  refine lv_icmp_lt (tgt := 14) hx hb dX16_in_2 (by decide) (fun _ => ?_) (fun hc => by have h9 : 0 ≤ (x0).toInt := pz_nlt hc; omega)
  refine lv_iconst (v := 0) hx hb dX16_in_14 (by decide) ?_
  exact pz_rz hx hb hr hlocks (by decide +kernel) hS (Nat.le_of_ble_eq_true rfl) (Nat.le_of_ble_eq_true rfl) dX16_in_15 () rfl (hP.sub [] rfl) (hD.sub [] rfl rfl)
set_option maxHeartbeats 4000000 in
set_option maxRecDepth 100000 in
theorem cX16_run_1 (l : Launch) (hst : l.stackTraces = false) (G : pz_G) (X : Nat → Nat) (sz : Nat) (a0 : Nat) (x0 : Int32) (a1 : Nat) (a2 : Nat) (a3 : Nat) (a4 : Nat) (hx0l : (-2147483648 : Int) ≤ x0.toInt) (hx0h : x0.toInt ≤ (-1 : Int)) : pz_MR (S := Unit) l yX16_run (pz_cd yX16_run cX16_run 4 (some .char)) 1 22 0 0 G X sz [(a0, .inr (15, [.int 0, .ref a1, .ref a2, .ref a3, .ref a4, .int 0, .null]))] [.ref a0, .int 1, .int x0] (fun u => some (.int 32)) (fun u => [(a0, .inr (15, [.int 1, .ref a1, .ref a2, .ref a3, .ref a4, .int 0, .null]))]) := by
  refine pz_onR (by decide +kernel) (Nat.le_of_ble_eq_true rfl) ?_
  intro p e s m below meth c A hx hb hr hml hown hts hlocks hin hx0 hP hK hD hS hA hE ls hl
  have hown : s.vm.findClass "SourcewrightModel" = some m.cls := hown
  have hl : lv_has ls 4 [(0, .ref a0), (1, .int 1), (2, .int x0)] := hl
  refine lv_aload_n hx hb dX16_run_0 rfl (lv_at hl 0 rfl) ?_
  refine lv_iload_n hx hb dX16_run_1 rfl (lv_at hl 2 rfl) ?_
  refine lv_iconst (v := 0) hx hb dX16_run_2 (by decide) ?_
  refine lv_sipush (v := 2000) hx hb dX16_run_3 (by decide) ?_
  refine pz_go (wr := [(a0, .inr (15, [.int 0, .ref a1, .ref a2, .ref a3, .ref a4, .int 0, .null]))]) (vx_runS (As := [.int x0, .int 0, .int 2000]) (rest := [.ref a0]) ⟨hx, hb, hml, hown, hts⟩ (cX16_in_11 l hst G X s.heap.size x0 (by omega) (by omega)) (va_cwS 3 hts (pz_gS wq_1843 wq_1844 wq_13 wq_1845) rfl rfl rfl (by decide +kernel) ⟨(Nat.le_of_ble_eq_true rfl), (Nat.le_of_ble_eq_true rfl)⟩) (pz_preS hK hP hD hS hA hE [] rfl rfl) rfl rfl hl.1 rfl (lv_room (Nat.le_of_ble_eq_true rfl)) dX16_run_6 ⟨(Nat.le_of_ble_eq_true rfl), (Nat.le_of_ble_eq_true rfl)⟩) hP hD hS hA [] [0] rfl rfl rfl (by decide) (fun u H locs hP hD hS => ?_)
  have hP : va_P G.1 pz_cl [(a0, .inr (15, [.int 0, .ref a1, .ref a2, .ref a3, .ref a4, .int 0, .null]))] H := hP
  have hD : va_D A [(a0, .inr (15, [.int 0, .ref a1, .ref a2, .ref a3, .ref a4, .int 0, .null]))] := hD
  refine W.eq (g2 := F0 m 9 ls [.int 0, .ref a0]) rfl ?_
  refine lv_if_eq (tgt := 16) hx hb dX16_run_9 (by decide) (fun _ => ?_) (fun hc => absurd hc (by decide))
  refine lv_iconst (v := 1) hx hb dX16_run_16 (by decide) ?_
  refine va_put (D := G.1) (ci := 15) (v := .int 1) (ty := tyX16 0) (C := "SourcewrightModel") (T := TX16) (N := 7) hx hb hts inX16 tyX16 tyX16_ok nmX16 hown hK hP hD hS 0 rfl rfl 0 (by decide) (hts _ wq_1813) (fun _ h9 => h9) rfl (by decide +kernel) rfl rfl (Nat.le_of_ble_eq_true rfl) dX16_run_17 (fun H locs hP hD hS => ?_)
  have hP : va_P G.1 pz_cl [(a0, .inr (15, [.int 1, .ref a1, .ref a2, .ref a3, .ref a4, .int 0, .null]))] H := hP
  have hD : va_D A [(a0, .inr (15, [.int 1, .ref a1, .ref a2, .ref a3, .ref a4, .int 0, .null]))] := hD
  refine lv_aload_n hx hb dX16_run_20 rfl (lv_at hl 0 rfl) ?_
  refine va_get (D := G.1) (ci := 15) (v := .int 1) (C := "SourcewrightModel") (T := TX16) (N := 7) hx hb hts inX16 hown hK hP 0 rfl rfl 0 (by decide) (hts _ wq_1813) (fun _ h9 => h9) rfl dX16_run_21 ?_
  refine lv_if_le (tgt := 30) hx hb dX16_run_24 (by decide) (fun hc => absurd hc (by decide)) (fun _ => ?_)
  refine lv_bipush (v := 32) hx hb dX16_run_27 (by decide) ?_
  exact pz_rz hx hb hr hlocks (by decide +kernel) hS (Nat.le_of_ble_eq_true rfl) (Nat.le_of_ble_eq_true rfl) dX16_run_29 () rfl (hP.sub [0] rfl) (hD.sub [0] rfl rfl)
set_option maxHeartbeats 4000000 in
set_option maxRecDepth 100000 in
theorem cX11_checkSteps_2 (l : Launch) (hst : l.stackTraces = false) (G : pz_G) (X : Nat → Nat) (sz : Nat) (a0 : Nat) : pz_MR (S := Unit) l yX11_checkSteps (pz_cd yX11_checkSteps cX11_checkSteps 2 none) 0 0 0 0 G X sz [] [.ref a0, .int 0] (fun u => none) (fun u => []) := by
  refine pz_onR (by decide +kernel) (Nat.le_of_ble_eq_true rfl) ?_
  intro p e s m below meth c A hx hb hr hml hown hts hlocks hin hx0 hP hK hD hS hA hE ls hl
  have hown : s.vm.findClass "Sourcewright" = some m.cls := hown
  have hl : lv_has ls 2 [(0, .ref a0), (1, .int 0)] := hl
  refine lv_iload_n hx hb dX11_checkSteps_0 rfl (lv_at hl 1 rfl) ?_
  refine lv_if_lt (tgt := 11) hx hb dX11_checkSteps_1 (by decide) (fun hc => absurd hc (by decide)) (fun _ => ?_)
  refine lv_iload_n hx hb dX11_checkSteps_4 rfl (lv_at hl 1 rfl) ?_
  refine lv_sipush (v := 2000) hx hb dX11_checkSteps_5 (by decide) ?_
  refine lv_icmp_le (tgt := 22) hx hb dX11_checkSteps_8 (by decide) (fun _ => ?_) (fun hc => absurd hc (by decide))
  exact pz_rv hx hb hr hlocks hS (Nat.le_of_ble_eq_true rfl) (Nat.le_of_ble_eq_true rfl) dX11_checkSteps_22 () rfl (hP.sub [] rfl) (hD.sub [] rfl rfl)
set_option maxHeartbeats 4000000 in
set_option maxRecDepth 100000 in
theorem cX4_reset_1 (l : Launch) (hst : l.stackTraces = false) (G : pz_G) (X : Nat → Nat) (sz : Nat) (a0 : Nat) (a1 : Nat) (a2 : Nat) (a3 : Nat) (a4 : Nat) (f0 : Nat → Int32) (f1 : Nat → Int32) : pz_MR (S := Unit) l yX4_reset (pz_cd yX4_reset cX4_reset 2 none) 0 0 0 0 G X sz [(a0, .inr (4, [.ref a1, .ref a2, .ref a3, .ref a4, .int 0, .int 0, .int 0, .int 0, .int 0, .int 0])), (a1, .inl (G.2 0, 4, .inl (f0))), (a2, .inl (G.2 0, 8, .inl (f1)))] [.ref a0] (fun u => none) (fun u => [(a0, .inr (4, [.ref a1, .ref a2, .ref a3, .ref a4, .int 0, .int 0, .int 0, .int 0, .int 0, .int 0])), (a1, .inl (G.2 0, 4, .inl (upd (upd (upd (upd (f0) 0 0) 1 0) 2 0) 3 0))), (a2, .inl (G.2 0, 8, .inl (upd (upd (upd (upd (upd (upd (upd (upd (f1) 0 0) 1 0) 2 0) 3 0) 4 0) 5 0) 6 0) 7 0)))]) := by
  refine pz_onR (by decide +kernel) (Nat.le_of_ble_eq_true rfl) ?_
  intro p e s m below meth c A hx hb hr hml hown hts hlocks hin hx0 hP hK hD hS hA hE ls hl
  have hown : s.vm.findClass "Sourcewright$Machine" = some m.cls := hown
  have hl : lv_has ls 2 [(0, .ref a0)] := hl
  refine lv_iconst (v := 0) hx hb dX4_reset_0 (by decide) ?_
  refine lv_istore_n (lv' := [(1, .int 0), (0, .ref a0)]) hx hb dX4_reset_1 rfl hl (by decide) rfl (fun ls hl => ?_)
  refine lv_iload_n hx hb dX4_reset_2 rfl (lv_at hl 0 rfl) ?_
  refine lv_aload_n hx hb dX4_reset_3 rfl (lv_at hl 1 rfl) ?_
  refine va_get (D := G.1) (ci := 4) (v := .ref a1) (C := "Sourcewright$Machine") (T := TX4) (N := 10) hx hb hts inX4 hown hK hP 0 rfl rfl 0 (by decide) (hts _ wq_412) (fun _ h9 => h9) rfl dX4_reset_4 ?_
  refine va_alen (v := 4) hx hb hK hP 1 0 rfl rfl (by show Int32.ofNat 4 = 4; decide) dX4_reset_7 ?_
  refine lv_icmp_ge (tgt := 24) hx hb dX4_reset_8 (by decide) (fun hc => absurd hc (by decide)) (fun _ => ?_)
  refine lv_aload_n hx hb dX4_reset_11 rfl (lv_at hl 1 rfl) ?_
  refine va_get (D := G.1) (ci := 4) (v := .ref a1) (C := "Sourcewright$Machine") (T := TX4) (N := 10) hx hb hts inX4 hown hK hP 0 rfl rfl 0 (by decide) (hts _ wq_412) (fun _ h9 => h9) rfl dX4_reset_12 ?_
  refine lv_iload_n hx hb dX4_reset_15 rfl (lv_at hl 0 rfl) ?_
  refine lv_iconst (v := 0) hx hb dX4_reset_16 (by decide) ?_
  refine va_iast hx hb hK hP hD hS 1 0 rfl rfl (pz_vi rfl) dX4_reset_17 (fun H locs hP hD hS => ?_)
  have hP : va_P G.1 pz_cl [(a0, .inr (4, [.ref a1, .ref a2, .ref a3, .ref a4, .int 0, .int 0, .int 0, .int 0, .int 0, .int 0])), (a1, .inl (G.2 0, 4, .inl (upd (f0) 0 0))), (a2, .inl (G.2 0, 8, .inl (f1)))] H := hP
  have hD : va_D A [(a0, .inr (4, [.ref a1, .ref a2, .ref a3, .ref a4, .int 0, .int 0, .int 0, .int 0, .int 0, .int 0])), (a1, .inl (G.2 0, 4, .inl (upd (f0) 0 0))), (a2, .inl (G.2 0, 8, .inl (f1)))] := hD
  refine lv_iinc (v := 1) (lv' := [(1, .int 1), (0, .ref a0)]) hx hb dX4_reset_18 hl (k := 0) rfl (by decide) (by decide) rfl (fun ls hl => ?_)
  refine lv_goto (tgt := 2) hx hb dX4_reset_21 (by decide) ?_
  refine lv_iload_n hx hb dX4_reset_2 rfl (lv_at hl 0 rfl) ?_
  refine lv_aload_n hx hb dX4_reset_3 rfl (lv_at hl 1 rfl) ?_
  refine va_get (D := G.1) (ci := 4) (v := .ref a1) (C := "Sourcewright$Machine") (T := TX4) (N := 10) hx hb hts inX4 hown hK hP 0 rfl rfl 0 (by decide) (hts _ wq_412) (fun _ h9 => h9) rfl dX4_reset_4 ?_
  refine va_alen (v := 4) hx hb hK hP 1 0 rfl rfl (by show Int32.ofNat 4 = 4; decide) dX4_reset_7 ?_
  refine lv_icmp_ge (tgt := 24) hx hb dX4_reset_8 (by decide) (fun hc => absurd hc (by decide)) (fun _ => ?_)
  refine lv_aload_n hx hb dX4_reset_11 rfl (lv_at hl 1 rfl) ?_
  refine va_get (D := G.1) (ci := 4) (v := .ref a1) (C := "Sourcewright$Machine") (T := TX4) (N := 10) hx hb hts inX4 hown hK hP 0 rfl rfl 0 (by decide) (hts _ wq_412) (fun _ h9 => h9) rfl dX4_reset_12 ?_
  refine lv_iload_n hx hb dX4_reset_15 rfl (lv_at hl 0 rfl) ?_
  refine lv_iconst (v := 0) hx hb dX4_reset_16 (by decide) ?_
  refine va_iast hx hb hK hP hD hS 1 0 rfl rfl (pz_vi rfl) dX4_reset_17 (fun H locs hP hD hS => ?_)
  have hP : va_P G.1 pz_cl [(a0, .inr (4, [.ref a1, .ref a2, .ref a3, .ref a4, .int 0, .int 0, .int 0, .int 0, .int 0, .int 0])), (a1, .inl (G.2 0, 4, .inl (upd (upd (f0) 0 0) 1 0))), (a2, .inl (G.2 0, 8, .inl (f1)))] H := hP
  have hD : va_D A [(a0, .inr (4, [.ref a1, .ref a2, .ref a3, .ref a4, .int 0, .int 0, .int 0, .int 0, .int 0, .int 0])), (a1, .inl (G.2 0, 4, .inl (upd (upd (f0) 0 0) 1 0))), (a2, .inl (G.2 0, 8, .inl (f1)))] := hD
  refine lv_iinc (v := 2) (lv' := [(1, .int 2), (0, .ref a0)]) hx hb dX4_reset_18 hl (k := 0) rfl (by decide) (by decide) rfl (fun ls hl => ?_)
  refine lv_goto (tgt := 2) hx hb dX4_reset_21 (by decide) ?_
  refine lv_iload_n hx hb dX4_reset_2 rfl (lv_at hl 0 rfl) ?_
  refine lv_aload_n hx hb dX4_reset_3 rfl (lv_at hl 1 rfl) ?_
  refine va_get (D := G.1) (ci := 4) (v := .ref a1) (C := "Sourcewright$Machine") (T := TX4) (N := 10) hx hb hts inX4 hown hK hP 0 rfl rfl 0 (by decide) (hts _ wq_412) (fun _ h9 => h9) rfl dX4_reset_4 ?_
  refine va_alen (v := 4) hx hb hK hP 1 0 rfl rfl (by show Int32.ofNat 4 = 4; decide) dX4_reset_7 ?_
  refine lv_icmp_ge (tgt := 24) hx hb dX4_reset_8 (by decide) (fun hc => absurd hc (by decide)) (fun _ => ?_)
  refine lv_aload_n hx hb dX4_reset_11 rfl (lv_at hl 1 rfl) ?_
  refine va_get (D := G.1) (ci := 4) (v := .ref a1) (C := "Sourcewright$Machine") (T := TX4) (N := 10) hx hb hts inX4 hown hK hP 0 rfl rfl 0 (by decide) (hts _ wq_412) (fun _ h9 => h9) rfl dX4_reset_12 ?_
  refine lv_iload_n hx hb dX4_reset_15 rfl (lv_at hl 0 rfl) ?_
  refine lv_iconst (v := 0) hx hb dX4_reset_16 (by decide) ?_
  refine va_iast hx hb hK hP hD hS 1 0 rfl rfl (pz_vi rfl) dX4_reset_17 (fun H locs hP hD hS => ?_)
  have hP : va_P G.1 pz_cl [(a0, .inr (4, [.ref a1, .ref a2, .ref a3, .ref a4, .int 0, .int 0, .int 0, .int 0, .int 0, .int 0])), (a1, .inl (G.2 0, 4, .inl (upd (upd (upd (f0) 0 0) 1 0) 2 0))), (a2, .inl (G.2 0, 8, .inl (f1)))] H := hP
  have hD : va_D A [(a0, .inr (4, [.ref a1, .ref a2, .ref a3, .ref a4, .int 0, .int 0, .int 0, .int 0, .int 0, .int 0])), (a1, .inl (G.2 0, 4, .inl (upd (upd (upd (f0) 0 0) 1 0) 2 0))), (a2, .inl (G.2 0, 8, .inl (f1)))] := hD
  refine lv_iinc (v := 3) (lv' := [(1, .int 3), (0, .ref a0)]) hx hb dX4_reset_18 hl (k := 0) rfl (by decide) (by decide) rfl (fun ls hl => ?_)
  refine lv_goto (tgt := 2) hx hb dX4_reset_21 (by decide) ?_
  refine lv_iload_n hx hb dX4_reset_2 rfl (lv_at hl 0 rfl) ?_
  refine lv_aload_n hx hb dX4_reset_3 rfl (lv_at hl 1 rfl) ?_
  refine va_get (D := G.1) (ci := 4) (v := .ref a1) (C := "Sourcewright$Machine") (T := TX4) (N := 10) hx hb hts inX4 hown hK hP 0 rfl rfl 0 (by decide) (hts _ wq_412) (fun _ h9 => h9) rfl dX4_reset_4 ?_
  refine va_alen (v := 4) hx hb hK hP 1 0 rfl rfl (by show Int32.ofNat 4 = 4; decide) dX4_reset_7 ?_
  refine lv_icmp_ge (tgt := 24) hx hb dX4_reset_8 (by decide) (fun hc => absurd hc (by decide)) (fun _ => ?_)
  refine lv_aload_n hx hb dX4_reset_11 rfl (lv_at hl 1 rfl) ?_
  refine va_get (D := G.1) (ci := 4) (v := .ref a1) (C := "Sourcewright$Machine") (T := TX4) (N := 10) hx hb hts inX4 hown hK hP 0 rfl rfl 0 (by decide) (hts _ wq_412) (fun _ h9 => h9) rfl dX4_reset_12 ?_
  refine lv_iload_n hx hb dX4_reset_15 rfl (lv_at hl 0 rfl) ?_
  refine lv_iconst (v := 0) hx hb dX4_reset_16 (by decide) ?_
  refine va_iast hx hb hK hP hD hS 1 0 rfl rfl (pz_vi rfl) dX4_reset_17 (fun H locs hP hD hS => ?_)
  have hP : va_P G.1 pz_cl [(a0, .inr (4, [.ref a1, .ref a2, .ref a3, .ref a4, .int 0, .int 0, .int 0, .int 0, .int 0, .int 0])), (a1, .inl (G.2 0, 4, .inl (upd (upd (upd (upd (f0) 0 0) 1 0) 2 0) 3 0))), (a2, .inl (G.2 0, 8, .inl (f1)))] H := hP
  have hD : va_D A [(a0, .inr (4, [.ref a1, .ref a2, .ref a3, .ref a4, .int 0, .int 0, .int 0, .int 0, .int 0, .int 0])), (a1, .inl (G.2 0, 4, .inl (upd (upd (upd (upd (f0) 0 0) 1 0) 2 0) 3 0))), (a2, .inl (G.2 0, 8, .inl (f1)))] := hD
  refine lv_iinc (v := 4) (lv' := [(1, .int 4), (0, .ref a0)]) hx hb dX4_reset_18 hl (k := 0) rfl (by decide) (by decide) rfl (fun ls hl => ?_)
  refine lv_goto (tgt := 2) hx hb dX4_reset_21 (by decide) ?_
  refine lv_iload_n hx hb dX4_reset_2 rfl (lv_at hl 0 rfl) ?_
  refine lv_aload_n hx hb dX4_reset_3 rfl (lv_at hl 1 rfl) ?_
  refine va_get (D := G.1) (ci := 4) (v := .ref a1) (C := "Sourcewright$Machine") (T := TX4) (N := 10) hx hb hts inX4 hown hK hP 0 rfl rfl 0 (by decide) (hts _ wq_412) (fun _ h9 => h9) rfl dX4_reset_4 ?_
  refine va_alen (v := 4) hx hb hK hP 1 0 rfl rfl (by show Int32.ofNat 4 = 4; decide) dX4_reset_7 ?_
  refine lv_icmp_ge (tgt := 24) hx hb dX4_reset_8 (by decide) (fun _ => ?_) (fun hc => absurd hc (by decide))
  refine lv_iconst (v := 0) hx hb dX4_reset_24 (by decide) ?_
  refine lv_istore_n (lv' := [(1, .int 0), (0, .ref a0)]) hx hb dX4_reset_25 rfl hl (by decide) rfl (fun ls hl => ?_)
  refine lv_iload_n hx hb dX4_reset_26 rfl (lv_at hl 0 rfl) ?_
  refine lv_aload_n hx hb dX4_reset_27 rfl (lv_at hl 1 rfl) ?_
  refine va_get (D := G.1) (ci := 4) (v := .ref a2) (C := "Sourcewright$Machine") (T := TX4) (N := 10) hx hb hts inX4 hown hK hP 0 rfl rfl 1 (by decide) (hts _ wq_413) (fun _ h9 => h9) rfl dX4_reset_28 ?_
  refine va_alen (v := 8) hx hb hK hP 2 0 rfl rfl (by show Int32.ofNat 8 = 8; decide) dX4_reset_31 ?_
  refine lv_icmp_ge (tgt := 48) hx hb dX4_reset_32 (by decide) (fun hc => absurd hc (by decide)) (fun _ => ?_)
  refine lv_aload_n hx hb dX4_reset_35 rfl (lv_at hl 1 rfl) ?_
  refine va_get (D := G.1) (ci := 4) (v := .ref a2) (C := "Sourcewright$Machine") (T := TX4) (N := 10) hx hb hts inX4 hown hK hP 0 rfl rfl 1 (by decide) (hts _ wq_413) (fun _ h9 => h9) rfl dX4_reset_36 ?_
  refine lv_iload_n hx hb dX4_reset_39 rfl (lv_at hl 0 rfl) ?_
  refine lv_iconst (v := 0) hx hb dX4_reset_40 (by decide) ?_
  refine va_iast hx hb hK hP hD hS 2 0 rfl rfl (pz_vi rfl) dX4_reset_41 (fun H locs hP hD hS => ?_)
  have hP : va_P G.1 pz_cl [(a0, .inr (4, [.ref a1, .ref a2, .ref a3, .ref a4, .int 0, .int 0, .int 0, .int 0, .int 0, .int 0])), (a1, .inl (G.2 0, 4, .inl (upd (upd (upd (upd (f0) 0 0) 1 0) 2 0) 3 0))), (a2, .inl (G.2 0, 8, .inl (upd (f1) 0 0)))] H := hP
  have hD : va_D A [(a0, .inr (4, [.ref a1, .ref a2, .ref a3, .ref a4, .int 0, .int 0, .int 0, .int 0, .int 0, .int 0])), (a1, .inl (G.2 0, 4, .inl (upd (upd (upd (upd (f0) 0 0) 1 0) 2 0) 3 0))), (a2, .inl (G.2 0, 8, .inl (upd (f1) 0 0)))] := hD
  refine lv_iinc (v := 1) (lv' := [(1, .int 1), (0, .ref a0)]) hx hb dX4_reset_42 hl (k := 0) rfl (by decide) (by decide) rfl (fun ls hl => ?_)
  refine lv_goto (tgt := 26) hx hb dX4_reset_45 (by decide) ?_
  refine lv_iload_n hx hb dX4_reset_26 rfl (lv_at hl 0 rfl) ?_
  refine lv_aload_n hx hb dX4_reset_27 rfl (lv_at hl 1 rfl) ?_
  refine va_get (D := G.1) (ci := 4) (v := .ref a2) (C := "Sourcewright$Machine") (T := TX4) (N := 10) hx hb hts inX4 hown hK hP 0 rfl rfl 1 (by decide) (hts _ wq_413) (fun _ h9 => h9) rfl dX4_reset_28 ?_
  refine va_alen (v := 8) hx hb hK hP 2 0 rfl rfl (by show Int32.ofNat 8 = 8; decide) dX4_reset_31 ?_
  refine lv_icmp_ge (tgt := 48) hx hb dX4_reset_32 (by decide) (fun hc => absurd hc (by decide)) (fun _ => ?_)
  refine lv_aload_n hx hb dX4_reset_35 rfl (lv_at hl 1 rfl) ?_
  refine va_get (D := G.1) (ci := 4) (v := .ref a2) (C := "Sourcewright$Machine") (T := TX4) (N := 10) hx hb hts inX4 hown hK hP 0 rfl rfl 1 (by decide) (hts _ wq_413) (fun _ h9 => h9) rfl dX4_reset_36 ?_
  refine lv_iload_n hx hb dX4_reset_39 rfl (lv_at hl 0 rfl) ?_
  refine lv_iconst (v := 0) hx hb dX4_reset_40 (by decide) ?_
  refine va_iast hx hb hK hP hD hS 2 0 rfl rfl (pz_vi rfl) dX4_reset_41 (fun H locs hP hD hS => ?_)
  have hP : va_P G.1 pz_cl [(a0, .inr (4, [.ref a1, .ref a2, .ref a3, .ref a4, .int 0, .int 0, .int 0, .int 0, .int 0, .int 0])), (a1, .inl (G.2 0, 4, .inl (upd (upd (upd (upd (f0) 0 0) 1 0) 2 0) 3 0))), (a2, .inl (G.2 0, 8, .inl (upd (upd (f1) 0 0) 1 0)))] H := hP
  have hD : va_D A [(a0, .inr (4, [.ref a1, .ref a2, .ref a3, .ref a4, .int 0, .int 0, .int 0, .int 0, .int 0, .int 0])), (a1, .inl (G.2 0, 4, .inl (upd (upd (upd (upd (f0) 0 0) 1 0) 2 0) 3 0))), (a2, .inl (G.2 0, 8, .inl (upd (upd (f1) 0 0) 1 0)))] := hD
  refine lv_iinc (v := 2) (lv' := [(1, .int 2), (0, .ref a0)]) hx hb dX4_reset_42 hl (k := 0) rfl (by decide) (by decide) rfl (fun ls hl => ?_)
  refine lv_goto (tgt := 26) hx hb dX4_reset_45 (by decide) ?_
  refine lv_iload_n hx hb dX4_reset_26 rfl (lv_at hl 0 rfl) ?_
  refine lv_aload_n hx hb dX4_reset_27 rfl (lv_at hl 1 rfl) ?_
  refine va_get (D := G.1) (ci := 4) (v := .ref a2) (C := "Sourcewright$Machine") (T := TX4) (N := 10) hx hb hts inX4 hown hK hP 0 rfl rfl 1 (by decide) (hts _ wq_413) (fun _ h9 => h9) rfl dX4_reset_28 ?_
  refine va_alen (v := 8) hx hb hK hP 2 0 rfl rfl (by show Int32.ofNat 8 = 8; decide) dX4_reset_31 ?_
  refine lv_icmp_ge (tgt := 48) hx hb dX4_reset_32 (by decide) (fun hc => absurd hc (by decide)) (fun _ => ?_)
  refine lv_aload_n hx hb dX4_reset_35 rfl (lv_at hl 1 rfl) ?_
  refine va_get (D := G.1) (ci := 4) (v := .ref a2) (C := "Sourcewright$Machine") (T := TX4) (N := 10) hx hb hts inX4 hown hK hP 0 rfl rfl 1 (by decide) (hts _ wq_413) (fun _ h9 => h9) rfl dX4_reset_36 ?_
  refine lv_iload_n hx hb dX4_reset_39 rfl (lv_at hl 0 rfl) ?_
  refine lv_iconst (v := 0) hx hb dX4_reset_40 (by decide) ?_
  refine va_iast hx hb hK hP hD hS 2 0 rfl rfl (pz_vi rfl) dX4_reset_41 (fun H locs hP hD hS => ?_)
  have hP : va_P G.1 pz_cl [(a0, .inr (4, [.ref a1, .ref a2, .ref a3, .ref a4, .int 0, .int 0, .int 0, .int 0, .int 0, .int 0])), (a1, .inl (G.2 0, 4, .inl (upd (upd (upd (upd (f0) 0 0) 1 0) 2 0) 3 0))), (a2, .inl (G.2 0, 8, .inl (upd (upd (upd (f1) 0 0) 1 0) 2 0)))] H := hP
  have hD : va_D A [(a0, .inr (4, [.ref a1, .ref a2, .ref a3, .ref a4, .int 0, .int 0, .int 0, .int 0, .int 0, .int 0])), (a1, .inl (G.2 0, 4, .inl (upd (upd (upd (upd (f0) 0 0) 1 0) 2 0) 3 0))), (a2, .inl (G.2 0, 8, .inl (upd (upd (upd (f1) 0 0) 1 0) 2 0)))] := hD
  refine lv_iinc (v := 3) (lv' := [(1, .int 3), (0, .ref a0)]) hx hb dX4_reset_42 hl (k := 0) rfl (by decide) (by decide) rfl (fun ls hl => ?_)
  refine lv_goto (tgt := 26) hx hb dX4_reset_45 (by decide) ?_
  refine lv_iload_n hx hb dX4_reset_26 rfl (lv_at hl 0 rfl) ?_
  refine lv_aload_n hx hb dX4_reset_27 rfl (lv_at hl 1 rfl) ?_
  refine va_get (D := G.1) (ci := 4) (v := .ref a2) (C := "Sourcewright$Machine") (T := TX4) (N := 10) hx hb hts inX4 hown hK hP 0 rfl rfl 1 (by decide) (hts _ wq_413) (fun _ h9 => h9) rfl dX4_reset_28 ?_
  refine va_alen (v := 8) hx hb hK hP 2 0 rfl rfl (by show Int32.ofNat 8 = 8; decide) dX4_reset_31 ?_
  refine lv_icmp_ge (tgt := 48) hx hb dX4_reset_32 (by decide) (fun hc => absurd hc (by decide)) (fun _ => ?_)
  refine lv_aload_n hx hb dX4_reset_35 rfl (lv_at hl 1 rfl) ?_
  refine va_get (D := G.1) (ci := 4) (v := .ref a2) (C := "Sourcewright$Machine") (T := TX4) (N := 10) hx hb hts inX4 hown hK hP 0 rfl rfl 1 (by decide) (hts _ wq_413) (fun _ h9 => h9) rfl dX4_reset_36 ?_
  refine lv_iload_n hx hb dX4_reset_39 rfl (lv_at hl 0 rfl) ?_
  refine lv_iconst (v := 0) hx hb dX4_reset_40 (by decide) ?_
  refine va_iast hx hb hK hP hD hS 2 0 rfl rfl (pz_vi rfl) dX4_reset_41 (fun H locs hP hD hS => ?_)
  have hP : va_P G.1 pz_cl [(a0, .inr (4, [.ref a1, .ref a2, .ref a3, .ref a4, .int 0, .int 0, .int 0, .int 0, .int 0, .int 0])), (a1, .inl (G.2 0, 4, .inl (upd (upd (upd (upd (f0) 0 0) 1 0) 2 0) 3 0))), (a2, .inl (G.2 0, 8, .inl (upd (upd (upd (upd (f1) 0 0) 1 0) 2 0) 3 0)))] H := hP
  have hD : va_D A [(a0, .inr (4, [.ref a1, .ref a2, .ref a3, .ref a4, .int 0, .int 0, .int 0, .int 0, .int 0, .int 0])), (a1, .inl (G.2 0, 4, .inl (upd (upd (upd (upd (f0) 0 0) 1 0) 2 0) 3 0))), (a2, .inl (G.2 0, 8, .inl (upd (upd (upd (upd (f1) 0 0) 1 0) 2 0) 3 0)))] := hD
  refine lv_iinc (v := 4) (lv' := [(1, .int 4), (0, .ref a0)]) hx hb dX4_reset_42 hl (k := 0) rfl (by decide) (by decide) rfl (fun ls hl => ?_)
  refine lv_goto (tgt := 26) hx hb dX4_reset_45 (by decide) ?_
  refine lv_iload_n hx hb dX4_reset_26 rfl (lv_at hl 0 rfl) ?_
  refine lv_aload_n hx hb dX4_reset_27 rfl (lv_at hl 1 rfl) ?_
  refine va_get (D := G.1) (ci := 4) (v := .ref a2) (C := "Sourcewright$Machine") (T := TX4) (N := 10) hx hb hts inX4 hown hK hP 0 rfl rfl 1 (by decide) (hts _ wq_413) (fun _ h9 => h9) rfl dX4_reset_28 ?_
  refine va_alen (v := 8) hx hb hK hP 2 0 rfl rfl (by show Int32.ofNat 8 = 8; decide) dX4_reset_31 ?_
  refine lv_icmp_ge (tgt := 48) hx hb dX4_reset_32 (by decide) (fun hc => absurd hc (by decide)) (fun _ => ?_)
  refine lv_aload_n hx hb dX4_reset_35 rfl (lv_at hl 1 rfl) ?_
  refine va_get (D := G.1) (ci := 4) (v := .ref a2) (C := "Sourcewright$Machine") (T := TX4) (N := 10) hx hb hts inX4 hown hK hP 0 rfl rfl 1 (by decide) (hts _ wq_413) (fun _ h9 => h9) rfl dX4_reset_36 ?_
  refine lv_iload_n hx hb dX4_reset_39 rfl (lv_at hl 0 rfl) ?_
  refine lv_iconst (v := 0) hx hb dX4_reset_40 (by decide) ?_
  refine va_iast hx hb hK hP hD hS 2 0 rfl rfl (pz_vi rfl) dX4_reset_41 (fun H locs hP hD hS => ?_)
  have hP : va_P G.1 pz_cl [(a0, .inr (4, [.ref a1, .ref a2, .ref a3, .ref a4, .int 0, .int 0, .int 0, .int 0, .int 0, .int 0])), (a1, .inl (G.2 0, 4, .inl (upd (upd (upd (upd (f0) 0 0) 1 0) 2 0) 3 0))), (a2, .inl (G.2 0, 8, .inl (upd (upd (upd (upd (upd (f1) 0 0) 1 0) 2 0) 3 0) 4 0)))] H := hP
  have hD : va_D A [(a0, .inr (4, [.ref a1, .ref a2, .ref a3, .ref a4, .int 0, .int 0, .int 0, .int 0, .int 0, .int 0])), (a1, .inl (G.2 0, 4, .inl (upd (upd (upd (upd (f0) 0 0) 1 0) 2 0) 3 0))), (a2, .inl (G.2 0, 8, .inl (upd (upd (upd (upd (upd (f1) 0 0) 1 0) 2 0) 3 0) 4 0)))] := hD
  refine lv_iinc (v := 5) (lv' := [(1, .int 5), (0, .ref a0)]) hx hb dX4_reset_42 hl (k := 0) rfl (by decide) (by decide) rfl (fun ls hl => ?_)
  refine lv_goto (tgt := 26) hx hb dX4_reset_45 (by decide) ?_
  refine lv_iload_n hx hb dX4_reset_26 rfl (lv_at hl 0 rfl) ?_
  refine lv_aload_n hx hb dX4_reset_27 rfl (lv_at hl 1 rfl) ?_
  refine va_get (D := G.1) (ci := 4) (v := .ref a2) (C := "Sourcewright$Machine") (T := TX4) (N := 10) hx hb hts inX4 hown hK hP 0 rfl rfl 1 (by decide) (hts _ wq_413) (fun _ h9 => h9) rfl dX4_reset_28 ?_
  refine va_alen (v := 8) hx hb hK hP 2 0 rfl rfl (by show Int32.ofNat 8 = 8; decide) dX4_reset_31 ?_
  refine lv_icmp_ge (tgt := 48) hx hb dX4_reset_32 (by decide) (fun hc => absurd hc (by decide)) (fun _ => ?_)
  refine lv_aload_n hx hb dX4_reset_35 rfl (lv_at hl 1 rfl) ?_
  refine va_get (D := G.1) (ci := 4) (v := .ref a2) (C := "Sourcewright$Machine") (T := TX4) (N := 10) hx hb hts inX4 hown hK hP 0 rfl rfl 1 (by decide) (hts _ wq_413) (fun _ h9 => h9) rfl dX4_reset_36 ?_
  refine lv_iload_n hx hb dX4_reset_39 rfl (lv_at hl 0 rfl) ?_
  refine lv_iconst (v := 0) hx hb dX4_reset_40 (by decide) ?_
  refine va_iast hx hb hK hP hD hS 2 0 rfl rfl (pz_vi rfl) dX4_reset_41 (fun H locs hP hD hS => ?_)
  have hP : va_P G.1 pz_cl [(a0, .inr (4, [.ref a1, .ref a2, .ref a3, .ref a4, .int 0, .int 0, .int 0, .int 0, .int 0, .int 0])), (a1, .inl (G.2 0, 4, .inl (upd (upd (upd (upd (f0) 0 0) 1 0) 2 0) 3 0))), (a2, .inl (G.2 0, 8, .inl (upd (upd (upd (upd (upd (upd (f1) 0 0) 1 0) 2 0) 3 0) 4 0) 5 0)))] H := hP
  have hD : va_D A [(a0, .inr (4, [.ref a1, .ref a2, .ref a3, .ref a4, .int 0, .int 0, .int 0, .int 0, .int 0, .int 0])), (a1, .inl (G.2 0, 4, .inl (upd (upd (upd (upd (f0) 0 0) 1 0) 2 0) 3 0))), (a2, .inl (G.2 0, 8, .inl (upd (upd (upd (upd (upd (upd (f1) 0 0) 1 0) 2 0) 3 0) 4 0) 5 0)))] := hD
  refine lv_iinc (v := 6) (lv' := [(1, .int 6), (0, .ref a0)]) hx hb dX4_reset_42 hl (k := 0) rfl (by decide) (by decide) rfl (fun ls hl => ?_)
  refine lv_goto (tgt := 26) hx hb dX4_reset_45 (by decide) ?_
  refine lv_iload_n hx hb dX4_reset_26 rfl (lv_at hl 0 rfl) ?_
  refine lv_aload_n hx hb dX4_reset_27 rfl (lv_at hl 1 rfl) ?_
  refine va_get (D := G.1) (ci := 4) (v := .ref a2) (C := "Sourcewright$Machine") (T := TX4) (N := 10) hx hb hts inX4 hown hK hP 0 rfl rfl 1 (by decide) (hts _ wq_413) (fun _ h9 => h9) rfl dX4_reset_28 ?_
  refine va_alen (v := 8) hx hb hK hP 2 0 rfl rfl (by show Int32.ofNat 8 = 8; decide) dX4_reset_31 ?_
  refine lv_icmp_ge (tgt := 48) hx hb dX4_reset_32 (by decide) (fun hc => absurd hc (by decide)) (fun _ => ?_)
  refine lv_aload_n hx hb dX4_reset_35 rfl (lv_at hl 1 rfl) ?_
  refine va_get (D := G.1) (ci := 4) (v := .ref a2) (C := "Sourcewright$Machine") (T := TX4) (N := 10) hx hb hts inX4 hown hK hP 0 rfl rfl 1 (by decide) (hts _ wq_413) (fun _ h9 => h9) rfl dX4_reset_36 ?_
  refine lv_iload_n hx hb dX4_reset_39 rfl (lv_at hl 0 rfl) ?_
  refine lv_iconst (v := 0) hx hb dX4_reset_40 (by decide) ?_
  refine va_iast hx hb hK hP hD hS 2 0 rfl rfl (pz_vi rfl) dX4_reset_41 (fun H locs hP hD hS => ?_)
  have hP : va_P G.1 pz_cl [(a0, .inr (4, [.ref a1, .ref a2, .ref a3, .ref a4, .int 0, .int 0, .int 0, .int 0, .int 0, .int 0])), (a1, .inl (G.2 0, 4, .inl (upd (upd (upd (upd (f0) 0 0) 1 0) 2 0) 3 0))), (a2, .inl (G.2 0, 8, .inl (upd (upd (upd (upd (upd (upd (upd (f1) 0 0) 1 0) 2 0) 3 0) 4 0) 5 0) 6 0)))] H := hP
  have hD : va_D A [(a0, .inr (4, [.ref a1, .ref a2, .ref a3, .ref a4, .int 0, .int 0, .int 0, .int 0, .int 0, .int 0])), (a1, .inl (G.2 0, 4, .inl (upd (upd (upd (upd (f0) 0 0) 1 0) 2 0) 3 0))), (a2, .inl (G.2 0, 8, .inl (upd (upd (upd (upd (upd (upd (upd (f1) 0 0) 1 0) 2 0) 3 0) 4 0) 5 0) 6 0)))] := hD
  refine lv_iinc (v := 7) (lv' := [(1, .int 7), (0, .ref a0)]) hx hb dX4_reset_42 hl (k := 0) rfl (by decide) (by decide) rfl (fun ls hl => ?_)
  refine lv_goto (tgt := 26) hx hb dX4_reset_45 (by decide) ?_
  refine lv_iload_n hx hb dX4_reset_26 rfl (lv_at hl 0 rfl) ?_
  refine lv_aload_n hx hb dX4_reset_27 rfl (lv_at hl 1 rfl) ?_
  refine va_get (D := G.1) (ci := 4) (v := .ref a2) (C := "Sourcewright$Machine") (T := TX4) (N := 10) hx hb hts inX4 hown hK hP 0 rfl rfl 1 (by decide) (hts _ wq_413) (fun _ h9 => h9) rfl dX4_reset_28 ?_
  refine va_alen (v := 8) hx hb hK hP 2 0 rfl rfl (by show Int32.ofNat 8 = 8; decide) dX4_reset_31 ?_
  refine lv_icmp_ge (tgt := 48) hx hb dX4_reset_32 (by decide) (fun hc => absurd hc (by decide)) (fun _ => ?_)
  refine lv_aload_n hx hb dX4_reset_35 rfl (lv_at hl 1 rfl) ?_
  refine va_get (D := G.1) (ci := 4) (v := .ref a2) (C := "Sourcewright$Machine") (T := TX4) (N := 10) hx hb hts inX4 hown hK hP 0 rfl rfl 1 (by decide) (hts _ wq_413) (fun _ h9 => h9) rfl dX4_reset_36 ?_
  refine lv_iload_n hx hb dX4_reset_39 rfl (lv_at hl 0 rfl) ?_
  refine lv_iconst (v := 0) hx hb dX4_reset_40 (by decide) ?_
  refine va_iast hx hb hK hP hD hS 2 0 rfl rfl (pz_vi rfl) dX4_reset_41 (fun H locs hP hD hS => ?_)
  have hP : va_P G.1 pz_cl [(a0, .inr (4, [.ref a1, .ref a2, .ref a3, .ref a4, .int 0, .int 0, .int 0, .int 0, .int 0, .int 0])), (a1, .inl (G.2 0, 4, .inl (upd (upd (upd (upd (f0) 0 0) 1 0) 2 0) 3 0))), (a2, .inl (G.2 0, 8, .inl (upd (upd (upd (upd (upd (upd (upd (upd (f1) 0 0) 1 0) 2 0) 3 0) 4 0) 5 0) 6 0) 7 0)))] H := hP
  have hD : va_D A [(a0, .inr (4, [.ref a1, .ref a2, .ref a3, .ref a4, .int 0, .int 0, .int 0, .int 0, .int 0, .int 0])), (a1, .inl (G.2 0, 4, .inl (upd (upd (upd (upd (f0) 0 0) 1 0) 2 0) 3 0))), (a2, .inl (G.2 0, 8, .inl (upd (upd (upd (upd (upd (upd (upd (upd (f1) 0 0) 1 0) 2 0) 3 0) 4 0) 5 0) 6 0) 7 0)))] := hD
  refine lv_iinc (v := 8) (lv' := [(1, .int 8), (0, .ref a0)]) hx hb dX4_reset_42 hl (k := 0) rfl (by decide) (by decide) rfl (fun ls hl => ?_)
  refine lv_goto (tgt := 26) hx hb dX4_reset_45 (by decide) ?_
  refine lv_iload_n hx hb dX4_reset_26 rfl (lv_at hl 0 rfl) ?_
  refine lv_aload_n hx hb dX4_reset_27 rfl (lv_at hl 1 rfl) ?_
  refine va_get (D := G.1) (ci := 4) (v := .ref a2) (C := "Sourcewright$Machine") (T := TX4) (N := 10) hx hb hts inX4 hown hK hP 0 rfl rfl 1 (by decide) (hts _ wq_413) (fun _ h9 => h9) rfl dX4_reset_28 ?_
  refine va_alen (v := 8) hx hb hK hP 2 0 rfl rfl (by show Int32.ofNat 8 = 8; decide) dX4_reset_31 ?_
  refine lv_icmp_ge (tgt := 48) hx hb dX4_reset_32 (by decide) (fun _ => ?_) (fun hc => absurd hc (by decide))
  refine lv_aload_n hx hb dX4_reset_48 rfl (lv_at hl 1 rfl) ?_
  refine lv_iconst (v := 0) hx hb dX4_reset_49 (by decide) ?_
  refine va_put (D := G.1) (ci := 4) (v := .int 0) (ty := tyX4 4) (C := "Sourcewright$Machine") (T := TX4) (N := 10) hx hb hts inX4 tyX4 tyX4_ok nmX4 hown hK hP hD hS 0 rfl rfl 4 (by decide) (hts _ wq_416) (fun _ h9 => h9) rfl (by decide +kernel) rfl rfl (Nat.le_of_ble_eq_true rfl) dX4_reset_50 (fun H locs hP hD hS => ?_)
  have hP : va_P G.1 pz_cl [(a0, .inr (4, [.ref a1, .ref a2, .ref a3, .ref a4, .int 0, .int 0, .int 0, .int 0, .int 0, .int 0])), (a1, .inl (G.2 0, 4, .inl (upd (upd (upd (upd (f0) 0 0) 1 0) 2 0) 3 0))), (a2, .inl (G.2 0, 8, .inl (upd (upd (upd (upd (upd (upd (upd (upd (f1) 0 0) 1 0) 2 0) 3 0) 4 0) 5 0) 6 0) 7 0)))] H := hP
  have hD : va_D A [(a0, .inr (4, [.ref a1, .ref a2, .ref a3, .ref a4, .int 0, .int 0, .int 0, .int 0, .int 0, .int 0])), (a1, .inl (G.2 0, 4, .inl (upd (upd (upd (upd (f0) 0 0) 1 0) 2 0) 3 0))), (a2, .inl (G.2 0, 8, .inl (upd (upd (upd (upd (upd (upd (upd (upd (f1) 0 0) 1 0) 2 0) 3 0) 4 0) 5 0) 6 0) 7 0)))] := hD
  refine lv_aload_n hx hb dX4_reset_53 rfl (lv_at hl 1 rfl) ?_
  refine lv_iconst (v := 0) hx hb dX4_reset_54 (by decide) ?_
  refine va_put (D := G.1) (ci := 4) (v := .int 0) (ty := tyX4 5) (C := "Sourcewright$Machine") (T := TX4) (N := 10) hx hb hts inX4 tyX4 tyX4_ok nmX4 hown hK hP hD hS 0 rfl rfl 5 (by decide) (hts _ wq_417) (fun _ h9 => h9) rfl (by decide +kernel) rfl rfl (Nat.le_of_ble_eq_true rfl) dX4_reset_55 (fun H locs hP hD hS => ?_)
  have hP : va_P G.1 pz_cl [(a0, .inr (4, [.ref a1, .ref a2, .ref a3, .ref a4, .int 0, .int 0, .int 0, .int 0, .int 0, .int 0])), (a1, .inl (G.2 0, 4, .inl (upd (upd (upd (upd (f0) 0 0) 1 0) 2 0) 3 0))), (a2, .inl (G.2 0, 8, .inl (upd (upd (upd (upd (upd (upd (upd (upd (f1) 0 0) 1 0) 2 0) 3 0) 4 0) 5 0) 6 0) 7 0)))] H := hP
  have hD : va_D A [(a0, .inr (4, [.ref a1, .ref a2, .ref a3, .ref a4, .int 0, .int 0, .int 0, .int 0, .int 0, .int 0])), (a1, .inl (G.2 0, 4, .inl (upd (upd (upd (upd (f0) 0 0) 1 0) 2 0) 3 0))), (a2, .inl (G.2 0, 8, .inl (upd (upd (upd (upd (upd (upd (upd (upd (f1) 0 0) 1 0) 2 0) 3 0) 4 0) 5 0) 6 0) 7 0)))] := hD
  refine lv_aload_n hx hb dX4_reset_58 rfl (lv_at hl 1 rfl) ?_
  refine lv_iconst (v := 0) hx hb dX4_reset_59 (by decide) ?_
  refine va_put (D := G.1) (ci := 4) (v := .int 0) (ty := tyX4 6) (C := "Sourcewright$Machine") (T := TX4) (N := 10) hx hb hts inX4 tyX4 tyX4_ok nmX4 hown hK hP hD hS 0 rfl rfl 6 (by decide) (hts _ wq_418) (fun _ h9 => h9) rfl (by decide +kernel) rfl rfl (Nat.le_of_ble_eq_true rfl) dX4_reset_60 (fun H locs hP hD hS => ?_)
  have hP : va_P G.1 pz_cl [(a0, .inr (4, [.ref a1, .ref a2, .ref a3, .ref a4, .int 0, .int 0, .int 0, .int 0, .int 0, .int 0])), (a1, .inl (G.2 0, 4, .inl (upd (upd (upd (upd (f0) 0 0) 1 0) 2 0) 3 0))), (a2, .inl (G.2 0, 8, .inl (upd (upd (upd (upd (upd (upd (upd (upd (f1) 0 0) 1 0) 2 0) 3 0) 4 0) 5 0) 6 0) 7 0)))] H := hP
  have hD : va_D A [(a0, .inr (4, [.ref a1, .ref a2, .ref a3, .ref a4, .int 0, .int 0, .int 0, .int 0, .int 0, .int 0])), (a1, .inl (G.2 0, 4, .inl (upd (upd (upd (upd (f0) 0 0) 1 0) 2 0) 3 0))), (a2, .inl (G.2 0, 8, .inl (upd (upd (upd (upd (upd (upd (upd (upd (f1) 0 0) 1 0) 2 0) 3 0) 4 0) 5 0) 6 0) 7 0)))] := hD
  refine lv_aload_n hx hb dX4_reset_63 rfl (lv_at hl 1 rfl) ?_
  refine lv_iconst (v := 0) hx hb dX4_reset_64 (by decide) ?_
  refine va_put (D := G.1) (ci := 4) (v := .int 0) (ty := tyX4 7) (C := "Sourcewright$Machine") (T := TX4) (N := 10) hx hb hts inX4 tyX4 tyX4_ok nmX4 hown hK hP hD hS 0 rfl rfl 7 (by decide) (hts _ wq_419) (fun _ h9 => h9) rfl (by decide +kernel) rfl rfl (Nat.le_of_ble_eq_true rfl) dX4_reset_65 (fun H locs hP hD hS => ?_)
  have hP : va_P G.1 pz_cl [(a0, .inr (4, [.ref a1, .ref a2, .ref a3, .ref a4, .int 0, .int 0, .int 0, .int 0, .int 0, .int 0])), (a1, .inl (G.2 0, 4, .inl (upd (upd (upd (upd (f0) 0 0) 1 0) 2 0) 3 0))), (a2, .inl (G.2 0, 8, .inl (upd (upd (upd (upd (upd (upd (upd (upd (f1) 0 0) 1 0) 2 0) 3 0) 4 0) 5 0) 6 0) 7 0)))] H := hP
  have hD : va_D A [(a0, .inr (4, [.ref a1, .ref a2, .ref a3, .ref a4, .int 0, .int 0, .int 0, .int 0, .int 0, .int 0])), (a1, .inl (G.2 0, 4, .inl (upd (upd (upd (upd (f0) 0 0) 1 0) 2 0) 3 0))), (a2, .inl (G.2 0, 8, .inl (upd (upd (upd (upd (upd (upd (upd (upd (f1) 0 0) 1 0) 2 0) 3 0) 4 0) 5 0) 6 0) 7 0)))] := hD
  refine lv_aload_n hx hb dX4_reset_68 rfl (lv_at hl 1 rfl) ?_
  refine lv_iconst (v := 0) hx hb dX4_reset_69 (by decide) ?_
  refine va_put (D := G.1) (ci := 4) (v := .int 0) (ty := tyX4 8) (C := "Sourcewright$Machine") (T := TX4) (N := 10) hx hb hts inX4 tyX4 tyX4_ok nmX4 hown hK hP hD hS 0 rfl rfl 8 (by decide) (hts _ wq_420) (fun _ h9 => h9) rfl (by decide +kernel) rfl rfl (Nat.le_of_ble_eq_true rfl) dX4_reset_70 (fun H locs hP hD hS => ?_)
  have hP : va_P G.1 pz_cl [(a0, .inr (4, [.ref a1, .ref a2, .ref a3, .ref a4, .int 0, .int 0, .int 0, .int 0, .int 0, .int 0])), (a1, .inl (G.2 0, 4, .inl (upd (upd (upd (upd (f0) 0 0) 1 0) 2 0) 3 0))), (a2, .inl (G.2 0, 8, .inl (upd (upd (upd (upd (upd (upd (upd (upd (f1) 0 0) 1 0) 2 0) 3 0) 4 0) 5 0) 6 0) 7 0)))] H := hP
  have hD : va_D A [(a0, .inr (4, [.ref a1, .ref a2, .ref a3, .ref a4, .int 0, .int 0, .int 0, .int 0, .int 0, .int 0])), (a1, .inl (G.2 0, 4, .inl (upd (upd (upd (upd (f0) 0 0) 1 0) 2 0) 3 0))), (a2, .inl (G.2 0, 8, .inl (upd (upd (upd (upd (upd (upd (upd (upd (f1) 0 0) 1 0) 2 0) 3 0) 4 0) 5 0) 6 0) 7 0)))] := hD
  refine lv_aload_n hx hb dX4_reset_73 rfl (lv_at hl 1 rfl) ?_
  refine lv_iconst (v := 0) hx hb dX4_reset_74 (by decide) ?_
  refine va_put (D := G.1) (ci := 4) (v := .int 0) (ty := tyX4 9) (C := "Sourcewright$Machine") (T := TX4) (N := 10) hx hb hts inX4 tyX4 tyX4_ok nmX4 hown hK hP hD hS 0 rfl rfl 9 (by decide) (hts _ wq_421) (fun _ h9 => h9) rfl (by decide +kernel) rfl rfl (Nat.le_of_ble_eq_true rfl) dX4_reset_75 (fun H locs hP hD hS => ?_)
  have hP : va_P G.1 pz_cl [(a0, .inr (4, [.ref a1, .ref a2, .ref a3, .ref a4, .int 0, .int 0, .int 0, .int 0, .int 0, .int 0])), (a1, .inl (G.2 0, 4, .inl (upd (upd (upd (upd (f0) 0 0) 1 0) 2 0) 3 0))), (a2, .inl (G.2 0, 8, .inl (upd (upd (upd (upd (upd (upd (upd (upd (f1) 0 0) 1 0) 2 0) 3 0) 4 0) 5 0) 6 0) 7 0)))] H := hP
  have hD : va_D A [(a0, .inr (4, [.ref a1, .ref a2, .ref a3, .ref a4, .int 0, .int 0, .int 0, .int 0, .int 0, .int 0])), (a1, .inl (G.2 0, 4, .inl (upd (upd (upd (upd (f0) 0 0) 1 0) 2 0) 3 0))), (a2, .inl (G.2 0, 8, .inl (upd (upd (upd (upd (upd (upd (upd (upd (f1) 0 0) 1 0) 2 0) 3 0) 4 0) 5 0) 6 0) 7 0)))] := hD
  exact pz_rv hx hb hr hlocks hS (Nat.le_of_ble_eq_true rfl) (Nat.le_of_ble_eq_true rfl) dX4_reset_78 () rfl (hP.sub [0, 1, 2] rfl) (hD.sub [0, 1, 2] rfl rfl)
set_option maxHeartbeats 4000000 in
set_option maxRecDepth 100000 in
theorem cX2_op_1 (l : Launch) (hst : l.stackTraces = false) (G : pz_G) (X : Nat → Nat) (sz : Nat) (a0 : Nat) (a1 : Nat) (a2 : Nat) : pz_MR (S := Unit) l yX2_op (pz_cd yX2_op cX2_op 2 (some .int)) 0 0 0 0 G X sz [(a0, .inr (2, [.ref a2, .ref a1, .int 2])), (a1, .inl (G.2 0, 240, .inl (upd (upd (fun _ => 0) 0 8) 1 13)))] [.ref a0, .int 0] (fun u => some (.int 8)) (fun u => [(a0, .inr (2, [.ref a2, .ref a1, .int 2])), (a1, .inl (G.2 0, 240, .inl (upd (upd (fun _ => 0) 0 8) 1 13)))]) := by
  refine pz_onR (by decide +kernel) (Nat.le_of_ble_eq_true rfl) ?_
  intro p e s m below meth c A hx hb hr hml hown hts hlocks hin hx0 hP hK hD hS hA hE ls hl
  have hown : s.vm.findClass "Sourcewright$Code" = some m.cls := hown
  have hl : lv_has ls 2 [(0, .ref a0), (1, .int 0)] := hl
  refine lv_iload_n hx hb dX2_op_0 rfl (lv_at hl 1 rfl) ?_
  refine lv_if_lt (tgt := 30) hx hb dX2_op_1 (by decide) (fun hc => absurd hc (by decide)) (fun _ => ?_)
  refine lv_iload_n hx hb dX2_op_4 rfl (lv_at hl 1 rfl) ?_
  refine lv_aload_n hx hb dX2_op_5 rfl (lv_at hl 0 rfl) ?_
  refine va_get (D := G.1) (ci := 2) (v := .int 2) (C := "Sourcewright$Code") (T := TX2) (N := 3) hx hb hts inX2 hown hK hP 0 rfl rfl 2 (by decide) (hts _ wq_64) (fun _ h9 => h9) rfl dX2_op_6 ?_
  refine lv_icmp_ge (tgt := 30) hx hb dX2_op_9 (by decide) (fun hc => absurd hc (by decide)) (fun _ => ?_)
  refine lv_iload_n hx hb dX2_op_12 rfl (lv_at hl 1 rfl) ?_
  refine lv_aload_n hx hb dX2_op_13 rfl (lv_at hl 0 rfl) ?_
  refine va_get (D := G.1) (ci := 2) (v := .ref a1) (C := "Sourcewright$Code") (T := TX2) (N := 3) hx hb hts inX2 hown hK hP 0 rfl rfl 1 (by decide) (hts _ wq_63) (fun _ h9 => h9) rfl dX2_op_14 ?_
  refine va_alen (v := 240) hx hb hK hP 1 0 rfl rfl (by show Int32.ofNat 240 = 240; decide) dX2_op_17 ?_
  refine lv_icmp_ge (tgt := 30) hx hb dX2_op_18 (by decide) (fun hc => absurd hc (by decide)) (fun _ => ?_)
  refine lv_aload_n hx hb dX2_op_21 rfl (lv_at hl 0 rfl) ?_
  refine va_get (D := G.1) (ci := 2) (v := .ref a1) (C := "Sourcewright$Code") (T := TX2) (N := 3) hx hb hts inX2 hown hK hP 0 rfl rfl 1 (by decide) (hts _ wq_63) (fun _ h9 => h9) rfl dX2_op_22 ?_
  refine lv_iload_n hx hb dX2_op_25 rfl (lv_at hl 1 rfl) ?_
  refine va_iald hx hb hK hP 1 0 rfl rfl (pz_vi rfl) dX2_op_26 ?_
  refine W.eq (g2 := F0 m 27 ls [.int 8]) rfl ?_
  refine lv_goto (tgt := 32) hx hb dX2_op_27 (by decide) ?_
  exact pz_rz hx hb hr hlocks (by decide +kernel) hS (Nat.le_of_ble_eq_true rfl) (Nat.le_of_ble_eq_true rfl) dX2_op_32 () rfl (hP.sub [0, 1] rfl) (hD.sub [0, 1] rfl rfl)
set_option maxHeartbeats 4000000 in
set_option maxRecDepth 100000 in
theorem cX4_go_1 (l : Launch) (hst : l.stackTraces = false) (G : pz_G) (X : Nat → Nat) (sz : Nat) (a0 : Nat) (a1 : Nat) (a2 : Nat) (a3 : Nat) (a4 : Nat) (a5 : Nat) (a6 : Nat) (a7 : Nat) (f0 : Nat → Int32) (f1 : Nat → Int32) (a8 : Nat) : pz_MR (S := Unit) l yX4_go (pz_cd yX4_go cX4_go 8 (some .char)) 1 21 0 0 G X sz [(a0, .inr (4, [.ref a3, .ref a4, .ref a6, .ref a7, .int 0, .int 0, .int 0, .int 0, .int 0, .int 0])), (a3, .inl (G.2 0, 4, .inl (f0))), (a4, .inl (G.2 0, 8, .inl (f1))), (a1, .inr (2, [.ref a8, .ref a5, .int 2])), (a5, .inl (G.2 0, 240, .inl (upd (upd (fun _ => 0) 0 8) 1 13)))] [.ref a0, .ref a1, .ref a2, .int 0, .int 0] (fun u => some (.int 115)) (fun u => [(a0, .inr (4, [.ref a3, .ref a4, .ref a6, .ref a7, .int 0, .int 0, .int 0, .int 0, .int 0, .int 0])), (a3, .inl (G.2 0, 4, .inl (upd (upd (upd (upd (f0) 0 0) 1 0) 2 0) 3 0))), (a4, .inl (G.2 0, 8, .inl (upd (upd (upd (upd (upd (upd (upd (upd (f1) 0 0) 1 0) 2 0) 3 0) 4 0) 5 0) 6 0) 7 0))), (a1, .inr (2, [.ref a8, .ref a5, .int 2])), (a5, .inl (G.2 0, 240, .inl (upd (upd (fun _ => 0) 0 8) 1 13)))]) := by
  refine pz_onR (by decide +kernel) (Nat.le_of_ble_eq_true rfl) ?_
  intro p e s m below meth c A hx hb hr hml hown hts hlocks hin hx0 hP hK hD hS hA hE ls hl
  have hown : s.vm.findClass "Sourcewright$Machine" = some m.cls := hown
  have hl : lv_has ls 8 [(0, .ref a0), (1, .ref a1), (2, .ref a2), (3, .int 0), (4, .int 0)] := hl
  refine lv_aload_n hx hb dX4_go_0 rfl (lv_at hl 0 rfl) ?_
  refine pz_go (wr := [(a1, .inr (2, [.ref a8, .ref a5, .int 2])), (a5, .inl (G.2 0, 240, .inl (upd (upd (fun _ => 0) 0 8) 1 13)))]) (vx_runV (C := "Sourcewright$Machine") (As := []) (rest := []) ⟨hx, hb, hml, hown, hts⟩ (cX4_reset_1 l hst G X s.heap.size a0 a3 a4 a6 a7 f0 f1) (cwV 0 hts (pz_gV wq_1204 wq_1206 wqs_66 wq_12 wq_1207) rfl rfl rfl (by decide +kernel) ⟨(Nat.le_of_ble_eq_true rfl), (Nat.le_of_ble_eq_true rfl)⟩) (pz_preV (C := ("Sourcewright$Machine", TX4, 10)) hK hP hD hS hA hE 0 (ci := 4) rfl rfl [0, 1, 2] rfl rfl) rfl rfl hl.1 rfl (lv_room (Nat.le_of_ble_eq_true rfl)) dX4_go_1 ⟨(Nat.le_of_ble_eq_true rfl), (Nat.le_of_ble_eq_true rfl)⟩) hP hD hS hA [0, 1, 2] [3, 4] rfl rfl rfl (by decide) (fun u H locs hP hD hS => ?_)
  have hP : va_P G.1 pz_cl [(a1, .inr (2, [.ref a8, .ref a5, .int 2])), (a5, .inl (G.2 0, 240, .inl (upd (upd (fun _ => 0) 0 8) 1 13))), (a0, .inr (4, [.ref a3, .ref a4, .ref a6, .ref a7, .int 0, .int 0, .int 0, .int 0, .int 0, .int 0])), (a3, .inl (G.2 0, 4, .inl (upd (upd (upd (upd (f0) 0 0) 1 0) 2 0) 3 0))), (a4, .inl (G.2 0, 8, .inl (upd (upd (upd (upd (upd (upd (upd (upd (f1) 0 0) 1 0) 2 0) 3 0) 4 0) 5 0) 6 0) 7 0)))] H := hP
  have hD : va_D A [(a1, .inr (2, [.ref a8, .ref a5, .int 2])), (a5, .inl (G.2 0, 240, .inl (upd (upd (fun _ => 0) 0 8) 1 13))), (a0, .inr (4, [.ref a3, .ref a4, .ref a6, .ref a7, .int 0, .int 0, .int 0, .int 0, .int 0, .int 0])), (a3, .inl (G.2 0, 4, .inl (upd (upd (upd (upd (f0) 0 0) 1 0) 2 0) 3 0))), (a4, .inl (G.2 0, 8, .inl (upd (upd (upd (upd (upd (upd (upd (upd (f1) 0 0) 1 0) 2 0) 3 0) 4 0) 5 0) 6 0) 7 0)))] := hD
  refine W.eq (g2 := F0 m 4 ls []) rfl ?_
  refine lv_bipush (v := 32) hx hb dX4_go_4 (by decide) ?_
  refine lv_istore (lv' := [(5, .int 32), (0, .ref a0), (1, .ref a1), (2, .ref a2), (3, .int 0), (4, .int 0)]) hx hb dX4_go_6 hl (by decide) rfl (fun ls hl => ?_)
  refine lv_iconst (v := 0) hx hb dX4_go_8 (by decide) ?_
  refine lv_istore (lv' := [(6, .int 0), (5, .int 32), (0, .ref a0), (1, .ref a1), (2, .ref a2), (3, .int 0), (4, .int 0)]) hx hb dX4_go_9 hl (by decide) rfl (fun ls hl => ?_)
  refine lv_iload hx hb dX4_go_11 (lv_at hl 0 rfl) ?_
  refine lv_iload hx hb dX4_go_13 (lv_at hl 6 rfl) ?_
  refine lv_icmp_gt (tgt := 121) hx hb dX4_go_15 (by decide) (fun hc => absurd hc (by decide)) (fun _ => ?_)
  refine lv_iload hx hb dX4_go_18 (lv_at hl 1 rfl) ?_
  refine lv_bipush (v := 32) hx hb dX4_go_20 (by decide) ?_
  refine lv_icmp_ne (tgt := 121) hx hb dX4_go_22 (by decide) (fun hc => absurd hc (by decide)) (fun _ => ?_)
  refine lv_aload_n hx hb dX4_go_25 rfl (lv_at hl 3 rfl) ?_
  refine lv_aload_n hx hb dX4_go_26 rfl (lv_at hl 2 rfl) ?_
  refine va_get (D := G.1) (ci := 4) (v := .int 0) (C := "Sourcewright$Machine") (T := TX4) (N := 10) hx hb hts inX4 hown hK hP 2 rfl rfl 9 (by decide) (hts _ wq_421) (fun _ h9 => h9) rfl dX4_go_27 ?_
  refine pz_go (wr := [(a0, .inr (4, [.ref a3, .ref a4, .ref a6, .ref a7, .int 0, .int 0, .int 0, .int 0, .int 0, .int 0])), (a3, .inl (G.2 0, 4, .inl (upd (upd (upd (upd (f0) 0 0) 1 0) 2 0) 3 0))), (a4, .inl (G.2 0, 8, .inl (upd (upd (upd (upd (upd (upd (upd (upd (f1) 0 0) 1 0) 2 0) 3 0) 4 0) 5 0) 6 0) 7 0)))]) (vx_runV (C := "Sourcewright$Code") (As := [.int 0]) (rest := []) ⟨hx, hb, hml, hown, hts⟩ (cX2_op_1 l hst G X H.size a1 a5 a8) (cwV 1 hts (pz_gV wq_1208 wq_574 wq_575 wq_2 wq_576) rfl rfl rfl (by decide +kernel) ⟨(Nat.le_of_ble_eq_true rfl), (Nat.le_of_ble_eq_true rfl)⟩) (pz_preV (C := ("Sourcewright$Code", TX2, 3)) hK hP hD hS hA hE 0 (ci := 2) rfl rfl [0, 1] rfl rfl) rfl rfl hl.1 rfl (lv_room (Nat.le_of_ble_eq_true rfl)) dX4_go_30 ⟨(Nat.le_of_ble_eq_true rfl), (Nat.le_of_ble_eq_true rfl)⟩) hP hD hS hA [0, 1] [2, 3, 4] rfl rfl rfl (by decide) (fun u H locs hP hD hS => ?_)
  have hP : va_P G.1 pz_cl [(a0, .inr (4, [.ref a3, .ref a4, .ref a6, .ref a7, .int 0, .int 0, .int 0, .int 0, .int 0, .int 0])), (a3, .inl (G.2 0, 4, .inl (upd (upd (upd (upd (f0) 0 0) 1 0) 2 0) 3 0))), (a4, .inl (G.2 0, 8, .inl (upd (upd (upd (upd (upd (upd (upd (upd (f1) 0 0) 1 0) 2 0) 3 0) 4 0) 5 0) 6 0) 7 0))), (a1, .inr (2, [.ref a8, .ref a5, .int 2])), (a5, .inl (G.2 0, 240, .inl (upd (upd (fun _ => 0) 0 8) 1 13)))] H := hP
  have hD : va_D A [(a0, .inr (4, [.ref a3, .ref a4, .ref a6, .ref a7, .int 0, .int 0, .int 0, .int 0, .int 0, .int 0])), (a3, .inl (G.2 0, 4, .inl (upd (upd (upd (upd (f0) 0 0) 1 0) 2 0) 3 0))), (a4, .inl (G.2 0, 8, .inl (upd (upd (upd (upd (upd (upd (upd (upd (f1) 0 0) 1 0) 2 0) 3 0) 4 0) 5 0) 6 0) 7 0))), (a1, .inr (2, [.ref a8, .ref a5, .int 2])), (a5, .inl (G.2 0, 240, .inl (upd (upd (fun _ => 0) 0 8) 1 13)))] := hD
  refine W.eq (g2 := F0 m 33 ls [.int 8]) rfl ?_
  refine lv_istore (lv' := [(7, .int 8), (6, .int 0), (5, .int 32), (0, .ref a0), (1, .ref a1), (2, .ref a2), (3, .int 0), (4, .int 0)]) hx hb dX4_go_33 hl (by decide) rfl (fun ls hl => ?_)
  refine lv_iload hx hb dX4_go_35 (lv_at hl 0 rfl) ?_
  refine lv_bipush (v := 18) hx hb dX4_go_37 (by decide) ?_
  refine lv_icmp_ne (tgt := 49) hx hb dX4_go_39 (by decide) (fun _ => ?_) (fun hc => absurd hc (by decide))
  refine lv_iload hx hb dX4_go_49 (lv_at hl 0 rfl) ?_
  refine lv_bipush (v := 13) hx hb dX4_go_51 (by decide) ?_
  refine lv_icmp_ne (tgt := 63) hx hb dX4_go_53 (by decide) (fun _ => ?_) (fun hc => absurd hc (by decide))
  refine lv_aload_n hx hb dX4_go_63 rfl (lv_at hl 3 rfl) ?_
  refine va_get (D := G.1) (ci := 4) (v := .int 0) (C := "Sourcewright$Machine") (T := TX4) (N := 10) hx hb hts inX4 hown hK hP 0 rfl rfl 6 (by decide) (hts _ wq_418) (fun _ h9 => h9) rfl dX4_go_64 ?_
  refine lv_iload hx hb dX4_go_67 (lv_at hl 7 rfl) ?_
  refine lv_icmp_lt (tgt := 79) hx hb dX4_go_69 (by decide) (fun hc => absurd hc (by decide)) (fun _ => ?_)
  refine lv_bipush (v := 115) hx hb dX4_go_72 (by decide) ?_
  refine lv_istore (lv' := [(5, .int 115), (7, .int 8), (6, .int 0), (0, .ref a0), (1, .ref a1), (2, .ref a2), (3, .int 0), (4, .int 0)]) hx hb dX4_go_74 hl (by decide) rfl (fun ls hl => ?_)
  refine lv_goto (tgt := 115) hx hb dX4_go_76 (by decide) ?_
  refine lv_iinc (v := 1) (lv' := [(6, .int 1), (5, .int 115), (7, .int 8), (0, .ref a0), (1, .ref a1), (2, .ref a2), (3, .int 0), (4, .int 0)]) hx hb dX4_go_115 hl (k := 2) rfl (by decide) (by decide) rfl (fun ls hl => ?_)
  refine lv_goto (tgt := 11) hx hb dX4_go_118 (by decide) ?_
  refine lv_iload hx hb dX4_go_11 (lv_at hl 0 rfl) ?_
  refine lv_iload hx hb dX4_go_13 (lv_at hl 7 rfl) ?_
  refine lv_icmp_gt (tgt := 121) hx hb dX4_go_15 (by decide) (fun _ => ?_) (fun hc => absurd hc (by decide))
  refine lv_iload hx hb dX4_go_121 (lv_at hl 1 rfl) ?_
  exact pz_rz hx hb hr hlocks (by decide +kernel) hS (Nat.le_of_ble_eq_true rfl) (Nat.le_of_ble_eq_true rfl) dX4_go_123 () rfl (hP.sub [0, 1, 2, 3, 4] rfl) (hD.sub [0, 1, 2, 3, 4] rfl rfl)
set_option maxHeartbeats 4000000 in
set_option maxRecDepth 100000 in
theorem cX11_run_2 (l : Launch) (hst : l.stackTraces = false) (G : pz_G) (X : Nat → Nat) (sz : Nat) (a0 : Nat) (a1 : Nat) (a2 : Nat) (a3 : Nat) (a4 : Nat) (a5 : Nat) (a6 : Nat) (a7 : Nat) (a8 : Nat) (a9 : Nat) (a10 : Nat) (a11 : Nat) (a12 : Nat) (a13 : Nat) (a14 : Nat) (a15 : Nat) (a16 : Nat) (a17 : Nat) (a18 : Nat) (a19 : Nat) (a20 : Nat) (a21 : Nat) (a22 : Nat) (a23 : Nat) (a24 : Nat) (a25 : Nat) (a26 : Nat) (a27 : Nat) (a28 : Nat) (a29 : Nat) (a30 : Nat) (f0 : Nat → Int64) (f1 : Nat → Int64) (f2 : Nat → Int32) (a31 : Nat) (a32 : Nat) (a33 : Nat) (a34 : Nat) (a35 : Nat) (a36 : Nat) (a37 : Nat) (f3 : Nat → Int32) (a38 : Nat) (a39 : Nat) (f4 : Nat → Int32) (f5 : Nat → Int32) : pz_MR (S := (Nat → Int32)) l yX11_run (pz_cd yX11_run cX11_run 3 (some .char)) 5 108 0 0 G X sz [(a0, .inr (11, [.ref a1, .ref a16, .int 0, .ref a17, .int 0, .int 0, .ref a2, .ref a18, .ref a19, .ref a6, .ref a20, .ref a8, .ref a21, .ref a13, .ref a22, .ref a23, .int 0, .int (-1), .int (-1), .int 0])), (a1, .inr (2, [.ref a24, .ref a25, .int 0])), (a2, .inr (5, [.ref a1, .ref a3, .ref a26, .ref a27, .ref a28, .ref a29, .ref a30, .int 0, .int 0, .int 0])), (a3, .inr (7, [.ref a4, .ref a5])), (a4, .inl (G.2 2, 121, .inr (.inl (f0)))), (a5, .inl (G.2 2, 121, .inr (.inl (f1)))), (a6, .inr (3, [.ref a1, .ref a2, .ref a7])), (a7, .inl (G.2 0, 120, .inl (f2))), (a8, .inr (1, [.ref a1, .ref a18, .ref a6, .ref a31, .ref a10, .ref a32, .ref a33, .ref a34, .ref a35, .ref a36, .ref a37, .ref a9, .int 0, .int 0, .int 0, .int 0])), (a9, .inl (G.2 0, 120, .inl (f3))), (a10, .inr (2, [.ref a11, .ref a12, .int 0])), (a11, .inl (G.2 0, 240, .inl (fun _ => 0))), (a12, .inl (G.2 0, 240, .inl (fun _ => 0))), (a13, .inr (4, [.ref a14, .ref a15, .ref a38, .ref a39, .int 0, .int 0, .int 0, .int 0, .int 0, .int 0])), (a14, .inl (G.2 0, 4, .inl (f4))), (a15, .inl (G.2 0, 8, .inl (f5)))] [.ref a0, .int 1, .int 0] (fun u => some (.int 115)) (fun u => [(a0, .inr (11, [.ref a1, .ref a16, .int 0, .ref a17, .int 0, .int 0, .ref a2, .ref a18, .ref a19, .ref a6, .ref a20, .ref a8, .ref a21, .ref a13, .ref a22, .ref a23, .int 1, .int (-1), .int (-1), .int 1])), (a1, .inr (2, [.ref a24, .ref a25, .int 0])), (a2, .inr (5, [.ref a1, .ref a3, .ref a26, .ref a27, .ref a28, .ref a29, .ref a30, .int 0, .int 0, .int 0])), (a3, .inr (7, [.ref a4, .ref a5])), (a4, .inl (G.2 2, 121, .inr (.inl (vp_updL (f0) 120 0)))), (a5, .inl (G.2 2, 121, .inr (.inl (vp_updL (f1) 120 0)))), (a6, .inr (3, [.ref a1, .ref a2, .ref a7])), (a7, .inl (G.2 0, 120, .inl (f2))), (a8, .inr (1, [.ref a1, .ref a18, .ref a6, .ref a31, .ref a10, .ref a32, .ref a33, .ref a34, .ref a35, .ref a36, .ref a37, .ref a9, .int 0, .int 0, .int 2, .int 0])), (a9, .inl (G.2 0, 120, .inl (upd (upd (upd (u) 117 255) 118 255) 119 255))), (a10, .inr (2, [.ref a11, .ref a12, .int 2])), (a11, .inl (G.2 0, 240, .inl (upd (upd (fun _ => 0) 0 128) 1 255))), (a12, .inl (G.2 0, 240, .inl (upd (upd (fun _ => 0) 0 8) 1 13))), (a13, .inr (4, [.ref a14, .ref a15, .ref a38, .ref a39, .int 0, .int 0, .int 0, .int 0, .int 0, .int 0])), (a14, .inl (G.2 0, 4, .inl (upd (upd (upd (upd (f4) 0 0) 1 0) 2 0) 3 0))), (a15, .inl (G.2 0, 8, .inl (upd (upd (upd (upd (upd (upd (upd (upd (f5) 0 0) 1 0) 2 0) 3 0) 4 0) 5 0) 6 0) 7 0)))]) := by
  refine pz_onR (by decide +kernel) (Nat.le_of_ble_eq_true rfl) ?_
  intro p e s m below meth c A hx hb hr hml hown hts hlocks hin hx0 hP hK hD hS hA hE ls hl
  have hown : s.vm.findClass "Sourcewright" = some m.cls := hown
  have hl : lv_has ls 3 [(0, .ref a0), (1, .int 1), (2, .int 0)] := hl
  refine lv_aload_n hx hb dX11_run_0 rfl (lv_at hl 0 rfl) ?_
  refine lv_iload_n hx hb dX11_run_1 rfl (lv_at hl 2 rfl) ?_
  refine pz_go (wr := [(a0, .inr (11, [.ref a1, .ref a16, .int 0, .ref a17, .int 0, .int 0, .ref a2, .ref a18, .ref a19, .ref a6, .ref a20, .ref a8, .ref a21, .ref a13, .ref a22, .ref a23, .int 0, .int (-1), .int (-1), .int 0])), (a1, .inr (2, [.ref a24, .ref a25, .int 0])), (a2, .inr (5, [.ref a1, .ref a3, .ref a26, .ref a27, .ref a28, .ref a29, .ref a30, .int 0, .int 0, .int 0])), (a3, .inr (7, [.ref a4, .ref a5])), (a4, .inl (G.2 2, 121, .inr (.inl (f0)))), (a5, .inl (G.2 2, 121, .inr (.inl (f1)))), (a6, .inr (3, [.ref a1, .ref a2, .ref a7])), (a7, .inl (G.2 0, 120, .inl (f2))), (a8, .inr (1, [.ref a1, .ref a18, .ref a6, .ref a31, .ref a10, .ref a32, .ref a33, .ref a34, .ref a35, .ref a36, .ref a37, .ref a9, .int 0, .int 0, .int 0, .int 0])), (a9, .inl (G.2 0, 120, .inl (f3))), (a10, .inr (2, [.ref a11, .ref a12, .int 0])), (a11, .inl (G.2 0, 240, .inl (fun _ => 0))), (a12, .inl (G.2 0, 240, .inl (fun _ => 0))), (a13, .inr (4, [.ref a14, .ref a15, .ref a38, .ref a39, .int 0, .int 0, .int 0, .int 0, .int 0, .int 0])), (a14, .inl (G.2 0, 4, .inl (f4))), (a15, .inl (G.2 0, 8, .inl (f5)))]) (vx_runV (C := "Sourcewright") (As := [.int 0]) (rest := []) ⟨hx, hb, hml, hown, hts⟩ (cX11_checkSteps_2 l hst G X s.heap.size a0) (cwV 1 hts (pz_gV wq_1707 wq_1709 wqs_81 wq_1 wq_1710) rfl rfl rfl (by decide +kernel) ⟨(Nat.le_of_ble_eq_true rfl), (Nat.le_of_ble_eq_true rfl)⟩) (pz_preV (C := ("Sourcewright", TX11, 20)) hK hP hD hS hA hE 0 (ci := 11) rfl rfl [] rfl rfl) rfl rfl hl.1 rfl (lv_room (Nat.le_of_ble_eq_true rfl)) dX11_run_2 ⟨(Nat.le_of_ble_eq_true rfl), (Nat.le_of_ble_eq_true rfl)⟩) hP hD hS hA [] [0, 1, 2, 3, 4, 5, 6, 7, 8, 9, 10, 11, 12, 13, 14, 15] rfl rfl rfl (by decide) (fun u H locs hP hD hS => ?_)
  have hP : va_P G.1 pz_cl [(a0, .inr (11, [.ref a1, .ref a16, .int 0, .ref a17, .int 0, .int 0, .ref a2, .ref a18, .ref a19, .ref a6, .ref a20, .ref a8, .ref a21, .ref a13, .ref a22, .ref a23, .int 0, .int (-1), .int (-1), .int 0])), (a1, .inr (2, [.ref a24, .ref a25, .int 0])), (a2, .inr (5, [.ref a1, .ref a3, .ref a26, .ref a27, .ref a28, .ref a29, .ref a30, .int 0, .int 0, .int 0])), (a3, .inr (7, [.ref a4, .ref a5])), (a4, .inl (G.2 2, 121, .inr (.inl (f0)))), (a5, .inl (G.2 2, 121, .inr (.inl (f1)))), (a6, .inr (3, [.ref a1, .ref a2, .ref a7])), (a7, .inl (G.2 0, 120, .inl (f2))), (a8, .inr (1, [.ref a1, .ref a18, .ref a6, .ref a31, .ref a10, .ref a32, .ref a33, .ref a34, .ref a35, .ref a36, .ref a37, .ref a9, .int 0, .int 0, .int 0, .int 0])), (a9, .inl (G.2 0, 120, .inl (f3))), (a10, .inr (2, [.ref a11, .ref a12, .int 0])), (a11, .inl (G.2 0, 240, .inl (fun _ => 0))), (a12, .inl (G.2 0, 240, .inl (fun _ => 0))), (a13, .inr (4, [.ref a14, .ref a15, .ref a38, .ref a39, .int 0, .int 0, .int 0, .int 0, .int 0, .int 0])), (a14, .inl (G.2 0, 4, .inl (f4))), (a15, .inl (G.2 0, 8, .inl (f5)))] H := hP
  have hD : va_D A [(a0, .inr (11, [.ref a1, .ref a16, .int 0, .ref a17, .int 0, .int 0, .ref a2, .ref a18, .ref a19, .ref a6, .ref a20, .ref a8, .ref a21, .ref a13, .ref a22, .ref a23, .int 0, .int (-1), .int (-1), .int 0])), (a1, .inr (2, [.ref a24, .ref a25, .int 0])), (a2, .inr (5, [.ref a1, .ref a3, .ref a26, .ref a27, .ref a28, .ref a29, .ref a30, .int 0, .int 0, .int 0])), (a3, .inr (7, [.ref a4, .ref a5])), (a4, .inl (G.2 2, 121, .inr (.inl (f0)))), (a5, .inl (G.2 2, 121, .inr (.inl (f1)))), (a6, .inr (3, [.ref a1, .ref a2, .ref a7])), (a7, .inl (G.2 0, 120, .inl (f2))), (a8, .inr (1, [.ref a1, .ref a18, .ref a6, .ref a31, .ref a10, .ref a32, .ref a33, .ref a34, .ref a35, .ref a36, .ref a37, .ref a9, .int 0, .int 0, .int 0, .int 0])), (a9, .inl (G.2 0, 120, .inl (f3))), (a10, .inr (2, [.ref a11, .ref a12, .int 0])), (a11, .inl (G.2 0, 240, .inl (fun _ => 0))), (a12, .inl (G.2 0, 240, .inl (fun _ => 0))), (a13, .inr (4, [.ref a14, .ref a15, .ref a38, .ref a39, .int 0, .int 0, .int 0, .int 0, .int 0, .int 0])), (a14, .inl (G.2 0, 4, .inl (f4))), (a15, .inl (G.2 0, 8, .inl (f5)))] := hD
  refine W.eq (g2 := F0 m 5 ls []) rfl ?_
  refine lv_aload_n hx hb dX11_run_5 rfl (lv_at hl 0 rfl) ?_
  refine pz_go (wr := [(a8, .inr (1, [.ref a1, .ref a18, .ref a6, .ref a31, .ref a10, .ref a32, .ref a33, .ref a34, .ref a35, .ref a36, .ref a37, .ref a9, .int 0, .int 0, .int 0, .int 0])), (a9, .inl (G.2 0, 120, .inl (f3))), (a10, .inr (2, [.ref a11, .ref a12, .int 0])), (a11, .inl (G.2 0, 240, .inl (fun _ => 0))), (a12, .inl (G.2 0, 240, .inl (fun _ => 0))), (a13, .inr (4, [.ref a14, .ref a15, .ref a38, .ref a39, .int 0, .int 0, .int 0, .int 0, .int 0, .int 0])), (a14, .inl (G.2 0, 4, .inl (f4))), (a15, .inl (G.2 0, 8, .inl (f5)))]) (vx_runV (C := "Sourcewright") (As := []) (rest := []) ⟨hx, hb, hml, hown, hts⟩ (cX11_read_1 l hst G X H.size a0 a1 a2 a3 a4 a5 a6 a7 a16 a17 a18 a19 a20 a8 a21 a13 a22 a23 a24 a25 a26 a27 a28 a29 a30 f0 f1 f2) (cwV 0 hts (pz_gV wq_527 wq_529 wqs_1 wq_1 wq_530) rfl rfl rfl (by decide +kernel) ⟨(Nat.le_of_ble_eq_true rfl), (Nat.le_of_ble_eq_true rfl)⟩) (pz_preV (C := ("Sourcewright", TX11, 20)) hK hP hD hS hA hE 0 (ci := 11) rfl rfl [0, 1, 2, 3, 4, 5, 6, 7] rfl rfl) rfl rfl hl.1 rfl (lv_room (Nat.le_of_ble_eq_true rfl)) dX11_run_6 ⟨(Nat.le_of_ble_eq_true rfl), (Nat.le_of_ble_eq_true rfl)⟩) hP hD hS hA [0, 1, 2, 3, 4, 5, 6, 7] [8, 9, 10, 11, 12, 13, 14, 15] rfl rfl rfl (by decide) (fun u H locs hP hD hS => ?_)
  have hP : va_P G.1 pz_cl [(a8, .inr (1, [.ref a1, .ref a18, .ref a6, .ref a31, .ref a10, .ref a32, .ref a33, .ref a34, .ref a35, .ref a36, .ref a37, .ref a9, .int 0, .int 0, .int 0, .int 0])), (a9, .inl (G.2 0, 120, .inl (f3))), (a10, .inr (2, [.ref a11, .ref a12, .int 0])), (a11, .inl (G.2 0, 240, .inl (fun _ => 0))), (a12, .inl (G.2 0, 240, .inl (fun _ => 0))), (a13, .inr (4, [.ref a14, .ref a15, .ref a38, .ref a39, .int 0, .int 0, .int 0, .int 0, .int 0, .int 0])), (a14, .inl (G.2 0, 4, .inl (f4))), (a15, .inl (G.2 0, 8, .inl (f5))), (a0, .inr (11, [.ref a1, .ref a16, .int 0, .ref a17, .int 0, .int 0, .ref a2, .ref a18, .ref a19, .ref a6, .ref a20, .ref a8, .ref a21, .ref a13, .ref a22, .ref a23, .int 1, .int (-1), .int (-1), .int 0])), (a1, .inr (2, [.ref a24, .ref a25, .int 0])), (a2, .inr (5, [.ref a1, .ref a3, .ref a26, .ref a27, .ref a28, .ref a29, .ref a30, .int 0, .int 0, .int 0])), (a3, .inr (7, [.ref a4, .ref a5])), (a4, .inl (G.2 2, 121, .inr (.inl (vp_updL (f0) 120 0)))), (a5, .inl (G.2 2, 121, .inr (.inl (vp_updL (f1) 120 0)))), (a6, .inr (3, [.ref a1, .ref a2, .ref a7])), (a7, .inl (G.2 0, 120, .inl (f2)))] H := hP
  have hD : va_D A [(a8, .inr (1, [.ref a1, .ref a18, .ref a6, .ref a31, .ref a10, .ref a32, .ref a33, .ref a34, .ref a35, .ref a36, .ref a37, .ref a9, .int 0, .int 0, .int 0, .int 0])), (a9, .inl (G.2 0, 120, .inl (f3))), (a10, .inr (2, [.ref a11, .ref a12, .int 0])), (a11, .inl (G.2 0, 240, .inl (fun _ => 0))), (a12, .inl (G.2 0, 240, .inl (fun _ => 0))), (a13, .inr (4, [.ref a14, .ref a15, .ref a38, .ref a39, .int 0, .int 0, .int 0, .int 0, .int 0, .int 0])), (a14, .inl (G.2 0, 4, .inl (f4))), (a15, .inl (G.2 0, 8, .inl (f5))), (a0, .inr (11, [.ref a1, .ref a16, .int 0, .ref a17, .int 0, .int 0, .ref a2, .ref a18, .ref a19, .ref a6, .ref a20, .ref a8, .ref a21, .ref a13, .ref a22, .ref a23, .int 1, .int (-1), .int (-1), .int 0])), (a1, .inr (2, [.ref a24, .ref a25, .int 0])), (a2, .inr (5, [.ref a1, .ref a3, .ref a26, .ref a27, .ref a28, .ref a29, .ref a30, .int 0, .int 0, .int 0])), (a3, .inr (7, [.ref a4, .ref a5])), (a4, .inl (G.2 2, 121, .inr (.inl (vp_updL (f0) 120 0)))), (a5, .inl (G.2 2, 121, .inr (.inl (vp_updL (f1) 120 0)))), (a6, .inr (3, [.ref a1, .ref a2, .ref a7])), (a7, .inl (G.2 0, 120, .inl (f2)))] := hD
  refine W.eq (g2 := F0 m 9 ls []) rfl ?_
  refine lv_iload_n hx hb dX11_run_9 rfl (lv_at hl 1 rfl) ?_
  refine lv_if_ne (tgt := 34) hx hb dX11_run_10 (by decide) (fun _ => ?_) (fun hc => absurd hc (by decide))
  refine lv_aload_n hx hb dX11_run_34 rfl (lv_at hl 0 rfl) ?_
  refine pz_go (wr := [(a13, .inr (4, [.ref a14, .ref a15, .ref a38, .ref a39, .int 0, .int 0, .int 0, .int 0, .int 0, .int 0])), (a14, .inl (G.2 0, 4, .inl (f4))), (a15, .inl (G.2 0, 8, .inl (f5))), (a1, .inr (2, [.ref a24, .ref a25, .int 0])), (a3, .inr (7, [.ref a4, .ref a5])), (a4, .inl (G.2 2, 121, .inr (.inl (vp_updL (f0) 120 0)))), (a5, .inl (G.2 2, 121, .inr (.inl (vp_updL (f1) 120 0)))), (a6, .inr (3, [.ref a1, .ref a2, .ref a7])), (a7, .inl (G.2 0, 120, .inl (f2)))]) (vx_runV (C := "Sourcewright") (As := []) (rest := []) ⟨hx, hb, hml, hown, hts⟩ (cX11_build_1 l hst G X H.size a0 a2 a8 a9 a10 a11 a12 a1 a16 a17 a18 a19 a6 a20 a21 a13 a22 a23 a3 a26 a27 a28 a29 a30 a31 a32 a33 a34 a35 a36 a37 f3 (fun _ => 0)) (cwV 0 hts (pz_gV wq_1132 wq_1134 wqs_58 wq_1 wq_1135) rfl rfl rfl (by decide +kernel) ⟨(Nat.le_of_ble_eq_true rfl), (Nat.le_of_ble_eq_true rfl)⟩) (pz_preV (C := ("Sourcewright", TX11, 20)) hK hP hD hS hA hE 8 (ci := 11) rfl rfl [8, 10, 0, 1, 2, 3, 4] rfl rfl) rfl rfl hl.1 rfl (lv_room (Nat.le_of_ble_eq_true rfl)) dX11_run_35 ⟨(Nat.le_of_ble_eq_true rfl), (Nat.le_of_ble_eq_true rfl)⟩) hP hD hS hA [8, 10, 0, 1, 2, 3, 4] [5, 6, 7, 9, 11, 12, 13, 14, 15] rfl rfl rfl (by decide) (fun g1 H locs hP hD hS => ?_)
  have hP : va_P G.1 pz_cl [(a13, .inr (4, [.ref a14, .ref a15, .ref a38, .ref a39, .int 0, .int 0, .int 0, .int 0, .int 0, .int 0])), (a14, .inl (G.2 0, 4, .inl (f4))), (a15, .inl (G.2 0, 8, .inl (f5))), (a1, .inr (2, [.ref a24, .ref a25, .int 0])), (a3, .inr (7, [.ref a4, .ref a5])), (a4, .inl (G.2 2, 121, .inr (.inl (vp_updL (f0) 120 0)))), (a5, .inl (G.2 2, 121, .inr (.inl (vp_updL (f1) 120 0)))), (a6, .inr (3, [.ref a1, .ref a2, .ref a7])), (a7, .inl (G.2 0, 120, .inl (f2))), (a0, .inr (11, [.ref a1, .ref a16, .int 0, .ref a17, .int 0, .int 0, .ref a2, .ref a18, .ref a19, .ref a6, .ref a20, .ref a8, .ref a21, .ref a13, .ref a22, .ref a23, .int 1, .int (-1), .int (-1), .int 1])), (a2, .inr (5, [.ref a1, .ref a3, .ref a26, .ref a27, .ref a28, .ref a29, .ref a30, .int 0, .int 0, .int 0])), (a8, .inr (1, [.ref a1, .ref a18, .ref a6, .ref a31, .ref a10, .ref a32, .ref a33, .ref a34, .ref a35, .ref a36, .ref a37, .ref a9, .int 0, .int 0, .int 2, .int 0])), (a9, .inl (G.2 0, 120, .inl (upd (upd (upd (g1) 117 255) 118 255) 119 255))), (a10, .inr (2, [.ref a11, .ref a12, .int 2])), (a11, .inl (G.2 0, 240, .inl (upd (upd (fun _ => 0) 0 128) 1 255))), (a12, .inl (G.2 0, 240, .inl (upd (upd (fun _ => 0) 0 8) 1 13)))] H := hP
  have hD : va_D A [(a13, .inr (4, [.ref a14, .ref a15, .ref a38, .ref a39, .int 0, .int 0, .int 0, .int 0, .int 0, .int 0])), (a14, .inl (G.2 0, 4, .inl (f4))), (a15, .inl (G.2 0, 8, .inl (f5))), (a1, .inr (2, [.ref a24, .ref a25, .int 0])), (a3, .inr (7, [.ref a4, .ref a5])), (a4, .inl (G.2 2, 121, .inr (.inl (vp_updL (f0) 120 0)))), (a5, .inl (G.2 2, 121, .inr (.inl (vp_updL (f1) 120 0)))), (a6, .inr (3, [.ref a1, .ref a2, .ref a7])), (a7, .inl (G.2 0, 120, .inl (f2))), (a0, .inr (11, [.ref a1, .ref a16, .int 0, .ref a17, .int 0, .int 0, .ref a2, .ref a18, .ref a19, .ref a6, .ref a20, .ref a8, .ref a21, .ref a13, .ref a22, .ref a23, .int 1, .int (-1), .int (-1), .int 1])), (a2, .inr (5, [.ref a1, .ref a3, .ref a26, .ref a27, .ref a28, .ref a29, .ref a30, .int 0, .int 0, .int 0])), (a8, .inr (1, [.ref a1, .ref a18, .ref a6, .ref a31, .ref a10, .ref a32, .ref a33, .ref a34, .ref a35, .ref a36, .ref a37, .ref a9, .int 0, .int 0, .int 2, .int 0])), (a9, .inl (G.2 0, 120, .inl (upd (upd (upd (g1) 117 255) 118 255) 119 255))), (a10, .inr (2, [.ref a11, .ref a12, .int 2])), (a11, .inl (G.2 0, 240, .inl (upd (upd (fun _ => 0) 0 128) 1 255))), (a12, .inl (G.2 0, 240, .inl (upd (upd (fun _ => 0) 0 8) 1 13)))] := hD
  refine W.eq (g2 := F0 m 38 ls []) rfl ?_
  refine lv_aload_n hx hb dX11_run_38 rfl (lv_at hl 0 rfl) ?_
  refine pz_go (wr := [(a13, .inr (4, [.ref a14, .ref a15, .ref a38, .ref a39, .int 0, .int 0, .int 0, .int 0, .int 0, .int 0])), (a14, .inl (G.2 0, 4, .inl (f4))), (a15, .inl (G.2 0, 8, .inl (f5))), (a1, .inr (2, [.ref a24, .ref a25, .int 0])), (a3, .inr (7, [.ref a4, .ref a5])), (a4, .inl (G.2 2, 121, .inr (.inl (vp_updL (f0) 120 0)))), (a5, .inl (G.2 2, 121, .inr (.inl (vp_updL (f1) 120 0)))), (a6, .inr (3, [.ref a1, .ref a2, .ref a7])), (a7, .inl (G.2 0, 120, .inl (f2))), (a2, .inr (5, [.ref a1, .ref a3, .ref a26, .ref a27, .ref a28, .ref a29, .ref a30, .int 0, .int 0, .int 0])), (a9, .inl (G.2 0, 120, .inl (upd (upd (upd (g1) 117 255) 118 255) 119 255))), (a10, .inr (2, [.ref a11, .ref a12, .int 2])), (a11, .inl (G.2 0, 240, .inl (upd (upd (fun _ => 0) 0 128) 1 255))), (a12, .inl (G.2 0, 240, .inl (upd (upd (fun _ => 0) 0 8) 1 13)))]) (vx_runV (C := "Sourcewright") (As := []) (rest := []) ⟨hx, hb, hml, hown, hts⟩ (cX11_checkCompiled_1 l hst G X H.size a0 a8 a1 a16 a17 a2 a18 a19 a6 a20 a21 a13 a22 a23 a31 a10 a32 a33 a34 a35 a36 a37 a9) (cwV 0 hts (pz_gV wq_1680 wq_1682 wqs_80 wq_1 wq_1683) rfl rfl rfl (by decide +kernel) ⟨(Nat.le_of_ble_eq_true rfl), (Nat.le_of_ble_eq_true rfl)⟩) (pz_preV (C := ("Sourcewright", TX11, 20)) hK hP hD hS hA hE 9 (ci := 11) rfl rfl [9, 11] rfl rfl) rfl rfl hl.1 rfl (lv_room (Nat.le_of_ble_eq_true rfl)) dX11_run_39 ⟨(Nat.le_of_ble_eq_true rfl), (Nat.le_of_ble_eq_true rfl)⟩) hP hD hS hA [9, 11] [0, 1, 2, 3, 4, 5, 6, 7, 8, 10, 12, 13, 14, 15] rfl rfl rfl (by decide) (fun u H locs hP hD hS => ?_)
  have hP : va_P G.1 pz_cl [(a13, .inr (4, [.ref a14, .ref a15, .ref a38, .ref a39, .int 0, .int 0, .int 0, .int 0, .int 0, .int 0])), (a14, .inl (G.2 0, 4, .inl (f4))), (a15, .inl (G.2 0, 8, .inl (f5))), (a1, .inr (2, [.ref a24, .ref a25, .int 0])), (a3, .inr (7, [.ref a4, .ref a5])), (a4, .inl (G.2 2, 121, .inr (.inl (vp_updL (f0) 120 0)))), (a5, .inl (G.2 2, 121, .inr (.inl (vp_updL (f1) 120 0)))), (a6, .inr (3, [.ref a1, .ref a2, .ref a7])), (a7, .inl (G.2 0, 120, .inl (f2))), (a2, .inr (5, [.ref a1, .ref a3, .ref a26, .ref a27, .ref a28, .ref a29, .ref a30, .int 0, .int 0, .int 0])), (a9, .inl (G.2 0, 120, .inl (upd (upd (upd (g1) 117 255) 118 255) 119 255))), (a10, .inr (2, [.ref a11, .ref a12, .int 2])), (a11, .inl (G.2 0, 240, .inl (upd (upd (fun _ => 0) 0 128) 1 255))), (a12, .inl (G.2 0, 240, .inl (upd (upd (fun _ => 0) 0 8) 1 13))), (a0, .inr (11, [.ref a1, .ref a16, .int 0, .ref a17, .int 0, .int 0, .ref a2, .ref a18, .ref a19, .ref a6, .ref a20, .ref a8, .ref a21, .ref a13, .ref a22, .ref a23, .int 1, .int (-1), .int (-1), .int 1])), (a8, .inr (1, [.ref a1, .ref a18, .ref a6, .ref a31, .ref a10, .ref a32, .ref a33, .ref a34, .ref a35, .ref a36, .ref a37, .ref a9, .int 0, .int 0, .int 2, .int 0]))] H := hP
  have hD : va_D A [(a13, .inr (4, [.ref a14, .ref a15, .ref a38, .ref a39, .int 0, .int 0, .int 0, .int 0, .int 0, .int 0])), (a14, .inl (G.2 0, 4, .inl (f4))), (a15, .inl (G.2 0, 8, .inl (f5))), (a1, .inr (2, [.ref a24, .ref a25, .int 0])), (a3, .inr (7, [.ref a4, .ref a5])), (a4, .inl (G.2 2, 121, .inr (.inl (vp_updL (f0) 120 0)))), (a5, .inl (G.2 2, 121, .inr (.inl (vp_updL (f1) 120 0)))), (a6, .inr (3, [.ref a1, .ref a2, .ref a7])), (a7, .inl (G.2 0, 120, .inl (f2))), (a2, .inr (5, [.ref a1, .ref a3, .ref a26, .ref a27, .ref a28, .ref a29, .ref a30, .int 0, .int 0, .int 0])), (a9, .inl (G.2 0, 120, .inl (upd (upd (upd (g1) 117 255) 118 255) 119 255))), (a10, .inr (2, [.ref a11, .ref a12, .int 2])), (a11, .inl (G.2 0, 240, .inl (upd (upd (fun _ => 0) 0 128) 1 255))), (a12, .inl (G.2 0, 240, .inl (upd (upd (fun _ => 0) 0 8) 1 13))), (a0, .inr (11, [.ref a1, .ref a16, .int 0, .ref a17, .int 0, .int 0, .ref a2, .ref a18, .ref a19, .ref a6, .ref a20, .ref a8, .ref a21, .ref a13, .ref a22, .ref a23, .int 1, .int (-1), .int (-1), .int 1])), (a8, .inr (1, [.ref a1, .ref a18, .ref a6, .ref a31, .ref a10, .ref a32, .ref a33, .ref a34, .ref a35, .ref a36, .ref a37, .ref a9, .int 0, .int 0, .int 2, .int 0]))] := hD
  refine W.eq (g2 := F0 m 42 ls []) rfl ?_
  refine lv_aload_n hx hb dX11_run_42 rfl (lv_at hl 0 rfl) ?_
  refine va_get (D := G.1) (ci := 11) (v := .ref a13) (C := "Sourcewright") (T := TX11) (N := 20) hx hb hts inX11 hown hK hP 14 rfl rfl 13 (by decide) (hts _ wq_456) (fun _ h9 => h9) rfl dX11_run_43 ?_
  refine lv_aload_n hx hb dX11_run_46 rfl (lv_at hl 0 rfl) ?_
  refine va_get (D := G.1) (ci := 11) (v := .ref a8) (C := "Sourcewright") (T := TX11) (N := 20) hx hb hts inX11 hown hK hP 14 rfl rfl 11 (by decide) (hts _ wq_454) (fun _ h9 => h9) rfl dX11_run_47 ?_
  refine pz_go (wr := [(a13, .inr (4, [.ref a14, .ref a15, .ref a38, .ref a39, .int 0, .int 0, .int 0, .int 0, .int 0, .int 0])), (a14, .inl (G.2 0, 4, .inl (f4))), (a15, .inl (G.2 0, 8, .inl (f5))), (a1, .inr (2, [.ref a24, .ref a25, .int 0])), (a3, .inr (7, [.ref a4, .ref a5])), (a4, .inl (G.2 2, 121, .inr (.inl (vp_updL (f0) 120 0)))), (a5, .inl (G.2 2, 121, .inr (.inl (vp_updL (f1) 120 0)))), (a6, .inr (3, [.ref a1, .ref a2, .ref a7])), (a7, .inl (G.2 0, 120, .inl (f2))), (a2, .inr (5, [.ref a1, .ref a3, .ref a26, .ref a27, .ref a28, .ref a29, .ref a30, .int 0, .int 0, .int 0])), (a9, .inl (G.2 0, 120, .inl (upd (upd (upd (g1) 117 255) 118 255) 119 255))), (a10, .inr (2, [.ref a11, .ref a12, .int 2])), (a11, .inl (G.2 0, 240, .inl (upd (upd (fun _ => 0) 0 128) 1 255))), (a12, .inl (G.2 0, 240, .inl (upd (upd (fun _ => 0) 0 8) 1 13))), (a0, .inr (11, [.ref a1, .ref a16, .int 0, .ref a17, .int 0, .int 0, .ref a2, .ref a18, .ref a19, .ref a6, .ref a20, .ref a8, .ref a21, .ref a13, .ref a22, .ref a23, .int 1, .int (-1), .int (-1), .int 1]))]) (vx_runV (C := "Sourcewright$Builder") (As := []) (rest := [.ref a13]) ⟨hx, hb, hml, hown, hts⟩ (cX1_result_1 l hst G X H.size a8 a1 a18 a6 a31 a10 a32 a33 a34 a35 a36 a37 a9) (cwV 0 hts (pz_gV wq_1244 wq_1245 wq_1246 wq_10 wq_1247) rfl rfl rfl (by decide +kernel) ⟨(Nat.le_of_ble_eq_true rfl), (Nat.le_of_ble_eq_true rfl)⟩) (pz_preV (C := ("Sourcewright$Builder", TX1, 16)) hK hP hD hS hA hE 15 (ci := 1) rfl rfl [15] rfl rfl) rfl rfl hl.1 rfl (lv_room (Nat.le_of_ble_eq_true rfl)) dX11_run_50 ⟨(Nat.le_of_ble_eq_true rfl), (Nat.le_of_ble_eq_true rfl)⟩) hP hD hS hA [15] [0, 1, 2, 3, 4, 5, 6, 7, 8, 9, 10, 11, 12, 13, 14] rfl rfl rfl (by decide) (fun u H locs hP hD hS => ?_)
  have hP : va_P G.1 pz_cl [(a13, .inr (4, [.ref a14, .ref a15, .ref a38, .ref a39, .int 0, .int 0, .int 0, .int 0, .int 0, .int 0])), (a14, .inl (G.2 0, 4, .inl (f4))), (a15, .inl (G.2 0, 8, .inl (f5))), (a1, .inr (2, [.ref a24, .ref a25, .int 0])), (a3, .inr (7, [.ref a4, .ref a5])), (a4, .inl (G.2 2, 121, .inr (.inl (vp_updL (f0) 120 0)))), (a5, .inl (G.2 2, 121, .inr (.inl (vp_updL (f1) 120 0)))), (a6, .inr (3, [.ref a1, .ref a2, .ref a7])), (a7, .inl (G.2 0, 120, .inl (f2))), (a2, .inr (5, [.ref a1, .ref a3, .ref a26, .ref a27, .ref a28, .ref a29, .ref a30, .int 0, .int 0, .int 0])), (a9, .inl (G.2 0, 120, .inl (upd (upd (upd (g1) 117 255) 118 255) 119 255))), (a10, .inr (2, [.ref a11, .ref a12, .int 2])), (a11, .inl (G.2 0, 240, .inl (upd (upd (fun _ => 0) 0 128) 1 255))), (a12, .inl (G.2 0, 240, .inl (upd (upd (fun _ => 0) 0 8) 1 13))), (a0, .inr (11, [.ref a1, .ref a16, .int 0, .ref a17, .int 0, .int 0, .ref a2, .ref a18, .ref a19, .ref a6, .ref a20, .ref a8, .ref a21, .ref a13, .ref a22, .ref a23, .int 1, .int (-1), .int (-1), .int 1])), (a8, .inr (1, [.ref a1, .ref a18, .ref a6, .ref a31, .ref a10, .ref a32, .ref a33, .ref a34, .ref a35, .ref a36, .ref a37, .ref a9, .int 0, .int 0, .int 2, .int 0]))] H := hP
  have hD : va_D A [(a13, .inr (4, [.ref a14, .ref a15, .ref a38, .ref a39, .int 0, .int 0, .int 0, .int 0, .int 0, .int 0])), (a14, .inl (G.2 0, 4, .inl (f4))), (a15, .inl (G.2 0, 8, .inl (f5))), (a1, .inr (2, [.ref a24, .ref a25, .int 0])), (a3, .inr (7, [.ref a4, .ref a5])), (a4, .inl (G.2 2, 121, .inr (.inl (vp_updL (f0) 120 0)))), (a5, .inl (G.2 2, 121, .inr (.inl (vp_updL (f1) 120 0)))), (a6, .inr (3, [.ref a1, .ref a2, .ref a7])), (a7, .inl (G.2 0, 120, .inl (f2))), (a2, .inr (5, [.ref a1, .ref a3, .ref a26, .ref a27, .ref a28, .ref a29, .ref a30, .int 0, .int 0, .int 0])), (a9, .inl (G.2 0, 120, .inl (upd (upd (upd (g1) 117 255) 118 255) 119 255))), (a10, .inr (2, [.ref a11, .ref a12, .int 2])), (a11, .inl (G.2 0, 240, .inl (upd (upd (fun _ => 0) 0 128) 1 255))), (a12, .inl (G.2 0, 240, .inl (upd (upd (fun _ => 0) 0 8) 1 13))), (a0, .inr (11, [.ref a1, .ref a16, .int 0, .ref a17, .int 0, .int 0, .ref a2, .ref a18, .ref a19, .ref a6, .ref a20, .ref a8, .ref a21, .ref a13, .ref a22, .ref a23, .int 1, .int (-1), .int (-1), .int 1])), (a8, .inr (1, [.ref a1, .ref a18, .ref a6, .ref a31, .ref a10, .ref a32, .ref a33, .ref a34, .ref a35, .ref a36, .ref a37, .ref a9, .int 0, .int 0, .int 2, .int 0]))] := hD
  refine W.eq (g2 := F0 m 53 ls [.ref a10, .ref a13]) rfl ?_
  refine lv_aload_n hx hb dX11_run_53 rfl (lv_at hl 0 rfl) ?_
  refine va_get (D := G.1) (ci := 11) (v := .ref a17) (C := "Sourcewright") (T := TX11) (N := 20) hx hb hts inX11 hown hK hP 14 rfl rfl 3 (by decide) (hts _ wq_446) (fun _ h9 => h9) rfl dX11_run_54 ?_
  refine lv_aload_n hx hb dX11_run_57 rfl (lv_at hl 0 rfl) ?_
  refine va_get (D := G.1) (ci := 11) (v := .int 0) (C := "Sourcewright") (T := TX11) (N := 20) hx hb hts inX11 hown hK hP 14 rfl rfl 4 (by decide) (hts _ wq_447) (fun _ h9 => h9) rfl dX11_run_58 ?_
  refine lv_iload_n hx hb dX11_run_61 rfl (lv_at hl 2 rfl) ?_
  refine pz_go (wr := [(a1, .inr (2, [.ref a24, .ref a25, .int 0])), (a3, .inr (7, [.ref a4, .ref a5])), (a4, .inl (G.2 2, 121, .inr (.inl (vp_updL (f0) 120 0)))), (a5, .inl (G.2 2, 121, .inr (.inl (vp_updL (f1) 120 0)))), (a6, .inr (3, [.ref a1, .ref a2, .ref a7])), (a7, .inl (G.2 0, 120, .inl (f2))), (a2, .inr (5, [.ref a1, .ref a3, .ref a26, .ref a27, .ref a28, .ref a29, .ref a30, .int 0, .int 0, .int 0])), (a9, .inl (G.2 0, 120, .inl (upd (upd (upd (g1) 117 255) 118 255) 119 255))), (a11, .inl (G.2 0, 240, .inl (upd (upd (fun _ => 0) 0 128) 1 255))), (a0, .inr (11, [.ref a1, .ref a16, .int 0, .ref a17, .int 0, .int 0, .ref a2, .ref a18, .ref a19, .ref a6, .ref a20, .ref a8, .ref a21, .ref a13, .ref a22, .ref a23, .int 1, .int (-1), .int (-1), .int 1])), (a8, .inr (1, [.ref a1, .ref a18, .ref a6, .ref a31, .ref a10, .ref a32, .ref a33, .ref a34, .ref a35, .ref a36, .ref a37, .ref a9, .int 0, .int 0, .int 2, .int 0]))]) (vx_runV (C := "Sourcewright$Machine") (As := [.ref a10, .ref a17, .int 0, .int 0]) (rest := []) ⟨hx, hb, hml, hown, hts⟩ (cX4_go_1 l hst G X H.size a13 a10 a17 a14 a15 a12 a38 a39 f4 f5 a11) (cwV 4 hts (pz_gV wq_1200 wq_1201 wq_1202 wq_12 wq_1203) rfl rfl rfl (by decide +kernel) ⟨(Nat.le_of_ble_eq_true rfl), (Nat.le_of_ble_eq_true rfl)⟩) (pz_preV (C := ("Sourcewright$Machine", TX4, 10)) hK hP hD hS hA hE 0 (ci := 4) rfl rfl [0, 1, 2, 11, 13] rfl rfl) rfl rfl hl.1 rfl (lv_room (Nat.le_of_ble_eq_true rfl)) dX11_run_62 ⟨(Nat.le_of_ble_eq_true rfl), (Nat.le_of_ble_eq_true rfl)⟩) hP hD hS hA [0, 1, 2, 11, 13] [3, 4, 5, 6, 7, 8, 9, 10, 12, 14, 15] rfl rfl rfl (by decide) (fun u H locs hP hD hS => ?_)
  have hP : va_P G.1 pz_cl [(a1, .inr (2, [.ref a24, .ref a25, .int 0])), (a3, .inr (7, [.ref a4, .ref a5])), (a4, .inl (G.2 2, 121, .inr (.inl (vp_updL (f0) 120 0)))), (a5, .inl (G.2 2, 121, .inr (.inl (vp_updL (f1) 120 0)))), (a6, .inr (3, [.ref a1, .ref a2, .ref a7])), (a7, .inl (G.2 0, 120, .inl (f2))), (a2, .inr (5, [.ref a1, .ref a3, .ref a26, .ref a27, .ref a28, .ref a29, .ref a30, .int 0, .int 0, .int 0])), (a9, .inl (G.2 0, 120, .inl (upd (upd (upd (g1) 117 255) 118 255) 119 255))), (a11, .inl (G.2 0, 240, .inl (upd (upd (fun _ => 0) 0 128) 1 255))), (a0, .inr (11, [.ref a1, .ref a16, .int 0, .ref a17, .int 0, .int 0, .ref a2, .ref a18, .ref a19, .ref a6, .ref a20, .ref a8, .ref a21, .ref a13, .ref a22, .ref a23, .int 1, .int (-1), .int (-1), .int 1])), (a8, .inr (1, [.ref a1, .ref a18, .ref a6, .ref a31, .ref a10, .ref a32, .ref a33, .ref a34, .ref a35, .ref a36, .ref a37, .ref a9, .int 0, .int 0, .int 2, .int 0])), (a13, .inr (4, [.ref a14, .ref a15, .ref a38, .ref a39, .int 0, .int 0, .int 0, .int 0, .int 0, .int 0])), (a14, .inl (G.2 0, 4, .inl (upd (upd (upd (upd (f4) 0 0) 1 0) 2 0) 3 0))), (a15, .inl (G.2 0, 8, .inl (upd (upd (upd (upd (upd (upd (upd (upd (f5) 0 0) 1 0) 2 0) 3 0) 4 0) 5 0) 6 0) 7 0))), (a10, .inr (2, [.ref a11, .ref a12, .int 2])), (a12, .inl (G.2 0, 240, .inl (upd (upd (fun _ => 0) 0 8) 1 13)))] H := hP
  have hD : va_D A [(a1, .inr (2, [.ref a24, .ref a25, .int 0])), (a3, .inr (7, [.ref a4, .ref a5])), (a4, .inl (G.2 2, 121, .inr (.inl (vp_updL (f0) 120 0)))), (a5, .inl (G.2 2, 121, .inr (.inl (vp_updL (f1) 120 0)))), (a6, .inr (3, [.ref a1, .ref a2, .ref a7])), (a7, .inl (G.2 0, 120, .inl (f2))), (a2, .inr (5, [.ref a1, .ref a3, .ref a26, .ref a27, .ref a28, .ref a29, .ref a30, .int 0, .int 0, .int 0])), (a9, .inl (G.2 0, 120, .inl (upd (upd (upd (g1) 117 255) 118 255) 119 255))), (a11, .inl (G.2 0, 240, .inl (upd (upd (fun _ => 0) 0 128) 1 255))), (a0, .inr (11, [.ref a1, .ref a16, .int 0, .ref a17, .int 0, .int 0, .ref a2, .ref a18, .ref a19, .ref a6, .ref a20, .ref a8, .ref a21, .ref a13, .ref a22, .ref a23, .int 1, .int (-1), .int (-1), .int 1])), (a8, .inr (1, [.ref a1, .ref a18, .ref a6, .ref a31, .ref a10, .ref a32, .ref a33, .ref a34, .ref a35, .ref a36, .ref a37, .ref a9, .int 0, .int 0, .int 2, .int 0])), (a13, .inr (4, [.ref a14, .ref a15, .ref a38, .ref a39, .int 0, .int 0, .int 0, .int 0, .int 0, .int 0])), (a14, .inl (G.2 0, 4, .inl (upd (upd (upd (upd (f4) 0 0) 1 0) 2 0) 3 0))), (a15, .inl (G.2 0, 8, .inl (upd (upd (upd (upd (upd (upd (upd (upd (f5) 0 0) 1 0) 2 0) 3 0) 4 0) 5 0) 6 0) 7 0))), (a10, .inr (2, [.ref a11, .ref a12, .int 2])), (a12, .inl (G.2 0, 240, .inl (upd (upd (fun _ => 0) 0 8) 1 13)))] := hD
  refine W.eq (g2 := F0 m 65 ls [.int 115]) rfl ?_
  exact pz_rz hx hb hr hlocks (by decide +kernel) hS (Nat.le_of_ble_eq_true rfl) (Nat.le_of_ble_eq_true rfl) dX11_run_65 g1 rfl (hP.sub [9, 0, 6, 1, 2, 3, 4, 5, 10, 7, 14, 8, 15, 11, 12, 13] rfl) (hD.sub [9, 0, 6, 1, 2, 3, 4, 5, 10, 7, 14, 8, 15, 11, 12, 13] rfl rfl)
set_option maxHeartbeats 4000000 in
set_option maxRecDepth 100000 in
theorem cL_run_2 (l : Launch) (hst : l.stackTraces = false) (G : pz_G) (X : Nat → Nat) (sz : Nat) (a0 : Nat) (a1 : Nat) (a2 : Nat) (a3 : Nat) (a4 : Nat) (a5 : Nat) (a6 : Nat) (a7 : Nat) (a8 : Nat) (a9 : Nat) (a10 : Nat) (a11 : Nat) (a12 : Nat) (a13 : Nat) (a14 : Nat) (a15 : Nat) (a16 : Nat) (a17 : Nat) (a18 : Nat) (a19 : Nat) (a20 : Nat) (a21 : Nat) (a22 : Nat) (a23 : Nat) (a24 : Nat) (a25 : Nat) (a26 : Nat) (a27 : Nat) (a28 : Nat) (a29 : Nat) (a30 : Nat) (a31 : Nat) (f0 : Nat → Int64) (f1 : Nat → Int64) (f2 : Nat → Int32) (a32 : Nat) (a33 : Nat) (a34 : Nat) (a35 : Nat) (a36 : Nat) (a37 : Nat) (a38 : Nat) (f3 : Nat → Int32) (a39 : Nat) (a40 : Nat) (f4 : Nat → Int32) (f5 : Nat → Int32) (f6 : Nat → Int64) : pz_MR (S := (Nat → Int32)) l yL_run (pz_cw yL_run cL_run 5 (some .int) [(0, 10, 13, 13), (0, 10, 17, 29)]) 6 130 0 0 G X sz [(a0, .inr (11, [.ref a2, .ref a17, .int 0, .ref a18, .int 0, .int 0, .ref a3, .ref a19, .ref a20, .ref a7, .ref a21, .ref a9, .ref a22, .ref a14, .ref a23, .ref a24, .int 0, .int (-1), .int (-1), .int 0])), (a2, .inr (2, [.ref a25, .ref a26, .int 0])), (a3, .inr (5, [.ref a2, .ref a4, .ref a27, .ref a28, .ref a29, .ref a30, .ref a31, .int 0, .int 0, .int 0])), (a4, .inr (7, [.ref a5, .ref a6])), (a5, .inl (G.2 2, 121, .inr (.inl (f0)))), (a6, .inl (G.2 2, 121, .inr (.inl (f1)))), (a7, .inr (3, [.ref a2, .ref a3, .ref a8])), (a8, .inl (G.2 0, 120, .inl (f2))), (a9, .inr (1, [.ref a2, .ref a19, .ref a7, .ref a32, .ref a11, .ref a33, .ref a34, .ref a35, .ref a36, .ref a37, .ref a38, .ref a10, .int 0, .int 0, .int 0, .int 0])), (a10, .inl (G.2 0, 120, .inl (f3))), (a11, .inr (2, [.ref a12, .ref a13, .int 0])), (a12, .inl (G.2 0, 240, .inl (fun _ => 0))), (a13, .inl (G.2 0, 240, .inl (fun _ => 0))), (a14, .inr (4, [.ref a15, .ref a16, .ref a39, .ref a40, .int 0, .int 0, .int 0, .int 0, .int 0, .int 0])), (a15, .inl (G.2 0, 4, .inl (f4))), (a16, .inl (G.2 0, 8, .inl (f5))), (a1, .inl (G.2 2, 1, .inr (.inl (f6))))] [.ref a0, .int 1, .int 0, .ref a1] (fun u => some (.int 0)) (fun u => [(a0, .inr (11, [.ref a2, .ref a17, .int 0, .ref a18, .int 0, .int 0, .ref a3, .ref a19, .ref a20, .ref a7, .ref a21, .ref a9, .ref a22, .ref a14, .ref a23, .ref a24, .int 1, .int (-1), .int (-1), .int 1])), (a2, .inr (2, [.ref a25, .ref a26, .int 0])), (a3, .inr (5, [.ref a2, .ref a4, .ref a27, .ref a28, .ref a29, .ref a30, .ref a31, .int 0, .int 0, .int 0])), (a4, .inr (7, [.ref a5, .ref a6])), (a5, .inl (G.2 2, 121, .inr (.inl (vp_updL (f0) 120 0)))), (a6, .inl (G.2 2, 121, .inr (.inl (vp_updL (f1) 120 0)))), (a7, .inr (3, [.ref a2, .ref a3, .ref a8])), (a8, .inl (G.2 0, 120, .inl (f2))), (a9, .inr (1, [.ref a2, .ref a19, .ref a7, .ref a32, .ref a11, .ref a33, .ref a34, .ref a35, .ref a36, .ref a37, .ref a38, .ref a10, .int 0, .int 0, .int 2, .int 0])), (a10, .inl (G.2 0, 120, .inl (upd (upd (upd (u) 117 255) 118 255) 119 255))), (a11, .inr (2, [.ref a12, .ref a13, .int 2])), (a12, .inl (G.2 0, 240, .inl (upd (upd (fun _ => 0) 0 128) 1 255))), (a13, .inl (G.2 0, 240, .inl (upd (upd (fun _ => 0) 0 8) 1 13))), (a14, .inr (4, [.ref a15, .ref a16, .ref a39, .ref a40, .int 0, .int 0, .int 0, .int 0, .int 0, .int 0])), (a15, .inl (G.2 0, 4, .inl (upd (upd (upd (upd (f4) 0 0) 1 0) 2 0) 3 0))), (a16, .inl (G.2 0, 8, .inl (upd (upd (upd (upd (upd (upd (upd (upd (f5) 0 0) 1 0) 2 0) 3 0) 4 0) 5 0) 6 0) 7 0))), (a1, .inl (G.2 2, 1, .inr (.inl (vp_updL (f6) 0 115))))]) := by
  refine pz_onHR (by decide +kernel) (Nat.le_of_ble_eq_true rfl) ?_
  intro p e s m below meth c A hx hb hr hml hown hts hlocks hin hx0 hP hK hD hS hA hE ls hl
  have hown : s.vm.findClass "SourcewrightLaw" = some m.cls := hown
  have hl : lv_has ls 5 [(0, .ref a0), (1, .int 1), (2, .int 0), (3, .ref a1)] := hl
  refine lv_aload_n hx hb dL_run_0 rfl (lv_at hl 3 rfl) ?_
  refine lv_iconst (v := 0) hx hb dL_run_1 (by decide) ?_
  refine lv_aload_n hx hb dL_run_2 rfl (lv_at hl 0 rfl) ?_
  refine lv_iload_n hx hb dL_run_3 rfl (lv_at hl 1 rfl) ?_
  refine lv_iload_n hx hb dL_run_4 rfl (lv_at hl 2 rfl) ?_
  refine pz_go (wr := [(a1, .inl (G.2 2, 1, .inr (.inl (f6))))]) (vx_runV (C := "Sourcewright") (As := [.int 1, .int 0]) (rest := [.int 0, .ref a1]) ⟨hx, hb, hml, hown, hts⟩ (cX11_run_2 l hst G X s.heap.size a0 a2 a3 a4 a5 a6 a7 a8 a9 a10 a11 a12 a13 a14 a15 a16 a17 a18 a19 a20 a21 a22 a23 a24 a25 a26 a27 a28 a29 a30 a31 f0 f1 f2 a32 a33 a34 a35 a36 a37 a38 f3 a39 a40 f4 f5) (cwV 2 hts (pz_gV wq_1703 wq_1704 wq_1705 wq_1 wq_1706) rfl rfl rfl (by decide +kernel) ⟨(Nat.le_of_ble_eq_true rfl), (Nat.le_of_ble_eq_true rfl)⟩) (pz_preV (C := ("Sourcewright", TX11, 20)) hK hP hD hS hA hE 0 (ci := 11) rfl rfl [0, 1, 2, 3, 4, 5, 6, 7, 8, 9, 10, 11, 12, 13, 14, 15] rfl rfl) rfl rfl hl.1 rfl (lv_room (Nat.le_of_ble_eq_true rfl)) dL_run_5 ⟨(Nat.le_of_ble_eq_true rfl), (Nat.le_of_ble_eq_true rfl)⟩) hP hD hS hA [0, 1, 2, 3, 4, 5, 6, 7, 8, 9, 10, 11, 12, 13, 14, 15] [16] rfl rfl rfl (by decide) (fun g1 H locs hP hD hS => ?_)
  have hP : va_P G.1 pz_cl [(a1, .inl (G.2 2, 1, .inr (.inl (f6)))), (a0, .inr (11, [.ref a2, .ref a17, .int 0, .ref a18, .int 0, .int 0, .ref a3, .ref a19, .ref a20, .ref a7, .ref a21, .ref a9, .ref a22, .ref a14, .ref a23, .ref a24, .int 1, .int (-1), .int (-1), .int 1])), (a2, .inr (2, [.ref a25, .ref a26, .int 0])), (a3, .inr (5, [.ref a2, .ref a4, .ref a27, .ref a28, .ref a29, .ref a30, .ref a31, .int 0, .int 0, .int 0])), (a4, .inr (7, [.ref a5, .ref a6])), (a5, .inl (G.2 2, 121, .inr (.inl (vp_updL (f0) 120 0)))), (a6, .inl (G.2 2, 121, .inr (.inl (vp_updL (f1) 120 0)))), (a7, .inr (3, [.ref a2, .ref a3, .ref a8])), (a8, .inl (G.2 0, 120, .inl (f2))), (a9, .inr (1, [.ref a2, .ref a19, .ref a7, .ref a32, .ref a11, .ref a33, .ref a34, .ref a35, .ref a36, .ref a37, .ref a38, .ref a10, .int 0, .int 0, .int 2, .int 0])), (a10, .inl (G.2 0, 120, .inl (upd (upd (upd (g1) 117 255) 118 255) 119 255))), (a11, .inr (2, [.ref a12, .ref a13, .int 2])), (a12, .inl (G.2 0, 240, .inl (upd (upd (fun _ => 0) 0 128) 1 255))), (a13, .inl (G.2 0, 240, .inl (upd (upd (fun _ => 0) 0 8) 1 13))), (a14, .inr (4, [.ref a15, .ref a16, .ref a39, .ref a40, .int 0, .int 0, .int 0, .int 0, .int 0, .int 0])), (a15, .inl (G.2 0, 4, .inl (upd (upd (upd (upd (f4) 0 0) 1 0) 2 0) 3 0))), (a16, .inl (G.2 0, 8, .inl (upd (upd (upd (upd (upd (upd (upd (upd (f5) 0 0) 1 0) 2 0) 3 0) 4 0) 5 0) 6 0) 7 0)))] H := hP
  have hD : va_D A [(a1, .inl (G.2 2, 1, .inr (.inl (f6)))), (a0, .inr (11, [.ref a2, .ref a17, .int 0, .ref a18, .int 0, .int 0, .ref a3, .ref a19, .ref a20, .ref a7, .ref a21, .ref a9, .ref a22, .ref a14, .ref a23, .ref a24, .int 1, .int (-1), .int (-1), .int 1])), (a2, .inr (2, [.ref a25, .ref a26, .int 0])), (a3, .inr (5, [.ref a2, .ref a4, .ref a27, .ref a28, .ref a29, .ref a30, .ref a31, .int 0, .int 0, .int 0])), (a4, .inr (7, [.ref a5, .ref a6])), (a5, .inl (G.2 2, 121, .inr (.inl (vp_updL (f0) 120 0)))), (a6, .inl (G.2 2, 121, .inr (.inl (vp_updL (f1) 120 0)))), (a7, .inr (3, [.ref a2, .ref a3, .ref a8])), (a8, .inl (G.2 0, 120, .inl (f2))), (a9, .inr (1, [.ref a2, .ref a19, .ref a7, .ref a32, .ref a11, .ref a33, .ref a34, .ref a35, .ref a36, .ref a37, .ref a38, .ref a10, .int 0, .int 0, .int 2, .int 0])), (a10, .inl (G.2 0, 120, .inl (upd (upd (upd (g1) 117 255) 118 255) 119 255))), (a11, .inr (2, [.ref a12, .ref a13, .int 2])), (a12, .inl (G.2 0, 240, .inl (upd (upd (fun _ => 0) 0 128) 1 255))), (a13, .inl (G.2 0, 240, .inl (upd (upd (fun _ => 0) 0 8) 1 13))), (a14, .inr (4, [.ref a15, .ref a16, .ref a39, .ref a40, .int 0, .int 0, .int 0, .int 0, .int 0, .int 0])), (a15, .inl (G.2 0, 4, .inl (upd (upd (upd (upd (f4) 0 0) 1 0) 2 0) 3 0))), (a16, .inl (G.2 0, 8, .inl (upd (upd (upd (upd (upd (upd (upd (upd (f5) 0 0) 1 0) 2 0) 3 0) 4 0) 5 0) 6 0) 7 0)))] := hD
  refine W.eq (g2 := F0 m 8 ls [.int 115, .int 0, .ref a1]) rfl ?_
  refine lv_i2l (v := 115) hx hb dL_run_8 (by decide) ?_
  refine va_last hx hb hK hP hD hS 0 2 rfl rfl (pz_vi rfl) dL_run_9 (fun H locs hP hD hS => ?_)
  have hP : va_P G.1 pz_cl [(a1, .inl (G.2 2, 1, .inr (.inl (vp_updL (f6) 0 115)))), (a0, .inr (11, [.ref a2, .ref a17, .int 0, .ref a18, .int 0, .int 0, .ref a3, .ref a19, .ref a20, .ref a7, .ref a21, .ref a9, .ref a22, .ref a14, .ref a23, .ref a24, .int 1, .int (-1), .int (-1), .int 1])), (a2, .inr (2, [.ref a25, .ref a26, .int 0])), (a3, .inr (5, [.ref a2, .ref a4, .ref a27, .ref a28, .ref a29, .ref a30, .ref a31, .int 0, .int 0, .int 0])), (a4, .inr (7, [.ref a5, .ref a6])), (a5, .inl (G.2 2, 121, .inr (.inl (vp_updL (f0) 120 0)))), (a6, .inl (G.2 2, 121, .inr (.inl (vp_updL (f1) 120 0)))), (a7, .inr (3, [.ref a2, .ref a3, .ref a8])), (a8, .inl (G.2 0, 120, .inl (f2))), (a9, .inr (1, [.ref a2, .ref a19, .ref a7, .ref a32, .ref a11, .ref a33, .ref a34, .ref a35, .ref a36, .ref a37, .ref a38, .ref a10, .int 0, .int 0, .int 2, .int 0])), (a10, .inl (G.2 0, 120, .inl (upd (upd (upd (g1) 117 255) 118 255) 119 255))), (a11, .inr (2, [.ref a12, .ref a13, .int 2])), (a12, .inl (G.2 0, 240, .inl (upd (upd (fun _ => 0) 0 128) 1 255))), (a13, .inl (G.2 0, 240, .inl (upd (upd (fun _ => 0) 0 8) 1 13))), (a14, .inr (4, [.ref a15, .ref a16, .ref a39, .ref a40, .int 0, .int 0, .int 0, .int 0, .int 0, .int 0])), (a15, .inl (G.2 0, 4, .inl (upd (upd (upd (upd (f4) 0 0) 1 0) 2 0) 3 0))), (a16, .inl (G.2 0, 8, .inl (upd (upd (upd (upd (upd (upd (upd (upd (f5) 0 0) 1 0) 2 0) 3 0) 4 0) 5 0) 6 0) 7 0)))] H := hP
  have hD : va_D A [(a1, .inl (G.2 2, 1, .inr (.inl (vp_updL (f6) 0 115)))), (a0, .inr (11, [.ref a2, .ref a17, .int 0, .ref a18, .int 0, .int 0, .ref a3, .ref a19, .ref a20, .ref a7, .ref a21, .ref a9, .ref a22, .ref a14, .ref a23, .ref a24, .int 1, .int (-1), .int (-1), .int 1])), (a2, .inr (2, [.ref a25, .ref a26, .int 0])), (a3, .inr (5, [.ref a2, .ref a4, .ref a27, .ref a28, .ref a29, .ref a30, .ref a31, .int 0, .int 0, .int 0])), (a4, .inr (7, [.ref a5, .ref a6])), (a5, .inl (G.2 2, 121, .inr (.inl (vp_updL (f0) 120 0)))), (a6, .inl (G.2 2, 121, .inr (.inl (vp_updL (f1) 120 0)))), (a7, .inr (3, [.ref a2, .ref a3, .ref a8])), (a8, .inl (G.2 0, 120, .inl (f2))), (a9, .inr (1, [.ref a2, .ref a19, .ref a7, .ref a32, .ref a11, .ref a33, .ref a34, .ref a35, .ref a36, .ref a37, .ref a38, .ref a10, .int 0, .int 0, .int 2, .int 0])), (a10, .inl (G.2 0, 120, .inl (upd (upd (upd (g1) 117 255) 118 255) 119 255))), (a11, .inr (2, [.ref a12, .ref a13, .int 2])), (a12, .inl (G.2 0, 240, .inl (upd (upd (fun _ => 0) 0 128) 1 255))), (a13, .inl (G.2 0, 240, .inl (upd (upd (fun _ => 0) 0 8) 1 13))), (a14, .inr (4, [.ref a15, .ref a16, .ref a39, .ref a40, .int 0, .int 0, .int 0, .int 0, .int 0, .int 0])), (a15, .inl (G.2 0, 4, .inl (upd (upd (upd (upd (f4) 0 0) 1 0) 2 0) 3 0))), (a16, .inl (G.2 0, 8, .inl (upd (upd (upd (upd (upd (upd (upd (upd (f5) 0 0) 1 0) 2 0) 3 0) 4 0) 5 0) 6 0) 7 0)))] := hD
  refine lv_goto (tgt := 21) hx hb dL_run_10 (by decide) ?_
  refine lv_iconst (v := 0) hx hb dL_run_21 (by decide) ?_
  exact pz_rz hx hb hr hlocks (by decide +kernel) hS (Nat.le_of_ble_eq_true rfl) (Nat.le_of_ble_eq_true rfl) dL_run_22 g1 rfl (hP.sub [1, 2, 3, 4, 5, 6, 7, 8, 9, 10, 11, 12, 13, 14, 15, 16, 0] rfl) (hD.sub [1, 2, 3, 4, 5, 6, 7, 8, 9, 10, 11, 12, 13, 14, 15, 16, 0] rfl rfl)
set_option maxHeartbeats 4000000 in
set_option maxRecDepth 100000 in
theorem cX16_in_12 (l : Launch) (hst : l.stackTraces = false) (G : pz_G) (X : Nat → Nat) (sz : Nat) : pz_MR (S := Unit) l yX16_in (pz_cd yX16_in cX16_in 3 (some .boolean)) 0 0 0 0 G X sz [] [.int 0, .int 0, .int 2000] (fun u => some (.int 1)) (fun u => []) := by
  refine pz_onR (by decide +kernel) (Nat.le_of_ble_eq_true rfl) ?_
  intro p e s m below meth c A hx hb hr hml hown hts hlocks hin hx0 hP hK hD hS hA hE ls hl
  have hown : s.vm.findClass "SourcewrightModel" = some m.cls := hown
  have hl : lv_has ls 3 [(0, .int 0), (1, .int 0), (2, .int 2000)] := hl
  refine lv_iload_n hx hb dX16_in_0 rfl (lv_at hl 0 rfl) ?_
  refine lv_iload_n hx hb dX16_in_1 rfl (lv_at hl 1 rfl) ?_
  refine lv_icmp_lt (tgt := 14) hx hb dX16_in_2 (by decide) (fun hc => absurd hc (by decide)) (fun _ => ?_)
  refine lv_iload_n hx hb dX16_in_5 rfl (lv_at hl 0 rfl) ?_
  refine lv_iload_n hx hb dX16_in_6 rfl (lv_at hl 2 rfl) ?_
  refine lv_icmp_gt (tgt := 14) hx hb dX16_in_7 (by decide) (fun hc => absurd hc (by decide)) (fun _ => ?_)
  refine lv_iconst (v := 1) hx hb dX16_in_10 (by decide) ?_
  refine lv_goto (tgt := 15) hx hb dX16_in_11 (by decide) ?_
  exact pz_rz hx hb hr hlocks (by decide +kernel) hS (Nat.le_of_ble_eq_true rfl) (Nat.le_of_ble_eq_true rfl) dX16_in_15 () rfl (hP.sub [] rfl) (hD.sub [] rfl rfl)
set_option maxHeartbeats 4000000 in
set_option maxRecDepth 100000 in
theorem cX16_in_13 (l : Launch) (hst : l.stackTraces = false) (G : pz_G) (X : Nat → Nat) (sz : Nat) : pz_MR (S := Unit) l yX16_in (pz_cd yX16_in cX16_in 3 (some .boolean)) 0 0 0 0 G X sz [] [.int 0, .int 8, .int 11] (fun u => some (.int 0)) (fun u => []) := by
  refine pz_onR (by decide +kernel) (Nat.le_of_ble_eq_true rfl) ?_
  intro p e s m below meth c A hx hb hr hml hown hts hlocks hin hx0 hP hK hD hS hA hE ls hl
  have hown : s.vm.findClass "SourcewrightModel" = some m.cls := hown
  have hl : lv_has ls 3 [(0, .int 0), (1, .int 8), (2, .int 11)] := hl
  refine lv_iload_n hx hb dX16_in_0 rfl (lv_at hl 0 rfl) ?_
  refine lv_iload_n hx hb dX16_in_1 rfl (lv_at hl 1 rfl) ?_
  refine lv_icmp_lt (tgt := 14) hx hb dX16_in_2 (by decide) (fun _ => ?_) (fun hc => absurd hc (by decide))
  refine lv_iconst (v := 0) hx hb dX16_in_14 (by decide) ?_
  exact pz_rz hx hb hr hlocks (by decide +kernel) hS (Nat.le_of_ble_eq_true rfl) (Nat.le_of_ble_eq_true rfl) dX16_in_15 () rfl (hP.sub [] rfl) (hD.sub [] rfl rfl)
set_option maxHeartbeats 4000000 in
set_option maxRecDepth 100000 in
theorem cX16_told_1 (l : Launch) (hst : l.stackTraces = false) (G : pz_G) (X : Nat → Nat) (sz : Nat) : pz_MR (S := Unit) l yX16_told (pz_cd yX16_told cX16_told 3 (some .int)) 1 22 0 0 G X sz [] [.int 128] (fun u => some (.int 2)) (fun u => []) := by
  refine pz_onR (by decide +kernel) (Nat.le_of_ble_eq_true rfl) ?_
  intro p e s m below meth c A hx hb hr hml hown hts hlocks hin hx0 hP hK hD hS hA hE ls hl
  have hown : s.vm.findClass "SourcewrightModel" = some m.cls := hown
  have hl : lv_has ls 3 [(0, .int 128)] := hl
  refine lv_iload_n hx hb dX16_told_0 rfl (lv_at hl 0 rfl) ?_
  refine lv_bipush (v := 16) hx hb dX16_told_1 (by decide) ?_
  refine lv_idiv hx hb dX16_told_3 (by decide) (pz_K (y := 8) (by decide) ?_)
  refine lv_istore_n (lv' := [(1, .int 8), (0, .int 128)]) hx hb dX16_told_4 rfl hl (by decide) rfl (fun ls hl => ?_)
  refine lv_iload_n hx hb dX16_told_5 rfl (lv_at hl 1 rfl) ?_
  refine lv_bipush (v := 16) hx hb dX16_told_6 (by decide) ?_
  refine lv_irem hx hb dX16_told_8 (by decide) (pz_K (y := 0) (by decide) ?_)
  refine lv_istore_n (lv' := [(2, .int 0), (1, .int 8), (0, .int 128)]) hx hb dX16_told_9 rfl hl (by decide) rfl (fun ls hl => ?_)
  refine lv_iload_n hx hb dX16_told_10 rfl (lv_at hl 1 rfl) ?_
  refine lv_bipush (v := 8) hx hb dX16_told_11 (by decide) ?_
  refine lv_icmp_ne (tgt := 44) hx hb dX16_told_13 (by decide) (fun hc => absurd hc (by decide)) (fun _ => ?_)
  refine lv_iload_n hx hb dX16_told_16 rfl (lv_at hl 0 rfl) ?_
  refine lv_bipush (v := 8) hx hb dX16_told_17 (by decide) ?_
  refine lv_bipush (v := 11) hx hb dX16_told_19 (by decide) ?_
  refine pz_go (wr := []) (vx_runS (As := [.int 0, .int 8, .int 11]) (rest := []) ⟨hx, hb, hml, hown, hts⟩ (cX16_in_13 l hst G X s.heap.size) (va_cwS 3 hts (pz_gS wq_1843 wq_1844 wq_13 wq_1845) rfl rfl rfl (by decide +kernel) ⟨(Nat.le_of_ble_eq_true rfl), (Nat.le_of_ble_eq_true rfl)⟩) (pz_preS hK hP hD hS hA hE [] rfl rfl) rfl rfl hl.1 rfl (lv_room (Nat.le_of_ble_eq_true rfl)) dX16_told_21 ⟨(Nat.le_of_ble_eq_true rfl), (Nat.le_of_ble_eq_true rfl)⟩) hP hD hS hA [] [] rfl rfl rfl (by decide) (fun u H locs hP hD hS => ?_)
  have hP : va_P G.1 pz_cl [] H := hP
  have hD : va_D A [] := hD
  refine W.eq (g2 := F0 m 24 ls [.int 0]) rfl ?_
  refine lv_if_eq (tgt := 31) hx hb dX16_told_24 (by decide) (fun _ => ?_) (fun hc => absurd hc (by decide))
  refine lv_iload_n hx hb dX16_told_31 rfl (lv_at hl 0 rfl) ?_
  refine lv_iconst (v := 5) hx hb dX16_told_32 (by decide) ?_
  refine lv_icmp_gt (tgt := 40) hx hb dX16_told_33 (by decide) (fun hc => absurd hc (by decide)) (fun _ => ?_)
  refine lv_iconst (v := 2) hx hb dX16_told_36 (by decide) ?_
  refine lv_goto (tgt := 66) hx hb dX16_told_37 (by decide) ?_
  exact pz_rz hx hb hr hlocks (by decide +kernel) hS (Nat.le_of_ble_eq_true rfl) (Nat.le_of_ble_eq_true rfl) dX16_told_66 () rfl (hP.sub [] rfl) (hD.sub [] rfl rfl)
set_option maxHeartbeats 4000000 in
set_option maxRecDepth 100000 in
theorem cX16_isWhole_2 (l : Launch) (hst : l.stackTraces = false) (G : pz_G) (X : Nat → Nat) (sz : Nat) (a0 : Nat) : pz_MR (S := Unit) l yX16_isWhole (pz_cd yX16_isWhole cX16_isWhole 2 (some .boolean)) 2 44 0 0 G X sz [(a0, .inl (G.2 0, 2, .inl (upd (upd (fun _ => 0) 0 128) 1 255)))] [.ref a0, .int 0] (fun u => some (.int 1)) (fun u => [(a0, .inl (G.2 0, 2, .inl (upd (upd (fun _ => 0) 0 128) 1 255)))]) := by
  refine pz_onR (by decide +kernel) (Nat.le_of_ble_eq_true rfl) ?_
  intro p e s m below meth c A hx hb hr hml hown hts hlocks hin hx0 hP hK hD hS hA hE ls hl
  have hown : s.vm.findClass "SourcewrightModel" = some m.cls := hown
  have hl : lv_has ls 2 [(0, .ref a0), (1, .int 0)] := hl
  refine lv_iload_n hx hb dX16_isWhole_0 rfl (lv_at hl 1 rfl) ?_
  refine lv_iconst (v := 0) hx hb dX16_isWhole_1 (by decide) ?_
  refine lv_aload_n hx hb dX16_isWhole_2 rfl (lv_at hl 0 rfl) ?_
  refine va_alen (v := 2) hx hb hK hP 0 0 rfl rfl (by show Int32.ofNat 2 = 2; decide) dX16_isWhole_3 ?_
  refine lv_iconst (v := 1) hx hb dX16_isWhole_4 (by decide) ?_
  refine lv_isub hx hb dX16_isWhole_5 (pz_K (y := 1) (by decide) ?_)
  refine pz_go (wr := [(a0, .inl (G.2 0, 2, .inl (upd (upd (fun _ => 0) 0 128) 1 255)))]) (vx_runS (As := [.int 0, .int 0, .int 1]) (rest := []) ⟨hx, hb, hml, hown, hts⟩ (cX16_in_8 l hst G X s.heap.size) (va_cwS 3 hts (pz_gS wq_1843 wq_1844 wq_13 wq_1845) rfl rfl rfl (by decide +kernel) ⟨(Nat.le_of_ble_eq_true rfl), (Nat.le_of_ble_eq_true rfl)⟩) (pz_preS hK hP hD hS hA hE [] rfl rfl) rfl rfl hl.1 rfl (lv_room (Nat.le_of_ble_eq_true rfl)) dX16_isWhole_6 ⟨(Nat.le_of_ble_eq_true rfl), (Nat.le_of_ble_eq_true rfl)⟩) hP hD hS hA [] [0] rfl rfl rfl (by decide) (fun u H locs hP hD hS => ?_)
  have hP : va_P G.1 pz_cl [(a0, .inl (G.2 0, 2, .inl (upd (upd (fun _ => 0) 0 128) 1 255)))] H := hP
  have hD : va_D A [(a0, .inl (G.2 0, 2, .inl (upd (upd (fun _ => 0) 0 128) 1 255)))] := hD
  refine W.eq (g2 := F0 m 9 ls [.int 1]) rfl ?_
  refine lv_if_eq (tgt := 29) hx hb dX16_isWhole_9 (by decide) (fun hc => absurd hc (by decide)) (fun _ => ?_)
  refine lv_iload_n hx hb dX16_isWhole_12 rfl (lv_at hl 1 rfl) ?_
  refine lv_aload_n hx hb dX16_isWhole_13 rfl (lv_at hl 0 rfl) ?_
  refine lv_iload_n hx hb dX16_isWhole_14 rfl (lv_at hl 1 rfl) ?_
  refine va_iald hx hb hK hP 0 0 rfl rfl (pz_vi rfl) dX16_isWhole_15 ?_
  refine W.eq (g2 := F0 m 16 ls [.int 128, .int 0]) rfl ?_
  refine pz_go (wr := [(a0, .inl (G.2 0, 2, .inl (upd (upd (fun _ => 0) 0 128) 1 255)))]) (vx_runS (As := [.int 128]) (rest := [.int 0]) ⟨hx, hb, hml, hown, hts⟩ (cX16_told_1 l hst G X H.size) (va_cwS 1 hts (pz_gS wq_2141 wq_2142 wq_13 wq_2143) rfl rfl rfl (by decide +kernel) ⟨(Nat.le_of_ble_eq_true rfl), (Nat.le_of_ble_eq_true rfl)⟩) (pz_preS hK hP hD hS hA hE [] rfl rfl) rfl rfl hl.1 rfl (lv_room (Nat.le_of_ble_eq_true rfl)) dX16_isWhole_16 ⟨(Nat.le_of_ble_eq_true rfl), (Nat.le_of_ble_eq_true rfl)⟩) hP hD hS hA [] [0] rfl rfl rfl (by decide) (fun u H locs hP hD hS => ?_)
  have hP : va_P G.1 pz_cl [(a0, .inl (G.2 0, 2, .inl (upd (upd (fun _ => 0) 0 128) 1 255)))] H := hP
  have hD : va_D A [(a0, .inl (G.2 0, 2, .inl (upd (upd (fun _ => 0) 0 128) 1 255)))] := hD
  refine W.eq (g2 := F0 m 19 ls [.int 2, .int 0]) rfl ?_
  refine lv_iadd hx hb dX16_isWhole_19 (pz_K (y := 2) (by decide) ?_)
  refine lv_aload_n hx hb dX16_isWhole_20 rfl (lv_at hl 0 rfl) ?_
  refine va_alen (v := 2) hx hb hK hP 0 0 rfl rfl (by show Int32.ofNat 2 = 2; decide) dX16_isWhole_21 ?_
  refine lv_icmp_gt (tgt := 29) hx hb dX16_isWhole_22 (by decide) (fun hc => absurd hc (by decide)) (fun _ => ?_)
  refine lv_iconst (v := 1) hx hb dX16_isWhole_25 (by decide) ?_
  refine lv_goto (tgt := 30) hx hb dX16_isWhole_26 (by decide) ?_
  exact pz_rz hx hb hr hlocks (by decide +kernel) hS (Nat.le_of_ble_eq_true rfl) (Nat.le_of_ble_eq_true rfl) dX16_isWhole_30 () rfl (hP.sub [0] rfl) (hD.sub [0] rfl rfl)
set_option maxHeartbeats 4000000 in
set_option maxRecDepth 100000 in
theorem cX16_isGood_1 (l : Launch) (hst : l.stackTraces = false) (G : pz_G) (X : Nat → Nat) (sz : Nat) (a0 : Nat) : pz_MR (S := Unit) l yX16_isGood (pz_cd yX16_isGood cX16_isGood 4 (some .boolean)) 1 22 0 0 G X sz [(a0, .inl (G.2 0, 2, .inl (upd (upd (fun _ => 0) 0 128) 1 255)))] [.ref a0, .int 0] (fun u => some (.int 1)) (fun u => [(a0, .inl (G.2 0, 2, .inl (upd (upd (fun _ => 0) 0 128) 1 255)))]) := by
  refine pz_onR (by decide +kernel) (Nat.le_of_ble_eq_true rfl) ?_
  intro p e s m below meth c A hx hb hr hml hown hts hlocks hin hx0 hP hK hD hS hA hE ls hl
  have hown : s.vm.findClass "SourcewrightModel" = some m.cls := hown
  have hl : lv_has ls 4 [(0, .ref a0), (1, .int 0)] := hl
  refine lv_aload_n hx hb dX16_isGood_0 rfl (lv_at hl 0 rfl) ?_
  refine lv_iload_n hx hb dX16_isGood_1 rfl (lv_at hl 1 rfl) ?_
  refine va_iald hx hb hK hP 0 0 rfl rfl (pz_vi rfl) dX16_isGood_2 ?_
  refine W.eq (g2 := F0 m 3 ls [.int 128]) rfl ?_
  refine lv_bipush (v := 16) hx hb dX16_isGood_3 (by decide) ?_
  refine lv_idiv hx hb dX16_isGood_5 (by decide) (pz_K (y := 8) (by decide) ?_)
  refine lv_istore_n (lv' := [(2, .int 8), (0, .ref a0), (1, .int 0)]) hx hb dX16_isGood_6 rfl hl (by decide) rfl (fun ls hl => ?_)
  refine lv_aload_n hx hb dX16_isGood_7 rfl (lv_at hl 1 rfl) ?_
  refine lv_iload_n hx hb dX16_isGood_8 rfl (lv_at hl 2 rfl) ?_
  refine va_iald hx hb hK hP 0 0 rfl rfl (pz_vi rfl) dX16_isGood_9 ?_
  refine W.eq (g2 := F0 m 10 ls [.int 128]) rfl ?_
  refine lv_bipush (v := 16) hx hb dX16_isGood_10 (by decide) ?_
  refine lv_irem hx hb dX16_isGood_12 (by decide) (pz_K (y := 0) (by decide) ?_)
  refine lv_istore_n (lv' := [(3, .int 0), (2, .int 8), (0, .ref a0), (1, .int 0)]) hx hb dX16_isGood_13 rfl hl (by decide) rfl (fun ls hl => ?_)
  refine lv_iload_n hx hb dX16_isGood_14 rfl (lv_at hl 1 rfl) ?_
  refine lv_bipush (v := 11) hx hb dX16_isGood_15 (by decide) ?_
  refine lv_icmp_eq (tgt := 26) hx hb dX16_isGood_17 (by decide) (fun hc => absurd hc (by decide)) (fun _ => ?_)
  refine lv_iload_n hx hb dX16_isGood_20 rfl (lv_at hl 1 rfl) ?_
  refine lv_bipush (v := 12) hx hb dX16_isGood_21 (by decide) ?_
  refine lv_icmp_ne (tgt := 42) hx hb dX16_isGood_23 (by decide) (fun _ => ?_) (fun hc => absurd hc (by decide))
  refine lv_iload_n hx hb dX16_isGood_42 rfl (lv_at hl 1 rfl) ?_
  refine lv_bipush (v := 8) hx hb dX16_isGood_43 (by decide) ?_
  refine lv_icmp_ne (tgt := 89) hx hb dX16_isGood_45 (by decide) (fun hc => absurd hc (by decide)) (fun _ => ?_)
  refine lv_iload_n hx hb dX16_isGood_48 rfl (lv_at hl 0 rfl) ?_
  refine lv_bipush (v := 8) hx hb dX16_isGood_49 (by decide) ?_
  refine lv_bipush (v := 11) hx hb dX16_isGood_51 (by decide) ?_
  refine pz_go (wr := [(a0, .inl (G.2 0, 2, .inl (upd (upd (fun _ => 0) 0 128) 1 255)))]) (vx_runS (As := [.int 0, .int 8, .int 11]) (rest := []) ⟨hx, hb, hml, hown, hts⟩ (cX16_in_13 l hst G X s.heap.size) (va_cwS 3 hts (pz_gS wq_1843 wq_1844 wq_13 wq_1845) rfl rfl rfl (by decide +kernel) ⟨(Nat.le_of_ble_eq_true rfl), (Nat.le_of_ble_eq_true rfl)⟩) (pz_preS hK hP hD hS hA hE [] rfl rfl) rfl rfl hl.1 rfl (lv_room (Nat.le_of_ble_eq_true rfl)) dX16_isGood_53 ⟨(Nat.le_of_ble_eq_true rfl), (Nat.le_of_ble_eq_true rfl)⟩) hP hD hS hA [] [0] rfl rfl rfl (by decide) (fun u H locs hP hD hS => ?_)
  have hP : va_P G.1 pz_cl [(a0, .inl (G.2 0, 2, .inl (upd (upd (fun _ => 0) 0 128) 1 255)))] H := hP
  have hD : va_D A [(a0, .inl (G.2 0, 2, .inl (upd (upd (fun _ => 0) 0 128) 1 255)))] := hD
  refine W.eq (g2 := F0 m 56 ls [.int 0]) rfl ?_
  refine lv_if_eq (tgt := 89) hx hb dX16_isGood_56 (by decide) (fun _ => ?_) (fun hc => absurd hc (by decide))
  refine lv_iload_n hx hb dX16_isGood_89 rfl (lv_at hl 1 rfl) ?_
  refine lv_bipush (v := 8) hx hb dX16_isGood_90 (by decide) ?_
  refine lv_icmp_lt (tgt := 119) hx hb dX16_isGood_92 (by decide) (fun hc => absurd hc (by decide)) (fun _ => ?_)
  refine lv_iload_n hx hb dX16_isGood_95 rfl (lv_at hl 1 rfl) ?_
  refine lv_bipush (v := 8) hx hb dX16_isGood_96 (by decide) ?_
  refine lv_icmp_ne (tgt := 107) hx hb dX16_isGood_98 (by decide) (fun hc => absurd hc (by decide)) (fun _ => ?_)
  refine lv_iload_n hx hb dX16_isGood_101 rfl (lv_at hl 0 rfl) ?_
  refine lv_bipush (v := 6) hx hb dX16_isGood_102 (by decide) ?_
  refine lv_icmp_le (tgt := 119) hx hb dX16_isGood_104 (by decide) (fun _ => ?_) (fun hc => absurd hc (by decide))
  refine lv_iconst (v := 1) hx hb dX16_isGood_119 (by decide) ?_
  refine lv_goto (tgt := 124) hx hb dX16_isGood_120 (by decide) ?_
  exact pz_rz hx hb hr hlocks (by decide +kernel) hS (Nat.le_of_ble_eq_true rfl) (Nat.le_of_ble_eq_true rfl) dX16_isGood_124 () rfl (hP.sub [0] rfl) (hD.sub [0] rfl rfl)
set_option maxHeartbeats 4000000 in
set_option maxRecDepth 100000 in
theorem cX14_init_1 (l : Launch) (hst : l.stackTraces = false) (G : pz_G) (X : Nat → Nat) (sz : Nat) (a0 : Nat) (a1 : Nat) (a2 : Nat) : pz_MR (S := Nat × Nat × Nat × Nat) l yX14_init (pz_cd yX14_init cX14_init 18 none) 4 72 4 18 G X sz [(a0, .inr (13, [.int 0, .int 0, .null])), (a1, .inl (G.2 0, 2, .inl (upd (upd (fun _ => 0) 0 128) 1 255)))] [.ref a0, .ref a1, .ref a2, .int 0] (fun u => none) (fun u => [(a0, .inr (13, [.int 115, .int 0, .ref u.1])), (a1, .inl (G.2 0, 2, .inl (upd (upd (fun _ => 0) 0 128) 1 255))), (u.1, .inr (17, [.int 0, .ref (X 3), .int 0])), (u.2.1, .inl (G.2 0, 4, .inl (fun _ => 0))), (u.2.2.1, .inl (G.2 0, 8, .inl (fun _ => 0))), (u.2.2.2, .inr (17, [.int 0, .ref (X 3), .int 0]))]) := by
  refine pz_onR (by decide +kernel) (Nat.le_of_ble_eq_true rfl) ?_
  intro p e s m below meth c A hx hb hr hml hown hts hlocks hin hx0 hP hK hD hS hA hE ls hl
  have hown : s.vm.findClass "SourcewrightModel$Run" = some m.cls := hown
  have hl : lv_has ls 18 [(0, .ref a0), (1, .ref a1), (2, .ref a2), (3, .int 0)] := hl
  refine lv_aload_n hx hb dX14_init_0 rfl (lv_at hl 0 rfl) ?_
  refine W.objInit hx hb hown (hts _ wq_3065) (hts _ wq_54) (hts _ wq_55) rfl (by rw [hml]; exact hl.1) rfl dX14_init_1 (Nat.le_of_ble_eq_true rfl) (Nat.le_of_ble_eq_true rfl) ?_
  refine W.eq (g2 := F0 m 4 ls []) rfl ?_
  refine lv_aload_n hx hb dX14_init_4 rfl (lv_at hl 0 rfl) ?_
  refine va_new (ci := 17) (fs := [.int 0, .null, .int 0]) (C := "java/util/ArrayList") (T := TJx4a65c) (N := 3) hx hb hts inJx4a65c tyJx4a65c tyJx4a65c_ok hown (hts _ wq_3066) (hts _ wq_1785) (hts _ wq_16) hK hP hD hS hA rfl (pz_dfJx4a65c) (Nat.le_of_ble_eq_true rfl) (Nat.le_of_ble_eq_true rfl) dX14_init_5 (fun q1 H hP hD hS => ?_)
  have hP : va_P G.1 pz_cl [(a0, .inr (13, [.int 0, .int 0, .null])), (a1, .inl (G.2 0, 2, .inl (upd (upd (fun _ => 0) 0 128) 1 255))), (q1, .inr (17, [.int 0, .null, .int 0]))] H := hP
  have hD : va_D A [(a0, .inr (13, [.int 0, .int 0, .null])), (a1, .inl (G.2 0, 2, .inl (upd (upd (fun _ => 0) 0 128) 1 255))), (q1, .inr (17, [.int 0, .null, .int 0]))] := hD
  refine lv_dup hx hb dX14_init_8 rfl ?_
  refine pz_go (wr := [(a0, .inr (13, [.int 0, .int 0, .null])), (a1, .inl (G.2 0, 2, .inl (upd (upd (fun _ => 0) 0 128) 1 255)))]) (vx_runI (As := []) (rest := [.ref q1, .ref a0]) ⟨hx, hb, hml, hown, hts⟩ (cJx4a65c_init_da8c8_1 l hst G X H.size q1) (cwI 0 hts (pz_gC wq_1788) rfl rfl rfl (hts _ wq_16) (hts _ wq_3067) (hts _ wq_1787) rfl (by decide +kernel) ⟨(Nat.le_of_ble_eq_true rfl), (Nat.le_of_ble_eq_true rfl)⟩) (pz_preS hK hP hD hS hA hE [2] rfl rfl) rfl rfl hl.1 rfl (lv_room (Nat.le_of_ble_eq_true rfl)) dX14_init_9 ⟨(Nat.le_of_ble_eq_true rfl), (Nat.le_of_ble_eq_true rfl)⟩) hP hD hS hA [2] [0, 1] rfl rfl rfl (by decide) (fun u H locs hP hD hS => ?_)
  have hP : va_P G.1 pz_cl [(a0, .inr (13, [.int 0, .int 0, .null])), (a1, .inl (G.2 0, 2, .inl (upd (upd (fun _ => 0) 0 128) 1 255))), (q1, .inr (17, [.int 0, .ref (X 3), .int 0]))] H := hP
  have hD : va_D A [(a0, .inr (13, [.int 0, .int 0, .null])), (a1, .inl (G.2 0, 2, .inl (upd (upd (fun _ => 0) 0 128) 1 255))), (q1, .inr (17, [.int 0, .ref (X 3), .int 0]))] := hD
  refine W.eq (g2 := F0 m 12 ls [.ref q1, .ref a0]) rfl ?_
  refine va_putF (D := G.1) (ci := 13) (v := .ref q1) (ty := tyX14 2) (C := "SourcewrightModel$Run") (T := TX14) (N := 3) hx hb hts inX14 tyX14 tyX14_ok nmX14 hown hK hP hD hS 0 rfl rfl 2 (by decide) (hts _ wq_3085) (fun _ h9 => h9) rfl hin rfl (by decide +kernel) rfl rfl (Nat.le_of_ble_eq_true rfl) dX14_init_12 (fun H locs hP hD hS => ?_)
  have hP : va_P G.1 pz_cl [(a0, .inr (13, [.int 0, .int 0, .ref q1])), (a1, .inl (G.2 0, 2, .inl (upd (upd (fun _ => 0) 0 128) 1 255))), (q1, .inr (17, [.int 0, .ref (X 3), .int 0]))] H := hP
  have hD : va_D A [(a0, .inr (13, [.int 0, .int 0, .ref q1])), (a1, .inl (G.2 0, 2, .inl (upd (upd (fun _ => 0) 0 128) 1 255))), (q1, .inr (17, [.int 0, .ref (X 3), .int 0]))] := hD
  refine lv_iconst (v := 4) hx hb dX14_init_15 (by decide) ?_
  refine va_newa (atype := .int) (ty := .int) (a0 := (4, .inl (fun _ => 0))) hx hb (hts _ wq_72) rfl hK hP hD hS hA (fun _ => rfl) (by decide) (by decide) (Nat.le_of_ble_eq_true rfl) (Nat.le_of_ble_eq_true rfl) (Nat.le_of_ble_eq_true rfl) dX14_init_16 (fun q2 cA H hK hP hD hS => ?_)
  obtain rfl : cA = G.2 0 := pz_ty hK 7 0 rfl rfl (fun C h => by cases h)
  have hK : va_K G.1 pz_cl (pz_T G) s := hK.sub [0, 1, 2, 3, 4, 5, 6] rfl
  have hP : va_P G.1 pz_cl [(a0, .inr (13, [.int 0, .int 0, .ref q1])), (a1, .inl (G.2 0, 2, .inl (upd (upd (fun _ => 0) 0 128) 1 255))), (q1, .inr (17, [.int 0, .ref (X 3), .int 0])), (q2, .inl (G.2 0, 4, .inl (fun _ => 0)))] H := hP
  have hD : va_D A [(a0, .inr (13, [.int 0, .int 0, .ref q1])), (a1, .inl (G.2 0, 2, .inl (upd (upd (fun _ => 0) 0 128) 1 255))), (q1, .inr (17, [.int 0, .ref (X 3), .int 0])), (q2, .inl (G.2 0, 4, .inl (fun _ => 0)))] := hD
  refine lv_astore (lv' := [(4, .ref q2), (0, .ref a0), (1, .ref a1), (2, .ref a2), (3, .int 0)]) hx hb dX14_init_18 hl (by decide) rfl (fun ls hl => ?_)
  refine lv_bipush (v := 8) hx hb dX14_init_20 (by decide) ?_
  refine va_newa (atype := .int) (ty := .int) (a0 := (8, .inl (fun _ => 0))) hx hb (hts _ wq_72) rfl hK hP hD hS hA (fun _ => rfl) (by decide) (by decide) (Nat.le_of_ble_eq_true rfl) (Nat.le_of_ble_eq_true rfl) (Nat.le_of_ble_eq_true rfl) dX14_init_22 (fun q3 cA H hK hP hD hS => ?_)
  obtain rfl : cA = G.2 0 := pz_ty hK 7 0 rfl rfl (fun C h => by cases h)
  have hK : va_K G.1 pz_cl (pz_T G) s := hK.sub [0, 1, 2, 3, 4, 5, 6] rfl
  have hP : va_P G.1 pz_cl [(a0, .inr (13, [.int 0, .int 0, .ref q1])), (a1, .inl (G.2 0, 2, .inl (upd (upd (fun _ => 0) 0 128) 1 255))), (q1, .inr (17, [.int 0, .ref (X 3), .int 0])), (q2, .inl (G.2 0, 4, .inl (fun _ => 0))), (q3, .inl (G.2 0, 8, .inl (fun _ => 0)))] H := hP
  have hD : va_D A [(a0, .inr (13, [.int 0, .int 0, .ref q1])), (a1, .inl (G.2 0, 2, .inl (upd (upd (fun _ => 0) 0 128) 1 255))), (q1, .inr (17, [.int 0, .ref (X 3), .int 0])), (q2, .inl (G.2 0, 4, .inl (fun _ => 0))), (q3, .inl (G.2 0, 8, .inl (fun _ => 0)))] := hD
  refine lv_astore (lv' := [(5, .ref q3), (4, .ref q2), (0, .ref a0), (1, .ref a1), (2, .ref a2), (3, .int 0)]) hx hb dX14_init_24 hl (by decide) rfl (fun ls hl => ?_)
  refine va_new (ci := 17) (fs := [.int 0, .null, .int 0]) (C := "java/util/ArrayList") (T := TJx4a65c) (N := 3) hx hb hts inJx4a65c tyJx4a65c tyJx4a65c_ok hown (hts _ wq_3066) (hts _ wq_1785) (hts _ wq_16) hK hP hD hS hA rfl (pz_dfJx4a65c) (Nat.le_of_ble_eq_true rfl) (Nat.le_of_ble_eq_true rfl) dX14_init_26 (fun q4 H hP hD hS => ?_)
  have hP : va_P G.1 pz_cl [(a0, .inr (13, [.int 0, .int 0, .ref q1])), (a1, .inl (G.2 0, 2, .inl (upd (upd (fun _ => 0) 0 128) 1 255))), (q1, .inr (17, [.int 0, .ref (X 3), .int 0])), (q2, .inl (G.2 0, 4, .inl (fun _ => 0))), (q3, .inl (G.2 0, 8, .inl (fun _ => 0))), (q4, .inr (17, [.int 0, .null, .int 0]))] H := hP
  have hD : va_D A [(a0, .inr (13, [.int 0, .int 0, .ref q1])), (a1, .inl (G.2 0, 2, .inl (upd (upd (fun _ => 0) 0 128) 1 255))), (q1, .inr (17, [.int 0, .ref (X 3), .int 0])), (q2, .inl (G.2 0, 4, .inl (fun _ => 0))), (q3, .inl (G.2 0, 8, .inl (fun _ => 0))), (q4, .inr (17, [.int 0, .null, .int 0]))] := hD
  refine lv_dup hx hb dX14_init_29 rfl ?_
  refine pz_go (wr := [(a0, .inr (13, [.int 0, .int 0, .ref q1])), (a1, .inl (G.2 0, 2, .inl (upd (upd (fun _ => 0) 0 128) 1 255))), (q1, .inr (17, [.int 0, .ref (X 3), .int 0])), (q2, .inl (G.2 0, 4, .inl (fun _ => 0))), (q3, .inl (G.2 0, 8, .inl (fun _ => 0)))]) (vx_runI (As := []) (rest := [.ref q4]) ⟨hx, hb, hml, hown, hts⟩ (cJx4a65c_init_da8c8_1 l hst G X H.size q4) (cwI 0 hts (pz_gC wq_1788) rfl rfl rfl (hts _ wq_16) (hts _ wq_3067) (hts _ wq_1787) rfl (by decide +kernel) ⟨(Nat.le_of_ble_eq_true rfl), (Nat.le_of_ble_eq_true rfl)⟩) (pz_preS hK hP hD hS hA hE [5] rfl rfl) rfl rfl hl.1 rfl (lv_room (Nat.le_of_ble_eq_true rfl)) dX14_init_30 ⟨(Nat.le_of_ble_eq_true rfl), (Nat.le_of_ble_eq_true rfl)⟩) hP hD hS hA [5] [0, 1, 2, 3, 4] rfl rfl rfl (by decide) (fun u H locs hP hD hS => ?_)
  have hP : va_P G.1 pz_cl [(a0, .inr (13, [.int 0, .int 0, .ref q1])), (a1, .inl (G.2 0, 2, .inl (upd (upd (fun _ => 0) 0 128) 1 255))), (q1, .inr (17, [.int 0, .ref (X 3), .int 0])), (q2, .inl (G.2 0, 4, .inl (fun _ => 0))), (q3, .inl (G.2 0, 8, .inl (fun _ => 0))), (q4, .inr (17, [.int 0, .ref (X 3), .int 0]))] H := hP
  have hD : va_D A [(a0, .inr (13, [.int 0, .int 0, .ref q1])), (a1, .inl (G.2 0, 2, .inl (upd (upd (fun _ => 0) 0 128) 1 255))), (q1, .inr (17, [.int 0, .ref (X 3), .int 0])), (q2, .inl (G.2 0, 4, .inl (fun _ => 0))), (q3, .inl (G.2 0, 8, .inl (fun _ => 0))), (q4, .inr (17, [.int 0, .ref (X 3), .int 0]))] := hD
  refine W.eq (g2 := F0 m 33 ls [.ref q4]) rfl ?_
  refine lv_astore (lv' := [(6, .ref q4), (5, .ref q3), (4, .ref q2), (0, .ref a0), (1, .ref a1), (2, .ref a2), (3, .int 0)]) hx hb dX14_init_33 hl (by decide) rfl (fun ls hl => ?_)
  refine lv_iconst (v := 0) hx hb dX14_init_35 (by decide) ?_
  refine lv_istore (lv' := [(7, .int 0), (6, .ref q4), (5, .ref q3), (4, .ref q2), (0, .ref a0), (1, .ref a1), (2, .ref a2), (3, .int 0)]) hx hb dX14_init_36 hl (by decide) rfl (fun ls hl => ?_)
  refine lv_iconst (v := 0) hx hb dX14_init_38 (by decide) ?_
  refine lv_istore (lv' := [(8, .int 0), (7, .int 0), (6, .ref q4), (5, .ref q3), (4, .ref q2), (0, .ref a0), (1, .ref a1), (2, .ref a2), (3, .int 0)]) hx hb dX14_init_39 hl (by decide) rfl (fun ls hl => ?_)
  refine lv_iconst (v := 0) hx hb dX14_init_41 (by decide) ?_
  refine lv_istore (lv' := [(9, .int 0), (8, .int 0), (7, .int 0), (6, .ref q4), (5, .ref q3), (4, .ref q2), (0, .ref a0), (1, .ref a1), (2, .ref a2), (3, .int 0)]) hx hb dX14_init_42 hl (by decide) rfl (fun ls hl => ?_)
  refine lv_aload_n hx hb dX14_init_44 rfl (lv_at hl 6 rfl) ?_
  refine lv_bipush (v := 32) hx hb dX14_init_45 (by decide) ?_
  refine va_put (D := G.1) (ci := 13) (v := .int 32) (ty := tyX14 0) (C := "SourcewrightModel$Run") (T := TX14) (N := 3) hx hb hts inX14 tyX14 tyX14_ok nmX14 hown hK hP hD hS 0 rfl rfl 0 (by decide) (hts _ wq_3081) (fun _ h9 => h9) rfl (by decide +kernel) (by decide +kernel) (by decide +kernel) (Nat.le_of_ble_eq_true rfl) dX14_init_47 (fun H locs hP hD hS => ?_)
  have hP : va_P G.1 pz_cl [(a0, .inr (13, [.int 32, .int 0, .ref q1])), (a1, .inl (G.2 0, 2, .inl (upd (upd (fun _ => 0) 0 128) 1 255))), (q1, .inr (17, [.int 0, .ref (X 3), .int 0])), (q2, .inl (G.2 0, 4, .inl (fun _ => 0))), (q3, .inl (G.2 0, 8, .inl (fun _ => 0))), (q4, .inr (17, [.int 0, .ref (X 3), .int 0]))] H := hP
  have hD : va_D A [(a0, .inr (13, [.int 32, .int 0, .ref q1])), (a1, .inl (G.2 0, 2, .inl (upd (upd (fun _ => 0) 0 128) 1 255))), (q1, .inr (17, [.int 0, .ref (X 3), .int 0])), (q2, .inl (G.2 0, 4, .inl (fun _ => 0))), (q3, .inl (G.2 0, 8, .inl (fun _ => 0))), (q4, .inr (17, [.int 0, .ref (X 3), .int 0]))] := hD
  refine lv_aload_n hx hb dX14_init_50 rfl (lv_at hl 6 rfl) ?_
  refine va_get (D := G.1) (ci := 13) (v := .int 32) (C := "SourcewrightModel$Run") (T := TX14) (N := 3) hx hb hts inX14 hown hK hP 0 rfl rfl 0 (by decide) (hts _ wq_3081) (fun _ h9 => h9) rfl dX14_init_51 ?_
  refine lv_bipush (v := 32) hx hb dX14_init_54 (by decide) ?_
  refine lv_icmp_ne (tgt := 739) hx hb dX14_init_56 (by decide) (fun hc => absurd hc (by decide)) (fun _ => ?_)
  refine lv_aload_n hx hb dX14_init_59 rfl (lv_at hl 7 rfl) ?_
  refine lv_iload hx hb dX14_init_60 (lv_at hl 0 rfl) ?_
  refine pz_go (wr := [(a0, .inr (13, [.int 32, .int 0, .ref q1])), (q1, .inr (17, [.int 0, .ref (X 3), .int 0])), (q2, .inl (G.2 0, 4, .inl (fun _ => 0))), (q3, .inl (G.2 0, 8, .inl (fun _ => 0))), (q4, .inr (17, [.int 0, .ref (X 3), .int 0]))]) (vx_runSN (As := [.ref a1, .int 0]) (rest := []) ⟨hx, hb, hml, hown, hts⟩ (cX16_isWhole_2 l hst G X H.size a1) ⟨va_cnB 2 hts (pz_gC wq_2140) rfl rfl rfl (hE.2.2.2.2.2.2.2.2.1 _ nx_3068) (hts _ wq_13) (by decide +kernel) ⟨(Nat.le_of_ble_eq_true rfl), (Nat.le_of_ble_eq_true rfl)⟩, hts _ wq_2139, trivial⟩ (pz_preS hK hP hD hS hA hE [1] rfl rfl) rfl rfl hl.1 rfl (lv_room (Nat.le_of_ble_eq_true rfl)) dX14_init_62 ⟨(Nat.le_of_ble_eq_true rfl), (Nat.le_of_ble_eq_true rfl)⟩) hP hD hS hA [1] [0, 2, 3, 4, 5] rfl rfl rfl (by decide) (fun u H locs hP hD hS => ?_)
  have hP : va_P G.1 pz_cl [(a0, .inr (13, [.int 32, .int 0, .ref q1])), (q1, .inr (17, [.int 0, .ref (X 3), .int 0])), (q2, .inl (G.2 0, 4, .inl (fun _ => 0))), (q3, .inl (G.2 0, 8, .inl (fun _ => 0))), (q4, .inr (17, [.int 0, .ref (X 3), .int 0])), (a1, .inl (G.2 0, 2, .inl (upd (upd (fun _ => 0) 0 128) 1 255)))] H := hP
  have hD : va_D A [(a0, .inr (13, [.int 32, .int 0, .ref q1])), (q1, .inr (17, [.int 0, .ref (X 3), .int 0])), (q2, .inl (G.2 0, 4, .inl (fun _ => 0))), (q3, .inl (G.2 0, 8, .inl (fun _ => 0))), (q4, .inr (17, [.int 0, .ref (X 3), .int 0])), (a1, .inl (G.2 0, 2, .inl (upd (upd (fun _ => 0) 0 128) 1 255)))] := hD
  refine W.eq (g2 := F0 m 65 ls [.int 1]) rfl ?_
  refine lv_if_ne (tgt := 77) hx hb dX14_init_65 (by decide) (fun _ => ?_) (fun hc => absurd hc (by decide))
  refine lv_aload_n hx hb dX14_init_77 rfl (lv_at hl 7 rfl) ?_
  refine lv_iload hx hb dX14_init_78 (lv_at hl 0 rfl) ?_
  refine pz_go (wr := [(a0, .inr (13, [.int 32, .int 0, .ref q1])), (q1, .inr (17, [.int 0, .ref (X 3), .int 0])), (q2, .inl (G.2 0, 4, .inl (fun _ => 0))), (q3, .inl (G.2 0, 8, .inl (fun _ => 0))), (q4, .inr (17, [.int 0, .ref (X 3), .int 0]))]) (vx_runSN (As := [.ref a1, .int 0]) (rest := []) ⟨hx, hb, hml, hown, hts⟩ (cX16_isGood_1 l hst G X H.size a1) ⟨va_cnB 2 hts (pz_gC wq_2159) rfl rfl rfl (hE.2.2.2.2.2.2.2.2.1 _ nx_3069) (hts _ wq_13) (by decide +kernel) ⟨(Nat.le_of_ble_eq_true rfl), (Nat.le_of_ble_eq_true rfl)⟩, hts _ wq_2158, trivial⟩ (pz_preS hK hP hD hS hA hE [5] rfl rfl) rfl rfl hl.1 rfl (lv_room (Nat.le_of_ble_eq_true rfl)) dX14_init_80 ⟨(Nat.le_of_ble_eq_true rfl), (Nat.le_of_ble_eq_true rfl)⟩) hP hD hS hA [5] [0, 1, 2, 3, 4] rfl rfl rfl (by decide) (fun u H locs hP hD hS => ?_)
  have hP : va_P G.1 pz_cl [(a0, .inr (13, [.int 32, .int 0, .ref q1])), (q1, .inr (17, [.int 0, .ref (X 3), .int 0])), (q2, .inl (G.2 0, 4, .inl (fun _ => 0))), (q3, .inl (G.2 0, 8, .inl (fun _ => 0))), (q4, .inr (17, [.int 0, .ref (X 3), .int 0])), (a1, .inl (G.2 0, 2, .inl (upd (upd (fun _ => 0) 0 128) 1 255)))] H := hP
  have hD : va_D A [(a0, .inr (13, [.int 32, .int 0, .ref q1])), (q1, .inr (17, [.int 0, .ref (X 3), .int 0])), (q2, .inl (G.2 0, 4, .inl (fun _ => 0))), (q3, .inl (G.2 0, 8, .inl (fun _ => 0))), (q4, .inr (17, [.int 0, .ref (X 3), .int 0])), (a1, .inl (G.2 0, 2, .inl (upd (upd (fun _ => 0) 0 128) 1 255)))] := hD
  refine W.eq (g2 := F0 m 83 ls [.int 1]) rfl ?_
  refine lv_if_ne (tgt := 95) hx hb dX14_init_83 (by decide) (fun _ => ?_) (fun hc => absurd hc (by decide))
  refine lv_aload_n hx hb dX14_init_95 rfl (lv_at hl 6 rfl) ?_
  refine va_get (D := G.1) (ci := 13) (v := .int 0) (C := "SourcewrightModel$Run") (T := TX14) (N := 3) hx hb hts inX14 hown hK hP 0 rfl rfl 1 (by decide) (hts _ wq_3083) (fun _ h9 => h9) rfl dX14_init_96 ?_
  refine lv_iload_n hx hb dX14_init_99 rfl (lv_at hl 9 rfl) ?_
  refine lv_icmp_ne (tgt := 109) hx hb dX14_init_100 (by decide) (fun hc => absurd hc (by decide)) (fun _ => ?_)
  refine lv_aload_n hx hb dX14_init_103 rfl (lv_at hl 6 rfl) ?_
  refine lv_bipush (v := 115) hx hb dX14_init_104 (by decide) ?_
  refine va_put (D := G.1) (ci := 13) (v := .int 115) (ty := tyX14 0) (C := "SourcewrightModel$Run") (T := TX14) (N := 3) hx hb hts inX14 tyX14 tyX14_ok nmX14 hown hK hP hD hS 0 rfl rfl 0 (by decide) (hts _ wq_3081) (fun _ h9 => h9) rfl (by decide +kernel) (by decide +kernel) (by decide +kernel) (Nat.le_of_ble_eq_true rfl) dX14_init_106 (fun H locs hP hD hS => ?_)
  have hP : va_P G.1 pz_cl [(a0, .inr (13, [.int 115, .int 0, .ref q1])), (q1, .inr (17, [.int 0, .ref (X 3), .int 0])), (q2, .inl (G.2 0, 4, .inl (fun _ => 0))), (q3, .inl (G.2 0, 8, .inl (fun _ => 0))), (q4, .inr (17, [.int 0, .ref (X 3), .int 0])), (a1, .inl (G.2 0, 2, .inl (upd (upd (fun _ => 0) 0 128) 1 255)))] H := hP
  have hD : va_D A [(a0, .inr (13, [.int 115, .int 0, .ref q1])), (q1, .inr (17, [.int 0, .ref (X 3), .int 0])), (q2, .inl (G.2 0, 4, .inl (fun _ => 0))), (q3, .inl (G.2 0, 8, .inl (fun _ => 0))), (q4, .inr (17, [.int 0, .ref (X 3), .int 0])), (a1, .inl (G.2 0, 2, .inl (upd (upd (fun _ => 0) 0 128) 1 255)))] := hD
  refine lv_aload_n hx hb dX14_init_109 rfl (lv_at hl 6 rfl) ?_
  refine va_get (D := G.1) (ci := 13) (v := .int 115) (C := "SourcewrightModel$Run") (T := TX14) (N := 3) hx hb hts inX14 hown hK hP 0 rfl rfl 0 (by decide) (hts _ wq_3081) (fun _ h9 => h9) rfl dX14_init_110 ?_
  refine lv_bipush (v := 32) hx hb dX14_init_113 (by decide) ?_
  refine lv_icmp_eq (tgt := 119) hx hb dX14_init_115 (by decide) (fun hc => absurd hc (by decide)) (fun _ => ?_)
  exact pz_rv hx hb hr hlocks hS (Nat.le_of_ble_eq_true rfl) (Nat.le_of_ble_eq_true rfl) dX14_init_118 (q1, q2, q3, q4) rfl (hP.sub [0, 5, 1, 2, 3, 4] rfl) (hD.sub [0, 5, 1, 2, 3, 4] rfl rfl)
