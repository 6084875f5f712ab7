set_option maxHeartbeats 4000000 in
set_option maxRecDepth 100000 in
theorem cX16_rowOf_1 (l : Launch) (hst : l.stackTraces = false) (G : pz_G) (X : Nat → Nat) (sz : Nat) (a0 : Nat) : pz_MR (S := Nat) l yX16_rowOf (pz_cd yX16_rowOf cX16_rowOf 3 (some (.array .int))) 1 20 1 0 G X sz [(a0, .inr (17, [.int 0, .ref (X 3), .int 0]))] [.ref a0] (fun u => some (.ref u)) (fun u => [(a0, .inr (17, [.int 0, .ref (X 3), .int 0])), (u, .inl (G.2 0, 0, .inl (fun _ => 0)))]) := by
  refine pz_onR (by decide +kernel) (Nat.le_of_ble_eq_true rfl) ?_
  intro p e s m below meth c A hx hb hr hml hown hts hlocks hin hx0 hP hK hD hS hA hE ls hl
  have hown : s.vm.findClass "SourcewrightModel" = some m.cls := hown
  have hl : lv_has ls 3 [(0, .ref a0)] := hl
  refine lv_aload_n hx hb dX16_rowOf_0 rfl (lv_at hl 0 rfl) ?_
  refine pz_go (wr := []) (vx_runV (C := "java/util/ArrayList") (As := []) (rest := []) ⟨hx, hb, hml, hown, hts⟩ (cJx4a65c_size_8abf5_1 l hst G X s.heap.size a0) (cwV 0 hts (pz_gV wq_1846 wq_1847 wq_1848 wq_16 wq_1849) rfl rfl rfl (by decide +kernel) ⟨(Nat.le_of_ble_eq_true rfl), (Nat.le_of_ble_eq_true rfl)⟩) (pz_preV (C := ("java/util/ArrayList", TJx4a65c, 3)) hK hP hD hS hA hE 0 (ci := 17) rfl rfl [0] rfl rfl) rfl rfl hl.1 rfl (lv_room (Nat.le_of_ble_eq_true rfl)) dX16_rowOf_1 ⟨(Nat.le_of_ble_eq_true rfl), (Nat.le_of_ble_eq_true rfl)⟩) hP hD hS hA [0] [] rfl rfl rfl (by decide) (fun u H locs hP hD hS => ?_)
  have hP : va_P G.1 pz_cl [(a0, .inr (17, [.int 0, .ref (X 3), .int 0]))] H := hP
  have hD : va_D A [(a0, .inr (17, [.int 0, .ref (X 3), .int 0]))] := hD
  refine W.eq (g2 := F0 m 4 ls [.int 0]) rfl ?_
  refine va_newa (atype := .int) (ty := .int) (a0 := (0, .inl (fun _ => 0))) hx hb (hts _ wq_72) rfl hK hP hD hS hA (fun _ => rfl) (by decide) (by decide) (Nat.le_of_ble_eq_true rfl) (Nat.le_of_ble_eq_true rfl) (Nat.le_of_ble_eq_true rfl) dX16_rowOf_4 (fun q1 cA H hK hP hD hS => ?_)
  obtain rfl : cA = G.2 0 := pz_ty hK 7 0 rfl rfl (fun C h => by cases h)
  have hK : va_K G.1 pz_cl (pz_T G) s := hK.sub [0, 1, 2, 3, 4, 5, 6] rfl
  have hP : va_P G.1 pz_cl [(a0, .inr (17, [.int 0, .ref (X 3), .int 0])), (q1, .inl (G.2 0, 0, .inl (fun _ => 0)))] H := hP
  have hD : va_D A [(a0, .inr (17, [.int 0, .ref (X 3), .int 0])), (q1, .inl (G.2 0, 0, .inl (fun _ => 0)))] := hD
  refine lv_astore_n (lv' := [(1, .ref q1), (0, .ref a0)]) hx hb dX16_rowOf_6 rfl hl (by decide) rfl (fun ls hl => ?_)
  refine lv_iconst (v := 0) hx hb dX16_rowOf_7 (by decide) ?_
  refine lv_istore_n (lv' := [(2, .int 0), (1, .ref q1), (0, .ref a0)]) hx hb dX16_rowOf_8 rfl hl (by decide) rfl (fun ls hl => ?_)
  refine lv_iload_n hx hb dX16_rowOf_9 rfl (lv_at hl 0 rfl) ?_
  refine lv_aload_n hx hb dX16_rowOf_10 rfl (lv_at hl 1 rfl) ?_
  refine va_alen (v := 0) hx hb hK hP 1 0 rfl rfl (by show Int32.ofNat 0 = 0; decide) dX16_rowOf_11 ?_
  refine lv_icmp_ge (tgt := 35) hx hb dX16_rowOf_12 (by decide) (fun _ => ?_) (fun hc => absurd hc (by decide))
  refine lv_aload_n hx hb dX16_rowOf_35 rfl (lv_at hl 1 rfl) ?_
  exact pz_ra hx hb hr hlocks (Or.inr ⟨_, rfl⟩) (Or.inr ⟨_, rfl⟩) hS (Nat.le_of_ble_eq_true rfl) (Nat.le_of_ble_eq_true rfl) dX16_rowOf_36 q1 rfl (hP.sub [0, 1] rfl) (hD.sub [0, 1] rfl rfl)
set_option maxHeartbeats 4000000 in
set_option maxRecDepth 100000 in
theorem cJ6_valueOf_2dffe_3 (l : Launch) (hst : l.stackTraces = false) (G : pz_G) (X : Nat → Nat) (sz : Nat) : pz_MR (S := Unit) l yJ6_valueOf_2dffe (pz_cd yJ6_valueOf_2dffe cJ6_valueOf_2dffe 1 (some (.object "java/lang/Integer"))) 0 0 0 0 G X sz [] [.int 0] (fun u => some (.ref (X (1000 + 128)))) (fun u => []) := by
  refine pz_onR (by decide +kernel) (Nat.le_of_ble_eq_true rfl) ?_
  intro p e s m below meth c A hx hb hr hml hown hts hlocks hin hx0 hP hK hD hS hA hE ls hl
  have hown : s.vm.findClass "java/lang/Integer" = some m.cls := hown
  have hl : lv_has ls 1 [(0, .int 0)] := hl
  refine lv_iload_n hx hb dJ6_valueOf_2dffe_0 rfl (lv_at hl 0 rfl) ?_
  refine lv_bipush (v := (-128)) hx hb dJ6_valueOf_2dffe_1 (by decide) ?_
  refine lv_icmp_lt (tgt := 23) hx hb dJ6_valueOf_2dffe_3 (by decide) (fun hc => absurd hc (by decide)) (fun _ => ?_)
  refine lv_iload_n hx hb dJ6_valueOf_2dffe_6 rfl (lv_at hl 0 rfl) ?_
  refine va_gets hx hb hE.2.2.2.2.1.1 hS hown (hts _ wq_1853) (fun _ h9 => h9) dJ6_valueOf_2dffe_7 ?_
  refine lv_icmp_gt (tgt := 23) hx hb dJ6_valueOf_2dffe_10 (by decide) (fun hc => absurd hc (by decide)) (fun _ => ?_)
  refine va_gets hx hb hE.2.2.2.2.1.2.1 hS hown (hts _ wq_1855) (fun _ h9 => h9) dJ6_valueOf_2dffe_13 ?_
  refine lv_iload_n hx hb dJ6_valueOf_2dffe_16 rfl (lv_at hl 0 rfl) ?_
  refine lv_sipush (v := 128) hx hb dJ6_valueOf_2dffe_17 (by decide) ?_
  refine lv_iadd hx hb dJ6_valueOf_2dffe_20 (pz_K (y := 128) (by decide) ?_)
  refine vb_tq (v := .ref (X (1000 + 128))) hx hb hE.2.2.2.2.1.2.2.1 hS (pz_vi rfl) rfl dJ6_valueOf_2dffe_21 ?_
  exact pz_ra hx hb hr hlocks (Or.inl ⟨_, rfl⟩) (Or.inr ⟨_, rfl⟩) hS (Nat.le_of_ble_eq_true rfl) (Nat.le_of_ble_eq_true rfl) dJ6_valueOf_2dffe_22 () rfl (hP.sub [] rfl) (hD.sub [] rfl rfl)
set_option maxHeartbeats 4000000 in
set_option maxRecDepth 100000 in
theorem cJx4a65c_add_72be8_3 (l : Launch) (hst : l.stackTraces = false) (G : pz_G) (X : Nat → Nat) (sz : Nat) (a0 : Nat) : pz_MR (S := Nat) l yJx4a65c_add_72be8 (pz_cd yJx4a65c_add_72be8 cJx4a65c_add_72be8 4 none) 3 57 1 10 G X sz [(a0, .inr (17, [.int 1, .ref (X 3), .int 0]))] [.ref a0, .ref (X (1000 + 128)), .ref (X 3), .int 0] (fun u => none) (fun u => [(a0, .inr (17, [.int 1, .ref u, .int 1])), (u, .inl (G.2 5, 10, .inr (.inr (.inr (.inr (va_up (fun _ => none) 0 (some (X (1000 + 128)))))))))]) := by
  refine pz_onR (by decide +kernel) (Nat.le_of_ble_eq_true rfl) ?_
  intro p e s m below meth c A hx hb hr hml hown hts hlocks hin hx0 hP hK hD hS hA hE ls hl
  have hown : s.vm.findClass "java/util/ArrayList" = some m.cls := hown
  have hl : lv_has ls 4 [(0, .ref a0), (1, .ref (X (1000 + 128))), (2, .ref (X 3)), (3, .int 0)] := hl
  refine lv_iload_n hx hb dJx4a65c_add_72be8_0 rfl (lv_at hl 3 rfl) ?_
  refine lv_aload_n hx hb dJx4a65c_add_72be8_1 rfl (lv_at hl 2 rfl) ?_
  refine va_tlen (v := 0) hx hb hE.2.2.2.1.2.1 hS (by decide) dJx4a65c_add_72be8_2 ?_
  refine lv_icmp_ne (tgt := 11) hx hb dJx4a65c_add_72be8_3 (by decide) (fun hc => absurd hc (by decide)) (fun _ => ?_)
  refine lv_aload_n hx hb dJx4a65c_add_72be8_6 rfl (lv_at hl 0 rfl) ?_
  refine pz_go (wr := []) (vx_runV (C := "java/util/ArrayList") (As := []) (rest := []) ⟨hx, hb, hml, hown, hts⟩ (cJx4a65c_grow_d5877_1 l hst G X s.heap.size a0) (cwV 0 hts (pz_gV wq_1878 wq_1880 wqs_85 wq_16 wq_1881) rfl rfl rfl (by decide +kernel) ⟨(Nat.le_of_ble_eq_true rfl), (Nat.le_of_ble_eq_true rfl)⟩) (pz_preV (C := ("java/util/ArrayList", TJx4a65c, 3)) hK hP hD hS hA hE 0 (ci := 17) rfl rfl [0] rfl rfl) rfl rfl hl.1 rfl (lv_room (Nat.le_of_ble_eq_true rfl)) dJx4a65c_add_72be8_7 ⟨(Nat.le_of_ble_eq_true rfl), (Nat.le_of_ble_eq_true rfl)⟩) hP hD hS hA [0] [] rfl rfl rfl (by decide) (fun q1 H locs hP hD hS => ?_)
  have hP : va_P G.1 pz_cl [(a0, .inr (17, [.int 1, .ref q1, .int 0])), (q1, .inl (G.2 5, 10, .inr (.inr (.inr (.inr (fun _ => none))))))] H := hP
  have hD : va_D A [(a0, .inr (17, [.int 1, .ref q1, .int 0])), (q1, .inl (G.2 5, 10, .inr (.inr (.inr (.inr (fun _ => none))))))] := hD
  refine W.eq (g2 := F0 m 10 ls [.ref q1]) rfl ?_
  refine lv_astore_n (lv' := [(2, .ref q1), (0, .ref a0), (1, .ref (X (1000 + 128))), (3, .int 0)]) hx hb dJx4a65c_add_72be8_10 rfl hl (by decide) rfl (fun ls hl => ?_)
  refine lv_aload_n hx hb dJx4a65c_add_72be8_11 rfl (lv_at hl 0 rfl) ?_
  refine lv_iload_n hx hb dJx4a65c_add_72be8_12 rfl (lv_at hl 3 rfl) ?_
  refine lv_aload_n hx hb dJx4a65c_add_72be8_13 rfl (lv_at hl 2 rfl) ?_
  refine vb_astq (E := "java/lang/Object") (C := "java/lang/Integer") hx hb hK hP hD hS 1 5 rfl rfl (va_Orecv (hE.2.2.2.2.1.2.2.2.1 128 (by decide)) hS) (vb_asgC (hE.2.2.2.2.2.2.2.2.1 _ nx_3213)) (pz_vi rfl) dJx4a65c_add_72be8_14 (fun H locs hP hD hS => ?_)
  have hP : va_P G.1 pz_cl [(a0, .inr (17, [.int 1, .ref q1, .int 0])), (q1, .inl (G.2 5, 10, .inr (.inr (.inr (.inr (va_up (fun _ => none) 0 (some (X (1000 + 128)))))))))] H := hP
  have hD : va_D A [(a0, .inr (17, [.int 1, .ref q1, .int 0])), (q1, .inl (G.2 5, 10, .inr (.inr (.inr (.inr (va_up (fun _ => none) 0 (some (X (1000 + 128)))))))))] := hD
  refine lv_aload_n hx hb dJx4a65c_add_72be8_15 rfl (lv_at hl 1 rfl) ?_
  refine lv_iload_n hx hb dJx4a65c_add_72be8_16 rfl (lv_at hl 3 rfl) ?_
  refine lv_iconst (v := 1) hx hb dJx4a65c_add_72be8_17 (by decide) ?_
  refine lv_iadd hx hb dJx4a65c_add_72be8_18 (pz_K (y := 1) (by decide) ?_)
  refine va_put (D := G.1) (ci := 17) (v := .int 1) (ty := tyJx4a65c 2) (C := "java/util/ArrayList") (T := TJx4a65c) (N := 3) hx hb hts inJx4a65c tyJx4a65c tyJx4a65c_ok nmJx4a65c hown hK hP hD hS 0 rfl rfl 2 (by decide) (hts _ wq_1801) (fun _ h9 => h9) rfl (by decide +kernel) rfl rfl (Nat.le_of_ble_eq_true rfl) dJx4a65c_add_72be8_19 (fun H locs hP hD hS => ?_)
  have hP : va_P G.1 pz_cl [(a0, .inr (17, [.int 1, .ref q1, .int 1])), (q1, .inl (G.2 5, 10, .inr (.inr (.inr (.inr (va_up (fun _ => none) 0 (some (X (1000 + 128)))))))))] H := hP
  have hD : va_D A [(a0, .inr (17, [.int 1, .ref q1, .int 1])), (q1, .inl (G.2 5, 10, .inr (.inr (.inr (.inr (va_up (fun _ => none) 0 (some (X (1000 + 128)))))))))] := hD
  exact pz_rv hx hb hr hlocks hS (Nat.le_of_ble_eq_true rfl) (Nat.le_of_ble_eq_true rfl) dJx4a65c_add_72be8_22 q1 rfl (hP.sub [0, 1] rfl) (hD.sub [0, 1] rfl rfl)
set_option maxHeartbeats 4000000 in
set_option maxRecDepth 100000 in
theorem cJx4a65c_add_9ea2d_3 (l : Launch) (hst : l.stackTraces = false) (G : pz_G) (X : Nat → Nat) (sz : Nat) (a0 : Nat) : pz_MR (S := Nat) l yJx4a65c_add_9ea2d (pz_cd yJx4a65c_add_9ea2d cJx4a65c_add_9ea2d 2 (some .boolean)) 4 80 1 10 G X sz [(a0, .inr (17, [.int 0, .ref (X 3), .int 0]))] [.ref a0, .ref (X (1000 + 128))] (fun u => some (.int 1)) (fun u => [(a0, .inr (17, [.int 1, .ref u, .int 1])), (u, .inl (G.2 5, 10, .inr (.inr (.inr (.inr (va_up (fun _ => none) 0 (some (X (1000 + 128)))))))))]) := by
  refine pz_onR (by decide +kernel) (Nat.le_of_ble_eq_true rfl) ?_
  intro p e s m below meth c A hx hb hr hml hown hts hlocks hin hx0 hP hK hD hS hA hE ls hl
  have hown : s.vm.findClass "java/util/ArrayList" = some m.cls := hown
  have hl : lv_has ls 2 [(0, .ref a0), (1, .ref (X (1000 + 128)))] := hl
  refine lv_aload_n hx hb dJx4a65c_add_9ea2d_0 rfl (lv_at hl 0 rfl) ?_
  refine lv_dup hx hb dJx4a65c_add_9ea2d_1 rfl ?_
  refine va_get (D := G.1) (ci := 17) (v := .int 0) (C := "java/util/ArrayList") (T := TJx4a65c) (N := 3) hx hb hts inJx4a65c hown hK hP 0 rfl rfl 0 (by decide) (hts _ wq_1805) (fun x9 h9 => u_same (hts _ wq_1804) x9 h9) rfl dJx4a65c_add_9ea2d_2 ?_
  refine lv_iconst (v := 1) hx hb dJx4a65c_add_9ea2d_5 (by decide) ?_
  refine lv_iadd hx hb dJx4a65c_add_9ea2d_6 (pz_K (y := 1) (by decide) ?_)
  refine va_put (D := G.1) (ci := 17) (v := .int 1) (ty := tyJx4a65c 0) (C := "java/util/ArrayList") (T := TJx4a65c) (N := 3) hx hb hts inJx4a65c tyJx4a65c tyJx4a65c_ok nmJx4a65c hown hK hP hD hS 0 rfl rfl 0 (by decide) (hts _ wq_1805) (fun x9 h9 => u_same (hts _ wq_1804) x9 h9) rfl (by decide +kernel) rfl rfl (Nat.le_of_ble_eq_true rfl) dJx4a65c_add_9ea2d_7 (fun H locs hP hD hS => ?_)
  have hP : va_P G.1 pz_cl [(a0, .inr (17, [.int 1, .ref (X 3), .int 0]))] H := hP
  have hD : va_D A [(a0, .inr (17, [.int 1, .ref (X 3), .int 0]))] := hD
  refine lv_aload_n hx hb dJx4a65c_add_9ea2d_10 rfl (lv_at hl 0 rfl) ?_
  refine lv_aload_n hx hb dJx4a65c_add_9ea2d_11 rfl (lv_at hl 1 rfl) ?_
  refine lv_aload_n hx hb dJx4a65c_add_9ea2d_12 rfl (lv_at hl 0 rfl) ?_
  refine va_get (D := G.1) (ci := 17) (v := .ref (X 3)) (C := "java/util/ArrayList") (T := TJx4a65c) (N := 3) hx hb hts inJx4a65c hown hK hP 0 rfl rfl 1 (by decide) (hts _ wq_1798) (fun _ h9 => h9) rfl dJx4a65c_add_9ea2d_13 ?_
  refine lv_aload_n hx hb dJx4a65c_add_9ea2d_16 rfl (lv_at hl 0 rfl) ?_
  refine va_get (D := G.1) (ci := 17) (v := .int 0) (C := "java/util/ArrayList") (T := TJx4a65c) (N := 3) hx hb hts inJx4a65c hown hK hP 0 rfl rfl 2 (by decide) (hts _ wq_1801) (fun _ h9 => h9) rfl dJx4a65c_add_9ea2d_17 ?_
  refine pz_go (wr := []) (vx_runV (C := "java/util/ArrayList") (As := [.ref (X (1000 + 128)), .ref (X 3), .int 0]) (rest := []) ⟨hx, hb, hml, hown, hts⟩ (cJx4a65c_add_72be8_3 l hst G X H.size a0) (cwV 3 hts (pz_gV wq_1874 wq_1876 wqs_84 wq_16 wq_1877) rfl rfl rfl (by decide +kernel) ⟨(Nat.le_of_ble_eq_true rfl), (Nat.le_of_ble_eq_true rfl)⟩) (pz_preV (C := ("java/util/ArrayList", TJx4a65c, 3)) hK hP hD hS hA hE 0 (ci := 17) rfl rfl [0] rfl rfl) rfl rfl hl.1 rfl (lv_room (Nat.le_of_ble_eq_true rfl)) dJx4a65c_add_9ea2d_20 ⟨(Nat.le_of_ble_eq_true rfl), (Nat.le_of_ble_eq_true rfl)⟩) hP hD hS hA [0] [] rfl rfl rfl (by decide) (fun q1 H locs hP hD hS => ?_)
  have hP : va_P G.1 pz_cl [(a0, .inr (17, [.int 1, .ref q1, .int 1])), (q1, .inl (G.2 5, 10, .inr (.inr (.inr (.inr (va_up (fun _ => none) 0 (some (X (1000 + 128)))))))))] H := hP
  have hD : va_D A [(a0, .inr (17, [.int 1, .ref q1, .int 1])), (q1, .inl (G.2 5, 10, .inr (.inr (.inr (.inr (va_up (fun _ => none) 0 (some (X (1000 + 128)))))))))] := hD
  refine W.eq (g2 := F0 m 23 ls []) rfl ?_
  refine lv_iconst (v := 1) hx hb dJx4a65c_add_9ea2d_23 (by decide) ?_
  exact pz_rz hx hb hr hlocks (by decide +kernel) hS (Nat.le_of_ble_eq_true rfl) (Nat.le_of_ble_eq_true rfl) dJx4a65c_add_9ea2d_24 q1 rfl (hP.sub [0, 1] rfl) (hD.sub [0, 1] rfl rfl)
set_option maxHeartbeats 4000000 in
set_option maxRecDepth 100000 in
theorem cJ7_copyOf_6403c_1 (l : Launch) (hst : l.stackTraces = false) (G : pz_G) (X : Nat → Nat) (sz : Nat) : pz_MR (S := Nat) l yJ7_copyOf_6403c (pz_cd yJ7_copyOf_6403c cJ7_copyOf_6403c 4 (some (.array (.object "java/lang/Object")))) 1 40 1 0 G X sz [] [.ref (X 3), .int 0, .ref (X 5)] (fun u => some (.ref u)) (fun u => [(u, .inl (G.2 5, 0, .inr (.inr (.inr (.inr (fun _ => none))))))]) := by
  refine pz_onR (by decide +kernel) (Nat.le_of_ble_eq_true rfl) ?_
  intro p e s m below meth c A hx hb hr hml hown hts hlocks hin hx0 hP hK hD hS hA hE ls hl
  have hown : s.vm.findClass "java/util/Arrays" = some m.cls := hown
  have hl : lv_has ls 4 [(0, .ref (X 3)), (1, .int 0), (2, .ref (X 5))] := hl
  refine lv_aload_n hx hb dJ7_copyOf_6403c_0 rfl (lv_at hl 2 rfl) ?_
  refine va_ldcM hx hb hown (hts _ wq_1934) hE.2.2.2.2.2.2.1 dJ7_copyOf_6403c_1 ?_
  refine lv_acmp_ne (rx := (some (X 5))) (ry := (some (X 5))) (tgt := 13) hx hb dJ7_copyOf_6403c_3 (by decide) (fun hc => absurd rfl hc) (fun _ => ?_)
  refine lv_iload_n hx hb dJ7_copyOf_6403c_6 rfl (lv_at hl 1 rfl) ?_
  refine va_newq (N' := 0) hx hb hown (hts _ wq_1936) hE.2.2.2.2.2.2.2.2.2.2.1 hK hP hD hS hA (by decide) (by decide) (Nat.le_of_ble_eq_true rfl) (Nat.le_of_ble_eq_true rfl) (Nat.le_of_ble_eq_true rfl) dJ7_copyOf_6403c_7 (fun q1 cA H hK hP hD hS => ?_)
  obtain rfl : cA = G.2 5 := pz_tyO hK 7 5 rfl rfl
  have hK : va_K G.1 pz_cl (pz_T G) s := hK.sub [0, 1, 2, 3, 4, 5, 6] rfl
  have hP : va_P G.1 pz_cl [(q1, .inl (G.2 5, 0, .inr (.inr (.inr (.inr (fun _ => none))))))] H := hP
  have hD : va_D A [(q1, .inl (G.2 5, 0, .inr (.inr (.inr (.inr (fun _ => none))))))] := hD
  refine lv_goto (tgt := 24) hx hb dJ7_copyOf_6403c_10 (by decide) ?_
  refine lv_astore_n (lv' := [(3, .ref q1), (0, .ref (X 3)), (1, .int 0), (2, .ref (X 5))]) hx hb dJ7_copyOf_6403c_24 rfl hl (by decide) rfl (fun ls hl => ?_)
  refine lv_aload_n hx hb dJ7_copyOf_6403c_25 rfl (lv_at hl 1 rfl) ?_
  refine lv_iconst (v := 0) hx hb dJ7_copyOf_6403c_26 (by decide) ?_
  refine lv_aload_n hx hb dJ7_copyOf_6403c_27 rfl (lv_at hl 0 rfl) ?_
  refine lv_iconst (v := 0) hx hb dJ7_copyOf_6403c_28 (by decide) ?_
  refine lv_aload_n hx hb dJ7_copyOf_6403c_29 rfl (lv_at hl 1 rfl) ?_
  refine va_tlen (v := 0) hx hb hE.2.2.2.1.2.1 hS (by decide) dJ7_copyOf_6403c_30 ?_
  refine lv_iload_n hx hb dJ7_copyOf_6403c_31 rfl (lv_at hl 2 rfl) ?_
  refine va_mmin hx hb (hml.trans hl.1.symm) hown (hts _ wq_1937) (hts _ wq_517) (hts _ wq_22) (hts _ wq_518) (Nat.le_of_ble_eq_true rfl) (Nat.le_of_ble_eq_true rfl) (Nat.le_of_ble_eq_true rfl) (Nat.le_of_ble_eq_true rfl) dJ7_copyOf_6403c_32 (pz_K (y := 0) (by decide) ?_)
  refine pz_copy0 hx hb (hml.trans hl.1.symm) hown (hts _ wq_1938) (hts _ wq_1087) (hts _ wq_1086) (hts _ wq_28) hK hP hS 0 rfl hE.2.2.2.1.2.2 hE.2.2.2.1.2.1 (Nat.le_of_ble_eq_true rfl) (Nat.le_of_ble_eq_true rfl) dJ7_copyOf_6403c_35 ?_
  refine W.eq (g2 := F0 m 38 ls []) rfl ?_
  refine lv_aload_n hx hb dJ7_copyOf_6403c_38 rfl (lv_at hl 0 rfl) ?_
  exact pz_ra hx hb hr hlocks (Or.inr ⟨_, rfl⟩) (Or.inr ⟨_, rfl⟩) hS (Nat.le_of_ble_eq_true rfl) (Nat.le_of_ble_eq_true rfl) dJ7_copyOf_6403c_39 q1 rfl (hP.sub [0] rfl) (hD.sub [0] rfl rfl)
set_option maxHeartbeats 4000000 in
set_option maxRecDepth 100000 in
theorem cJ7_copyOf_1904c_1 (l : Launch) (hst : l.stackTraces = false) (G : pz_G) (X : Nat → Nat) (sz : Nat) : pz_MR (S := Nat) l yJ7_copyOf_1904c (pz_cd yJ7_copyOf_1904c cJ7_copyOf_1904c 2 (some (.array (.object "java/lang/Object")))) 2 63 1 0 G X sz [] [.ref (X 3), .int 0] (fun u => some (.ref u)) (fun u => [(u, .inl (G.2 5, 0, .inr (.inr (.inr (.inr (fun _ => none))))))]) := by
  refine pz_onR (by decide +kernel) (Nat.le_of_ble_eq_true rfl) ?_
  intro p e s m below meth c A hx hb hr hml hown hts hlocks hin hx0 hP hK hD hS hA hE ls hl
  have hown : s.vm.findClass "java/util/Arrays" = some m.cls := hown
  have hl : lv_has ls 2 [(0, .ref (X 3)), (1, .int 0)] := hl
  refine lv_aload_n hx hb dJ7_copyOf_1904c_0 rfl (lv_at hl 0 rfl) ?_
  refine lv_iload_n hx hb dJ7_copyOf_1904c_1 rfl (lv_at hl 1 rfl) ?_
  refine lv_aload_n hx hb dJ7_copyOf_1904c_2 rfl (lv_at hl 0 rfl) ?_
  refine va_getC (C := "[Ljava/lang/Object;") hx hb (hml.trans hl.1.symm) hown (hts _ wq_1897) (va_Nw.use rfl (hE.2.2.2.2.2.2.2.2.1 _ nx_3246)) (hts _ wq_3245) (hts _ wq_1898) (hts _ wq_1930) hE.2.2.2.2.2.2.1 (va_Orecv hE.2.2.2.1.2.2 hS) (Nat.le_of_ble_eq_true rfl) (Nat.le_of_ble_eq_true rfl) dJ7_copyOf_1904c_3 ?_
  refine pz_go (wr := []) (vx_runS (As := [.ref (X 3), .int 0, .ref (X 5)]) (rest := []) ⟨hx, hb, hml, hown, hts⟩ (cJ7_copyOf_6403c_1 l hst G X s.heap.size) (va_cwS 3 hts (pz_gS wq_1931 wq_1932 wq_27 wq_1933) rfl rfl rfl (by decide +kernel) ⟨(Nat.le_of_ble_eq_true rfl), (Nat.le_of_ble_eq_true rfl)⟩) (pz_preS hK hP hD hS hA hE [] rfl rfl) rfl rfl hl.1 rfl (lv_room (Nat.le_of_ble_eq_true rfl)) dJ7_copyOf_1904c_6 ⟨(Nat.le_of_ble_eq_true rfl), (Nat.le_of_ble_eq_true rfl)⟩) hP hD hS hA [] [] rfl rfl rfl (by decide) (fun q1 H locs hP hD hS => ?_)
  have hP : va_P G.1 pz_cl [(q1, .inl (G.2 5, 0, .inr (.inr (.inr (.inr (fun _ => none))))))] H := hP
  have hD : va_D A [(q1, .inl (G.2 5, 0, .inr (.inr (.inr (.inr (fun _ => none))))))] := hD
  refine W.eq (g2 := F0 m 9 ls [.ref q1]) rfl ?_
  exact pz_ra hx hb hr hlocks (Or.inr ⟨_, rfl⟩) (Or.inr ⟨_, rfl⟩) hS (Nat.le_of_ble_eq_true rfl) (Nat.le_of_ble_eq_true rfl) dJ7_copyOf_1904c_9 q1 rfl (hP.sub [0] rfl) (hD.sub [0] rfl rfl)
set_option maxHeartbeats 4000000 in
set_option maxRecDepth 100000 in
theorem cJx4a65c_toArray_d5877_1 (l : Launch) (hst : l.stackTraces = false) (G : pz_G) (X : Nat → Nat) (sz : Nat) (a0 : Nat) : pz_MR (S := Nat) l yJx4a65c_toArray_d5877 (pz_cd yJx4a65c_toArray_d5877 cJx4a65c_toArray_d5877 1 (some (.array (.object "java/lang/Object")))) 3 84 1 0 G X sz [(a0, .inr (17, [.int 0, .ref (X 3), .int 0]))] [.ref a0] (fun u => some (.ref u)) (fun u => [(a0, .inr (17, [.int 0, .ref (X 3), .int 0])), (u, .inl (G.2 5, 0, .inr (.inr (.inr (.inr (fun _ => none))))))]) := by
  refine pz_onR (by decide +kernel) (Nat.le_of_ble_eq_true rfl) ?_
  intro p e s m below meth c A hx hb hr hml hown hts hlocks hin hx0 hP hK hD hS hA hE ls hl
  have hown : s.vm.findClass "java/util/ArrayList" = some m.cls := hown
  have hl : lv_has ls 1 [(0, .ref a0)] := hl
  refine lv_aload_n hx hb dJx4a65c_toArray_d5877_0 rfl (lv_at hl 0 rfl) ?_
  refine va_get (D := G.1) (ci := 17) (v := .ref (X 3)) (C := "java/util/ArrayList") (T := TJx4a65c) (N := 3) hx hb hts inJx4a65c hown hK hP 0 rfl rfl 1 (by decide) (hts _ wq_1798) (fun _ h9 => h9) rfl dJx4a65c_toArray_d5877_1 ?_
  refine lv_aload_n hx hb dJx4a65c_toArray_d5877_4 rfl (lv_at hl 0 rfl) ?_
  refine va_get (D := G.1) (ci := 17) (v := .int 0) (C := "java/util/ArrayList") (T := TJx4a65c) (N := 3) hx hb hts inJx4a65c hown hK hP 0 rfl rfl 2 (by decide) (hts _ wq_1801) (fun _ h9 => h9) rfl dJx4a65c_toArray_d5877_5 ?_
  refine pz_go (wr := [(a0, .inr (17, [.int 0, .ref (X 3), .int 0]))]) (vx_runS (As := [.ref (X 3), .int 0]) (rest := []) ⟨hx, hb, hml, hown, hts⟩ (cJ7_copyOf_1904c_1 l hst G X s.heap.size) (va_cwS 2 hts (pz_gS wq_1894 wq_1895 wq_27 wq_1896) rfl rfl rfl (by decide +kernel) ⟨(Nat.le_of_ble_eq_true rfl), (Nat.le_of_ble_eq_true rfl)⟩) (pz_preS hK hP hD hS hA hE [] rfl rfl) rfl rfl hl.1 rfl (lv_room (Nat.le_of_ble_eq_true rfl)) dJx4a65c_toArray_d5877_8 ⟨(Nat.le_of_ble_eq_true rfl), (Nat.le_of_ble_eq_true rfl)⟩) hP hD hS hA [] [0] rfl rfl rfl (by decide) (fun q1 H locs hP hD hS => ?_)
  have hP : va_P G.1 pz_cl [(a0, .inr (17, [.int 0, .ref (X 3), .int 0])), (q1, .inl (G.2 5, 0, .inr (.inr (.inr (.inr (fun _ => none))))))] H := hP
  have hD : va_D A [(a0, .inr (17, [.int 0, .ref (X 3), .int 0])), (q1, .inl (G.2 5, 0, .inr (.inr (.inr (.inr (fun _ => none))))))] := hD
  refine W.eq (g2 := F0 m 11 ls [.ref q1]) rfl ?_
  exact pz_ra hx hb hr hlocks (Or.inr ⟨_, rfl⟩) (Or.inr ⟨_, rfl⟩) hS (Nat.le_of_ble_eq_true rfl) (Nat.le_of_ble_eq_true rfl) dJx4a65c_toArray_d5877_11 q1 rfl (hP.sub [0, 1] rfl) (hD.sub [0, 1] rfl rfl)
set_option maxHeartbeats 4000000 in
set_option maxRecDepth 100000 in
theorem cJx4a65c_addAll_f0b43_1 (l : Launch) (hst : l.stackTraces = false) (G : pz_G) (X : Nat → Nat) (sz : Nat) (a0 : Nat) (a1 : Nat) (a2 : Nat) : pz_MR (S := Nat) l yJx4a65c_addAll_f0b43 (pz_cd yJx4a65c_addAll_f0b43 cJx4a65c_addAll_f0b43 6 (some .boolean)) 4 104 1 0 G X sz [(a1, .inr (17, [.int 0, .ref (X 3), .int 0])), (a0, .inr (17, [.int 1, .ref a2, .int 1]))] [.ref a0, .ref a1] (fun u => some (.int 0)) (fun u => [(a1, .inr (17, [.int 0, .ref (X 3), .int 0])), (a0, .inr (17, [.int 2, .ref a2, .int 1])), (u, .inl (G.2 5, 0, .inr (.inr (.inr (.inr (fun _ => none))))))]) := by
  refine pz_onR (by decide +kernel) (Nat.le_of_ble_eq_true rfl) ?_
  intro p e s m below meth c A hx hb hr hml hown hts hlocks hin hx0 hP hK hD hS hA hE ls hl
  have hown : s.vm.findClass "java/util/ArrayList" = some m.cls := hown
  have hl : lv_has ls 6 [(0, .ref a0), (1, .ref a1)] := hl
  refine lv_aload_n hx hb dJx4a65c_addAll_f0b43_0 rfl (lv_at hl 1 rfl) ?_
  refine pz_go5 (wr := [(a0, .inr (17, [.int 1, .ref a2, .int 1]))]) (vx_runF (C := "java/util/ArrayList") (As := []) (rest := []) (hK.1 17 _ rfl).2 ⟨hx, hb, hml, hown, hts⟩ (cJx4a65c_toArray_d5877_1 l hst G X s.heap.size a1) (va_cwF 0 hts (pz_gF wq_2065 wq_2069 wq_2071 wq_16 wq_2073) rfl rfl rfl (hE.2.2.2.2.2.2.2.2.2.2.2.2 _ fw_ArrayList_toArray) (by decide +kernel) ⟨(Nat.le_of_ble_eq_true rfl), (Nat.le_of_ble_eq_true rfl)⟩) (pz_preV (C := ("java/util/ArrayList", TJx4a65c, 3)) hK hP hD hS hA hE 0 (ci := 17) rfl rfl [0] rfl rfl) rfl rfl hl.1 rfl (lv_room (Nat.le_of_ble_eq_true rfl)) dJx4a65c_addAll_f0b43_1 ⟨(Nat.le_of_ble_eq_true rfl), (Nat.le_of_ble_eq_true rfl)⟩) hP hD hS hA [0] [1] rfl rfl rfl (by decide) (fun q1 H locs hP hD hS => ?_)
  have hP : va_P G.1 pz_cl [(a0, .inr (17, [.int 1, .ref a2, .int 1])), (a1, .inr (17, [.int 0, .ref (X 3), .int 0])), (q1, .inl (G.2 5, 0, .inr (.inr (.inr (.inr (fun _ => none))))))] H := hP
  have hD : va_D A [(a0, .inr (17, [.int 1, .ref a2, .int 1])), (a1, .inr (17, [.int 0, .ref (X 3), .int 0])), (q1, .inl (G.2 5, 0, .inr (.inr (.inr (.inr (fun _ => none))))))] := hD
  refine W.eq (g2 := F0 m 6 ls [.ref q1]) rfl ?_
  refine lv_astore_n (lv' := [(2, .ref q1), (0, .ref a0), (1, .ref a1)]) hx hb dJx4a65c_addAll_f0b43_6 rfl hl (by decide) rfl (fun ls hl => ?_)
  refine lv_aload_n hx hb dJx4a65c_addAll_f0b43_7 rfl (lv_at hl 1 rfl) ?_
  refine lv_dup hx hb dJx4a65c_addAll_f0b43_8 rfl ?_
  refine va_get (D := G.1) (ci := 17) (v := .int 1) (C := "java/util/ArrayList") (T := TJx4a65c) (N := 3) hx hb hts inJx4a65c hown hK hP 0 rfl rfl 0 (by decide) (hts _ wq_1805) (fun x9 h9 => u_same (hts _ wq_1804) x9 h9) rfl dJx4a65c_addAll_f0b43_9 ?_
  refine lv_iconst (v := 1) hx hb dJx4a65c_addAll_f0b43_12 (by decide) ?_
  refine lv_iadd hx hb dJx4a65c_addAll_f0b43_13 (pz_K (y := 2) (by decide) ?_)
  refine va_put (D := G.1) (ci := 17) (v := .int 2) (ty := tyJx4a65c 0) (C := "java/util/ArrayList") (T := TJx4a65c) (N := 3) hx hb hts inJx4a65c tyJx4a65c tyJx4a65c_ok nmJx4a65c hown hK hP hD hS 0 rfl rfl 0 (by decide) (hts _ wq_1805) (fun x9 h9 => u_same (hts _ wq_1804) x9 h9) rfl (by decide +kernel) rfl rfl (Nat.le_of_ble_eq_true rfl) dJx4a65c_addAll_f0b43_14 (fun H locs hP hD hS => ?_)
  have hP : va_P G.1 pz_cl [(a0, .inr (17, [.int 2, .ref a2, .int 1])), (a1, .inr (17, [.int 0, .ref (X 3), .int 0])), (q1, .inl (G.2 5, 0, .inr (.inr (.inr (.inr (fun _ => none))))))] H := hP
  have hD : va_D A [(a0, .inr (17, [.int 2, .ref a2, .int 1])), (a1, .inr (17, [.int 0, .ref (X 3), .int 0])), (q1, .inl (G.2 5, 0, .inr (.inr (.inr (.inr (fun _ => none))))))] := hD
  refine lv_aload_n hx hb dJx4a65c_addAll_f0b43_17 rfl (lv_at hl 0 rfl) ?_
  refine va_alen (v := 0) hx hb hK hP 2 5 rfl rfl (by show Int32.ofNat 0 = 0; decide) dJx4a65c_addAll_f0b43_18 ?_
  refine lv_istore_n (lv' := [(3, .int 0), (2, .ref q1), (0, .ref a0), (1, .ref a1)]) hx hb dJx4a65c_addAll_f0b43_19 rfl hl (by decide) rfl (fun ls hl => ?_)
  refine lv_iload_n hx hb dJx4a65c_addAll_f0b43_20 rfl (lv_at hl 0 rfl) ?_
  refine lv_if_ne (tgt := 26) hx hb dJx4a65c_addAll_f0b43_21 (by decide) (fun hc => absurd hc (by decide)) (fun _ => ?_)
  refine lv_iconst (v := 0) hx hb dJx4a65c_addAll_f0b43_24 (by decide) ?_
  exact pz_rz hx hb hr hlocks (by decide +kernel) hS (Nat.le_of_ble_eq_true rfl) (Nat.le_of_ble_eq_true rfl) dJx4a65c_addAll_f0b43_25 q1 rfl (hP.sub [1, 0, 2] rfl) (hD.sub [1, 0, 2] rfl rfl)
set_option maxHeartbeats 4000000 in
set_option maxRecDepth 100000 in
theorem cJx35411_init_45d68_1 (l : Launch) (hst : l.stackTraces = false) (G : pz_G) (X : Nat → Nat) (sz : Nat) (a0 : Nat) (a1 : Nat) (a2 : Nat) : pz_MR (S := Unit) l yJx35411_init_45d68 (pz_cd yJx35411_init_45d68 cJx35411_init_45d68 2 none) 1 12 0 0 G X sz [(a0, .inr (18, [.int 0, .int 0, .int 0, .null])), (a1, .inr (17, [.int 2, .ref a2, .int 1]))] [.ref a0, .ref a1] (fun u => none) (fun u => [(a0, .inr (18, [.int 0, .int (-1), .int 2, .ref a1])), (a1, .inr (17, [.int 2, .ref a2, .int 1]))]) := by
  refine pz_onR (by decide +kernel) (Nat.le_of_ble_eq_true rfl) ?_
  intro p e s m below meth c A hx hb hr hml hown hts hlocks hin hx0 hP hK hD hS hA hE ls hl
  have hown : s.vm.findClass "java/util/ArrayList$Itr" = some m.cls := hown
  have hl : lv_has ls 2 [(0, .ref a0), (1, .ref a1)] := hl
  refine lv_aload_n hx hb dJx35411_init_45d68_0 rfl (lv_at hl 0 rfl) ?_
  refine lv_aload_n hx hb dJx35411_init_45d68_1 rfl (lv_at hl 1 rfl) ?_
  refine va_putF (D := G.1) (ci := 18) (v := .ref a1) (ty := tyJx35411 3) (C := "java/util/ArrayList$Itr") (T := TJx35411) (N := 4) hx hb hts inJx35411 tyJx35411 tyJx35411_ok nmJx35411 hown hK hP hD hS 0 rfl rfl 3 (by decide) (hts _ wq_2092) (fun _ h9 => h9) rfl hin rfl (by decide +kernel) rfl rfl (Nat.le_of_ble_eq_true rfl) dJx35411_init_45d68_2 (fun H locs hP hD hS => ?_)
  have hP : va_P G.1 pz_cl [(a0, .inr (18, [.int 0, .int 0, .int 0, .ref a1])), (a1, .inr (17, [.int 2, .ref a2, .int 1]))] H := hP
  have hD : va_D A [(a0, .inr (18, [.int 0, .int 0, .int 0, .ref a1])), (a1, .inr (17, [.int 2, .ref a2, .int 1]))] := hD
  refine lv_aload_n hx hb dJx35411_init_45d68_5 rfl (lv_at hl 0 rfl) ?_
  refine W.objInit hx hb hown (hts _ wq_2088) (hts _ wq_54) (hts _ wq_55) rfl (by rw [hml]; exact hl.1) rfl dJx35411_init_45d68_6 (Nat.le_of_ble_eq_true rfl) (Nat.le_of_ble_eq_true rfl) ?_
  refine W.eq (g2 := F0 m 9 ls []) rfl ?_
  refine lv_aload_n hx hb dJx35411_init_45d68_9 rfl (lv_at hl 0 rfl) ?_
  refine lv_iconst (v := (-1)) hx hb dJx35411_init_45d68_10 (by decide) ?_
  refine va_put (D := G.1) (ci := 18) (v := .int (-1)) (ty := tyJx35411 1) (C := "java/util/ArrayList$Itr") (T := TJx35411) (N := 4) hx hb hts inJx35411 tyJx35411 tyJx35411_ok nmJx35411 hown hK hP hD hS 0 rfl rfl 1 (by decide) (hts _ wq_2090) (fun _ h9 => h9) rfl (by decide +kernel) rfl rfl (Nat.le_of_ble_eq_true rfl) dJx35411_init_45d68_11 (fun H locs hP hD hS => ?_)
  have hP : va_P G.1 pz_cl [(a0, .inr (18, [.int 0, .int (-1), .int 0, .ref a1])), (a1, .inr (17, [.int 2, .ref a2, .int 1]))] H := hP
  have hD : va_D A [(a0, .inr (18, [.int 0, .int (-1), .int 0, .ref a1])), (a1, .inr (17, [.int 2, .ref a2, .int 1]))] := hD
  refine lv_aload_n hx hb dJx35411_init_45d68_14 rfl (lv_at hl 0 rfl) ?_
  refine lv_aload_n hx hb dJx35411_init_45d68_15 rfl (lv_at hl 0 rfl) ?_
  refine va_get (D := G.1) (ci := 18) (v := .ref a1) (C := "java/util/ArrayList$Itr") (T := TJx35411) (N := 4) hx hb hts inJx35411 hown hK hP 0 rfl rfl 3 (by decide) (hts _ wq_2092) (fun _ h9 => h9) rfl dJx35411_init_45d68_16 ?_
  refine va_get (D := G.1) (ci := 17) (v := .int 2) (C := "java/util/ArrayList") (T := TJx4a65c) (N := 3) hx hb hts inJx4a65c hown hK hP 1 rfl rfl 0 (by decide) (hts _ wq_1803) (fun x9 h9 => u_same (hts _ wq_1804) x9 h9) rfl dJx35411_init_45d68_19 ?_
  refine va_put (D := G.1) (ci := 18) (v := .int 2) (ty := tyJx35411 2) (C := "java/util/ArrayList$Itr") (T := TJx35411) (N := 4) hx hb hts inJx35411 tyJx35411 tyJx35411_ok nmJx35411 hown hK hP hD hS 0 rfl rfl 2 (by decide) (hts _ wq_2091) (fun _ h9 => h9) rfl (by decide +kernel) rfl rfl (Nat.le_of_ble_eq_true rfl) dJx35411_init_45d68_22 (fun H locs hP hD hS => ?_)
  have hP : va_P G.1 pz_cl [(a0, .inr (18, [.int 0, .int (-1), .int 2, .ref a1])), (a1, .inr (17, [.int 2, .ref a2, .int 1]))] H := hP
  have hD : va_D A [(a0, .inr (18, [.int 0, .int (-1), .int 2, .ref a1])), (a1, .inr (17, [.int 2, .ref a2, .int 1]))] := hD
  exact pz_rv hx hb hr hlocks hS (Nat.le_of_ble_eq_true rfl) (Nat.le_of_ble_eq_true rfl) dJx35411_init_45d68_25 () rfl (hP.sub [0, 1] rfl) (hD.sub [0, 1] rfl rfl)
set_option maxHeartbeats 4000000 in
set_option maxRecDepth 100000 in
theorem cJx4a65c_iterator_32c93_1 (l : Launch) (hst : l.stackTraces = false) (G : pz_G) (X : Nat → Nat) (sz : Nat) (a0 : Nat) (a1 : Nat) : pz_MR (S := Nat) l yJx4a65c_iterator_32c93 (pz_cd yJx4a65c_iterator_32c93 cJx4a65c_iterator_32c93 1 (some (.object "java/util/Iterator"))) 2 33 1 4 G X sz [(a0, .inr (17, [.int 2, .ref a1, .int 1]))] [.ref a0] (fun u => some (.ref u)) (fun u => [(a0, .inr (17, [.int 2, .ref a1, .int 1])), (u, .inr (18, [.int 0, .int (-1), .int 2, .ref a0]))]) := by
  refine pz_onR (by decide +kernel) (Nat.le_of_ble_eq_true rfl) ?_
  intro p e s m below meth c A hx hb hr hml hown hts hlocks hin hx0 hP hK hD hS hA hE ls hl
  have hown : s.vm.findClass "java/util/ArrayList" = some m.cls := hown
  have hl : lv_has ls 1 [(0, .ref a0)] := hl
  refine va_new (ci := 18) (fs := [.int 0, .int 0, .int 0, .null]) (C := "java/util/ArrayList$Itr") (T := TJx35411) (N := 4) hx hb hts inJx35411 tyJx35411 tyJx35411_ok hown (hts _ wq_2083) (hts _ wq_2084) (hts _ wq_37) hK hP hD hS hA rfl (pz_dfJx35411) (Nat.le_of_ble_eq_true rfl) (Nat.le_of_ble_eq_true rfl) dJx4a65c_iterator_32c93_0 (fun q1 H hP hD hS => ?_)
  have hP : va_P G.1 pz_cl [(a0, .inr (17, [.int 2, .ref a1, .int 1])), (q1, .inr (18, [.int 0, .int 0, .int 0, .null]))] H := hP
  have hD : va_D A [(a0, .inr (17, [.int 2, .ref a1, .int 1])), (q1, .inr (18, [.int 0, .int 0, .int 0, .null]))] := hD
  refine lv_dup hx hb dJx4a65c_iterator_32c93_3 rfl ?_
  refine lv_aload_n hx hb dJx4a65c_iterator_32c93_4 rfl (lv_at hl 0 rfl) ?_
  refine pz_go (wr := []) (vx_runI (As := [.ref a0]) (rest := [.ref q1]) ⟨hx, hb, hml, hown, hts⟩ (cJx35411_init_45d68_1 l hst G X H.size q1 a0 a1) (cwI 1 hts (pz_gC wq_2087) rfl rfl rfl (hts _ wq_37) (hts _ wq_2085) (hts _ wq_2086) rfl (by decide +kernel) ⟨(Nat.le_of_ble_eq_true rfl), (Nat.le_of_ble_eq_true rfl)⟩) (pz_preS hK hP hD hS hA hE [1, 0] rfl rfl) rfl rfl hl.1 rfl (lv_room (Nat.le_of_ble_eq_true rfl)) dJx4a65c_iterator_32c93_5 ⟨(Nat.le_of_ble_eq_true rfl), (Nat.le_of_ble_eq_true rfl)⟩) hP hD hS hA [1, 0] [] rfl rfl rfl (by decide) (fun u H locs hP hD hS => ?_)
  have hP : va_P G.1 pz_cl [(q1, .inr (18, [.int 0, .int (-1), .int 2, .ref a0])), (a0, .inr (17, [.int 2, .ref a1, .int 1]))] H := hP
  have hD : va_D A [(q1, .inr (18, [.int 0, .int (-1), .int 2, .ref a0])), (a0, .inr (17, [.int 2, .ref a1, .int 1]))] := hD
  refine W.eq (g2 := F0 m 8 ls [.ref q1]) rfl ?_
  exact pz_ra hx hb hr hlocks (Or.inl ⟨_, rfl⟩) (Or.inr ⟨_, rfl⟩) hS (Nat.le_of_ble_eq_true rfl) (Nat.le_of_ble_eq_true rfl) dJx4a65c_iterator_32c93_8 q1 rfl (hP.sub [1, 0] rfl) (hD.sub [1, 0] rfl rfl)
set_option maxHeartbeats 4000000 in
set_option maxRecDepth 100000 in
theorem cJx35411_hasNext_aae02_1 (l : Launch) (hst : l.stackTraces = false) (G : pz_G) (X : Nat → Nat) (sz : Nat) (a0 : Nat) (a1 : Nat) (a2 : Nat) : pz_MR (S := Unit) l yJx35411_hasNext_aae02 (pz_cd yJx35411_hasNext_aae02 cJx35411_hasNext_aae02 1 (some .boolean)) 0 0 0 0 G X sz [(a0, .inr (18, [.int 0, .int (-1), .int 2, .ref a1])), (a1, .inr (17, [.int 2, .ref a2, .int 1]))] [.ref a0] (fun u => some (.int 1)) (fun u => [(a0, .inr (18, [.int 0, .int (-1), .int 2, .ref a1])), (a1, .inr (17, [.int 2, .ref a2, .int 1]))]) := by
  refine pz_onR (by decide +kernel) (Nat.le_of_ble_eq_true rfl) ?_
  intro p e s m below meth c A hx hb hr hml hown hts hlocks hin hx0 hP hK hD hS hA hE ls hl
  have hown : s.vm.findClass "java/util/ArrayList$Itr" = some m.cls := hown
  have hl : lv_has ls 1 [(0, .ref a0)] := hl
  refine lv_aload_n hx hb dJx35411_hasNext_aae02_0 rfl (lv_at hl 0 rfl) ?_
  refine va_get (D := G.1) (ci := 18) (v := .int 0) (C := "java/util/ArrayList$Itr") (T := TJx35411) (N := 4) hx hb hts inJx35411 hown hK hP 0 rfl rfl 0 (by decide) (hts _ wq_2089) (fun _ h9 => h9) rfl dJx35411_hasNext_aae02_1 ?_
  refine lv_aload_n hx hb dJx35411_hasNext_aae02_4 rfl (lv_at hl 0 rfl) ?_
  refine va_get (D := G.1) (ci := 18) (v := .ref a1) (C := "java/util/ArrayList$Itr") (T := TJx35411) (N := 4) hx hb hts inJx35411 hown hK hP 0 rfl rfl 3 (by decide) (hts _ wq_2092) (fun _ h9 => h9) rfl dJx35411_hasNext_aae02_5 ?_
  refine va_getN (D := G.1) (ci := 17) (v := .int 1) (C := "java/util/ArrayList") (T := TJx4a65c) (N := 3) hx hb hts inJx4a65c hown hK hP 1 rfl rfl 2 (by decide) (va_Nw.use rfl (hE.2.2.2.2.2.2.2.2.1 _ nx_1800)) (fun _ h9 => h9) rfl dJx35411_hasNext_aae02_8 ?_
  refine lv_icmp_eq (tgt := 18) hx hb dJx35411_hasNext_aae02_11 (by decide) (fun hc => absurd hc (by decide)) (fun _ => ?_)
  refine lv_iconst (v := 1) hx hb dJx35411_hasNext_aae02_14 (by decide) ?_
  refine lv_goto (tgt := 19) hx hb dJx35411_hasNext_aae02_15 (by decide) ?_
  exact pz_rz hx hb hr hlocks (by decide +kernel) hS (Nat.le_of_ble_eq_true rfl) (Nat.le_of_ble_eq_true rfl) dJx35411_hasNext_aae02_19 () rfl (hP.sub [0, 1] rfl) (hD.sub [0, 1] rfl rfl)
set_option maxHeartbeats 4000000 in
set_option maxRecDepth 100000 in
theorem cJx35411_checkForComodification_da8c8_1 (l : Launch) (hst : l.stackTraces = false) (G : pz_G) (X : Nat → Nat) (sz : Nat) (a0 : Nat) (a1 : Nat) (a2 : Nat) : pz_MR (S := Unit) l yJx35411_checkForComodification_da8c8 (pz_cd yJx35411_checkForComodification_da8c8 cJx35411_checkForComodification_da8c8 1 none) 0 0 0 0 G X sz [(a0, .inr (18, [.int 0, .int (-1), .int 2, .ref a1])), (a1, .inr (17, [.int 2, .ref a2, .int 1]))] [.ref a0] (fun u => none) (fun u => [(a0, .inr (18, [.int 0, .int (-1), .int 2, .ref a1])), (a1, .inr (17, [.int 2, .ref a2, .int 1]))]) := by
  refine pz_onR (by decide +kernel) (Nat.le_of_ble_eq_true rfl) ?_
  intro p e s m below meth c A hx hb hr hml hown hts hlocks hin hx0 hP hK hD hS hA hE ls hl
  have hown : s.vm.findClass "java/util/ArrayList$Itr" = some m.cls := hown
  have hl : lv_has ls 1 [(0, .ref a0)] := hl
  refine lv_aload_n hx hb dJx35411_checkForComodification_da8c8_0 rfl (lv_at hl 0 rfl) ?_
  refine va_get (D := G.1) (ci := 18) (v := .ref a1) (C := "java/util/ArrayList$Itr") (T := TJx35411) (N := 4) hx hb hts inJx35411 hown hK hP 0 rfl rfl 3 (by decide) (hts _ wq_2092) (fun _ h9 => h9) rfl dJx35411_checkForComodification_da8c8_1 ?_
  refine va_get (D := G.1) (ci := 17) (v := .int 2) (C := "java/util/ArrayList") (T := TJx4a65c) (N := 3) hx hb hts inJx4a65c hown hK hP 1 rfl rfl 0 (by decide) (hts _ wq_1803) (fun x9 h9 => u_same (hts _ wq_1804) x9 h9) rfl dJx35411_checkForComodification_da8c8_4 ?_
  refine lv_aload_n hx hb dJx35411_checkForComodification_da8c8_7 rfl (lv_at hl 0 rfl) ?_
  refine va_get (D := G.1) (ci := 18) (v := .int 2) (C := "java/util/ArrayList$Itr") (T := TJx35411) (N := 4) hx hb hts inJx35411 hown hK hP 0 rfl rfl 2 (by decide) (hts _ wq_2091) (fun _ h9 => h9) rfl dJx35411_checkForComodification_da8c8_8 ?_
  refine lv_icmp_eq (tgt := 22) hx hb dJx35411_checkForComodification_da8c8_11 (by decide) (fun _ => ?_) (fun hc => absurd hc (by decide))
  exact pz_rv hx hb hr hlocks hS (Nat.le_of_ble_eq_true rfl) (Nat.le_of_ble_eq_true rfl) dJx35411_checkForComodification_da8c8_22 () rfl (hP.sub [0, 1] rfl) (hD.sub [0, 1] rfl rfl)
set_option maxHeartbeats 4000000 in
set_option maxRecDepth 100000 in
theorem cJx35411_next_0502b_1 (l : Launch) (hst : l.stackTraces = false) (G : pz_G) (X : Nat → Nat) (sz : Nat) (a0 : Nat) (a1 : Nat) (a2 : Nat) : pz_MR (S := Unit) l yJx35411_next_0502b (pz_cd yJx35411_next_0502b cJx35411_next_0502b 3 (some (.object "java/lang/Object"))) 1 20 0 0 G X sz [(a0, .inr (18, [.int 0, .int (-1), .int 2, .ref a1])), (a1, .inr (17, [.int 2, .ref a2, .int 1])), (a2, .inl (G.2 5, 10, .inr (.inr (.inr (.inr (va_up (fun _ => none) 0 (some (X (1000 + 128)))))))))] [.ref a0] (fun u => some (.ref (X (1000 + 128)))) (fun u => [(a0, .inr (18, [.int 1, .int 0, .int 2, .ref a1])), (a1, .inr (17, [.int 2, .ref a2, .int 1])), (a2, .inl (G.2 5, 10, .inr (.inr (.inr (.inr (va_up (fun _ => none) 0 (some (X (1000 + 128)))))))))]) := by
  refine pz_onR (by decide +kernel) (Nat.le_of_ble_eq_true rfl) ?_
  intro p e s m below meth c A hx hb hr hml hown hts hlocks hin hx0 hP hK hD hS hA hE ls hl
  have hown : s.vm.findClass "java/util/ArrayList$Itr" = some m.cls := hown
  have hl : lv_has ls 3 [(0, .ref a0)] := hl
  refine lv_aload_n hx hb dJx35411_next_0502b_0 rfl (lv_at hl 0 rfl) ?_
  refine pz_go (wr := [(a2, .inl (G.2 5, 10, .inr (.inr (.inr (.inr (va_up (fun _ => none) 0 (some (X (1000 + 128)))))))))]) (vx_runV (C := "java/util/ArrayList$Itr") (As := []) (rest := []) ⟨hx, hb, hml, hown, hts⟩ (cJx35411_checkForComodification_da8c8_1 l hst G X s.heap.size a0 a1 a2) (cwV 0 hts (pz_gV wq_2121 wq_2122 wq_2123 wq_37 wq_2124) rfl rfl rfl (by decide +kernel) ⟨(Nat.le_of_ble_eq_true rfl), (Nat.le_of_ble_eq_true rfl)⟩) (pz_preV (C := ("java/util/ArrayList$Itr", TJx35411, 4)) hK hP hD hS hA hE 0 (ci := 18) rfl rfl [0, 1] rfl rfl) rfl rfl hl.1 rfl (lv_room (Nat.le_of_ble_eq_true rfl)) dJx35411_next_0502b_1 ⟨(Nat.le_of_ble_eq_true rfl), (Nat.le_of_ble_eq_true rfl)⟩) hP hD hS hA [0, 1] [2] rfl rfl rfl (by decide) (fun u H locs hP hD hS => ?_)
  have hP : va_P G.1 pz_cl [(a2, .inl (G.2 5, 10, .inr (.inr (.inr (.inr (va_up (fun _ => none) 0 (some (X (1000 + 128))))))))), (a0, .inr (18, [.int 0, .int (-1), .int 2, .ref a1])), (a1, .inr (17, [.int 2, .ref a2, .int 1]))] H := hP
  have hD : va_D A [(a2, .inl (G.2 5, 10, .inr (.inr (.inr (.inr (va_up (fun _ => none) 0 (some (X (1000 + 128))))))))), (a0, .inr (18, [.int 0, .int (-1), .int 2, .ref a1])), (a1, .inr (17, [.int 2, .ref a2, .int 1]))] := hD
  refine W.eq (g2 := F0 m 4 ls []) rfl ?_
  refine lv_aload_n hx hb dJx35411_next_0502b_4 rfl (lv_at hl 0 rfl) ?_
  refine va_get (D := G.1) (ci := 18) (v := .int 0) (C := "java/util/ArrayList$Itr") (T := TJx35411) (N := 4) hx hb hts inJx35411 hown hK hP 1 rfl rfl 0 (by decide) (hts _ wq_2089) (fun _ h9 => h9) rfl dJx35411_next_0502b_5 ?_
  refine lv_istore_n (lv' := [(1, .int 0), (0, .ref a0)]) hx hb dJx35411_next_0502b_8 rfl hl (by decide) rfl (fun ls hl => ?_)
  refine lv_iload_n hx hb dJx35411_next_0502b_9 rfl (lv_at hl 0 rfl) ?_
  refine lv_aload_n hx hb dJx35411_next_0502b_10 rfl (lv_at hl 1 rfl) ?_
  refine va_get (D := G.1) (ci := 18) (v := .ref a1) (C := "java/util/ArrayList$Itr") (T := TJx35411) (N := 4) hx hb hts inJx35411 hown hK hP 1 rfl rfl 3 (by decide) (hts _ wq_2092) (fun _ h9 => h9) rfl dJx35411_next_0502b_11 ?_
  refine va_getN (D := G.1) (ci := 17) (v := .int 1) (C := "java/util/ArrayList") (T := TJx4a65c) (N := 3) hx hb hts inJx4a65c hown hK hP 2 rfl rfl 2 (by decide) (va_Nw.use rfl (hE.2.2.2.2.2.2.2.2.1 _ nx_1800)) (fun _ h9 => h9) rfl dJx35411_next_0502b_14 ?_
  refine lv_icmp_lt (tgt := 28) hx hb dJx35411_next_0502b_17 (by decide) (fun _ => ?_) (fun hc => absurd hc (by decide))
  refine lv_aload_n hx hb dJx35411_next_0502b_28 rfl (lv_at hl 1 rfl) ?_
  refine va_get (D := G.1) (ci := 18) (v := .ref a1) (C := "java/util/ArrayList$Itr") (T := TJx35411) (N := 4) hx hb hts inJx35411 hown hK hP 1 rfl rfl 3 (by decide) (hts _ wq_2092) (fun _ h9 => h9) rfl dJx35411_next_0502b_29 ?_
  refine va_get (D := G.1) (ci := 17) (v := .ref a2) (C := "java/util/ArrayList") (T := TJx4a65c) (N := 3) hx hb hts inJx4a65c hown hK hP 2 rfl rfl 1 (by decide) (hts _ wq_1799) (fun _ h9 => h9) rfl dJx35411_next_0502b_32 ?_
  refine lv_astore_n (lv' := [(2, .ref a2), (1, .int 0), (0, .ref a0)]) hx hb dJx35411_next_0502b_35 rfl hl (by decide) rfl (fun ls hl => ?_)
  refine lv_iload_n hx hb dJx35411_next_0502b_36 rfl (lv_at hl 1 rfl) ?_
  refine lv_aload_n hx hb dJx35411_next_0502b_37 rfl (lv_at hl 0 rfl) ?_
  refine va_alen (v := 10) hx hb hK hP 0 5 rfl rfl (by show Int32.ofNat 10 = 10; decide) dJx35411_next_0502b_38 ?_
  refine lv_icmp_lt (tgt := 50) hx hb dJx35411_next_0502b_39 (by decide) (fun _ => ?_) (fun hc => absurd hc (by decide))
  refine lv_aload_n hx hb dJx35411_next_0502b_50 rfl (lv_at hl 2 rfl) ?_
  refine lv_iload_n hx hb dJx35411_next_0502b_51 rfl (lv_at hl 1 rfl) ?_
  refine lv_iconst (v := 1) hx hb dJx35411_next_0502b_52 (by decide) ?_
  refine lv_iadd hx hb dJx35411_next_0502b_53 (pz_K (y := 1) (by decide) ?_)
  refine va_put (D := G.1) (ci := 18) (v := .int 1) (ty := tyJx35411 0) (C := "java/util/ArrayList$Itr") (T := TJx35411) (N := 4) hx hb hts inJx35411 tyJx35411 tyJx35411_ok nmJx35411 hown hK hP hD hS 1 rfl rfl 0 (by decide) (hts _ wq_2089) (fun _ h9 => h9) rfl (by decide +kernel) rfl rfl (Nat.le_of_ble_eq_true rfl) dJx35411_next_0502b_54 (fun H locs hP hD hS => ?_)
  have hP : va_P G.1 pz_cl [(a2, .inl (G.2 5, 10, .inr (.inr (.inr (.inr (va_up (fun _ => none) 0 (some (X (1000 + 128))))))))), (a0, .inr (18, [.int 1, .int (-1), .int 2, .ref a1])), (a1, .inr (17, [.int 2, .ref a2, .int 1]))] H := hP
  have hD : va_D A [(a2, .inl (G.2 5, 10, .inr (.inr (.inr (.inr (va_up (fun _ => none) 0 (some (X (1000 + 128))))))))), (a0, .inr (18, [.int 1, .int (-1), .int 2, .ref a1])), (a1, .inr (17, [.int 2, .ref a2, .int 1]))] := hD
  refine lv_aload_n hx hb dJx35411_next_0502b_57 rfl (lv_at hl 0 rfl) ?_
  refine lv_aload_n hx hb dJx35411_next_0502b_58 rfl (lv_at hl 2 rfl) ?_
  refine lv_iload_n hx hb dJx35411_next_0502b_59 rfl (lv_at hl 1 rfl) ?_
  refine lv_dup_x1 hx hb dJx35411_next_0502b_60 rfl rfl ?_
  refine va_put (D := G.1) (ci := 18) (v := .int 0) (ty := tyJx35411 1) (C := "java/util/ArrayList$Itr") (T := TJx35411) (N := 4) hx hb hts inJx35411 tyJx35411 tyJx35411_ok nmJx35411 hown hK hP hD hS 1 rfl rfl 1 (by decide) (hts _ wq_2090) (fun _ h9 => h9) rfl (by decide +kernel) rfl rfl (Nat.le_of_ble_eq_true rfl) dJx35411_next_0502b_61 (fun H locs hP hD hS => ?_)
  have hP : va_P G.1 pz_cl [(a2, .inl (G.2 5, 10, .inr (.inr (.inr (.inr (va_up (fun _ => none) 0 (some (X (1000 + 128))))))))), (a0, .inr (18, [.int 1, .int 0, .int 2, .ref a1])), (a1, .inr (17, [.int 2, .ref a2, .int 1]))] H := hP
  have hD : va_D A [(a2, .inl (G.2 5, 10, .inr (.inr (.inr (.inr (va_up (fun _ => none) 0 (some (X (1000 + 128))))))))), (a0, .inr (18, [.int 1, .int 0, .int 2, .ref a1])), (a1, .inr (17, [.int 2, .ref a2, .int 1]))] := hD
  refine va_aldq hx hb hK hP 0 5 rfl rfl (pz_vi rfl) dJx35411_next_0502b_64 ?_
  refine W.eq (g2 := F0 m 65 ls [.ref (X (1000 + 128))]) rfl ?_
  exact pz_ra hx hb hr hlocks (Or.inl ⟨_, rfl⟩) (Or.inr ⟨_, rfl⟩) hS (Nat.le_of_ble_eq_true rfl) (Nat.le_of_ble_eq_true rfl) dJx35411_next_0502b_65 () rfl (hP.sub [1, 2, 0] rfl) (hD.sub [1, 2, 0] rfl rfl)
set_option maxHeartbeats 4000000 in
set_option maxRecDepth 100000 in
theorem cJ6_intValue_8abf5_1 (l : Launch) (hst : l.stackTraces = false) (G : pz_G) (X : Nat → Nat) (sz : Nat) : pz_MR (S := Unit) l yJ6_intValue_8abf5 (pz_cd yJ6_intValue_8abf5 cJ6_intValue_8abf5 1 (some .int)) 0 0 0 0 G X sz [] [.ref (X (1000 + 128))] (fun u => some (.int 0)) (fun u => []) := by
  refine pz_onR (by decide +kernel) (Nat.le_of_ble_eq_true rfl) ?_
  intro p e s m below meth c A hx hb hr hml hown hts hlocks hin hx0 hP hK hD hS hA hE ls hl
  have hown : s.vm.findClass "java/lang/Integer" = some m.cls := hown
  have hl : lv_has ls 1 [(0, .ref (X (1000 + 128)))] := hl
  refine lv_aload_n hx hb dJ6_intValue_8abf5_0 rfl (lv_at hl 0 rfl) ?_
  refine vb_get (X := []) (LP := []) (pv := fun _ => 0) (ad := fun k => X (1000 + k)) (v := vb_c 128) (T := TJ6) (ci := 16) hx hb hts inJ6 hown hE.2.2.2.2.1.2.2.2 hS hK hP rfl ⟨rfl, rfl, rfl⟩ (Or.inr ⟨128, by decide, rfl, rfl⟩) (hts _ wq_1866) (fun _ h9 => h9) dJ6_intValue_8abf5_1 (pz_K (y := 0) (by decide) ?_)
  exact pz_rz hx hb hr hlocks (by decide +kernel) hS (Nat.le_of_ble_eq_true rfl) (Nat.le_of_ble_eq_true rfl) dJ6_intValue_8abf5_4 () rfl (hP.sub [] rfl) (hD.sub [] rfl rfl)
set_option maxHeartbeats 4000000 in
set_option maxRecDepth 100000 in
theorem cX16_in_6 (l : Launch) (hst : l.stackTraces = false) (G : pz_G) (X : Nat → Nat) (sz : Nat) : pz_MR (S := Unit) l yX16_in (pz_cd yX16_in cX16_in 3 (some .boolean)) 0 0 0 0 G X sz [] [.int 0, .int 0, .int (-1)] (fun u => some (.int 0)) (fun u => []) := by
  refine pz_onR (by decide +kernel) (Nat.le_of_ble_eq_true rfl) ?_
  intro p e s m below meth c A hx hb hr hml hown hts hlocks hin hx0 hP hK hD hS hA hE ls hl
  have hown : s.vm.findClass "SourcewrightModel" = some m.cls := hown
  have hl : lv_has ls 3 [(0, .int 0), (1, .int 0), (2, .int (-1))] := hl
  refine lv_iload_n hx hb dX16_in_0 rfl (lv_at hl 0 rfl) ?_
  refine lv_iload_n hx hb dX16_in_1 rfl (lv_at hl 1 rfl) ?_
  refine lv_icmp_lt (tgt := 14) hx hb dX16_in_2 (by decide) (fun hc => absurd hc (by decide)) (fun _ => ?_)
  refine lv_iload_n hx hb dX16_in_5 rfl (lv_at hl 0 rfl) ?_
  refine lv_iload_n hx hb dX16_in_6 rfl (lv_at hl 2 rfl) ?_
  refine lv_icmp_gt (tgt := 14) hx hb dX16_in_7 (by decide) (fun _ => ?_) (fun hc => absurd hc (by decide))
  refine lv_iconst (v := 0) hx hb dX16_in_14 (by decide) ?_
  exact pz_rz hx hb hr hlocks (by decide +kernel) hS (Nat.le_of_ble_eq_true rfl) (Nat.le_of_ble_eq_true rfl) dX16_in_15 () rfl (hP.sub [] rfl) (hD.sub [] rfl rfl)
set_option maxHeartbeats 4000000 in
set_option maxRecDepth 100000 in
theorem cX16_isWhole_1 (l : Launch) (hst : l.stackTraces = false) (G : pz_G) (X : Nat → Nat) (sz : Nat) (a0 : Nat) (f0 : Nat → Int32) : pz_MR (S := Unit) l yX16_isWhole (pz_cd yX16_isWhole cX16_isWhole 2 (some .boolean)) 1 22 0 0 G X sz [(a0, .inl (G.2 0, 0, .inl (f0)))] [.ref a0, .int 0] (fun u => some (.int 0)) (fun u => [(a0, .inl (G.2 0, 0, .inl (f0)))]) := by
  refine pz_onR (by decide +kernel) (Nat.le_of_ble_eq_true rfl) ?_
  intro p e s m below meth c A hx hb hr hml hown hts hlocks hin hx0 hP hK hD hS hA hE ls hl
  have hown : s.vm.findClass "SourcewrightModel" = some m.cls := hown
  have hl : lv_has ls 2 [(0, .ref a0), (1, .int 0)] := hl
  refine lv_iload_n hx hb dX16_isWhole_0 rfl (lv_at hl 1 rfl) ?_
  refine lv_iconst (v := 0) hx hb dX16_isWhole_1 (by decide) ?_
  refine lv_aload_n hx hb dX16_isWhole_2 rfl (lv_at hl 0 rfl) ?_
  refine va_alen (v := 0) hx hb hK hP 0 0 rfl rfl (by show Int32.ofNat 0 = 0; decide) dX16_isWhole_3 ?_
  refine lv_iconst (v := 1) hx hb dX16_isWhole_4 (by decide) ?_
  refine lv_isub hx hb dX16_isWhole_5 (pz_K (y := (-1)) (by decide) ?_)
  refine pz_go (wr := [(a0, .inl (G.2 0, 0, .inl (f0)))]) (vx_runS (As := [.int 0, .int 0, .int (-1)]) (rest := []) ⟨hx, hb, hml, hown, hts⟩ (cX16_in_6 l hst G X s.heap.size) (va_cwS 3 hts (pz_gS wq_1843 wq_1844 wq_13 wq_1845) rfl rfl rfl (by decide +kernel) ⟨(Nat.le_of_ble_eq_true rfl), (Nat.le_of_ble_eq_true rfl)⟩) (pz_preS hK hP hD hS hA hE [] rfl rfl) rfl rfl hl.1 rfl (lv_room (Nat.le_of_ble_eq_true rfl)) dX16_isWhole_6 ⟨(Nat.le_of_ble_eq_true rfl), (Nat.le_of_ble_eq_true rfl)⟩) hP hD hS hA [] [0] rfl rfl rfl (by decide) (fun u H locs hP hD hS => ?_)
  have hP : va_P G.1 pz_cl [(a0, .inl (G.2 0, 0, .inl (f0)))] H := hP
  have hD : va_D A [(a0, .inl (G.2 0, 0, .inl (f0)))] := hD
  refine W.eq (g2 := F0 m 9 ls [.int 0]) rfl ?_
  refine lv_if_eq (tgt := 29) hx hb dX16_isWhole_9 (by decide) (fun _ => ?_) (fun hc => absurd hc (by decide))
  refine lv_iconst (v := 0) hx hb dX16_isWhole_29 (by decide) ?_
  exact pz_rz hx hb hr hlocks (by decide +kernel) hS (Nat.le_of_ble_eq_true rfl) (Nat.le_of_ble_eq_true rfl) dX16_isWhole_30 () rfl (hP.sub [0] rfl) (hD.sub [0] rfl rfl)
set_option maxHeartbeats 4000000 in
set_option maxRecDepth 100000 in
theorem cJx35411_hasNext_aae02_2 (l : Launch) (hst : l.stackTraces = false) (G : pz_G) (X : Nat → Nat) (sz : Nat) (a0 : Nat) (a1 : Nat) (a2 : Nat) : pz_MR (S := Unit) l yJx35411_hasNext_aae02 (pz_cd yJx35411_hasNext_aae02 cJx35411_hasNext_aae02 1 (some .boolean)) 0 0 0 0 G X sz [(a0, .inr (18, [.int 1, .int 0, .int 2, .ref a1])), (a1, .inr (17, [.int 2, .ref a2, .int 1]))] [.ref a0] (fun u => some (.int 0)) (fun u => [(a0, .inr (18, [.int 1, .int 0, .int 2, .ref a1])), (a1, .inr (17, [.int 2, .ref a2, .int 1]))]) := by
  refine pz_onR (by decide +kernel) (Nat.le_of_ble_eq_true rfl) ?_
  intro p e s m below meth c A hx hb hr hml hown hts hlocks hin hx0 hP hK hD hS hA hE ls hl
  have hown : s.vm.findClass "java/util/ArrayList$Itr" = some m.cls := hown
  have hl : lv_has ls 1 [(0, .ref a0)] := hl
  refine lv_aload_n hx hb dJx35411_hasNext_aae02_0 rfl (lv_at hl 0 rfl) ?_
  refine va_get (D := G.1) (ci := 18) (v := .int 1) (C := "java/util/ArrayList$Itr") (T := TJx35411) (N := 4) hx hb hts inJx35411 hown hK hP 0 rfl rfl 0 (by decide) (hts _ wq_2089) (fun _ h9 => h9) rfl dJx35411_hasNext_aae02_1 ?_
  refine lv_aload_n hx hb dJx35411_hasNext_aae02_4 rfl (lv_at hl 0 rfl) ?_
  refine va_get (D := G.1) (ci := 18) (v := .ref a1) (C := "java/util/ArrayList$Itr") (T := TJx35411) (N := 4) hx hb hts inJx35411 hown hK hP 0 rfl rfl 3 (by decide) (hts _ wq_2092) (fun _ h9 => h9) rfl dJx35411_hasNext_aae02_5 ?_
  refine va_getN (D := G.1) (ci := 17) (v := .int 1) (C := "java/util/ArrayList") (T := TJx4a65c) (N := 3) hx hb hts inJx4a65c hown hK hP 1 rfl rfl 2 (by decide) (va_Nw.use rfl (hE.2.2.2.2.2.2.2.2.1 _ nx_1800)) (fun _ h9 => h9) rfl dJx35411_hasNext_aae02_8 ?_
  refine lv_icmp_eq (tgt := 18) hx hb dJx35411_hasNext_aae02_11 (by decide) (fun _ => ?_) (fun hc => absurd hc (by decide))
  refine lv_iconst (v := 0) hx hb dJx35411_hasNext_aae02_18 (by decide) ?_
  exact pz_rz hx hb hr hlocks (by decide +kernel) hS (Nat.le_of_ble_eq_true rfl) (Nat.le_of_ble_eq_true rfl) dJx35411_hasNext_aae02_19 () rfl (hP.sub [0, 1] rfl) (hD.sub [0, 1] rfl rfl)
set_option maxHeartbeats 4000000 in
set_option maxRecDepth 100000 in
theorem cJx4a65c_isEmpty_aae02_1 (l : Launch) (hst : l.stackTraces = false) (G : pz_G) (X : Nat → Nat) (sz : Nat) (a0 : Nat) : pz_MR (S := Unit) l yJx4a65c_isEmpty_aae02 (pz_cd yJx4a65c_isEmpty_aae02 cJx4a65c_isEmpty_aae02 1 (some .boolean)) 0 0 0 0 G X sz [(a0, .inr (17, [.int 0, .ref (X 3), .int 0]))] [.ref a0] (fun u => some (.int 1)) (fun u => [(a0, .inr (17, [.int 0, .ref (X 3), .int 0]))]) := by
  refine pz_onR (by decide +kernel) (Nat.le_of_ble_eq_true rfl) ?_
  intro p e s m below meth c A hx hb hr hml hown hts hlocks hin hx0 hP hK hD hS hA hE ls hl
  have hown : s.vm.findClass "java/util/ArrayList" = some m.cls := hown
  have hl : lv_has ls 1 [(0, .ref a0)] := hl
  refine lv_aload_n hx hb dJx4a65c_isEmpty_aae02_0 rfl (lv_at hl 0 rfl) ?_
  refine va_get (D := G.1) (ci := 17) (v := .int 0) (C := "java/util/ArrayList") (T := TJx4a65c) (N := 3) hx hb hts inJx4a65c hown hK hP 0 rfl rfl 2 (by decide) (hts _ wq_1801) (fun _ h9 => h9) rfl dJx4a65c_isEmpty_aae02_1 ?_
  refine lv_if_ne (tgt := 11) hx hb dJx4a65c_isEmpty_aae02_4 (by decide) (fun hc => absurd hc (by decide)) (fun _ => ?_)
  refine lv_iconst (v := 1) hx hb dJx4a65c_isEmpty_aae02_7 (by decide) ?_
  refine lv_goto (tgt := 12) hx hb dJx4a65c_isEmpty_aae02_8 (by decide) ?_
  exact pz_rz hx hb hr hlocks (by decide +kernel) hS (Nat.le_of_ble_eq_true rfl) (Nat.le_of_ble_eq_true rfl) dJx4a65c_isEmpty_aae02_12 () rfl (hP.sub [0] rfl) (hD.sub [0] rfl rfl)
set_option maxHeartbeats 4000000 in
set_option maxRecDepth 100000 in
theorem cX13_walked_1 (l : Launch) (hst : l.stackTraces = false) (G : pz_G) (X : Nat → Nat) (sz : Nat) (a0 : Nat) (a1 : Nat) (a2 : Nat) (a3 : Nat) (a4 : Nat) (a5 : Nat) (a6 : Nat) (f0 : Nat → Int32) : pz_MR (S := Nat × Nat × Nat) l yX13_walked (pz_cd yX13_walked cX13_walked 9 (some (.array .boolean))) 4 72 3 7 G X sz [(a0, .inr (12, [.ref a2, .ref a3, .ref a5, .ref a6])), (a2, .inl (G.2 0, 0, .inl (f0))), (a3, .inr (17, [.int 2, .ref a4, .int 1])), (a4, .inl (G.2 5, 10, .inr (.inr (.inr (.inr (va_up (fun _ => none) 0 (some (X (1000 + 128)))))))))] [.ref a0, .ref a1] (fun u => some (.ref u.1)) (fun u => [(a0, .inr (12, [.ref a2, .ref a3, .ref a5, .ref a6])), (a2, .inl (G.2 0, 0, .inl (f0))), (a3, .inr (17, [.int 2, .ref a4, .int 1])), (a4, .inl (G.2 5, 10, .inr (.inr (.inr (.inr (va_up (fun _ => none) 0 (some (X (1000 + 128))))))))), (u.1, .inl (G.2 1, 0, .inl (fun _ => 0))), (u.2.2, .inr (18, [.int 1, .int 0, .int 2, .ref a3])), (u.2.1, .inr (17, [.int 0, .ref (X 3), .int 0]))]) := by
  refine pz_onR (by decide +kernel) (Nat.le_of_ble_eq_true rfl) ?_
  intro p e s m below meth c A hx hb hr hml hown hts hlocks hin hx0 hP hK hD hS hA hE ls hl
  have hown : s.vm.findClass "SourcewrightModel$Reading" = some m.cls := hown
  have hl : lv_has ls 9 [(0, .ref a0), (1, .ref a1)] := hl
  refine lv_aload_n hx hb dX13_walked_0 rfl (lv_at hl 0 rfl) ?_
  refine va_get (D := G.1) (ci := 12) (v := .ref a2) (C := "SourcewrightModel$Reading") (T := TX13) (N := 4) hx hb hts inX13 hown hK hP 0 rfl rfl 0 (by decide) (hts _ wq_2339) (fun _ h9 => h9) rfl dX13_walked_1 ?_
  refine va_alen (v := 0) hx hb hK hP 1 0 rfl rfl (by show Int32.ofNat 0 = 0; decide) dX13_walked_4 ?_
  refine va_newa (atype := .boolean) (ty := .boolean) (a0 := (0, .inl (fun _ => 0))) hx hb (hts _ wq_124) rfl hK hP hD hS hA (fun _ => rfl) (by decide) (by decide) (Nat.le_of_ble_eq_true rfl) (Nat.le_of_ble_eq_true rfl) (Nat.le_of_ble_eq_true rfl) dX13_walked_5 (fun q1 cA H hK hP hD hS => ?_)
  obtain rfl : cA = G.2 1 := pz_ty hK 7 1 rfl rfl (fun C h => by cases h)
  have hK : va_K G.1 pz_cl (pz_T G) s := hK.sub [0, 1, 2, 3, 4, 5, 6] rfl
  have hP : va_P G.1 pz_cl [(a0, .inr (12, [.ref a2, .ref a3, .ref a5, .ref a6])), (a2, .inl (G.2 0, 0, .inl (f0))), (a3, .inr (17, [.int 2, .ref a4, .int 1])), (a4, .inl (G.2 5, 10, .inr (.inr (.inr (.inr (va_up (fun _ => none) 0 (some (X (1000 + 128))))))))), (q1, .inl (G.2 1, 0, .inl (fun _ => 0)))] H := hP
  have hD : va_D A [(a0, .inr (12, [.ref a2, .ref a3, .ref a5, .ref a6])), (a2, .inl (G.2 0, 0, .inl (f0))), (a3, .inr (17, [.int 2, .ref a4, .int 1])), (a4, .inl (G.2 5, 10, .inr (.inr (.inr (.inr (va_up (fun _ => none) 0 (some (X (1000 + 128))))))))), (q1, .inl (G.2 1, 0, .inl (fun _ => 0)))] := hD
  refine lv_astore_n (lv' := [(2, .ref q1), (0, .ref a0), (1, .ref a1)]) hx hb dX13_walked_7 rfl hl (by decide) rfl (fun ls hl => ?_)
  refine va_new (ci := 17) (fs := [.int 0, .null, .int 0]) (C := "java/util/ArrayList") (T := TJx4a65c) (N := 3) hx hb hts inJx4a65c tyJx4a65c tyJx4a65c_ok hown (hts _ wq_2056) (hts _ wq_1785) (hts _ wq_16) hK hP hD hS hA rfl (pz_dfJx4a65c) (Nat.le_of_ble_eq_true rfl) (Nat.le_of_ble_eq_true rfl) dX13_walked_8 (fun q2 H hP hD hS => ?_)
  have hP : va_P G.1 pz_cl [(a0, .inr (12, [.ref a2, .ref a3, .ref a5, .ref a6])), (a2, .inl (G.2 0, 0, .inl (f0))), (a3, .inr (17, [.int 2, .ref a4, .int 1])), (a4, .inl (G.2 5, 10, .inr (.inr (.inr (.inr (va_up (fun _ => none) 0 (some (X (1000 + 128))))))))), (q1, .inl (G.2 1, 0, .inl (fun _ => 0))), (q2, .inr (17, [.int 0, .null, .int 0]))] H := hP
  have hD : va_D A [(a0, .inr (12, [.ref a2, .ref a3, .ref a5, .ref a6])), (a2, .inl (G.2 0, 0, .inl (f0))), (a3, .inr (17, [.int 2, .ref a4, .int 1])), (a4, .inl (G.2 5, 10, .inr (.inr (.inr (.inr (va_up (fun _ => none) 0 (some (X (1000 + 128))))))))), (q1, .inl (G.2 1, 0, .inl (fun _ => 0))), (q2, .inr (17, [.int 0, .null, .int 0]))] := hD
  refine lv_dup hx hb dX13_walked_11 rfl ?_
  refine pz_go (wr := [(a0, .inr (12, [.ref a2, .ref a3, .ref a5, .ref a6])), (a2, .inl (G.2 0, 0, .inl (f0))), (a3, .inr (17, [.int 2, .ref a4, .int 1])), (a4, .inl (G.2 5, 10, .inr (.inr (.inr (.inr (va_up (fun _ => none) 0 (some (X (1000 + 128))))))))), (q1, .inl (G.2 1, 0, .inl (fun _ => 0)))]) (vx_runI (As := []) (rest := [.ref q2]) ⟨hx, hb, hml, hown, hts⟩ (cJx4a65c_init_da8c8_1 l hst G X H.size q2) (cwI 0 hts (pz_gC wq_1788) rfl rfl rfl (hts _ wq_16) (hts _ wq_2057) (hts _ wq_1787) rfl (by decide +kernel) ⟨(Nat.le_of_ble_eq_true rfl), (Nat.le_of_ble_eq_true rfl)⟩) (pz_preS hK hP hD hS hA hE [5] rfl rfl) rfl rfl hl.1 rfl (lv_room (Nat.le_of_ble_eq_true rfl)) dX13_walked_12 ⟨(Nat.le_of_ble_eq_true rfl), (Nat.le_of_ble_eq_true rfl)⟩) hP hD hS hA [5] [0, 1, 2, 3, 4] rfl rfl rfl (by decide) (fun u H locs hP hD hS => ?_)
  have hP : va_P G.1 pz_cl [(a0, .inr (12, [.ref a2, .ref a3, .ref a5, .ref a6])), (a2, .inl (G.2 0, 0, .inl (f0))), (a3, .inr (17, [.int 2, .ref a4, .int 1])), (a4, .inl (G.2 5, 10, .inr (.inr (.inr (.inr (va_up (fun _ => none) 0 (some (X (1000 + 128))))))))), (q1, .inl (G.2 1, 0, .inl (fun _ => 0))), (q2, .inr (17, [.int 0, .ref (X 3), .int 0]))] H := hP
  have hD : va_D A [(a0, .inr (12, [.ref a2, .ref a3, .ref a5, .ref a6])), (a2, .inl (G.2 0, 0, .inl (f0))), (a3, .inr (17, [.int 2, .ref a4, .int 1])), (a4, .inl (G.2 5, 10, .inr (.inr (.inr (.inr (va_up (fun _ => none) 0 (some (X (1000 + 128))))))))), (q1, .inl (G.2 1, 0, .inl (fun _ => 0))), (q2, .inr (17, [.int 0, .ref (X 3), .int 0]))] := hD
  refine W.eq (g2 := F0 m 15 ls [.ref q2]) rfl ?_
  refine lv_astore_n (lv' := [(3, .ref q2), (2, .ref q1), (0, .ref a0), (1, .ref a1)]) hx hb dX13_walked_15 rfl hl (by decide) rfl (fun ls hl => ?_)
  refine lv_iconst (v := 0) hx hb dX13_walked_16 (by decide) ?_
  refine lv_istore (lv' := [(4, .int 0), (3, .ref q2), (2, .ref q1), (0, .ref a0), (1, .ref a1)]) hx hb dX13_walked_17 hl (by decide) rfl (fun ls hl => ?_)
  refine lv_iload hx hb dX13_walked_19 (lv_at hl 0 rfl) ?_
  refine lv_aload_n hx hb dX13_walked_21 rfl (lv_at hl 3 rfl) ?_
  refine va_get (D := G.1) (ci := 12) (v := .ref a2) (C := "SourcewrightModel$Reading") (T := TX13) (N := 4) hx hb hts inX13 hown hK hP 0 rfl rfl 0 (by decide) (hts _ wq_2339) (fun _ h9 => h9) rfl dX13_walked_22 ?_
  refine va_alen (v := 0) hx hb hK hP 1 0 rfl rfl (by show Int32.ofNat 0 = 0; decide) dX13_walked_25 ?_
  refine lv_icmp_ge (tgt := 43) hx hb dX13_walked_26 (by decide) (fun _ => ?_) (fun hc => absurd hc (by decide))
  refine lv_aload_n hx hb dX13_walked_43 rfl (lv_at hl 3 rfl) ?_
  refine va_get (D := G.1) (ci := 12) (v := .ref a3) (C := "SourcewrightModel$Reading") (T := TX13) (N := 4) hx hb hts inX13 hown hK hP 0 rfl rfl 1 (by decide) (hts _ wq_2342) (fun _ h9 => h9) rfl dX13_walked_44 ?_
  refine pz_go (wr := [(a0, .inr (12, [.ref a2, .ref a3, .ref a5, .ref a6])), (a2, .inl (G.2 0, 0, .inl (f0))), (a4, .inl (G.2 5, 10, .inr (.inr (.inr (.inr (va_up (fun _ => none) 0 (some (X (1000 + 128))))))))), (q1, .inl (G.2 1, 0, .inl (fun _ => 0))), (q2, .inr (17, [.int 0, .ref (X 3), .int 0]))]) (vx_runV (C := "java/util/ArrayList") (As := []) (rest := []) ⟨hx, hb, hml, hown, hts⟩ (cJx4a65c_iterator_32c93_1 l hst G X H.size a3 a4) (cwV 0 hts (pz_gV wq_2079 wq_2080 wq_2081 wq_16 wq_2082) rfl rfl rfl (by decide +kernel) ⟨(Nat.le_of_ble_eq_true rfl), (Nat.le_of_ble_eq_true rfl)⟩) (pz_preV (C := ("java/util/ArrayList", TJx4a65c, 3)) hK hP hD hS hA hE 2 (ci := 17) rfl rfl [2] rfl rfl) rfl rfl hl.1 rfl (lv_room (Nat.le_of_ble_eq_true rfl)) dX13_walked_47 ⟨(Nat.le_of_ble_eq_true rfl), (Nat.le_of_ble_eq_true rfl)⟩) hP hD hS hA [2] [0, 1, 3, 4, 5] rfl rfl rfl (by decide) (fun q3 H locs hP hD hS => ?_)
  have hP : va_P G.1 pz_cl [(a0, .inr (12, [.ref a2, .ref a3, .ref a5, .ref a6])), (a2, .inl (G.2 0, 0, .inl (f0))), (a4, .inl (G.2 5, 10, .inr (.inr (.inr (.inr (va_up (fun _ => none) 0 (some (X (1000 + 128))))))))), (q1, .inl (G.2 1, 0, .inl (fun _ => 0))), (q2, .inr (17, [.int 0, .ref (X 3), .int 0])), (a3, .inr (17, [.int 2, .ref a4, .int 1])), (q3, .inr (18, [.int 0, .int (-1), .int 2, .ref a3]))] H := hP
  have hD : va_D A [(a0, .inr (12, [.ref a2, .ref a3, .ref a5, .ref a6])), (a2, .inl (G.2 0, 0, .inl (f0))), (a4, .inl (G.2 5, 10, .inr (.inr (.inr (.inr (va_up (fun _ => none) 0 (some (X (1000 + 128))))))))), (q1, .inl (G.2 1, 0, .inl (fun _ => 0))), (q2, .inr (17, [.int 0, .ref (X 3), .int 0])), (a3, .inr (17, [.int 2, .ref a4, .int 1])), (q3, .inr (18, [.int 0, .int (-1), .int 2, .ref a3]))] := hD
  refine W.eq (g2 := F0 m 50 ls [.ref q3]) rfl ?_
  refine lv_astore (lv' := [(4, .ref q3), (3, .ref q2), (2, .ref q1), (0, .ref a0), (1, .ref a1)]) hx hb dX13_walked_50 hl (by decide) rfl (fun ls hl => ?_)
  refine lv_aload hx hb dX13_walked_52 (lv_at hl 0 rfl) ?_
  refine pz_go5 (wr := [(a0, .inr (12, [.ref a2, .ref a3, .ref a5, .ref a6])), (a2, .inl (G.2 0, 0, .inl (f0))), (a4, .inl (G.2 5, 10, .inr (.inr (.inr (.inr (va_up (fun _ => none) 0 (some (X (1000 + 128))))))))), (q1, .inl (G.2 1, 0, .inl (fun _ => 0))), (q2, .inr (17, [.int 0, .ref (X 3), .int 0]))]) (vx_runF (C := "java/util/ArrayList$Itr") (As := []) (rest := []) (hK.1 18 _ rfl).2 ⟨hx, hb, hml, hown, hts⟩ (cJx35411_hasNext_aae02_1 l hst G X H.size q3 a3 a4) (va_cwF 0 hts (pz_gF wq_2103 wq_2107 wq_2109 wq_37 wq_2111) rfl rfl rfl (hE.2.2.2.2.2.2.2.2.2.2.2.2 _ fw_ArrayList_Itr_hasNext) (by decide +kernel) ⟨(Nat.le_of_ble_eq_true rfl), (Nat.le_of_ble_eq_true rfl)⟩) (pz_preV (C := ("java/util/ArrayList$Itr", TJx35411, 4)) hK hP hD hS hA hE 6 (ci := 18) rfl rfl [6, 5] rfl rfl) rfl rfl hl.1 rfl (lv_room (Nat.le_of_ble_eq_true rfl)) dX13_walked_54 ⟨(Nat.le_of_ble_eq_true rfl), (Nat.le_of_ble_eq_true rfl)⟩) hP hD hS hA [6, 5] [0, 1, 2, 3, 4] rfl rfl rfl (by decide) (fun u H locs hP hD hS => ?_)
  have hP : va_P G.1 pz_cl [(a0, .inr (12, [.ref a2, .ref a3, .ref a5, .ref a6])), (a2, .inl (G.2 0, 0, .inl (f0))), (a4, .inl (G.2 5, 10, .inr (.inr (.inr (.inr (va_up (fun _ => none) 0 (some (X (1000 + 128))))))))), (q1, .inl (G.2 1, 0, .inl (fun _ => 0))), (q2, .inr (17, [.int 0, .ref (X 3), .int 0])), (q3, .inr (18, [.int 0, .int (-1), .int 2, .ref a3])), (a3, .inr (17, [.int 2, .ref a4, .int 1]))] H := hP
  have hD : va_D A [(a0, .inr (12, [.ref a2, .ref a3, .ref a5, .ref a6])), (a2, .inl (G.2 0, 0, .inl (f0))), (a4, .inl (G.2 5, 10, .inr (.inr (.inr (.inr (va_up (fun _ => none) 0 (some (X (1000 + 128))))))))), (q1, .inl (G.2 1, 0, .inl (fun _ => 0))), (q2, .inr (17, [.int 0, .ref (X 3), .int 0])), (q3, .inr (18, [.int 0, .int (-1), .int 2, .ref a3])), (a3, .inr (17, [.int 2, .ref a4, .int 1]))] := hD
  refine W.eq (g2 := F0 m 59 ls [.int 1]) rfl ?_
  refine lv_if_eq (tgt := 107) hx hb dX13_walked_59 (by decide) (fun hc => absurd hc (by decide)) (fun _ => ?_)
  refine lv_aload hx hb dX13_walked_62 (lv_at hl 0 rfl) ?_
  refine pz_go5 (wr := [(a0, .inr (12, [.ref a2, .ref a3, .ref a5, .ref a6])), (a2, .inl (G.2 0, 0, .inl (f0))), (q1, .inl (G.2 1, 0, .inl (fun _ => 0))), (q2, .inr (17, [.int 0, .ref (X 3), .int 0]))]) (vx_runF (C := "java/util/ArrayList$Itr") (As := []) (rest := []) (hK.1 18 _ rfl).2 ⟨hx, hb, hml, hown, hts⟩ (cJx35411_next_0502b_1 l hst G X H.size q3 a3 a4) (va_cwF 0 hts (pz_gF wq_2113 wq_2116 wq_2118 wq_37 wq_2120) rfl rfl rfl (hE.2.2.2.2.2.2.2.2.2.2.2.2 _ fw_ArrayList_Itr_next) (by decide +kernel) ⟨(Nat.le_of_ble_eq_true rfl), (Nat.le_of_ble_eq_true rfl)⟩) (pz_preV (C := ("java/util/ArrayList$Itr", TJx35411, 4)) hK hP hD hS hA hE 5 (ci := 18) rfl rfl [5, 6, 2] rfl rfl) rfl rfl hl.1 rfl (lv_room (Nat.le_of_ble_eq_true rfl)) dX13_walked_64 ⟨(Nat.le_of_ble_eq_true rfl), (Nat.le_of_ble_eq_true rfl)⟩) hP hD hS hA [5, 6, 2] [0, 1, 3, 4] rfl rfl rfl (by decide) (fun u H locs hP hD hS => ?_)
  have hP : va_P G.1 pz_cl [(a0, .inr (12, [.ref a2, .ref a3, .ref a5, .ref a6])), (a2, .inl (G.2 0, 0, .inl (f0))), (q1, .inl (G.2 1, 0, .inl (fun _ => 0))), (q2, .inr (17, [.int 0, .ref (X 3), .int 0])), (q3, .inr (18, [.int 1, .int 0, .int 2, .ref a3])), (a3, .inr (17, [.int 2, .ref a4, .int 1])), (a4, .inl (G.2 5, 10, .inr (.inr (.inr (.inr (va_up (fun _ => none) 0 (some (X (1000 + 128)))))))))] H := hP
  have hD : va_D A [(a0, .inr (12, [.ref a2, .ref a3, .ref a5, .ref a6])), (a2, .inl (G.2 0, 0, .inl (f0))), (q1, .inl (G.2 1, 0, .inl (fun _ => 0))), (q2, .inr (17, [.int 0, .ref (X 3), .int 0])), (q3, .inr (18, [.int 1, .int 0, .int 2, .ref a3])), (a3, .inr (17, [.int 2, .ref a4, .int 1])), (a4, .inl (G.2 5, 10, .inr (.inr (.inr (.inr (va_up (fun _ => none) 0 (some (X (1000 + 128)))))))))] := hD
  refine W.eq (g2 := F0 m 69 ls [.ref (X (1000 + 128))]) rfl ?_
  refine va_castS (nm := "java/lang/Integer") hx hb hown (hts _ wq_2136) (hK.1 16 _ rfl).2 (va_Orecv (hE.2.2.2.2.1.2.2.2.1 128 (by decide)) hS) dX13_walked_69 ?_
  refine pz_go (wr := [(a0, .inr (12, [.ref a2, .ref a3, .ref a5, .ref a6])), (a2, .inl (G.2 0, 0, .inl (f0))), (q1, .inl (G.2 1, 0, .inl (fun _ => 0))), (q2, .inr (17, [.int 0, .ref (X 3), .int 0])), (q3, .inr (18, [.int 1, .int 0, .int 2, .ref a3])), (a3, .inr (17, [.int 2, .ref a4, .int 1])), (a4, .inl (G.2 5, 10, .inr (.inr (.inr (.inr (va_up (fun _ => none) 0 (some (X (1000 + 128)))))))))]) (vx_runV (C := "java/lang/Integer") (As := []) (rest := []) ⟨hx, hb, hml, hown, hts⟩ (cJ6_intValue_8abf5_1 l hst G X H.size) (cwV 0 hts (pz_gV wq_2137 wq_1963 wq_1964 wq_24 wq_1965) rfl rfl rfl (by decide +kernel) ⟨(Nat.le_of_ble_eq_true rfl), (Nat.le_of_ble_eq_true rfl)⟩) ⟨pz_blind, va_Orecv (hE.2.2.2.2.1.2.2.2.1 128 (by decide)) hS, (pz_preS hK hP hD hS hA hE [] rfl rfl).2⟩ rfl rfl hl.1 rfl (lv_room (Nat.le_of_ble_eq_true rfl)) dX13_walked_72 ⟨(Nat.le_of_ble_eq_true rfl), (Nat.le_of_ble_eq_true rfl)⟩) hP hD hS hA [] [0, 1, 2, 3, 4, 5, 6] rfl rfl rfl (by decide) (fun u H locs hP hD hS => ?_)
  have hP : va_P G.1 pz_cl [(a0, .inr (12, [.ref a2, .ref a3, .ref a5, .ref a6])), (a2, .inl (G.2 0, 0, .inl (f0))), (q1, .inl (G.2 1, 0, .inl (fun _ => 0))), (q2, .inr (17, [.int 0, .ref (X 3), .int 0])), (q3, .inr (18, [.int 1, .int 0, .int 2, .ref a3])), (a3, .inr (17, [.int 2, .ref a4, .int 1])), (a4, .inl (G.2 5, 10, .inr (.inr (.inr (.inr (va_up (fun _ => none) 0 (some (X (1000 + 128)))))))))] H := hP
  have hD : va_D A [(a0, .inr (12, [.ref a2, .ref a3, .ref a5, .ref a6])), (a2, .inl (G.2 0, 0, .inl (f0))), (q1, .inl (G.2 1, 0, .inl (fun _ => 0))), (q2, .inr (17, [.int 0, .ref (X 3), .int 0])), (q3, .inr (18, [.int 1, .int 0, .int 2, .ref a3])), (a3, .inr (17, [.int 2, .ref a4, .int 1])), (a4, .inl (G.2 5, 10, .inr (.inr (.inr (.inr (va_up (fun _ => none) 0 (some (X (1000 + 128)))))))))] := hD
  refine W.eq (g2 := F0 m 75 ls [.int 0]) rfl ?_
  refine lv_istore (lv' := [(5, .int 0), (4, .ref q3), (3, .ref q2), (2, .ref q1), (0, .ref a0), (1, .ref a1)]) hx hb dX13_walked_75 hl (by decide) rfl (fun ls hl => ?_)
  refine lv_aload_n hx hb dX13_walked_77 rfl (lv_at hl 4 rfl) ?_
  refine va_get (D := G.1) (ci := 12) (v := .ref a2) (C := "SourcewrightModel$Reading") (T := TX13) (N := 4) hx hb hts inX13 hown hK hP 0 rfl rfl 0 (by decide) (hts _ wq_2339) (fun _ h9 => h9) rfl dX13_walked_78 ?_
  refine lv_iload hx hb dX13_walked_81 (lv_at hl 0 rfl) ?_
  refine pz_go (wr := [(a0, .inr (12, [.ref a2, .ref a3, .ref a5, .ref a6])), (q1, .inl (G.2 1, 0, .inl (fun _ => 0))), (q2, .inr (17, [.int 0, .ref (X 3), .int 0])), (q3, .inr (18, [.int 1, .int 0, .int 2, .ref a3])), (a3, .inr (17, [.int 2, .ref a4, .int 1])), (a4, .inl (G.2 5, 10, .inr (.inr (.inr (.inr (va_up (fun _ => none) 0 (some (X (1000 + 128)))))))))]) (vx_runSN (As := [.ref a2, .int 0]) (rest := []) ⟨hx, hb, hml, hown, hts⟩ (cX16_isWhole_1 l hst G X H.size a2 f0) ⟨va_cnB 2 hts (pz_gC wq_2140) rfl rfl rfl (hE.2.2.2.2.2.2.2.2.1 _ nx_2138) (hts _ wq_13) (by decide +kernel) ⟨(Nat.le_of_ble_eq_true rfl), (Nat.le_of_ble_eq_true rfl)⟩, hts _ wq_2139, trivial⟩ (pz_preS hK hP hD hS hA hE [1] rfl rfl) rfl rfl hl.1 rfl (lv_room (Nat.le_of_ble_eq_true rfl)) dX13_walked_83 ⟨(Nat.le_of_ble_eq_true rfl), (Nat.le_of_ble_eq_true rfl)⟩) hP hD hS hA [1] [0, 2, 3, 4, 5, 6] rfl rfl rfl (by decide) (fun u H locs hP hD hS => ?_)
  have hP : va_P G.1 pz_cl [(a0, .inr (12, [.ref a2, .ref a3, .ref a5, .ref a6])), (q1, .inl (G.2 1, 0, .inl (fun _ => 0))), (q2, .inr (17, [.int 0, .ref (X 3), .int 0])), (q3, .inr (18, [.int 1, .int 0, .int 2, .ref a3])), (a3, .inr (17, [.int 2, .ref a4, .int 1])), (a4, .inl (G.2 5, 10, .inr (.inr (.inr (.inr (va_up (fun _ => none) 0 (some (X (1000 + 128))))))))), (a2, .inl (G.2 0, 0, .inl (f0)))] H := hP
  have hD : va_D A [(a0, .inr (12, [.ref a2, .ref a3, .ref a5, .ref a6])), (q1, .inl (G.2 1, 0, .inl (fun _ => 0))), (q2, .inr (17, [.int 0, .ref (X 3), .int 0])), (q3, .inr (18, [.int 1, .int 0, .int 2, .ref a3])), (a3, .inr (17, [.int 2, .ref a4, .int 1])), (a4, .inl (G.2 5, 10, .inr (.inr (.inr (.inr (va_up (fun _ => none) 0 (some (X (1000 + 128))))))))), (a2, .inl (G.2 0, 0, .inl (f0)))] := hD
  refine W.eq (g2 := F0 m 86 ls [.int 0]) rfl ?_
  refine lv_if_eq (tgt := 104) hx hb dX13_walked_86 (by decide) (fun _ => ?_) (fun hc => absurd hc (by decide))
  refine lv_goto (tgt := 52) hx hb dX13_walked_104 (by decide) ?_
  refine lv_aload hx hb dX13_walked_52 (lv_at hl 1 rfl) ?_
  refine pz_go5 (wr := [(a0, .inr (12, [.ref a2, .ref a3, .ref a5, .ref a6])), (q1, .inl (G.2 1, 0, .inl (fun _ => 0))), (q2, .inr (17, [.int 0, .ref (X 3), .int 0])), (a4, .inl (G.2 5, 10, .inr (.inr (.inr (.inr (va_up (fun _ => none) 0 (some (X (1000 + 128))))))))), (a2, .inl (G.2 0, 0, .inl (f0)))]) (vx_runF (C := "java/util/ArrayList$Itr") (As := []) (rest := []) (hK.1 18 _ rfl).2 ⟨hx, hb, hml, hown, hts⟩ (cJx35411_hasNext_aae02_2 l hst G X H.size q3 a3 a4) (va_cwF 0 hts (pz_gF wq_2103 wq_2107 wq_2109 wq_37 wq_2111) rfl rfl rfl (hE.2.2.2.2.2.2.2.2.2.2.2.2 _ fw_ArrayList_Itr_hasNext) (by decide +kernel) ⟨(Nat.le_of_ble_eq_true rfl), (Nat.le_of_ble_eq_true rfl)⟩) (pz_preV (C := ("java/util/ArrayList$Itr", TJx35411, 4)) hK hP hD hS hA hE 3 (ci := 18) rfl rfl [3, 4] rfl rfl) rfl rfl hl.1 rfl (lv_room (Nat.le_of_ble_eq_true rfl)) dX13_walked_54 ⟨(Nat.le_of_ble_eq_true rfl), (Nat.le_of_ble_eq_true rfl)⟩) hP hD hS hA [3, 4] [0, 1, 2, 5, 6] rfl rfl rfl (by decide) (fun u H locs hP hD hS => ?_)
  have hP : va_P G.1 pz_cl [(a0, .inr (12, [.ref a2, .ref a3, .ref a5, .ref a6])), (q1, .inl (G.2 1, 0, .inl (fun _ => 0))), (q2, .inr (17, [.int 0, .ref (X 3), .int 0])), (a4, .inl (G.2 5, 10, .inr (.inr (.inr (.inr (va_up (fun _ => none) 0 (some (X (1000 + 128))))))))), (a2, .inl (G.2 0, 0, .inl (f0))), (q3, .inr (18, [.int 1, .int 0, .int 2, .ref a3])), (a3, .inr (17, [.int 2, .ref a4, .int 1]))] H := hP
  have hD : va_D A [(a0, .inr (12, [.ref a2, .ref a3, .ref a5, .ref a6])), (q1, .inl (G.2 1, 0, .inl (fun _ => 0))), (q2, .inr (17, [.int 0, .ref (X 3), .int 0])), (a4, .inl (G.2 5, 10, .inr (.inr (.inr (.inr (va_up (fun _ => none) 0 (some (X (1000 + 128))))))))), (a2, .inl (G.2 0, 0, .inl (f0))), (q3, .inr (18, [.int 1, .int 0, .int 2, .ref a3])), (a3, .inr (17, [.int 2, .ref a4, .int 1]))] := hD
  refine W.eq (g2 := F0 m 59 ls [.int 0]) rfl ?_
  refine lv_if_eq (tgt := 107) hx hb dX13_walked_59 (by decide) (fun _ => ?_) (fun hc => absurd hc (by decide))
  refine lv_aload_n hx hb dX13_walked_107 rfl (lv_at hl 2 rfl) ?_
  refine pz_go (wr := [(a0, .inr (12, [.ref a2, .ref a3, .ref a5, .ref a6])), (q1, .inl (G.2 1, 0, .inl (fun _ => 0))), (a4, .inl (G.2 5, 10, .inr (.inr (.inr (.inr (va_up (fun _ => none) 0 (some (X (1000 + 128))))))))), (a2, .inl (G.2 0, 0, .inl (f0))), (q3, .inr (18, [.int 1, .int 0, .int 2, .ref a3])), (a3, .inr (17, [.int 2, .ref a4, .int 1]))]) (vx_runV (C := "java/util/ArrayList") (As := []) (rest := []) ⟨hx, hb, hml, hown, hts⟩ (cJx4a65c_isEmpty_aae02_1 l hst G X H.size q2) (cwV 0 hts (pz_gV wq_2144 wq_2145 wq_2146 wq_16 wq_2147) rfl rfl rfl (by decide +kernel) ⟨(Nat.le_of_ble_eq_true rfl), (Nat.le_of_ble_eq_true rfl)⟩) (pz_preV (C := ("java/util/ArrayList", TJx4a65c, 3)) hK hP hD hS hA hE 2 (ci := 17) rfl rfl [2] rfl rfl) rfl rfl hl.1 rfl (lv_room (Nat.le_of_ble_eq_true rfl)) dX13_walked_108 ⟨(Nat.le_of_ble_eq_true rfl), (Nat.le_of_ble_eq_true rfl)⟩) hP hD hS hA [2] [0, 1, 3, 4, 5, 6] rfl rfl rfl (by decide) (fun u H locs hP hD hS => ?_)
  have hP : va_P G.1 pz_cl [(a0, .inr (12, [.ref a2, .ref a3, .ref a5, .ref a6])), (q1, .inl (G.2 1, 0, .inl (fun _ => 0))), (a4, .inl (G.2 5, 10, .inr (.inr (.inr (.inr (va_up (fun _ => none) 0 (some (X (1000 + 128))))))))), (a2, .inl (G.2 0, 0, .inl (f0))), (q3, .inr (18, [.int 1, .int 0, .int 2, .ref a3])), (a3, .inr (17, [.int 2, .ref a4, .int 1])), (q2, .inr (17, [.int 0, .ref (X 3), .int 0]))] H := hP
  have hD : va_D A [(a0, .inr (12, [.ref a2, .ref a3, .ref a5, .ref a6])), (q1, .inl (G.2 1, 0, .inl (fun _ => 0))), (a4, .inl (G.2 5, 10, .inr (.inr (.inr (.inr (va_up (fun _ => none) 0 (some (X (1000 + 128))))))))), (a2, .inl (G.2 0, 0, .inl (f0))), (q3, .inr (18, [.int 1, .int 0, .int 2, .ref a3])), (a3, .inr (17, [.int 2, .ref a4, .int 1])), (q2, .inr (17, [.int 0, .ref (X 3), .int 0]))] := hD
  refine W.eq (g2 := F0 m 111 ls [.int 1]) rfl ?_
  refine lv_if_ne (tgt := 288) hx hb dX13_walked_111 (by decide) (fun _ => ?_) (fun hc => absurd hc (by decide))
  refine lv_aload_n hx hb dX13_walked_288 rfl (lv_at hl 3 rfl) ?_
  exact pz_ra hx hb hr hlocks (Or.inr ⟨_, rfl⟩) (Or.inr ⟨_, rfl⟩) hS (Nat.le_of_ble_eq_true rfl) (Nat.le_of_ble_eq_true rfl) dX13_walked_289 (q1, q2, q3) rfl (hP.sub [0, 3, 5, 2, 1, 4, 6] rfl) (hD.sub [0, 3, 5, 2, 1, 4, 6] rfl rfl)
set_option maxHeartbeats 4000000 in
set_option maxRecDepth 100000 in
theorem cX13_init_1 (l : Launch) (hst : l.stackTraces = false) (G : pz_G) (X : Nat → Nat) (sz : Nat) (a0 : Nat) (a1 : Nat) (a2 : Nat) (f0 : Nat → Int32) : pz_MR (S := Nat × Nat × Nat × Nat × Nat × Nat × Nat × Nat × Nat × Nat × Nat × Nat) l yX13_init (pz_cd yX13_init cX13_init 7 none) 5 129 12 30 G X sz [(a0, .inr (12, [.null, .null, .null, .null])), (a1, .inl (G.2 0, 0, .inl (f0))), (a2, .inr (17, [.int 0, .ref (X 3), .int 0]))] [.ref a0, .ref a1, .ref a2] (fun u => none) (fun u => [(a0, .inr (12, [.ref a1, .ref u.1, .ref u.2.2.1, .ref u.2.1])), (a1, .inl (G.2 0, 0, .inl (f0))), (a2, .inr (17, [.int 0, .ref (X 3), .int 0])), (u.2.1, .inr (17, [.int 0, .ref (X 3), .int 0])), (u.2.2.1, .inl (G.2 1, 0, .inl (fun _ => 0))), (u.2.2.2.2.1, .inl (G.2 5, 0, .inr (.inr (.inr (.inr (fun _ => none)))))), (u.2.2.2.2.2.1, .inl (G.2 1, 0, .inl (fun _ => 0))), (u.2.2.2.2.2.2.1, .inl (G.2 1, 0, .inl (fun _ => 0))), (u.2.2.2.2.2.2.2.2.1, .inr (18, [.int 1, .int 0, .int 2, .ref u.1])), (u.2.2.2.2.2.2.2.1, .inr (17, [.int 0, .ref (X 3), .int 0])), (u.1, .inr (17, [.int 2, .ref u.2.2.2.1, .int 1])), (u.2.2.2.1, .inl (G.2 5, 10, .inr (.inr (.inr (.inr (va_up (fun _ => none) 0 (some (X (1000 + 128))))))))), (u.2.2.2.2.2.2.2.2.2.1, .inl (G.2 1, 0, .inl (fun _ => 0))), (u.2.2.2.2.2.2.2.2.2.2.2, .inr (18, [.int 1, .int 0, .int 2, .ref u.1])), (u.2.2.2.2.2.2.2.2.2.2.1, .inr (17, [.int 0, .ref (X 3), .int 0]))]) := by
  refine pz_onR (by decide +kernel) (Nat.le_of_ble_eq_true rfl) ?_
  intro p e s m below meth c A hx hb hr hml hown hts hlocks hin hx0 hP hK hD hS hA hE ls hl
  have hown : s.vm.findClass "SourcewrightModel$Reading" = some m.cls := hown
  have hl : lv_has ls 7 [(0, .ref a0), (1, .ref a1), (2, .ref a2)] := hl
  refine lv_aload_n hx hb dX13_init_0 rfl (lv_at hl 0 rfl) ?_
  refine W.objInit hx hb hown (hts _ wq_2055) (hts _ wq_54) (hts _ wq_55) rfl (by rw [hml]; exact hl.1) rfl dX13_init_1 (Nat.le_of_ble_eq_true rfl) (Nat.le_of_ble_eq_true rfl) ?_
  refine W.eq (g2 := F0 m 4 ls []) rfl ?_
  refine lv_aload_n hx hb dX13_init_4 rfl (lv_at hl 0 rfl) ?_
  refine va_new (ci := 17) (fs := [.int 0, .null, .int 0]) (C := "java/util/ArrayList") (T := TJx4a65c) (N := 3) hx hb hts inJx4a65c tyJx4a65c tyJx4a65c_ok hown (hts _ wq_2056) (hts _ wq_1785) (hts _ wq_16) hK hP hD hS hA rfl (pz_dfJx4a65c) (Nat.le_of_ble_eq_true rfl) (Nat.le_of_ble_eq_true rfl) dX13_init_5 (fun q1 H hP hD hS => ?_)
  have hP : va_P G.1 pz_cl [(a0, .inr (12, [.null, .null, .null, .null])), (a1, .inl (G.2 0, 0, .inl (f0))), (a2, .inr (17, [.int 0, .ref (X 3), .int 0])), (q1, .inr (17, [.int 0, .null, .int 0]))] H := hP
  have hD : va_D A [(a0, .inr (12, [.null, .null, .null, .null])), (a1, .inl (G.2 0, 0, .inl (f0))), (a2, .inr (17, [.int 0, .ref (X 3), .int 0])), (q1, .inr (17, [.int 0, .null, .int 0]))] := hD
  refine lv_dup hx hb dX13_init_8 rfl ?_
  refine pz_go (wr := [(a0, .inr (12, [.null, .null, .null, .null])), (a1, .inl (G.2 0, 0, .inl (f0))), (a2, .inr (17, [.int 0, .ref (X 3), .int 0]))]) (vx_runI (As := []) (rest := [.ref q1, .ref a0]) ⟨hx, hb, hml, hown, hts⟩ (cJx4a65c_init_da8c8_1 l hst G X H.size q1) (cwI 0 hts (pz_gC wq_1788) rfl rfl rfl (hts _ wq_16) (hts _ wq_2057) (hts _ wq_1787) rfl (by decide +kernel) ⟨(Nat.le_of_ble_eq_true rfl), (Nat.le_of_ble_eq_true rfl)⟩) (pz_preS hK hP hD hS hA hE [3] rfl rfl) rfl rfl hl.1 rfl (lv_room (Nat.le_of_ble_eq_true rfl)) dX13_init_9 ⟨(Nat.le_of_ble_eq_true rfl), (Nat.le_of_ble_eq_true rfl)⟩) hP hD hS hA [3] [0, 1, 2] rfl rfl rfl (by decide) (fun u H locs hP hD hS => ?_)
  have hP : va_P G.1 pz_cl [(a0, .inr (12, [.null, .null, .null, .null])), (a1, .inl (G.2 0, 0, .inl (f0))), (a2, .inr (17, [.int 0, .ref (X 3), .int 0])), (q1, .inr (17, [.int 0, .ref (X 3), .int 0]))] H := hP
  have hD : va_D A [(a0, .inr (12, [.null, .null, .null, .null])), (a1, .inl (G.2 0, 0, .inl (f0))), (a2, .inr (17, [.int 0, .ref (X 3), .int 0])), (q1, .inr (17, [.int 0, .ref (X 3), .int 0]))] := hD
  refine W.eq (g2 := F0 m 12 ls [.ref q1, .ref a0]) rfl ?_
  refine va_putF (D := G.1) (ci := 12) (v := .ref q1) (ty := tyX13 1) (C := "SourcewrightModel$Reading") (T := TX13) (N := 4) hx hb hts inX13 tyX13 tyX13_ok nmX13 hown hK hP hD hS 0 rfl rfl 1 (by decide) (hts _ wq_2342) (fun _ h9 => h9) rfl hin rfl (by decide +kernel) rfl rfl (Nat.le_of_ble_eq_true rfl) dX13_init_12 (fun H locs hP hD hS => ?_)
  have hP : va_P G.1 pz_cl [(a0, .inr (12, [.null, .ref q1, .null, .null])), (a1, .inl (G.2 0, 0, .inl (f0))), (a2, .inr (17, [.int 0, .ref (X 3), .int 0])), (q1, .inr (17, [.int 0, .ref (X 3), .int 0]))] H := hP
  have hD : va_D A [(a0, .inr (12, [.null, .ref q1, .null, .null])), (a1, .inl (G.2 0, 0, .inl (f0))), (a2, .inr (17, [.int 0, .ref (X 3), .int 0])), (q1, .inr (17, [.int 0, .ref (X 3), .int 0]))] := hD
  refine lv_aload_n hx hb dX13_init_15 rfl (lv_at hl 0 rfl) ?_
  refine va_new (ci := 17) (fs := [.int 0, .null, .int 0]) (C := "java/util/ArrayList") (T := TJx4a65c) (N := 3) hx hb hts inJx4a65c tyJx4a65c tyJx4a65c_ok hown (hts _ wq_2056) (hts _ wq_1785) (hts _ wq_16) hK hP hD hS hA rfl (pz_dfJx4a65c) (Nat.le_of_ble_eq_true rfl) (Nat.le_of_ble_eq_true rfl) dX13_init_16 (fun q2 H hP hD hS => ?_)
  have hP : va_P G.1 pz_cl [(a0, .inr (12, [.null, .ref q1, .null, .null])), (a1, .inl (G.2 0, 0, .inl (f0))), (a2, .inr (17, [.int 0, .ref (X 3), .int 0])), (q1, .inr (17, [.int 0, .ref (X 3), .int 0])), (q2, .inr (17, [.int 0, .null, .int 0]))] H := hP
  have hD : va_D A [(a0, .inr (12, [.null, .ref q1, .null, .null])), (a1, .inl (G.2 0, 0, .inl (f0))), (a2, .inr (17, [.int 0, .ref (X 3), .int 0])), (q1, .inr (17, [.int 0, .ref (X 3), .int 0])), (q2, .inr (17, [.int 0, .null, .int 0]))] := hD
  refine lv_dup hx hb dX13_init_19 rfl ?_
  refine pz_go (wr := [(a0, .inr (12, [.null, .ref q1, .null, .null])), (a1, .inl (G.2 0, 0, .inl (f0))), (a2, .inr (17, [.int 0, .ref (X 3), .int 0])), (q1, .inr (17, [.int 0, .ref (X 3), .int 0]))]) (vx_runI (As := []) (rest := [.ref q2, .ref a0]) ⟨hx, hb, hml, hown, hts⟩ (cJx4a65c_init_da8c8_1 l hst G X H.size q2) (cwI 0 hts (pz_gC wq_1788) rfl rfl rfl (hts _ wq_16) (hts _ wq_2057) (hts _ wq_1787) rfl (by decide +kernel) ⟨(Nat.le_of_ble_eq_true rfl), (Nat.le_of_ble_eq_true rfl)⟩) (pz_preS hK hP hD hS hA hE [4] rfl rfl) rfl rfl hl.1 rfl (lv_room (Nat.le_of_ble_eq_true rfl)) dX13_init_20 ⟨(Nat.le_of_ble_eq_true rfl), (Nat.le_of_ble_eq_true rfl)⟩) hP hD hS hA [4] [0, 1, 2, 3] rfl rfl rfl (by decide) (fun u H locs hP hD hS => ?_)
  have hP : va_P G.1 pz_cl [(a0, .inr (12, [.null, .ref q1, .null, .null])), (a1, .inl (G.2 0, 0, .inl (f0))), (a2, .inr (17, [.int 0, .ref (X 3), .int 0])), (q1, .inr (17, [.int 0, .ref (X 3), .int 0])), (q2, .inr (17, [.int 0, .ref (X 3), .int 0]))] H := hP
  have hD : va_D A [(a0, .inr (12, [.null, .ref q1, .null, .null])), (a1, .inl (G.2 0, 0, .inl (f0))), (a2, .inr (17, [.int 0, .ref (X 3), .int 0])), (q1, .inr (17, [.int 0, .ref (X 3), .int 0])), (q2, .inr (17, [.int 0, .ref (X 3), .int 0]))] := hD
  refine W.eq (g2 := F0 m 23 ls [.ref q2, .ref a0]) rfl ?_
  refine va_putF (D := G.1) (ci := 12) (v := .ref q2) (ty := tyX13 3) (C := "SourcewrightModel$Reading") (T := TX13) (N := 4) hx hb hts inX13 tyX13 tyX13_ok nmX13 hown hK hP hD hS 0 rfl rfl 3 (by decide) (hts _ wq_2344) (fun _ h9 => h9) rfl hin rfl (by decide +kernel) rfl rfl (Nat.le_of_ble_eq_true rfl) dX13_init_23 (fun H locs hP hD hS => ?_)
  have hP : va_P G.1 pz_cl [(a0, .inr (12, [.null, .ref q1, .null, .ref q2])), (a1, .inl (G.2 0, 0, .inl (f0))), (a2, .inr (17, [.int 0, .ref (X 3), .int 0])), (q1, .inr (17, [.int 0, .ref (X 3), .int 0])), (q2, .inr (17, [.int 0, .ref (X 3), .int 0]))] H := hP
  have hD : va_D A [(a0, .inr (12, [.null, .ref q1, .null, .ref q2])), (a1, .inl (G.2 0, 0, .inl (f0))), (a2, .inr (17, [.int 0, .ref (X 3), .int 0])), (q1, .inr (17, [.int 0, .ref (X 3), .int 0])), (q2, .inr (17, [.int 0, .ref (X 3), .int 0]))] := hD
  refine lv_aload_n hx hb dX13_init_26 rfl (lv_at hl 0 rfl) ?_
  refine lv_aload_n hx hb dX13_init_27 rfl (lv_at hl 1 rfl) ?_
  refine va_putF (D := G.1) (ci := 12) (v := .ref a1) (ty := tyX13 0) (C := "SourcewrightModel$Reading") (T := TX13) (N := 4) hx hb hts inX13 tyX13 tyX13_ok nmX13 hown hK hP hD hS 0 rfl rfl 0 (by decide) (hts _ wq_2339) (fun _ h9 => h9) rfl hin rfl (by decide +kernel) rfl rfl (Nat.le_of_ble_eq_true rfl) dX13_init_28 (fun H locs hP hD hS => ?_)
  have hP : va_P G.1 pz_cl [(a0, .inr (12, [.ref a1, .ref q1, .null, .ref q2])), (a1, .inl (G.2 0, 0, .inl (f0))), (a2, .inr (17, [.int 0, .ref (X 3), .int 0])), (q1, .inr (17, [.int 0, .ref (X 3), .int 0])), (q2, .inr (17, [.int 0, .ref (X 3), .int 0]))] H := hP
  have hD : va_D A [(a0, .inr (12, [.ref a1, .ref q1, .null, .ref q2])), (a1, .inl (G.2 0, 0, .inl (f0))), (a2, .inr (17, [.int 0, .ref (X 3), .int 0])), (q1, .inr (17, [.int 0, .ref (X 3), .int 0])), (q2, .inr (17, [.int 0, .ref (X 3), .int 0]))] := hD
  refine lv_aload_n hx hb dX13_init_31 rfl (lv_at hl 0 rfl) ?_
  refine lv_aload_n hx hb dX13_init_32 rfl (lv_at hl 1 rfl) ?_
  refine va_alen (v := 0) hx hb hK hP 1 0 rfl rfl (by show Int32.ofNat 0 = 0; decide) dX13_init_33 ?_
  refine va_newa (atype := .boolean) (ty := .boolean) (a0 := (0, .inl (fun _ => 0))) hx hb (hts _ wq_124) rfl hK hP hD hS hA (fun _ => rfl) (by decide) (by decide) (Nat.le_of_ble_eq_true rfl) (Nat.le_of_ble_eq_true rfl) (Nat.le_of_ble_eq_true rfl) dX13_init_34 (fun q3 cA H hK hP hD hS => ?_)
  obtain rfl : cA = G.2 1 := pz_ty hK 7 1 rfl rfl (fun C h => by cases h)
  have hK : va_K G.1 pz_cl (pz_T G) s := hK.sub [0, 1, 2, 3, 4, 5, 6] rfl
  have hP : va_P G.1 pz_cl [(a0, .inr (12, [.ref a1, .ref q1, .null, .ref q2])), (a1, .inl (G.2 0, 0, .inl (f0))), (a2, .inr (17, [.int 0, .ref (X 3), .int 0])), (q1, .inr (17, [.int 0, .ref (X 3), .int 0])), (q2, .inr (17, [.int 0, .ref (X 3), .int 0])), (q3, .inl (G.2 1, 0, .inl (fun _ => 0)))] H := hP
  have hD : va_D A [(a0, .inr (12, [.ref a1, .ref q1, .null, .ref q2])), (a1, .inl (G.2 0, 0, .inl (f0))), (a2, .inr (17, [.int 0, .ref (X 3), .int 0])), (q1, .inr (17, [.int 0, .ref (X 3), .int 0])), (q2, .inr (17, [.int 0, .ref (X 3), .int 0])), (q3, .inl (G.2 1, 0, .inl (fun _ => 0)))] := hD
  refine va_putF (D := G.1) (ci := 12) (v := .ref q3) (ty := tyX13 2) (C := "SourcewrightModel$Reading") (T := TX13) (N := 4) hx hb hts inX13 tyX13 tyX13_ok nmX13 hown hK hP hD hS 0 rfl rfl 2 (by decide) (hts _ wq_2343) (fun _ h9 => h9) rfl hin rfl (by decide +kernel) rfl rfl (Nat.le_of_ble_eq_true rfl) dX13_init_36 (fun H locs hP hD hS => ?_)
  have hP : va_P G.1 pz_cl [(a0, .inr (12, [.ref a1, .ref q1, .ref q3, .ref q2])), (a1, .inl (G.2 0, 0, .inl (f0))), (a2, .inr (17, [.int 0, .ref (X 3), .int 0])), (q1, .inr (17, [.int 0, .ref (X 3), .int 0])), (q2, .inr (17, [.int 0, .ref (X 3), .int 0])), (q3, .inl (G.2 1, 0, .inl (fun _ => 0)))] H := hP
  have hD : va_D A [(a0, .inr (12, [.ref a1, .ref q1, .ref q3, .ref q2])), (a1, .inl (G.2 0, 0, .inl (f0))), (a2, .inr (17, [.int 0, .ref (X 3), .int 0])), (q1, .inr (17, [.int 0, .ref (X 3), .int 0])), (q2, .inr (17, [.int 0, .ref (X 3), .int 0])), (q3, .inl (G.2 1, 0, .inl (fun _ => 0)))] := hD
  refine lv_aload_n hx hb dX13_init_39 rfl (lv_at hl 0 rfl) ?_
  refine va_get (D := G.1) (ci := 12) (v := .ref q1) (C := "SourcewrightModel$Reading") (T := TX13) (N := 4) hx hb hts inX13 hown hK hP 0 rfl rfl 1 (by decide) (hts _ wq_2342) (fun _ h9 => h9) rfl dX13_init_40 ?_
  refine lv_iconst (v := 0) hx hb dX13_init_43 (by decide) ?_
  refine pz_go (wr := [(a0, .inr (12, [.ref a1, .ref q1, .ref q3, .ref q2])), (a1, .inl (G.2 0, 0, .inl (f0))), (a2, .inr (17, [.int 0, .ref (X 3), .int 0])), (q1, .inr (17, [.int 0, .ref (X 3), .int 0])), (q2, .inr (17, [.int 0, .ref (X 3), .int 0])), (q3, .inl (G.2 1, 0, .inl (fun _ => 0)))]) (vx_runS (As := [.int 0]) (rest := [.ref q1]) ⟨hx, hb, hml, hown, hts⟩ (cJ6_valueOf_2dffe_3 l hst G X H.size) (va_cwS 1 hts (pz_gS wq_2058 wq_1851 wq_24 wq_1852) rfl rfl rfl (by decide +kernel) ⟨(Nat.le_of_ble_eq_true rfl), (Nat.le_of_ble_eq_true rfl)⟩) (pz_preS hK hP hD hS hA hE [] rfl rfl) rfl rfl hl.1 rfl (lv_room (Nat.le_of_ble_eq_true rfl)) dX13_init_44 ⟨(Nat.le_of_ble_eq_true rfl), (Nat.le_of_ble_eq_true rfl)⟩) hP hD hS hA [] [0, 1, 2, 3, 4, 5] rfl rfl rfl (by decide) (fun u H locs hP hD hS => ?_)
  have hP : va_P G.1 pz_cl [(a0, .inr (12, [.ref a1, .ref q1, .ref q3, .ref q2])), (a1, .inl (G.2 0, 0, .inl (f0))), (a2, .inr (17, [.int 0, .ref (X 3), .int 0])), (q1, .inr (17, [.int 0, .ref (X 3), .int 0])), (q2, .inr (17, [.int 0, .ref (X 3), .int 0])), (q3, .inl (G.2 1, 0, .inl (fun _ => 0)))] H := hP
  have hD : va_D A [(a0, .inr (12, [.ref a1, .ref q1, .ref q3, .ref q2])), (a1, .inl (G.2 0, 0, .inl (f0))), (a2, .inr (17, [.int 0, .ref (X 3), .int 0])), (q1, .inr (17, [.int 0, .ref (X 3), .int 0])), (q2, .inr (17, [.int 0, .ref (X 3), .int 0])), (q3, .inl (G.2 1, 0, .inl (fun _ => 0)))] := hD
  refine W.eq (g2 := F0 m 47 ls [.ref (X (1000 + 128)), .ref q1]) rfl ?_
  refine pz_go (wr := [(a0, .inr (12, [.ref a1, .ref q1, .ref q3, .ref q2])), (a1, .inl (G.2 0, 0, .inl (f0))), (a2, .inr (17, [.int 0, .ref (X 3), .int 0])), (q2, .inr (17, [.int 0, .ref (X 3), .int 0])), (q3, .inl (G.2 1, 0, .inl (fun _ => 0)))]) (vx_runV (C := "java/util/ArrayList") (As := [.ref (X (1000 + 128))]) (rest := []) ⟨hx, hb, hml, hown, hts⟩ (cJx4a65c_add_9ea2d_3 l hst G X H.size q1) (cwV 1 hts (pz_gV wq_2059 wq_1871 wq_1872 wq_16 wq_1873) rfl rfl rfl (by decide +kernel) ⟨(Nat.le_of_ble_eq_true rfl), (Nat.le_of_ble_eq_true rfl)⟩) (pz_preV (C := ("java/util/ArrayList", TJx4a65c, 3)) hK hP hD hS hA hE 3 (ci := 17) rfl rfl [3] rfl rfl) rfl rfl hl.1 rfl (lv_room (Nat.le_of_ble_eq_true rfl)) dX13_init_47 ⟨(Nat.le_of_ble_eq_true rfl), (Nat.le_of_ble_eq_true rfl)⟩) hP hD hS hA [3] [0, 1, 2, 4, 5] rfl rfl rfl (by decide) (fun q4 H locs hP hD hS => ?_)
  have hP : va_P G.1 pz_cl [(a0, .inr (12, [.ref a1, .ref q1, .ref q3, .ref q2])), (a1, .inl (G.2 0, 0, .inl (f0))), (a2, .inr (17, [.int 0, .ref (X 3), .int 0])), (q2, .inr (17, [.int 0, .ref (X 3), .int 0])), (q3, .inl (G.2 1, 0, .inl (fun _ => 0))), (q1, .inr (17, [.int 1, .ref q4, .int 1])), (q4, .inl (G.2 5, 10, .inr (.inr (.inr (.inr (va_up (fun _ => none) 0 (some (X (1000 + 128)))))))))] H := hP
  have hD : va_D A [(a0, .inr (12, [.ref a1, .ref q1, .ref q3, .ref q2])), (a1, .inl (G.2 0, 0, .inl (f0))), (a2, .inr (17, [.int 0, .ref (X 3), .int 0])), (q2, .inr (17, [.int 0, .ref (X 3), .int 0])), (q3, .inl (G.2 1, 0, .inl (fun _ => 0))), (q1, .inr (17, [.int 1, .ref q4, .int 1])), (q4, .inl (G.2 5, 10, .inr (.inr (.inr (.inr (va_up (fun _ => none) 0 (some (X (1000 + 128)))))))))] := hD
  refine W.eq (g2 := F0 m 50 ls [.int 1]) rfl ?_
  refine lv_pop hx hb dX13_init_50 rfl ?_
  refine lv_aload_n hx hb dX13_init_51 rfl (lv_at hl 0 rfl) ?_
  refine va_get (D := G.1) (ci := 12) (v := .ref q1) (C := "SourcewrightModel$Reading") (T := TX13) (N := 4) hx hb hts inX13 hown hK hP 0 rfl rfl 1 (by decide) (hts _ wq_2342) (fun _ h9 => h9) rfl dX13_init_52 ?_
  refine lv_aload_n hx hb dX13_init_55 rfl (lv_at hl 2 rfl) ?_
  refine pz_go (wr := [(a0, .inr (12, [.ref a1, .ref q1, .ref q3, .ref q2])), (a1, .inl (G.2 0, 0, .inl (f0))), (q2, .inr (17, [.int 0, .ref (X 3), .int 0])), (q3, .inl (G.2 1, 0, .inl (fun _ => 0))), (q4, .inl (G.2 5, 10, .inr (.inr (.inr (.inr (va_up (fun _ => none) 0 (some (X (1000 + 128)))))))))]) (vx_runV (C := "java/util/ArrayList") (As := [.ref a2]) (rest := []) ⟨hx, hb, hml, hown, hts⟩ (cJx4a65c_addAll_f0b43_1 l hst G X H.size q1 a2 q4) (cwV 1 hts (pz_gV wq_2060 wq_2061 wq_2062 wq_16 wq_2063) rfl rfl rfl (by decide +kernel) ⟨(Nat.le_of_ble_eq_true rfl), (Nat.le_of_ble_eq_true rfl)⟩) (pz_preV (C := ("java/util/ArrayList", TJx4a65c, 3)) hK hP hD hS hA hE 5 (ci := 17) rfl rfl [2, 5] rfl rfl) rfl rfl hl.1 rfl (lv_room (Nat.le_of_ble_eq_true rfl)) dX13_init_56 ⟨(Nat.le_of_ble_eq_true rfl), (Nat.le_of_ble_eq_true rfl)⟩) hP hD hS hA [2, 5] [0, 1, 3, 4, 6] rfl rfl rfl (by decide) (fun q5 H locs hP hD hS => ?_)
  have hP : va_P G.1 pz_cl [(a0, .inr (12, [.ref a1, .ref q1, .ref q3, .ref q2])), (a1, .inl (G.2 0, 0, .inl (f0))), (q2, .inr (17, [.int 0, .ref (X 3), .int 0])), (q3, .inl (G.2 1, 0, .inl (fun _ => 0))), (q4, .inl (G.2 5, 10, .inr (.inr (.inr (.inr (va_up (fun _ => none) 0 (some (X (1000 + 128))))))))), (a2, .inr (17, [.int 0, .ref (X 3), .int 0])), (q1, .inr (17, [.int 2, .ref q4, .int 1])), (q5, .inl (G.2 5, 0, .inr (.inr (.inr (.inr (fun _ => none))))))] H := hP
  have hD : va_D A [(a0, .inr (12, [.ref a1, .ref q1, .ref q3, .ref q2])), (a1, .inl (G.2 0, 0, .inl (f0))), (q2, .inr (17, [.int 0, .ref (X 3), .int 0])), (q3, .inl (G.2 1, 0, .inl (fun _ => 0))), (q4, .inl (G.2 5, 10, .inr (.inr (.inr (.inr (va_up (fun _ => none) 0 (some (X (1000 + 128))))))))), (a2, .inr (17, [.int 0, .ref (X 3), .int 0])), (q1, .inr (17, [.int 2, .ref q4, .int 1])), (q5, .inl (G.2 5, 0, .inr (.inr (.inr (.inr (fun _ => none))))))] := hD
  refine W.eq (g2 := F0 m 59 ls [.int 0]) rfl ?_
  refine lv_pop hx hb dX13_init_59 rfl ?_
  refine lv_aload_n hx hb dX13_init_60 rfl (lv_at hl 1 rfl) ?_
  refine va_alen (v := 0) hx hb hK hP 1 0 rfl rfl (by show Int32.ofNat 0 = 0; decide) dX13_init_61 ?_
  refine va_newa (atype := .boolean) (ty := .boolean) (a0 := (0, .inl (fun _ => 0))) hx hb (hts _ wq_124) rfl hK hP hD hS hA (fun _ => rfl) (by decide) (by decide) (Nat.le_of_ble_eq_true rfl) (Nat.le_of_ble_eq_true rfl) (Nat.le_of_ble_eq_true rfl) dX13_init_62 (fun q6 cA H hK hP hD hS => ?_)
  obtain rfl : cA = G.2 1 := pz_ty hK 7 1 rfl rfl (fun C h => by cases h)
  have hK : va_K G.1 pz_cl (pz_T G) s := hK.sub [0, 1, 2, 3, 4, 5, 6] rfl
  have hP : va_P G.1 pz_cl [(a0, .inr (12, [.ref a1, .ref q1, .ref q3, .ref q2])), (a1, .inl (G.2 0, 0, .inl (f0))), (q2, .inr (17, [.int 0, .ref (X 3), .int 0])), (q3, .inl (G.2 1, 0, .inl (fun _ => 0))), (q4, .inl (G.2 5, 10, .inr (.inr (.inr (.inr (va_up (fun _ => none) 0 (some (X (1000 + 128))))))))), (a2, .inr (17, [.int 0, .ref (X 3), .int 0])), (q1, .inr (17, [.int 2, .ref q4, .int 1])), (q5, .inl (G.2 5, 0, .inr (.inr (.inr (.inr (fun _ => none)))))), (q6, .inl (G.2 1, 0, .inl (fun _ => 0)))] H := hP
  have hD : va_D A [(a0, .inr (12, [.ref a1, .ref q1, .ref q3, .ref q2])), (a1, .inl (G.2 0, 0, .inl (f0))), (q2, .inr (17, [.int 0, .ref (X 3), .int 0])), (q3, .inl (G.2 1, 0, .inl (fun _ => 0))), (q4, .inl (G.2 5, 10, .inr (.inr (.inr (.inr (va_up (fun _ => none) 0 (some (X (1000 + 128))))))))), (a2, .inr (17, [.int 0, .ref (X 3), .int 0])), (q1, .inr (17, [.int 2, .ref q4, .int 1])), (q5, .inl (G.2 5, 0, .inr (.inr (.inr (.inr (fun _ => none)))))), (q6, .inl (G.2 1, 0, .inl (fun _ => 0)))] := hD
  refine lv_astore_n (lv' := [(3, .ref q6), (0, .ref a0), (1, .ref a1), (2, .ref a2)]) hx hb dX13_init_64 rfl hl (by decide) rfl (fun ls hl => ?_)
  refine lv_iconst (v := 1) hx hb dX13_init_65 (by decide) ?_
  refine lv_istore (lv' := [(4, .int 1), (3, .ref q6), (0, .ref a0), (1, .ref a1), (2, .ref a2)]) hx hb dX13_init_66 hl (by decide) rfl (fun ls hl => ?_)
  refine lv_iload hx hb dX13_init_68 (lv_at hl 0 rfl) ?_
  refine lv_if_eq (tgt := 139) hx hb dX13_init_70 (by decide) (fun hc => absurd hc (by decide)) (fun _ => ?_)
  refine lv_iconst (v := 0) hx hb dX13_init_73 (by decide) ?_
  refine lv_istore (lv' := [(4, .int 0), (3, .ref q6), (0, .ref a0), (1, .ref a1), (2, .ref a2)]) hx hb dX13_init_74 hl (by decide) rfl (fun ls hl => ?_)
  refine lv_aload_n hx hb dX13_init_76 rfl (lv_at hl 2 rfl) ?_
  refine lv_aload_n hx hb dX13_init_77 rfl (lv_at hl 1 rfl) ?_
  refine pz_go (wr := [(q2, .inr (17, [.int 0, .ref (X 3), .int 0])), (q3, .inl (G.2 1, 0, .inl (fun _ => 0))), (a2, .inr (17, [.int 0, .ref (X 3), .int 0])), (q5, .inl (G.2 5, 0, .inr (.inr (.inr (.inr (fun _ => none)))))), (q6, .inl (G.2 1, 0, .inl (fun _ => 0)))]) (vx_runV (C := "SourcewrightModel$Reading") (As := [.ref q6]) (rest := []) ⟨hx, hb, hml, hown, hts⟩ (cX13_walked_1 l hst G X H.size a0 q6 a1 q1 q4 q3 q2 f0) (cwV 1 hts (pz_gV wq_2075 wq_2077 wqs_89 wq_36 wq_2078) rfl rfl rfl (by decide +kernel) ⟨(Nat.le_of_ble_eq_true rfl), (Nat.le_of_ble_eq_true rfl)⟩) (pz_preV (C := ("SourcewrightModel$Reading", TX13, 4)) hK hP hD hS hA hE 0 (ci := 12) rfl rfl [0, 1, 6, 4] rfl rfl) rfl rfl hl.1 rfl (lv_room (Nat.le_of_ble_eq_true rfl)) dX13_init_78 ⟨(Nat.le_of_ble_eq_true rfl), (Nat.le_of_ble_eq_true rfl)⟩) hP hD hS hA [0, 1, 6, 4] [2, 3, 5, 7, 8] rfl rfl rfl (by decide) (fun u H locs hP hD hS => ?_)
  obtain ⟨q7, q8, q9⟩ := u
  have hP : va_P G.1 pz_cl [(q2, .inr (17, [.int 0, .ref (X 3), .int 0])), (q3, .inl (G.2 1, 0, .inl (fun _ => 0))), (a2, .inr (17, [.int 0, .ref (X 3), .int 0])), (q5, .inl (G.2 5, 0, .inr (.inr (.inr (.inr (fun _ => none)))))), (q6, .inl (G.2 1, 0, .inl (fun _ => 0))), (a0, .inr (12, [.ref a1, .ref q1, .ref q3, .ref q2])), (a1, .inl (G.2 0, 0, .inl (f0))), (q1, .inr (17, [.int 2, .ref q4, .int 1])), (q4, .inl (G.2 5, 10, .inr (.inr (.inr (.inr (va_up (fun _ => none) 0 (some (X (1000 + 128))))))))), (q7, .inl (G.2 1, 0, .inl (fun _ => 0))), (q9, .inr (18, [.int 1, .int 0, .int 2, .ref q1])), (q8, .inr (17, [.int 0, .ref (X 3), .int 0]))] H := hP
  have hD : va_D A [(q2, .inr (17, [.int 0, .ref (X 3), .int 0])), (q3, .inl (G.2 1, 0, .inl (fun _ => 0))), (a2, .inr (17, [.int 0, .ref (X 3), .int 0])), (q5, .inl (G.2 5, 0, .inr (.inr (.inr (.inr (fun _ => none)))))), (q6, .inl (G.2 1, 0, .inl (fun _ => 0))), (a0, .inr (12, [.ref a1, .ref q1, .ref q3, .ref q2])), (a1, .inl (G.2 0, 0, .inl (f0))), (q1, .inr (17, [.int 2, .ref q4, .int 1])), (q4, .inl (G.2 5, 10, .inr (.inr (.inr (.inr (va_up (fun _ => none) 0 (some (X (1000 + 128))))))))), (q7, .inl (G.2 1, 0, .inl (fun _ => 0))), (q9, .inr (18, [.int 1, .int 0, .int 2, .ref q1])), (q8, .inr (17, [.int 0, .ref (X 3), .int 0]))] := hD
  refine W.eq (g2 := F0 m 81 ls [.ref q7]) rfl ?_
  refine lv_astore (lv' := [(5, .ref q7), (4, .int 0), (3, .ref q6), (0, .ref a0), (1, .ref a1), (2, .ref a2)]) hx hb dX13_init_81 hl (by decide) rfl (fun ls hl => ?_)
  refine lv_iconst (v := 0) hx hb dX13_init_83 (by decide) ?_
  refine lv_istore (lv' := [(6, .int 0), (5, .ref q7), (4, .int 0), (3, .ref q6), (0, .ref a0), (1, .ref a1), (2, .ref a2)]) hx hb dX13_init_84 hl (by decide) rfl (fun ls hl => ?_)
  refine lv_iload hx hb dX13_init_86 (lv_at hl 0 rfl) ?_
  refine lv_aload_n hx hb dX13_init_88 rfl (lv_at hl 5 rfl) ?_
  refine va_alen (v := 0) hx hb hK hP 6 0 rfl rfl (by show Int32.ofNat 0 = 0; decide) dX13_init_89 ?_
  refine lv_icmp_ge (tgt := 136) hx hb dX13_init_90 (by decide) (fun _ => ?_) (fun hc => absurd hc (by decide))
  refine lv_goto (tgt := 68) hx hb dX13_init_136 (by decide) ?_
  refine lv_iload hx hb dX13_init_68 (lv_at hl 2 rfl) ?_
  refine lv_if_eq (tgt := 139) hx hb dX13_init_70 (by decide) (fun _ => ?_) (fun hc => absurd hc (by decide))
  refine lv_aload_n hx hb dX13_init_139 rfl (lv_at hl 4 rfl) ?_
  refine lv_aload_n hx hb dX13_init_140 rfl (lv_at hl 3 rfl) ?_
  refine pz_go (wr := [(q2, .inr (17, [.int 0, .ref (X 3), .int 0])), (q3, .inl (G.2 1, 0, .inl (fun _ => 0))), (a2, .inr (17, [.int 0, .ref (X 3), .int 0])), (q5, .inl (G.2 5, 0, .inr (.inr (.inr (.inr (fun _ => none)))))), (q6, .inl (G.2 1, 0, .inl (fun _ => 0))), (q7, .inl (G.2 1, 0, .inl (fun _ => 0))), (q9, .inr (18, [.int 1, .int 0, .int 2, .ref q1])), (q8, .inr (17, [.int 0, .ref (X 3), .int 0]))]) (vx_runV (C := "SourcewrightModel$Reading") (As := [.ref q6]) (rest := []) ⟨hx, hb, hml, hown, hts⟩ (cX13_walked_1 l hst G X H.size a0 q6 a1 q1 q4 q3 q2 f0) (cwV 1 hts (pz_gV wq_2075 wq_2077 wqs_89 wq_36 wq_2078) rfl rfl rfl (by decide +kernel) ⟨(Nat.le_of_ble_eq_true rfl), (Nat.le_of_ble_eq_true rfl)⟩) (pz_preV (C := ("SourcewrightModel$Reading", TX13, 4)) hK hP hD hS hA hE 5 (ci := 12) rfl rfl [5, 6, 7, 8] rfl rfl) rfl rfl hl.1 rfl (lv_room (Nat.le_of_ble_eq_true rfl)) dX13_init_141 ⟨(Nat.le_of_ble_eq_true rfl), (Nat.le_of_ble_eq_true rfl)⟩) hP hD hS hA [5, 6, 7, 8] [0, 1, 2, 3, 4, 9, 10, 11] rfl rfl rfl (by decide) (fun u H locs hP hD hS => ?_)
  obtain ⟨q10, q11, q12⟩ := u
  have hP : va_P G.1 pz_cl [(q2, .inr (17, [.int 0, .ref (X 3), .int 0])), (q3, .inl (G.2 1, 0, .inl (fun _ => 0))), (a2, .inr (17, [.int 0, .ref (X 3), .int 0])), (q5, .inl (G.2 5, 0, .inr (.inr (.inr (.inr (fun _ => none)))))), (q6, .inl (G.2 1, 0, .inl (fun _ => 0))), (q7, .inl (G.2 1, 0, .inl (fun _ => 0))), (q9, .inr (18, [.int 1, .int 0, .int 2, .ref q1])), (q8, .inr (17, [.int 0, .ref (X 3), .int 0])), (a0, .inr (12, [.ref a1, .ref q1, .ref q3, .ref q2])), (a1, .inl (G.2 0, 0, .inl (f0))), (q1, .inr (17, [.int 2, .ref q4, .int 1])), (q4, .inl (G.2 5, 10, .inr (.inr (.inr (.inr (va_up (fun _ => none) 0 (some (X (1000 + 128))))))))), (q10, .inl (G.2 1, 0, .inl (fun _ => 0))), (q12, .inr (18, [.int 1, .int 0, .int 2, .ref q1])), (q11, .inr (17, [.int 0, .ref (X 3), .int 0]))] H := hP
  have hD : va_D A [(q2, .inr (17, [.int 0, .ref (X 3), .int 0])), (q3, .inl (G.2 1, 0, .inl (fun _ => 0))), (a2, .inr (17, [.int 0, .ref (X 3), .int 0])), (q5, .inl (G.2 5, 0, .inr (.inr (.inr (.inr (fun _ => none)))))), (q6, .inl (G.2 1, 0, .inl (fun _ => 0))), (q7, .inl (G.2 1, 0, .inl (fun _ => 0))), (q9, .inr (18, [.int 1, .int 0, .int 2, .ref q1])), (q8, .inr (17, [.int 0, .ref (X 3), .int 0])), (a0, .inr (12, [.ref a1, .ref q1, .ref q3, .ref q2])), (a1, .inl (G.2 0, 0, .inl (f0))), (q1, .inr (17, [.int 2, .ref q4, .int 1])), (q4, .inl (G.2 5, 10, .inr (.inr (.inr (.inr (va_up (fun _ => none) 0 (some (X (1000 + 128))))))))), (q10, .inl (G.2 1, 0, .inl (fun _ => 0))), (q12, .inr (18, [.int 1, .int 0, .int 2, .ref q1])), (q11, .inr (17, [.int 0, .ref (X 3), .int 0]))] := hD
  refine W.eq (g2 := F0 m 144 ls [.ref q10]) rfl ?_
  refine lv_astore (lv' := [(5, .ref q10), (6, .int 0), (4, .int 0), (3, .ref q6), (0, .ref a0), (1, .ref a1), (2, .ref a2)]) hx hb dX13_init_144 hl (by decide) rfl (fun ls hl => ?_)
  refine lv_iconst (v := 0) hx hb dX13_init_146 (by decide) ?_
  refine lv_istore (lv' := [(6, .int 0), (5, .ref q10), (4, .int 0), (3, .ref q6), (0, .ref a0), (1, .ref a1), (2, .ref a2)]) hx hb dX13_init_147 hl (by decide) rfl (fun ls hl => ?_)
  refine lv_iload hx hb dX13_init_149 (lv_at hl 0 rfl) ?_
  refine lv_aload_n hx hb dX13_init_151 rfl (lv_at hl 5 rfl) ?_
  refine va_alen (v := 0) hx hb hK hP 9 0 rfl rfl (by show Int32.ofNat 0 = 0; decide) dX13_init_152 ?_
  refine lv_icmp_ge (tgt := 189) hx hb dX13_init_153 (by decide) (fun _ => ?_) (fun hc => absurd hc (by decide))
  exact pz_rv hx hb hr hlocks hS (Nat.le_of_ble_eq_true rfl) (Nat.le_of_ble_eq_true rfl) dX13_init_189 (q1, q2, q3, q4, q5, q6, q7, q8, q9, q10, q11, q12) rfl (hP.sub [8, 9, 2, 0, 1, 3, 4, 5, 6, 7, 10, 11, 12, 13, 14] rfl) (hD.sub [8, 9, 2, 0, 1, 3, 4, 5, 6, 7, 10, 11, 12, 13, 14] rfl rfl)
set_option maxHeartbeats 4000000 in
set_option maxRecDepth 100000 in
theorem cX16_read_1 (l : Launch) (hst : l.stackTraces = false) (G : pz_G) (X : Nat → Nat) (sz : Nat) (a0 : Nat) (a1 : Nat) (a2 : Nat) (a3 : Nat) (a4 : Nat) : pz_MR (S := Nat × Nat × Nat × Nat × Nat × Nat × Nat × Nat × Nat × Nat × Nat × Nat × Nat × Nat) l yX16_read (pz_cd yX16_read cX16_read 1 (some (.object "SourcewrightModel$Reading"))) 6 155 14 34 G X sz [(a0, .inr (15, [.int 0, .ref a1, .ref a2, .ref a3, .ref a4, .int 0, .null])), (a1, .inr (17, [.int 0, .ref (X 3), .int 0])), (a2, .inr (17, [.int 0, .ref (X 3), .int 0]))] [.ref a0] (fun u => some (.ref u.1)) (fun u => [(a0, .inr (15, [.int 0, .ref a1, .ref a2, .ref a3, .ref a4, .int 0, .null])), (a1, .inr (17, [.int 0, .ref (X 3), .int 0])), (a2, .inr (17, [.int 0, .ref (X 3), .int 0])), (u.1, .inr (12, [.ref u.2.1, .ref u.2.2.1, .ref u.2.2.2.2.1, .ref u.2.2.2.1])), (u.2.1, .inl (G.2 0, 0, .inl (fun _ => 0))), (u.2.2.2.1, .inr (17, [.int 0, .ref (X 3), .int 0])), (u.2.2.2.2.1, .inl (G.2 1, 0, .inl (fun _ => 0))), (u.2.2.2.2.2.2.1, .inl (G.2 5, 0, .inr (.inr (.inr (.inr (fun _ => none)))))), (u.2.2.2.2.2.2.2.1, .inl (G.2 1, 0, .inl (fun _ => 0))), (u.2.2.2.2.2.2.2.2.1, .inl (G.2 1, 0, .inl (fun _ => 0))), (u.2.2.2.2.2.2.2.2.2.2.1, .inr (18, [.int 1, .int 0, .int 2, .ref u.2.2.1])), (u.2.2.2.2.2.2.2.2.2.1, .inr (17, [.int 0, .ref (X 3), .int 0])), (u.2.2.1, .inr (17, [.int 2, .ref u.2.2.2.2.2.1, .int 1])), (u.2.2.2.2.2.1, .inl (G.2 5, 10, .inr (.inr (.inr (.inr (va_up (fun _ => none) 0 (some (X (1000 + 128))))))))), (u.2.2.2.2.2.2.2.2.2.2.2.1, .inl (G.2 1, 0, .inl (fun _ => 0))), (u.2.2.2.2.2.2.2.2.2.2.2.2.2, .inr (18, [.int 1, .int 0, .int 2, .ref u.2.2.1])), (u.2.2.2.2.2.2.2.2.2.2.2.2.1, .inr (17, [.int 0, .ref (X 3), .int 0]))]) := by
  refine pz_onR (by decide +kernel) (Nat.le_of_ble_eq_true rfl) ?_
  intro p e s m below meth c A hx hb hr hml hown hts hlocks hin hx0 hP hK hD hS hA hE ls hl
  have hown : s.vm.findClass "SourcewrightModel" = some m.cls := hown
  have hl : lv_has ls 1 [(0, .ref a0)] := hl
  refine va_new (ci := 12) (fs := [.null, .null, .null, .null]) (C := "SourcewrightModel$Reading") (T := TX13) (N := 4) hx hb hts inX13 tyX13 tyX13_ok hown (hts _ wq_2047) (hts _ wq_2048) (hts _ wq_36) hK hP hD hS hA rfl (pz_dfX13) (Nat.le_of_ble_eq_true rfl) (Nat.le_of_ble_eq_true rfl) dX16_read_0 (fun q1 H hP hD hS => ?_)
  have hP : va_P G.1 pz_cl [(a0, .inr (15, [.int 0, .ref a1, .ref a2, .ref a3, .ref a4, .int 0, .null])), (a1, .inr (17, [.int 0, .ref (X 3), .int 0])), (a2, .inr (17, [.int 0, .ref (X 3), .int 0])), (q1, .inr (12, [.null, .null, .null, .null]))] H := hP
  have hD : va_D A [(a0, .inr (15, [.int 0, .ref a1, .ref a2, .ref a3, .ref a4, .int 0, .null])), (a1, .inr (17, [.int 0, .ref (X 3), .int 0])), (a2, .inr (17, [.int 0, .ref (X 3), .int 0])), (q1, .inr (12, [.null, .null, .null, .null]))] := hD
  refine lv_dup hx hb dX16_read_3 rfl ?_
  refine lv_aload_n hx hb dX16_read_4 rfl (lv_at hl 0 rfl) ?_
  refine va_get (D := G.1) (ci := 15) (v := .ref a1) (C := "SourcewrightModel") (T := TX16) (N := 7) hx hb hts inX16 hown hK hP 0 rfl rfl 1 (by decide) (hts _ wq_1814) (fun _ h9 => h9) rfl dX16_read_5 ?_
  refine pz_go (wr := [(a0, .inr (15, [.int 0, .ref a1, .ref a2, .ref a3, .ref a4, .int 0, .null])), (a2, .inr (17, [.int 0, .ref (X 3), .int 0])), (q1, .inr (12, [.null, .null, .null, .null]))]) (vx_runS (As := [.ref a1]) (rest := [.ref q1, .ref q1]) ⟨hx, hb, hml, hown, hts⟩ (cX16_rowOf_1 l hst G X H.size a1) (va_cwS 1 hts (pz_gS wq_2049 wq_2050 wq_13 wq_2051) rfl rfl rfl (by decide +kernel) ⟨(Nat.le_of_ble_eq_true rfl), (Nat.le_of_ble_eq_true rfl)⟩) (pz_preS hK hP hD hS hA hE [1] rfl rfl) rfl rfl hl.1 rfl (lv_room (Nat.le_of_ble_eq_true rfl)) dX16_read_8 ⟨(Nat.le_of_ble_eq_true rfl), (Nat.le_of_ble_eq_true rfl)⟩) hP hD hS hA [1] [0, 2, 3] rfl rfl rfl (by decide) (fun q2 H locs hP hD hS => ?_)
  have hP : va_P G.1 pz_cl [(a0, .inr (15, [.int 0, .ref a1, .ref a2, .ref a3, .ref a4, .int 0, .null])), (a2, .inr (17, [.int 0, .ref (X 3), .int 0])), (q1, .inr (12, [.null, .null, .null, .null])), (a1, .inr (17, [.int 0, .ref (X 3), .int 0])), (q2, .inl (G.2 0, 0, .inl (fun _ => 0)))] H := hP
  have hD : va_D A [(a0, .inr (15, [.int 0, .ref a1, .ref a2, .ref a3, .ref a4, .int 0, .null])), (a2, .inr (17, [.int 0, .ref (X 3), .int 0])), (q1, .inr (12, [.null, .null, .null, .null])), (a1, .inr (17, [.int 0, .ref (X 3), .int 0])), (q2, .inl (G.2 0, 0, .inl (fun _ => 0)))] := hD
  refine W.eq (g2 := F0 m 11 ls [.ref q2, .ref q1, .ref q1]) rfl ?_
  refine lv_aload_n hx hb dX16_read_11 rfl (lv_at hl 0 rfl) ?_
  refine va_get (D := G.1) (ci := 15) (v := .ref a2) (C := "SourcewrightModel") (T := TX16) (N := 7) hx hb hts inX16 hown hK hP 0 rfl rfl 2 (by decide) (hts _ wq_1815) (fun _ h9 => h9) rfl dX16_read_12 ?_
  refine pz_go (wr := [(a0, .inr (15, [.int 0, .ref a1, .ref a2, .ref a3, .ref a4, .int 0, .null])), (a1, .inr (17, [.int 0, .ref (X 3), .int 0]))]) (vx_runI (As := [.ref q2, .ref a2]) (rest := [.ref q1]) ⟨hx, hb, hml, hown, hts⟩ (cX13_init_1 l hst G X H.size q1 q2 a2 (fun _ => 0)) (cwI 2 hts (pz_gC wq_2054) rfl rfl rfl (hts _ wq_36) (hts _ wq_2052) (hts _ wq_2053) rfl (by decide +kernel) ⟨(Nat.le_of_ble_eq_true rfl), (Nat.le_of_ble_eq_true rfl)⟩) (pz_preS hK hP hD hS hA hE [2, 4, 1] rfl rfl) rfl rfl hl.1 rfl (lv_room (Nat.le_of_ble_eq_true rfl)) dX16_read_15 ⟨(Nat.le_of_ble_eq_true rfl), (Nat.le_of_ble_eq_true rfl)⟩) hP hD hS hA [2, 4, 1] [0, 3] rfl rfl rfl (by decide) (fun u H locs hP hD hS => ?_)
  obtain ⟨q3, q4, q5, q6, q7, q8, q9, q10, q11, q12, q13, q14⟩ := u
  have hP : va_P G.1 pz_cl [(a0, .inr (15, [.int 0, .ref a1, .ref a2, .ref a3, .ref a4, .int 0, .null])), (a1, .inr (17, [.int 0, .ref (X 3), .int 0])), (q1, .inr (12, [.ref q2, .ref q3, .ref q5, .ref q4])), (q2, .inl (G.2 0, 0, .inl (fun _ => 0))), (a2, .inr (17, [.int 0, .ref (X 3), .int 0])), (q4, .inr (17, [.int 0, .ref (X 3), .int 0])), (q5, .inl (G.2 1, 0, .inl (fun _ => 0))), (q7, .inl (G.2 5, 0, .inr (.inr (.inr (.inr (fun _ => none)))))), (q8, .inl (G.2 1, 0, .inl (fun _ => 0))), (q9, .inl (G.2 1, 0, .inl (fun _ => 0))), (q11, .inr (18, [.int 1, .int 0, .int 2, .ref q3])), (q10, .inr (17, [.int 0, .ref (X 3), .int 0])), (q3, .inr (17, [.int 2, .ref q6, .int 1])), (q6, .inl (G.2 5, 10, .inr (.inr (.inr (.inr (va_up (fun _ => none) 0 (some (X (1000 + 128))))))))), (q12, .inl (G.2 1, 0, .inl (fun _ => 0))), (q14, .inr (18, [.int 1, .int 0, .int 2, .ref q3])), (q13, .inr (17, [.int 0, .ref (X 3), .int 0]))] H := hP
  have hD : va_D A [(a0, .inr (15, [.int 0, .ref a1, .ref a2, .ref a3, .ref a4, .int 0, .null])), (a1, .inr (17, [.int 0, .ref (X 3), .int 0])), (q1, .inr (12, [.ref q2, .ref q3, .ref q5, .ref q4])), (q2, .inl (G.2 0, 0, .inl (fun _ => 0))), (a2, .inr (17, [.int 0, .ref (X 3), .int 0])), (q4, .inr (17, [.int 0, .ref (X 3), .int 0])), (q5, .inl (G.2 1, 0, .inl (fun _ => 0))), (q7, .inl (G.2 5, 0, .inr (.inr (.inr (.inr (fun _ => none)))))), (q8, .inl (G.2 1, 0, .inl (fun _ => 0))), (q9, .inl (G.2 1, 0, .inl (fun _ => 0))), (q11, .inr (18, [.int 1, .int 0, .int 2, .ref q3])), (q10, .inr (17, [.int 0, .ref (X 3), .int 0])), (q3, .inr (17, [.int 2, .ref q6, .int 1])), (q6, .inl (G.2 5, 10, .inr (.inr (.inr (.inr (va_up (fun _ => none) 0 (some (X (1000 + 128))))))))), (q12, .inl (G.2 1, 0, .inl (fun _ => 0))), (q14, .inr (18, [.int 1, .int 0, .int 2, .ref q3])), (q13, .inr (17, [.int 0, .ref (X 3), .int 0]))] := hD
  refine W.eq (g2 := F0 m 18 ls [.ref q1]) rfl ?_
  exact pz_ra hx hb hr hlocks (Or.inl ⟨_, rfl⟩) (Or.inr ⟨_, rfl⟩) hS (Nat.le_of_ble_eq_true rfl) (Nat.le_of_ble_eq_true rfl) dX16_read_18 (q1, q2, q3, q4, q5, q6, q7, q8, q9, q10, q11, q12, q13, q14) rfl (hP.sub [0, 1, 4, 2, 3, 5, 6, 7, 8, 9, 10, 11, 12, 13, 14, 15, 16] rfl) (hD.sub [0, 1, 4, 2, 3, 5, 6, 7, 8, 9, 10, 11, 12, 13, 14, 15, 16] rfl rfl)
set_option maxHeartbeats 4000000 in
set_option maxRecDepth 100000 in
theorem cX16_doubts_1 (l : Launch) (hst : l.stackTraces = false) (G : pz_G) (X : Nat → Nat) (sz : Nat) (a0 : Nat) (a1 : Nat) (a2 : Nat) (a3 : Nat) (a4 : Nat) : pz_MR (S := Nat × Nat × Nat × Nat × Nat × Nat × Nat × Nat × Nat × Nat × Nat × Nat × Nat × Nat) l yX16_doubts (pz_cd yX16_doubts cX16_doubts 4 (some .int)) 7 175 14 34 G X sz [(a0, .inr (15, [.int 0, .ref a1, .ref a2, .ref a3, .ref a4, .int 0, .null])), (a1, .inr (17, [.int 0, .ref (X 3), .int 0])), (a2, .inr (17, [.int 0, .ref (X 3), .int 0]))] [.ref a0] (fun u => some (.int 0)) (fun u => [(a0, .inr (15, [.int 0, .ref a1, .ref a2, .ref a3, .ref a4, .int 0, .null])), (a1, .inr (17, [.int 0, .ref (X 3), .int 0])), (a2, .inr (17, [.int 0, .ref (X 3), .int 0])), (u.1, .inr (12, [.ref u.2.1, .ref u.2.2.1, .ref u.2.2.2.2.1, .ref u.2.2.2.1])), (u.2.1, .inl (G.2 0, 0, .inl (fun _ => 0))), (u.2.2.2.1, .inr (17, [.int 0, .ref (X 3), .int 0])), (u.2.2.2.2.1, .inl (G.2 1, 0, .inl (fun _ => 0))), (u.2.2.2.2.2.2.1, .inl (G.2 5, 0, .inr (.inr (.inr (.inr (fun _ => none)))))), (u.2.2.2.2.2.2.2.1, .inl (G.2 1, 0, .inl (fun _ => 0))), (u.2.2.2.2.2.2.2.2.1, .inl (G.2 1, 0, .inl (fun _ => 0))), (u.2.2.2.2.2.2.2.2.2.2.1, .inr (18, [.int 1, .int 0, .int 2, .ref u.2.2.1])), (u.2.2.2.2.2.2.2.2.2.1, .inr (17, [.int 0, .ref (X 3), .int 0])), (u.2.2.1, .inr (17, [.int 2, .ref u.2.2.2.2.2.1, .int 1])), (u.2.2.2.2.2.1, .inl (G.2 5, 10, .inr (.inr (.inr (.inr (va_up (fun _ => none) 0 (some (X (1000 + 128))))))))), (u.2.2.2.2.2.2.2.2.2.2.2.1, .inl (G.2 1, 0, .inl (fun _ => 0))), (u.2.2.2.2.2.2.2.2.2.2.2.2.2, .inr (18, [.int 1, .int 0, .int 2, .ref u.2.2.1])), (u.2.2.2.2.2.2.2.2.2.2.2.2.1, .inr (17, [.int 0, .ref (X 3), .int 0]))]) := by
  refine pz_onR (by decide +kernel) (Nat.le_of_ble_eq_true rfl) ?_
  intro p e s m below meth c A hx hb hr hml hown hts hlocks hin hx0 hP hK hD hS hA hE ls hl
  have hown : s.vm.findClass "SourcewrightModel" = some m.cls := hown
  have hl : lv_has ls 4 [(0, .ref a0)] := hl
  refine lv_aload_n hx hb dX16_doubts_0 rfl (lv_at hl 0 rfl) ?_
  refine lv_iconst (v := 0) hx hb dX16_doubts_1 (by decide) ?_
  refine va_put (D := G.1) (ci := 15) (v := .int 0) (ty := tyX16 0) (C := "SourcewrightModel") (T := TX16) (N := 7) hx hb hts inX16 tyX16 tyX16_ok nmX16 hown hK hP hD hS 0 rfl rfl 0 (by decide) (hts _ wq_1813) (fun _ h9 => h9) rfl (by decide +kernel) rfl rfl (Nat.le_of_ble_eq_true rfl) dX16_doubts_2 (fun H locs hP hD hS => ?_)
  have hP : va_P G.1 pz_cl [(a0, .inr (15, [.int 0, .ref a1, .ref a2, .ref a3, .ref a4, .int 0, .null])), (a1, .inr (17, [.int 0, .ref (X 3), .int 0])), (a2, .inr (17, [.int 0, .ref (X 3), .int 0]))] H := hP
  have hD : va_D A [(a0, .inr (15, [.int 0, .ref a1, .ref a2, .ref a3, .ref a4, .int 0, .null])), (a1, .inr (17, [.int 0, .ref (X 3), .int 0])), (a2, .inr (17, [.int 0, .ref (X 3), .int 0]))] := hD
  refine lv_aload_n hx hb dX16_doubts_5 rfl (lv_at hl 0 rfl) ?_
  refine pz_go (wr := []) (vx_runV (C := "SourcewrightModel") (As := []) (rest := []) ⟨hx, hb, hml, hown, hts⟩ (cX16_read_1 l hst G X H.size a0 a1 a2 a3 a4) (cwV 0 hts (pz_gV wq_2043 wq_2045 wqs_88 wq_13 wq_2046) rfl rfl rfl (by decide +kernel) ⟨(Nat.le_of_ble_eq_true rfl), (Nat.le_of_ble_eq_true rfl)⟩) (pz_preV (C := ("SourcewrightModel", TX16, 7)) hK hP hD hS hA hE 0 (ci := 15) rfl rfl [0, 1, 2] rfl rfl) rfl rfl hl.1 rfl (lv_room (Nat.le_of_ble_eq_true rfl)) dX16_doubts_6 ⟨(Nat.le_of_ble_eq_true rfl), (Nat.le_of_ble_eq_true rfl)⟩) hP hD hS hA [0, 1, 2] [] rfl rfl rfl (by decide) (fun u H locs hP hD hS => ?_)
  obtain ⟨q1, q2, q3, q4, q5, q6, q7, q8, q9, q10, q11, q12, q13, q14⟩ := u
  have hP : va_P G.1 pz_cl [(a0, .inr (15, [.int 0, .ref a1, .ref a2, .ref a3, .ref a4, .int 0, .null])), (a1, .inr (17, [.int 0, .ref (X 3), .int 0])), (a2, .inr (17, [.int 0, .ref (X 3), .int 0])), (q1, .inr (12, [.ref q2, .ref q3, .ref q5, .ref q4])), (q2, .inl (G.2 0, 0, .inl (fun _ => 0))), (q4, .inr (17, [.int 0, .ref (X 3), .int 0])), (q5, .inl (G.2 1, 0, .inl (fun _ => 0))), (q7, .inl (G.2 5, 0, .inr (.inr (.inr (.inr (fun _ => none)))))), (q8, .inl (G.2 1, 0, .inl (fun _ => 0))), (q9, .inl (G.2 1, 0, .inl (fun _ => 0))), (q11, .inr (18, [.int 1, .int 0, .int 2, .ref q3])), (q10, .inr (17, [.int 0, .ref (X 3), .int 0])), (q3, .inr (17, [.int 2, .ref q6, .int 1])), (q6, .inl (G.2 5, 10, .inr (.inr (.inr (.inr (va_up (fun _ => none) 0 (some (X (1000 + 128))))))))), (q12, .inl (G.2 1, 0, .inl (fun _ => 0))), (q14, .inr (18, [.int 1, .int 0, .int 2, .ref q3])), (q13, .inr (17, [.int 0, .ref (X 3), .int 0]))] H := hP
  have hD : va_D A [(a0, .inr (15, [.int 0, .ref a1, .ref a2, .ref a3, .ref a4, .int 0, .null])), (a1, .inr (17, [.int 0, .ref (X 3), .int 0])), (a2, .inr (17, [.int 0, .ref (X 3), .int 0])), (q1, .inr (12, [.ref q2, .ref q3, .ref q5, .ref q4])), (q2, .inl (G.2 0, 0, .inl (fun _ => 0))), (q4, .inr (17, [.int 0, .ref (X 3), .int 0])), (q5, .inl (G.2 1, 0, .inl (fun _ => 0))), (q7, .inl (G.2 5, 0, .inr (.inr (.inr (.inr (fun _ => none)))))), (q8, .inl (G.2 1, 0, .inl (fun _ => 0))), (q9, .inl (G.2 1, 0, .inl (fun _ => 0))), (q11, .inr (18, [.int 1, .int 0, .int 2, .ref q3])), (q10, .inr (17, [.int 0, .ref (X 3), .int 0])), (q3, .inr (17, [.int 2, .ref q6, .int 1])), (q6, .inl (G.2 5, 10, .inr (.inr (.inr (.inr (va_up (fun _ => none) 0 (some (X (1000 + 128))))))))), (q12, .inl (G.2 1, 0, .inl (fun _ => 0))), (q14, .inr (18, [.int 1, .int 0, .int 2, .ref q3])), (q13, .inr (17, [.int 0, .ref (X 3), .int 0]))] := hD
  refine W.eq (g2 := F0 m 9 ls [.ref q1]) rfl ?_
  refine lv_astore_n (lv' := [(1, .ref q1), (0, .ref a0)]) hx hb dX16_doubts_9 rfl hl (by decide) rfl (fun ls hl => ?_)
  refine lv_iconst (v := 0) hx hb dX16_doubts_10 (by decide) ?_
  refine lv_istore_n (lv' := [(2, .int 0), (1, .ref q1), (0, .ref a0)]) hx hb dX16_doubts_11 rfl hl (by decide) rfl (fun ls hl => ?_)
  refine lv_iconst (v := 0) hx hb dX16_doubts_12 (by decide) ?_
  refine lv_istore_n (lv' := [(3, .int 0), (2, .int 0), (1, .ref q1), (0, .ref a0)]) hx hb dX16_doubts_13 rfl hl (by decide) rfl (fun ls hl => ?_)
  refine lv_iload_n hx hb dX16_doubts_14 rfl (lv_at hl 0 rfl) ?_
  refine lv_aload_n hx hb dX16_doubts_15 rfl (lv_at hl 3 rfl) ?_
  refine va_get (D := G.1) (ci := 15) (v := .ref a1) (C := "SourcewrightModel") (T := TX16) (N := 7) hx hb hts inX16 hown hK hP 0 rfl rfl 1 (by decide) (hts _ wq_1814) (fun _ h9 => h9) rfl dX16_doubts_16 ?_
  refine pz_go (wr := [(a0, .inr (15, [.int 0, .ref a1, .ref a2, .ref a3, .ref a4, .int 0, .null])), (a2, .inr (17, [.int 0, .ref (X 3), .int 0])), (q1, .inr (12, [.ref q2, .ref q3, .ref q5, .ref q4])), (q2, .inl (G.2 0, 0, .inl (fun _ => 0))), (q4, .inr (17, [.int 0, .ref (X 3), .int 0])), (q5, .inl (G.2 1, 0, .inl (fun _ => 0))), (q7, .inl (G.2 5, 0, .inr (.inr (.inr (.inr (fun _ => none)))))), (q8, .inl (G.2 1, 0, .inl (fun _ => 0))), (q9, .inl (G.2 1, 0, .inl (fun _ => 0))), (q11, .inr (18, [.int 1, .int 0, .int 2, .ref q3])), (q10, .inr (17, [.int 0, .ref (X 3), .int 0])), (q3, .inr (17, [.int 2, .ref q6, .int 1])), (q6, .inl (G.2 5, 10, .inr (.inr (.inr (.inr (va_up (fun _ => none) 0 (some (X (1000 + 128))))))))), (q12, .inl (G.2 1, 0, .inl (fun _ => 0))), (q14, .inr (18, [.int 1, .int 0, .int 2, .ref q3])), (q13, .inr (17, [.int 0, .ref (X 3), .int 0]))]) (vx_runV (C := "java/util/ArrayList") (As := []) (rest := [.int 0]) ⟨hx, hb, hml, hown, hts⟩ (cJx4a65c_size_8abf5_1 l hst G X H.size a1) (cwV 0 hts (pz_gV wq_1846 wq_1847 wq_1848 wq_16 wq_1849) rfl rfl rfl (by decide +kernel) ⟨(Nat.le_of_ble_eq_true rfl), (Nat.le_of_ble_eq_true rfl)⟩) (pz_preV (C := ("java/util/ArrayList", TJx4a65c, 3)) hK hP hD hS hA hE 1 (ci := 17) rfl rfl [1] rfl rfl) rfl rfl hl.1 rfl (lv_room (Nat.le_of_ble_eq_true rfl)) dX16_doubts_19 ⟨(Nat.le_of_ble_eq_true rfl), (Nat.le_of_ble_eq_true rfl)⟩) hP hD hS hA [1] [0, 2, 3, 4, 5, 6, 7, 8, 9, 10, 11, 12, 13, 14, 15, 16] rfl rfl rfl (by decide) (fun u H locs hP hD hS => ?_)
  have hP : va_P G.1 pz_cl [(a0, .inr (15, [.int 0, .ref a1, .ref a2, .ref a3, .ref a4, .int 0, .null])), (a2, .inr (17, [.int 0, .ref (X 3), .int 0])), (q1, .inr (12, [.ref q2, .ref q3, .ref q5, .ref q4])), (q2, .inl (G.2 0, 0, .inl (fun _ => 0))), (q4, .inr (17, [.int 0, .ref (X 3), .int 0])), (q5, .inl (G.2 1, 0, .inl (fun _ => 0))), (q7, .inl (G.2 5, 0, .inr (.inr (.inr (.inr (fun _ => none)))))), (q8, .inl (G.2 1, 0, .inl (fun _ => 0))), (q9, .inl (G.2 1, 0, .inl (fun _ => 0))), (q11, .inr (18, [.int 1, .int 0, .int 2, .ref q3])), (q10, .inr (17, [.int 0, .ref (X 3), .int 0])), (q3, .inr (17, [.int 2, .ref q6, .int 1])), (q6, .inl (G.2 5, 10, .inr (.inr (.inr (.inr (va_up (fun _ => none) 0 (some (X (1000 + 128))))))))), (q12, .inl (G.2 1, 0, .inl (fun _ => 0))), (q14, .inr (18, [.int 1, .int 0, .int 2, .ref q3])), (q13, .inr (17, [.int 0, .ref (X 3), .int 0])), (a1, .inr (17, [.int 0, .ref (X 3), .int 0]))] H := hP
  have hD : va_D A [(a0, .inr (15, [.int 0, .ref a1, .ref a2, .ref a3, .ref a4, .int 0, .null])), (a2, .inr (17, [.int 0, .ref (X 3), .int 0])), (q1, .inr (12, [.ref q2, .ref q3, .ref q5, .ref q4])), (q2, .inl (G.2 0, 0, .inl (fun _ => 0))), (q4, .inr (17, [.int 0, .ref (X 3), .int 0])), (q5, .inl (G.2 1, 0, .inl (fun _ => 0))), (q7, .inl (G.2 5, 0, .inr (.inr (.inr (.inr (fun _ => none)))))), (q8, .inl (G.2 1, 0, .inl (fun _ => 0))), (q9, .inl (G.2 1, 0, .inl (fun _ => 0))), (q11, .inr (18, [.int 1, .int 0, .int 2, .ref q3])), (q10, .inr (17, [.int 0, .ref (X 3), .int 0])), (q3, .inr (17, [.int 2, .ref q6, .int 1])), (q6, .inl (G.2 5, 10, .inr (.inr (.inr (.inr (va_up (fun _ => none) 0 (some (X (1000 + 128))))))))), (q12, .inl (G.2 1, 0, .inl (fun _ => 0))), (q14, .inr (18, [.int 1, .int 0, .int 2, .ref q3])), (q13, .inr (17, [.int 0, .ref (X 3), .int 0])), (a1, .inr (17, [.int 0, .ref (X 3), .int 0]))] := hD
  refine W.eq (g2 := F0 m 22 ls [.int 0, .int 0]) rfl ?_
  refine lv_icmp_ge (tgt := 47) hx hb dX16_doubts_22 (by decide) (fun _ => ?_) (fun hc => absurd hc (by decide))
  refine lv_iload_n hx hb dX16_doubts_47 rfl (lv_at hl 1 rfl) ?_
  exact pz_rz hx hb hr hlocks (by decide +kernel) hS (Nat.le_of_ble_eq_true rfl) (Nat.le_of_ble_eq_true rfl) dX16_doubts_48 (q1, q2, q3, q4, q5, q6, q7, q8, q9, q10, q11, q12, q13, q14) rfl (hP.sub [0, 16, 1, 2, 3, 4, 5, 6, 7, 8, 9, 10, 11, 12, 13, 14, 15] rfl) (hD.sub [0, 16, 1, 2, 3, 4, 5, 6, 7, 8, 9, 10, 11, 12, 13, 14, 15] rfl rfl)
set_option maxHeartbeats 4000000 in
set_option maxRecDepth 100000 in
theorem cX11_length_1 (l : Launch) (hst : l.stackTraces = false) (G : pz_G) (X : Nat → Nat) (sz : Nat) (a0 : Nat) (x0 : Int32) (a1 : Nat) (a2 : Nat) (a3 : Nat) (a4 : Nat) (a5 : Nat) (a6 : Nat) (a7 : Nat) (a8 : Nat) (a9 : Nat) (a10 : Nat) (a11 : Nat) (a12 : Nat) (a13 : Nat) (a14 : Nat) (a15 : Nat) : pz_MT l yX11_length (pz_cd yX11_length cX11_length 2 (some .int)) 7 105 1 6 G X sz [(a0, .inr (11, [.ref a1, .ref a2, .int 0, .ref a3, .int 0, .int 0, .ref a4, .ref a5, .ref a6, .ref a7, .ref a8, .ref a9, .ref a10, .ref a11, .ref a12, .ref a13, .int 0, .int (-1), .int (-1), .int 0])), (a1, .inr (2, [.ref a14, .ref a15, .int 0]))] [.ref a0, .int x0] "java/lang/IndexOutOfBoundsException" := by
  refine pz_onT (by decide +kernel) (Nat.le_of_ble_eq_true rfl) ?_
  intro p e s m below meth c A hx hb hr hml hown hts hlocks hin hx0 hP hK hD hS hA hE ls hl
  have hown : s.vm.findClass "Sourcewright" = some m.cls := hown
  have hl : lv_has ls 2 [(0, .ref a0), (1, .int x0)] := hl
  have hlo_x0 : (-2147483648 : Int) ≤ x0.toInt := by have h9 := Int32.le_toInt x0; omega
  have hhi_x0 : x0.toInt ≤ (2147483647 : Int) := by have h9 := Int32.toInt_lt x0; omega
  refine lv_aload_n hx hb dX11_length_0 rfl (lv_at hl 0 rfl) ?_
  refine lv_iload_n hx hb dX11_length_1 rfl (lv_at hl 1 rfl) ?_
  refine pz_goT (wr := []) (vx_runV (C := "Sourcewright") (As := [.int x0]) (rest := []) ⟨hx, hb, hml, hown, hts⟩ (cX11_checkPlace_1 l hst G X s.heap.size a0 x0 a1 a2 a3 a4 a5 a6 a7 a8 a9 a10 a11 a12 a13 a14 a15) (cwV 1 hts (pz_gV wq_1384 wq_1386 wqs_75 wq_1 wq_1387) rfl rfl rfl (by decide +kernel) ⟨(Nat.le_of_ble_eq_true rfl), (Nat.le_of_ble_eq_true rfl)⟩) (pz_preV (C := ("Sourcewright", TX11, 20)) hK hP hD hS hA hE 0 (ci := 11) rfl rfl [0, 1] rfl rfl) rfl rfl hl.1 rfl (lv_room (Nat.le_of_ble_eq_true rfl)) dX11_length_2 ⟨(Nat.le_of_ble_eq_true rfl), (Nat.le_of_ble_eq_true rfl)⟩) hP hD hS hA [0, 1] [] rfl rfl rfl (by decide) (fun ce q9 H locs hP hD hS hce hcv hcl => ?_)
  exact pz_out hx0 hlocks hce hcv hcl hS (Nat.le_of_ble_eq_true rfl) (Nat.le_of_ble_eq_true rfl)
set_option maxHeartbeats 4000000 in
set_option maxRecDepth 100000 in
theorem cL_length_1 (l : Launch) (hst : l.stackTraces = false) (G : pz_G) (X : Nat → Nat) (sz : Nat) (a0 : Nat) (x0 : Int32) (a1 : Nat) (a2 : Nat) (a3 : Nat) (a4 : Nat) (a5 : Nat) (a6 : Nat) (a7 : Nat) (a8 : Nat) (a9 : Nat) (a10 : Nat) (a11 : Nat) (a12 : Nat) (a13 : Nat) (a14 : Nat) (a15 : Nat) (a16 : Nat) : pz_MR (S := Unit) l yL_length (pz_cw yL_length cL_length 4 (some .int) [(0, 9, 12, 21)]) 8 126 1 6 G X sz [(a0, .inr (11, [.ref a2, .ref a3, .int 0, .ref a4, .int 0, .int 0, .ref a5, .ref a6, .ref a7, .ref a8, .ref a9, .ref a10, .ref a11, .ref a12, .ref a13, .ref a14, .int 0, .int (-1), .int (-1), .int 0])), (a2, .inr (2, [.ref a15, .ref a16, .int 0]))] [.ref a0, .int x0, .ref a1] (fun u => some (.int 1)) (fun u => []) := by
  refine pz_onHR (by decide +kernel) (Nat.le_of_ble_eq_true rfl) ?_
  intro p e s m below meth c A hx hb hr hml hown hts hlocks hin hx0 hP hK hD hS hA hE ls hl
  have hown : s.vm.findClass "SourcewrightLaw" = some m.cls := hown
  have hl : lv_has ls 4 [(0, .ref a0), (1, .int x0), (2, .ref a1)] := hl
  have hlo_x0 : (-2147483648 : Int) ≤ x0.toInt := by have h9 := Int32.le_toInt x0; omega
  have hhi_x0 : x0.toInt ≤ (2147483647 : Int) := by have h9 := Int32.toInt_lt x0; omega
  refine lv_aload_n hx hb dL_length_0 rfl (lv_at hl 2 rfl) ?_
  refine lv_iconst (v := 0) hx hb dL_length_1 (by decide) ?_
  refine lv_aload_n hx hb dL_length_2 rfl (lv_at hl 0 rfl) ?_
  refine lv_iload_n hx hb dL_length_3 rfl (lv_at hl 1 rfl) ?_
  refine pz_goT (wr := []) (vx_runV (C := "Sourcewright") (As := [.int x0]) (rest := [.int 0, .ref a1]) ⟨hx, hb, hml, hown, hts⟩ (cX11_length_1 l hst G X s.heap.size a0 x0 a2 a3 a4 a5 a6 a7 a8 a9 a10 a11 a12 a13 a14 a15 a16) (cwV 1 hts (pz_gV wq_1455 wq_1456 wq_1457 wq_1 wq_1458) rfl rfl rfl (by decide +kernel) ⟨(Nat.le_of_ble_eq_true rfl), (Nat.le_of_ble_eq_true rfl)⟩) (pz_preV (C := ("Sourcewright", TX11, 20)) hK hP hD hS hA hE 0 (ci := 11) rfl rfl [0, 1] rfl rfl) rfl rfl hl.1 rfl (lv_room (Nat.le_of_ble_eq_true rfl)) dL_length_4 ⟨(Nat.le_of_ble_eq_true rfl), (Nat.le_of_ble_eq_true rfl)⟩) hP hD hS hA [0, 1] [] rfl rfl rfl (by decide) (fun ce q9 H locs hP hD hS hce hcv hcl => ?_)
  refine vx_catch hown [] ⟨0, 9, 12, 21⟩ [] hx0 (fun z hz => by cases hz) rfl (by decide) (hts _ wq_1356) (va_Nw.use rfl (hE.2.2.2.2.2.2.2.2.1 _ nx_1390)) hce hcv hcl ?_
  have hP : va_P G.1 pz_cl [] H := hP
  have hD : va_D A [] := hD
  refine W.eq (g2 := F0 m 12 ls [.ref q9]) rfl ?_
  refine lv_astore_n (lv' := [(3, .ref q9), (0, .ref a0), (1, .int x0), (2, .ref a1)]) hx hb dL_length_12 rfl hl (by decide) rfl (fun ls hl => ?_)
  refine lv_iconst (v := 1) hx hb dL_length_13 (by decide) ?_
  exact pz_rz hx hb hr hlocks (by decide +kernel) hS (Nat.le_of_ble_eq_true rfl) (Nat.le_of_ble_eq_true rfl) dL_length_14 () rfl (hP.sub [] rfl) (hD.sub [] rfl rfl)
set_option maxHeartbeats 4000000 in
set_option maxRecDepth 100000 in
theorem cX16_length_1 (l : Launch) (hst : l.stackTraces = false) (G : pz_G) (X : Nat → Nat) (sz : Nat) (a0 : Nat) (x0 : Int32) (a1 : Nat) (a2 : Nat) (a3 : Nat) (a4 : Nat) : pz_MR (S := Unit) l yX16_length (pz_cd yX16_length cX16_length 3 (some .int)) 2 43 0 0 G X sz [(a0, .inr (15, [.int 0, .ref a1, .ref a2, .ref a3, .ref a4, .int 0, .null])), (a1, .inr (17, [.int 0, .ref (X 3), .int 0]))] [.ref a0, .int x0] (fun u => some (.int 0)) (fun u => [(a0, .inr (15, [.int 1, .ref a1, .ref a2, .ref a3, .ref a4, .int 0, .null])), (a1, .inr (17, [.int 0, .ref (X 3), .int 0]))]) := by
  refine pz_onR (by decide +kernel) (Nat.le_of_ble_eq_true rfl) ?_
  intro p e s m below meth c A hx hb hr hml hown hts hlocks hin hx0 hP hK hD hS hA hE ls hl
  have hown : s.vm.findClass "SourcewrightModel" = some m.cls := hown
  have hl : lv_has ls 3 [(0, .ref a0), (1, .int x0)] := hl
  have hlo_x0 : (-2147483648 : Int) ≤ x0.toInt := by have h9 := Int32.le_toInt x0; omega
  have hhi_x0 : x0.toInt ≤ (2147483647 : Int) := by have h9 := Int32.toInt_lt x0; omega
  refine lv_aload_n hx hb dX16_length_0 rfl (lv_at hl 0 rfl) ?_
  refine lv_iload_n hx hb dX16_length_1 rfl (lv_at hl 1 rfl) ?_
  refine pz_go (wr := []) (vx_runV (C := "SourcewrightModel") (As := [.int x0]) (rest := []) ⟨hx, hb, hml, hown, hts⟩ (cX16_noByte_1 l hst G X s.heap.size a0 x0 a1 a2 a3 a4) (cwV 1 hts (pz_gV wq_1945 wq_1947 wqs_87 wq_13 wq_1948) rfl rfl rfl (by decide +kernel) ⟨(Nat.le_of_ble_eq_true rfl), (Nat.le_of_ble_eq_true rfl)⟩) (pz_preV (C := ("SourcewrightModel", TX16, 7)) hK hP hD hS hA hE 0 (ci := 15) rfl rfl [0, 1] rfl rfl) rfl rfl hl.1 rfl (lv_room (Nat.le_of_ble_eq_true rfl)) dX16_length_2 ⟨(Nat.le_of_ble_eq_true rfl), (Nat.le_of_ble_eq_true rfl)⟩) hP hD hS hA [0, 1] [] rfl rfl rfl (by decide) (fun u H locs hP hD hS => ?_)
  have hP : va_P G.1 pz_cl [(a0, .inr (15, [.int 1, .ref a1, .ref a2, .ref a3, .ref a4, .int 0, .null])), (a1, .inr (17, [.int 0, .ref (X 3), .int 0]))] H := hP
  have hD : va_D A [(a0, .inr (15, [.int 1, .ref a1, .ref a2, .ref a3, .ref a4, .int 0, .null])), (a1, .inr (17, [.int 0, .ref (X 3), .int 0]))] := hD
  refine W.eq (g2 := F0 m 5 ls [.int 1]) rfl ?_
  refine lv_if_eq (tgt := 10) hx hb dX16_length_5 (by decide) (fun hc => absurd hc (by decide)) (fun _ => ?_)
  refine lv_iconst (v := 0) hx hb dX16_length_8 (by decide) ?_
  exact pz_rz hx hb hr hlocks (by decide +kernel) hS (Nat.le_of_ble_eq_true rfl) (Nat.le_of_ble_eq_true rfl) dX16_length_9 () rfl (hP.sub [0, 1] rfl) (hD.sub [0, 1] rfl rfl)
set_option maxHeartbeats 4000000 in
set_option maxRecDepth 100000 in
theorem cX5_count_1 (l : Launch) (hst : l.stackTraces = false) (G : pz_G) (X : Nat → Nat) (sz : Nat) (a0 : Nat) (a1 : Nat) (a2 : Nat) (a3 : Nat) (a4 : Nat) (a5 : Nat) (a6 : Nat) (a7 : Nat) : pz_MR (S := Unit) l yX5_count (pz_cd yX5_count cX5_count 1 (some .int)) 0 0 0 0 G X sz [(a0, .inr (5, [.ref a1, .ref a2, .ref a3, .ref a4, .ref a5, .ref a6, .ref a7, .int 0, .int 0, .int 0]))] [.ref a0] (fun u => some (.int 0)) (fun u => [(a0, .inr (5, [.ref a1, .ref a2, .ref a3, .ref a4, .ref a5, .ref a6, .ref a7, .int 0, .int 0, .int 0]))]) := by
  refine pz_onR (by decide +kernel) (Nat.le_of_ble_eq_true rfl) ?_
  intro p e s m below meth c A hx hb hr hml hown hts hlocks hin hx0 hP hK hD hS hA hE ls hl
  have hown : s.vm.findClass "Sourcewright$Reading" = some m.cls := hown
  have hl : lv_has ls 1 [(0, .ref a0)] := hl
  refine lv_aload_n hx hb dX5_count_0 rfl (lv_at hl 0 rfl) ?_
  refine va_get (D := G.1) (ci := 5) (v := .int 0) (C := "Sourcewright$Reading") (T := TX5) (N := 10) hx hb hts inX5 hown hK hP 0 rfl rfl 9 (by decide) (hts _ wq_102) (fun _ h9 => h9) rfl dX5_count_1 ?_
  exact pz_rz hx hb hr hlocks (by decide +kernel) hS (Nat.le_of_ble_eq_true rfl) (Nat.le_of_ble_eq_true rfl) dX5_count_4 () rfl (hP.sub [0] rfl) (hD.sub [0] rfl rfl)
set_option maxHeartbeats 4000000 in
set_option maxRecDepth 100000 in
theorem cX11_functions_1 (l : Launch) (hst : l.stackTraces = false) (G : pz_G) (X : Nat → Nat) (sz : Nat) (a0 : Nat) (a1 : Nat) (a2 : Nat) (a3 : Nat) (a4 : Nat) (a5 : Nat) (a6 : Nat) (a7 : Nat) (a8 : Nat) (a9 : Nat) (a10 : Nat) (a11 : Nat) (a12 : Nat) (a13 : Nat) (a14 : Nat) (a15 : Nat) (a16 : Nat) (a17 : Nat) (a18 : Nat) (a19 : Nat) (a20 : Nat) (a21 : Nat) (a22 : Nat) (a23 : Nat) (a24 : Nat) (f0 : Nat → Int64) (f1 : Nat → Int64) (f2 : Nat → Int32) : pz_MR (S := Unit) l yX11_functions (pz_cd yX11_functions cX11_functions 1 (some .int)) 4 87 0 0 G X sz [(a0, .inr (11, [.ref a1, .ref a8, .int 0, .ref a9, .int 0, .int 0, .ref a2, .ref a10, .ref a11, .ref a6, .ref a12, .ref a13, .ref a14, .ref a15, .ref a16, .ref a17, .int 0, .int (-1), .int (-1), .int 0])), (a1, .inr (2, [.ref a18, .ref a19, .int 0])), (a2, .inr (5, [.ref a1, .ref a3, .ref a20, .ref a21, .ref a22, .ref a23, .ref a24, .int 0, .int 0, .int 0])), (a3, .inr (7, [.ref a4, .ref a5])), (a4, .inl (G.2 2, 121, .inr (.inl (f0)))), (a5, .inl (G.2 2, 121, .inr (.inl (f1)))), (a6, .inr (3, [.ref a1, .ref a2, .ref a7])), (a7, .inl (G.2 0, 120, .inl (f2)))] [.ref a0] (fun u => some (.int 0)) (fun u => [(a0, .inr (11, [.ref a1, .ref a8, .int 0, .ref a9, .int 0, .int 0, .ref a2, .ref a10, .ref a11, .ref a6, .ref a12, .ref a13, .ref a14, .ref a15, .ref a16, .ref a17, .int 1, .int (-1), .int (-1), .int 0])), (a1, .inr (2, [.ref a18, .ref a19, .int 0])), (a2, .inr (5, [.ref a1, .ref a3, .ref a20, .ref a21, .ref a22, .ref a23, .ref a24, .int 0, .int 0, .int 0])), (a3, .inr (7, [.ref a4, .ref a5])), (a4, .inl (G.2 2, 121, .inr (.inl (vp_updL (f0) 120 0)))), (a5, .inl (G.2 2, 121, .inr (.inl (vp_updL (f1) 120 0)))), (a6, .inr (3, [.ref a1, .ref a2, .ref a7])), (a7, .inl (G.2 0, 120, .inl (f2)))]) := by
  refine pz_onR (by decide +kernel) (Nat.le_of_ble_eq_true rfl) ?_
  intro p e s m below meth c A hx hb hr hml hown hts hlocks hin hx0 hP hK hD hS hA hE ls hl
  have hown : s.vm.findClass "Sourcewright" = some m.cls := hown
  have hl : lv_has ls 1 [(0, .ref a0)] := hl
  refine lv_aload_n hx hb dX11_functions_0 rfl (lv_at hl 0 rfl) ?_
  refine pz_go (wr := []) (vx_runV (C := "Sourcewright") (As := []) (rest := []) ⟨hx, hb, hml, hown, hts⟩ (cX11_read_1 l hst G X s.heap.size a0 a1 a2 a3 a4 a5 a6 a7 a8 a9 a10 a11 a12 a13 a14 a15 a16 a17 a18 a19 a20 a21 a22 a23 a24 f0 f1 f2) (cwV 0 hts (pz_gV wq_527 wq_529 wqs_1 wq_1 wq_530) rfl rfl rfl (by decide +kernel) ⟨(Nat.le_of_ble_eq_true rfl), (Nat.le_of_ble_eq_true rfl)⟩) (pz_preV (C := ("Sourcewright", TX11, 20)) hK hP hD hS hA hE 0 (ci := 11) rfl rfl [0, 1, 2, 3, 4, 5, 6, 7] rfl rfl) rfl rfl hl.1 rfl (lv_room (Nat.le_of_ble_eq_true rfl)) dX11_functions_1 ⟨(Nat.le_of_ble_eq_true rfl), (Nat.le_of_ble_eq_true rfl)⟩) hP hD hS hA [0, 1, 2, 3, 4, 5, 6, 7] [] rfl rfl rfl (by decide) (fun u H locs hP hD hS => ?_)
  have hP : va_P G.1 pz_cl [(a0, .inr (11, [.ref a1, .ref a8, .int 0, .ref a9, .int 0, .int 0, .ref a2, .ref a10, .ref a11, .ref a6, .ref a12, .ref a13, .ref a14, .ref a15, .ref a16, .ref a17, .int 1, .int (-1), .int (-1), .int 0])), (a1, .inr (2, [.ref a18, .ref a19, .int 0])), (a2, .inr (5, [.ref a1, .ref a3, .ref a20, .ref a21, .ref a22, .ref a23, .ref a24, .int 0, .int 0, .int 0])), (a3, .inr (7, [.ref a4, .ref a5])), (a4, .inl (G.2 2, 121, .inr (.inl (vp_updL (f0) 120 0)))), (a5, .inl (G.2 2, 121, .inr (.inl (vp_updL (f1) 120 0)))), (a6, .inr (3, [.ref a1, .ref a2, .ref a7])), (a7, .inl (G.2 0, 120, .inl (f2)))] H := hP
  have hD : va_D A [(a0, .inr (11, [.ref a1, .ref a8, .int 0, .ref a9, .int 0, .int 0, .ref a2, .ref a10, .ref a11, .ref a6, .ref a12, .ref a13, .ref a14, .ref a15, .ref a16, .ref a17, .int 1, .int (-1), .int (-1), .int 0])), (a1, .inr (2, [.ref a18, .ref a19, .int 0])), (a2, .inr (5, [.ref a1, .ref a3, .ref a20, .ref a21, .ref a22, .ref a23, .ref a24, .int 0, .int 0, .int 0])), (a3, .inr (7, [.ref a4, .ref a5])), (a4, .inl (G.2 2, 121, .inr (.inl (vp_updL (f0) 120 0)))), (a5, .inl (G.2 2, 121, .inr (.inl (vp_updL (f1) 120 0)))), (a6, .inr (3, [.ref a1, .ref a2, .ref a7])), (a7, .inl (G.2 0, 120, .inl (f2)))] := hD
  refine W.eq (g2 := F0 m 4 ls []) rfl ?_
  refine lv_aload_n hx hb dX11_functions_4 rfl (lv_at hl 0 rfl) ?_
  refine va_get (D := G.1) (ci := 11) (v := .ref a2) (C := "Sourcewright") (T := TX11) (N := 20) hx hb hts inX11 hown hK hP 0 rfl rfl 6 (by decide) (hts _ wq_449) (fun _ h9 => h9) rfl dX11_functions_5 ?_
  refine pz_go (wr := [(a0, .inr (11, [.ref a1, .ref a8, .int 0, .ref a9, .int 0, .int 0, .ref a2, .ref a10, .ref a11, .ref a6, .ref a12, .ref a13, .ref a14, .ref a15, .ref a16, .ref a17, .int 1, .int (-1), .int (-1), .int 0])), (a1, .inr (2, [.ref a18, .ref a19, .int 0])), (a3, .inr (7, [.ref a4, .ref a5])), (a4, .inl (G.2 2, 121, .inr (.inl (vp_updL (f0) 120 0)))), (a5, .inl (G.2 2, 121, .inr (.inl (vp_updL (f1) 120 0)))), (a6, .inr (3, [.ref a1, .ref a2, .ref a7])), (a7, .inl (G.2 0, 120, .inl (f2)))]) (vx_runV (C := "Sourcewright$Reading") (As := []) (rest := []) ⟨hx, hb, hml, hown, hts⟩ (cX5_count_1 l hst G X H.size a2 a1 a3 a20 a21 a22 a23 a24) (cwV 0 hts (pz_gV wq_689 wq_690 wq_691 wq_3 wq_692) rfl rfl rfl (by decide +kernel) ⟨(Nat.le_of_ble_eq_true rfl), (Nat.le_of_ble_eq_true rfl)⟩) (pz_preV (C := ("Sourcewright$Reading", TX5, 10)) hK hP hD hS hA hE 2 (ci := 5) rfl rfl [2] rfl rfl) rfl rfl hl.1 rfl (lv_room (Nat.le_of_ble_eq_true rfl)) dX11_functions_8 ⟨(Nat.le_of_ble_eq_true rfl), (Nat.le_of_ble_eq_true rfl)⟩) hP hD hS hA [2] [0, 1, 3, 4, 5, 6, 7] rfl rfl rfl (by decide) (fun u H locs hP hD hS => ?_)
  have hP : va_P G.1 pz_cl [(a0, .inr (11, [.ref a1, .ref a8, .int 0, .ref a9, .int 0, .int 0, .ref a2, .ref a10, .ref a11, .ref a6, .ref a12, .ref a13, .ref a14, .ref a15, .ref a16, .ref a17, .int 1, .int (-1), .int (-1), .int 0])), (a1, .inr (2, [.ref a18, .ref a19, .int 0])), (a3, .inr (7, [.ref a4, .ref a5])), (a4, .inl (G.2 2, 121, .inr (.inl (vp_updL (f0) 120 0)))), (a5, .inl (G.2 2, 121, .inr (.inl (vp_updL (f1) 120 0)))), (a6, .inr (3, [.ref a1, .ref a2, .ref a7])), (a7, .inl (G.2 0, 120, .inl (f2))), (a2, .inr (5, [.ref a1, .ref a3, .ref a20, .ref a21, .ref a22, .ref a23, .ref a24, .int 0, .int 0, .int 0]))] H := hP
  have hD : va_D A [(a0, .inr (11, [.ref a1, .ref a8, .int 0, .ref a9, .int 0, .int 0, .ref a2, .ref a10, .ref a11, .ref a6, .ref a12, .ref a13, .ref a14, .ref a15, .ref a16, .ref a17, .int 1, .int (-1), .int (-1), .int 0])), (a1, .inr (2, [.ref a18, .ref a19, .int 0])), (a3, .inr (7, [.ref a4, .ref a5])), (a4, .inl (G.2 2, 121, .inr (.inl (vp_updL (f0) 120 0)))), (a5, .inl (G.2 2, 121, .inr (.inl (vp_updL (f1) 120 0)))), (a6, .inr (3, [.ref a1, .ref a2, .ref a7])), (a7, .inl (G.2 0, 120, .inl (f2))), (a2, .inr (5, [.ref a1, .ref a3, .ref a20, .ref a21, .ref a22, .ref a23, .ref a24, .int 0, .int 0, .int 0]))] := hD
  refine W.eq (g2 := F0 m 11 ls [.int 0]) rfl ?_
  exact pz_rz hx hb hr hlocks (by decide +kernel) hS (Nat.le_of_ble_eq_true rfl) (Nat.le_of_ble_eq_true rfl) dX11_functions_11 () rfl (hP.sub [0, 1, 7, 2, 3, 4, 5, 6] rfl) (hD.sub [0, 1, 7, 2, 3, 4, 5, 6] rfl rfl)
set_option maxHeartbeats 4000000 in
set_option maxRecDepth 100000 in
theorem cX16_functions_1 (l : Launch) (hst : l.stackTraces = false) (G : pz_G) (X : Nat → Nat) (sz : Nat) (a0 : Nat) (a1 : Nat) (a2 : Nat) (a3 : Nat) (a4 : Nat) : pz_MR (S := Nat × Nat × Nat × Nat × Nat × Nat × Nat × Nat × Nat × Nat × Nat × Nat × Nat × Nat) l yX16_functions (pz_cd yX16_functions cX16_functions 1 (some .int)) 7 175 14 34 G X sz [(a0, .inr (15, [.int 0, .ref a1, .ref a2, .ref a3, .ref a4, .int 0, .null])), (a1, .inr (17, [.int 0, .ref (X 3), .int 0])), (a2, .inr (17, [.int 0, .ref (X 3), .int 0]))] [.ref a0] (fun u => some (.int 0)) (fun u => [(a0, .inr (15, [.int 0, .ref a1, .ref a2, .ref a3, .ref a4, .int 0, .null])), (a1, .inr (17, [.int 0, .ref (X 3), .int 0])), (a2, .inr (17, [.int 0, .ref (X 3), .int 0])), (u.1, .inr (12, [.ref u.2.1, .ref u.2.2.1, .ref u.2.2.2.2.1, .ref u.2.2.2.1])), (u.2.1, .inl (G.2 0, 0, .inl (fun _ => 0))), (u.2.2.2.2.1, .inl (G.2 1, 0, .inl (fun _ => 0))), (u.2.2.2.2.2.2.1, .inl (G.2 5, 0, .inr (.inr (.inr (.inr (fun _ => none)))))), (u.2.2.2.2.2.2.2.1, .inl (G.2 1, 0, .inl (fun _ => 0))), (u.2.2.2.2.2.2.2.2.1, .inl (G.2 1, 0, .inl (fun _ => 0))), (u.2.2.2.2.2.2.2.2.2.2.1, .inr (18, [.int 1, .int 0, .int 2, .ref u.2.2.1])), (u.2.2.2.2.2.2.2.2.2.1, .inr (17, [.int 0, .ref (X 3), .int 0])), (u.2.2.1, .inr (17, [.int 2, .ref u.2.2.2.2.2.1, .int 1])), (u.2.2.2.2.2.1, .inl (G.2 5, 10, .inr (.inr (.inr (.inr (va_up (fun _ => none) 0 (some (X (1000 + 128))))))))), (u.2.2.2.2.2.2.2.2.2.2.2.1, .inl (G.2 1, 0, .inl (fun _ => 0))), (u.2.2.2.2.2.2.2.2.2.2.2.2.2, .inr (18, [.int 1, .int 0, .int 2, .ref u.2.2.1])), (u.2.2.2.2.2.2.2.2.2.2.2.2.1, .inr (17, [.int 0, .ref (X 3), .int 0])), (u.2.2.2.1, .inr (17, [.int 0, .ref (X 3), .int 0]))]) := by
  refine pz_onR (by decide +kernel) (Nat.le_of_ble_eq_true rfl) ?_
  intro p e s m below meth c A hx hb hr hml hown hts hlocks hin hx0 hP hK hD hS hA hE ls hl
  have hown : s.vm.findClass "SourcewrightModel" = some m.cls := hown
  have hl : lv_has ls 1 [(0, .ref a0)] := hl
  refine lv_aload_n hx hb dX16_functions_0 rfl (lv_at hl 0 rfl) ?_
  refine lv_iconst (v := 0) hx hb dX16_functions_1 (by decide) ?_
  refine va_put (D := G.1) (ci := 15) (v := .int 0) (ty := tyX16 0) (C := "SourcewrightModel") (T := TX16) (N := 7) hx hb hts inX16 tyX16 tyX16_ok nmX16 hown hK hP hD hS 0 rfl rfl 0 (by decide) (hts _ wq_1813) (fun _ h9 => h9) rfl (by decide +kernel) rfl rfl (Nat.le_of_ble_eq_true rfl) dX16_functions_2 (fun H locs hP hD hS => ?_)
  have hP : va_P G.1 pz_cl [(a0, .inr (15, [.int 0, .ref a1, .ref a2, .ref a3, .ref a4, .int 0, .null])), (a1, .inr (17, [.int 0, .ref (X 3), .int 0])), (a2, .inr (17, [.int 0, .ref (X 3), .int 0]))] H := hP
  have hD : va_D A [(a0, .inr (15, [.int 0, .ref a1, .ref a2, .ref a3, .ref a4, .int 0, .null])), (a1, .inr (17, [.int 0, .ref (X 3), .int 0])), (a2, .inr (17, [.int 0, .ref (X 3), .int 0]))] := hD
  refine lv_aload_n hx hb dX16_functions_5 rfl (lv_at hl 0 rfl) ?_
  refine pz_go (wr := []) (vx_runV (C := "SourcewrightModel") (As := []) (rest := []) ⟨hx, hb, hml, hown, hts⟩ (cX16_read_1 l hst G X H.size a0 a1 a2 a3 a4) (cwV 0 hts (pz_gV wq_2043 wq_2045 wqs_88 wq_13 wq_2046) rfl rfl rfl (by decide +kernel) ⟨(Nat.le_of_ble_eq_true rfl), (Nat.le_of_ble_eq_true rfl)⟩) (pz_preV (C := ("SourcewrightModel", TX16, 7)) hK hP hD hS hA hE 0 (ci := 15) rfl rfl [0, 1, 2] rfl rfl) rfl rfl hl.1 rfl (lv_room (Nat.le_of_ble_eq_true rfl)) dX16_functions_6 ⟨(Nat.le_of_ble_eq_true rfl), (Nat.le_of_ble_eq_true rfl)⟩) hP hD hS hA [0, 1, 2] [] rfl rfl rfl (by decide) (fun u H locs hP hD hS => ?_)
  obtain ⟨q1, q2, q3, q4, q5, q6, q7, q8, q9, q10, q11, q12, q13, q14⟩ := u
  have hP : va_P G.1 pz_cl [(a0, .inr (15, [.int 0, .ref a1, .ref a2, .ref a3, .ref a4, .int 0, .null])), (a1, .inr (17, [.int 0, .ref (X 3), .int 0])), (a2, .inr (17, [.int 0, .ref (X 3), .int 0])), (q1, .inr (12, [.ref q2, .ref q3, .ref q5, .ref q4])), (q2, .inl (G.2 0, 0, .inl (fun _ => 0))), (q4, .inr (17, [.int 0, .ref (X 3), .int 0])), (q5, .inl (G.2 1, 0, .inl (fun _ => 0))), (q7, .inl (G.2 5, 0, .inr (.inr (.inr (.inr (fun _ => none)))))), (q8, .inl (G.2 1, 0, .inl (fun _ => 0))), (q9, .inl (G.2 1, 0, .inl (fun _ => 0))), (q11, .inr (18, [.int 1, .int 0, .int 2, .ref q3])), (q10, .inr (17, [.int 0, .ref (X 3), .int 0])), (q3, .inr (17, [.int 2, .ref q6, .int 1])), (q6, .inl (G.2 5, 10, .inr (.inr (.inr (.inr (va_up (fun _ => none) 0 (some (X (1000 + 128))))))))), (q12, .inl (G.2 1, 0, .inl (fun _ => 0))), (q14, .inr (18, [.int 1, .int 0, .int 2, .ref q3])), (q13, .inr (17, [.int 0, .ref (X 3), .int 0]))] H := hP
  have hD : va_D A [(a0, .inr (15, [.int 0, .ref a1, .ref a2, .ref a3, .ref a4, .int 0, .null])), (a1, .inr (17, [.int 0, .ref (X 3), .int 0])), (a2, .inr (17, [.int 0, .ref (X 3), .int 0])), (q1, .inr (12, [.ref q2, .ref q3, .ref q5, .ref q4])), (q2, .inl (G.2 0, 0, .inl (fun _ => 0))), (q4, .inr (17, [.int 0, .ref (X 3), .int 0])), (q5, .inl (G.2 1, 0, .inl (fun _ => 0))), (q7, .inl (G.2 5, 0, .inr (.inr (.inr (.inr (fun _ => none)))))), (q8, .inl (G.2 1, 0, .inl (fun _ => 0))), (q9, .inl (G.2 1, 0, .inl (fun _ => 0))), (q11, .inr (18, [.int 1, .int 0, .int 2, .ref q3])), (q10, .inr (17, [.int 0, .ref (X 3), .int 0])), (q3, .inr (17, [.int 2, .ref q6, .int 1])), (q6, .inl (G.2 5, 10, .inr (.inr (.inr (.inr (va_up (fun _ => none) 0 (some (X (1000 + 128))))))))), (q12, .inl (G.2 1, 0, .inl (fun _ => 0))), (q14, .inr (18, [.int 1, .int 0, .int 2, .ref q3])), (q13, .inr (17, [.int 0, .ref (X 3), .int 0]))] := hD
  refine W.eq (g2 := F0 m 9 ls [.ref q1]) rfl ?_
  refine va_getN (D := G.1) (ci := 12) (v := .ref q4) (C := "SourcewrightModel$Reading") (T := TX13) (N := 4) hx hb hts inX13 hown hK hP 3 rfl rfl 3 (by decide) (va_Nw.use rfl (hE.2.2.2.2.2.2.2.2.1 _ nx_2346)) (fun _ h9 => h9) rfl dX16_functions_9 ?_
  refine pz_go (wr := [(a0, .inr (15, [.int 0, .ref a1, .ref a2, .ref a3, .ref a4, .int 0, .null])), (a1, .inr (17, [.int 0, .ref (X 3), .int 0])), (a2, .inr (17, [.int 0, .ref (X 3), .int 0])), (q1, .inr (12, [.ref q2, .ref q3, .ref q5, .ref q4])), (q2, .inl (G.2 0, 0, .inl (fun _ => 0))), (q5, .inl (G.2 1, 0, .inl (fun _ => 0))), (q7, .inl (G.2 5, 0, .inr (.inr (.inr (.inr (fun _ => none)))))), (q8, .inl (G.2 1, 0, .inl (fun _ => 0))), (q9, .inl (G.2 1, 0, .inl (fun _ => 0))), (q11, .inr (18, [.int 1, .int 0, .int 2, .ref q3])), (q10, .inr (17, [.int 0, .ref (X 3), .int 0])), (q3, .inr (17, [.int 2, .ref q6, .int 1])), (q6, .inl (G.2 5, 10, .inr (.inr (.inr (.inr (va_up (fun _ => none) 0 (some (X (1000 + 128))))))))), (q12, .inl (G.2 1, 0, .inl (fun _ => 0))), (q14, .inr (18, [.int 1, .int 0, .int 2, .ref q3])), (q13, .inr (17, [.int 0, .ref (X 3), .int 0]))]) (vx_runV (C := "java/util/ArrayList") (As := []) (rest := []) ⟨hx, hb, hml, hown, hts⟩ (cJx4a65c_size_8abf5_1 l hst G X H.size q4) (cwV 0 hts (pz_gV wq_1846 wq_1847 wq_1848 wq_16 wq_1849) rfl rfl rfl (by decide +kernel) ⟨(Nat.le_of_ble_eq_true rfl), (Nat.le_of_ble_eq_true rfl)⟩) (pz_preV (C := ("java/util/ArrayList", TJx4a65c, 3)) hK hP hD hS hA hE 5 (ci := 17) rfl rfl [5] rfl rfl) rfl rfl hl.1 rfl (lv_room (Nat.le_of_ble_eq_true rfl)) dX16_functions_12 ⟨(Nat.le_of_ble_eq_true rfl), (Nat.le_of_ble_eq_true rfl)⟩) hP hD hS hA [5] [0, 1, 2, 3, 4, 6, 7, 8, 9, 10, 11, 12, 13, 14, 15, 16] rfl rfl rfl (by decide) (fun u H locs hP hD hS => ?_)
  have hP : va_P G.1 pz_cl [(a0, .inr (15, [.int 0, .ref a1, .ref a2, .ref a3, .ref a4, .int 0, .null])), (a1, .inr (17, [.int 0, .ref (X 3), .int 0])), (a2, .inr (17, [.int 0, .ref (X 3), .int 0])), (q1, .inr (12, [.ref q2, .ref q3, .ref q5, .ref q4])), (q2, .inl (G.2 0, 0, .inl (fun _ => 0))), (q5, .inl (G.2 1, 0, .inl (fun _ => 0))), (q7, .inl (G.2 5, 0, .inr (.inr (.inr (.inr (fun _ => none)))))), (q8, .inl (G.2 1, 0, .inl (fun _ => 0))), (q9, .inl (G.2 1, 0, .inl (fun _ => 0))), (q11, .inr (18, [.int 1, .int 0, .int 2, .ref q3])), (q10, .inr (17, [.int 0, .ref (X 3), .int 0])), (q3, .inr (17, [.int 2, .ref q6, .int 1])), (q6, .inl (G.2 5, 10, .inr (.inr (.inr (.inr (va_up (fun _ => none) 0 (some (X (1000 + 128))))))))), (q12, .inl (G.2 1, 0, .inl (fun _ => 0))), (q14, .inr (18, [.int 1, .int 0, .int 2, .ref q3])), (q13, .inr (17, [.int 0, .ref (X 3), .int 0])), (q4, .inr (17, [.int 0, .ref (X 3), .int 0]))] H := hP
  have hD : va_D A [(a0, .inr (15, [.int 0, .ref a1, .ref a2, .ref a3, .ref a4, .int 0, .null])), (a1, .inr (17, [.int 0, .ref (X 3), .int 0])), (a2, .inr (17, [.int 0, .ref (X 3), .int 0])), (q1, .inr (12, [.ref q2, .ref q3, .ref q5, .ref q4])), (q2, .inl (G.2 0, 0, .inl (fun _ => 0))), (q5, .inl (G.2 1, 0, .inl (fun _ => 0))), (q7, .inl (G.2 5, 0, .inr (.inr (.inr (.inr (fun _ => none)))))), (q8, .inl (G.2 1, 0, .inl (fun _ => 0))), (q9, .inl (G.2 1, 0, .inl (fun _ => 0))), (q11, .inr (18, [.int 1, .int 0, .int 2, .ref q3])), (q10, .inr (17, [.int 0, .ref (X 3), .int 0])), (q3, .inr (17, [.int 2, .ref q6, .int 1])), (q6, .inl (G.2 5, 10, .inr (.inr (.inr (.inr (va_up (fun _ => none) 0 (some (X (1000 + 128))))))))), (q12, .inl (G.2 1, 0, .inl (fun _ => 0))), (q14, .inr (18, [.int 1, .int 0, .int 2, .ref q3])), (q13, .inr (17, [.int 0, .ref (X 3), .int 0])), (q4, .inr (17, [.int 0, .ref (X 3), .int 0]))] := hD
  refine W.eq (g2 := F0 m 15 ls [.int 0]) rfl ?_
  exact pz_rz hx hb hr hlocks (by decide +kernel) hS (Nat.le_of_ble_eq_true rfl) (Nat.le_of_ble_eq_true rfl) dX16_functions_15 (q1, q2, q3, q4, q5, q6, q7, q8, q9, q10, q11, q12, q13, q14) rfl (hP.sub [0, 1, 2, 3, 4, 5, 6, 7, 8, 9, 10, 11, 12, 13, 14, 15, 16] rfl) (hD.sub [0, 1, 2, 3, 4, 5, 6, 7, 8, 9, 10, 11, 12, 13, 14, 15, 16] rfl rfl)
set_option maxHeartbeats 4000000 in
set_option maxRecDepth 100000 in
theorem cX5_isFunction_1 (l : Launch) (hst : l.stackTraces = false) (G : pz_G) (X : Nat → Nat) (sz : Nat) (a0 : Nat) (x0 : Int32) (a1 : Nat) (a2 : Nat) (a3 : Nat) (a4 : Nat) (a5 : Nat) (a6 : Nat) (a7 : Nat) : pz_MR (S := Unit) l yX5_isFunction (pz_cd yX5_isFunction cX5_isFunction 2 (some .boolean)) 0 0 0 0 G X sz [(a0, .inr (5, [.ref a1, .ref a2, .ref a3, .ref a4, .ref a5, .ref a6, .ref a7, .int 0, .int 0, .int 0]))] [.ref a0, .int x0] (fun u => some (.int 0)) (fun u => [(a0, .inr (5, [.ref a1, .ref a2, .ref a3, .ref a4, .ref a5, .ref a6, .ref a7, .int 0, .int 0, .int 0]))]) := by
  refine pz_onR (by decide +kernel) (Nat.le_of_ble_eq_true rfl) ?_
  intro p e s m below meth c A hx hb hr hml hown hts hlocks hin hx0 hP hK hD hS hA hE ls hl
  have hown : s.vm.findClass "Sourcewright$Reading" = some m.cls := hown
  have hl : lv_has ls 2 [(0, .ref a0), (1, .int x0)] := hl
  have hlo_x0 : (-2147483648 : Int) ≤ x0.toInt := by have h9 := Int32.le_toInt x0; omega
  have hhi_x0 : x0.toInt ≤ (2147483647 : Int) := by have h9 := Int32.toInt_lt x0; omega
  refine lv_iload_n hx hb dX5_isFunction_0 rfl (lv_at hl 1 rfl) ?_
  refine lv_if_lt (tgt := 16) hx hb dX5_isFunction_1 (by decide) (fun hc => ?_) (fun hc => ?_)
  · have hf1 : (x0).toInt < 0 := pz_lt hc
    refine lv_iconst (v := 0) hx hb dX5_isFunction_16 (by decide) ?_
    exact pz_rz hx hb hr hlocks (by decide +kernel) hS (Nat.le_of_ble_eq_true rfl) (Nat.le_of_ble_eq_true rfl) dX5_isFunction_17 () rfl (hP.sub [0] rfl) (hD.sub [0] rfl rfl)
  · have hf1 : 0 ≤ (x0).toInt := pz_nlt hc
    refine lv_iload_n hx hb dX5_isFunction_4 rfl (lv_at hl 1 rfl) ?_
    refine lv_aload_n hx hb dX5_isFunction_5 rfl (lv_at hl 0 rfl) ?_
    refine va_get (D := G.1) (ci := 5) (v := .int 0) (C := "Sourcewright$Reading") (T := TX5) (N := 10) hx hb hts inX5 hown hK hP 0 rfl rfl 9 (by decide) (hts _ wq_102) (fun _ h9 => h9) rfl dX5_isFunction_6 ?_
    refine lv_icmp_ge (tgt := 16) hx hb dX5_isFunction_9 (by decide) (fun _ => ?_) (fun hc => by have h9 : (x0).toInt < 0 := pz_nle hc; omega)
    refine lv_iconst (v := 0) hx hb dX5_isFunction_16 (by decide) ?_
    exact pz_rz hx hb hr hlocks (by decide +kernel) hS (Nat.le_of_ble_eq_true rfl) (Nat.le_of_ble_eq_true rfl) dX5_isFunction_17 () rfl (hP.sub [0] rfl) (hD.sub [0] rfl rfl)
set_option maxHeartbeats 4000000 in
set_option maxRecDepth 100000 in
theorem cX11_checkFunction_1 (l : Launch) (hst : l.stackTraces = false) (G : pz_G) (X : Nat → Nat) (sz : Nat) (a0 : Nat) (x0 : Int32) (a1 : Nat) (a2 : Nat) (a3 : Nat) (a4 : Nat) (a5 : Nat) (a6 : Nat) (a7 : Nat) (a8 : Nat) (a9 : Nat) (a10 : Nat) (a11 : Nat) (a12 : Nat) (a13 : Nat) (a14 : Nat) (a15 : Nat) (a16 : Nat) (a17 : Nat) (a18 : Nat) (a19 : Nat) (a20 : Nat) (a21 : Nat) (a22 : Nat) (a23 : Nat) (a24 : Nat) (f0 : Nat → Int64) (f1 : Nat → Int64) (f2 : Nat → Int32) : pz_MT l yX11_checkFunction (pz_cd yX11_checkFunction cX11_checkFunction 2 none) 6 87 1 6 G X sz [(a0, .inr (11, [.ref a1, .ref a8, .int 0, .ref a9, .int 0, .int 0, .ref a2, .ref a10, .ref a11, .ref a6, .ref a12, .ref a13, .ref a14, .ref a15, .ref a16, .ref a17, .int 0, .int (-1), .int (-1), .int 0])), (a1, .inr (2, [.ref a18, .ref a19, .int 0])), (a2, .inr (5, [.ref a1, .ref a3, .ref a20, .ref a21, .ref a22, .ref a23, .ref a24, .int 0, .int 0, .int 0])), (a3, .inr (7, [.ref a4, .ref a5])), (a4, .inl (G.2 2, 121, .inr (.inl (f0)))), (a5, .inl (G.2 2, 121, .inr (.inl (f1)))), (a6, .inr (3, [.ref a1, .ref a2, .ref a7])), (a7, .inl (G.2 0, 120, .inl (f2)))] [.ref a0, .int x0] "java/lang/IndexOutOfBoundsException" := by
  refine pz_onT (by decide +kernel) (Nat.le_of_ble_eq_true rfl) ?_
  intro p e s m below meth c A hx hb hr hml hown hts hlocks hin hx0 hP hK hD hS hA hE ls hl
  have hown : s.vm.findClass "Sourcewright" = some m.cls := hown
  have hl : lv_has ls 2 [(0, .ref a0), (1, .int x0)] := hl
  have hlo_x0 : (-2147483648 : Int) ≤ x0.toInt := by have h9 := Int32.le_toInt x0; omega
  have hhi_x0 : x0.toInt ≤ (2147483647 : Int) := by have h9 := Int32.toInt_lt x0; omega
  refine lv_aload_n hx hb dX11_checkFunction_0 rfl (lv_at hl 0 rfl) ?_
  refine pz_go (wr := []) (vx_runV (C := "Sourcewright") (As := []) (rest := []) ⟨hx, hb, hml, hown, hts⟩ (cX11_read_1 l hst G X s.heap.size a0 a1 a2 a3 a4 a5 a6 a7 a8 a9 a10 a11 a12 a13 a14 a15 a16 a17 a18 a19 a20 a21 a22 a23 a24 f0 f1 f2) (cwV 0 hts (pz_gV wq_527 wq_529 wqs_1 wq_1 wq_530) rfl rfl rfl (by decide +kernel) ⟨(Nat.le_of_ble_eq_true rfl), (Nat.le_of_ble_eq_true rfl)⟩) (pz_preV (C := ("Sourcewright", TX11, 20)) hK hP hD hS hA hE 0 (ci := 11) rfl rfl [0, 1, 2, 3, 4, 5, 6, 7] rfl rfl) rfl rfl hl.1 rfl (lv_room (Nat.le_of_ble_eq_true rfl)) dX11_checkFunction_1 ⟨(Nat.le_of_ble_eq_true rfl), (Nat.le_of_ble_eq_true rfl)⟩) hP hD hS hA [0, 1, 2, 3, 4, 5, 6, 7] [] rfl rfl rfl (by decide) (fun u H locs hP hD hS => ?_)
  have hP : va_P G.1 pz_cl [(a0, .inr (11, [.ref a1, .ref a8, .int 0, .ref a9, .int 0, .int 0, .ref a2, .ref a10, .ref a11, .ref a6, .ref a12, .ref a13, .ref a14, .ref a15, .ref a16, .ref a17, .int 1, .int (-1), .int (-1), .int 0])), (a1, .inr (2, [.ref a18, .ref a19, .int 0])), (a2, .inr (5, [.ref a1, .ref a3, .ref a20, .ref a21, .ref a22, .ref a23, .ref a24, .int 0, .int 0, .int 0])), (a3, .inr (7, [.ref a4, .ref a5])), (a4, .inl (G.2 2, 121, .inr (.inl (vp_updL (f0) 120 0)))), (a5, .inl (G.2 2, 121, .inr (.inl (vp_updL (f1) 120 0)))), (a6, .inr (3, [.ref a1, .ref a2, .ref a7])), (a7, .inl (G.2 0, 120, .inl (f2)))] H := hP
  have hD : va_D A [(a0, .inr (11, [.ref a1, .ref a8, .int 0, .ref a9, .int 0, .int 0, .ref a2, .ref a10, .ref a11, .ref a6, .ref a12, .ref a13, .ref a14, .ref a15, .ref a16, .ref a17, .int 1, .int (-1), .int (-1), .int 0])), (a1, .inr (2, [.ref a18, .ref a19, .int 0])), (a2, .inr (5, [.ref a1, .ref a3, .ref a20, .ref a21, .ref a22, .ref a23, .ref a24, .int 0, .int 0, .int 0])), (a3, .inr (7, [.ref a4, .ref a5])), (a4, .inl (G.2 2, 121, .inr (.inl (vp_updL (f0) 120 0)))), (a5, .inl (G.2 2, 121, .inr (.inl (vp_updL (f1) 120 0)))), (a6, .inr (3, [.ref a1, .ref a2, .ref a7])), (a7, .inl (G.2 0, 120, .inl (f2)))] := hD
  refine W.eq (g2 := F0 m 4 ls []) rfl ?_
  refine lv_aload_n hx hb dX11_checkFunction_4 rfl (lv_at hl 0 rfl) ?_
  refine va_get (D := G.1) (ci := 11) (v := .ref a2) (C := "Sourcewright") (T := TX11) (N := 20) hx hb hts inX11 hown hK hP 0 rfl rfl 6 (by decide) (hts _ wq_449) (fun _ h9 => h9) rfl dX11_checkFunction_5 ?_
  refine lv_iload_n hx hb dX11_checkFunction_8 rfl (lv_at hl 1 rfl) ?_
  refine pz_go (wr := [(a0, .inr (11, [.ref a1, .ref a8, .int 0, .ref a9, .int 0, .int 0, .ref a2, .ref a10, .ref a11, .ref a6, .ref a12, .ref a13, .ref a14, .ref a15, .ref a16, .ref a17, .int 1, .int (-1), .int (-1), .int 0])), (a1, .inr (2, [.ref a18, .ref a19, .int 0])), (a3, .inr (7, [.ref a4, .ref a5])), (a4, .inl (G.2 2, 121, .inr (.inl (vp_updL (f0) 120 0)))), (a5, .inl (G.2 2, 121, .inr (.inl (vp_updL (f1) 120 0)))), (a6, .inr (3, [.ref a1, .ref a2, .ref a7])), (a7, .inl (G.2 0, 120, .inl (f2)))]) (vx_runV (C := "Sourcewright$Reading") (As := [.int x0]) (rest := []) ⟨hx, hb, hml, hown, hts⟩ (cX5_isFunction_1 l hst G X H.size a2 x0 a1 a3 a20 a21 a22 a23 a24) (cwV 1 hts (pz_gV wq_1472 wq_1473 wq_1474 wq_3 wq_1475) rfl rfl rfl (by decide +kernel) ⟨(Nat.le_of_ble_eq_true rfl), (Nat.le_of_ble_eq_true rfl)⟩) (pz_preV (C := ("Sourcewright$Reading", TX5, 10)) hK hP hD hS hA hE 2 (ci := 5) rfl rfl [2] rfl rfl) rfl rfl hl.1 rfl (lv_room (Nat.le_of_ble_eq_true rfl)) dX11_checkFunction_9 ⟨(Nat.le_of_ble_eq_true rfl), (Nat.le_of_ble_eq_true rfl)⟩) hP hD hS hA [2] [0, 1, 3, 4, 5, 6, 7] rfl rfl rfl (by decide) (fun u H locs hP hD hS => ?_)
  have hP : va_P G.1 pz_cl [(a0, .inr (11, [.ref a1, .ref a8, .int 0, .ref a9, .int 0, .int 0, .ref a2, .ref a10, .ref a11, .ref a6, .ref a12, .ref a13, .ref a14, .ref a15, .ref a16, .ref a17, .int 1, .int (-1), .int (-1), .int 0])), (a1, .inr (2, [.ref a18, .ref a19, .int 0])), (a3, .inr (7, [.ref a4, .ref a5])), (a4, .inl (G.2 2, 121, .inr (.inl (vp_updL (f0) 120 0)))), (a5, .inl (G.2 2, 121, .inr (.inl (vp_updL (f1) 120 0)))), (a6, .inr (3, [.ref a1, .ref a2, .ref a7])), (a7, .inl (G.2 0, 120, .inl (f2))), (a2, .inr (5, [.ref a1, .ref a3, .ref a20, .ref a21, .ref a22, .ref a23, .ref a24, .int 0, .int 0, .int 0]))] H := hP
  have hD : va_D A [(a0, .inr (11, [.ref a1, .ref a8, .int 0, .ref a9, .int 0, .int 0, .ref a2, .ref a10, .ref a11, .ref a6, .ref a12, .ref a13, .ref a14, .ref a15, .ref a16, .ref a17, .int 1, .int (-1), .int (-1), .int 0])), (a1, .inr (2, [.ref a18, .ref a19, .int 0])), (a3, .inr (7, [.ref a4, .ref a5])), (a4, .inl (G.2 2, 121, .inr (.inl (vp_updL (f0) 120 0)))), (a5, .inl (G.2 2, 121, .inr (.inl (vp_updL (f1) 120 0)))), (a6, .inr (3, [.ref a1, .ref a2, .ref a7])), (a7, .inl (G.2 0, 120, .inl (f2))), (a2, .inr (5, [.ref a1, .ref a3, .ref a20, .ref a21, .ref a22, .ref a23, .ref a24, .int 0, .int 0, .int 0]))] := hD
  refine W.eq (g2 := F0 m 12 ls [.int 0]) rfl ?_
  refine lv_if_ne (tgt := 26) hx hb dX11_checkFunction_12 (by decide) (fun hc => absurd hc (by decide)) (fun _ => ?_)
  obtain ⟨sa, hsa⟩ := hE.2.2.2.2.2.2.2.1 _ (str_Sourcewright_336)
  exact vx_throwSW (names := ["java/lang/RuntimeException", "java/lang/Exception"]) hx hb hst hown (by decide +kernel) (by decide +kernel) (hts _ wq_1388) (hts _ wq_29) hsa (pz_hat hts hE.2.2.2.2.2.2.2.2.1 pz_at_Sourcewright_332) pz_hg_Sourcewright_332 hE.2.2.2.2.2.1.1 hE.2.2.2.2.2.1.2 hS (hl.1.trans hml.symm) dX11_checkFunction_15 dX11_checkFunction_18 dX11_checkFunction_19 dX11_checkFunction_22 dX11_checkFunction_25 (fun x h => (hx0 x h).elim) (Nat.le_of_ble_eq_true rfl) (Nat.le_of_ble_eq_true rfl) (Nat.le_of_ble_eq_true rfl) (Nat.le_of_ble_eq_true rfl) hlocks (fun t hvm hsz hkp => ⟨rfl, pz_thrF hS hsz hkp⟩) hS.2.2 (Nat.le_of_ble_eq_true rfl) (Nat.le_of_ble_eq_true rfl)
set_option maxHeartbeats 4000000 in
set_option maxRecDepth 100000 in
theorem cX11_entryOf_1 (l : Launch) (hst : l.stackTraces = false) (G : pz_G) (X : Nat → Nat) (sz : Nat) (a0 : Nat) (x0 : Int32) (a1 : Nat) (a2 : Nat) (a3 : Nat) (a4 : Nat) (a5 : Nat) (a6 : Nat) (a7 : Nat) (a8 : Nat) (a9 : Nat) (a10 : Nat) (a11 : Nat) (a12 : Nat) (a13 : Nat) (a14 : Nat) (a15 : Nat) (a16 : Nat) (a17 : Nat) (a18 : Nat) (a19 : Nat) (a20 : Nat) (a21 : Nat) (a22 : Nat) (a23 : Nat) (a24 : Nat) (f0 : Nat → Int64) (f1 : Nat → Int64) (f2 : Nat → Int32) : pz_MT l yX11_entryOf (pz_cd yX11_entryOf cX11_entryOf 2 (some .int)) 7 108 1 6 G X sz [(a0, .inr (11, [.ref a1, .ref a8, .int 0, .ref a9, .int 0, .int 0, .ref a2, .ref a10, .ref a11, .ref a6, .ref a12, .ref a13, .ref a14, .ref a15, .ref a16, .ref a17, .int 0, .int (-1), .int (-1), .int 0])), (a1, .inr (2, [.ref a18, .ref a19, .int 0])), (a2, .inr (5, [.ref a1, .ref a3, .ref a20, .ref a21, .ref a22, .ref a23, .ref a24, .int 0, .int 0, .int 0])), (a3, .inr (7, [.ref a4, .ref a5])), (a4, .inl (G.2 2, 121, .inr (.inl (f0)))), (a5, .inl (G.2 2, 121, .inr (.inl (f1)))), (a6, .inr (3, [.ref a1, .ref a2, .ref a7])), (a7, .inl (G.2 0, 120, .inl (f2)))] [.ref a0, .int x0] "java/lang/IndexOutOfBoundsException" := by
  refine pz_onT (by decide +kernel) (Nat.le_of_ble_eq_true rfl) ?_
  intro p e s m below meth c A hx hb hr hml hown hts hlocks hin hx0 hP hK hD hS hA hE ls hl
  have hown : s.vm.findClass "Sourcewright" = some m.cls := hown
  have hl : lv_has ls 2 [(0, .ref a0), (1, .int x0)] := hl
  have hlo_x0 : (-2147483648 : Int) ≤ x0.toInt := by have h9 := Int32.le_toInt x0; omega
  have hhi_x0 : x0.toInt ≤ (2147483647 : Int) := by have h9 := Int32.toInt_lt x0; omega
  refine lv_aload_n hx hb dX11_entryOf_0 rfl (lv_at hl 0 rfl) ?_
  refine lv_iload_n hx hb dX11_entryOf_1 rfl (lv_at hl 1 rfl) ?_
  refine pz_goT (wr := []) (vx_runV (C := "Sourcewright") (As := [.int x0]) (rest := []) ⟨hx, hb, hml, hown, hts⟩ (cX11_checkFunction_1 l hst G X s.heap.size a0 x0 a1 a2 a3 a4 a5 a6 a7 a8 a9 a10 a11 a12 a13 a14 a15 a16 a17 a18 a19 a20 a21 a22 a23 a24 f0 f1 f2) (cwV 1 hts (pz_gV wq_1468 wq_1470 wqs_77 wq_1 wq_1471) rfl rfl rfl (by decide +kernel) ⟨(Nat.le_of_ble_eq_true rfl), (Nat.le_of_ble_eq_true rfl)⟩) (pz_preV (C := ("Sourcewright", TX11, 20)) hK hP hD hS hA hE 0 (ci := 11) rfl rfl [0, 1, 2, 3, 4, 5, 6, 7] rfl rfl) rfl rfl hl.1 rfl (lv_room (Nat.le_of_ble_eq_true rfl)) dX11_entryOf_2 ⟨(Nat.le_of_ble_eq_true rfl), (Nat.le_of_ble_eq_true rfl)⟩) hP hD hS hA [0, 1, 2, 3, 4, 5, 6, 7] [] rfl rfl rfl (by decide) (fun ce q9 H locs hP hD hS hce hcv hcl => ?_)
  exact pz_out hx0 hlocks hce hcv hcl hS (Nat.le_of_ble_eq_true rfl) (Nat.le_of_ble_eq_true rfl)
set_option maxHeartbeats 4000000 in
set_option maxRecDepth 100000 in
theorem cL_entryOf_1 (l : Launch) (hst : l.stackTraces = false) (G : pz_G) (X : Nat → Nat) (sz : Nat) (a0 : Nat) (x0 : Int32) (a1 : Nat) (a2 : Nat) (a3 : Nat) (a4 : Nat) (a5 : Nat) (a6 : Nat) (a7 : Nat) (a8 : Nat) (a9 : Nat) (a10 : Nat) (a11 : Nat) (a12 : Nat) (a13 : Nat) (a14 : Nat) (a15 : Nat) (a16 : Nat) (a17 : Nat) (a18 : Nat) (a19 : Nat) (a20 : Nat) (a21 : Nat) (a22 : Nat) (a23 : Nat) (a24 : Nat) (a25 : Nat) (f0 : Nat → Int64) (f1 : Nat → Int64) (f2 : Nat → Int32) : pz_MR (S := Unit) l yL_entryOf (pz_cw yL_entryOf cL_entryOf 4 (some .int) [(0, 9, 12, 21)]) 8 129 1 6 G X sz [(a0, .inr (11, [.ref a2, .ref a9, .int 0, .ref a10, .int 0, .int 0, .ref a3, .ref a11, .ref a12, .ref a7, .ref a13, .ref a14, .ref a15, .ref a16, .ref a17, .ref a18, .int 0, .int (-1), .int (-1), .int 0])), (a2, .inr (2, [.ref a19, .ref a20, .int 0])), (a3, .inr (5, [.ref a2, .ref a4, .ref a21, .ref a22, .ref a23, .ref a24, .ref a25, .int 0, .int 0, .int 0])), (a4, .inr (7, [.ref a5, .ref a6])), (a5, .inl (G.2 2, 121, .inr (.inl (f0)))), (a6, .inl (G.2 2, 121, .inr (.inl (f1)))), (a7, .inr (3, [.ref a2, .ref a3, .ref a8])), (a8, .inl (G.2 0, 120, .inl (f2)))] [.ref a0, .int x0, .ref a1] (fun u => some (.int 1)) (fun u => []) := by
  refine pz_onHR (by decide +kernel) (Nat.le_of_ble_eq_true rfl) ?_
  intro p e s m below meth c A hx hb hr hml hown hts hlocks hin hx0 hP hK hD hS hA hE ls hl
  have hown : s.vm.findClass "SourcewrightLaw" = some m.cls := hown
  have hl : lv_has ls 4 [(0, .ref a0), (1, .int x0), (2, .ref a1)] := hl
  have hlo_x0 : (-2147483648 : Int) ≤ x0.toInt := by have h9 := Int32.le_toInt x0; omega
  have hhi_x0 : x0.toInt ≤ (2147483647 : Int) := by have h9 := Int32.toInt_lt x0; omega
  refine lv_aload_n hx hb dL_entryOf_0 rfl (lv_at hl 2 rfl) ?_
  refine lv_iconst (v := 0) hx hb dL_entryOf_1 (by decide) ?_
  refine lv_aload_n hx hb dL_entryOf_2 rfl (lv_at hl 0 rfl) ?_
  refine lv_iload_n hx hb dL_entryOf_3 rfl (lv_at hl 1 rfl) ?_
  refine pz_goT (wr := []) (vx_runV (C := "Sourcewright") (As := [.int x0]) (rest := [.int 0, .ref a1]) ⟨hx, hb, hml, hown, hts⟩ (cX11_entryOf_1 l hst G X s.heap.size a0 x0 a2 a3 a4 a5 a6 a7 a8 a9 a10 a11 a12 a13 a14 a15 a16 a17 a18 a19 a20 a21 a22 a23 a24 a25 f0 f1 f2) (cwV 1 hts (pz_gV wq_1464 wq_1465 wq_1466 wq_1 wq_1467) rfl rfl rfl (by decide +kernel) ⟨(Nat.le_of_ble_eq_true rfl), (Nat.le_of_ble_eq_true rfl)⟩) (pz_preV (C := ("Sourcewright", TX11, 20)) hK hP hD hS hA hE 0 (ci := 11) rfl rfl [0, 1, 2, 3, 4, 5, 6, 7] rfl rfl) rfl rfl hl.1 rfl (lv_room (Nat.le_of_ble_eq_true rfl)) dL_entryOf_4 ⟨(Nat.le_of_ble_eq_true rfl), (Nat.le_of_ble_eq_true rfl)⟩) hP hD hS hA [0, 1, 2, 3, 4, 5, 6, 7] [] rfl rfl rfl (by decide) (fun ce q9 H locs hP hD hS hce hcv hcl => ?_)
  refine vx_catch hown [] ⟨0, 9, 12, 21⟩ [] hx0 (fun z hz => by cases hz) rfl (by decide) (hts _ wq_1356) (va_Nw.use rfl (hE.2.2.2.2.2.2.2.2.1 _ nx_1390)) hce hcv hcl ?_
  have hP : va_P G.1 pz_cl [] H := hP
  have hD : va_D A [] := hD
  refine W.eq (g2 := F0 m 12 ls [.ref q9]) rfl ?_
  refine lv_astore_n (lv' := [(3, .ref q9), (0, .ref a0), (1, .int x0), (2, .ref a1)]) hx hb dL_entryOf_12 rfl hl (by decide) rfl (fun ls hl => ?_)
  refine lv_iconst (v := 1) hx hb dL_entryOf_13 (by decide) ?_
  exact pz_rz hx hb hr hlocks (by decide +kernel) hS (Nat.le_of_ble_eq_true rfl) (Nat.le_of_ble_eq_true rfl) dL_entryOf_14 () rfl (hP.sub [] rfl) (hD.sub [] rfl rfl)
set_option maxHeartbeats 4000000 in
set_option maxRecDepth 100000 in
theorem cX16_function_1 (l : Launch) (hst : l.stackTraces = false) (G : pz_G) (X : Nat → Nat) (sz : Nat) (a0 : Nat) (x0 : Int32) (a1 : Nat) (a2 : Nat) (a3 : Nat) (a4 : Nat) : pz_MR (S := Nat × Nat × Nat × Nat × Nat × Nat × Nat × Nat × Nat × Nat × Nat × Nat × Nat × Nat) l yX16_function (pz_cd yX16_function cX16_function 3 (some (.object "SourcewrightModel$Function"))) 7 175 14 34 G X sz [(a0, .inr (15, [.int 0, .ref a1, .ref a2, .ref a3, .ref a4, .int 0, .null])), (a1, .inr (17, [.int 0, .ref (X 3), .int 0])), (a2, .inr (17, [.int 0, .ref (X 3), .int 0]))] [.ref a0, .int x0] (fun u => some (.null)) (fun u => [(a0, .inr (15, [.int 1, .ref a1, .ref a2, .ref a3, .ref a4, .int 0, .null])), (a1, .inr (17, [.int 0, .ref (X 3), .int 0])), (a2, .inr (17, [.int 0, .ref (X 3), .int 0])), (u.1, .inr (12, [.ref u.2.1, .ref u.2.2.1, .ref u.2.2.2.2.1, .ref u.2.2.2.1])), (u.2.1, .inl (G.2 0, 0, .inl (fun _ => 0))), (u.2.2.2.2.1, .inl (G.2 1, 0, .inl (fun _ => 0))), (u.2.2.2.2.2.2.1, .inl (G.2 5, 0, .inr (.inr (.inr (.inr (fun _ => none)))))), (u.2.2.2.2.2.2.2.1, .inl (G.2 1, 0, .inl (fun _ => 0))), (u.2.2.2.2.2.2.2.2.1, .inl (G.2 1, 0, .inl (fun _ => 0))), (u.2.2.2.2.2.2.2.2.2.2.1, .inr (18, [.int 1, .int 0, .int 2, .ref u.2.2.1])), (u.2.2.2.2.2.2.2.2.2.1, .inr (17, [.int 0, .ref (X 3), .int 0])), (u.2.2.1, .inr (17, [.int 2, .ref u.2.2.2.2.2.1, .int 1])), (u.2.2.2.2.2.1, .inl (G.2 5, 10, .inr (.inr (.inr (.inr (va_up (fun _ => none) 0 (some (X (1000 + 128))))))))), (u.2.2.2.2.2.2.2.2.2.2.2.1, .inl (G.2 1, 0, .inl (fun _ => 0))), (u.2.2.2.2.2.2.2.2.2.2.2.2.2, .inr (18, [.int 1, .int 0, .int 2, .ref u.2.2.1])), (u.2.2.2.2.2.2.2.2.2.2.2.2.1, .inr (17, [.int 0, .ref (X 3), .int 0])), (u.2.2.2.1, .inr (17, [.int 0, .ref (X 3), .int 0]))]) := by
  refine pz_onR (by decide +kernel) (Nat.le_of_ble_eq_true rfl) ?_
  intro p e s m below meth c A hx hb hr hml hown hts hlocks hin hx0 hP hK hD hS hA hE ls hl
  have hown : s.vm.findClass "SourcewrightModel" = some m.cls := hown
  have hl : lv_has ls 3 [(0, .ref a0), (1, .int x0)] := hl
  have hlo_x0 : (-2147483648 : Int) ≤ x0.toInt := by have h9 := Int32.le_toInt x0; omega
  have hhi_x0 : x0.toInt ≤ (2147483647 : Int) := by have h9 := Int32.toInt_lt x0; omega
  refine lv_aload_n hx hb dX16_function_0 rfl (lv_at hl 0 rfl) ?_
  refine pz_go (wr := []) (vx_runV (C := "SourcewrightModel") (As := []) (rest := []) ⟨hx, hb, hml, hown, hts⟩ (cX16_read_1 l hst G X s.heap.size a0 a1 a2 a3 a4) (cwV 0 hts (pz_gV wq_2043 wq_2045 wqs_88 wq_13 wq_2046) rfl rfl rfl (by decide +kernel) ⟨(Nat.le_of_ble_eq_true rfl), (Nat.le_of_ble_eq_true rfl)⟩) (pz_preV (C := ("SourcewrightModel", TX16, 7)) hK hP hD hS hA hE 0 (ci := 15) rfl rfl [0, 1, 2] rfl rfl) rfl rfl hl.1 rfl (lv_room (Nat.le_of_ble_eq_true rfl)) dX16_function_1 ⟨(Nat.le_of_ble_eq_true rfl), (Nat.le_of_ble_eq_true rfl)⟩) hP hD hS hA [0, 1, 2] [] rfl rfl rfl (by decide) (fun u H locs hP hD hS => ?_)
  obtain ⟨q1, q2, q3, q4, q5, q6, q7, q8, q9, q10, q11, q12, q13, q14⟩ := u
  have hP : va_P G.1 pz_cl [(a0, .inr (15, [.int 0, .ref a1, .ref a2, .ref a3, .ref a4, .int 0, .null])), (a1, .inr (17, [.int 0, .ref (X 3), .int 0])), (a2, .inr (17, [.int 0, .ref (X 3), .int 0])), (q1, .inr (12, [.ref q2, .ref q3, .ref q5, .ref q4])), (q2, .inl (G.2 0, 0, .inl (fun _ => 0))), (q4, .inr (17, [.int 0, .ref (X 3), .int 0])), (q5, .inl (G.2 1, 0, .inl (fun _ => 0))), (q7, .inl (G.2 5, 0, .inr (.inr (.inr (.inr (fun _ => none)))))), (q8, .inl (G.2 1, 0, .inl (fun _ => 0))), (q9, .inl (G.2 1, 0, .inl (fun _ => 0))), (q11, .inr (18, [.int 1, .int 0, .int 2, .ref q3])), (q10, .inr (17, [.int 0, .ref (X 3), .int 0])), (q3, .inr (17, [.int 2, .ref q6, .int 1])), (q6, .inl (G.2 5, 10, .inr (.inr (.inr (.inr (va_up (fun _ => none) 0 (some (X (1000 + 128))))))))), (q12, .inl (G.2 1, 0, .inl (fun _ => 0))), (q14, .inr (18, [.int 1, .int 0, .int 2, .ref q3])), (q13, .inr (17, [.int 0, .ref (X 3), .int 0]))] H := hP
  have hD : va_D A [(a0, .inr (15, [.int 0, .ref a1, .ref a2, .ref a3, .ref a4, .int 0, .null])), (a1, .inr (17, [.int 0, .ref (X 3), .int 0])), (a2, .inr (17, [.int 0, .ref (X 3), .int 0])), (q1, .inr (12, [.ref q2, .ref q3, .ref q5, .ref q4])), (q2, .inl (G.2 0, 0, .inl (fun _ => 0))), (q4, .inr (17, [.int 0, .ref (X 3), .int 0])), (q5, .inl (G.2 1, 0, .inl (fun _ => 0))), (q7, .inl (G.2 5, 0, .inr (.inr (.inr (.inr (fun _ => none)))))), (q8, .inl (G.2 1, 0, .inl (fun _ => 0))), (q9, .inl (G.2 1, 0, .inl (fun _ => 0))), (q11, .inr (18, [.int 1, .int 0, .int 2, .ref q3])), (q10, .inr (17, [.int 0, .ref (X 3), .int 0])), (q3, .inr (17, [.int 2, .ref q6, .int 1])), (q6, .inl (G.2 5, 10, .inr (.inr (.inr (.inr (va_up (fun _ => none) 0 (some (X (1000 + 128))))))))), (q12, .inl (G.2 1, 0, .inl (fun _ => 0))), (q14, .inr (18, [.int 1, .int 0, .int 2, .ref q3])), (q13, .inr (17, [.int 0, .ref (X 3), .int 0]))] := hD
  refine W.eq (g2 := F0 m 4 ls [.ref q1]) rfl ?_
  refine lv_astore_n (lv' := [(2, .ref q1), (0, .ref a0), (1, .int x0)]) hx hb dX16_function_4 rfl hl (by decide) rfl (fun ls hl => ?_)
  refine lv_aload_n hx hb dX16_function_5 rfl (lv_at hl 1 rfl) ?_
  refine lv_iload_n hx hb dX16_function_6 rfl (lv_at hl 2 rfl) ?_
  refine lv_iconst (v := 0) hx hb dX16_function_7 (by decide) ?_
  refine lv_aload_n hx hb dX16_function_8 rfl (lv_at hl 0 rfl) ?_
  refine va_getN (D := G.1) (ci := 12) (v := .ref q4) (C := "SourcewrightModel$Reading") (T := TX13) (N := 4) hx hb hts inX13 hown hK hP 3 rfl rfl 3 (by decide) (va_Nw.use rfl (hE.2.2.2.2.2.2.2.2.1 _ nx_2346)) (fun _ h9 => h9) rfl dX16_function_9 ?_
  refine pz_go (wr := [(a0, .inr (15, [.int 0, .ref a1, .ref a2, .ref a3, .ref a4, .int 0, .null])), (a1, .inr (17, [.int 0, .ref (X 3), .int 0])), (a2, .inr (17, [.int 0, .ref (X 3), .int 0])), (q1, .inr (12, [.ref q2, .ref q3, .ref q5, .ref q4])), (q2, .inl (G.2 0, 0, .inl (fun _ => 0))), (q5, .inl (G.2 1, 0, .inl (fun _ => 0))), (q7, .inl (G.2 5, 0, .inr (.inr (.inr (.inr (fun _ => none)))))), (q8, .inl (G.2 1, 0, .inl (fun _ => 0))), (q9, .inl (G.2 1, 0, .inl (fun _ => 0))), (q11, .inr (18, [.int 1, .int 0, .int 2, .ref q3])), (q10, .inr (17, [.int 0, .ref (X 3), .int 0])), (q3, .inr (17, [.int 2, .ref q6, .int 1])), (q6, .inl (G.2 5, 10, .inr (.inr (.inr (.inr (va_up (fun _ => none) 0 (some (X (1000 + 128))))))))), (q12, .inl (G.2 1, 0, .inl (fun _ => 0))), (q14, .inr (18, [.int 1, .int 0, .int 2, .ref q3])), (q13, .inr (17, [.int 0, .ref (X 3), .int 0]))]) (vx_runV (C := "java/util/ArrayList") (As := []) (rest := [.int 0, .int x0, .ref a0]) ⟨hx, hb, hml, hown, hts⟩ (cJx4a65c_size_8abf5_1 l hst G X H.size q4) (cwV 0 hts (pz_gV wq_1846 wq_1847 wq_1848 wq_16 wq_1849) rfl rfl rfl (by decide +kernel) ⟨(Nat.le_of_ble_eq_true rfl), (Nat.le_of_ble_eq_true rfl)⟩) (pz_preV (C := ("java/util/ArrayList", TJx4a65c, 3)) hK hP hD hS hA hE 5 (ci := 17) rfl rfl [5] rfl rfl) rfl rfl hl.1 rfl (lv_room (Nat.le_of_ble_eq_true rfl)) dX16_function_12 ⟨(Nat.le_of_ble_eq_true rfl), (Nat.le_of_ble_eq_true rfl)⟩) hP hD hS hA [5] [0, 1, 2, 3, 4, 6, 7, 8, 9, 10, 11, 12, 13, 14, 15, 16] rfl rfl rfl (by decide) (fun u H locs hP hD hS => ?_)
  have hP : va_P G.1 pz_cl [(a0, .inr (15, [.int 0, .ref a1, .ref a2, .ref a3, .ref a4, .int 0, .null])), (a1, .inr (17, [.int 0, .ref (X 3), .int 0])), (a2, .inr (17, [.int 0, .ref (X 3), .int 0])), (q1, .inr (12, [.ref q2, .ref q3, .ref q5, .ref q4])), (q2, .inl (G.2 0, 0, .inl (fun _ => 0))), (q5, .inl (G.2 1, 0, .inl (fun _ => 0))), (q7, .inl (G.2 5, 0, .inr (.inr (.inr (.inr (fun _ => none)))))), (q8, .inl (G.2 1, 0, .inl (fun _ => 0))), (q9, .inl (G.2 1, 0, .inl (fun _ => 0))), (q11, .inr (18, [.int 1, .int 0, .int 2, .ref q3])), (q10, .inr (17, [.int 0, .ref (X 3), .int 0])), (q3, .inr (17, [.int 2, .ref q6, .int 1])), (q6, .inl (G.2 5, 10, .inr (.inr (.inr (.inr (va_up (fun _ => none) 0 (some (X (1000 + 128))))))))), (q12, .inl (G.2 1, 0, .inl (fun _ => 0))), (q14, .inr (18, [.int 1, .int 0, .int 2, .ref q3])), (q13, .inr (17, [.int 0, .ref (X 3), .int 0])), (q4, .inr (17, [.int 0, .ref (X 3), .int 0]))] H := hP
  have hD : va_D A [(a0, .inr (15, [.int 0, .ref a1, .ref a2, .ref a3, .ref a4, .int 0, .null])), (a1, .inr (17, [.int 0, .ref (X 3), .int 0])), (a2, .inr (17, [.int 0, .ref (X 3), .int 0])), (q1, .inr (12, [.ref q2, .ref q3, .ref q5, .ref q4])), (q2, .inl (G.2 0, 0, .inl (fun _ => 0))), (q5, .inl (G.2 1, 0, .inl (fun _ => 0))), (q7, .inl (G.2 5, 0, .inr (.inr (.inr (.inr (fun _ => none)))))), (q8, .inl (G.2 1, 0, .inl (fun _ => 0))), (q9, .inl (G.2 1, 0, .inl (fun _ => 0))), (q11, .inr (18, [.int 1, .int 0, .int 2, .ref q3])), (q10, .inr (17, [.int 0, .ref (X 3), .int 0])), (q3, .inr (17, [.int 2, .ref q6, .int 1])), (q6, .inl (G.2 5, 10, .inr (.inr (.inr (.inr (va_up (fun _ => none) 0 (some (X (1000 + 128))))))))), (q12, .inl (G.2 1, 0, .inl (fun _ => 0))), (q14, .inr (18, [.int 1, .int 0, .int 2, .ref q3])), (q13, .inr (17, [.int 0, .ref (X 3), .int 0])), (q4, .inr (17, [.int 0, .ref (X 3), .int 0]))] := hD
  refine W.eq (g2 := F0 m 15 ls [.int 0, .int 0, .int x0, .ref a0]) rfl ?_
  refine lv_iconst (v := 1) hx hb dX16_function_15 (by decide) ?_
  refine lv_isub hx hb dX16_function_16 (pz_K (y := (-1)) (by decide) ?_)
  refine pz_go (wr := [(a0, .inr (15, [.int 0, .ref a1, .ref a2, .ref a3, .ref a4, .int 0, .null])), (a1, .inr (17, [.int 0, .ref (X 3), .int 0])), (a2, .inr (17, [.int 0, .ref (X 3), .int 0])), (q1, .inr (12, [.ref q2, .ref q3, .ref q5, .ref q4])), (q2, .inl (G.2 0, 0, .inl (fun _ => 0))), (q5, .inl (G.2 1, 0, .inl (fun _ => 0))), (q7, .inl (G.2 5, 0, .inr (.inr (.inr (.inr (fun _ => none)))))), (q8, .inl (G.2 1, 0, .inl (fun _ => 0))), (q9, .inl (G.2 1, 0, .inl (fun _ => 0))), (q11, .inr (18, [.int 1, .int 0, .int 2, .ref q3])), (q10, .inr (17, [.int 0, .ref (X 3), .int 0])), (q3, .inr (17, [.int 2, .ref q6, .int 1])), (q6, .inl (G.2 5, 10, .inr (.inr (.inr (.inr (va_up (fun _ => none) 0 (some (X (1000 + 128))))))))), (q12, .inl (G.2 1, 0, .inl (fun _ => 0))), (q14, .inr (18, [.int 1, .int 0, .int 2, .ref q3])), (q13, .inr (17, [.int 0, .ref (X 3), .int 0])), (q4, .inr (17, [.int 0, .ref (X 3), .int 0]))]) (vx_runS (As := [.int x0, .int 0, .int (-1)]) (rest := [.ref a0]) ⟨hx, hb, hml, hown, hts⟩ (cX16_in_5 l hst G X H.size x0) (va_cwS 3 hts (pz_gS wq_1843 wq_1844 wq_13 wq_1845) rfl rfl rfl (by decide +kernel) ⟨(Nat.le_of_ble_eq_true rfl), (Nat.le_of_ble_eq_true rfl)⟩) (pz_preS hK hP hD hS hA hE [] rfl rfl) rfl rfl hl.1 rfl (lv_room (Nat.le_of_ble_eq_true rfl)) dX16_function_17 ⟨(Nat.le_of_ble_eq_true rfl), (Nat.le_of_ble_eq_true rfl)⟩) hP hD hS hA [] [0, 1, 2, 3, 4, 5, 6, 7, 8, 9, 10, 11, 12, 13, 14, 15, 16] rfl rfl rfl (by decide) (fun u H locs hP hD hS => ?_)
  have hP : va_P G.1 pz_cl [(a0, .inr (15, [.int 0, .ref a1, .ref a2, .ref a3, .ref a4, .int 0, .null])), (a1, .inr (17, [.int 0, .ref (X 3), .int 0])), (a2, .inr (17, [.int 0, .ref (X 3), .int 0])), (q1, .inr (12, [.ref q2, .ref q3, .ref q5, .ref q4])), (q2, .inl (G.2 0, 0, .inl (fun _ => 0))), (q5, .inl (G.2 1, 0, .inl (fun _ => 0))), (q7, .inl (G.2 5, 0, .inr (.inr (.inr (.inr (fun _ => none)))))), (q8, .inl (G.2 1, 0, .inl (fun _ => 0))), (q9, .inl (G.2 1, 0, .inl (fun _ => 0))), (q11, .inr (18, [.int 1, .int 0, .int 2, .ref q3])), (q10, .inr (17, [.int 0, .ref (X 3), .int 0])), (q3, .inr (17, [.int 2, .ref q6, .int 1])), (q6, .inl (G.2 5, 10, .inr (.inr (.inr (.inr (va_up (fun _ => none) 0 (some (X (1000 + 128))))))))), (q12, .inl (G.2 1, 0, .inl (fun _ => 0))), (q14, .inr (18, [.int 1, .int 0, .int 2, .ref q3])), (q13, .inr (17, [.int 0, .ref (X 3), .int 0])), (q4, .inr (17, [.int 0, .ref (X 3), .int 0]))] H := hP
  have hD : va_D A [(a0, .inr (15, [.int 0, .ref a1, .ref a2, .ref a3, .ref a4, .int 0, .null])), (a1, .inr (17, [.int 0, .ref (X 3), .int 0])), (a2, .inr (17, [.int 0, .ref (X 3), .int 0])), (q1, .inr (12, [.ref q2, .ref q3, .ref q5, .ref q4])), (q2, .inl (G.2 0, 0, .inl (fun _ => 0))), (q5, .inl (G.2 1, 0, .inl (fun _ => 0))), (q7, .inl (G.2 5, 0, .inr (.inr (.inr (.inr (fun _ => none)))))), (q8, .inl (G.2 1, 0, .inl (fun _ => 0))), (q9, .inl (G.2 1, 0, .inl (fun _ => 0))), (q11, .inr (18, [.int 1, .int 0, .int 2, .ref q3])), (q10, .inr (17, [.int 0, .ref (X 3), .int 0])), (q3, .inr (17, [.int 2, .ref q6, .int 1])), (q6, .inl (G.2 5, 10, .inr (.inr (.inr (.inr (va_up (fun _ => none) 0 (some (X (1000 + 128))))))))), (q12, .inl (G.2 1, 0, .inl (fun _ => 0))), (q14, .inr (18, [.int 1, .int 0, .int 2, .ref q3])), (q13, .inr (17, [.int 0, .ref (X 3), .int 0])), (q4, .inr (17, [.int 0, .ref (X 3), .int 0]))] := hD
  refine W.eq (g2 := F0 m 20 ls [.int 0, .ref a0]) rfl ?_
  refine lv_if_eq (tgt := 27) hx hb dX16_function_20 (by decide) (fun _ => ?_) (fun hc => absurd hc (by decide))
  refine lv_iconst (v := 1) hx hb dX16_function_27 (by decide) ?_
  refine va_put (D := G.1) (ci := 15) (v := .int 1) (ty := tyX16 0) (C := "SourcewrightModel") (T := TX16) (N := 7) hx hb hts inX16 tyX16 tyX16_ok nmX16 hown hK hP hD hS 0 rfl rfl 0 (by decide) (hts _ wq_1813) (fun _ h9 => h9) rfl (by decide +kernel) rfl rfl (Nat.le_of_ble_eq_true rfl) dX16_function_28 (fun H locs hP hD hS => ?_)
  have hP : va_P G.1 pz_cl [(a0, .inr (15, [.int 1, .ref a1, .ref a2, .ref a3, .ref a4, .int 0, .null])), (a1, .inr (17, [.int 0, .ref (X 3), .int 0])), (a2, .inr (17, [.int 0, .ref (X 3), .int 0])), (q1, .inr (12, [.ref q2, .ref q3, .ref q5, .ref q4])), (q2, .inl (G.2 0, 0, .inl (fun _ => 0))), (q5, .inl (G.2 1, 0, .inl (fun _ => 0))), (q7, .inl (G.2 5, 0, .inr (.inr (.inr (.inr (fun _ => none)))))), (q8, .inl (G.2 1, 0, .inl (fun _ => 0))), (q9, .inl (G.2 1, 0, .inl (fun _ => 0))), (q11, .inr (18, [.int 1, .int 0, .int 2, .ref q3])), (q10, .inr (17, [.int 0, .ref (X 3), .int 0])), (q3, .inr (17, [.int 2, .ref q6, .int 1])), (q6, .inl (G.2 5, 10, .inr (.inr (.inr (.inr (va_up (fun _ => none) 0 (some (X (1000 + 128))))))))), (q12, .inl (G.2 1, 0, .inl (fun _ => 0))), (q14, .inr (18, [.int 1, .int 0, .int 2, .ref q3])), (q13, .inr (17, [.int 0, .ref (X 3), .int 0])), (q4, .inr (17, [.int 0, .ref (X 3), .int 0]))] H := hP
  have hD : va_D A [(a0, .inr (15, [.int 1, .ref a1, .ref a2, .ref a3, .ref a4, .int 0, .null])), (a1, .inr (17, [.int 0, .ref (X 3), .int 0])), (a2, .inr (17, [.int 0, .ref (X 3), .int 0])), (q1, .inr (12, [.ref q2, .ref q3, .ref q5, .ref q4])), (q2, .inl (G.2 0, 0, .inl (fun _ => 0))), (q5, .inl (G.2 1, 0, .inl (fun _ => 0))), (q7, .inl (G.2 5, 0, .inr (.inr (.inr (.inr (fun _ => none)))))), (q8, .inl (G.2 1, 0, .inl (fun _ => 0))), (q9, .inl (G.2 1, 0, .inl (fun _ => 0))), (q11, .inr (18, [.int 1, .int 0, .int 2, .ref q3])), (q10, .inr (17, [.int 0, .ref (X 3), .int 0])), (q3, .inr (17, [.int 2, .ref q6, .int 1])), (q6, .inl (G.2 5, 10, .inr (.inr (.inr (.inr (va_up (fun _ => none) 0 (some (X (1000 + 128))))))))), (q12, .inl (G.2 1, 0, .inl (fun _ => 0))), (q14, .inr (18, [.int 1, .int 0, .int 2, .ref q3])), (q13, .inr (17, [.int 0, .ref (X 3), .int 0])), (q4, .inr (17, [.int 0, .ref (X 3), .int 0]))] := hD
  refine lv_aload_n hx hb dX16_function_31 rfl (lv_at hl 1 rfl) ?_
  refine va_get (D := G.1) (ci := 15) (v := .int 1) (C := "SourcewrightModel") (T := TX16) (N := 7) hx hb hts inX16 hown hK hP 0 rfl rfl 0 (by decide) (hts _ wq_1813) (fun _ h9 => h9) rfl dX16_function_32 ?_
  refine lv_if_le (tgt := 42) hx hb dX16_function_35 (by decide) (fun hc => absurd hc (by decide)) (fun _ => ?_)
  refine lv_null hx hb dX16_function_38 ?_
  refine lv_goto (tgt := 53) hx hb dX16_function_39 (by decide) ?_
  exact pz_ra hx hb hr hlocks (Or.inl ⟨_, rfl⟩) (Or.inl rfl) hS (Nat.le_of_ble_eq_true rfl) (Nat.le_of_ble_eq_true rfl) dX16_function_53 (q1, q2, q3, q4, q5, q6, q7, q8, q9, q10, q11, q12, q13, q14) rfl (hP.sub [0, 1, 2, 3, 4, 5, 6, 7, 8, 9, 10, 11, 12, 13, 14, 15, 16] rfl) (hD.sub [0, 1, 2, 3, 4, 5, 6, 7, 8, 9, 10, 11, 12, 13, 14, 15, 16] rfl rfl)
set_option maxHeartbeats 4000000 in
set_option maxRecDepth 100000 in
theorem cX16_entryOf_1 (l : Launch) (hst : l.stackTraces = false) (G : pz_G) (X : Nat → Nat) (sz : Nat) (a0 : Nat) (x0 : Int32) (a1 : Nat) (a2 : Nat) (a3 : Nat) (a4 : Nat) : pz_MR (S := Nat × Nat × Nat × Nat × Nat × Nat × Nat × Nat × Nat × Nat × Nat × Nat × Nat × Nat) l yX16_entryOf (pz_cd yX16_entryOf cX16_entryOf 3 (some .int)) 8 197 14 34 G X sz [(a0, .inr (15, [.int 0, .ref a1, .ref a2, .ref a3, .ref a4, .int 0, .null])), (a1, .inr (17, [.int 0, .ref (X 3), .int 0])), (a2, .inr (17, [.int 0, .ref (X 3), .int 0]))] [.ref a0, .int x0] (fun u => some (.int 0)) (fun u => [(a0, .inr (15, [.int 1, .ref a1, .ref a2, .ref a3, .ref a4, .int 0, .null])), (a1, .inr (17, [.int 0, .ref (X 3), .int 0])), (a2, .inr (17, [.int 0, .ref (X 3), .int 0])), (u.1, .inr (12, [.ref u.2.1, .ref u.2.2.1, .ref u.2.2.2.2.1, .ref u.2.2.2.1])), (u.2.1, .inl (G.2 0, 0, .inl (fun _ => 0))), (u.2.2.2.2.1, .inl (G.2 1, 0, .inl (fun _ => 0))), (u.2.2.2.2.2.2.1, .inl (G.2 5, 0, .inr (.inr (.inr (.inr (fun _ => none)))))), (u.2.2.2.2.2.2.2.1, .inl (G.2 1, 0, .inl (fun _ => 0))), (u.2.2.2.2.2.2.2.2.1, .inl (G.2 1, 0, .inl (fun _ => 0))), (u.2.2.2.2.2.2.2.2.2.2.1, .inr (18, [.int 1, .int 0, .int 2, .ref u.2.2.1])), (u.2.2.2.2.2.2.2.2.2.1, .inr (17, [.int 0, .ref (X 3), .int 0])), (u.2.2.1, .inr (17, [.int 2, .ref u.2.2.2.2.2.1, .int 1])), (u.2.2.2.2.2.1, .inl (G.2 5, 10, .inr (.inr (.inr (.inr (va_up (fun _ => none) 0 (some (X (1000 + 128))))))))), (u.2.2.2.2.2.2.2.2.2.2.2.1, .inl (G.2 1, 0, .inl (fun _ => 0))), (u.2.2.2.2.2.2.2.2.2.2.2.2.2, .inr (18, [.int 1, .int 0, .int 2, .ref u.2.2.1])), (u.2.2.2.2.2.2.2.2.2.2.2.2.1, .inr (17, [.int 0, .ref (X 3), .int 0])), (u.2.2.2.1, .inr (17, [.int 0, .ref (X 3), .int 0]))]) := by
  refine pz_onR (by decide +kernel) (Nat.le_of_ble_eq_true rfl) ?_
  intro p e s m below meth c A hx hb hr hml hown hts hlocks hin hx0 hP hK hD hS hA hE ls hl
  have hown : s.vm.findClass "SourcewrightModel" = some m.cls := hown
  have hl : lv_has ls 3 [(0, .ref a0), (1, .int x0)] := hl
  have hlo_x0 : (-2147483648 : Int) ≤ x0.toInt := by have h9 := Int32.le_toInt x0; omega
  have hhi_x0 : x0.toInt ≤ (2147483647 : Int) := by have h9 := Int32.toInt_lt x0; omega
  refine lv_aload_n hx hb dX16_entryOf_0 rfl (lv_at hl 0 rfl) ?_
  refine lv_iload_n hx hb dX16_entryOf_1 rfl (lv_at hl 1 rfl) ?_
  refine pz_go (wr := []) (vx_runV (C := "SourcewrightModel") (As := [.int x0]) (rest := []) ⟨hx, hb, hml, hown, hts⟩ (cX16_function_1 l hst G X s.heap.size a0 x0 a1 a2 a3 a4) (cwV 1 hts (pz_gV wq_2391 wq_2393 wqs_99 wq_13 wq_2394) rfl rfl rfl (by decide +kernel) ⟨(Nat.le_of_ble_eq_true rfl), (Nat.le_of_ble_eq_true rfl)⟩) (pz_preV (C := ("SourcewrightModel", TX16, 7)) hK hP hD hS hA hE 0 (ci := 15) rfl rfl [0, 1, 2] rfl rfl) rfl rfl hl.1 rfl (lv_room (Nat.le_of_ble_eq_true rfl)) dX16_entryOf_2 ⟨(Nat.le_of_ble_eq_true rfl), (Nat.le_of_ble_eq_true rfl)⟩) hP hD hS hA [0, 1, 2] [] rfl rfl rfl (by decide) (fun u H locs hP hD hS => ?_)
  obtain ⟨q1, q2, q3, q4, q5, q6, q7, q8, q9, q10, q11, q12, q13, q14⟩ := u
  have hP : va_P G.1 pz_cl [(a0, .inr (15, [.int 1, .ref a1, .ref a2, .ref a3, .ref a4, .int 0, .null])), (a1, .inr (17, [.int 0, .ref (X 3), .int 0])), (a2, .inr (17, [.int 0, .ref (X 3), .int 0])), (q1, .inr (12, [.ref q2, .ref q3, .ref q5, .ref q4])), (q2, .inl (G.2 0, 0, .inl (fun _ => 0))), (q5, .inl (G.2 1, 0, .inl (fun _ => 0))), (q7, .inl (G.2 5, 0, .inr (.inr (.inr (.inr (fun _ => none)))))), (q8, .inl (G.2 1, 0, .inl (fun _ => 0))), (q9, .inl (G.2 1, 0, .inl (fun _ => 0))), (q11, .inr (18, [.int 1, .int 0, .int 2, .ref q3])), (q10, .inr (17, [.int 0, .ref (X 3), .int 0])), (q3, .inr (17, [.int 2, .ref q6, .int 1])), (q6, .inl (G.2 5, 10, .inr (.inr (.inr (.inr (va_up (fun _ => none) 0 (some (X (1000 + 128))))))))), (q12, .inl (G.2 1, 0, .inl (fun _ => 0))), (q14, .inr (18, [.int 1, .int 0, .int 2, .ref q3])), (q13, .inr (17, [.int 0, .ref (X 3), .int 0])), (q4, .inr (17, [.int 0, .ref (X 3), .int 0]))] H := hP
  have hD : va_D A [(a0, .inr (15, [.int 1, .ref a1, .ref a2, .ref a3, .ref a4, .int 0, .null])), (a1, .inr (17, [.int 0, .ref (X 3), .int 0])), (a2, .inr (17, [.int 0, .ref (X 3), .int 0])), (q1, .inr (12, [.ref q2, .ref q3, .ref q5, .ref q4])), (q2, .inl (G.2 0, 0, .inl (fun _ => 0))), (q5, .inl (G.2 1, 0, .inl (fun _ => 0))), (q7, .inl (G.2 5, 0, .inr (.inr (.inr (.inr (fun _ => none)))))), (q8, .inl (G.2 1, 0, .inl (fun _ => 0))), (q9, .inl (G.2 1, 0, .inl (fun _ => 0))), (q11, .inr (18, [.int 1, .int 0, .int 2, .ref q3])), (q10, .inr (17, [.int 0, .ref (X 3), .int 0])), (q3, .inr (17, [.int 2, .ref q6, .int 1])), (q6, .inl (G.2 5, 10, .inr (.inr (.inr (.inr (va_up (fun _ => none) 0 (some (X (1000 + 128))))))))), (q12, .inl (G.2 1, 0, .inl (fun _ => 0))), (q14, .inr (18, [.int 1, .int 0, .int 2, .ref q3])), (q13, .inr (17, [.int 0, .ref (X 3), .int 0])), (q4, .inr (17, [.int 0, .ref (X 3), .int 0]))] := hD
  refine W.eq (g2 := F0 m 5 ls [.null]) rfl ?_
  refine lv_astore_nN (lv' := [(2, .null), (0, .ref a0), (1, .int x0)]) hx hb dX16_entryOf_5 rfl hl (by decide) rfl (fun ls hl => ?_)
  refine lv_aload_nN hx hb dX16_entryOf_6 rfl (lv_at hl 0 rfl) ?_
  refine lv_ifnonnullN hx hb dX16_entryOf_7 ?_
  refine lv_iconst (v := 0) hx hb dX16_entryOf_10 (by decide) ?_
  refine lv_goto (tgt := 18) hx hb dX16_entryOf_11 (by decide) ?_
  exact pz_rz hx hb hr hlocks (by decide +kernel) hS (Nat.le_of_ble_eq_true rfl) (Nat.le_of_ble_eq_true rfl) dX16_entryOf_18 (q1, q2, q3, q4, q5, q6, q7, q8, q9, q10, q11, q12, q13, q14) rfl (hP.sub [0, 1, 2, 3, 4, 5, 6, 7, 8, 9, 10, 11, 12, 13, 14, 15, 16] rfl) (hD.sub [0, 1, 2, 3, 4, 5, 6, 7, 8, 9, 10, 11, 12, 13, 14, 15, 16] rfl rfl)
set_option maxHeartbeats 4000000 in
set_option maxRecDepth 100000 in
theorem cX11_functionOf_1 (l : Launch) (hst : l.stackTraces = false) (G : pz_G) (X : Nat → Nat) (sz : Nat) (a0 : Nat) (x0 : Int32) (a1 : Nat) (a2 : Nat) (a3 : Nat) (a4 : Nat) (a5 : Nat) (a6 : Nat) (a7 : Nat) (a8 : Nat) (a9 : Nat) (a10 : Nat) (a11 : Nat) (a12 : Nat) (a13 : Nat) (a14 : Nat) (a15 : Nat) : pz_MT l yX11_functionOf (pz_cd yX11_functionOf cX11_functionOf 3 (some .int)) 7 105 1 6 G X sz [(a0, .inr (11, [.ref a1, .ref a2, .int 0, .ref a3, .int 0, .int 0, .ref a4, .ref a5, .ref a6, .ref a7, .ref a8, .ref a9, .ref a10, .ref a11, .ref a12, .ref a13, .int 0, .int (-1), .int (-1), .int 0])), (a1, .inr (2, [.ref a14, .ref a15, .int 0]))] [.ref a0, .int x0] "java/lang/IndexOutOfBoundsException" := by
  refine pz_onT (by decide +kernel) (Nat.le_of_ble_eq_true rfl) ?_
  intro p e s m below meth c A hx hb hr hml hown hts hlocks hin hx0 hP hK hD hS hA hE ls hl
  have hown : s.vm.findClass "Sourcewright" = some m.cls := hown
  have hl : lv_has ls 3 [(0, .ref a0), (1, .int x0)] := hl
  have hlo_x0 : (-2147483648 : Int) ≤ x0.toInt := by have h9 := Int32.le_toInt x0; omega
  have hhi_x0 : x0.toInt ≤ (2147483647 : Int) := by have h9 := Int32.toInt_lt x0; omega
  refine lv_aload_n hx hb dX11_functionOf_0 rfl (lv_at hl 0 rfl) ?_
  refine lv_iload_n hx hb dX11_functionOf_1 rfl (lv_at hl 1 rfl) ?_
  refine pz_goT (wr := []) (vx_runV (C := "Sourcewright") (As := [.int x0]) (rest := []) ⟨hx, hb, hml, hown, hts⟩ (cX11_checkPlace_1 l hst G X s.heap.size a0 x0 a1 a2 a3 a4 a5 a6 a7 a8 a9 a10 a11 a12 a13 a14 a15) (cwV 1 hts (pz_gV wq_1384 wq_1386 wqs_75 wq_1 wq_1387) rfl rfl rfl (by decide +kernel) ⟨(Nat.le_of_ble_eq_true rfl), (Nat.le_of_ble_eq_true rfl)⟩) (pz_preV (C := ("Sourcewright", TX11, 20)) hK hP hD hS hA hE 0 (ci := 11) rfl rfl [0, 1] rfl rfl) rfl rfl hl.1 rfl (lv_room (Nat.le_of_ble_eq_true rfl)) dX11_functionOf_2 ⟨(Nat.le_of_ble_eq_true rfl), (Nat.le_of_ble_eq_true rfl)⟩) hP hD hS hA [0, 1] [] rfl rfl rfl (by decide) (fun ce q9 H locs hP hD hS hce hcv hcl => ?_)
  exact pz_out hx0 hlocks hce hcv hcl hS (Nat.le_of_ble_eq_true rfl) (Nat.le_of_ble_eq_true rfl)
set_option maxHeartbeats 4000000 in
set_option maxRecDepth 100000 in
theorem cL_functionOf_1 (l : Launch) (hst : l.stackTraces = false) (G : pz_G) (X : Nat → Nat) (sz : Nat) (a0 : Nat) (x0 : Int32) (a1 : Nat) (a2 : Nat) (a3 : Nat) (a4 : Nat) (a5 : Nat) (a6 : Nat) (a7 : Nat) (a8 : Nat) (a9 : Nat) (a10 : Nat) (a11 : Nat) (a12 : Nat) (a13 : Nat) (a14 : Nat) (a15 : Nat) (a16 : Nat) : pz_MR (S := Unit) l yL_functionOf (pz_cw yL_functionOf cL_functionOf 4 (some .int) [(0, 9, 12, 21), (0, 9, 15, 48)]) 8 127 1 6 G X sz [(a0, .inr (11, [.ref a2, .ref a3, .int 0, .ref a4, .int 0, .int 0, .ref a5, .ref a6, .ref a7, .ref a8, .ref a9, .ref a10, .ref a11, .ref a12, .ref a13, .ref a14, .int 0, .int (-1), .int (-1), .int 0])), (a2, .inr (2, [.ref a15, .ref a16, .int 0]))] [.ref a0, .int x0, .ref a1] (fun u => some (.int 1)) (fun u => []) := by
  refine pz_onHR (by decide +kernel) (Nat.le_of_ble_eq_true rfl) ?_
  intro p e s m below meth c A hx hb hr hml hown hts hlocks hin hx0 hP hK hD hS hA hE ls hl
  have hown : s.vm.findClass "SourcewrightLaw" = some m.cls := hown
  have hl : lv_has ls 4 [(0, .ref a0), (1, .int x0), (2, .ref a1)] := hl
  have hlo_x0 : (-2147483648 : Int) ≤ x0.toInt := by have h9 := Int32.le_toInt x0; omega
  have hhi_x0 : x0.toInt ≤ (2147483647 : Int) := by have h9 := Int32.toInt_lt x0; omega
  refine lv_aload_n hx hb dL_functionOf_0 rfl (lv_at hl 2 rfl) ?_
  refine lv_iconst (v := 0) hx hb dL_functionOf_1 (by decide) ?_
  refine lv_aload_n hx hb dL_functionOf_2 rfl (lv_at hl 0 rfl) ?_
  refine lv_iload_n hx hb dL_functionOf_3 rfl (lv_at hl 1 rfl) ?_
  refine pz_goT (wr := []) (vx_runV (C := "Sourcewright") (As := [.int x0]) (rest := [.int 0, .ref a1]) ⟨hx, hb, hml, hown, hts⟩ (cX11_functionOf_1 l hst G X s.heap.size a0 x0 a2 a3 a4 a5 a6 a7 a8 a9 a10 a11 a12 a13 a14 a15 a16) (cwV 1 hts (pz_gV wq_1481 wq_1482 wq_1483 wq_1 wq_1484) rfl rfl rfl (by decide +kernel) ⟨(Nat.le_of_ble_eq_true rfl), (Nat.le_of_ble_eq_true rfl)⟩) (pz_preV (C := ("Sourcewright", TX11, 20)) hK hP hD hS hA hE 0 (ci := 11) rfl rfl [0, 1] rfl rfl) rfl rfl hl.1 rfl (lv_room (Nat.le_of_ble_eq_true rfl)) dL_functionOf_4 ⟨(Nat.le_of_ble_eq_true rfl), (Nat.le_of_ble_eq_true rfl)⟩) hP hD hS hA [0, 1] [] rfl rfl rfl (by decide) (fun ce q9 H locs hP hD hS hce hcv hcl => ?_)
  refine vx_catch hown [] ⟨0, 9, 12, 21⟩ [⟨0, 9, 15, 48⟩] hx0 (fun z hz => by cases hz) rfl (by decide) (hts _ wq_1356) (va_Nw.use rfl (hE.2.2.2.2.2.2.2.2.1 _ nx_1390)) hce hcv hcl ?_
  have hP : va_P G.1 pz_cl [] H := hP
  have hD : va_D A [] := hD
  refine W.eq (g2 := F0 m 12 ls [.ref q9]) rfl ?_
  refine lv_astore_n (lv' := [(3, .ref q9), (0, .ref a0), (1, .int x0), (2, .ref a1)]) hx hb dL_functionOf_12 rfl hl (by decide) rfl (fun ls hl => ?_)
  refine lv_iconst (v := 1) hx hb dL_functionOf_13 (by decide) ?_
  exact pz_rz hx hb hr hlocks (by decide +kernel) hS (Nat.le_of_ble_eq_true rfl) (Nat.le_of_ble_eq_true rfl) dL_functionOf_14 () rfl (hP.sub [] rfl) (hD.sub [] rfl rfl)
set_option maxHeartbeats 4000000 in
set_option maxRecDepth 100000 in
theorem cX16_functionOf_1 (l : Launch) (hst : l.stackTraces = false) (G : pz_G) (X : Nat → Nat) (sz : Nat) (a0 : Nat) (x0 : Int32) (a1 : Nat) (a2 : Nat) (a3 : Nat) (a4 : Nat) : pz_MR (S := Unit) l yX16_functionOf (pz_cd yX16_functionOf cX16_functionOf 4 (some .int)) 2 43 0 0 G X sz [(a0, .inr (15, [.int 0, .ref a1, .ref a2, .ref a3, .ref a4, .int 0, .null])), (a1, .inr (17, [.int 0, .ref (X 3), .int 0]))] [.ref a0, .int x0] (fun u => some (.int 0)) (fun u => [(a0, .inr (15, [.int 1, .ref a1, .ref a2, .ref a3, .ref a4, .int 0, .null])), (a1, .inr (17, [.int 0, .ref (X 3), .int 0]))]) := by
  refine pz_onR (by decide +kernel) (Nat.le_of_ble_eq_true rfl) ?_
  intro p e s m below meth c A hx hb hr hml hown hts hlocks hin hx0 hP hK hD hS hA hE ls hl
  have hown : s.vm.findClass "SourcewrightModel" = some m.cls := hown
  have hl : lv_has ls 4 [(0, .ref a0), (1, .int x0)] := hl
  have hlo_x0 : (-2147483648 : Int) ≤ x0.toInt := by have h9 := Int32.le_toInt x0; omega
  have hhi_x0 : x0.toInt ≤ (2147483647 : Int) := by have h9 := Int32.toInt_lt x0; omega
  refine lv_aload_n hx hb dX16_functionOf_0 rfl (lv_at hl 0 rfl) ?_
  refine lv_iload_n hx hb dX16_functionOf_1 rfl (lv_at hl 1 rfl) ?_
  refine pz_go (wr := []) (vx_runV (C := "SourcewrightModel") (As := [.int x0]) (rest := []) ⟨hx, hb, hml, hown, hts⟩ (cX16_noByte_1 l hst G X s.heap.size a0 x0 a1 a2 a3 a4) (cwV 1 hts (pz_gV wq_1945 wq_1947 wqs_87 wq_13 wq_1948) rfl rfl rfl (by decide +kernel) ⟨(Nat.le_of_ble_eq_true rfl), (Nat.le_of_ble_eq_true rfl)⟩) (pz_preV (C := ("SourcewrightModel", TX16, 7)) hK hP hD hS hA hE 0 (ci := 15) rfl rfl [0, 1] rfl rfl) rfl rfl hl.1 rfl (lv_room (Nat.le_of_ble_eq_true rfl)) dX16_functionOf_2 ⟨(Nat.le_of_ble_eq_true rfl), (Nat.le_of_ble_eq_true rfl)⟩) hP hD hS hA [0, 1] [] rfl rfl rfl (by decide) (fun u H locs hP hD hS => ?_)
  have hP : va_P G.1 pz_cl [(a0, .inr (15, [.int 1, .ref a1, .ref a2, .ref a3, .ref a4, .int 0, .null])), (a1, .inr (17, [.int 0, .ref (X 3), .int 0]))] H := hP
  have hD : va_D A [(a0, .inr (15, [.int 1, .ref a1, .ref a2, .ref a3, .ref a4, .int 0, .null])), (a1, .inr (17, [.int 0, .ref (X 3), .int 0]))] := hD
  refine W.eq (g2 := F0 m 5 ls [.int 1]) rfl ?_
  refine lv_if_eq (tgt := 10) hx hb dX16_functionOf_5 (by decide) (fun hc => absurd hc (by decide)) (fun _ => ?_)
  refine lv_iconst (v := 0) hx hb dX16_functionOf_8 (by decide) ?_
  exact pz_rz hx hb hr hlocks (by decide +kernel) hS (Nat.le_of_ble_eq_true rfl) (Nat.le_of_ble_eq_true rfl) dX16_functionOf_9 () rfl (hP.sub [0, 1] rfl) (hD.sub [0, 1] rfl rfl)
set_option maxHeartbeats 4000000 in
set_option maxRecDepth 100000 in
theorem cX11_sharers_1 (l : Launch) (hst : l.stackTraces = false) (G : pz_G) (X : Nat → Nat) (sz : Nat) (a0 : Nat) (x0 : Int32) (a1 : Nat) (a2 : Nat) (a3 : Nat) (a4 : Nat) (a5 : Nat) (a6 : Nat) (a7 : Nat) (a8 : Nat) (a9 : Nat) (a10 : Nat) (a11 : Nat) (a12 : Nat) (a13 : Nat) (a14 : Nat) (a15 : Nat) : pz_MT l yX11_sharers (pz_cd yX11_sharers cX11_sharers 4 (some .int)) 7 105 1 6 G X sz [(a0, .inr (11, [.ref a1, .ref a2, .int 0, .ref a3, .int 0, .int 0, .ref a4, .ref a5, .ref a6, .ref a7, .ref a8, .ref a9, .ref a10, .ref a11, .ref a12, .ref a13, .int 0, .int (-1), .int (-1), .int 0])), (a1, .inr (2, [.ref a14, .ref a15, .int 0]))] [.ref a0, .int x0] "java/lang/IndexOutOfBoundsException" := by
  refine pz_onT (by decide +kernel) (Nat.le_of_ble_eq_true rfl) ?_
  intro p e s m below meth c A hx hb hr hml hown hts hlocks hin hx0 hP hK hD hS hA hE ls hl
  have hown : s.vm.findClass "Sourcewright" = some m.cls := hown
  have hl : lv_has ls 4 [(0, .ref a0), (1, .int x0)] := hl
  have hlo_x0 : (-2147483648 : Int) ≤ x0.toInt := by have h9 := Int32.le_toInt x0; omega
  have hhi_x0 : x0.toInt ≤ (2147483647 : Int) := by have h9 := Int32.toInt_lt x0; omega
  refine lv_aload_n hx hb dX11_sharers_0 rfl (lv_at hl 0 rfl) ?_
  refine lv_iload_n hx hb dX11_sharers_1 rfl (lv_at hl 1 rfl) ?_
  refine pz_goT (wr := []) (vx_runV (C := "Sourcewright") (As := [.int x0]) (rest := []) ⟨hx, hb, hml, hown, hts⟩ (cX11_checkPlace_1 l hst G X s.heap.size a0 x0 a1 a2 a3 a4 a5 a6 a7 a8 a9 a10 a11 a12 a13 a14 a15) (cwV 1 hts (pz_gV wq_1384 wq_1386 wqs_75 wq_1 wq_1387) rfl rfl rfl (by decide +kernel) ⟨(Nat.le_of_ble_eq_true rfl), (Nat.le_of_ble_eq_true rfl)⟩) (pz_preV (C := ("Sourcewright", TX11, 20)) hK hP hD hS hA hE 0 (ci := 11) rfl rfl [0, 1] rfl rfl) rfl rfl hl.1 rfl (lv_room (Nat.le_of_ble_eq_true rfl)) dX11_sharers_2 ⟨(Nat.le_of_ble_eq_true rfl), (Nat.le_of_ble_eq_true rfl)⟩) hP hD hS hA [0, 1] [] rfl rfl rfl (by decide) (fun ce q9 H locs hP hD hS hce hcv hcl => ?_)
  exact pz_out hx0 hlocks hce hcv hcl hS (Nat.le_of_ble_eq_true rfl) (Nat.le_of_ble_eq_true rfl)
set_option maxHeartbeats 4000000 in
set_option maxRecDepth 100000 in
theorem cL_sharers_1 (l : Launch) (hst : l.stackTraces = false) (G : pz_G) (X : Nat → Nat) (sz : Nat) (a0 : Nat) (x0 : Int32) (a1 : Nat) (a2 : Nat) (a3 : Nat) (a4 : Nat) (a5 : Nat) (a6 : Nat) (a7 : Nat) (a8 : Nat) (a9 : Nat) (a10 : Nat) (a11 : Nat) (a12 : Nat) (a13 : Nat) (a14 : Nat) (a15 : Nat) (a16 : Nat) : pz_MR (S := Unit) l yL_sharers (pz_cw yL_sharers cL_sharers 4 (some .int) [(0, 9, 12, 21)]) 8 128 1 6 G X sz [(a0, .inr (11, [.ref a2, .ref a3, .int 0, .ref a4, .int 0, .int 0, .ref a5, .ref a6, .ref a7, .ref a8, .ref a9, .ref a10, .ref a11, .ref a12, .ref a13, .ref a14, .int 0, .int (-1), .int (-1), .int 0])), (a2, .inr (2, [.ref a15, .ref a16, .int 0]))] [.ref a0, .int x0, .ref a1] (fun u => some (.int 1)) (fun u => []) := by
  refine pz_onHR (by decide +kernel) (Nat.le_of_ble_eq_true rfl) ?_
  intro p e s m below meth c A hx hb hr hml hown hts hlocks hin hx0 hP hK hD hS hA hE ls hl
  have hown : s.vm.findClass "SourcewrightLaw" = some m.cls := hown
  have hl : lv_has ls 4 [(0, .ref a0), (1, .int x0), (2, .ref a1)] := hl
  have hlo_x0 : (-2147483648 : Int) ≤ x0.toInt := by have h9 := Int32.le_toInt x0; omega
  have hhi_x0 : x0.toInt ≤ (2147483647 : Int) := by have h9 := Int32.toInt_lt x0; omega
  refine lv_aload_n hx hb dL_sharers_0 rfl (lv_at hl 2 rfl) ?_
  refine lv_iconst (v := 0) hx hb dL_sharers_1 (by decide) ?_
  refine lv_aload_n hx hb dL_sharers_2 rfl (lv_at hl 0 rfl) ?_
  refine lv_iload_n hx hb dL_sharers_3 rfl (lv_at hl 1 rfl) ?_
  refine pz_goT (wr := []) (vx_runV (C := "Sourcewright") (As := [.int x0]) (rest := [.int 0, .ref a1]) ⟨hx, hb, hml, hown, hts⟩ (cX11_sharers_1 l hst G X s.heap.size a0 x0 a2 a3 a4 a5 a6 a7 a8 a9 a10 a11 a12 a13 a14 a15 a16) (cwV 1 hts (pz_gV wq_1505 wq_1506 wq_1507 wq_1 wq_1508) rfl rfl rfl (by decide +kernel) ⟨(Nat.le_of_ble_eq_true rfl), (Nat.le_of_ble_eq_true rfl)⟩) (pz_preV (C := ("Sourcewright", TX11, 20)) hK hP hD hS hA hE 0 (ci := 11) rfl rfl [0, 1] rfl rfl) rfl rfl hl.1 rfl (lv_room (Nat.le_of_ble_eq_true rfl)) dL_sharers_4 ⟨(Nat.le_of_ble_eq_true rfl), (Nat.le_of_ble_eq_true rfl)⟩) hP hD hS hA [0, 1] [] rfl rfl rfl (by decide) (fun ce q9 H locs hP hD hS hce hcv hcl => ?_)
  refine vx_catch hown [] ⟨0, 9, 12, 21⟩ [] hx0 (fun z hz => by cases hz) rfl (by decide) (hts _ wq_1356) (va_Nw.use rfl (hE.2.2.2.2.2.2.2.2.1 _ nx_1390)) hce hcv hcl ?_
  have hP : va_P G.1 pz_cl [] H := hP
  have hD : va_D A [] := hD
  refine W.eq (g2 := F0 m 12 ls [.ref q9]) rfl ?_
  refine lv_astore_n (lv' := [(3, .ref q9), (0, .ref a0), (1, .int x0), (2, .ref a1)]) hx hb dL_sharers_12 rfl hl (by decide) rfl (fun ls hl => ?_)
  refine lv_iconst (v := 1) hx hb dL_sharers_13 (by decide) ?_
  exact pz_rz hx hb hr hlocks (by decide +kernel) hS (Nat.le_of_ble_eq_true rfl) (Nat.le_of_ble_eq_true rfl) dL_sharers_14 () rfl (hP.sub [] rfl) (hD.sub [] rfl rfl)
set_option maxHeartbeats 4000000 in
set_option maxRecDepth 100000 in
theorem cX16_sharers_1 (l : Launch) (hst : l.stackTraces = false) (G : pz_G) (X : Nat → Nat) (sz : Nat) (a0 : Nat) (x0 : Int32) (a1 : Nat) (a2 : Nat) (a3 : Nat) (a4 : Nat) : pz_MR (S := Unit) l yX16_sharers (pz_cd yX16_sharers cX16_sharers 5 (some .int)) 2 43 0 0 G X sz [(a0, .inr (15, [.int 0, .ref a1, .ref a2, .ref a3, .ref a4, .int 0, .null])), (a1, .inr (17, [.int 0, .ref (X 3), .int 0]))] [.ref a0, .int x0] (fun u => some (.int 0)) (fun u => [(a0, .inr (15, [.int 1, .ref a1, .ref a2, .ref a3, .ref a4, .int 0, .null])), (a1, .inr (17, [.int 0, .ref (X 3), .int 0]))]) := by
  refine pz_onR (by decide +kernel) (Nat.le_of_ble_eq_true rfl) ?_
  intro p e s m below meth c A hx hb hr hml hown hts hlocks hin hx0 hP hK hD hS hA hE ls hl
  have hown : s.vm.findClass "SourcewrightModel" = some m.cls := hown
  have hl : lv_has ls 5 [(0, .ref a0), (1, .int x0)] := hl
  have hlo_x0 : (-2147483648 : Int) ≤ x0.toInt := by have h9 := Int32.le_toInt x0; omega
  have hhi_x0 : x0.toInt ≤ (2147483647 : Int) := by have h9 := Int32.toInt_lt x0; omega
  refine lv_aload_n hx hb dX16_sharers_0 rfl (lv_at hl 0 rfl) ?_
  refine lv_iload_n hx hb dX16_sharers_1 rfl (lv_at hl 1 rfl) ?_
  refine pz_go (wr := []) (vx_runV (C := "SourcewrightModel") (As := [.int x0]) (rest := []) ⟨hx, hb, hml, hown, hts⟩ (cX16_noByte_1 l hst G X s.heap.size a0 x0 a1 a2 a3 a4) (cwV 1 hts (pz_gV wq_1945 wq_1947 wqs_87 wq_13 wq_1948) rfl rfl rfl (by decide +kernel) ⟨(Nat.le_of_ble_eq_true rfl), (Nat.le_of_ble_eq_true rfl)⟩) (pz_preV (C := ("SourcewrightModel", TX16, 7)) hK hP hD hS hA hE 0 (ci := 15) rfl rfl [0, 1] rfl rfl) rfl rfl hl.1 rfl (lv_room (Nat.le_of_ble_eq_true rfl)) dX16_sharers_2 ⟨(Nat.le_of_ble_eq_true rfl), (Nat.le_of_ble_eq_true rfl)⟩) hP hD hS hA [0, 1] [] rfl rfl rfl (by decide) (fun u H locs hP hD hS => ?_)
  have hP : va_P G.1 pz_cl [(a0, .inr (15, [.int 1, .ref a1, .ref a2, .ref a3, .ref a4, .int 0, .null])), (a1, .inr (17, [.int 0, .ref (X 3), .int 0]))] H := hP
  have hD : va_D A [(a0, .inr (15, [.int 1, .ref a1, .ref a2, .ref a3, .ref a4, .int 0, .null])), (a1, .inr (17, [.int 0, .ref (X 3), .int 0]))] := hD
  refine W.eq (g2 := F0 m 5 ls [.int 1]) rfl ?_
  refine lv_if_eq (tgt := 10) hx hb dX16_sharers_5 (by decide) (fun hc => absurd hc (by decide)) (fun _ => ?_)
  refine lv_iconst (v := 0) hx hb dX16_sharers_8 (by decide) ?_
  exact pz_rz hx hb hr hlocks (by decide +kernel) hS (Nat.le_of_ble_eq_true rfl) (Nat.le_of_ble_eq_true rfl) dX16_sharers_9 () rfl (hP.sub [0, 1] rfl) (hD.sub [0, 1] rfl rfl)
set_option maxHeartbeats 4000000 in
set_option maxRecDepth 100000 in
theorem cX11_mayReturn_1 (l : Launch) (hst : l.stackTraces = false) (G : pz_G) (X : Nat → Nat) (sz : Nat) (a0 : Nat) (x0 : Int32) (a1 : Nat) (a2 : Nat) (a3 : Nat) (a4 : Nat) (a5 : Nat) (a6 : Nat) (a7 : Nat) (a8 : Nat) (a9 : Nat) (a10 : Nat) (a11 : Nat) (a12 : Nat) (a13 : Nat) (a14 : Nat) (a15 : Nat) (a16 : Nat) (a17 : Nat) (a18 : Nat) (a19 : Nat) (a20 : Nat) (a21 : Nat) (a22 : Nat) (a23 : Nat) (a24 : Nat) (f0 : Nat → Int64) (f1 : Nat → Int64) (f2 : Nat → Int32) : pz_MT l yX11_mayReturn (pz_cd yX11_mayReturn cX11_mayReturn 2 (some .boolean)) 7 108 1 6 G X sz [(a0, .inr (11, [.ref a1, .ref a8, .int 0, .ref a9, .int 0, .int 0, .ref a2, .ref a10, .ref a11, .ref a6, .ref a12, .ref a13, .ref a14, .ref a15, .ref a16, .ref a17, .int 0, .int (-1), .int (-1), .int 0])), (a1, .inr (2, [.ref a18, .ref a19, .int 0])), (a2, .inr (5, [.ref a1, .ref a3, .ref a20, .ref a21, .ref a22, .ref a23, .ref a24, .int 0, .int 0, .int 0])), (a3, .inr (7, [.ref a4, .ref a5])), (a4, .inl (G.2 2, 121, .inr (.inl (f0)))), (a5, .inl (G.2 2, 121, .inr (.inl (f1)))), (a6, .inr (3, [.ref a1, .ref a2, .ref a7])), (a7, .inl (G.2 0, 120, .inl (f2)))] [.ref a0, .int x0] "java/lang/IndexOutOfBoundsException" := by
  refine pz_onT (by decide +kernel) (Nat.le_of_ble_eq_true rfl) ?_
  intro p e s m below meth c A hx hb hr hml hown hts hlocks hin hx0 hP hK hD hS hA hE ls hl
  have hown : s.vm.findClass "Sourcewright" = some m.cls := hown
  have hl : lv_has ls 2 [(0, .ref a0), (1, .int x0)] := hl
  have hlo_x0 : (-2147483648 : Int) ≤ x0.toInt := by have h9 := Int32.le_toInt x0; omega
  have hhi_x0 : x0.toInt ≤ (2147483647 : Int) := by have h9 := Int32.toInt_lt x0; omega
  refine lv_aload_n hx hb dX11_mayReturn_0 rfl (lv_at hl 0 rfl) ?_
  refine lv_iload_n hx hb dX11_mayReturn_1 rfl (lv_at hl 1 rfl) ?_
  refine pz_goT (wr := []) (vx_runV (C := "Sourcewright") (As := [.int x0]) (rest := []) ⟨hx, hb, hml, hown, hts⟩ (cX11_checkFunction_1 l hst G X s.heap.size a0 x0 a1 a2 a3 a4 a5 a6 a7 a8 a9 a10 a11 a12 a13 a14 a15 a16 a17 a18 a19 a20 a21 a22 a23 a24 f0 f1 f2) (cwV 1 hts (pz_gV wq_1468 wq_1470 wqs_77 wq_1 wq_1471) rfl rfl rfl (by decide +kernel) ⟨(Nat.le_of_ble_eq_true rfl), (Nat.le_of_ble_eq_true rfl)⟩) (pz_preV (C := ("Sourcewright", TX11, 20)) hK hP hD hS hA hE 0 (ci := 11) rfl rfl [0, 1, 2, 3, 4, 5, 6, 7] rfl rfl) rfl rfl hl.1 rfl (lv_room (Nat.le_of_ble_eq_true rfl)) dX11_mayReturn_2 ⟨(Nat.le_of_ble_eq_true rfl), (Nat.le_of_ble_eq_true rfl)⟩) hP hD hS hA [0, 1, 2, 3, 4, 5, 6, 7] [] rfl rfl rfl (by decide) (fun ce q9 H locs hP hD hS hce hcv hcl => ?_)
  exact pz_out hx0 hlocks hce hcv hcl hS (Nat.le_of_ble_eq_true rfl) (Nat.le_of_ble_eq_true rfl)
