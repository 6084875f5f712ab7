set_option maxHeartbeats 4000000 in
set_option maxRecDepth 100000 in
theorem cJ6_valueOf_2dffe_2 (l : Launch) (hst : l.stackTraces = false) (G : pz_G) (X : Nat → Nat) (sz : Nat) (x0 : Int32) (hx0l : (128 : Int) ≤ x0.toInt) (hx0h : x0.toInt ≤ (255 : Int)) : pz_MR (S := Nat) l yJ6_valueOf_2dffe (pz_cd yJ6_valueOf_2dffe cJ6_valueOf_2dffe 1 (some (.object "java/lang/Integer"))) 3 53 1 1 G X sz [] [.int x0] (fun u => some (.ref u)) (fun u => [(u, .inr (16, [.int x0]))]) := by
  refine pz_onR (by decide +kernel) (Nat.le_of_ble_eq_true rfl) ?_
  intro p e s m below meth c A hx hb hr hml hown hts hlocks hin hx0 hP hK hD hS hA hE ls hl
  have hown : s.vm.findClass "java/lang/Integer" = some m.cls := hown
  have hl : lv_has ls 1 [(0, .int x0)] := hl
  refine lv_iload_n hx hb dJ6_valueOf_2dffe_0 rfl (lv_at hl 0 rfl) ?_
  refine lv_bipush (v := (-128)) hx hb dJ6_valueOf_2dffe_1 (by decide) ?_
  refine lv_icmp_lt (tgt := 23) hx hb dJ6_valueOf_2dffe_3 (by decide) (fun hc => by have h9 : (x0).toInt < (-128) := pz_lt hc; omega) (fun _ => ?_)
  refine lv_iload_n hx hb dJ6_valueOf_2dffe_6 rfl (lv_at hl 0 rfl) ?_
  refine va_gets hx hb hE.2.2.2.2.1.1 hS hown (hts _ wq_1853) (fun _ h9 => h9) dJ6_valueOf_2dffe_7 ?_
  refine lv_icmp_gt (tgt := 23) hx hb dJ6_valueOf_2dffe_10 (by decide) (fun _ => ?_) (fun hc => by have h9 : (x0).toInt ≤ 127 := pz_nlt hc; omega)
  refine va_new (ci := 16) (fs := [.int 0]) (C := "java/lang/Integer") (T := TJ6) (N := 1) hx hb hts inJ6 tyJ6 tyJ6_ok hown (hts _ wq_1857) (hts _ wq_1858) (hts _ wq_24) hK hP hD hS hA rfl (pz_dfJ6) (Nat.le_of_ble_eq_true rfl) (Nat.le_of_ble_eq_true rfl) dJ6_valueOf_2dffe_23 (fun q1 H hP hD hS => ?_)
  have hP : va_P G.1 pz_cl [(q1, .inr (16, [.int 0]))] H := hP
  have hD : va_D A [(q1, .inr (16, [.int 0]))] := hD
  refine lv_dup hx hb dJ6_valueOf_2dffe_26 rfl ?_
  refine lv_iload_n hx hb dJ6_valueOf_2dffe_27 rfl (lv_at hl 0 rfl) ?_
  refine pz_go (wr := []) (vx_runI (As := [.int x0]) (rest := [.ref q1]) ⟨hx, hb, hml, hown, hts⟩ (cJ6_init_d00df_1 l hst G X H.size q1 x0 (by omega) (by omega)) (cwI 1 hts (pz_gC wq_1861) rfl rfl rfl (hts _ wq_24) (hts _ wq_1859) (hts _ wq_1860) rfl (by decide +kernel) ⟨(Nat.le_of_ble_eq_true rfl), (Nat.le_of_ble_eq_true rfl)⟩) (pz_preS hK hP hD hS hA hE [0] rfl rfl) rfl rfl hl.1 rfl (lv_room (Nat.le_of_ble_eq_true rfl)) dJ6_valueOf_2dffe_28 ⟨(Nat.le_of_ble_eq_true rfl), (Nat.le_of_ble_eq_true rfl)⟩) hP hD hS hA [0] [] rfl rfl rfl (by decide) (fun u H locs hP hD hS => ?_)
  have hP : va_P G.1 pz_cl [(q1, .inr (16, [.int x0]))] H := hP
  have hD : va_D A [(q1, .inr (16, [.int x0]))] := hD
  refine W.eq (g2 := F0 m 31 ls [.ref q1]) rfl ?_
  exact pz_ra hx hb hr hlocks (Or.inl ⟨_, rfl⟩) (Or.inr ⟨_, rfl⟩) hS (Nat.le_of_ble_eq_true rfl) (Nat.le_of_ble_eq_true rfl) dJ6_valueOf_2dffe_31 q1 rfl (hP.sub [0] rfl) (hD.sub [0] rfl rfl)
set_option maxHeartbeats 4000000 in
set_option maxRecDepth 100000 in
theorem cJx4a65c_add_72be8_2 (l : Launch) (hst : l.stackTraces = false) (G : pz_G) (X : Nat → Nat) (sz : Nat) (a0 : Nat) (a1 : Nat) (x0 : Int32) (hx0l : (128 : Int) ≤ x0.toInt) (hx0h : x0.toInt ≤ (255 : Int)) : pz_MR (S := Nat) l yJx4a65c_add_72be8 (pz_cd yJx4a65c_add_72be8 cJx4a65c_add_72be8 4 none) 3 57 1 10 G X sz [(a0, .inr (17, [.int 1, .ref (X 3), .int 0])), (a1, .inr (16, [.int x0]))] [.ref a0, .ref a1, .ref (X 3), .int 0] (fun u => none) (fun u => [(a0, .inr (17, [.int 1, .ref u, .int 1])), (a1, .inr (16, [.int x0])), (u, .inl (G.2 5, 10, .inr (.inr (.inr (.inr (va_up (fun _ => none) 0 (some a1)))))))]) := by
  refine pz_onR (by decide +kernel) (Nat.le_of_ble_eq_true rfl) ?_
  intro p e s m below meth c A hx hb hr hml hown hts hlocks hin hx0 hP hK hD hS hA hE ls hl
  have hown : s.vm.findClass "java/util/ArrayList" = some m.cls := hown
  have hl : lv_has ls 4 [(0, .ref a0), (1, .ref a1), (2, .ref (X 3)), (3, .int 0)] := hl
  refine lv_iload_n hx hb dJx4a65c_add_72be8_0 rfl (lv_at hl 3 rfl) ?_
  refine lv_aload_n hx hb dJx4a65c_add_72be8_1 rfl (lv_at hl 2 rfl) ?_
  refine va_tlen (v := 0) hx hb hE.2.2.2.1.2.1 hS (by decide) dJx4a65c_add_72be8_2 ?_
  refine lv_icmp_ne (tgt := 11) hx hb dJx4a65c_add_72be8_3 (by decide) (fun hc => absurd hc (by decide)) (fun _ => ?_)
  refine lv_aload_n hx hb dJx4a65c_add_72be8_6 rfl (lv_at hl 0 rfl) ?_
  refine pz_go (wr := [(a1, .inr (16, [.int x0]))]) (vx_runV (C := "java/util/ArrayList") (As := []) (rest := []) ⟨hx, hb, hml, hown, hts⟩ (cJx4a65c_grow_d5877_1 l hst G X s.heap.size a0) (cwV 0 hts (pz_gV wq_1878 wq_1880 wqs_85 wq_16 wq_1881) rfl rfl rfl (by decide +kernel) ⟨(Nat.le_of_ble_eq_true rfl), (Nat.le_of_ble_eq_true rfl)⟩) (pz_preV (C := ("java/util/ArrayList", TJx4a65c, 3)) hK hP hD hS hA hE 0 (ci := 17) rfl rfl [0] rfl rfl) rfl rfl hl.1 rfl (lv_room (Nat.le_of_ble_eq_true rfl)) dJx4a65c_add_72be8_7 ⟨(Nat.le_of_ble_eq_true rfl), (Nat.le_of_ble_eq_true rfl)⟩) hP hD hS hA [0] [1] rfl rfl rfl (by decide) (fun q1 H locs hP hD hS => ?_)
  have hP : va_P G.1 pz_cl [(a1, .inr (16, [.int x0])), (a0, .inr (17, [.int 1, .ref q1, .int 0])), (q1, .inl (G.2 5, 10, .inr (.inr (.inr (.inr (fun _ => none))))))] H := hP
  have hD : va_D A [(a1, .inr (16, [.int x0])), (a0, .inr (17, [.int 1, .ref q1, .int 0])), (q1, .inl (G.2 5, 10, .inr (.inr (.inr (.inr (fun _ => none))))))] := hD
  refine W.eq (g2 := F0 m 10 ls [.ref q1]) rfl ?_
  refine lv_astore_n (lv' := [(2, .ref q1), (0, .ref a0), (1, .ref a1), (3, .int 0)]) hx hb dJx4a65c_add_72be8_10 rfl hl (by decide) rfl (fun ls hl => ?_)
  refine lv_aload_n hx hb dJx4a65c_add_72be8_11 rfl (lv_at hl 0 rfl) ?_
  refine lv_iload_n hx hb dJx4a65c_add_72be8_12 rfl (lv_at hl 3 rfl) ?_
  refine lv_aload_n hx hb dJx4a65c_add_72be8_13 rfl (lv_at hl 2 rfl) ?_
  refine vb_astq (E := "java/lang/Object") (C := "java/lang/Integer") hx hb hK hP hD hS 2 5 rfl rfl (va_recv hK hP (ci := 16) (q0 := 0) rfl rfl) (vb_asgC (hE.2.2.2.2.2.2.2.2.1 _ nx_3213)) (pz_vi rfl) dJx4a65c_add_72be8_14 (fun H locs hP hD hS => ?_)
  have hP : va_P G.1 pz_cl [(a1, .inr (16, [.int x0])), (a0, .inr (17, [.int 1, .ref q1, .int 0])), (q1, .inl (G.2 5, 10, .inr (.inr (.inr (.inr (va_up (fun _ => none) 0 (some a1)))))))] H := hP
  have hD : va_D A [(a1, .inr (16, [.int x0])), (a0, .inr (17, [.int 1, .ref q1, .int 0])), (q1, .inl (G.2 5, 10, .inr (.inr (.inr (.inr (va_up (fun _ => none) 0 (some a1)))))))] := hD
  refine lv_aload_n hx hb dJx4a65c_add_72be8_15 rfl (lv_at hl 1 rfl) ?_
  refine lv_iload_n hx hb dJx4a65c_add_72be8_16 rfl (lv_at hl 3 rfl) ?_
  refine lv_iconst (v := 1) hx hb dJx4a65c_add_72be8_17 (by decide) ?_
  refine lv_iadd hx hb dJx4a65c_add_72be8_18 (pz_K (y := 1) (by decide) ?_)
  refine va_put (D := G.1) (ci := 17) (v := .int 1) (ty := tyJx4a65c 2) (C := "java/util/ArrayList") (T := TJx4a65c) (N := 3) hx hb hts inJx4a65c tyJx4a65c tyJx4a65c_ok nmJx4a65c hown hK hP hD hS 1 rfl rfl 2 (by decide) (hts _ wq_1801) (fun _ h9 => h9) rfl (by decide +kernel) rfl rfl (Nat.le_of_ble_eq_true rfl) dJx4a65c_add_72be8_19 (fun H locs hP hD hS => ?_)
  have hP : va_P G.1 pz_cl [(a1, .inr (16, [.int x0])), (a0, .inr (17, [.int 1, .ref q1, .int 1])), (q1, .inl (G.2 5, 10, .inr (.inr (.inr (.inr (va_up (fun _ => none) 0 (some a1)))))))] H := hP
  have hD : va_D A [(a1, .inr (16, [.int x0])), (a0, .inr (17, [.int 1, .ref q1, .int 1])), (q1, .inl (G.2 5, 10, .inr (.inr (.inr (.inr (va_up (fun _ => none) 0 (some a1)))))))] := hD
  exact pz_rv hx hb hr hlocks hS (Nat.le_of_ble_eq_true rfl) (Nat.le_of_ble_eq_true rfl) dJx4a65c_add_72be8_22 q1 rfl (hP.sub [1, 0, 2] rfl) (hD.sub [1, 0, 2] rfl rfl)
set_option maxHeartbeats 4000000 in
set_option maxRecDepth 100000 in
theorem cJx4a65c_add_9ea2d_2 (l : Launch) (hst : l.stackTraces = false) (G : pz_G) (X : Nat → Nat) (sz : Nat) (a0 : Nat) (a1 : Nat) (x0 : Int32) (hx0l : (128 : Int) ≤ x0.toInt) (hx0h : x0.toInt ≤ (255 : Int)) : pz_MR (S := Nat) l yJx4a65c_add_9ea2d (pz_cd yJx4a65c_add_9ea2d cJx4a65c_add_9ea2d 2 (some .boolean)) 4 80 1 10 G X sz [(a0, .inr (17, [.int 0, .ref (X 3), .int 0])), (a1, .inr (16, [.int x0]))] [.ref a0, .ref a1] (fun u => some (.int 1)) (fun u => [(a0, .inr (17, [.int 1, .ref u, .int 1])), (a1, .inr (16, [.int x0])), (u, .inl (G.2 5, 10, .inr (.inr (.inr (.inr (va_up (fun _ => none) 0 (some a1)))))))]) := by
  refine pz_onR (by decide +kernel) (Nat.le_of_ble_eq_true rfl) ?_
  intro p e s m below meth c A hx hb hr hml hown hts hlocks hin hx0 hP hK hD hS hA hE ls hl
  have hown : s.vm.findClass "java/util/ArrayList" = some m.cls := hown
  have hl : lv_has ls 2 [(0, .ref a0), (1, .ref a1)] := hl
  refine lv_aload_n hx hb dJx4a65c_add_9ea2d_0 rfl (lv_at hl 0 rfl) ?_
  refine lv_dup hx hb dJx4a65c_add_9ea2d_1 rfl ?_
  refine va_get (D := G.1) (ci := 17) (v := .int 0) (C := "java/util/ArrayList") (T := TJx4a65c) (N := 3) hx hb hts inJx4a65c hown hK hP 0 rfl rfl 0 (by decide) (hts _ wq_1805) (fun x9 h9 => u_same (hts _ wq_1804) x9 h9) rfl dJx4a65c_add_9ea2d_2 ?_
  refine lv_iconst (v := 1) hx hb dJx4a65c_add_9ea2d_5 (by decide) ?_
  refine lv_iadd hx hb dJx4a65c_add_9ea2d_6 (pz_K (y := 1) (by decide) ?_)
  refine va_put (D := G.1) (ci := 17) (v := .int 1) (ty := tyJx4a65c 0) (C := "java/util/ArrayList") (T := TJx4a65c) (N := 3) hx hb hts inJx4a65c tyJx4a65c tyJx4a65c_ok nmJx4a65c hown hK hP hD hS 0 rfl rfl 0 (by decide) (hts _ wq_1805) (fun x9 h9 => u_same (hts _ wq_1804) x9 h9) rfl (by decide +kernel) rfl rfl (Nat.le_of_ble_eq_true rfl) dJx4a65c_add_9ea2d_7 (fun H locs hP hD hS => ?_)
  have hP : va_P G.1 pz_cl [(a0, .inr (17, [.int 1, .ref (X 3), .int 0])), (a1, .inr (16, [.int x0]))] H := hP
  have hD : va_D A [(a0, .inr (17, [.int 1, .ref (X 3), .int 0])), (a1, .inr (16, [.int x0]))] := hD
  refine lv_aload_n hx hb dJx4a65c_add_9ea2d_10 rfl (lv_at hl 0 rfl) ?_
  refine lv_aload_n hx hb dJx4a65c_add_9ea2d_11 rfl (lv_at hl 1 rfl) ?_
  refine lv_aload_n hx hb dJx4a65c_add_9ea2d_12 rfl (lv_at hl 0 rfl) ?_
  refine va_get (D := G.1) (ci := 17) (v := .ref (X 3)) (C := "java/util/ArrayList") (T := TJx4a65c) (N := 3) hx hb hts inJx4a65c hown hK hP 0 rfl rfl 1 (by decide) (hts _ wq_1798) (fun _ h9 => h9) rfl dJx4a65c_add_9ea2d_13 ?_
  refine lv_aload_n hx hb dJx4a65c_add_9ea2d_16 rfl (lv_at hl 0 rfl) ?_
  refine va_get (D := G.1) (ci := 17) (v := .int 0) (C := "java/util/ArrayList") (T := TJx4a65c) (N := 3) hx hb hts inJx4a65c hown hK hP 0 rfl rfl 2 (by decide) (hts _ wq_1801) (fun _ h9 => h9) rfl dJx4a65c_add_9ea2d_17 ?_
  refine pz_go (wr := []) (vx_runV (C := "java/util/ArrayList") (As := [.ref a1, .ref (X 3), .int 0]) (rest := []) ⟨hx, hb, hml, hown, hts⟩ (cJx4a65c_add_72be8_2 l hst G X H.size a0 a1 x0 (by omega) (by omega)) (cwV 3 hts (pz_gV wq_1874 wq_1876 wqs_84 wq_16 wq_1877) rfl rfl rfl (by decide +kernel) ⟨(Nat.le_of_ble_eq_true rfl), (Nat.le_of_ble_eq_true rfl)⟩) (pz_preV (C := ("java/util/ArrayList", TJx4a65c, 3)) hK hP hD hS hA hE 0 (ci := 17) rfl rfl [0, 1] rfl rfl) rfl rfl hl.1 rfl (lv_room (Nat.le_of_ble_eq_true rfl)) dJx4a65c_add_9ea2d_20 ⟨(Nat.le_of_ble_eq_true rfl), (Nat.le_of_ble_eq_true rfl)⟩) hP hD hS hA [0, 1] [] rfl rfl rfl (by decide) (fun q1 H locs hP hD hS => ?_)
  have hP : va_P G.1 pz_cl [(a0, .inr (17, [.int 1, .ref q1, .int 1])), (a1, .inr (16, [.int x0])), (q1, .inl (G.2 5, 10, .inr (.inr (.inr (.inr (va_up (fun _ => none) 0 (some a1)))))))] H := hP
  have hD : va_D A [(a0, .inr (17, [.int 1, .ref q1, .int 1])), (a1, .inr (16, [.int x0])), (q1, .inl (G.2 5, 10, .inr (.inr (.inr (.inr (va_up (fun _ => none) 0 (some a1)))))))] := hD
  refine W.eq (g2 := F0 m 23 ls []) rfl ?_
  refine lv_iconst (v := 1) hx hb dJx4a65c_add_9ea2d_23 (by decide) ?_
  exact pz_rz hx hb hr hlocks (by decide +kernel) hS (Nat.le_of_ble_eq_true rfl) (Nat.le_of_ble_eq_true rfl) dJx4a65c_add_9ea2d_24 q1 rfl (hP.sub [0, 1, 2] rfl) (hD.sub [0, 1, 2] rfl rfl)
set_option maxHeartbeats 4000000 in
set_option maxRecDepth 100000 in
theorem cX16_type_3 (l : Launch) (hst : l.stackTraces = false) (G : pz_G) (X : Nat → Nat) (sz : Nat) (a0 : Nat) (x0 : Int32) (a1 : Nat) (a2 : Nat) (a3 : Nat) (a4 : Nat) (hx0l : (128 : Int) ≤ x0.toInt) (hx0h : x0.toInt ≤ (255 : Int)) : pz_MR (S := Nat × Nat) l yX16_type (pz_cd yX16_type cX16_type 2 (some .int)) 5 101 2 11 G X sz [(a0, .inr (15, [.int 0, .ref a1, .ref a2, .ref a3, .ref a4, .int 0, .null])), (a1, .inr (17, [.int 0, .ref (X 3), .int 0]))] [.ref a0, .int x0] (fun u => some (.int 1)) (fun u => [(a0, .inr (15, [.int 0, .ref a1, .ref a2, .ref a3, .ref a4, .int 0, .null])), (a1, .inr (17, [.int 1, .ref u.2, .int 1])), (u.1, .inr (16, [.int x0])), (u.2, .inl (G.2 5, 10, .inr (.inr (.inr (.inr (va_up (fun _ => none) 0 (some u.1)))))))]) := by
  refine pz_onR (by decide +kernel) (Nat.le_of_ble_eq_true rfl) ?_
  intro p e s m below meth c A hx hb hr hml hown hts hlocks hin hx0 hP hK hD hS hA hE ls hl
  have hown : s.vm.findClass "SourcewrightModel" = some m.cls := hown
  have hl : lv_has ls 2 [(0, .ref a0), (1, .int x0)] := hl
  refine lv_aload_n hx hb dX16_type_0 rfl (lv_at hl 0 rfl) ?_
  refine lv_iload_n hx hb dX16_type_1 rfl (lv_at hl 1 rfl) ?_
  refine lv_iconst (v := 0) hx hb dX16_type_2 (by decide) ?_
  refine lv_sipush (v := 255) hx hb dX16_type_3 (by decide) ?_
  refine pz_go (wr := [(a0, .inr (15, [.int 0, .ref a1, .ref a2, .ref a3, .ref a4, .int 0, .null])), (a1, .inr (17, [.int 0, .ref (X 3), .int 0]))]) (vx_runS (As := [.int x0, .int 0, .int 255]) (rest := [.ref a0]) ⟨hx, hb, hml, hown, hts⟩ (cX16_in_3 l hst G X s.heap.size x0 (by omega) (by omega)) (va_cwS 3 hts (pz_gS wq_1843 wq_1844 wq_13 wq_1845) rfl rfl rfl (by decide +kernel) ⟨(Nat.le_of_ble_eq_true rfl), (Nat.le_of_ble_eq_true rfl)⟩) (pz_preS hK hP hD hS hA hE [] rfl rfl) rfl rfl hl.1 rfl (lv_room (Nat.le_of_ble_eq_true rfl)) dX16_type_6 ⟨(Nat.le_of_ble_eq_true rfl), (Nat.le_of_ble_eq_true rfl)⟩) hP hD hS hA [] [0, 1] rfl rfl rfl (by decide) (fun u H locs hP hD hS => ?_)
  have hP : va_P G.1 pz_cl [(a0, .inr (15, [.int 0, .ref a1, .ref a2, .ref a3, .ref a4, .int 0, .null])), (a1, .inr (17, [.int 0, .ref (X 3), .int 0]))] H := hP
  have hD : va_D A [(a0, .inr (15, [.int 0, .ref a1, .ref a2, .ref a3, .ref a4, .int 0, .null])), (a1, .inr (17, [.int 0, .ref (X 3), .int 0]))] := hD
  refine W.eq (g2 := F0 m 9 ls [.int 1, .ref a0]) rfl ?_
  refine lv_if_ne (tgt := 16) hx hb dX16_type_9 (by decide) (fun _ => ?_) (fun hc => absurd hc (by decide))
  refine lv_aload_n hx hb dX16_type_16 rfl (lv_at hl 0 rfl) ?_
  refine va_get (D := G.1) (ci := 15) (v := .ref a1) (C := "SourcewrightModel") (T := TX16) (N := 7) hx hb hts inX16 hown hK hP 0 rfl rfl 1 (by decide) (hts _ wq_1814) (fun _ h9 => h9) rfl dX16_type_17 ?_
  refine pz_go (wr := [(a0, .inr (15, [.int 0, .ref a1, .ref a2, .ref a3, .ref a4, .int 0, .null]))]) (vx_runV (C := "java/util/ArrayList") (As := []) (rest := [.ref a0]) ⟨hx, hb, hml, hown, hts⟩ (cJx4a65c_size_8abf5_1 l hst G X H.size a1) (cwV 0 hts (pz_gV wq_1846 wq_1847 wq_1848 wq_16 wq_1849) rfl rfl rfl (by decide +kernel) ⟨(Nat.le_of_ble_eq_true rfl), (Nat.le_of_ble_eq_true rfl)⟩) (pz_preV (C := ("java/util/ArrayList", TJx4a65c, 3)) hK hP hD hS hA hE 1 (ci := 17) rfl rfl [1] rfl rfl) rfl rfl hl.1 rfl (lv_room (Nat.le_of_ble_eq_true rfl)) dX16_type_20 ⟨(Nat.le_of_ble_eq_true rfl), (Nat.le_of_ble_eq_true rfl)⟩) hP hD hS hA [1] [0] rfl rfl rfl (by decide) (fun u H locs hP hD hS => ?_)
  have hP : va_P G.1 pz_cl [(a0, .inr (15, [.int 0, .ref a1, .ref a2, .ref a3, .ref a4, .int 0, .null])), (a1, .inr (17, [.int 0, .ref (X 3), .int 0]))] H := hP
  have hD : va_D A [(a0, .inr (15, [.int 0, .ref a1, .ref a2, .ref a3, .ref a4, .int 0, .null])), (a1, .inr (17, [.int 0, .ref (X 3), .int 0]))] := hD
  refine W.eq (g2 := F0 m 23 ls [.int 0, .ref a0]) rfl ?_
  refine lv_bipush (v := 120) hx hb dX16_type_23 (by decide) ?_
  refine lv_icmp_ne (tgt := 32) hx hb dX16_type_25 (by decide) (fun _ => ?_) (fun hc => absurd hc (by decide))
  refine lv_iconst (v := 0) hx hb dX16_type_32 (by decide) ?_
  refine va_put (D := G.1) (ci := 15) (v := .int 0) (ty := tyX16 0) (C := "SourcewrightModel") (T := TX16) (N := 7) hx hb hts inX16 tyX16 tyX16_ok nmX16 hown hK hP hD hS 0 rfl rfl 0 (by decide) (hts _ wq_1813) (fun _ h9 => h9) rfl (by decide +kernel) rfl rfl (Nat.le_of_ble_eq_true rfl) dX16_type_33 (fun H locs hP hD hS => ?_)
  have hP : va_P G.1 pz_cl [(a0, .inr (15, [.int 0, .ref a1, .ref a2, .ref a3, .ref a4, .int 0, .null])), (a1, .inr (17, [.int 0, .ref (X 3), .int 0]))] H := hP
  have hD : va_D A [(a0, .inr (15, [.int 0, .ref a1, .ref a2, .ref a3, .ref a4, .int 0, .null])), (a1, .inr (17, [.int 0, .ref (X 3), .int 0]))] := hD
  refine lv_aload_n hx hb dX16_type_36 rfl (lv_at hl 0 rfl) ?_
  refine va_get (D := G.1) (ci := 15) (v := .int 0) (C := "SourcewrightModel") (T := TX16) (N := 7) hx hb hts inX16 hown hK hP 0 rfl rfl 0 (by decide) (hts _ wq_1813) (fun _ h9 => h9) rfl dX16_type_37 ?_
  refine lv_if_le (tgt := 45) hx hb dX16_type_40 (by decide) (fun _ => ?_) (fun hc => absurd hc (by decide))
  refine lv_aload_n hx hb dX16_type_45 rfl (lv_at hl 0 rfl) ?_
  refine va_get (D := G.1) (ci := 15) (v := .ref a1) (C := "SourcewrightModel") (T := TX16) (N := 7) hx hb hts inX16 hown hK hP 0 rfl rfl 1 (by decide) (hts _ wq_1814) (fun _ h9 => h9) rfl dX16_type_46 ?_
  refine lv_iload_n hx hb dX16_type_49 rfl (lv_at hl 1 rfl) ?_
  refine pz_go (wr := [(a0, .inr (15, [.int 0, .ref a1, .ref a2, .ref a3, .ref a4, .int 0, .null])), (a1, .inr (17, [.int 0, .ref (X 3), .int 0]))]) (vx_runS (As := [.int x0]) (rest := [.ref a1]) ⟨hx, hb, hml, hown, hts⟩ (cJ6_valueOf_2dffe_2 l hst G X H.size x0 (by omega) (by omega)) (va_cwS 1 hts (pz_gS wq_1850 wq_1851 wq_24 wq_1852) rfl rfl rfl (by decide +kernel) ⟨(Nat.le_of_ble_eq_true rfl), (Nat.le_of_ble_eq_true rfl)⟩) (pz_preS hK hP hD hS hA hE [] rfl rfl) rfl rfl hl.1 rfl (lv_room (Nat.le_of_ble_eq_true rfl)) dX16_type_50 ⟨(Nat.le_of_ble_eq_true rfl), (Nat.le_of_ble_eq_true rfl)⟩) hP hD hS hA [] [0, 1] rfl rfl rfl (by decide) (fun q1 H locs hP hD hS => ?_)
  have hP : va_P G.1 pz_cl [(a0, .inr (15, [.int 0, .ref a1, .ref a2, .ref a3, .ref a4, .int 0, .null])), (a1, .inr (17, [.int 0, .ref (X 3), .int 0])), (q1, .inr (16, [.int x0]))] H := hP
  have hD : va_D A [(a0, .inr (15, [.int 0, .ref a1, .ref a2, .ref a3, .ref a4, .int 0, .null])), (a1, .inr (17, [.int 0, .ref (X 3), .int 0])), (q1, .inr (16, [.int x0]))] := hD
  refine W.eq (g2 := F0 m 53 ls [.ref q1, .ref a1]) rfl ?_
  refine pz_go (wr := [(a0, .inr (15, [.int 0, .ref a1, .ref a2, .ref a3, .ref a4, .int 0, .null]))]) (vx_runV (C := "java/util/ArrayList") (As := [.ref q1]) (rest := []) ⟨hx, hb, hml, hown, hts⟩ (cJx4a65c_add_9ea2d_2 l hst G X H.size a1 q1 x0 (by omega) (by omega)) (cwV 1 hts (pz_gV wq_1870 wq_1871 wq_1872 wq_16 wq_1873) rfl rfl rfl (by decide +kernel) ⟨(Nat.le_of_ble_eq_true rfl), (Nat.le_of_ble_eq_true rfl)⟩) (pz_preV (C := ("java/util/ArrayList", TJx4a65c, 3)) hK hP hD hS hA hE 1 (ci := 17) rfl rfl [1, 2] rfl rfl) rfl rfl hl.1 rfl (lv_room (Nat.le_of_ble_eq_true rfl)) dX16_type_53 ⟨(Nat.le_of_ble_eq_true rfl), (Nat.le_of_ble_eq_true rfl)⟩) hP hD hS hA [1, 2] [0] rfl rfl rfl (by decide) (fun q2 H locs hP hD hS => ?_)
  have hP : va_P G.1 pz_cl [(a0, .inr (15, [.int 0, .ref a1, .ref a2, .ref a3, .ref a4, .int 0, .null])), (a1, .inr (17, [.int 1, .ref q2, .int 1])), (q1, .inr (16, [.int x0])), (q2, .inl (G.2 5, 10, .inr (.inr (.inr (.inr (va_up (fun _ => none) 0 (some q1)))))))] H := hP
  have hD : va_D A [(a0, .inr (15, [.int 0, .ref a1, .ref a2, .ref a3, .ref a4, .int 0, .null])), (a1, .inr (17, [.int 1, .ref q2, .int 1])), (q1, .inr (16, [.int x0])), (q2, .inl (G.2 5, 10, .inr (.inr (.inr (.inr (va_up (fun _ => none) 0 (some q1)))))))] := hD
  refine W.eq (g2 := F0 m 56 ls [.int 1]) rfl ?_
  refine lv_pop hx hb dX16_type_56 rfl ?_
  refine lv_aload_n hx hb dX16_type_57 rfl (lv_at hl 0 rfl) ?_
  refine va_get (D := G.1) (ci := 15) (v := .ref a1) (C := "SourcewrightModel") (T := TX16) (N := 7) hx hb hts inX16 hown hK hP 0 rfl rfl 1 (by decide) (hts _ wq_1814) (fun _ h9 => h9) rfl dX16_type_58 ?_
  refine pz_go (wr := [(a0, .inr (15, [.int 0, .ref a1, .ref a2, .ref a3, .ref a4, .int 0, .null])), (q1, .inr (16, [.int x0])), (q2, .inl (G.2 5, 10, .inr (.inr (.inr (.inr (va_up (fun _ => none) 0 (some q1)))))))]) (vx_runV (C := "java/util/ArrayList") (As := []) (rest := []) ⟨hx, hb, hml, hown, hts⟩ (cJx4a65c_size_8abf5_2 l hst G X H.size a1 q2) (cwV 0 hts (pz_gV wq_1846 wq_1847 wq_1848 wq_16 wq_1849) rfl rfl rfl (by decide +kernel) ⟨(Nat.le_of_ble_eq_true rfl), (Nat.le_of_ble_eq_true rfl)⟩) (pz_preV (C := ("java/util/ArrayList", TJx4a65c, 3)) hK hP hD hS hA hE 1 (ci := 17) rfl rfl [1] rfl rfl) rfl rfl hl.1 rfl (lv_room (Nat.le_of_ble_eq_true rfl)) dX16_type_61 ⟨(Nat.le_of_ble_eq_true rfl), (Nat.le_of_ble_eq_true rfl)⟩) hP hD hS hA [1] [0, 2, 3] rfl rfl rfl (by decide) (fun u H locs hP hD hS => ?_)
  have hP : va_P G.1 pz_cl [(a0, .inr (15, [.int 0, .ref a1, .ref a2, .ref a3, .ref a4, .int 0, .null])), (q1, .inr (16, [.int x0])), (q2, .inl (G.2 5, 10, .inr (.inr (.inr (.inr (va_up (fun _ => none) 0 (some q1))))))), (a1, .inr (17, [.int 1, .ref q2, .int 1]))] H := hP
  have hD : va_D A [(a0, .inr (15, [.int 0, .ref a1, .ref a2, .ref a3, .ref a4, .int 0, .null])), (q1, .inr (16, [.int x0])), (q2, .inl (G.2 5, 10, .inr (.inr (.inr (.inr (va_up (fun _ => none) 0 (some q1))))))), (a1, .inr (17, [.int 1, .ref q2, .int 1]))] := hD
  refine W.eq (g2 := F0 m 64 ls [.int 1]) rfl ?_
  exact pz_rz hx hb hr hlocks (by decide +kernel) hS (Nat.le_of_ble_eq_true rfl) (Nat.le_of_ble_eq_true rfl) dX16_type_64 (q1, q2) rfl (hP.sub [0, 3, 1, 2] rfl) (hD.sub [0, 3, 1, 2] rfl rfl)
set_option maxHeartbeats 4000000 in
set_option maxRecDepth 100000 in
theorem cX11_isByte_4 (l : Launch) (hst : l.stackTraces = false) (G : pz_G) (X : Nat → Nat) (sz : Nat) (x0 : Int32) (hx0l : (256 : Int) ≤ x0.toInt) (hx0h : x0.toInt ≤ (2147483647 : Int)) : pz_MR (S := Unit) l yX11_isByte (pz_cd yX11_isByte cX11_isByte 1 (some .boolean)) 0 0 0 0 G X sz [] [.int x0] (fun u => some (.int 0)) (fun u => []) := by
  refine pz_onR (by decide +kernel) (Nat.le_of_ble_eq_true rfl) ?_
  intro p e s m below meth c A hx hb hr hml hown hts hlocks hin hx0 hP hK hD hS hA hE ls hl
  have hown : s.vm.findClass "Sourcewright" = some m.cls := hown
  have hl : lv_has ls 1 [(0, .int x0)] := hl
  refine lv_iload_n hx hb dX11_isByte_0 rfl (lv_at hl 0 rfl) ?_
  refine lv_if_lt (tgt := 15) hx hb dX11_isByte_1 (by decide) (fun hc => by have h9 : (x0).toInt < 0 := pz_lt hc; omega) (fun _ => ?_)
  refine lv_iload_n hx hb dX11_isByte_4 rfl (lv_at hl 0 rfl) ?_
  refine lv_sipush (v := 255) hx hb dX11_isByte_5 (by decide) ?_
  refine lv_icmp_gt (tgt := 15) hx hb dX11_isByte_8 (by decide) (fun _ => ?_) (fun hc => by have h9 : (x0).toInt ≤ 255 := pz_nlt hc; omega)
  refine lv_iconst (v := 0) hx hb dX11_isByte_15 (by decide) ?_
  exact pz_rz hx hb hr hlocks (by decide +kernel) hS (Nat.le_of_ble_eq_true rfl) (Nat.le_of_ble_eq_true rfl) dX11_isByte_16 () rfl (hP.sub [] rfl) (hD.sub [] rfl rfl)
set_option maxHeartbeats 4000000 in
set_option maxRecDepth 100000 in
theorem cX11_type_4 (l : Launch) (hst : l.stackTraces = false) (G : pz_G) (X : Nat → Nat) (sz : Nat) (a0 : Nat) (x0 : Int32) (hx0l : (256 : Int) ≤ x0.toInt) (hx0h : x0.toInt ≤ (2147483647 : Int)) : pz_MT l yX11_type (pz_cd yX11_type cX11_type 2 (some .int)) 6 84 1 6 G X sz [] [.ref a0, .int x0] "java/lang/IllegalArgumentException" := by
  refine pz_onT (by decide +kernel) (Nat.le_of_ble_eq_true rfl) ?_
  intro p e s m below meth c A hx hb hr hml hown hts hlocks hin hx0 hP hK hD hS hA hE ls hl
  have hown : s.vm.findClass "Sourcewright" = some m.cls := hown
  have hl : lv_has ls 2 [(0, .ref a0), (1, .int x0)] := hl
  refine lv_iload_n hx hb dX11_type_0 rfl (lv_at hl 1 rfl) ?_
  refine pz_go (wr := []) (vx_runS (As := [.int x0]) (rest := []) ⟨hx, hb, hml, hown, hts⟩ (cX11_isByte_4 l hst G X s.heap.size x0 (by omega) (by omega)) (va_cwS 1 hts (pz_gS wq_1261 wq_1262 wq_1 wq_1263) rfl rfl rfl (by decide +kernel) ⟨(Nat.le_of_ble_eq_true rfl), (Nat.le_of_ble_eq_true rfl)⟩) (pz_preS hK hP hD hS hA hE [] rfl rfl) rfl rfl hl.1 rfl (lv_room (Nat.le_of_ble_eq_true rfl)) dX11_type_1 ⟨(Nat.le_of_ble_eq_true rfl), (Nat.le_of_ble_eq_true rfl)⟩) hP hD hS hA [] [] rfl rfl rfl (by decide) (fun u H locs hP hD hS => ?_)
  have hP : va_P G.1 pz_cl [] H := hP
  have hD : va_D A [] := hD
  refine W.eq (g2 := F0 m 4 ls [.int 0]) rfl ?_
  refine lv_if_ne (tgt := 17) hx hb dX11_type_4 (by decide) (fun hc => absurd hc (by decide)) (fun _ => ?_)
  obtain ⟨sa, hsa⟩ := hE.2.2.2.2.2.2.2.1 _ (str_Sourcewright_122)
  exact vx_throwS (names := ["java/lang/RuntimeException", "java/lang/Exception"]) hx hb hst hown (by decide +kernel) (by decide +kernel) (hts _ wq_1264) (hts _ wq_20) hsa (pz_hat hts hE.2.2.2.2.2.2.2.2.1 pz_at_Sourcewright_124) pz_hg_Sourcewright_124 hE.2.2.2.2.2.1.1 hE.2.2.2.2.2.1.2 hS (hl.1.trans hml.symm) dX11_type_7 dX11_type_10 dX11_type_11 dX11_type_13 dX11_type_16 (fun x h => (hx0 x h).elim) (Nat.le_of_ble_eq_true rfl) (Nat.le_of_ble_eq_true rfl) (Nat.le_of_ble_eq_true rfl) (Nat.le_of_ble_eq_true rfl) hlocks (fun t hvm hsz hkp => ⟨rfl, pz_thrF hS hsz hkp⟩) hS.2.2 (Nat.le_of_ble_eq_true rfl) (Nat.le_of_ble_eq_true rfl)
set_option maxHeartbeats 4000000 in
set_option maxRecDepth 100000 in
theorem cL_type_4 (l : Launch) (hst : l.stackTraces = false) (G : pz_G) (X : Nat → Nat) (sz : Nat) (a0 : Nat) (x0 : Int32) (a1 : Nat) (a2 : Nat) (a3 : Nat) (a4 : Nat) (a5 : Nat) (a6 : Nat) (a7 : Nat) (a8 : Nat) (a9 : Nat) (a10 : Nat) (a11 : Nat) (a12 : Nat) (a13 : Nat) (a14 : Nat) (hx0l : (256 : Int) ≤ x0.toInt) (hx0h : x0.toInt ≤ (2147483647 : Int)) : pz_MR (S := Unit) l yL_type (pz_cw yL_type cL_type 4 (some .int) [(0, 9, 12, 13), (0, 9, 15, 15)]) 7 105 1 6 G X sz [(a0, .inr (11, [.ref a2, .ref a3, .int 0, .ref a4, .int 0, .int 0, .ref a5, .ref a6, .ref a7, .ref a8, .ref a9, .ref a10, .ref a11, .ref a12, .ref a13, .ref a14, .int 0, .int (-1), .int (-1), .int 0]))] [.ref a0, .int x0, .ref a1] (fun u => some (.int 1)) (fun u => [(a0, .inr (11, [.ref a2, .ref a3, .int 0, .ref a4, .int 0, .int 0, .ref a5, .ref a6, .ref a7, .ref a8, .ref a9, .ref a10, .ref a11, .ref a12, .ref a13, .ref a14, .int 0, .int (-1), .int (-1), .int 0]))]) := by
  refine pz_onHR (by decide +kernel) (Nat.le_of_ble_eq_true rfl) ?_
  intro p e s m below meth c A hx hb hr hml hown hts hlocks hin hx0 hP hK hD hS hA hE ls hl
  have hown : s.vm.findClass "SourcewrightLaw" = some m.cls := hown
  have hl : lv_has ls 4 [(0, .ref a0), (1, .int x0), (2, .ref a1)] := hl
  refine lv_aload_n hx hb dL_type_0 rfl (lv_at hl 2 rfl) ?_
  refine lv_iconst (v := 0) hx hb dL_type_1 (by decide) ?_
  refine lv_aload_n hx hb dL_type_2 rfl (lv_at hl 0 rfl) ?_
  refine lv_iload_n hx hb dL_type_3 rfl (lv_at hl 1 rfl) ?_
  refine pz_goT (wr := [(a0, .inr (11, [.ref a2, .ref a3, .int 0, .ref a4, .int 0, .int 0, .ref a5, .ref a6, .ref a7, .ref a8, .ref a9, .ref a10, .ref a11, .ref a12, .ref a13, .ref a14, .int 0, .int (-1), .int (-1), .int 0]))]) (vx_runV (C := "Sourcewright") (As := [.int x0]) (rest := [.int 0, .ref a1]) ⟨hx, hb, hml, hown, hts⟩ (cX11_type_4 l hst G X s.heap.size a0 x0 (by omega) (by omega)) (cwV 1 hts (pz_gV wq_1257 wq_1258 wq_1259 wq_1 wq_1260) rfl rfl rfl (by decide +kernel) ⟨(Nat.le_of_ble_eq_true rfl), (Nat.le_of_ble_eq_true rfl)⟩) (pz_preV (C := ("Sourcewright", TX11, 20)) hK hP hD hS hA hE 0 (ci := 11) rfl rfl [] rfl rfl) rfl rfl hl.1 rfl (lv_room (Nat.le_of_ble_eq_true rfl)) dL_type_4 ⟨(Nat.le_of_ble_eq_true rfl), (Nat.le_of_ble_eq_true rfl)⟩) hP hD hS hA [] [0] rfl rfl rfl (by decide) (fun ce q9 H locs hP hD hS hce hcv hcl => ?_)
  refine vx_catch hown [] ⟨0, 9, 12, 13⟩ [⟨0, 9, 15, 15⟩] hx0 (fun z hz => by cases hz) rfl (by decide) (hts _ wq_1255) (va_Nw.use rfl (hE.2.2.2.2.2.2.2.2.1 _ nx_1266)) hce hcv hcl ?_
  have hP : va_P G.1 pz_cl [(a0, .inr (11, [.ref a2, .ref a3, .int 0, .ref a4, .int 0, .int 0, .ref a5, .ref a6, .ref a7, .ref a8, .ref a9, .ref a10, .ref a11, .ref a12, .ref a13, .ref a14, .int 0, .int (-1), .int (-1), .int 0]))] H := hP
  have hD : va_D A [(a0, .inr (11, [.ref a2, .ref a3, .int 0, .ref a4, .int 0, .int 0, .ref a5, .ref a6, .ref a7, .ref a8, .ref a9, .ref a10, .ref a11, .ref a12, .ref a13, .ref a14, .int 0, .int (-1), .int (-1), .int 0]))] := hD
  refine W.eq (g2 := F0 m 12 ls [.ref q9]) rfl ?_
  refine lv_astore_n (lv' := [(3, .ref q9), (0, .ref a0), (1, .int x0), (2, .ref a1)]) hx hb dL_type_12 rfl hl (by decide) rfl (fun ls hl => ?_)
  refine lv_iconst (v := 1) hx hb dL_type_13 (by decide) ?_
  exact pz_rz hx hb hr hlocks (by decide +kernel) hS (Nat.le_of_ble_eq_true rfl) (Nat.le_of_ble_eq_true rfl) dL_type_14 () rfl (hP.sub [0] rfl) (hD.sub [0] rfl rfl)
set_option maxHeartbeats 4000000 in
set_option maxRecDepth 100000 in
theorem cX16_in_4 (l : Launch) (hst : l.stackTraces = false) (G : pz_G) (X : Nat → Nat) (sz : Nat) (x0 : Int32) (hx0l : (256 : Int) ≤ x0.toInt) (hx0h : x0.toInt ≤ (2147483647 : Int)) : pz_MR (S := Unit) l yX16_in (pz_cd yX16_in cX16_in 3 (some .boolean)) 0 0 0 0 G X sz [] [.int x0, .int 0, .int 255] (fun u => some (.int 0)) (fun u => []) := by
  refine pz_onR (by decide +kernel) (Nat.le_of_ble_eq_true rfl) ?_
  intro p e s m below meth c A hx hb hr hml hown hts hlocks hin hx0 hP hK hD hS hA hE ls hl
  have hown : s.vm.findClass "SourcewrightModel" = some m.cls := hown
  have hl : lv_has ls 3 [(0, .int x0), (1, .int 0), (2, .int 255)] := hl
  refine lv_iload_n hx hb dX16_in_0 rfl (lv_at hl 0 rfl) ?_
  refine lv_iload_n hx hb dX16_in_1 rfl (lv_at hl 1 rfl) ?_
  refine lv_icmp_lt (tgt := 14) hx hb dX16_in_2 (by decide) (fun hc => by have h9 : (x0).toInt < 0 := pz_lt hc; omega) (fun _ => ?_)
  refine lv_iload_n hx hb dX16_in_5 rfl (lv_at hl 0 rfl) ?_
  refine lv_iload_n hx hb dX16_in_6 rfl (lv_at hl 2 rfl) ?_
  refine lv_icmp_gt (tgt := 14) hx hb dX16_in_7 (by decide) (fun _ => ?_) (fun hc => by have h9 : (x0).toInt ≤ 255 := pz_nlt hc; omega)
  refine lv_iconst (v := 0) hx hb dX16_in_14 (by decide) ?_
  exact pz_rz hx hb hr hlocks (by decide +kernel) hS (Nat.le_of_ble_eq_true rfl) (Nat.le_of_ble_eq_true rfl) dX16_in_15 () rfl (hP.sub [] rfl) (hD.sub [] rfl rfl)
set_option maxHeartbeats 4000000 in
set_option maxRecDepth 100000 in
theorem cX16_type_4 (l : Launch) (hst : l.stackTraces = false) (G : pz_G) (X : Nat → Nat) (sz : Nat) (a0 : Nat) (x0 : Int32) (a1 : Nat) (a2 : Nat) (a3 : Nat) (a4 : Nat) (hx0l : (256 : Int) ≤ x0.toInt) (hx0h : x0.toInt ≤ (2147483647 : Int)) : pz_MR (S := Unit) l yX16_type (pz_cd yX16_type cX16_type 2 (some .int)) 1 22 0 0 G X sz [(a0, .inr (15, [.int 0, .ref a1, .ref a2, .ref a3, .ref a4, .int 0, .null]))] [.ref a0, .int x0] (fun u => some (.int 0)) (fun u => [(a0, .inr (15, [.int 1, .ref a1, .ref a2, .ref a3, .ref a4, .int 0, .null]))]) := by
  refine pz_onR (by decide +kernel) (Nat.le_of_ble_eq_true rfl) ?_
  intro p e s m below meth c A hx hb hr hml hown hts hlocks hin hx0 hP hK hD hS hA hE ls hl
  have hown : s.vm.findClass "SourcewrightModel" = some m.cls := hown
  have hl : lv_has ls 2 [(0, .ref a0), (1, .int x0)] := hl
  refine lv_aload_n hx hb dX16_type_0 rfl (lv_at hl 0 rfl) ?_
  refine lv_iload_n hx hb dX16_type_1 rfl (lv_at hl 1 rfl) ?_
  refine lv_iconst (v := 0) hx hb dX16_type_2 (by decide) ?_
  refine lv_sipush (v := 255) hx hb dX16_type_3 (by decide) ?_
  refine pz_go (wr := [(a0, .inr (15, [.int 0, .ref a1, .ref a2, .ref a3, .ref a4, .int 0, .null]))]) (vx_runS (As := [.int x0, .int 0, .int 255]) (rest := [.ref a0]) ⟨hx, hb, hml, hown, hts⟩ (cX16_in_4 l hst G X s.heap.size x0 (by omega) (by omega)) (va_cwS 3 hts (pz_gS wq_1843 wq_1844 wq_13 wq_1845) rfl rfl rfl (by decide +kernel) ⟨(Nat.le_of_ble_eq_true rfl), (Nat.le_of_ble_eq_true rfl)⟩) (pz_preS hK hP hD hS hA hE [] rfl rfl) rfl rfl hl.1 rfl (lv_room (Nat.le_of_ble_eq_true rfl)) dX16_type_6 ⟨(Nat.le_of_ble_eq_true rfl), (Nat.le_of_ble_eq_true rfl)⟩) hP hD hS hA [] [0] rfl rfl rfl (by decide) (fun u H locs hP hD hS => ?_)
  have hP : va_P G.1 pz_cl [(a0, .inr (15, [.int 0, .ref a1, .ref a2, .ref a3, .ref a4, .int 0, .null]))] H := hP
  have hD : va_D A [(a0, .inr (15, [.int 0, .ref a1, .ref a2, .ref a3, .ref a4, .int 0, .null]))] := hD
  refine W.eq (g2 := F0 m 9 ls [.int 0, .ref a0]) rfl ?_
  refine lv_if_ne (tgt := 16) hx hb dX16_type_9 (by decide) (fun hc => absurd hc (by decide)) (fun _ => ?_)
  refine lv_iconst (v := 1) hx hb dX16_type_12 (by decide) ?_
  refine lv_goto (tgt := 33) hx hb dX16_type_13 (by decide) ?_
  refine va_put (D := G.1) (ci := 15) (v := .int 1) (ty := tyX16 0) (C := "SourcewrightModel") (T := TX16) (N := 7) hx hb hts inX16 tyX16 tyX16_ok nmX16 hown hK hP hD hS 0 rfl rfl 0 (by decide) (hts _ wq_1813) (fun _ h9 => h9) rfl (by decide +kernel) rfl rfl (Nat.le_of_ble_eq_true rfl) dX16_type_33 (fun H locs hP hD hS => ?_)
  have hP : va_P G.1 pz_cl [(a0, .inr (15, [.int 1, .ref a1, .ref a2, .ref a3, .ref a4, .int 0, .null]))] H := hP
  have hD : va_D A [(a0, .inr (15, [.int 1, .ref a1, .ref a2, .ref a3, .ref a4, .int 0, .null]))] := hD
  refine lv_aload_n hx hb dX16_type_36 rfl (lv_at hl 0 rfl) ?_
  refine va_get (D := G.1) (ci := 15) (v := .int 1) (C := "SourcewrightModel") (T := TX16) (N := 7) hx hb hts inX16 hown hK hP 0 rfl rfl 0 (by decide) (hts _ wq_1813) (fun _ h9 => h9) rfl dX16_type_37 ?_
  refine lv_if_le (tgt := 45) hx hb dX16_type_40 (by decide) (fun hc => absurd hc (by decide)) (fun _ => ?_)
  refine lv_iconst (v := 0) hx hb dX16_type_43 (by decide) ?_
  exact pz_rz hx hb hr hlocks (by decide +kernel) hS (Nat.le_of_ble_eq_true rfl) (Nat.le_of_ble_eq_true rfl) dX16_type_44 () rfl (hP.sub [0] rfl) (hD.sub [0] rfl rfl)
set_option maxHeartbeats 4000000 in
set_option maxRecDepth 100000 in
theorem cX11_checkPlace_1 (l : Launch) (hst : l.stackTraces = false) (G : pz_G) (X : Nat → Nat) (sz : Nat) (a0 : Nat) (x0 : Int32) (a1 : Nat) (a2 : Nat) (a3 : Nat) (a4 : Nat) (a5 : Nat) (a6 : Nat) (a7 : Nat) (a8 : Nat) (a9 : Nat) (a10 : Nat) (a11 : Nat) (a12 : Nat) (a13 : Nat) (a14 : Nat) (a15 : Nat) : pz_MT l yX11_checkPlace (pz_cd yX11_checkPlace cX11_checkPlace 2 none) 6 84 1 6 G X sz [(a0, .inr (11, [.ref a1, .ref a2, .int 0, .ref a3, .int 0, .int 0, .ref a4, .ref a5, .ref a6, .ref a7, .ref a8, .ref a9, .ref a10, .ref a11, .ref a12, .ref a13, .int 0, .int (-1), .int (-1), .int 0])), (a1, .inr (2, [.ref a14, .ref a15, .int 0]))] [.ref a0, .int x0] "java/lang/IndexOutOfBoundsException" := by
  refine pz_onT (by decide +kernel) (Nat.le_of_ble_eq_true rfl) ?_
  intro p e s m below meth c A hx hb hr hml hown hts hlocks hin hx0 hP hK hD hS hA hE ls hl
  have hown : s.vm.findClass "Sourcewright" = some m.cls := hown
  have hl : lv_has ls 2 [(0, .ref a0), (1, .int x0)] := hl
  have hlo_x0 : (-2147483648 : Int) ≤ x0.toInt := by have h9 := Int32.le_toInt x0; omega
  have hhi_x0 : x0.toInt ≤ (2147483647 : Int) := by have h9 := Int32.toInt_lt x0; omega
  refine lv_iload_n hx hb dX11_checkPlace_0 rfl (lv_at hl 1 rfl) ?_
  refine lv_if_lt (tgt := 15) hx hb dX11_checkPlace_1 (by decide) (fun hc => ?_) (fun hc => ?_)
  · have hf1 : (x0).toInt < 0 := pz_lt hc
    obtain ⟨sa, hsa⟩ := hE.2.2.2.2.2.2.2.1 _ (str_Sourcewright_268)
    exact vx_throwSW (names := ["java/lang/RuntimeException", "java/lang/Exception"]) hx hb hst hown (by decide +kernel) (by decide +kernel) (hts _ wq_1388) (hts _ wq_29) hsa (pz_hat hts hE.2.2.2.2.2.2.2.2.1 pz_at_Sourcewright_332) pz_hg_Sourcewright_332 hE.2.2.2.2.2.1.1 hE.2.2.2.2.2.1.2 hS (hl.1.trans hml.symm) dX11_checkPlace_15 dX11_checkPlace_18 dX11_checkPlace_19 dX11_checkPlace_22 dX11_checkPlace_25 (fun x h => (hx0 x h).elim) (Nat.le_of_ble_eq_true rfl) (Nat.le_of_ble_eq_true rfl) (Nat.le_of_ble_eq_true rfl) (Nat.le_of_ble_eq_true rfl) hlocks (fun t hvm hsz hkp => ⟨rfl, pz_thrF hS hsz hkp⟩) hS.2.2 (Nat.le_of_ble_eq_true rfl) (Nat.le_of_ble_eq_true rfl)
  · have hf1 : 0 ≤ (x0).toInt := pz_nlt hc
    refine lv_iload_n hx hb dX11_checkPlace_4 rfl (lv_at hl 1 rfl) ?_
    refine lv_aload_n hx hb dX11_checkPlace_5 rfl (lv_at hl 0 rfl) ?_
    refine va_get (D := G.1) (ci := 11) (v := .ref a1) (C := "Sourcewright") (T := TX11) (N := 20) hx hb hts inX11 hown hK hP 0 rfl rfl 0 (by decide) (hts _ wq_443) (fun _ h9 => h9) rfl dX11_checkPlace_6 ?_
    refine pz_go (wr := [(a0, .inr (11, [.ref a1, .ref a2, .int 0, .ref a3, .int 0, .int 0, .ref a4, .ref a5, .ref a6, .ref a7, .ref a8, .ref a9, .ref a10, .ref a11, .ref a12, .ref a13, .int 0, .int (-1), .int (-1), .int 0]))]) (vx_runV (C := "Sourcewright$Code") (As := []) (rest := [.int x0]) ⟨hx, hb, hml, hown, hts⟩ (cX2_count_1 l hst G X s.heap.size a1 a14 a15) (cwV 0 hts (pz_gV wq_508 wq_509 wq_510 wq_2 wq_511) rfl rfl rfl (by decide +kernel) ⟨(Nat.le_of_ble_eq_true rfl), (Nat.le_of_ble_eq_true rfl)⟩) (pz_preV (C := ("Sourcewright$Code", TX2, 3)) hK hP hD hS hA hE 1 (ci := 2) rfl rfl [1] rfl rfl) rfl rfl hl.1 rfl (lv_room (Nat.le_of_ble_eq_true rfl)) dX11_checkPlace_9 ⟨(Nat.le_of_ble_eq_true rfl), (Nat.le_of_ble_eq_true rfl)⟩) hP hD hS hA [1] [0] rfl rfl rfl (by decide) (fun u H locs hP hD hS => ?_)
    have hP : va_P G.1 pz_cl [(a0, .inr (11, [.ref a1, .ref a2, .int 0, .ref a3, .int 0, .int 0, .ref a4, .ref a5, .ref a6, .ref a7, .ref a8, .ref a9, .ref a10, .ref a11, .ref a12, .ref a13, .int 0, .int (-1), .int (-1), .int 0])), (a1, .inr (2, [.ref a14, .ref a15, .int 0]))] H := hP
    have hD : va_D A [(a0, .inr (11, [.ref a1, .ref a2, .int 0, .ref a3, .int 0, .int 0, .ref a4, .ref a5, .ref a6, .ref a7, .ref a8, .ref a9, .ref a10, .ref a11, .ref a12, .ref a13, .int 0, .int (-1), .int (-1), .int 0])), (a1, .inr (2, [.ref a14, .ref a15, .int 0]))] := hD
    refine W.eq (g2 := F0 m 12 ls [.int 0, .int x0]) rfl ?_
    refine lv_icmp_lt (tgt := 26) hx hb dX11_checkPlace_12 (by decide) (fun hc => by have h9 : (x0).toInt < 0 := pz_lt hc; omega) (fun _ => ?_)
    obtain ⟨sa, hsa⟩ := hE.2.2.2.2.2.2.2.1 _ (str_Sourcewright_268)
    exact vx_throwSW (names := ["java/lang/RuntimeException", "java/lang/Exception"]) hx hb hst hown (by decide +kernel) (by decide +kernel) (hts _ wq_1388) (hts _ wq_29) hsa (pz_hat hts hE.2.2.2.2.2.2.2.2.1 pz_at_Sourcewright_332) pz_hg_Sourcewright_332 hE.2.2.2.2.2.1.1 hE.2.2.2.2.2.1.2 hS (hl.1.trans hml.symm) dX11_checkPlace_15 dX11_checkPlace_18 dX11_checkPlace_19 dX11_checkPlace_22 dX11_checkPlace_25 (fun x h => (hx0 x h).elim) (Nat.le_of_ble_eq_true rfl) (Nat.le_of_ble_eq_true rfl) (Nat.le_of_ble_eq_true rfl) (Nat.le_of_ble_eq_true rfl) hlocks (fun t hvm hsz hkp => ⟨rfl, pz_thrF hS hsz hkp⟩) hS.2.2 (Nat.le_of_ble_eq_true rfl) (Nat.le_of_ble_eq_true rfl)
set_option maxHeartbeats 4000000 in
set_option maxRecDepth 100000 in
theorem cX11_set_1 (l : Launch) (hst : l.stackTraces = false) (G : pz_G) (X : Nat → Nat) (sz : Nat) (a0 : Nat) (x0 : Int32) (x1 : Int32) (a1 : Nat) (a2 : Nat) (a3 : Nat) (a4 : Nat) (a5 : Nat) (a6 : Nat) (a7 : Nat) (a8 : Nat) (a9 : Nat) (a10 : Nat) (a11 : Nat) (a12 : Nat) (a13 : Nat) (a14 : Nat) (a15 : Nat) : pz_MT l yX11_set (pz_cd yX11_set cX11_set 4 (some .int)) 7 105 1 6 G X sz [(a0, .inr (11, [.ref a1, .ref a2, .int 0, .ref a3, .int 0, .int 0, .ref a4, .ref a5, .ref a6, .ref a7, .ref a8, .ref a9, .ref a10, .ref a11, .ref a12, .ref a13, .int 0, .int (-1), .int (-1), .int 0])), (a1, .inr (2, [.ref a14, .ref a15, .int 0]))] [.ref a0, .int x0, .int x1] "java/lang/IndexOutOfBoundsException" := by
  refine pz_onT (by decide +kernel) (Nat.le_of_ble_eq_true rfl) ?_
  intro p e s m below meth c A hx hb hr hml hown hts hlocks hin hx0 hP hK hD hS hA hE ls hl
  have hown : s.vm.findClass "Sourcewright" = some m.cls := hown
  have hl : lv_has ls 4 [(0, .ref a0), (1, .int x0), (2, .int x1)] := hl
  have hlo_x0 : (-2147483648 : Int) ≤ x0.toInt := by have h9 := Int32.le_toInt x0; omega
  have hhi_x0 : x0.toInt ≤ (2147483647 : Int) := by have h9 := Int32.toInt_lt x0; omega
  have hlo_x1 : (-2147483648 : Int) ≤ x1.toInt := by have h9 := Int32.le_toInt x1; omega
  have hhi_x1 : x1.toInt ≤ (2147483647 : Int) := by have h9 := Int32.toInt_lt x1; omega
  refine lv_aload_n hx hb dX11_set_0 rfl (lv_at hl 0 rfl) ?_
  refine lv_iload_n hx hb dX11_set_1 rfl (lv_at hl 1 rfl) ?_
  refine pz_goT (wr := []) (vx_runV (C := "Sourcewright") (As := [.int x0]) (rest := []) ⟨hx, hb, hml, hown, hts⟩ (cX11_checkPlace_1 l hst G X s.heap.size a0 x0 a1 a2 a3 a4 a5 a6 a7 a8 a9 a10 a11 a12 a13 a14 a15) (cwV 1 hts (pz_gV wq_1384 wq_1386 wqs_75 wq_1 wq_1387) rfl rfl rfl (by decide +kernel) ⟨(Nat.le_of_ble_eq_true rfl), (Nat.le_of_ble_eq_true rfl)⟩) (pz_preV (C := ("Sourcewright", TX11, 20)) hK hP hD hS hA hE 0 (ci := 11) rfl rfl [0, 1] rfl rfl) rfl rfl hl.1 rfl (lv_room (Nat.le_of_ble_eq_true rfl)) dX11_set_2 ⟨(Nat.le_of_ble_eq_true rfl), (Nat.le_of_ble_eq_true rfl)⟩) hP hD hS hA [0, 1] [] rfl rfl rfl (by decide) (fun ce q9 H locs hP hD hS hce hcv hcl => ?_)
  exact pz_out hx0 hlocks hce hcv hcl hS (Nat.le_of_ble_eq_true rfl) (Nat.le_of_ble_eq_true rfl)
set_option maxHeartbeats 4000000 in
set_option maxRecDepth 100000 in
theorem cL_set_1 (l : Launch) (hst : l.stackTraces = false) (G : pz_G) (X : Nat → Nat) (sz : Nat) (a0 : Nat) (x0 : Int32) (x1 : Int32) (a1 : Nat) (a2 : Nat) (a3 : Nat) (a4 : Nat) (a5 : Nat) (a6 : Nat) (a7 : Nat) (a8 : Nat) (a9 : Nat) (a10 : Nat) (a11 : Nat) (a12 : Nat) (a13 : Nat) (a14 : Nat) (a15 : Nat) (a16 : Nat) : pz_MR (S := Unit) l yL_set (pz_cw yL_set cL_set 5 (some .int) [(0, 10, 13, 21), (0, 10, 17, 13)]) 8 128 1 6 G X sz [(a0, .inr (11, [.ref a2, .ref a3, .int 0, .ref a4, .int 0, .int 0, .ref a5, .ref a6, .ref a7, .ref a8, .ref a9, .ref a10, .ref a11, .ref a12, .ref a13, .ref a14, .int 0, .int (-1), .int (-1), .int 0])), (a2, .inr (2, [.ref a15, .ref a16, .int 0]))] [.ref a0, .int x0, .int x1, .ref a1] (fun u => some (.int 1)) (fun u => []) := by
  refine pz_onHR (by decide +kernel) (Nat.le_of_ble_eq_true rfl) ?_
  intro p e s m below meth c A hx hb hr hml hown hts hlocks hin hx0 hP hK hD hS hA hE ls hl
  have hown : s.vm.findClass "SourcewrightLaw" = some m.cls := hown
  have hl : lv_has ls 5 [(0, .ref a0), (1, .int x0), (2, .int x1), (3, .ref a1)] := hl
  have hlo_x0 : (-2147483648 : Int) ≤ x0.toInt := by have h9 := Int32.le_toInt x0; omega
  have hhi_x0 : x0.toInt ≤ (2147483647 : Int) := by have h9 := Int32.toInt_lt x0; omega
  have hlo_x1 : (-2147483648 : Int) ≤ x1.toInt := by have h9 := Int32.le_toInt x1; omega
  have hhi_x1 : x1.toInt ≤ (2147483647 : Int) := by have h9 := Int32.toInt_lt x1; omega
  refine lv_aload_n hx hb dL_set_0 rfl (lv_at hl 3 rfl) ?_
  refine lv_iconst (v := 0) hx hb dL_set_1 (by decide) ?_
  refine lv_aload_n hx hb dL_set_2 rfl (lv_at hl 0 rfl) ?_
  refine lv_iload_n hx hb dL_set_3 rfl (lv_at hl 1 rfl) ?_
  refine lv_iload_n hx hb dL_set_4 rfl (lv_at hl 2 rfl) ?_
  refine pz_goT (wr := []) (vx_runV (C := "Sourcewright") (As := [.int x0, .int x1]) (rest := [.int 0, .ref a1]) ⟨hx, hb, hml, hown, hts⟩ (cX11_set_1 l hst G X s.heap.size a0 x0 x1 a2 a3 a4 a5 a6 a7 a8 a9 a10 a11 a12 a13 a14 a15 a16) (cwV 2 hts (pz_gV wq_1380 wq_1381 wq_1382 wq_1 wq_1383) rfl rfl rfl (by decide +kernel) ⟨(Nat.le_of_ble_eq_true rfl), (Nat.le_of_ble_eq_true rfl)⟩) (pz_preV (C := ("Sourcewright", TX11, 20)) hK hP hD hS hA hE 0 (ci := 11) rfl rfl [0, 1] rfl rfl) rfl rfl hl.1 rfl (lv_room (Nat.le_of_ble_eq_true rfl)) dL_set_5 ⟨(Nat.le_of_ble_eq_true rfl), (Nat.le_of_ble_eq_true rfl)⟩) hP hD hS hA [0, 1] [] rfl rfl rfl (by decide) (fun ce q9 H locs hP hD hS hce hcv hcl => ?_)
  refine vx_catch hown [] ⟨0, 10, 13, 21⟩ [⟨0, 10, 17, 13⟩] hx0 (fun z hz => by cases hz) rfl (by decide) (hts _ wq_1356) (va_Nw.use rfl (hE.2.2.2.2.2.2.2.2.1 _ nx_1390)) hce hcv hcl ?_
  have hP : va_P G.1 pz_cl [] H := hP
  have hD : va_D A [] := hD
  refine W.eq (g2 := F0 m 13 ls [.ref q9]) rfl ?_
  refine lv_astore (lv' := [(4, .ref q9), (0, .ref a0), (1, .int x0), (2, .int x1), (3, .ref a1)]) hx hb dL_set_13 hl (by decide) rfl (fun ls hl => ?_)
  refine lv_iconst (v := 1) hx hb dL_set_15 (by decide) ?_
  exact pz_rz hx hb hr hlocks (by decide +kernel) hS (Nat.le_of_ble_eq_true rfl) (Nat.le_of_ble_eq_true rfl) dL_set_16 () rfl (hP.sub [] rfl) (hD.sub [] rfl rfl)
set_option maxHeartbeats 4000000 in
set_option maxRecDepth 100000 in
theorem cX16_in_5 (l : Launch) (hst : l.stackTraces = false) (G : pz_G) (X : Nat → Nat) (sz : Nat) (x0 : Int32) : pz_MR (S := Unit) l yX16_in (pz_cd yX16_in cX16_in 3 (some .boolean)) 0 0 0 0 G X sz [] [.int x0, .int 0, .int (-1)] (fun u => some (.int 0)) (fun u => []) := by
  refine pz_onR (by decide +kernel) (Nat.le_of_ble_eq_true rfl) ?_
  intro p e s m below meth c A hx hb hr hml hown hts hlocks hin hx0 hP hK hD hS hA hE ls hl
  have hown : s.vm.findClass "SourcewrightModel" = some m.cls := hown
  have hl : lv_has ls 3 [(0, .int x0), (1, .int 0), (2, .int (-1))] := hl
  have hlo_x0 : (-2147483648 : Int) ≤ x0.toInt := by have h9 := Int32.le_toInt x0; omega
  have hhi_x0 : x0.toInt ≤ (2147483647 : Int) := by have h9 := Int32.toInt_lt x0; omega
  refine lv_iload_n hx hb dX16_in_0 rfl (lv_at hl 0 rfl) ?_
  refine lv_iload_n hx hb dX16_in_1 rfl (lv_at hl 1 rfl) ?_
  refine lv_icmp_lt (tgt := 14) hx hb dX16_in_2 (by decide) (fun hc => ?_) (fun hc => ?_)
  · have hf1 : (x0).toInt < 0 := pz_lt hc
    refine lv_iconst (v := 0) hx hb dX16_in_14 (by decide) ?_
    exact pz_rz hx hb hr hlocks (by decide +kernel) hS (Nat.le_of_ble_eq_true rfl) (Nat.le_of_ble_eq_true rfl) dX16_in_15 () rfl (hP.sub [] rfl) (hD.sub [] rfl rfl)
  · have hf1 : 0 ≤ (x0).toInt := pz_nlt hc
    refine lv_iload_n hx hb dX16_in_5 rfl (lv_at hl 0 rfl) ?_
    refine lv_iload_n hx hb dX16_in_6 rfl (lv_at hl 2 rfl) ?_
    refine lv_icmp_gt (tgt := 14) hx hb dX16_in_7 (by decide) (fun _ => ?_) (fun hc => by have h9 : (x0).toInt ≤ (-1) := pz_nlt hc; omega)
    refine lv_iconst (v := 0) hx hb dX16_in_14 (by decide) ?_
    exact pz_rz hx hb hr hlocks (by decide +kernel) hS (Nat.le_of_ble_eq_true rfl) (Nat.le_of_ble_eq_true rfl) dX16_in_15 () rfl (hP.sub [] rfl) (hD.sub [] rfl rfl)
set_option maxHeartbeats 4000000 in
set_option maxRecDepth 100000 in
theorem cX16_noByte_1 (l : Launch) (hst : l.stackTraces = false) (G : pz_G) (X : Nat → Nat) (sz : Nat) (a0 : Nat) (x0 : Int32) (a1 : Nat) (a2 : Nat) (a3 : Nat) (a4 : Nat) : pz_MR (S := Unit) l yX16_noByte (pz_cd yX16_noByte cX16_noByte 2 (some .boolean)) 1 22 0 0 G X sz [(a0, .inr (15, [.int 0, .ref a1, .ref a2, .ref a3, .ref a4, .int 0, .null])), (a1, .inr (17, [.int 0, .ref (X 3), .int 0]))] [.ref a0, .int x0] (fun u => some (.int 1)) (fun u => [(a0, .inr (15, [.int 1, .ref a1, .ref a2, .ref a3, .ref a4, .int 0, .null])), (a1, .inr (17, [.int 0, .ref (X 3), .int 0]))]) := by
  refine pz_onR (by decide +kernel) (Nat.le_of_ble_eq_true rfl) ?_
  intro p e s m below meth c A hx hb hr hml hown hts hlocks hin hx0 hP hK hD hS hA hE ls hl
  have hown : s.vm.findClass "SourcewrightModel" = some m.cls := hown
  have hl : lv_has ls 2 [(0, .ref a0), (1, .int x0)] := hl
  have hlo_x0 : (-2147483648 : Int) ≤ x0.toInt := by have h9 := Int32.le_toInt x0; omega
  have hhi_x0 : x0.toInt ≤ (2147483647 : Int) := by have h9 := Int32.toInt_lt x0; omega
  refine lv_aload_n hx hb dX16_noByte_0 rfl (lv_at hl 0 rfl) ?_
  refine lv_iload_n hx hb dX16_noByte_1 rfl (lv_at hl 1 rfl) ?_
  refine lv_iconst (v := 0) hx hb dX16_noByte_2 (by decide) ?_
  refine lv_aload_n hx hb dX16_noByte_3 rfl (lv_at hl 0 rfl) ?_
  refine va_get (D := G.1) (ci := 15) (v := .ref a1) (C := "SourcewrightModel") (T := TX16) (N := 7) hx hb hts inX16 hown hK hP 0 rfl rfl 1 (by decide) (hts _ wq_1814) (fun _ h9 => h9) rfl dX16_noByte_4 ?_
  refine pz_go (wr := [(a0, .inr (15, [.int 0, .ref a1, .ref a2, .ref a3, .ref a4, .int 0, .null]))]) (vx_runV (C := "java/util/ArrayList") (As := []) (rest := [.int 0, .int x0, .ref a0]) ⟨hx, hb, hml, hown, hts⟩ (cJx4a65c_size_8abf5_1 l hst G X s.heap.size a1) (cwV 0 hts (pz_gV wq_1846 wq_1847 wq_1848 wq_16 wq_1849) rfl rfl rfl (by decide +kernel) ⟨(Nat.le_of_ble_eq_true rfl), (Nat.le_of_ble_eq_true rfl)⟩) (pz_preV (C := ("java/util/ArrayList", TJx4a65c, 3)) hK hP hD hS hA hE 1 (ci := 17) rfl rfl [1] rfl rfl) rfl rfl hl.1 rfl (lv_room (Nat.le_of_ble_eq_true rfl)) dX16_noByte_7 ⟨(Nat.le_of_ble_eq_true rfl), (Nat.le_of_ble_eq_true rfl)⟩) hP hD hS hA [1] [0] rfl rfl rfl (by decide) (fun u H locs hP hD hS => ?_)
  have hP : va_P G.1 pz_cl [(a0, .inr (15, [.int 0, .ref a1, .ref a2, .ref a3, .ref a4, .int 0, .null])), (a1, .inr (17, [.int 0, .ref (X 3), .int 0]))] H := hP
  have hD : va_D A [(a0, .inr (15, [.int 0, .ref a1, .ref a2, .ref a3, .ref a4, .int 0, .null])), (a1, .inr (17, [.int 0, .ref (X 3), .int 0]))] := hD
  refine W.eq (g2 := F0 m 10 ls [.int 0, .int 0, .int x0, .ref a0]) rfl ?_
  refine lv_iconst (v := 1) hx hb dX16_noByte_10 (by decide) ?_
  refine lv_isub hx hb dX16_noByte_11 (pz_K (y := (-1)) (by decide) ?_)
  refine pz_go (wr := [(a0, .inr (15, [.int 0, .ref a1, .ref a2, .ref a3, .ref a4, .int 0, .null])), (a1, .inr (17, [.int 0, .ref (X 3), .int 0]))]) (vx_runS (As := [.int x0, .int 0, .int (-1)]) (rest := [.ref a0]) ⟨hx, hb, hml, hown, hts⟩ (cX16_in_5 l hst G X H.size x0) (va_cwS 3 hts (pz_gS wq_1843 wq_1844 wq_13 wq_1845) rfl rfl rfl (by decide +kernel) ⟨(Nat.le_of_ble_eq_true rfl), (Nat.le_of_ble_eq_true rfl)⟩) (pz_preS hK hP hD hS hA hE [] rfl rfl) rfl rfl hl.1 rfl (lv_room (Nat.le_of_ble_eq_true rfl)) dX16_noByte_12 ⟨(Nat.le_of_ble_eq_true rfl), (Nat.le_of_ble_eq_true rfl)⟩) hP hD hS hA [] [0, 1] rfl rfl rfl (by decide) (fun u H locs hP hD hS => ?_)
  have hP : va_P G.1 pz_cl [(a0, .inr (15, [.int 0, .ref a1, .ref a2, .ref a3, .ref a4, .int 0, .null])), (a1, .inr (17, [.int 0, .ref (X 3), .int 0]))] H := hP
  have hD : va_D A [(a0, .inr (15, [.int 0, .ref a1, .ref a2, .ref a3, .ref a4, .int 0, .null])), (a1, .inr (17, [.int 0, .ref (X 3), .int 0]))] := hD
  refine W.eq (g2 := F0 m 15 ls [.int 0, .ref a0]) rfl ?_
  refine lv_if_eq (tgt := 22) hx hb dX16_noByte_15 (by decide) (fun _ => ?_) (fun hc => absurd hc (by decide))
  refine lv_iconst (v := 1) hx hb dX16_noByte_22 (by decide) ?_
  refine va_put (D := G.1) (ci := 15) (v := .int 1) (ty := tyX16 0) (C := "SourcewrightModel") (T := TX16) (N := 7) hx hb hts inX16 tyX16 tyX16_ok nmX16 hown hK hP hD hS 0 rfl rfl 0 (by decide) (hts _ wq_1813) (fun _ h9 => h9) rfl (by decide +kernel) rfl rfl (Nat.le_of_ble_eq_true rfl) dX16_noByte_23 (fun H locs hP hD hS => ?_)
  have hP : va_P G.1 pz_cl [(a0, .inr (15, [.int 1, .ref a1, .ref a2, .ref a3, .ref a4, .int 0, .null])), (a1, .inr (17, [.int 0, .ref (X 3), .int 0]))] H := hP
  have hD : va_D A [(a0, .inr (15, [.int 1, .ref a1, .ref a2, .ref a3, .ref a4, .int 0, .null])), (a1, .inr (17, [.int 0, .ref (X 3), .int 0]))] := hD
  refine lv_aload_n hx hb dX16_noByte_26 rfl (lv_at hl 0 rfl) ?_
  refine va_get (D := G.1) (ci := 15) (v := .int 1) (C := "SourcewrightModel") (T := TX16) (N := 7) hx hb hts inX16 hown hK hP 0 rfl rfl 0 (by decide) (hts _ wq_1813) (fun _ h9 => h9) rfl dX16_noByte_27 ?_
  refine lv_if_le (tgt := 37) hx hb dX16_noByte_30 (by decide) (fun hc => absurd hc (by decide)) (fun _ => ?_)
  refine lv_iconst (v := 1) hx hb dX16_noByte_33 (by decide) ?_
  refine lv_goto (tgt := 38) hx hb dX16_noByte_34 (by decide) ?_
  exact pz_rz hx hb hr hlocks (by decide +kernel) hS (Nat.le_of_ble_eq_true rfl) (Nat.le_of_ble_eq_true rfl) dX16_noByte_38 () rfl (hP.sub [0, 1] rfl) (hD.sub [0, 1] rfl rfl)
set_option maxHeartbeats 4000000 in
set_option maxRecDepth 100000 in
theorem cX16_set_1 (l : Launch) (hst : l.stackTraces = false) (G : pz_G) (X : Nat → Nat) (sz : Nat) (a0 : Nat) (x0 : Int32) (x1 : Int32) (a1 : Nat) (a2 : Nat) (a3 : Nat) (a4 : Nat) : pz_MR (S := Unit) l yX16_set (pz_cd yX16_set cX16_set 3 (some .int)) 2 43 0 0 G X sz [(a0, .inr (15, [.int 0, .ref a1, .ref a2, .ref a3, .ref a4, .int 0, .null])), (a1, .inr (17, [.int 0, .ref (X 3), .int 0]))] [.ref a0, .int x0, .int x1] (fun u => some (.int 0)) (fun u => [(a0, .inr (15, [.int 1, .ref a1, .ref a2, .ref a3, .ref a4, .int 0, .null])), (a1, .inr (17, [.int 0, .ref (X 3), .int 0]))]) := by
  refine pz_onR (by decide +kernel) (Nat.le_of_ble_eq_true rfl) ?_
  intro p e s m below meth c A hx hb hr hml hown hts hlocks hin hx0 hP hK hD hS hA hE ls hl
  have hown : s.vm.findClass "SourcewrightModel" = some m.cls := hown
  have hl : lv_has ls 3 [(0, .ref a0), (1, .int x0), (2, .int x1)] := hl
  have hlo_x0 : (-2147483648 : Int) ≤ x0.toInt := by have h9 := Int32.le_toInt x0; omega
  have hhi_x0 : x0.toInt ≤ (2147483647 : Int) := by have h9 := Int32.toInt_lt x0; omega
  have hlo_x1 : (-2147483648 : Int) ≤ x1.toInt := by have h9 := Int32.le_toInt x1; omega
  have hhi_x1 : x1.toInt ≤ (2147483647 : Int) := by have h9 := Int32.toInt_lt x1; omega
  refine lv_aload_n hx hb dX16_set_0 rfl (lv_at hl 0 rfl) ?_
  refine lv_iload_n hx hb dX16_set_1 rfl (lv_at hl 1 rfl) ?_
  refine pz_go (wr := []) (vx_runV (C := "SourcewrightModel") (As := [.int x0]) (rest := []) ⟨hx, hb, hml, hown, hts⟩ (cX16_noByte_1 l hst G X s.heap.size a0 x0 a1 a2 a3 a4) (cwV 1 hts (pz_gV wq_1945 wq_1947 wqs_87 wq_13 wq_1948) rfl rfl rfl (by decide +kernel) ⟨(Nat.le_of_ble_eq_true rfl), (Nat.le_of_ble_eq_true rfl)⟩) (pz_preV (C := ("SourcewrightModel", TX16, 7)) hK hP hD hS hA hE 0 (ci := 15) rfl rfl [0, 1] rfl rfl) rfl rfl hl.1 rfl (lv_room (Nat.le_of_ble_eq_true rfl)) dX16_set_2 ⟨(Nat.le_of_ble_eq_true rfl), (Nat.le_of_ble_eq_true rfl)⟩) hP hD hS hA [0, 1] [] rfl rfl rfl (by decide) (fun u H locs hP hD hS => ?_)
  have hP : va_P G.1 pz_cl [(a0, .inr (15, [.int 1, .ref a1, .ref a2, .ref a3, .ref a4, .int 0, .null])), (a1, .inr (17, [.int 0, .ref (X 3), .int 0]))] H := hP
  have hD : va_D A [(a0, .inr (15, [.int 1, .ref a1, .ref a2, .ref a3, .ref a4, .int 0, .null])), (a1, .inr (17, [.int 0, .ref (X 3), .int 0]))] := hD
  refine W.eq (g2 := F0 m 5 ls [.int 1]) rfl ?_
  refine lv_if_eq (tgt := 10) hx hb dX16_set_5 (by decide) (fun hc => absurd hc (by decide)) (fun _ => ?_)
  refine lv_iconst (v := 0) hx hb dX16_set_8 (by decide) ?_
  exact pz_rz hx hb hr hlocks (by decide +kernel) hS (Nat.le_of_ble_eq_true rfl) (Nat.le_of_ble_eq_true rfl) dX16_set_9 () rfl (hP.sub [0, 1] rfl) (hD.sub [0, 1] rfl rfl)
set_option maxHeartbeats 4000000 in
set_option maxRecDepth 100000 in
theorem cX2_cut_2 (l : Launch) (hst : l.stackTraces = false) (G : pz_G) (X : Nat → Nat) (sz : Nat) (a0 : Nat) (a1 : Nat) (a2 : Nat) (f0 : Nat → Int32) : pz_MR (S := Unit) l yX2_cut (pz_cd yX2_cut cX2_cut 2 none) 1 14 0 0 G X sz [(a0, .inr (2, [.ref a1, .ref a2, .int 0])), (a1, .inl (G.2 0, 240, .inl (f0)))] [.ref a0, .int 0] (fun u => none) (fun u => [(a0, .inr (2, [.ref a1, .ref a2, .int 0])), (a1, .inl (G.2 0, 240, .inl (f0)))]) := by
  refine pz_onR (by decide +kernel) (Nat.le_of_ble_eq_true rfl) ?_
  intro p e s m below meth c A hx hb hr hml hown hts hlocks hin hx0 hP hK hD hS hA hE ls hl
  have hown : s.vm.findClass "Sourcewright$Code" = some m.cls := hown
  have hl : lv_has ls 2 [(0, .ref a0), (1, .int 0)] := hl
  refine lv_aload_n hx hb dX2_cut_0 rfl (lv_at hl 0 rfl) ?_
  refine lv_iload_n hx hb dX2_cut_1 rfl (lv_at hl 1 rfl) ?_
  refine lv_if_ge (tgt := 9) hx hb dX2_cut_2 (by decide) (fun _ => ?_) (fun hc => absurd hc (by decide))
  refine lv_iload_n hx hb dX2_cut_9 rfl (lv_at hl 1 rfl) ?_
  refine lv_aload_n hx hb dX2_cut_10 rfl (lv_at hl 0 rfl) ?_
  refine va_get (D := G.1) (ci := 2) (v := .ref a1) (C := "Sourcewright$Code") (T := TX2) (N := 3) hx hb hts inX2 hown hK hP 0 rfl rfl 0 (by decide) (hts _ wq_62) (fun _ h9 => h9) rfl dX2_cut_11 ?_
  refine va_alen (v := 240) hx hb hK hP 1 0 rfl rfl (by show Int32.ofNat 240 = 240; decide) dX2_cut_14 ?_
  refine va_mmin hx hb (hml.trans hl.1.symm) hown (hts _ wq_516) (hts _ wq_517) (hts _ wq_22) (hts _ wq_518) (Nat.le_of_ble_eq_true rfl) (Nat.le_of_ble_eq_true rfl) (Nat.le_of_ble_eq_true rfl) (Nat.le_of_ble_eq_true rfl) dX2_cut_15 (pz_K (y := 0) (by decide) ?_)
  refine va_put (D := G.1) (ci := 2) (v := .int 0) (ty := tyX2 2) (C := "Sourcewright$Code") (T := TX2) (N := 3) hx hb hts inX2 tyX2 tyX2_ok nmX2 hown hK hP hD hS 0 rfl rfl 2 (by decide) (hts _ wq_64) (fun _ h9 => h9) rfl (by decide +kernel) rfl rfl (Nat.le_of_ble_eq_true rfl) dX2_cut_18 (fun H locs hP hD hS => ?_)
  have hP : va_P G.1 pz_cl [(a0, .inr (2, [.ref a1, .ref a2, .int 0])), (a1, .inl (G.2 0, 240, .inl (f0)))] H := hP
  have hD : va_D A [(a0, .inr (2, [.ref a1, .ref a2, .int 0])), (a1, .inl (G.2 0, 240, .inl (f0)))] := hD
  exact pz_rv hx hb hr hlocks hS (Nat.le_of_ble_eq_true rfl) (Nat.le_of_ble_eq_true rfl) dX2_cut_21 () rfl (hP.sub [0, 1] rfl) (hD.sub [0, 1] rfl rfl)
set_option maxHeartbeats 4000000 in
set_option maxRecDepth 100000 in
theorem cX11_wipe_1 (l : Launch) (hst : l.stackTraces = false) (G : pz_G) (X : Nat → Nat) (sz : Nat) (a0 : Nat) (a1 : Nat) (a2 : Nat) (a3 : Nat) (a4 : Nat) (a5 : Nat) (a6 : Nat) (a7 : Nat) (a8 : Nat) (a9 : Nat) (a10 : Nat) (a11 : Nat) (a12 : Nat) (a13 : Nat) (a14 : Nat) (a15 : Nat) (f0 : Nat → Int32) : pz_MR (S := Unit) l yX11_wipe (pz_cd yX11_wipe cX11_wipe 2 (some .int)) 2 35 0 0 G X sz [(a0, .inr (11, [.ref a1, .ref a3, .int 0, .ref a4, .int 0, .int 0, .ref a5, .ref a6, .ref a7, .ref a8, .ref a9, .ref a10, .ref a11, .ref a12, .ref a13, .ref a14, .int 0, .int (-1), .int (-1), .int 0])), (a1, .inr (2, [.ref a2, .ref a15, .int 0])), (a2, .inl (G.2 0, 240, .inl (f0)))] [.ref a0] (fun u => some (.int 0)) (fun u => [(a0, .inr (11, [.ref a1, .ref a3, .int 0, .ref a4, .int 0, .int 0, .ref a5, .ref a6, .ref a7, .ref a8, .ref a9, .ref a10, .ref a11, .ref a12, .ref a13, .ref a14, .int 0, .int (-1), .int (-1), .int 0])), (a1, .inr (2, [.ref a2, .ref a15, .int 0])), (a2, .inl (G.2 0, 240, .inl (f0)))]) := by
  refine pz_onR (by decide +kernel) (Nat.le_of_ble_eq_true rfl) ?_
  intro p e s m below meth c A hx hb hr hml hown hts hlocks hin hx0 hP hK hD hS hA hE ls hl
  have hown : s.vm.findClass "Sourcewright" = some m.cls := hown
  have hl : lv_has ls 2 [(0, .ref a0)] := hl
  refine lv_aload_n hx hb dX11_wipe_0 rfl (lv_at hl 0 rfl) ?_
  refine va_get (D := G.1) (ci := 11) (v := .ref a1) (C := "Sourcewright") (T := TX11) (N := 20) hx hb hts inX11 hown hK hP 0 rfl rfl 0 (by decide) (hts _ wq_443) (fun _ h9 => h9) rfl dX11_wipe_1 ?_
  refine pz_go (wr := [(a0, .inr (11, [.ref a1, .ref a3, .int 0, .ref a4, .int 0, .int 0, .ref a5, .ref a6, .ref a7, .ref a8, .ref a9, .ref a10, .ref a11, .ref a12, .ref a13, .ref a14, .int 0, .int (-1), .int (-1), .int 0])), (a2, .inl (G.2 0, 240, .inl (f0)))]) (vx_runV (C := "Sourcewright$Code") (As := []) (rest := []) ⟨hx, hb, hml, hown, hts⟩ (cX2_count_1 l hst G X s.heap.size a1 a2 a15) (cwV 0 hts (pz_gV wq_508 wq_509 wq_510 wq_2 wq_511) rfl rfl rfl (by decide +kernel) ⟨(Nat.le_of_ble_eq_true rfl), (Nat.le_of_ble_eq_true rfl)⟩) (pz_preV (C := ("Sourcewright$Code", TX2, 3)) hK hP hD hS hA hE 1 (ci := 2) rfl rfl [1] rfl rfl) rfl rfl hl.1 rfl (lv_room (Nat.le_of_ble_eq_true rfl)) dX11_wipe_4 ⟨(Nat.le_of_ble_eq_true rfl), (Nat.le_of_ble_eq_true rfl)⟩) hP hD hS hA [1] [0, 2] rfl rfl rfl (by decide) (fun u H locs hP hD hS => ?_)
  have hP : va_P G.1 pz_cl [(a0, .inr (11, [.ref a1, .ref a3, .int 0, .ref a4, .int 0, .int 0, .ref a5, .ref a6, .ref a7, .ref a8, .ref a9, .ref a10, .ref a11, .ref a12, .ref a13, .ref a14, .int 0, .int (-1), .int (-1), .int 0])), (a2, .inl (G.2 0, 240, .inl (f0))), (a1, .inr (2, [.ref a2, .ref a15, .int 0]))] H := hP
  have hD : va_D A [(a0, .inr (11, [.ref a1, .ref a3, .int 0, .ref a4, .int 0, .int 0, .ref a5, .ref a6, .ref a7, .ref a8, .ref a9, .ref a10, .ref a11, .ref a12, .ref a13, .ref a14, .int 0, .int (-1), .int (-1), .int 0])), (a2, .inl (G.2 0, 240, .inl (f0))), (a1, .inr (2, [.ref a2, .ref a15, .int 0]))] := hD
  refine W.eq (g2 := F0 m 7 ls [.int 0]) rfl ?_
  refine lv_istore_n (lv' := [(1, .int 0), (0, .ref a0)]) hx hb dX11_wipe_7 rfl hl (by decide) rfl (fun ls hl => ?_)
  refine lv_aload_n hx hb dX11_wipe_8 rfl (lv_at hl 1 rfl) ?_
  refine va_get (D := G.1) (ci := 11) (v := .ref a1) (C := "Sourcewright") (T := TX11) (N := 20) hx hb hts inX11 hown hK hP 0 rfl rfl 0 (by decide) (hts _ wq_443) (fun _ h9 => h9) rfl dX11_wipe_9 ?_
  refine lv_iconst (v := 0) hx hb dX11_wipe_12 (by decide) ?_
  refine pz_go (wr := [(a0, .inr (11, [.ref a1, .ref a3, .int 0, .ref a4, .int 0, .int 0, .ref a5, .ref a6, .ref a7, .ref a8, .ref a9, .ref a10, .ref a11, .ref a12, .ref a13, .ref a14, .int 0, .int (-1), .int (-1), .int 0]))]) (vx_runV (C := "Sourcewright$Code") (As := [.int 0]) (rest := []) ⟨hx, hb, hml, hown, hts⟩ (cX2_cut_2 l hst G X H.size a1 a2 a15 f0) (cwV 1 hts (pz_gV wq_512 wq_513 wq_514 wq_2 wq_515) rfl rfl rfl (by decide +kernel) ⟨(Nat.le_of_ble_eq_true rfl), (Nat.le_of_ble_eq_true rfl)⟩) (pz_preV (C := ("Sourcewright$Code", TX2, 3)) hK hP hD hS hA hE 2 (ci := 2) rfl rfl [2, 1] rfl rfl) rfl rfl hl.1 rfl (lv_room (Nat.le_of_ble_eq_true rfl)) dX11_wipe_13 ⟨(Nat.le_of_ble_eq_true rfl), (Nat.le_of_ble_eq_true rfl)⟩) hP hD hS hA [2, 1] [0] rfl rfl rfl (by decide) (fun u H locs hP hD hS => ?_)
  have hP : va_P G.1 pz_cl [(a0, .inr (11, [.ref a1, .ref a3, .int 0, .ref a4, .int 0, .int 0, .ref a5, .ref a6, .ref a7, .ref a8, .ref a9, .ref a10, .ref a11, .ref a12, .ref a13, .ref a14, .int 0, .int (-1), .int (-1), .int 0])), (a1, .inr (2, [.ref a2, .ref a15, .int 0])), (a2, .inl (G.2 0, 240, .inl (f0)))] H := hP
  have hD : va_D A [(a0, .inr (11, [.ref a1, .ref a3, .int 0, .ref a4, .int 0, .int 0, .ref a5, .ref a6, .ref a7, .ref a8, .ref a9, .ref a10, .ref a11, .ref a12, .ref a13, .ref a14, .int 0, .int (-1), .int (-1), .int 0])), (a1, .inr (2, [.ref a2, .ref a15, .int 0])), (a2, .inl (G.2 0, 240, .inl (f0)))] := hD
  refine W.eq (g2 := F0 m 16 ls []) rfl ?_
  refine lv_aload_n hx hb dX11_wipe_16 rfl (lv_at hl 1 rfl) ?_
  refine lv_iconst (v := 0) hx hb dX11_wipe_17 (by decide) ?_
  refine va_put (D := G.1) (ci := 11) (v := .int 0) (ty := tyX11 2) (C := "Sourcewright") (T := TX11) (N := 20) hx hb hts inX11 tyX11 tyX11_ok nmX11 hown hK hP hD hS 0 rfl rfl 2 (by decide) (hts _ wq_445) (fun _ h9 => h9) rfl (by decide +kernel) rfl rfl (Nat.le_of_ble_eq_true rfl) dX11_wipe_18 (fun H locs hP hD hS => ?_)
  have hP : va_P G.1 pz_cl [(a0, .inr (11, [.ref a1, .ref a3, .int 0, .ref a4, .int 0, .int 0, .ref a5, .ref a6, .ref a7, .ref a8, .ref a9, .ref a10, .ref a11, .ref a12, .ref a13, .ref a14, .int 0, .int (-1), .int (-1), .int 0])), (a1, .inr (2, [.ref a2, .ref a15, .int 0])), (a2, .inl (G.2 0, 240, .inl (f0)))] H := hP
  have hD : va_D A [(a0, .inr (11, [.ref a1, .ref a3, .int 0, .ref a4, .int 0, .int 0, .ref a5, .ref a6, .ref a7, .ref a8, .ref a9, .ref a10, .ref a11, .ref a12, .ref a13, .ref a14, .int 0, .int (-1), .int (-1), .int 0])), (a1, .inr (2, [.ref a2, .ref a15, .int 0])), (a2, .inl (G.2 0, 240, .inl (f0)))] := hD
  refine lv_aload_n hx hb dX11_wipe_21 rfl (lv_at hl 1 rfl) ?_
  refine pz_go (wr := [(a1, .inr (2, [.ref a2, .ref a15, .int 0])), (a2, .inl (G.2 0, 240, .inl (f0)))]) (vx_runV (C := "Sourcewright") (As := []) (rest := []) ⟨hx, hb, hml, hown, hts⟩ (cX11_forget_1 l hst G X H.size a0 a1 a3 a4 a5 a6 a7 a8 a9 a10 a11 a12 a13 a14) (cwV 0 hts (pz_gV wq_519 wq_521 wqs_0 wq_1 wq_522) rfl rfl rfl (by decide +kernel) ⟨(Nat.le_of_ble_eq_true rfl), (Nat.le_of_ble_eq_true rfl)⟩) (pz_preV (C := ("Sourcewright", TX11, 20)) hK hP hD hS hA hE 0 (ci := 11) rfl rfl [0] rfl rfl) rfl rfl hl.1 rfl (lv_room (Nat.le_of_ble_eq_true rfl)) dX11_wipe_22 ⟨(Nat.le_of_ble_eq_true rfl), (Nat.le_of_ble_eq_true rfl)⟩) hP hD hS hA [0] [1, 2] rfl rfl rfl (by decide) (fun u H locs hP hD hS => ?_)
  have hP : va_P G.1 pz_cl [(a1, .inr (2, [.ref a2, .ref a15, .int 0])), (a2, .inl (G.2 0, 240, .inl (f0))), (a0, .inr (11, [.ref a1, .ref a3, .int 0, .ref a4, .int 0, .int 0, .ref a5, .ref a6, .ref a7, .ref a8, .ref a9, .ref a10, .ref a11, .ref a12, .ref a13, .ref a14, .int 0, .int (-1), .int (-1), .int 0]))] H := hP
  have hD : va_D A [(a1, .inr (2, [.ref a2, .ref a15, .int 0])), (a2, .inl (G.2 0, 240, .inl (f0))), (a0, .inr (11, [.ref a1, .ref a3, .int 0, .ref a4, .int 0, .int 0, .ref a5, .ref a6, .ref a7, .ref a8, .ref a9, .ref a10, .ref a11, .ref a12, .ref a13, .ref a14, .int 0, .int (-1), .int (-1), .int 0]))] := hD
  refine W.eq (g2 := F0 m 25 ls []) rfl ?_
  refine lv_iload_n hx hb dX11_wipe_25 rfl (lv_at hl 0 rfl) ?_
  exact pz_rz hx hb hr hlocks (by decide +kernel) hS (Nat.le_of_ble_eq_true rfl) (Nat.le_of_ble_eq_true rfl) dX11_wipe_26 () rfl (hP.sub [2, 0, 1] rfl) (hD.sub [2, 0, 1] rfl rfl)
set_option maxHeartbeats 4000000 in
set_option maxRecDepth 100000 in
theorem cJx4a65c_clear_da8c8_1 (l : Launch) (hst : l.stackTraces = false) (G : pz_G) (X : Nat → Nat) (sz : Nat) (a0 : Nat) : pz_MR (S := Unit) l yJx4a65c_clear_da8c8 (pz_cd yJx4a65c_clear_da8c8 cJx4a65c_clear_da8c8 4 none) 0 0 0 0 G X sz [(a0, .inr (17, [.int 0, .ref (X 3), .int 0]))] [.ref a0] (fun u => none) (fun u => [(a0, .inr (17, [.int 1, .ref (X 3), .int 0]))]) := by
  refine pz_onR (by decide +kernel) (Nat.le_of_ble_eq_true rfl) ?_
  intro p e s m below meth c A hx hb hr hml hown hts hlocks hin hx0 hP hK hD hS hA hE ls hl
  have hown : s.vm.findClass "java/util/ArrayList" = some m.cls := hown
  have hl : lv_has ls 4 [(0, .ref a0)] := hl
  refine lv_aload_n hx hb dJx4a65c_clear_da8c8_0 rfl (lv_at hl 0 rfl) ?_
  refine lv_dup hx hb dJx4a65c_clear_da8c8_1 rfl ?_
  refine va_get (D := G.1) (ci := 17) (v := .int 0) (C := "java/util/ArrayList") (T := TJx4a65c) (N := 3) hx hb hts inJx4a65c hown hK hP 0 rfl rfl 0 (by decide) (hts _ wq_1805) (fun x9 h9 => u_same (hts _ wq_1804) x9 h9) rfl dJx4a65c_clear_da8c8_2 ?_
  refine lv_iconst (v := 1) hx hb dJx4a65c_clear_da8c8_5 (by decide) ?_
  refine lv_iadd hx hb dJx4a65c_clear_da8c8_6 (pz_K (y := 1) (by decide) ?_)
  refine va_put (D := G.1) (ci := 17) (v := .int 1) (ty := tyJx4a65c 0) (C := "java/util/ArrayList") (T := TJx4a65c) (N := 3) hx hb hts inJx4a65c tyJx4a65c tyJx4a65c_ok nmJx4a65c hown hK hP hD hS 0 rfl rfl 0 (by decide) (hts _ wq_1805) (fun x9 h9 => u_same (hts _ wq_1804) x9 h9) rfl (by decide +kernel) rfl rfl (Nat.le_of_ble_eq_true rfl) dJx4a65c_clear_da8c8_7 (fun H locs hP hD hS => ?_)
  have hP : va_P G.1 pz_cl [(a0, .inr (17, [.int 1, .ref (X 3), .int 0]))] H := hP
  have hD : va_D A [(a0, .inr (17, [.int 1, .ref (X 3), .int 0]))] := hD
  refine lv_aload_n hx hb dJx4a65c_clear_da8c8_10 rfl (lv_at hl 0 rfl) ?_
  refine va_get (D := G.1) (ci := 17) (v := .ref (X 3)) (C := "java/util/ArrayList") (T := TJx4a65c) (N := 3) hx hb hts inJx4a65c hown hK hP 0 rfl rfl 1 (by decide) (hts _ wq_1798) (fun _ h9 => h9) rfl dJx4a65c_clear_da8c8_11 ?_
  refine lv_astore_n (lv' := [(1, .ref (X 3)), (0, .ref a0)]) hx hb dJx4a65c_clear_da8c8_14 rfl hl (by decide) rfl (fun ls hl => ?_)
  refine lv_aload_n hx hb dJx4a65c_clear_da8c8_15 rfl (lv_at hl 1 rfl) ?_
  refine va_get (D := G.1) (ci := 17) (v := .int 0) (C := "java/util/ArrayList") (T := TJx4a65c) (N := 3) hx hb hts inJx4a65c hown hK hP 0 rfl rfl 2 (by decide) (hts _ wq_1801) (fun _ h9 => h9) rfl dJx4a65c_clear_da8c8_16 ?_
  refine lv_istore_n (lv' := [(2, .int 0), (1, .ref (X 3)), (0, .ref a0)]) hx hb dJx4a65c_clear_da8c8_19 rfl hl (by decide) rfl (fun ls hl => ?_)
  refine lv_aload_n hx hb dJx4a65c_clear_da8c8_20 rfl (lv_at hl 2 rfl) ?_
  refine lv_iconst (v := 0) hx hb dJx4a65c_clear_da8c8_21 (by decide) ?_
  refine lv_dup_x1 hx hb dJx4a65c_clear_da8c8_22 rfl rfl ?_
  refine va_put (D := G.1) (ci := 17) (v := .int 0) (ty := tyJx4a65c 2) (C := "java/util/ArrayList") (T := TJx4a65c) (N := 3) hx hb hts inJx4a65c tyJx4a65c tyJx4a65c_ok nmJx4a65c hown hK hP hD hS 0 rfl rfl 2 (by decide) (hts _ wq_1801) (fun _ h9 => h9) rfl (by decide +kernel) rfl rfl (Nat.le_of_ble_eq_true rfl) dJx4a65c_clear_da8c8_23 (fun H locs hP hD hS => ?_)
  have hP : va_P G.1 pz_cl [(a0, .inr (17, [.int 1, .ref (X 3), .int 0]))] H := hP
  have hD : va_D A [(a0, .inr (17, [.int 1, .ref (X 3), .int 0]))] := hD
  refine lv_istore_n (lv' := [(3, .int 0), (2, .int 0), (1, .ref (X 3)), (0, .ref a0)]) hx hb dJx4a65c_clear_da8c8_26 rfl hl (by decide) rfl (fun ls hl => ?_)
  refine lv_iload_n hx hb dJx4a65c_clear_da8c8_27 rfl (lv_at hl 0 rfl) ?_
  refine lv_iload_n hx hb dJx4a65c_clear_da8c8_28 rfl (lv_at hl 1 rfl) ?_
  refine lv_icmp_ge (tgt := 42) hx hb dJx4a65c_clear_da8c8_29 (by decide) (fun _ => ?_) (fun hc => absurd hc (by decide))
  exact pz_rv hx hb hr hlocks hS (Nat.le_of_ble_eq_true rfl) (Nat.le_of_ble_eq_true rfl) dJx4a65c_clear_da8c8_42 () rfl (hP.sub [0] rfl) (hD.sub [0] rfl rfl)
set_option maxHeartbeats 4000000 in
set_option maxRecDepth 100000 in
theorem cX16_wipe_1 (l : Launch) (hst : l.stackTraces = false) (G : pz_G) (X : Nat → Nat) (sz : Nat) (a0 : Nat) (a1 : Nat) (a2 : Nat) (a3 : Nat) (a4 : Nat) : pz_MR (S := Unit) l yX16_wipe (pz_cd yX16_wipe cX16_wipe 2 (some .int)) 1 23 0 0 G X sz [(a0, .inr (15, [.int 0, .ref a1, .ref a2, .ref a3, .ref a4, .int 0, .null])), (a1, .inr (17, [.int 0, .ref (X 3), .int 0])), (a2, .inr (17, [.int 0, .ref (X 3), .int 0]))] [.ref a0] (fun u => some (.int 0)) (fun u => [(a0, .inr (15, [.int 0, .ref a1, .ref a2, .ref a3, .ref a4, .int 0, .null])), (a1, .inr (17, [.int 1, .ref (X 3), .int 0])), (a2, .inr (17, [.int 1, .ref (X 3), .int 0]))]) := by
  refine pz_onR (by decide +kernel) (Nat.le_of_ble_eq_true rfl) ?_
  intro p e s m below meth c A hx hb hr hml hown hts hlocks hin hx0 hP hK hD hS hA hE ls hl
  have hown : s.vm.findClass "SourcewrightModel" = some m.cls := hown
  have hl : lv_has ls 2 [(0, .ref a0)] := hl
  refine lv_aload_n hx hb dX16_wipe_0 rfl (lv_at hl 0 rfl) ?_
  refine lv_iconst (v := 0) hx hb dX16_wipe_1 (by decide) ?_
  refine va_put (D := G.1) (ci := 15) (v := .int 0) (ty := tyX16 0) (C := "SourcewrightModel") (T := TX16) (N := 7) hx hb hts inX16 tyX16 tyX16_ok nmX16 hown hK hP hD hS 0 rfl rfl 0 (by decide) (hts _ wq_1813) (fun _ h9 => h9) rfl (by decide +kernel) rfl rfl (Nat.le_of_ble_eq_true rfl) dX16_wipe_2 (fun H locs hP hD hS => ?_)
  have hP : va_P G.1 pz_cl [(a0, .inr (15, [.int 0, .ref a1, .ref a2, .ref a3, .ref a4, .int 0, .null])), (a1, .inr (17, [.int 0, .ref (X 3), .int 0])), (a2, .inr (17, [.int 0, .ref (X 3), .int 0]))] H := hP
  have hD : va_D A [(a0, .inr (15, [.int 0, .ref a1, .ref a2, .ref a3, .ref a4, .int 0, .null])), (a1, .inr (17, [.int 0, .ref (X 3), .int 0])), (a2, .inr (17, [.int 0, .ref (X 3), .int 0]))] := hD
  refine lv_aload_n hx hb dX16_wipe_5 rfl (lv_at hl 0 rfl) ?_
  refine va_get (D := G.1) (ci := 15) (v := .ref a1) (C := "SourcewrightModel") (T := TX16) (N := 7) hx hb hts inX16 hown hK hP 0 rfl rfl 1 (by decide) (hts _ wq_1814) (fun _ h9 => h9) rfl dX16_wipe_6 ?_
  refine pz_go (wr := [(a0, .inr (15, [.int 0, .ref a1, .ref a2, .ref a3, .ref a4, .int 0, .null])), (a2, .inr (17, [.int 0, .ref (X 3), .int 0]))]) (vx_runV (C := "java/util/ArrayList") (As := []) (rest := []) ⟨hx, hb, hml, hown, hts⟩ (cJx4a65c_size_8abf5_1 l hst G X H.size a1) (cwV 0 hts (pz_gV wq_1846 wq_1847 wq_1848 wq_16 wq_1849) rfl rfl rfl (by decide +kernel) ⟨(Nat.le_of_ble_eq_true rfl), (Nat.le_of_ble_eq_true rfl)⟩) (pz_preV (C := ("java/util/ArrayList", TJx4a65c, 3)) hK hP hD hS hA hE 1 (ci := 17) rfl rfl [1] rfl rfl) rfl rfl hl.1 rfl (lv_room (Nat.le_of_ble_eq_true rfl)) dX16_wipe_9 ⟨(Nat.le_of_ble_eq_true rfl), (Nat.le_of_ble_eq_true rfl)⟩) hP hD hS hA [1] [0, 2] rfl rfl rfl (by decide) (fun u H locs hP hD hS => ?_)
  have hP : va_P G.1 pz_cl [(a0, .inr (15, [.int 0, .ref a1, .ref a2, .ref a3, .ref a4, .int 0, .null])), (a2, .inr (17, [.int 0, .ref (X 3), .int 0])), (a1, .inr (17, [.int 0, .ref (X 3), .int 0]))] H := hP
  have hD : va_D A [(a0, .inr (15, [.int 0, .ref a1, .ref a2, .ref a3, .ref a4, .int 0, .null])), (a2, .inr (17, [.int 0, .ref (X 3), .int 0])), (a1, .inr (17, [.int 0, .ref (X 3), .int 0]))] := hD
  refine W.eq (g2 := F0 m 12 ls [.int 0]) rfl ?_
  refine lv_istore_n (lv' := [(1, .int 0), (0, .ref a0)]) hx hb dX16_wipe_12 rfl hl (by decide) rfl (fun ls hl => ?_)
  refine lv_aload_n hx hb dX16_wipe_13 rfl (lv_at hl 1 rfl) ?_
  refine va_get (D := G.1) (ci := 15) (v := .ref a1) (C := "SourcewrightModel") (T := TX16) (N := 7) hx hb hts inX16 hown hK hP 0 rfl rfl 1 (by decide) (hts _ wq_1814) (fun _ h9 => h9) rfl dX16_wipe_14 ?_
  refine pz_go (wr := [(a0, .inr (15, [.int 0, .ref a1, .ref a2, .ref a3, .ref a4, .int 0, .null])), (a2, .inr (17, [.int 0, .ref (X 3), .int 0]))]) (vx_runV (C := "java/util/ArrayList") (As := []) (rest := []) ⟨hx, hb, hml, hown, hts⟩ (cJx4a65c_clear_da8c8_1 l hst G X H.size a1) (cwV 0 hts (pz_gV wq_1970 wq_1971 wq_1972 wq_16 wq_1973) rfl rfl rfl (by decide +kernel) ⟨(Nat.le_of_ble_eq_true rfl), (Nat.le_of_ble_eq_true rfl)⟩) (pz_preV (C := ("java/util/ArrayList", TJx4a65c, 3)) hK hP hD hS hA hE 2 (ci := 17) rfl rfl [2] rfl rfl) rfl rfl hl.1 rfl (lv_room (Nat.le_of_ble_eq_true rfl)) dX16_wipe_17 ⟨(Nat.le_of_ble_eq_true rfl), (Nat.le_of_ble_eq_true rfl)⟩) hP hD hS hA [2] [0, 1] rfl rfl rfl (by decide) (fun u H locs hP hD hS => ?_)
  have hP : va_P G.1 pz_cl [(a0, .inr (15, [.int 0, .ref a1, .ref a2, .ref a3, .ref a4, .int 0, .null])), (a2, .inr (17, [.int 0, .ref (X 3), .int 0])), (a1, .inr (17, [.int 1, .ref (X 3), .int 0]))] H := hP
  have hD : va_D A [(a0, .inr (15, [.int 0, .ref a1, .ref a2, .ref a3, .ref a4, .int 0, .null])), (a2, .inr (17, [.int 0, .ref (X 3), .int 0])), (a1, .inr (17, [.int 1, .ref (X 3), .int 0]))] := hD
  refine W.eq (g2 := F0 m 20 ls []) rfl ?_
  refine lv_aload_n hx hb dX16_wipe_20 rfl (lv_at hl 1 rfl) ?_
  refine va_get (D := G.1) (ci := 15) (v := .ref a2) (C := "SourcewrightModel") (T := TX16) (N := 7) hx hb hts inX16 hown hK hP 0 rfl rfl 2 (by decide) (hts _ wq_1815) (fun _ h9 => h9) rfl dX16_wipe_21 ?_
  refine pz_go (wr := [(a0, .inr (15, [.int 0, .ref a1, .ref a2, .ref a3, .ref a4, .int 0, .null])), (a1, .inr (17, [.int 1, .ref (X 3), .int 0]))]) (vx_runV (C := "java/util/ArrayList") (As := []) (rest := []) ⟨hx, hb, hml, hown, hts⟩ (cJx4a65c_clear_da8c8_1 l hst G X H.size a2) (cwV 0 hts (pz_gV wq_1970 wq_1971 wq_1972 wq_16 wq_1973) rfl rfl rfl (by decide +kernel) ⟨(Nat.le_of_ble_eq_true rfl), (Nat.le_of_ble_eq_true rfl)⟩) (pz_preV (C := ("java/util/ArrayList", TJx4a65c, 3)) hK hP hD hS hA hE 1 (ci := 17) rfl rfl [1] rfl rfl) rfl rfl hl.1 rfl (lv_room (Nat.le_of_ble_eq_true rfl)) dX16_wipe_24 ⟨(Nat.le_of_ble_eq_true rfl), (Nat.le_of_ble_eq_true rfl)⟩) hP hD hS hA [1] [0, 2] rfl rfl rfl (by decide) (fun u H locs hP hD hS => ?_)
  have hP : va_P G.1 pz_cl [(a0, .inr (15, [.int 0, .ref a1, .ref a2, .ref a3, .ref a4, .int 0, .null])), (a1, .inr (17, [.int 1, .ref (X 3), .int 0])), (a2, .inr (17, [.int 1, .ref (X 3), .int 0]))] H := hP
  have hD : va_D A [(a0, .inr (15, [.int 0, .ref a1, .ref a2, .ref a3, .ref a4, .int 0, .null])), (a1, .inr (17, [.int 1, .ref (X 3), .int 0])), (a2, .inr (17, [.int 1, .ref (X 3), .int 0]))] := hD
  refine W.eq (g2 := F0 m 27 ls []) rfl ?_
  refine lv_iload_n hx hb dX16_wipe_27 rfl (lv_at hl 0 rfl) ?_
  exact pz_rz hx hb hr hlocks (by decide +kernel) hS (Nat.le_of_ble_eq_true rfl) (Nat.le_of_ble_eq_true rfl) dX16_wipe_28 () rfl (hP.sub [0, 1, 2] rfl) (hD.sub [0, 1, 2] rfl rfl)
set_option maxHeartbeats 4000000 in
set_option maxRecDepth 100000 in
theorem cX11_byteAt_1 (l : Launch) (hst : l.stackTraces = false) (G : pz_G) (X : Nat → Nat) (sz : Nat) (a0 : Nat) (x0 : Int32) (a1 : Nat) (a2 : Nat) (a3 : Nat) (a4 : Nat) (a5 : Nat) (a6 : Nat) (a7 : Nat) (a8 : Nat) (a9 : Nat) (a10 : Nat) (a11 : Nat) (a12 : Nat) (a13 : Nat) (a14 : Nat) (a15 : Nat) : pz_MT l yX11_byteAt (pz_cd yX11_byteAt cX11_byteAt 2 (some .int)) 7 105 1 6 G X sz [(a0, .inr (11, [.ref a1, .ref a2, .int 0, .ref a3, .int 0, .int 0, .ref a4, .ref a5, .ref a6, .ref a7, .ref a8, .ref a9, .ref a10, .ref a11, .ref a12, .ref a13, .int 0, .int (-1), .int (-1), .int 0])), (a1, .inr (2, [.ref a14, .ref a15, .int 0]))] [.ref a0, .int x0] "java/lang/IndexOutOfBoundsException" := by
  refine pz_onT (by decide +kernel) (Nat.le_of_ble_eq_true rfl) ?_
  intro p e s m below meth c A hx hb hr hml hown hts hlocks hin hx0 hP hK hD hS hA hE ls hl
  have hown : s.vm.findClass "Sourcewright" = some m.cls := hown
  have hl : lv_has ls 2 [(0, .ref a0), (1, .int x0)] := hl
  have hlo_x0 : (-2147483648 : Int) ≤ x0.toInt := by have h9 := Int32.le_toInt x0; omega
  have hhi_x0 : x0.toInt ≤ (2147483647 : Int) := by have h9 := Int32.toInt_lt x0; omega
  refine lv_aload_n hx hb dX11_byteAt_0 rfl (lv_at hl 0 rfl) ?_
  refine lv_iload_n hx hb dX11_byteAt_1 rfl (lv_at hl 1 rfl) ?_
  refine pz_goT (wr := []) (vx_runV (C := "Sourcewright") (As := [.int x0]) (rest := []) ⟨hx, hb, hml, hown, hts⟩ (cX11_checkPlace_1 l hst G X s.heap.size a0 x0 a1 a2 a3 a4 a5 a6 a7 a8 a9 a10 a11 a12 a13 a14 a15) (cwV 1 hts (pz_gV wq_1384 wq_1386 wqs_75 wq_1 wq_1387) rfl rfl rfl (by decide +kernel) ⟨(Nat.le_of_ble_eq_true rfl), (Nat.le_of_ble_eq_true rfl)⟩) (pz_preV (C := ("Sourcewright", TX11, 20)) hK hP hD hS hA hE 0 (ci := 11) rfl rfl [0, 1] rfl rfl) rfl rfl hl.1 rfl (lv_room (Nat.le_of_ble_eq_true rfl)) dX11_byteAt_2 ⟨(Nat.le_of_ble_eq_true rfl), (Nat.le_of_ble_eq_true rfl)⟩) hP hD hS hA [0, 1] [] rfl rfl rfl (by decide) (fun ce q9 H locs hP hD hS hce hcv hcl => ?_)
  exact pz_out hx0 hlocks hce hcv hcl hS (Nat.le_of_ble_eq_true rfl) (Nat.le_of_ble_eq_true rfl)
set_option maxHeartbeats 4000000 in
set_option maxRecDepth 100000 in
theorem cL_byteAt_1 (l : Launch) (hst : l.stackTraces = false) (G : pz_G) (X : Nat → Nat) (sz : Nat) (a0 : Nat) (x0 : Int32) (a1 : Nat) (a2 : Nat) (a3 : Nat) (a4 : Nat) (a5 : Nat) (a6 : Nat) (a7 : Nat) (a8 : Nat) (a9 : Nat) (a10 : Nat) (a11 : Nat) (a12 : Nat) (a13 : Nat) (a14 : Nat) (a15 : Nat) (a16 : Nat) : pz_MR (S := Unit) l yL_byteAt (pz_cw yL_byteAt cL_byteAt 4 (some .int) [(0, 9, 12, 21)]) 8 126 1 6 G X sz [(a0, .inr (11, [.ref a2, .ref a3, .int 0, .ref a4, .int 0, .int 0, .ref a5, .ref a6, .ref a7, .ref a8, .ref a9, .ref a10, .ref a11, .ref a12, .ref a13, .ref a14, .int 0, .int (-1), .int (-1), .int 0])), (a2, .inr (2, [.ref a15, .ref a16, .int 0]))] [.ref a0, .int x0, .ref a1] (fun u => some (.int 1)) (fun u => []) := by
  refine pz_onHR (by decide +kernel) (Nat.le_of_ble_eq_true rfl) ?_
  intro p e s m below meth c A hx hb hr hml hown hts hlocks hin hx0 hP hK hD hS hA hE ls hl
  have hown : s.vm.findClass "SourcewrightLaw" = some m.cls := hown
  have hl : lv_has ls 4 [(0, .ref a0), (1, .int x0), (2, .ref a1)] := hl
  have hlo_x0 : (-2147483648 : Int) ≤ x0.toInt := by have h9 := Int32.le_toInt x0; omega
  have hhi_x0 : x0.toInt ≤ (2147483647 : Int) := by have h9 := Int32.toInt_lt x0; omega
  refine lv_aload_n hx hb dL_byteAt_0 rfl (lv_at hl 2 rfl) ?_
  refine lv_iconst (v := 0) hx hb dL_byteAt_1 (by decide) ?_
  refine lv_aload_n hx hb dL_byteAt_2 rfl (lv_at hl 0 rfl) ?_
  refine lv_iload_n hx hb dL_byteAt_3 rfl (lv_at hl 1 rfl) ?_
  refine pz_goT (wr := []) (vx_runV (C := "Sourcewright") (As := [.int x0]) (rest := [.int 0, .ref a1]) ⟨hx, hb, hml, hown, hts⟩ (cX11_byteAt_1 l hst G X s.heap.size a0 x0 a2 a3 a4 a5 a6 a7 a8 a9 a10 a11 a12 a13 a14 a15 a16) (cwV 1 hts (pz_gV wq_1405 wq_1406 wq_1407 wq_1 wq_1408) rfl rfl rfl (by decide +kernel) ⟨(Nat.le_of_ble_eq_true rfl), (Nat.le_of_ble_eq_true rfl)⟩) (pz_preV (C := ("Sourcewright", TX11, 20)) hK hP hD hS hA hE 0 (ci := 11) rfl rfl [0, 1] rfl rfl) rfl rfl hl.1 rfl (lv_room (Nat.le_of_ble_eq_true rfl)) dL_byteAt_4 ⟨(Nat.le_of_ble_eq_true rfl), (Nat.le_of_ble_eq_true rfl)⟩) hP hD hS hA [0, 1] [] rfl rfl rfl (by decide) (fun ce q9 H locs hP hD hS hce hcv hcl => ?_)
  refine vx_catch hown [] ⟨0, 9, 12, 21⟩ [] hx0 (fun z hz => by cases hz) rfl (by decide) (hts _ wq_1356) (va_Nw.use rfl (hE.2.2.2.2.2.2.2.2.1 _ nx_1390)) hce hcv hcl ?_
  have hP : va_P G.1 pz_cl [] H := hP
  have hD : va_D A [] := hD
  refine W.eq (g2 := F0 m 12 ls [.ref q9]) rfl ?_
  refine lv_astore_n (lv' := [(3, .ref q9), (0, .ref a0), (1, .int x0), (2, .ref a1)]) hx hb dL_byteAt_12 rfl hl (by decide) rfl (fun ls hl => ?_)
  refine lv_iconst (v := 1) hx hb dL_byteAt_13 (by decide) ?_
  exact pz_rz hx hb hr hlocks (by decide +kernel) hS (Nat.le_of_ble_eq_true rfl) (Nat.le_of_ble_eq_true rfl) dL_byteAt_14 () rfl (hP.sub [] rfl) (hD.sub [] rfl rfl)
set_option maxHeartbeats 4000000 in
set_option maxRecDepth 100000 in
theorem cX16_byteAt_1 (l : Launch) (hst : l.stackTraces = false) (G : pz_G) (X : Nat → Nat) (sz : Nat) (a0 : Nat) (x0 : Int32) (a1 : Nat) (a2 : Nat) (a3 : Nat) (a4 : Nat) : pz_MR (S := Unit) l yX16_byteAt (pz_cd yX16_byteAt cX16_byteAt 2 (some .int)) 2 43 0 0 G X sz [(a0, .inr (15, [.int 0, .ref a1, .ref a2, .ref a3, .ref a4, .int 0, .null])), (a1, .inr (17, [.int 0, .ref (X 3), .int 0]))] [.ref a0, .int x0] (fun u => some (.int 0)) (fun u => [(a0, .inr (15, [.int 1, .ref a1, .ref a2, .ref a3, .ref a4, .int 0, .null])), (a1, .inr (17, [.int 0, .ref (X 3), .int 0]))]) := by
  refine pz_onR (by decide +kernel) (Nat.le_of_ble_eq_true rfl) ?_
  intro p e s m below meth c A hx hb hr hml hown hts hlocks hin hx0 hP hK hD hS hA hE ls hl
  have hown : s.vm.findClass "SourcewrightModel" = some m.cls := hown
  have hl : lv_has ls 2 [(0, .ref a0), (1, .int x0)] := hl
  have hlo_x0 : (-2147483648 : Int) ≤ x0.toInt := by have h9 := Int32.le_toInt x0; omega
  have hhi_x0 : x0.toInt ≤ (2147483647 : Int) := by have h9 := Int32.toInt_lt x0; omega
  refine lv_aload_n hx hb dX16_byteAt_0 rfl (lv_at hl 0 rfl) ?_
  refine lv_iload_n hx hb dX16_byteAt_1 rfl (lv_at hl 1 rfl) ?_
  refine pz_go (wr := []) (vx_runV (C := "SourcewrightModel") (As := [.int x0]) (rest := []) ⟨hx, hb, hml, hown, hts⟩ (cX16_noByte_1 l hst G X s.heap.size a0 x0 a1 a2 a3 a4) (cwV 1 hts (pz_gV wq_1945 wq_1947 wqs_87 wq_13 wq_1948) rfl rfl rfl (by decide +kernel) ⟨(Nat.le_of_ble_eq_true rfl), (Nat.le_of_ble_eq_true rfl)⟩) (pz_preV (C := ("SourcewrightModel", TX16, 7)) hK hP hD hS hA hE 0 (ci := 15) rfl rfl [0, 1] rfl rfl) rfl rfl hl.1 rfl (lv_room (Nat.le_of_ble_eq_true rfl)) dX16_byteAt_2 ⟨(Nat.le_of_ble_eq_true rfl), (Nat.le_of_ble_eq_true rfl)⟩) hP hD hS hA [0, 1] [] rfl rfl rfl (by decide) (fun u H locs hP hD hS => ?_)
  have hP : va_P G.1 pz_cl [(a0, .inr (15, [.int 1, .ref a1, .ref a2, .ref a3, .ref a4, .int 0, .null])), (a1, .inr (17, [.int 0, .ref (X 3), .int 0]))] H := hP
  have hD : va_D A [(a0, .inr (15, [.int 1, .ref a1, .ref a2, .ref a3, .ref a4, .int 0, .null])), (a1, .inr (17, [.int 0, .ref (X 3), .int 0]))] := hD
  refine W.eq (g2 := F0 m 5 ls [.int 1]) rfl ?_
  refine lv_if_eq (tgt := 12) hx hb dX16_byteAt_5 (by decide) (fun hc => absurd hc (by decide)) (fun _ => ?_)
  refine lv_iconst (v := 0) hx hb dX16_byteAt_8 (by decide) ?_
  refine lv_goto (tgt := 26) hx hb dX16_byteAt_9 (by decide) ?_
  exact pz_rz hx hb hr hlocks (by decide +kernel) hS (Nat.le_of_ble_eq_true rfl) (Nat.le_of_ble_eq_true rfl) dX16_byteAt_26 () rfl (hP.sub [0, 1] rfl) (hD.sub [0, 1] rfl rfl)
set_option maxHeartbeats 4000000 in
set_option maxRecDepth 100000 in
theorem cX11_entry_1 (l : Launch) (hst : l.stackTraces = false) (G : pz_G) (X : Nat → Nat) (sz : Nat) (a0 : Nat) (x0 : Int32) (a1 : Nat) (a2 : Nat) (a3 : Nat) (a4 : Nat) (a5 : Nat) (a6 : Nat) (a7 : Nat) (a8 : Nat) (a9 : Nat) (a10 : Nat) (a11 : Nat) (a12 : Nat) (a13 : Nat) (a14 : Nat) (a15 : Nat) : pz_MT l yX11_entry (pz_cd yX11_entry cX11_entry 2 (some .int)) 7 105 1 6 G X sz [(a0, .inr (11, [.ref a1, .ref a2, .int 0, .ref a3, .int 0, .int 0, .ref a4, .ref a5, .ref a6, .ref a7, .ref a8, .ref a9, .ref a10, .ref a11, .ref a12, .ref a13, .int 0, .int (-1), .int (-1), .int 0])), (a1, .inr (2, [.ref a14, .ref a15, .int 0]))] [.ref a0, .int x0] "java/lang/IndexOutOfBoundsException" := by
  refine pz_onT (by decide +kernel) (Nat.le_of_ble_eq_true rfl) ?_
  intro p e s m below meth c A hx hb hr hml hown hts hlocks hin hx0 hP hK hD hS hA hE ls hl
  have hown : s.vm.findClass "Sourcewright" = some m.cls := hown
  have hl : lv_has ls 2 [(0, .ref a0), (1, .int x0)] := hl
  have hlo_x0 : (-2147483648 : Int) ≤ x0.toInt := by have h9 := Int32.le_toInt x0; omega
  have hhi_x0 : x0.toInt ≤ (2147483647 : Int) := by have h9 := Int32.toInt_lt x0; omega
  refine lv_aload_n hx hb dX11_entry_0 rfl (lv_at hl 0 rfl) ?_
  refine lv_iload_n hx hb dX11_entry_1 rfl (lv_at hl 1 rfl) ?_
  refine pz_goT (wr := []) (vx_runV (C := "Sourcewright") (As := [.int x0]) (rest := []) ⟨hx, hb, hml, hown, hts⟩ (cX11_checkPlace_1 l hst G X s.heap.size a0 x0 a1 a2 a3 a4 a5 a6 a7 a8 a9 a10 a11 a12 a13 a14 a15) (cwV 1 hts (pz_gV wq_1384 wq_1386 wqs_75 wq_1 wq_1387) rfl rfl rfl (by decide +kernel) ⟨(Nat.le_of_ble_eq_true rfl), (Nat.le_of_ble_eq_true rfl)⟩) (pz_preV (C := ("Sourcewright", TX11, 20)) hK hP hD hS hA hE 0 (ci := 11) rfl rfl [0, 1] rfl rfl) rfl rfl hl.1 rfl (lv_room (Nat.le_of_ble_eq_true rfl)) dX11_entry_2 ⟨(Nat.le_of_ble_eq_true rfl), (Nat.le_of_ble_eq_true rfl)⟩) hP hD hS hA [0, 1] [] rfl rfl rfl (by decide) (fun ce q9 H locs hP hD hS hce hcv hcl => ?_)
  exact pz_out hx0 hlocks hce hcv hcl hS (Nat.le_of_ble_eq_true rfl) (Nat.le_of_ble_eq_true rfl)
set_option maxHeartbeats 4000000 in
set_option maxRecDepth 100000 in
theorem cL_entry_1 (l : Launch) (hst : l.stackTraces = false) (G : pz_G) (X : Nat → Nat) (sz : Nat) (a0 : Nat) (x0 : Int32) (a1 : Nat) (a2 : Nat) (a3 : Nat) (a4 : Nat) (a5 : Nat) (a6 : Nat) (a7 : Nat) (a8 : Nat) (a9 : Nat) (a10 : Nat) (a11 : Nat) (a12 : Nat) (a13 : Nat) (a14 : Nat) (a15 : Nat) (a16 : Nat) : pz_MR (S := Unit) l yL_entry (pz_cw yL_entry cL_entry 4 (some .int) [(0, 9, 12, 21), (0, 9, 15, 29), (0, 9, 18, 15)]) 8 126 1 6 G X sz [(a0, .inr (11, [.ref a2, .ref a3, .int 0, .ref a4, .int 0, .int 0, .ref a5, .ref a6, .ref a7, .ref a8, .ref a9, .ref a10, .ref a11, .ref a12, .ref a13, .ref a14, .int 0, .int (-1), .int (-1), .int 0])), (a2, .inr (2, [.ref a15, .ref a16, .int 0]))] [.ref a0, .int x0, .ref a1] (fun u => some (.int 1)) (fun u => []) := by
  refine pz_onHR (by decide +kernel) (Nat.le_of_ble_eq_true rfl) ?_
  intro p e s m below meth c A hx hb hr hml hown hts hlocks hin hx0 hP hK hD hS hA hE ls hl
  have hown : s.vm.findClass "SourcewrightLaw" = some m.cls := hown
  have hl : lv_has ls 4 [(0, .ref a0), (1, .int x0), (2, .ref a1)] := hl
  have hlo_x0 : (-2147483648 : Int) ≤ x0.toInt := by have h9 := Int32.le_toInt x0; omega
  have hhi_x0 : x0.toInt ≤ (2147483647 : Int) := by have h9 := Int32.toInt_lt x0; omega
  refine lv_aload_n hx hb dL_entry_0 rfl (lv_at hl 2 rfl) ?_
  refine lv_iconst (v := 0) hx hb dL_entry_1 (by decide) ?_
  refine lv_aload_n hx hb dL_entry_2 rfl (lv_at hl 0 rfl) ?_
  refine lv_iload_n hx hb dL_entry_3 rfl (lv_at hl 1 rfl) ?_
  refine pz_goT (wr := []) (vx_runV (C := "Sourcewright") (As := [.int x0]) (rest := [.int 0, .ref a1]) ⟨hx, hb, hml, hown, hts⟩ (cX11_entry_1 l hst G X s.heap.size a0 x0 a2 a3 a4 a5 a6 a7 a8 a9 a10 a11 a12 a13 a14 a15 a16) (cwV 1 hts (pz_gV wq_1413 wq_1414 wq_1415 wq_1 wq_1416) rfl rfl rfl (by decide +kernel) ⟨(Nat.le_of_ble_eq_true rfl), (Nat.le_of_ble_eq_true rfl)⟩) (pz_preV (C := ("Sourcewright", TX11, 20)) hK hP hD hS hA hE 0 (ci := 11) rfl rfl [0, 1] rfl rfl) rfl rfl hl.1 rfl (lv_room (Nat.le_of_ble_eq_true rfl)) dL_entry_4 ⟨(Nat.le_of_ble_eq_true rfl), (Nat.le_of_ble_eq_true rfl)⟩) hP hD hS hA [0, 1] [] rfl rfl rfl (by decide) (fun ce q9 H locs hP hD hS hce hcv hcl => ?_)
  refine vx_catch hown [] ⟨0, 9, 12, 21⟩ [⟨0, 9, 15, 29⟩, ⟨0, 9, 18, 15⟩] hx0 (fun z hz => by cases hz) rfl (by decide) (hts _ wq_1356) (va_Nw.use rfl (hE.2.2.2.2.2.2.2.2.1 _ nx_1390)) hce hcv hcl ?_
  have hP : va_P G.1 pz_cl [] H := hP
  have hD : va_D A [] := hD
  refine W.eq (g2 := F0 m 12 ls [.ref q9]) rfl ?_
  refine lv_astore_n (lv' := [(3, .ref q9), (0, .ref a0), (1, .int x0), (2, .ref a1)]) hx hb dL_entry_12 rfl hl (by decide) rfl (fun ls hl => ?_)
  refine lv_iconst (v := 1) hx hb dL_entry_13 (by decide) ?_
  exact pz_rz hx hb hr hlocks (by decide +kernel) hS (Nat.le_of_ble_eq_true rfl) (Nat.le_of_ble_eq_true rfl) dL_entry_14 () rfl (hP.sub [] rfl) (hD.sub [] rfl rfl)
set_option maxHeartbeats 4000000 in
set_option maxRecDepth 100000 in
theorem cX16_entry_1 (l : Launch) (hst : l.stackTraces = false) (G : pz_G) (X : Nat → Nat) (sz : Nat) (a0 : Nat) (x0 : Int32) (a1 : Nat) (a2 : Nat) (a3 : Nat) (a4 : Nat) : pz_MR (S := Unit) l yX16_entry (pz_cd yX16_entry cX16_entry 2 (some .int)) 2 43 0 0 G X sz [(a0, .inr (15, [.int 0, .ref a1, .ref a2, .ref a3, .ref a4, .int 0, .null])), (a1, .inr (17, [.int 0, .ref (X 3), .int 0]))] [.ref a0, .int x0] (fun u => some (.int 0)) (fun u => [(a0, .inr (15, [.int 1, .ref a1, .ref a2, .ref a3, .ref a4, .int 0, .null])), (a1, .inr (17, [.int 0, .ref (X 3), .int 0]))]) := by
  refine pz_onR (by decide +kernel) (Nat.le_of_ble_eq_true rfl) ?_
  intro p e s m below meth c A hx hb hr hml hown hts hlocks hin hx0 hP hK hD hS hA hE ls hl
  have hown : s.vm.findClass "SourcewrightModel" = some m.cls := hown
  have hl : lv_has ls 2 [(0, .ref a0), (1, .int x0)] := hl
  have hlo_x0 : (-2147483648 : Int) ≤ x0.toInt := by have h9 := Int32.le_toInt x0; omega
  have hhi_x0 : x0.toInt ≤ (2147483647 : Int) := by have h9 := Int32.toInt_lt x0; omega
  refine lv_aload_n hx hb dX16_entry_0 rfl (lv_at hl 0 rfl) ?_
  refine lv_iload_n hx hb dX16_entry_1 rfl (lv_at hl 1 rfl) ?_
  refine pz_go (wr := []) (vx_runV (C := "SourcewrightModel") (As := [.int x0]) (rest := []) ⟨hx, hb, hml, hown, hts⟩ (cX16_noByte_1 l hst G X s.heap.size a0 x0 a1 a2 a3 a4) (cwV 1 hts (pz_gV wq_1945 wq_1947 wqs_87 wq_13 wq_1948) rfl rfl rfl (by decide +kernel) ⟨(Nat.le_of_ble_eq_true rfl), (Nat.le_of_ble_eq_true rfl)⟩) (pz_preV (C := ("SourcewrightModel", TX16, 7)) hK hP hD hS hA hE 0 (ci := 15) rfl rfl [0, 1] rfl rfl) rfl rfl hl.1 rfl (lv_room (Nat.le_of_ble_eq_true rfl)) dX16_entry_2 ⟨(Nat.le_of_ble_eq_true rfl), (Nat.le_of_ble_eq_true rfl)⟩) hP hD hS hA [0, 1] [] rfl rfl rfl (by decide) (fun u H locs hP hD hS => ?_)
  have hP : va_P G.1 pz_cl [(a0, .inr (15, [.int 1, .ref a1, .ref a2, .ref a3, .ref a4, .int 0, .null])), (a1, .inr (17, [.int 0, .ref (X 3), .int 0]))] H := hP
  have hD : va_D A [(a0, .inr (15, [.int 1, .ref a1, .ref a2, .ref a3, .ref a4, .int 0, .null])), (a1, .inr (17, [.int 0, .ref (X 3), .int 0]))] := hD
  refine W.eq (g2 := F0 m 5 ls [.int 1]) rfl ?_
  refine lv_if_eq (tgt := 10) hx hb dX16_entry_5 (by decide) (fun hc => absurd hc (by decide)) (fun _ => ?_)
  refine lv_iconst (v := 0) hx hb dX16_entry_8 (by decide) ?_
  exact pz_rz hx hb hr hlocks (by decide +kernel) hS (Nat.le_of_ble_eq_true rfl) (Nat.le_of_ble_eq_true rfl) dX16_entry_9 () rfl (hP.sub [0, 1] rfl) (hD.sub [0, 1] rfl rfl)
set_option maxHeartbeats 4000000 in
set_option maxRecDepth 100000 in
theorem cX11_kind_1 (l : Launch) (hst : l.stackTraces = false) (G : pz_G) (X : Nat → Nat) (sz : Nat) (a0 : Nat) (x0 : Int32) (a1 : Nat) (a2 : Nat) (a3 : Nat) (a4 : Nat) (a5 : Nat) (a6 : Nat) (a7 : Nat) (a8 : Nat) (a9 : Nat) (a10 : Nat) (a11 : Nat) (a12 : Nat) (a13 : Nat) (a14 : Nat) (a15 : Nat) : pz_MT l yX11_kind (pz_cd yX11_kind cX11_kind 2 (some .char)) 7 105 1 6 G X sz [(a0, .inr (11, [.ref a1, .ref a2, .int 0, .ref a3, .int 0, .int 0, .ref a4, .ref a5, .ref a6, .ref a7, .ref a8, .ref a9, .ref a10, .ref a11, .ref a12, .ref a13, .int 0, .int (-1), .int (-1), .int 0])), (a1, .inr (2, [.ref a14, .ref a15, .int 0]))] [.ref a0, .int x0] "java/lang/IndexOutOfBoundsException" := by
  refine pz_onT (by decide +kernel) (Nat.le_of_ble_eq_true rfl) ?_
  intro p e s m below meth c A hx hb hr hml hown hts hlocks hin hx0 hP hK hD hS hA hE ls hl
  have hown : s.vm.findClass "Sourcewright" = some m.cls := hown
  have hl : lv_has ls 2 [(0, .ref a0), (1, .int x0)] := hl
  have hlo_x0 : (-2147483648 : Int) ≤ x0.toInt := by have h9 := Int32.le_toInt x0; omega
  have hhi_x0 : x0.toInt ≤ (2147483647 : Int) := by have h9 := Int32.toInt_lt x0; omega
  refine lv_aload_n hx hb dX11_kind_0 rfl (lv_at hl 0 rfl) ?_
  refine lv_iload_n hx hb dX11_kind_1 rfl (lv_at hl 1 rfl) ?_
  refine pz_goT (wr := []) (vx_runV (C := "Sourcewright") (As := [.int x0]) (rest := []) ⟨hx, hb, hml, hown, hts⟩ (cX11_checkPlace_1 l hst G X s.heap.size a0 x0 a1 a2 a3 a4 a5 a6 a7 a8 a9 a10 a11 a12 a13 a14 a15) (cwV 1 hts (pz_gV wq_1384 wq_1386 wqs_75 wq_1 wq_1387) rfl rfl rfl (by decide +kernel) ⟨(Nat.le_of_ble_eq_true rfl), (Nat.le_of_ble_eq_true rfl)⟩) (pz_preV (C := ("Sourcewright", TX11, 20)) hK hP hD hS hA hE 0 (ci := 11) rfl rfl [0, 1] rfl rfl) rfl rfl hl.1 rfl (lv_room (Nat.le_of_ble_eq_true rfl)) dX11_kind_2 ⟨(Nat.le_of_ble_eq_true rfl), (Nat.le_of_ble_eq_true rfl)⟩) hP hD hS hA [0, 1] [] rfl rfl rfl (by decide) (fun ce q9 H locs hP hD hS hce hcv hcl => ?_)
  exact pz_out hx0 hlocks hce hcv hcl hS (Nat.le_of_ble_eq_true rfl) (Nat.le_of_ble_eq_true rfl)
set_option maxHeartbeats 4000000 in
set_option maxRecDepth 100000 in
theorem cL_kind_1 (l : Launch) (hst : l.stackTraces = false) (G : pz_G) (X : Nat → Nat) (sz : Nat) (a0 : Nat) (x0 : Int32) (a1 : Nat) (a2 : Nat) (a3 : Nat) (a4 : Nat) (a5 : Nat) (a6 : Nat) (a7 : Nat) (a8 : Nat) (a9 : Nat) (a10 : Nat) (a11 : Nat) (a12 : Nat) (a13 : Nat) (a14 : Nat) (a15 : Nat) (a16 : Nat) : pz_MR (S := Unit) l yL_kind (pz_cw yL_kind cL_kind 4 (some .int) [(0, 9, 12, 21)]) 8 126 1 6 G X sz [(a0, .inr (11, [.ref a2, .ref a3, .int 0, .ref a4, .int 0, .int 0, .ref a5, .ref a6, .ref a7, .ref a8, .ref a9, .ref a10, .ref a11, .ref a12, .ref a13, .ref a14, .int 0, .int (-1), .int (-1), .int 0])), (a2, .inr (2, [.ref a15, .ref a16, .int 0]))] [.ref a0, .int x0, .ref a1] (fun u => some (.int 1)) (fun u => []) := by
  refine pz_onHR (by decide +kernel) (Nat.le_of_ble_eq_true rfl) ?_
  intro p e s m below meth c A hx hb hr hml hown hts hlocks hin hx0 hP hK hD hS hA hE ls hl
  have hown : s.vm.findClass "SourcewrightLaw" = some m.cls := hown
  have hl : lv_has ls 4 [(0, .ref a0), (1, .int x0), (2, .ref a1)] := hl
  have hlo_x0 : (-2147483648 : Int) ≤ x0.toInt := by have h9 := Int32.le_toInt x0; omega
  have hhi_x0 : x0.toInt ≤ (2147483647 : Int) := by have h9 := Int32.toInt_lt x0; omega
  refine lv_aload_n hx hb dL_kind_0 rfl (lv_at hl 2 rfl) ?_
  refine lv_iconst (v := 0) hx hb dL_kind_1 (by decide) ?_
  refine lv_aload_n hx hb dL_kind_2 rfl (lv_at hl 0 rfl) ?_
  refine lv_iload_n hx hb dL_kind_3 rfl (lv_at hl 1 rfl) ?_
  refine pz_goT (wr := []) (vx_runV (C := "Sourcewright") (As := [.int x0]) (rest := [.int 0, .ref a1]) ⟨hx, hb, hml, hown, hts⟩ (cX11_kind_1 l hst G X s.heap.size a0 x0 a2 a3 a4 a5 a6 a7 a8 a9 a10 a11 a12 a13 a14 a15 a16) (cwV 1 hts (pz_gV wq_1441 wq_1442 wq_1443 wq_1 wq_1444) rfl rfl rfl (by decide +kernel) ⟨(Nat.le_of_ble_eq_true rfl), (Nat.le_of_ble_eq_true rfl)⟩) (pz_preV (C := ("Sourcewright", TX11, 20)) hK hP hD hS hA hE 0 (ci := 11) rfl rfl [0, 1] rfl rfl) rfl rfl hl.1 rfl (lv_room (Nat.le_of_ble_eq_true rfl)) dL_kind_4 ⟨(Nat.le_of_ble_eq_true rfl), (Nat.le_of_ble_eq_true rfl)⟩) hP hD hS hA [0, 1] [] rfl rfl rfl (by decide) (fun ce q9 H locs hP hD hS hce hcv hcl => ?_)
  refine vx_catch hown [] ⟨0, 9, 12, 21⟩ [] hx0 (fun z hz => by cases hz) rfl (by decide) (hts _ wq_1356) (va_Nw.use rfl (hE.2.2.2.2.2.2.2.2.1 _ nx_1390)) hce hcv hcl ?_
  have hP : va_P G.1 pz_cl [] H := hP
  have hD : va_D A [] := hD
  refine W.eq (g2 := F0 m 12 ls [.ref q9]) rfl ?_
  refine lv_astore_n (lv' := [(3, .ref q9), (0, .ref a0), (1, .int x0), (2, .ref a1)]) hx hb dL_kind_12 rfl hl (by decide) rfl (fun ls hl => ?_)
  refine lv_iconst (v := 1) hx hb dL_kind_13 (by decide) ?_
  exact pz_rz hx hb hr hlocks (by decide +kernel) hS (Nat.le_of_ble_eq_true rfl) (Nat.le_of_ble_eq_true rfl) dL_kind_14 () rfl (hP.sub [] rfl) (hD.sub [] rfl rfl)
set_option maxHeartbeats 4000000 in
set_option maxRecDepth 100000 in
theorem cX16_kind_1 (l : Launch) (hst : l.stackTraces = false) (G : pz_G) (X : Nat → Nat) (sz : Nat) (a0 : Nat) (x0 : Int32) (a1 : Nat) (a2 : Nat) (a3 : Nat) (a4 : Nat) : pz_MR (S := Unit) l yX16_kind (pz_cd yX16_kind cX16_kind 2 (some .char)) 2 43 0 0 G X sz [(a0, .inr (15, [.int 0, .ref a1, .ref a2, .ref a3, .ref a4, .int 0, .null])), (a1, .inr (17, [.int 0, .ref (X 3), .int 0]))] [.ref a0, .int x0] (fun u => some (.int 32)) (fun u => [(a0, .inr (15, [.int 1, .ref a1, .ref a2, .ref a3, .ref a4, .int 0, .null])), (a1, .inr (17, [.int 0, .ref (X 3), .int 0]))]) := by
  refine pz_onR (by decide +kernel) (Nat.le_of_ble_eq_true rfl) ?_
  intro p e s m below meth c A hx hb hr hml hown hts hlocks hin hx0 hP hK hD hS hA hE ls hl
  have hown : s.vm.findClass "SourcewrightModel" = some m.cls := hown
  have hl : lv_has ls 2 [(0, .ref a0), (1, .int x0)] := hl
  have hlo_x0 : (-2147483648 : Int) ≤ x0.toInt := by have h9 := Int32.le_toInt x0; omega
  have hhi_x0 : x0.toInt ≤ (2147483647 : Int) := by have h9 := Int32.toInt_lt x0; omega
  refine lv_aload_n hx hb dX16_kind_0 rfl (lv_at hl 0 rfl) ?_
  refine lv_iload_n hx hb dX16_kind_1 rfl (lv_at hl 1 rfl) ?_
  refine pz_go (wr := []) (vx_runV (C := "SourcewrightModel") (As := [.int x0]) (rest := []) ⟨hx, hb, hml, hown, hts⟩ (cX16_noByte_1 l hst G X s.heap.size a0 x0 a1 a2 a3 a4) (cwV 1 hts (pz_gV wq_1945 wq_1947 wqs_87 wq_13 wq_1948) rfl rfl rfl (by decide +kernel) ⟨(Nat.le_of_ble_eq_true rfl), (Nat.le_of_ble_eq_true rfl)⟩) (pz_preV (C := ("SourcewrightModel", TX16, 7)) hK hP hD hS hA hE 0 (ci := 15) rfl rfl [0, 1] rfl rfl) rfl rfl hl.1 rfl (lv_room (Nat.le_of_ble_eq_true rfl)) dX16_kind_2 ⟨(Nat.le_of_ble_eq_true rfl), (Nat.le_of_ble_eq_true rfl)⟩) hP hD hS hA [0, 1] [] rfl rfl rfl (by decide) (fun u H locs hP hD hS => ?_)
  have hP : va_P G.1 pz_cl [(a0, .inr (15, [.int 1, .ref a1, .ref a2, .ref a3, .ref a4, .int 0, .null])), (a1, .inr (17, [.int 0, .ref (X 3), .int 0]))] H := hP
  have hD : va_D A [(a0, .inr (15, [.int 1, .ref a1, .ref a2, .ref a3, .ref a4, .int 0, .null])), (a1, .inr (17, [.int 0, .ref (X 3), .int 0]))] := hD
  refine W.eq (g2 := F0 m 5 ls [.int 1]) rfl ?_
  refine lv_if_eq (tgt := 13) hx hb dX16_kind_5 (by decide) (fun hc => absurd hc (by decide)) (fun _ => ?_)
  refine lv_bipush (v := 32) hx hb dX16_kind_8 (by decide) ?_
  refine lv_goto (tgt := 21) hx hb dX16_kind_10 (by decide) ?_
  exact pz_rz hx hb hr hlocks (by decide +kernel) hS (Nat.le_of_ble_eq_true rfl) (Nat.le_of_ble_eq_true rfl) dX16_kind_21 () rfl (hP.sub [0, 1] rfl) (hD.sub [0, 1] rfl rfl)
set_option maxHeartbeats 4000000 in
set_option maxRecDepth 100000 in
theorem cX11_isInDoubt_1 (l : Launch) (hst : l.stackTraces = false) (G : pz_G) (X : Nat → Nat) (sz : Nat) (a0 : Nat) (x0 : Int32) (a1 : Nat) (a2 : Nat) (a3 : Nat) (a4 : Nat) (a5 : Nat) (a6 : Nat) (a7 : Nat) (a8 : Nat) (a9 : Nat) (a10 : Nat) (a11 : Nat) (a12 : Nat) (a13 : Nat) (a14 : Nat) (a15 : Nat) : pz_MT l yX11_isInDoubt (pz_cd yX11_isInDoubt cX11_isInDoubt 2 (some .boolean)) 7 105 1 6 G X sz [(a0, .inr (11, [.ref a1, .ref a2, .int 0, .ref a3, .int 0, .int 0, .ref a4, .ref a5, .ref a6, .ref a7, .ref a8, .ref a9, .ref a10, .ref a11, .ref a12, .ref a13, .int 0, .int (-1), .int (-1), .int 0])), (a1, .inr (2, [.ref a14, .ref a15, .int 0]))] [.ref a0, .int x0] "java/lang/IndexOutOfBoundsException" := by
  refine pz_onT (by decide +kernel) (Nat.le_of_ble_eq_true rfl) ?_
  intro p e s m below meth c A hx hb hr hml hown hts hlocks hin hx0 hP hK hD hS hA hE ls hl
  have hown : s.vm.findClass "Sourcewright" = some m.cls := hown
  have hl : lv_has ls 2 [(0, .ref a0), (1, .int x0)] := hl
  have hlo_x0 : (-2147483648 : Int) ≤ x0.toInt := by have h9 := Int32.le_toInt x0; omega
  have hhi_x0 : x0.toInt ≤ (2147483647 : Int) := by have h9 := Int32.toInt_lt x0; omega
  refine lv_aload_n hx hb dX11_isInDoubt_0 rfl (lv_at hl 0 rfl) ?_
  refine lv_iload_n hx hb dX11_isInDoubt_1 rfl (lv_at hl 1 rfl) ?_
  refine pz_goT (wr := []) (vx_runV (C := "Sourcewright") (As := [.int x0]) (rest := []) ⟨hx, hb, hml, hown, hts⟩ (cX11_checkPlace_1 l hst G X s.heap.size a0 x0 a1 a2 a3 a4 a5 a6 a7 a8 a9 a10 a11 a12 a13 a14 a15) (cwV 1 hts (pz_gV wq_1384 wq_1386 wqs_75 wq_1 wq_1387) rfl rfl rfl (by decide +kernel) ⟨(Nat.le_of_ble_eq_true rfl), (Nat.le_of_ble_eq_true rfl)⟩) (pz_preV (C := ("Sourcewright", TX11, 20)) hK hP hD hS hA hE 0 (ci := 11) rfl rfl [0, 1] rfl rfl) rfl rfl hl.1 rfl (lv_room (Nat.le_of_ble_eq_true rfl)) dX11_isInDoubt_2 ⟨(Nat.le_of_ble_eq_true rfl), (Nat.le_of_ble_eq_true rfl)⟩) hP hD hS hA [0, 1] [] rfl rfl rfl (by decide) (fun ce q9 H locs hP hD hS hce hcv hcl => ?_)
  exact pz_out hx0 hlocks hce hcv hcl hS (Nat.le_of_ble_eq_true rfl) (Nat.le_of_ble_eq_true rfl)
set_option maxHeartbeats 4000000 in
set_option maxRecDepth 100000 in
theorem cL_isInDoubt_1 (l : Launch) (hst : l.stackTraces = false) (G : pz_G) (X : Nat → Nat) (sz : Nat) (a0 : Nat) (x0 : Int32) (a1 : Nat) (a2 : Nat) (a3 : Nat) (a4 : Nat) (a5 : Nat) (a6 : Nat) (a7 : Nat) (a8 : Nat) (a9 : Nat) (a10 : Nat) (a11 : Nat) (a12 : Nat) (a13 : Nat) (a14 : Nat) (a15 : Nat) (a16 : Nat) : pz_MR (S := Unit) l yL_isInDoubt (pz_cw yL_isInDoubt cL_isInDoubt 4 (some .int) [(0, 16, 19, 21)]) 8 126 1 6 G X sz [(a0, .inr (11, [.ref a2, .ref a3, .int 0, .ref a4, .int 0, .int 0, .ref a5, .ref a6, .ref a7, .ref a8, .ref a9, .ref a10, .ref a11, .ref a12, .ref a13, .ref a14, .int 0, .int (-1), .int (-1), .int 0])), (a2, .inr (2, [.ref a15, .ref a16, .int 0]))] [.ref a0, .int x0, .ref a1] (fun u => some (.int 1)) (fun u => []) := by
  refine pz_onHR (by decide +kernel) (Nat.le_of_ble_eq_true rfl) ?_
  intro p e s m below meth c A hx hb hr hml hown hts hlocks hin hx0 hP hK hD hS hA hE ls hl
  have hown : s.vm.findClass "SourcewrightLaw" = some m.cls := hown
  have hl : lv_has ls 4 [(0, .ref a0), (1, .int x0), (2, .ref a1)] := hl
  have hlo_x0 : (-2147483648 : Int) ≤ x0.toInt := by have h9 := Int32.le_toInt x0; omega
  have hhi_x0 : x0.toInt ≤ (2147483647 : Int) := by have h9 := Int32.toInt_lt x0; omega
  refine lv_aload_n hx hb dL_isInDoubt_0 rfl (lv_at hl 2 rfl) ?_
  refine lv_iconst (v := 0) hx hb dL_isInDoubt_1 (by decide) ?_
  refine lv_aload_n hx hb dL_isInDoubt_2 rfl (lv_at hl 0 rfl) ?_
  refine lv_iload_n hx hb dL_isInDoubt_3 rfl (lv_at hl 1 rfl) ?_
  refine pz_goT (wr := []) (vx_runV (C := "Sourcewright") (As := [.int x0]) (rest := [.int 0, .ref a1]) ⟨hx, hb, hml, hown, hts⟩ (cX11_isInDoubt_1 l hst G X s.heap.size a0 x0 a2 a3 a4 a5 a6 a7 a8 a9 a10 a11 a12 a13 a14 a15 a16) (cwV 1 hts (pz_gV wq_1448 wq_1449 wq_1450 wq_1 wq_1451) rfl rfl rfl (by decide +kernel) ⟨(Nat.le_of_ble_eq_true rfl), (Nat.le_of_ble_eq_true rfl)⟩) (pz_preV (C := ("Sourcewright", TX11, 20)) hK hP hD hS hA hE 0 (ci := 11) rfl rfl [0, 1] rfl rfl) rfl rfl hl.1 rfl (lv_room (Nat.le_of_ble_eq_true rfl)) dL_isInDoubt_4 ⟨(Nat.le_of_ble_eq_true rfl), (Nat.le_of_ble_eq_true rfl)⟩) hP hD hS hA [0, 1] [] rfl rfl rfl (by decide) (fun ce q9 H locs hP hD hS hce hcv hcl => ?_)
  refine vx_catch hown [] ⟨0, 16, 19, 21⟩ [] hx0 (fun z hz => by cases hz) rfl (by decide) (hts _ wq_1356) (va_Nw.use rfl (hE.2.2.2.2.2.2.2.2.1 _ nx_1390)) hce hcv hcl ?_
  have hP : va_P G.1 pz_cl [] H := hP
  have hD : va_D A [] := hD
  refine W.eq (g2 := F0 m 19 ls [.ref q9]) rfl ?_
  refine lv_astore_n (lv' := [(3, .ref q9), (0, .ref a0), (1, .int x0), (2, .ref a1)]) hx hb dL_isInDoubt_19 rfl hl (by decide) rfl (fun ls hl => ?_)
  refine lv_iconst (v := 1) hx hb dL_isInDoubt_20 (by decide) ?_
  exact pz_rz hx hb hr hlocks (by decide +kernel) hS (Nat.le_of_ble_eq_true rfl) (Nat.le_of_ble_eq_true rfl) dL_isInDoubt_21 () rfl (hP.sub [] rfl) (hD.sub [] rfl rfl)
set_option maxHeartbeats 4000000 in
set_option maxRecDepth 100000 in
theorem cX16_isInDoubt_1 (l : Launch) (hst : l.stackTraces = false) (G : pz_G) (X : Nat → Nat) (sz : Nat) (a0 : Nat) (x0 : Int32) (a1 : Nat) (a2 : Nat) (a3 : Nat) (a4 : Nat) : pz_MR (S := Unit) l yX16_isInDoubt (pz_cd yX16_isInDoubt cX16_isInDoubt 2 (some .boolean)) 2 43 0 0 G X sz [(a0, .inr (15, [.int 0, .ref a1, .ref a2, .ref a3, .ref a4, .int 0, .null])), (a1, .inr (17, [.int 0, .ref (X 3), .int 0]))] [.ref a0, .int x0] (fun u => some (.int 0)) (fun u => [(a0, .inr (15, [.int 1, .ref a1, .ref a2, .ref a3, .ref a4, .int 0, .null])), (a1, .inr (17, [.int 0, .ref (X 3), .int 0]))]) := by
  refine pz_onR (by decide +kernel) (Nat.le_of_ble_eq_true rfl) ?_
  intro p e s m below meth c A hx hb hr hml hown hts hlocks hin hx0 hP hK hD hS hA hE ls hl
  have hown : s.vm.findClass "SourcewrightModel" = some m.cls := hown
  have hl : lv_has ls 2 [(0, .ref a0), (1, .int x0)] := hl
  have hlo_x0 : (-2147483648 : Int) ≤ x0.toInt := by have h9 := Int32.le_toInt x0; omega
  have hhi_x0 : x0.toInt ≤ (2147483647 : Int) := by have h9 := Int32.toInt_lt x0; omega
  refine lv_aload_n hx hb dX16_isInDoubt_0 rfl (lv_at hl 0 rfl) ?_
  refine lv_iload_n hx hb dX16_isInDoubt_1 rfl (lv_at hl 1 rfl) ?_
  refine pz_go (wr := []) (vx_runV (C := "SourcewrightModel") (As := [.int x0]) (rest := []) ⟨hx, hb, hml, hown, hts⟩ (cX16_noByte_1 l hst G X s.heap.size a0 x0 a1 a2 a3 a4) (cwV 1 hts (pz_gV wq_1945 wq_1947 wqs_87 wq_13 wq_1948) rfl rfl rfl (by decide +kernel) ⟨(Nat.le_of_ble_eq_true rfl), (Nat.le_of_ble_eq_true rfl)⟩) (pz_preV (C := ("SourcewrightModel", TX16, 7)) hK hP hD hS hA hE 0 (ci := 15) rfl rfl [0, 1] rfl rfl) rfl rfl hl.1 rfl (lv_room (Nat.le_of_ble_eq_true rfl)) dX16_isInDoubt_2 ⟨(Nat.le_of_ble_eq_true rfl), (Nat.le_of_ble_eq_true rfl)⟩) hP hD hS hA [0, 1] [] rfl rfl rfl (by decide) (fun u H locs hP hD hS => ?_)
  have hP : va_P G.1 pz_cl [(a0, .inr (15, [.int 1, .ref a1, .ref a2, .ref a3, .ref a4, .int 0, .null])), (a1, .inr (17, [.int 0, .ref (X 3), .int 0]))] H := hP
  have hD : va_D A [(a0, .inr (15, [.int 1, .ref a1, .ref a2, .ref a3, .ref a4, .int 0, .null])), (a1, .inr (17, [.int 0, .ref (X 3), .int 0]))] := hD
  refine W.eq (g2 := F0 m 5 ls [.int 1]) rfl ?_
  refine lv_if_ne (tgt := 23) hx hb dX16_isInDoubt_5 (by decide) (fun _ => ?_) (fun hc => absurd hc (by decide))
  refine lv_iconst (v := 0) hx hb dX16_isInDoubt_23 (by decide) ?_
  exact pz_rz hx hb hr hlocks (by decide +kernel) hS (Nat.le_of_ble_eq_true rfl) (Nat.le_of_ble_eq_true rfl) dX16_isInDoubt_24 () rfl (hP.sub [0, 1] rfl) (hD.sub [0, 1] rfl rfl)
set_option maxHeartbeats 4000000 in
set_option maxRecDepth 100000 in
theorem cX2_decode_1 (l : Launch) (hst : l.stackTraces = false) (G : pz_G) (X : Nat → Nat) (sz : Nat) (a0 : Nat) (a1 : Nat) (a2 : Nat) : pz_MR (S := Unit) l yX2_decode (pz_cd yX2_decode cX2_decode 2 none) 0 0 0 0 G X sz [(a0, .inr (2, [.ref a1, .ref a2, .int 0]))] [.ref a0] (fun u => none) (fun u => [(a0, .inr (2, [.ref a1, .ref a2, .int 0]))]) := by
  refine pz_onR (by decide +kernel) (Nat.le_of_ble_eq_true rfl) ?_
  intro p e s m below meth c A hx hb hr hml hown hts hlocks hin hx0 hP hK hD hS hA hE ls hl
  have hown : s.vm.findClass "Sourcewright$Code" = some m.cls := hown
  have hl : lv_has ls 2 [(0, .ref a0)] := hl
  refine lv_iconst (v := 0) hx hb dX2_decode_0 (by decide) ?_
  refine lv_istore_n (lv' := [(1, .int 0), (0, .ref a0)]) hx hb dX2_decode_1 rfl hl (by decide) rfl (fun ls hl => ?_)
  refine lv_iload_n hx hb dX2_decode_2 rfl (lv_at hl 0 rfl) ?_
  refine lv_aload_n hx hb dX2_decode_3 rfl (lv_at hl 1 rfl) ?_
  refine va_get (D := G.1) (ci := 2) (v := .int 0) (C := "Sourcewright$Code") (T := TX2) (N := 3) hx hb hts inX2 hown hK hP 0 rfl rfl 2 (by decide) (hts _ wq_64) (fun _ h9 => h9) rfl dX2_decode_4 ?_
  refine lv_icmp_ge (tgt := 36) hx hb dX2_decode_7 (by decide) (fun _ => ?_) (fun hc => absurd hc (by decide))
  exact pz_rv hx hb hr hlocks hS (Nat.le_of_ble_eq_true rfl) (Nat.le_of_ble_eq_true rfl) dX2_decode_36 () rfl (hP.sub [0] rfl) (hD.sub [0] rfl rfl)
set_option maxHeartbeats 4000000 in
set_option maxRecDepth 100000 in
theorem cX5_findReturns_1 (l : Launch) (hst : l.stackTraces = false) (G : pz_G) (X : Nat → Nat) (sz : Nat) (a0 : Nat) (a1 : Nat) (a2 : Nat) (a3 : Nat) (a4 : Nat) (a5 : Nat) (a6 : Nat) (a7 : Nat) : pz_MR (S := Unit) l yX5_findReturns (pz_cd yX5_findReturns cX5_findReturns 4 none) 0 0 0 0 G X sz [(a0, .inr (5, [.ref a1, .ref a2, .ref a3, .ref a4, .ref a5, .ref a6, .ref a7, .int 0, .int 0, .int 0]))] [.ref a0] (fun u => none) (fun u => [(a0, .inr (5, [.ref a1, .ref a2, .ref a3, .ref a4, .ref a5, .ref a6, .ref a7, .int 0, .int 0, .int 0]))]) := by
  refine pz_onR (by decide +kernel) (Nat.le_of_ble_eq_true rfl) ?_
  intro p e s m below meth c A hx hb hr hml hown hts hlocks hin hx0 hP hK hD hS hA hE ls hl
  have hown : s.vm.findClass "Sourcewright$Reading" = some m.cls := hown
  have hl : lv_has ls 4 [(0, .ref a0)] := hl
  refine lv_iconst (v := 0) hx hb dX5_findReturns_0 (by decide) ?_
  refine lv_istore_n (lv' := [(1, .int 0), (0, .ref a0)]) hx hb dX5_findReturns_1 rfl hl (by decide) rfl (fun ls hl => ?_)
  refine lv_iload_n hx hb dX5_findReturns_2 rfl (lv_at hl 0 rfl) ?_
  refine lv_aload_n hx hb dX5_findReturns_3 rfl (lv_at hl 1 rfl) ?_
  refine va_get (D := G.1) (ci := 5) (v := .int 0) (C := "Sourcewright$Reading") (T := TX5) (N := 10) hx hb hts inX5 hown hK hP 0 rfl rfl 8 (by decide) (hts _ wq_101) (fun _ h9 => h9) rfl dX5_findReturns_4 ?_
  refine lv_icmp_ge (tgt := 23) hx hb dX5_findReturns_7 (by decide) (fun _ => ?_) (fun hc => absurd hc (by decide))
  refine lv_iconst (v := 1) hx hb dX5_findReturns_23 (by decide) ?_
  refine lv_istore_n (lv' := [(1, .int 1), (0, .ref a0)]) hx hb dX5_findReturns_24 rfl hl (by decide) rfl (fun ls hl => ?_)
  refine lv_iconst (v := 0) hx hb dX5_findReturns_25 (by decide) ?_
  refine lv_istore_n (lv' := [(2, .int 0), (1, .int 1), (0, .ref a0)]) hx hb dX5_findReturns_26 rfl hl (by decide) rfl (fun ls hl => ?_)
  refine lv_iload_n hx hb dX5_findReturns_27 rfl (lv_at hl 1 rfl) ?_
  refine lv_if_eq (tgt := 88) hx hb dX5_findReturns_28 (by decide) (fun hc => absurd hc (by decide)) (fun _ => ?_)
  refine lv_iload_n hx hb dX5_findReturns_31 rfl (lv_at hl 0 rfl) ?_
  refine lv_bipush (v := 120) hx hb dX5_findReturns_32 (by decide) ?_
  refine lv_icmp_gt (tgt := 88) hx hb dX5_findReturns_34 (by decide) (fun hc => absurd hc (by decide)) (fun _ => ?_)
  refine lv_iconst (v := 0) hx hb dX5_findReturns_37 (by decide) ?_
  refine lv_istore_n (lv' := [(1, .int 0), (2, .int 0), (0, .ref a0)]) hx hb dX5_findReturns_38 rfl hl (by decide) rfl (fun ls hl => ?_)
  refine lv_aload_n hx hb dX5_findReturns_39 rfl (lv_at hl 2 rfl) ?_
  refine va_get (D := G.1) (ci := 5) (v := .int 0) (C := "Sourcewright$Reading") (T := TX5) (N := 10) hx hb hts inX5 hown hK hP 0 rfl rfl 8 (by decide) (hts _ wq_101) (fun _ h9 => h9) rfl dX5_findReturns_40 ?_
  refine lv_iconst (v := 1) hx hb dX5_findReturns_43 (by decide) ?_
  refine lv_isub hx hb dX5_findReturns_44 (pz_K (y := (-1)) (by decide) ?_)
  refine lv_istore_n (lv' := [(3, .int (-1)), (1, .int 0), (2, .int 0), (0, .ref a0)]) hx hb dX5_findReturns_45 rfl hl (by decide) rfl (fun ls hl => ?_)
  refine lv_iload_n hx hb dX5_findReturns_46 rfl (lv_at hl 0 rfl) ?_
  refine lv_if_lt (tgt := 82) hx hb dX5_findReturns_47 (by decide) (fun _ => ?_) (fun hc => absurd hc (by decide))
  refine lv_iinc (v := 1) (lv' := [(2, .int 1), (3, .int (-1)), (1, .int 0), (0, .ref a0)]) hx hb dX5_findReturns_82 hl (k := 2) rfl (by decide) (by decide) rfl (fun ls hl => ?_)
  refine lv_goto (tgt := 27) hx hb dX5_findReturns_85 (by decide) ?_
  refine lv_iload_n hx hb dX5_findReturns_27 rfl (lv_at hl 2 rfl) ?_
  refine lv_if_eq (tgt := 88) hx hb dX5_findReturns_28 (by decide) (fun _ => ?_) (fun hc => absurd hc (by decide))
  exact pz_rv hx hb hr hlocks hS (Nat.le_of_ble_eq_true rfl) (Nat.le_of_ble_eq_true rfl) dX5_findReturns_88 () rfl (hP.sub [0] rfl) (hD.sub [0] rfl rfl)
set_option maxHeartbeats 4000000 in
set_option maxRecDepth 100000 in
theorem cX7_clear_1 (l : Launch) (hst : l.stackTraces = false) (G : pz_G) (X : Nat → Nat) (sz : Nat) (a0 : Nat) (a1 : Nat) (a2 : Nat) (f0 : Nat → Int64) (f1 : Nat → Int64) : pz_MR (S := Unit) l yX7_clear (pz_cd yX7_clear cX7_clear 2 none) 0 0 0 0 G X sz [(a0, .inr (7, [.ref a1, .ref a2])), (a1, .inl (G.2 2, 121, .inr (.inl (f0)))), (a2, .inl (G.2 2, 121, .inr (.inl (f1))))] [.ref a0, .int 120] (fun u => none) (fun u => [(a0, .inr (7, [.ref a1, .ref a2])), (a1, .inl (G.2 2, 121, .inr (.inl (vp_updL (f0) 120 0)))), (a2, .inl (G.2 2, 121, .inr (.inl (vp_updL (f1) 120 0))))]) := by
  refine pz_onR (by decide +kernel) (Nat.le_of_ble_eq_true rfl) ?_
  intro p e s m below meth c A hx hb hr hml hown hts hlocks hin hx0 hP hK hD hS hA hE ls hl
  have hown : s.vm.findClass "Sourcewright$Sets" = some m.cls := hown
  have hl : lv_has ls 2 [(0, .ref a0), (1, .int 120)] := hl
  refine lv_iload_n hx hb dX7_clear_0 rfl (lv_at hl 1 rfl) ?_
  refine lv_if_lt (tgt := 36) hx hb dX7_clear_1 (by decide) (fun hc => absurd hc (by decide)) (fun _ => ?_)
  refine lv_iload_n hx hb dX7_clear_4 rfl (lv_at hl 1 rfl) ?_
  refine lv_aload_n hx hb dX7_clear_5 rfl (lv_at hl 0 rfl) ?_
  refine va_get (D := G.1) (ci := 7) (v := .ref a1) (C := "Sourcewright$Sets") (T := TX7) (N := 2) hx hb hts inX7 hown hK hP 0 rfl rfl 0 (by decide) (hts _ wq_85) (fun _ h9 => h9) rfl dX7_clear_6 ?_
  refine va_alen (v := 121) hx hb hK hP 1 2 rfl rfl (by show Int32.ofNat 121 = 121; decide) dX7_clear_9 ?_
  refine lv_icmp_ge (tgt := 36) hx hb dX7_clear_10 (by decide) (fun hc => absurd hc (by decide)) (fun _ => ?_)
  refine lv_iload_n hx hb dX7_clear_13 rfl (lv_at hl 1 rfl) ?_
  refine lv_aload_n hx hb dX7_clear_14 rfl (lv_at hl 0 rfl) ?_
  refine va_get (D := G.1) (ci := 7) (v := .ref a2) (C := "Sourcewright$Sets") (T := TX7) (N := 2) hx hb hts inX7 hown hK hP 0 rfl rfl 1 (by decide) (hts _ wq_86) (fun _ h9 => h9) rfl dX7_clear_15 ?_
  refine va_alen (v := 121) hx hb hK hP 2 2 rfl rfl (by show Int32.ofNat 121 = 121; decide) dX7_clear_18 ?_
  refine lv_icmp_ge (tgt := 36) hx hb dX7_clear_19 (by decide) (fun hc => absurd hc (by decide)) (fun _ => ?_)
  refine lv_aload_n hx hb dX7_clear_22 rfl (lv_at hl 0 rfl) ?_
  refine va_get (D := G.1) (ci := 7) (v := .ref a1) (C := "Sourcewright$Sets") (T := TX7) (N := 2) hx hb hts inX7 hown hK hP 0 rfl rfl 0 (by decide) (hts _ wq_85) (fun _ h9 => h9) rfl dX7_clear_23 ?_
  refine lv_iload_n hx hb dX7_clear_26 rfl (lv_at hl 1 rfl) ?_
  refine lv_lconst (v := 0) hx hb dX7_clear_27 (by decide) ?_
  refine va_last hx hb hK hP hD hS 1 2 rfl rfl (pz_vi rfl) dX7_clear_28 (fun H locs hP hD hS => ?_)
  have hP : va_P G.1 pz_cl [(a0, .inr (7, [.ref a1, .ref a2])), (a1, .inl (G.2 2, 121, .inr (.inl (vp_updL (f0) 120 0)))), (a2, .inl (G.2 2, 121, .inr (.inl (f1))))] H := hP
  have hD : va_D A [(a0, .inr (7, [.ref a1, .ref a2])), (a1, .inl (G.2 2, 121, .inr (.inl (vp_updL (f0) 120 0)))), (a2, .inl (G.2 2, 121, .inr (.inl (f1))))] := hD
  refine lv_aload_n hx hb dX7_clear_29 rfl (lv_at hl 0 rfl) ?_
  refine va_get (D := G.1) (ci := 7) (v := .ref a2) (C := "Sourcewright$Sets") (T := TX7) (N := 2) hx hb hts inX7 hown hK hP 0 rfl rfl 1 (by decide) (hts _ wq_86) (fun _ h9 => h9) rfl dX7_clear_30 ?_
  refine lv_iload_n hx hb dX7_clear_33 rfl (lv_at hl 1 rfl) ?_
  refine lv_lconst (v := 0) hx hb dX7_clear_34 (by decide) ?_
  refine va_last hx hb hK hP hD hS 2 2 rfl rfl (pz_vi rfl) dX7_clear_35 (fun H locs hP hD hS => ?_)
  have hP : va_P G.1 pz_cl [(a0, .inr (7, [.ref a1, .ref a2])), (a1, .inl (G.2 2, 121, .inr (.inl (vp_updL (f0) 120 0)))), (a2, .inl (G.2 2, 121, .inr (.inl (vp_updL (f1) 120 0))))] H := hP
  have hD : va_D A [(a0, .inr (7, [.ref a1, .ref a2])), (a1, .inl (G.2 2, 121, .inr (.inl (vp_updL (f0) 120 0)))), (a2, .inl (G.2 2, 121, .inr (.inl (vp_updL (f1) 120 0))))] := hD
  exact pz_rv hx hb hr hlocks hS (Nat.le_of_ble_eq_true rfl) (Nat.le_of_ble_eq_true rfl) dX7_clear_36 () rfl (hP.sub [0, 1, 2] rfl) (hD.sub [0, 1, 2] rfl rfl)
set_option maxHeartbeats 4000000 in
set_option maxRecDepth 100000 in
theorem cX5_noteEntry_1 (l : Launch) (hst : l.stackTraces = false) (G : pz_G) (X : Nat → Nat) (sz : Nat) (a0 : Nat) (a1 : Nat) (a2 : Nat) (a3 : Nat) (a4 : Nat) (a5 : Nat) (a6 : Nat) (a7 : Nat) : pz_MR (S := Unit) l yX5_noteEntry (pz_cd yX5_noteEntry cX5_noteEntry 2 (some .boolean)) 0 0 0 0 G X sz [(a0, .inr (5, [.ref a1, .ref a2, .ref a3, .ref a4, .ref a5, .ref a6, .ref a7, .int 0, .int 0, .int 0]))] [.ref a0, .int 0] (fun u => some (.int 0)) (fun u => [(a0, .inr (5, [.ref a1, .ref a2, .ref a3, .ref a4, .ref a5, .ref a6, .ref a7, .int 0, .int 0, .int 0]))]) := by
  refine pz_onR (by decide +kernel) (Nat.le_of_ble_eq_true rfl) ?_
  intro p e s m below meth c A hx hb hr hml hown hts hlocks hin hx0 hP hK hD hS hA hE ls hl
  have hown : s.vm.findClass "Sourcewright$Reading" = some m.cls := hown
  have hl : lv_has ls 2 [(0, .ref a0), (1, .int 0)] := hl
  refine lv_iload_n hx hb dX5_noteEntry_0 rfl (lv_at hl 1 rfl) ?_
  refine lv_if_lt (tgt := 25) hx hb dX5_noteEntry_1 (by decide) (fun hc => absurd hc (by decide)) (fun _ => ?_)
  refine lv_iload_n hx hb dX5_noteEntry_4 rfl (lv_at hl 1 rfl) ?_
  refine lv_aload_n hx hb dX5_noteEntry_5 rfl (lv_at hl 0 rfl) ?_
  refine va_get (D := G.1) (ci := 5) (v := .int 0) (C := "Sourcewright$Reading") (T := TX5) (N := 10) hx hb hts inX5 hown hK hP 0 rfl rfl 8 (by decide) (hts _ wq_101) (fun _ h9 => h9) rfl dX5_noteEntry_6 ?_
  refine lv_icmp_ge (tgt := 25) hx hb dX5_noteEntry_9 (by decide) (fun _ => ?_) (fun hc => absurd hc (by decide))
  refine lv_iconst (v := 0) hx hb dX5_noteEntry_25 (by decide) ?_
  exact pz_rz hx hb hr hlocks (by decide +kernel) hS (Nat.le_of_ble_eq_true rfl) (Nat.le_of_ble_eq_true rfl) dX5_noteEntry_26 () rfl (hP.sub [0] rfl) (hD.sub [0] rfl rfl)
set_option maxHeartbeats 4000000 in
set_option maxRecDepth 100000 in
theorem cX5_findFunctions_1 (l : Launch) (hst : l.stackTraces = false) (G : pz_G) (X : Nat → Nat) (sz : Nat) (a0 : Nat) (a1 : Nat) (a2 : Nat) (a3 : Nat) (a4 : Nat) (a5 : Nat) (a6 : Nat) (a7 : Nat) (a8 : Nat) (a9 : Nat) (a10 : Nat) (f0 : Nat → Int64) (f1 : Nat → Int64) : pz_MR (S := Unit) l yX5_findFunctions (pz_cd yX5_findFunctions cX5_findFunctions 4 none) 1 21 0 0 G X sz [(a0, .inr (5, [.ref a5, .ref a2, .ref a6, .ref a7, .ref a8, .ref a9, .ref a10, .int 0, .int 0, .int 0])), (a2, .inr (7, [.ref a3, .ref a4])), (a3, .inl (G.2 2, 121, .inr (.inl (f0)))), (a4, .inl (G.2 2, 121, .inr (.inl (f1))))] [.ref a0, .ref a1, .int 0] (fun u => none) (fun u => [(a0, .inr (5, [.ref a5, .ref a2, .ref a6, .ref a7, .ref a8, .ref a9, .ref a10, .int 0, .int 0, .int 0])), (a2, .inr (7, [.ref a3, .ref a4])), (a3, .inl (G.2 2, 121, .inr (.inl (vp_updL (f0) 120 0)))), (a4, .inl (G.2 2, 121, .inr (.inl (vp_updL (f1) 120 0))))]) := by
  refine pz_onR (by decide +kernel) (Nat.le_of_ble_eq_true rfl) ?_
  intro p e s m below meth c A hx hb hr hml hown hts hlocks hin hx0 hP hK hD hS hA hE ls hl
  have hown : s.vm.findClass "Sourcewright$Reading" = some m.cls := hown
  have hl : lv_has ls 4 [(0, .ref a0), (1, .ref a1), (2, .int 0)] := hl
  refine lv_aload_n hx hb dX5_findFunctions_0 rfl (lv_at hl 0 rfl) ?_
  refine va_get (D := G.1) (ci := 5) (v := .ref a2) (C := "Sourcewright$Reading") (T := TX5) (N := 10) hx hb hts inX5 hown hK hP 0 rfl rfl 1 (by decide) (hts _ wq_94) (fun _ h9 => h9) rfl dX5_findFunctions_1 ?_
  refine lv_bipush (v := 120) hx hb dX5_findFunctions_4 (by decide) ?_
  refine pz_go (wr := [(a0, .inr (5, [.ref a5, .ref a2, .ref a6, .ref a7, .ref a8, .ref a9, .ref a10, .int 0, .int 0, .int 0]))]) (vx_runV (C := "Sourcewright$Sets") (As := [.int 120]) (rest := []) ⟨hx, hb, hml, hown, hts⟩ (cX7_clear_1 l hst G X s.heap.size a2 a3 a4 f0 f1) (cwV 1 hts (pz_gV wq_598 wq_599 wq_600 wq_4 wq_601) rfl rfl rfl (by decide +kernel) ⟨(Nat.le_of_ble_eq_true rfl), (Nat.le_of_ble_eq_true rfl)⟩) (pz_preV (C := ("Sourcewright$Sets", TX7, 2)) hK hP hD hS hA hE 1 (ci := 7) rfl rfl [1, 2, 3] rfl rfl) rfl rfl hl.1 rfl (lv_room (Nat.le_of_ble_eq_true rfl)) dX5_findFunctions_6 ⟨(Nat.le_of_ble_eq_true rfl), (Nat.le_of_ble_eq_true rfl)⟩) hP hD hS hA [1, 2, 3] [0] rfl rfl rfl (by decide) (fun u H locs hP hD hS => ?_)
  have hP : va_P G.1 pz_cl [(a0, .inr (5, [.ref a5, .ref a2, .ref a6, .ref a7, .ref a8, .ref a9, .ref a10, .int 0, .int 0, .int 0])), (a2, .inr (7, [.ref a3, .ref a4])), (a3, .inl (G.2 2, 121, .inr (.inl (vp_updL (f0) 120 0)))), (a4, .inl (G.2 2, 121, .inr (.inl (vp_updL (f1) 120 0))))] H := hP
  have hD : va_D A [(a0, .inr (5, [.ref a5, .ref a2, .ref a6, .ref a7, .ref a8, .ref a9, .ref a10, .int 0, .int 0, .int 0])), (a2, .inr (7, [.ref a3, .ref a4])), (a3, .inl (G.2 2, 121, .inr (.inl (vp_updL (f0) 120 0)))), (a4, .inl (G.2 2, 121, .inr (.inl (vp_updL (f1) 120 0))))] := hD
  refine W.eq (g2 := F0 m 9 ls []) rfl ?_
  refine lv_iconst (v := 0) hx hb dX5_findFunctions_9 (by decide) ?_
  refine lv_istore_n (lv' := [(3, .int 0), (0, .ref a0), (1, .ref a1), (2, .int 0)]) hx hb dX5_findFunctions_10 rfl hl (by decide) rfl (fun ls hl => ?_)
  refine lv_iload_n hx hb dX5_findFunctions_11 rfl (lv_at hl 0 rfl) ?_
  refine lv_aload_n hx hb dX5_findFunctions_12 rfl (lv_at hl 1 rfl) ?_
  refine va_get (D := G.1) (ci := 5) (v := .int 0) (C := "Sourcewright$Reading") (T := TX5) (N := 10) hx hb hts inX5 hown hK hP 0 rfl rfl 8 (by decide) (hts _ wq_101) (fun _ h9 => h9) rfl dX5_findFunctions_13 ?_
  refine lv_icmp_ge (tgt := 32) hx hb dX5_findFunctions_16 (by decide) (fun _ => ?_) (fun hc => absurd hc (by decide))
  refine lv_aload_n hx hb dX5_findFunctions_32 rfl (lv_at hl 1 rfl) ?_
  refine lv_iconst (v := 0) hx hb dX5_findFunctions_33 (by decide) ?_
  refine pz_go (wr := [(a2, .inr (7, [.ref a3, .ref a4])), (a3, .inl (G.2 2, 121, .inr (.inl (vp_updL (f0) 120 0)))), (a4, .inl (G.2 2, 121, .inr (.inl (vp_updL (f1) 120 0))))]) (vx_runV (C := "Sourcewright$Reading") (As := [.int 0]) (rest := []) ⟨hx, hb, hml, hown, hts⟩ (cX5_noteEntry_1 l hst G X H.size a0 a5 a2 a6 a7 a8 a9 a10) (cwV 1 hts (pz_gV wq_602 wq_604 wqs_7 wq_3 wq_605) rfl rfl rfl (by decide +kernel) ⟨(Nat.le_of_ble_eq_true rfl), (Nat.le_of_ble_eq_true rfl)⟩) (pz_preV (C := ("Sourcewright$Reading", TX5, 10)) hK hP hD hS hA hE 0 (ci := 5) rfl rfl [0] rfl rfl) rfl rfl hl.1 rfl (lv_room (Nat.le_of_ble_eq_true rfl)) dX5_findFunctions_34 ⟨(Nat.le_of_ble_eq_true rfl), (Nat.le_of_ble_eq_true rfl)⟩) hP hD hS hA [0] [1, 2, 3] rfl rfl rfl (by decide) (fun u H locs hP hD hS => ?_)
  have hP : va_P G.1 pz_cl [(a2, .inr (7, [.ref a3, .ref a4])), (a3, .inl (G.2 2, 121, .inr (.inl (vp_updL (f0) 120 0)))), (a4, .inl (G.2 2, 121, .inr (.inl (vp_updL (f1) 120 0)))), (a0, .inr (5, [.ref a5, .ref a2, .ref a6, .ref a7, .ref a8, .ref a9, .ref a10, .int 0, .int 0, .int 0]))] H := hP
  have hD : va_D A [(a2, .inr (7, [.ref a3, .ref a4])), (a3, .inl (G.2 2, 121, .inr (.inl (vp_updL (f0) 120 0)))), (a4, .inl (G.2 2, 121, .inr (.inl (vp_updL (f1) 120 0)))), (a0, .inr (5, [.ref a5, .ref a2, .ref a6, .ref a7, .ref a8, .ref a9, .ref a10, .int 0, .int 0, .int 0]))] := hD
  refine W.eq (g2 := F0 m 37 ls [.int 0]) rfl ?_
  refine lv_if_eq (tgt := 47) hx hb dX5_findFunctions_37 (by decide) (fun _ => ?_) (fun hc => absurd hc (by decide))
  refine lv_iconst (v := 0) hx hb dX5_findFunctions_47 (by decide) ?_
  refine lv_istore_n (lv' := [(3, .int 0), (0, .ref a0), (1, .ref a1), (2, .int 0)]) hx hb dX5_findFunctions_48 rfl hl (by decide) rfl (fun ls hl => ?_)
  refine lv_iload_n hx hb dX5_findFunctions_49 rfl (lv_at hl 0 rfl) ?_
  refine lv_iload_n hx hb dX5_findFunctions_50 rfl (lv_at hl 3 rfl) ?_
  refine lv_icmp_ge (tgt := 85) hx hb dX5_findFunctions_51 (by decide) (fun _ => ?_) (fun hc => absurd hc (by decide))
  refine lv_aload_n hx hb dX5_findFunctions_85 rfl (lv_at hl 1 rfl) ?_
  refine lv_iconst (v := 0) hx hb dX5_findFunctions_86 (by decide) ?_
  refine va_put (D := G.1) (ci := 5) (v := .int 0) (ty := tyX5 9) (C := "Sourcewright$Reading") (T := TX5) (N := 10) hx hb hts inX5 tyX5 tyX5_ok nmX5 hown hK hP hD hS 3 rfl rfl 9 (by decide) (hts _ wq_102) (fun _ h9 => h9) rfl (by decide +kernel) rfl rfl (Nat.le_of_ble_eq_true rfl) dX5_findFunctions_87 (fun H locs hP hD hS => ?_)
  have hP : va_P G.1 pz_cl [(a2, .inr (7, [.ref a3, .ref a4])), (a3, .inl (G.2 2, 121, .inr (.inl (vp_updL (f0) 120 0)))), (a4, .inl (G.2 2, 121, .inr (.inl (vp_updL (f1) 120 0)))), (a0, .inr (5, [.ref a5, .ref a2, .ref a6, .ref a7, .ref a8, .ref a9, .ref a10, .int 0, .int 0, .int 0]))] H := hP
  have hD : va_D A [(a2, .inr (7, [.ref a3, .ref a4])), (a3, .inl (G.2 2, 121, .inr (.inl (vp_updL (f0) 120 0)))), (a4, .inl (G.2 2, 121, .inr (.inl (vp_updL (f1) 120 0)))), (a0, .inr (5, [.ref a5, .ref a2, .ref a6, .ref a7, .ref a8, .ref a9, .ref a10, .int 0, .int 0, .int 0]))] := hD
  refine lv_iconst (v := 0) hx hb dX5_findFunctions_90 (by decide) ?_
  refine lv_istore_n (lv' := [(3, .int 0), (0, .ref a0), (1, .ref a1), (2, .int 0)]) hx hb dX5_findFunctions_91 rfl hl (by decide) rfl (fun ls hl => ?_)
  refine lv_iload_n hx hb dX5_findFunctions_92 rfl (lv_at hl 0 rfl) ?_
  refine lv_aload_n hx hb dX5_findFunctions_93 rfl (lv_at hl 1 rfl) ?_
  refine va_get (D := G.1) (ci := 5) (v := .int 0) (C := "Sourcewright$Reading") (T := TX5) (N := 10) hx hb hts inX5 hown hK hP 3 rfl rfl 8 (by decide) (hts _ wq_101) (fun _ h9 => h9) rfl dX5_findFunctions_94 ?_
  refine lv_icmp_ge (tgt := 147) hx hb dX5_findFunctions_97 (by decide) (fun _ => ?_) (fun hc => absurd hc (by decide))
  exact pz_rv hx hb hr hlocks hS (Nat.le_of_ble_eq_true rfl) (Nat.le_of_ble_eq_true rfl) dX5_findFunctions_147 () rfl (hP.sub [3, 0, 1, 2] rfl) (hD.sub [3, 0, 1, 2] rfl rfl)
set_option maxHeartbeats 4000000 in
set_option maxRecDepth 100000 in
theorem cX5_markBytes_1 (l : Launch) (hst : l.stackTraces = false) (G : pz_G) (X : Nat → Nat) (sz : Nat) (a0 : Nat) (a1 : Nat) (a2 : Nat) (a3 : Nat) (a4 : Nat) (a5 : Nat) (a6 : Nat) (a7 : Nat) : pz_MR (S := Unit) l yX5_markBytes (pz_cd yX5_markBytes cX5_markBytes 2 none) 0 0 0 0 G X sz [(a0, .inr (5, [.ref a1, .ref a2, .ref a3, .ref a4, .ref a5, .ref a6, .ref a7, .int 0, .int 0, .int 0]))] [.ref a0] (fun u => none) (fun u => [(a0, .inr (5, [.ref a1, .ref a2, .ref a3, .ref a4, .ref a5, .ref a6, .ref a7, .int 0, .int 0, .int 0]))]) := by
  refine pz_onR (by decide +kernel) (Nat.le_of_ble_eq_true rfl) ?_
  intro p e s m below meth c A hx hb hr hml hown hts hlocks hin hx0 hP hK hD hS hA hE ls hl
  have hown : s.vm.findClass "Sourcewright$Reading" = some m.cls := hown
  have hl : lv_has ls 2 [(0, .ref a0)] := hl
  refine lv_iconst (v := 0) hx hb dX5_markBytes_0 (by decide) ?_
  refine lv_istore_n (lv' := [(1, .int 0), (0, .ref a0)]) hx hb dX5_markBytes_1 rfl hl (by decide) rfl (fun ls hl => ?_)
  refine lv_iload_n hx hb dX5_markBytes_2 rfl (lv_at hl 0 rfl) ?_
  refine lv_aload_n hx hb dX5_markBytes_3 rfl (lv_at hl 1 rfl) ?_
  refine va_get (D := G.1) (ci := 5) (v := .int 0) (C := "Sourcewright$Reading") (T := TX5) (N := 10) hx hb hts inX5 hown hK hP 0 rfl rfl 8 (by decide) (hts _ wq_101) (fun _ h9 => h9) rfl dX5_markBytes_4 ?_
  refine lv_icmp_ge (tgt := 23) hx hb dX5_markBytes_7 (by decide) (fun _ => ?_) (fun hc => absurd hc (by decide))
  refine lv_iconst (v := 0) hx hb dX5_markBytes_23 (by decide) ?_
  refine lv_istore_n (lv' := [(1, .int 0), (0, .ref a0)]) hx hb dX5_markBytes_24 rfl hl (by decide) rfl (fun ls hl => ?_)
  refine lv_iload_n hx hb dX5_markBytes_25 rfl (lv_at hl 0 rfl) ?_
  refine lv_aload_n hx hb dX5_markBytes_26 rfl (lv_at hl 1 rfl) ?_
  refine va_get (D := G.1) (ci := 5) (v := .int 0) (C := "Sourcewright$Reading") (T := TX5) (N := 10) hx hb hts inX5 hown hK hP 0 rfl rfl 8 (by decide) (hts _ wq_101) (fun _ h9 => h9) rfl dX5_markBytes_27 ?_
  refine lv_icmp_ge (tgt := 57) hx hb dX5_markBytes_30 (by decide) (fun _ => ?_) (fun hc => absurd hc (by decide))
  exact pz_rv hx hb hr hlocks hS (Nat.le_of_ble_eq_true rfl) (Nat.le_of_ble_eq_true rfl) dX5_markBytes_57 () rfl (hP.sub [0] rfl) (hD.sub [0] rfl rfl)
set_option maxHeartbeats 4000000 in
set_option maxRecDepth 100000 in
theorem cX5_tell_1 (l : Launch) (hst : l.stackTraces = false) (G : pz_G) (X : Nat → Nat) (sz : Nat) (a0 : Nat) (a1 : Nat) (a2 : Nat) (a3 : Nat) (a4 : Nat) (a5 : Nat) (a6 : Nat) (a7 : Nat) (a8 : Nat) (a9 : Nat) (a10 : Nat) (a11 : Nat) (a12 : Nat) (f0 : Nat → Int64) (f1 : Nat → Int64) : pz_MR (S := Unit) l yX5_tell (pz_cd yX5_tell cX5_tell 4 none) 2 44 0 0 G X sz [(a0, .inr (5, [.ref a2, .ref a3, .ref a6, .ref a7, .ref a8, .ref a9, .ref a10, .int 0, .int 0, .int 0])), (a2, .inr (2, [.ref a11, .ref a12, .int 0])), (a3, .inr (7, [.ref a4, .ref a5])), (a4, .inl (G.2 2, 121, .inr (.inl (f0)))), (a5, .inl (G.2 2, 121, .inr (.inl (f1))))] [.ref a0, .ref a1, .int 0] (fun u => none) (fun u => [(a0, .inr (5, [.ref a2, .ref a3, .ref a6, .ref a7, .ref a8, .ref a9, .ref a10, .int 0, .int 0, .int 0])), (a2, .inr (2, [.ref a11, .ref a12, .int 0])), (a3, .inr (7, [.ref a4, .ref a5])), (a4, .inl (G.2 2, 121, .inr (.inl (vp_updL (f0) 120 0)))), (a5, .inl (G.2 2, 121, .inr (.inl (vp_updL (f1) 120 0))))]) := by
  refine pz_onR (by decide +kernel) (Nat.le_of_ble_eq_true rfl) ?_
  intro p e s m below meth c A hx hb hr hml hown hts hlocks hin hx0 hP hK hD hS hA hE ls hl
  have hown : s.vm.findClass "Sourcewright$Reading" = some m.cls := hown
  have hl : lv_has ls 4 [(0, .ref a0), (1, .ref a1), (2, .int 0)] := hl
  refine lv_aload_n hx hb dX5_tell_0 rfl (lv_at hl 0 rfl) ?_
  refine lv_aload_n hx hb dX5_tell_1 rfl (lv_at hl 0 rfl) ?_
  refine va_get (D := G.1) (ci := 5) (v := .ref a2) (C := "Sourcewright$Reading") (T := TX5) (N := 10) hx hb hts inX5 hown hK hP 0 rfl rfl 0 (by decide) (hts _ wq_93) (fun _ h9 => h9) rfl dX5_tell_2 ?_
  refine pz_go (wr := [(a0, .inr (5, [.ref a2, .ref a3, .ref a6, .ref a7, .ref a8, .ref a9, .ref a10, .int 0, .int 0, .int 0])), (a3, .inr (7, [.ref a4, .ref a5])), (a4, .inl (G.2 2, 121, .inr (.inl (f0)))), (a5, .inl (G.2 2, 121, .inr (.inl (f1))))]) (vx_runV (C := "Sourcewright$Code") (As := []) (rest := [.ref a0]) ⟨hx, hb, hml, hown, hts⟩ (cX2_count_1 l hst G X s.heap.size a2 a11 a12) (cwV 0 hts (pz_gV wq_563 wq_509 wq_510 wq_2 wq_511) rfl rfl rfl (by decide +kernel) ⟨(Nat.le_of_ble_eq_true rfl), (Nat.le_of_ble_eq_true rfl)⟩) (pz_preV (C := ("Sourcewright$Code", TX2, 3)) hK hP hD hS hA hE 1 (ci := 2) rfl rfl [1] rfl rfl) rfl rfl hl.1 rfl (lv_room (Nat.le_of_ble_eq_true rfl)) dX5_tell_5 ⟨(Nat.le_of_ble_eq_true rfl), (Nat.le_of_ble_eq_true rfl)⟩) hP hD hS hA [1] [0, 2, 3, 4] rfl rfl rfl (by decide) (fun u H locs hP hD hS => ?_)
  have hP : va_P G.1 pz_cl [(a0, .inr (5, [.ref a2, .ref a3, .ref a6, .ref a7, .ref a8, .ref a9, .ref a10, .int 0, .int 0, .int 0])), (a3, .inr (7, [.ref a4, .ref a5])), (a4, .inl (G.2 2, 121, .inr (.inl (f0)))), (a5, .inl (G.2 2, 121, .inr (.inl (f1)))), (a2, .inr (2, [.ref a11, .ref a12, .int 0]))] H := hP
  have hD : va_D A [(a0, .inr (5, [.ref a2, .ref a3, .ref a6, .ref a7, .ref a8, .ref a9, .ref a10, .int 0, .int 0, .int 0])), (a3, .inr (7, [.ref a4, .ref a5])), (a4, .inl (G.2 2, 121, .inr (.inl (f0)))), (a5, .inl (G.2 2, 121, .inr (.inl (f1)))), (a2, .inr (2, [.ref a11, .ref a12, .int 0]))] := hD
  refine W.eq (g2 := F0 m 8 ls [.int 0, .ref a0]) rfl ?_
  refine lv_bipush (v := 120) hx hb dX5_tell_8 (by decide) ?_
  refine va_mmin hx hb (hml.trans hl.1.symm) hown (hts _ wq_564) (hts _ wq_517) (hts _ wq_22) (hts _ wq_518) (Nat.le_of_ble_eq_true rfl) (Nat.le_of_ble_eq_true rfl) (Nat.le_of_ble_eq_true rfl) (Nat.le_of_ble_eq_true rfl) dX5_tell_10 (pz_K (y := 0) (by decide) ?_)
  refine va_put (D := G.1) (ci := 5) (v := .int 0) (ty := tyX5 8) (C := "Sourcewright$Reading") (T := TX5) (N := 10) hx hb hts inX5 tyX5 tyX5_ok nmX5 hown hK hP hD hS 0 rfl rfl 8 (by decide) (hts _ wq_101) (fun _ h9 => h9) rfl (by decide +kernel) rfl rfl (Nat.le_of_ble_eq_true rfl) dX5_tell_13 (fun H locs hP hD hS => ?_)
  have hP : va_P G.1 pz_cl [(a0, .inr (5, [.ref a2, .ref a3, .ref a6, .ref a7, .ref a8, .ref a9, .ref a10, .int 0, .int 0, .int 0])), (a3, .inr (7, [.ref a4, .ref a5])), (a4, .inl (G.2 2, 121, .inr (.inl (f0)))), (a5, .inl (G.2 2, 121, .inr (.inl (f1)))), (a2, .inr (2, [.ref a11, .ref a12, .int 0]))] H := hP
  have hD : va_D A [(a0, .inr (5, [.ref a2, .ref a3, .ref a6, .ref a7, .ref a8, .ref a9, .ref a10, .int 0, .int 0, .int 0])), (a3, .inr (7, [.ref a4, .ref a5])), (a4, .inl (G.2 2, 121, .inr (.inl (f0)))), (a5, .inl (G.2 2, 121, .inr (.inl (f1)))), (a2, .inr (2, [.ref a11, .ref a12, .int 0]))] := hD
  refine lv_aload_n hx hb dX5_tell_16 rfl (lv_at hl 0 rfl) ?_
  refine pz_go (wr := [(a3, .inr (7, [.ref a4, .ref a5])), (a4, .inl (G.2 2, 121, .inr (.inl (f0)))), (a5, .inl (G.2 2, 121, .inr (.inl (f1)))), (a2, .inr (2, [.ref a11, .ref a12, .int 0]))]) (vx_runV (C := "Sourcewright$Reading") (As := []) (rest := []) ⟨hx, hb, hml, hown, hts⟩ (cX5_findReturns_1 l hst G X H.size a0 a2 a3 a6 a7 a8 a9 a10) (cwV 0 hts (pz_gV wq_565 wq_567 wqs_4 wq_3 wq_568) rfl rfl rfl (by decide +kernel) ⟨(Nat.le_of_ble_eq_true rfl), (Nat.le_of_ble_eq_true rfl)⟩) (pz_preV (C := ("Sourcewright$Reading", TX5, 10)) hK hP hD hS hA hE 0 (ci := 5) rfl rfl [0] rfl rfl) rfl rfl hl.1 rfl (lv_room (Nat.le_of_ble_eq_true rfl)) dX5_tell_17 ⟨(Nat.le_of_ble_eq_true rfl), (Nat.le_of_ble_eq_true rfl)⟩) hP hD hS hA [0] [1, 2, 3, 4] rfl rfl rfl (by decide) (fun u H locs hP hD hS => ?_)
  have hP : va_P G.1 pz_cl [(a3, .inr (7, [.ref a4, .ref a5])), (a4, .inl (G.2 2, 121, .inr (.inl (f0)))), (a5, .inl (G.2 2, 121, .inr (.inl (f1)))), (a2, .inr (2, [.ref a11, .ref a12, .int 0])), (a0, .inr (5, [.ref a2, .ref a3, .ref a6, .ref a7, .ref a8, .ref a9, .ref a10, .int 0, .int 0, .int 0]))] H := hP
  have hD : va_D A [(a3, .inr (7, [.ref a4, .ref a5])), (a4, .inl (G.2 2, 121, .inr (.inl (f0)))), (a5, .inl (G.2 2, 121, .inr (.inl (f1)))), (a2, .inr (2, [.ref a11, .ref a12, .int 0])), (a0, .inr (5, [.ref a2, .ref a3, .ref a6, .ref a7, .ref a8, .ref a9, .ref a10, .int 0, .int 0, .int 0]))] := hD
  refine W.eq (g2 := F0 m 20 ls []) rfl ?_
  refine lv_aload_n hx hb dX5_tell_20 rfl (lv_at hl 0 rfl) ?_
  refine lv_aload_n hx hb dX5_tell_21 rfl (lv_at hl 1 rfl) ?_
  refine lv_iload_n hx hb dX5_tell_22 rfl (lv_at hl 2 rfl) ?_
  refine pz_go (wr := [(a2, .inr (2, [.ref a11, .ref a12, .int 0]))]) (vx_runV (C := "Sourcewright$Reading") (As := [.ref a1, .int 0]) (rest := []) ⟨hx, hb, hml, hown, hts⟩ (cX5_findFunctions_1 l hst G X H.size a0 a1 a3 a4 a5 a2 a6 a7 a8 a9 a10 f0 f1) (cwV 2 hts (pz_gV wq_594 wq_596 wqs_6 wq_3 wq_597) rfl rfl rfl (by decide +kernel) ⟨(Nat.le_of_ble_eq_true rfl), (Nat.le_of_ble_eq_true rfl)⟩) (pz_preV (C := ("Sourcewright$Reading", TX5, 10)) hK hP hD hS hA hE 4 (ci := 5) rfl rfl [4, 0, 1, 2] rfl rfl) rfl rfl hl.1 rfl (lv_room (Nat.le_of_ble_eq_true rfl)) dX5_tell_23 ⟨(Nat.le_of_ble_eq_true rfl), (Nat.le_of_ble_eq_true rfl)⟩) hP hD hS hA [4, 0, 1, 2] [3] rfl rfl rfl (by decide) (fun u H locs hP hD hS => ?_)
  have hP : va_P G.1 pz_cl [(a2, .inr (2, [.ref a11, .ref a12, .int 0])), (a0, .inr (5, [.ref a2, .ref a3, .ref a6, .ref a7, .ref a8, .ref a9, .ref a10, .int 0, .int 0, .int 0])), (a3, .inr (7, [.ref a4, .ref a5])), (a4, .inl (G.2 2, 121, .inr (.inl (vp_updL (f0) 120 0)))), (a5, .inl (G.2 2, 121, .inr (.inl (vp_updL (f1) 120 0))))] H := hP
  have hD : va_D A [(a2, .inr (2, [.ref a11, .ref a12, .int 0])), (a0, .inr (5, [.ref a2, .ref a3, .ref a6, .ref a7, .ref a8, .ref a9, .ref a10, .int 0, .int 0, .int 0])), (a3, .inr (7, [.ref a4, .ref a5])), (a4, .inl (G.2 2, 121, .inr (.inl (vp_updL (f0) 120 0)))), (a5, .inl (G.2 2, 121, .inr (.inl (vp_updL (f1) 120 0))))] := hD
  refine W.eq (g2 := F0 m 26 ls []) rfl ?_
  refine lv_iconst (v := 0) hx hb dX5_tell_26 (by decide) ?_
  refine lv_istore_n (lv' := [(3, .int 0), (0, .ref a0), (1, .ref a1), (2, .int 0)]) hx hb dX5_tell_27 rfl hl (by decide) rfl (fun ls hl => ?_)
  refine lv_iload_n hx hb dX5_tell_28 rfl (lv_at hl 0 rfl) ?_
  refine lv_aload_n hx hb dX5_tell_29 rfl (lv_at hl 1 rfl) ?_
  refine va_get (D := G.1) (ci := 5) (v := .int 0) (C := "Sourcewright$Reading") (T := TX5) (N := 10) hx hb hts inX5 hown hK hP 1 rfl rfl 9 (by decide) (hts _ wq_102) (fun _ h9 => h9) rfl dX5_tell_30 ?_
  refine lv_icmp_ge (tgt := 60) hx hb dX5_tell_33 (by decide) (fun _ => ?_) (fun hc => absurd hc (by decide))
  refine lv_aload_n hx hb dX5_tell_60 rfl (lv_at hl 1 rfl) ?_
  refine pz_go (wr := [(a2, .inr (2, [.ref a11, .ref a12, .int 0])), (a3, .inr (7, [.ref a4, .ref a5])), (a4, .inl (G.2 2, 121, .inr (.inl (vp_updL (f0) 120 0)))), (a5, .inl (G.2 2, 121, .inr (.inl (vp_updL (f1) 120 0))))]) (vx_runV (C := "Sourcewright$Reading") (As := []) (rest := []) ⟨hx, hb, hml, hown, hts⟩ (cX5_markBytes_1 l hst G X H.size a0 a2 a3 a6 a7 a8 a9 a10) (cwV 0 hts (pz_gV wq_626 wq_628 wqs_10 wq_3 wq_629) rfl rfl rfl (by decide +kernel) ⟨(Nat.le_of_ble_eq_true rfl), (Nat.le_of_ble_eq_true rfl)⟩) (pz_preV (C := ("Sourcewright$Reading", TX5, 10)) hK hP hD hS hA hE 1 (ci := 5) rfl rfl [1] rfl rfl) rfl rfl hl.1 rfl (lv_room (Nat.le_of_ble_eq_true rfl)) dX5_tell_61 ⟨(Nat.le_of_ble_eq_true rfl), (Nat.le_of_ble_eq_true rfl)⟩) hP hD hS hA [1] [0, 2, 3, 4] rfl rfl rfl (by decide) (fun u H locs hP hD hS => ?_)
  have hP : va_P G.1 pz_cl [(a2, .inr (2, [.ref a11, .ref a12, .int 0])), (a3, .inr (7, [.ref a4, .ref a5])), (a4, .inl (G.2 2, 121, .inr (.inl (vp_updL (f0) 120 0)))), (a5, .inl (G.2 2, 121, .inr (.inl (vp_updL (f1) 120 0)))), (a0, .inr (5, [.ref a2, .ref a3, .ref a6, .ref a7, .ref a8, .ref a9, .ref a10, .int 0, .int 0, .int 0]))] H := hP
  have hD : va_D A [(a2, .inr (2, [.ref a11, .ref a12, .int 0])), (a3, .inr (7, [.ref a4, .ref a5])), (a4, .inl (G.2 2, 121, .inr (.inl (vp_updL (f0) 120 0)))), (a5, .inl (G.2 2, 121, .inr (.inl (vp_updL (f1) 120 0)))), (a0, .inr (5, [.ref a2, .ref a3, .ref a6, .ref a7, .ref a8, .ref a9, .ref a10, .int 0, .int 0, .int 0]))] := hD
  refine W.eq (g2 := F0 m 64 ls []) rfl ?_
  exact pz_rv hx hb hr hlocks hS (Nat.le_of_ble_eq_true rfl) (Nat.le_of_ble_eq_true rfl) dX5_tell_64 () rfl (hP.sub [4, 0, 1, 2, 3] rfl) (hD.sub [4, 0, 1, 2, 3] rfl rfl)
set_option maxHeartbeats 4000000 in
set_option maxRecDepth 100000 in
theorem cX3_tell_1 (l : Launch) (hst : l.stackTraces = false) (G : pz_G) (X : Nat → Nat) (sz : Nat) (a0 : Nat) (a1 : Nat) (a2 : Nat) (a3 : Nat) (a4 : Nat) (a5 : Nat) (f0 : Nat → Int32) : pz_MR (S := Unit) l yX3_tell (pz_cd yX3_tell cX3_tell 6 none) 1 20 0 0 G X sz [(a0, .inr (3, [.ref a1, .ref a3, .ref a2])), (a1, .inr (2, [.ref a4, .ref a5, .int 0])), (a2, .inl (G.2 0, 120, .inl (f0)))] [.ref a0] (fun u => none) (fun u => [(a0, .inr (3, [.ref a1, .ref a3, .ref a2])), (a1, .inr (2, [.ref a4, .ref a5, .int 0])), (a2, .inl (G.2 0, 120, .inl (f0)))]) := by
  refine pz_onR (by decide +kernel) (Nat.le_of_ble_eq_true rfl) ?_
  intro p e s m below meth c A hx hb hr hml hown hts hlocks hin hx0 hP hK hD hS hA hE ls hl
  have hown : s.vm.findClass "Sourcewright$Life" = some m.cls := hown
  have hl : lv_has ls 6 [(0, .ref a0)] := hl
  refine lv_aload_n hx hb dX3_tell_0 rfl (lv_at hl 0 rfl) ?_
  refine va_get (D := G.1) (ci := 3) (v := .ref a1) (C := "Sourcewright$Life") (T := TX3) (N := 3) hx hb hts inX3 hown hK hP 0 rfl rfl 0 (by decide) (hts _ wq_240) (fun _ h9 => h9) rfl dX3_tell_1 ?_
  refine pz_go (wr := [(a0, .inr (3, [.ref a1, .ref a3, .ref a2])), (a2, .inl (G.2 0, 120, .inl (f0)))]) (vx_runV (C := "Sourcewright$Code") (As := []) (rest := []) ⟨hx, hb, hml, hown, hts⟩ (cX2_count_1 l hst G X s.heap.size a1 a4 a5) (cwV 0 hts (pz_gV wq_646 wq_509 wq_510 wq_2 wq_511) rfl rfl rfl (by decide +kernel) ⟨(Nat.le_of_ble_eq_true rfl), (Nat.le_of_ble_eq_true rfl)⟩) (pz_preV (C := ("Sourcewright$Code", TX2, 3)) hK hP hD hS hA hE 1 (ci := 2) rfl rfl [1] rfl rfl) rfl rfl hl.1 rfl (lv_room (Nat.le_of_ble_eq_true rfl)) dX3_tell_4 ⟨(Nat.le_of_ble_eq_true rfl), (Nat.le_of_ble_eq_true rfl)⟩) hP hD hS hA [1] [0, 2] rfl rfl rfl (by decide) (fun u H locs hP hD hS => ?_)
  have hP : va_P G.1 pz_cl [(a0, .inr (3, [.ref a1, .ref a3, .ref a2])), (a2, .inl (G.2 0, 120, .inl (f0))), (a1, .inr (2, [.ref a4, .ref a5, .int 0]))] H := hP
  have hD : va_D A [(a0, .inr (3, [.ref a1, .ref a3, .ref a2])), (a2, .inl (G.2 0, 120, .inl (f0))), (a1, .inr (2, [.ref a4, .ref a5, .int 0]))] := hD
  refine W.eq (g2 := F0 m 7 ls [.int 0]) rfl ?_
  refine lv_aload_n hx hb dX3_tell_7 rfl (lv_at hl 0 rfl) ?_
  refine va_get (D := G.1) (ci := 3) (v := .ref a2) (C := "Sourcewright$Life") (T := TX3) (N := 3) hx hb hts inX3 hown hK hP 0 rfl rfl 2 (by decide) (hts _ wq_242) (fun _ h9 => h9) rfl dX3_tell_8 ?_
  refine va_alen (v := 120) hx hb hK hP 1 0 rfl rfl (by show Int32.ofNat 120 = 120; decide) dX3_tell_11 ?_
  refine va_mmin hx hb (hml.trans hl.1.symm) hown (hts _ wq_647) (hts _ wq_517) (hts _ wq_22) (hts _ wq_518) (Nat.le_of_ble_eq_true rfl) (Nat.le_of_ble_eq_true rfl) (Nat.le_of_ble_eq_true rfl) (Nat.le_of_ble_eq_true rfl) dX3_tell_12 (pz_K (y := 0) (by decide) ?_)
  refine lv_istore_n (lv' := [(1, .int 0), (0, .ref a0)]) hx hb dX3_tell_15 rfl hl (by decide) rfl (fun ls hl => ?_)
  refine lv_iconst (v := 0) hx hb dX3_tell_16 (by decide) ?_
  refine lv_istore_n (lv' := [(2, .int 0), (1, .int 0), (0, .ref a0)]) hx hb dX3_tell_17 rfl hl (by decide) rfl (fun ls hl => ?_)
  refine lv_iload_n hx hb dX3_tell_18 rfl (lv_at hl 0 rfl) ?_
  refine lv_iload_n hx hb dX3_tell_19 rfl (lv_at hl 1 rfl) ?_
  refine lv_icmp_ge (tgt := 36) hx hb dX3_tell_20 (by decide) (fun _ => ?_) (fun hc => absurd hc (by decide))
  refine lv_iconst (v := 1) hx hb dX3_tell_36 (by decide) ?_
  refine lv_istore_n (lv' := [(2, .int 1), (1, .int 0), (0, .ref a0)]) hx hb dX3_tell_37 rfl hl (by decide) rfl (fun ls hl => ?_)
  refine lv_iconst (v := 0) hx hb dX3_tell_38 (by decide) ?_
  refine lv_istore_n (lv' := [(3, .int 0), (2, .int 1), (1, .int 0), (0, .ref a0)]) hx hb dX3_tell_39 rfl hl (by decide) rfl (fun ls hl => ?_)
  refine lv_iload_n hx hb dX3_tell_40 rfl (lv_at hl 1 rfl) ?_
  refine lv_if_eq (tgt := 130) hx hb dX3_tell_41 (by decide) (fun hc => absurd hc (by decide)) (fun _ => ?_)
  refine lv_iload_n hx hb dX3_tell_44 rfl (lv_at hl 0 rfl) ?_
  refine lv_sipush (v := 480) hx hb dX3_tell_45 (by decide) ?_
  refine lv_icmp_gt (tgt := 130) hx hb dX3_tell_48 (by decide) (fun hc => absurd hc (by decide)) (fun _ => ?_)
  refine lv_iconst (v := 0) hx hb dX3_tell_51 (by decide) ?_
  refine lv_istore_n (lv' := [(2, .int 0), (3, .int 0), (1, .int 0), (0, .ref a0)]) hx hb dX3_tell_52 rfl hl (by decide) rfl (fun ls hl => ?_)
  refine lv_iload_n hx hb dX3_tell_53 rfl (lv_at hl 2 rfl) ?_
  refine lv_iconst (v := 1) hx hb dX3_tell_54 (by decide) ?_
  refine lv_isub hx hb dX3_tell_55 (pz_K (y := (-1)) (by decide) ?_)
  refine lv_istore (lv' := [(4, .int (-1)), (2, .int 0), (3, .int 0), (1, .int 0), (0, .ref a0)]) hx hb dX3_tell_56 hl (by decide) rfl (fun ls hl => ?_)
  refine lv_iload hx hb dX3_tell_58 (lv_at hl 0 rfl) ?_
  refine lv_if_lt (tgt := 124) hx hb dX3_tell_60 (by decide) (fun _ => ?_) (fun hc => absurd hc (by decide))
  refine lv_iinc (v := 1) (lv' := [(3, .int 1), (4, .int (-1)), (2, .int 0), (1, .int 0), (0, .ref a0)]) hx hb dX3_tell_124 hl (k := 2) rfl (by decide) (by decide) rfl (fun ls hl => ?_)
  refine lv_goto (tgt := 40) hx hb dX3_tell_127 (by decide) ?_
  refine lv_iload_n hx hb dX3_tell_40 rfl (lv_at hl 2 rfl) ?_
  refine lv_if_eq (tgt := 130) hx hb dX3_tell_41 (by decide) (fun _ => ?_) (fun hc => absurd hc (by decide))
  exact pz_rv hx hb hr hlocks hS (Nat.le_of_ble_eq_true rfl) (Nat.le_of_ble_eq_true rfl) dX3_tell_130 () rfl (hP.sub [0, 2, 1] rfl) (hD.sub [0, 2, 1] rfl rfl)
set_option maxHeartbeats 4000000 in
set_option maxRecDepth 100000 in
theorem cX11_read_1 (l : Launch) (hst : l.stackTraces = false) (G : pz_G) (X : Nat → Nat) (sz : Nat) (a0 : Nat) (a1 : Nat) (a2 : Nat) (a3 : Nat) (a4 : Nat) (a5 : Nat) (a6 : Nat) (a7 : Nat) (a8 : Nat) (a9 : Nat) (a10 : Nat) (a11 : Nat) (a12 : Nat) (a13 : Nat) (a14 : Nat) (a15 : Nat) (a16 : Nat) (a17 : Nat) (a18 : Nat) (a19 : Nat) (a20 : Nat) (a21 : Nat) (a22 : Nat) (a23 : Nat) (a24 : Nat) (f0 : Nat → Int64) (f1 : Nat → Int64) (f2 : Nat → Int32) : pz_MR (S := Unit) l yX11_read (pz_cd yX11_read cX11_read 1 none) 3 67 0 0 G X sz [(a0, .inr (11, [.ref a1, .ref a8, .int 0, .ref a9, .int 0, .int 0, .ref a2, .ref a10, .ref a11, .ref a6, .ref a12, .ref a13, .ref a14, .ref a15, .ref a16, .ref a17, .int 0, .int (-1), .int (-1), .int 0])), (a1, .inr (2, [.ref a18, .ref a19, .int 0])), (a2, .inr (5, [.ref a1, .ref a3, .ref a20, .ref a21, .ref a22, .ref a23, .ref a24, .int 0, .int 0, .int 0])), (a3, .inr (7, [.ref a4, .ref a5])), (a4, .inl (G.2 2, 121, .inr (.inl (f0)))), (a5, .inl (G.2 2, 121, .inr (.inl (f1)))), (a6, .inr (3, [.ref a1, .ref a2, .ref a7])), (a7, .inl (G.2 0, 120, .inl (f2)))] [.ref a0] (fun u => none) (fun u => [(a0, .inr (11, [.ref a1, .ref a8, .int 0, .ref a9, .int 0, .int 0, .ref a2, .ref a10, .ref a11, .ref a6, .ref a12, .ref a13, .ref a14, .ref a15, .ref a16, .ref a17, .int 1, .int (-1), .int (-1), .int 0])), (a1, .inr (2, [.ref a18, .ref a19, .int 0])), (a2, .inr (5, [.ref a1, .ref a3, .ref a20, .ref a21, .ref a22, .ref a23, .ref a24, .int 0, .int 0, .int 0])), (a3, .inr (7, [.ref a4, .ref a5])), (a4, .inl (G.2 2, 121, .inr (.inl (vp_updL (f0) 120 0)))), (a5, .inl (G.2 2, 121, .inr (.inl (vp_updL (f1) 120 0)))), (a6, .inr (3, [.ref a1, .ref a2, .ref a7])), (a7, .inl (G.2 0, 120, .inl (f2)))]) := by
  refine pz_onR (by decide +kernel) (Nat.le_of_ble_eq_true rfl) ?_
  intro p e s m below meth c A hx hb hr hml hown hts hlocks hin hx0 hP hK hD hS hA hE ls hl
  have hown : s.vm.findClass "Sourcewright" = some m.cls := hown
  have hl : lv_has ls 1 [(0, .ref a0)] := hl
  refine lv_aload_n hx hb dX11_read_0 rfl (lv_at hl 0 rfl) ?_
  refine va_get (D := G.1) (ci := 11) (v := .int 0) (C := "Sourcewright") (T := TX11) (N := 20) hx hb hts inX11 hown hK hP 0 rfl rfl 16 (by decide) (hts _ wq_459) (fun _ h9 => h9) rfl dX11_read_1 ?_
  refine lv_if_ne (tgt := 41) hx hb dX11_read_4 (by decide) (fun hc => absurd hc (by decide)) (fun _ => ?_)
  refine lv_aload_n hx hb dX11_read_7 rfl (lv_at hl 0 rfl) ?_
  refine va_get (D := G.1) (ci := 11) (v := .ref a1) (C := "Sourcewright") (T := TX11) (N := 20) hx hb hts inX11 hown hK hP 0 rfl rfl 0 (by decide) (hts _ wq_443) (fun _ h9 => h9) rfl dX11_read_8 ?_
  refine pz_go (wr := [(a0, .inr (11, [.ref a1, .ref a8, .int 0, .ref a9, .int 0, .int 0, .ref a2, .ref a10, .ref a11, .ref a6, .ref a12, .ref a13, .ref a14, .ref a15, .ref a16, .ref a17, .int 0, .int (-1), .int (-1), .int 0])), (a2, .inr (5, [.ref a1, .ref a3, .ref a20, .ref a21, .ref a22, .ref a23, .ref a24, .int 0, .int 0, .int 0])), (a3, .inr (7, [.ref a4, .ref a5])), (a4, .inl (G.2 2, 121, .inr (.inl (f0)))), (a5, .inl (G.2 2, 121, .inr (.inl (f1)))), (a6, .inr (3, [.ref a1, .ref a2, .ref a7])), (a7, .inl (G.2 0, 120, .inl (f2)))]) (vx_runV (C := "Sourcewright$Code") (As := []) (rest := []) ⟨hx, hb, hml, hown, hts⟩ (cX2_decode_1 l hst G X s.heap.size a1 a18 a19) (cwV 0 hts (pz_gV wq_531 wq_532 wq_533 wq_2 wq_534) rfl rfl rfl (by decide +kernel) ⟨(Nat.le_of_ble_eq_true rfl), (Nat.le_of_ble_eq_true rfl)⟩) (pz_preV (C := ("Sourcewright$Code", TX2, 3)) hK hP hD hS hA hE 1 (ci := 2) rfl rfl [1] rfl rfl) rfl rfl hl.1 rfl (lv_room (Nat.le_of_ble_eq_true rfl)) dX11_read_11 ⟨(Nat.le_of_ble_eq_true rfl), (Nat.le_of_ble_eq_true rfl)⟩) hP hD hS hA [1] [0, 2, 3, 4, 5, 6, 7] rfl rfl rfl (by decide) (fun u H locs hP hD hS => ?_)
  have hP : va_P G.1 pz_cl [(a0, .inr (11, [.ref a1, .ref a8, .int 0, .ref a9, .int 0, .int 0, .ref a2, .ref a10, .ref a11, .ref a6, .ref a12, .ref a13, .ref a14, .ref a15, .ref a16, .ref a17, .int 0, .int (-1), .int (-1), .int 0])), (a2, .inr (5, [.ref a1, .ref a3, .ref a20, .ref a21, .ref a22, .ref a23, .ref a24, .int 0, .int 0, .int 0])), (a3, .inr (7, [.ref a4, .ref a5])), (a4, .inl (G.2 2, 121, .inr (.inl (f0)))), (a5, .inl (G.2 2, 121, .inr (.inl (f1)))), (a6, .inr (3, [.ref a1, .ref a2, .ref a7])), (a7, .inl (G.2 0, 120, .inl (f2))), (a1, .inr (2, [.ref a18, .ref a19, .int 0]))] H := hP
  have hD : va_D A [(a0, .inr (11, [.ref a1, .ref a8, .int 0, .ref a9, .int 0, .int 0, .ref a2, .ref a10, .ref a11, .ref a6, .ref a12, .ref a13, .ref a14, .ref a15, .ref a16, .ref a17, .int 0, .int (-1), .int (-1), .int 0])), (a2, .inr (5, [.ref a1, .ref a3, .ref a20, .ref a21, .ref a22, .ref a23, .ref a24, .int 0, .int 0, .int 0])), (a3, .inr (7, [.ref a4, .ref a5])), (a4, .inl (G.2 2, 121, .inr (.inl (f0)))), (a5, .inl (G.2 2, 121, .inr (.inl (f1)))), (a6, .inr (3, [.ref a1, .ref a2, .ref a7])), (a7, .inl (G.2 0, 120, .inl (f2))), (a1, .inr (2, [.ref a18, .ref a19, .int 0]))] := hD
  refine W.eq (g2 := F0 m 14 ls []) rfl ?_
  refine lv_aload_n hx hb dX11_read_14 rfl (lv_at hl 0 rfl) ?_
  refine va_get (D := G.1) (ci := 11) (v := .ref a2) (C := "Sourcewright") (T := TX11) (N := 20) hx hb hts inX11 hown hK hP 0 rfl rfl 6 (by decide) (hts _ wq_449) (fun _ h9 => h9) rfl dX11_read_15 ?_
  refine lv_aload_n hx hb dX11_read_18 rfl (lv_at hl 0 rfl) ?_
  refine va_get (D := G.1) (ci := 11) (v := .ref a8) (C := "Sourcewright") (T := TX11) (N := 20) hx hb hts inX11 hown hK hP 0 rfl rfl 1 (by decide) (hts _ wq_444) (fun _ h9 => h9) rfl dX11_read_19 ?_
  refine lv_aload_n hx hb dX11_read_22 rfl (lv_at hl 0 rfl) ?_
  refine va_get (D := G.1) (ci := 11) (v := .int 0) (C := "Sourcewright") (T := TX11) (N := 20) hx hb hts inX11 hown hK hP 0 rfl rfl 2 (by decide) (hts _ wq_445) (fun _ h9 => h9) rfl dX11_read_23 ?_
  refine pz_go (wr := [(a0, .inr (11, [.ref a1, .ref a8, .int 0, .ref a9, .int 0, .int 0, .ref a2, .ref a10, .ref a11, .ref a6, .ref a12, .ref a13, .ref a14, .ref a15, .ref a16, .ref a17, .int 0, .int (-1), .int (-1), .int 0])), (a6, .inr (3, [.ref a1, .ref a2, .ref a7])), (a7, .inl (G.2 0, 120, .inl (f2)))]) (vx_runV (C := "Sourcewright$Reading") (As := [.ref a8, .int 0]) (rest := []) ⟨hx, hb, hml, hown, hts⟩ (cX5_tell_1 l hst G X H.size a2 a8 a1 a3 a4 a5 a20 a21 a22 a23 a24 a18 a19 f0 f1) (cwV 2 hts (pz_gV wq_559 wq_560 wq_561 wq_3 wq_562) rfl rfl rfl (by decide +kernel) ⟨(Nat.le_of_ble_eq_true rfl), (Nat.le_of_ble_eq_true rfl)⟩) (pz_preV (C := ("Sourcewright$Reading", TX5, 10)) hK hP hD hS hA hE 1 (ci := 5) rfl rfl [1, 7, 2, 3, 4] rfl rfl) rfl rfl hl.1 rfl (lv_room (Nat.le_of_ble_eq_true rfl)) dX11_read_26 ⟨(Nat.le_of_ble_eq_true rfl), (Nat.le_of_ble_eq_true rfl)⟩) hP hD hS hA [1, 7, 2, 3, 4] [0, 5, 6] rfl rfl rfl (by decide) (fun u H locs hP hD hS => ?_)
  have hP : va_P G.1 pz_cl [(a0, .inr (11, [.ref a1, .ref a8, .int 0, .ref a9, .int 0, .int 0, .ref a2, .ref a10, .ref a11, .ref a6, .ref a12, .ref a13, .ref a14, .ref a15, .ref a16, .ref a17, .int 0, .int (-1), .int (-1), .int 0])), (a6, .inr (3, [.ref a1, .ref a2, .ref a7])), (a7, .inl (G.2 0, 120, .inl (f2))), (a2, .inr (5, [.ref a1, .ref a3, .ref a20, .ref a21, .ref a22, .ref a23, .ref a24, .int 0, .int 0, .int 0])), (a1, .inr (2, [.ref a18, .ref a19, .int 0])), (a3, .inr (7, [.ref a4, .ref a5])), (a4, .inl (G.2 2, 121, .inr (.inl (vp_updL (f0) 120 0)))), (a5, .inl (G.2 2, 121, .inr (.inl (vp_updL (f1) 120 0))))] H := hP
  have hD : va_D A [(a0, .inr (11, [.ref a1, .ref a8, .int 0, .ref a9, .int 0, .int 0, .ref a2, .ref a10, .ref a11, .ref a6, .ref a12, .ref a13, .ref a14, .ref a15, .ref a16, .ref a17, .int 0, .int (-1), .int (-1), .int 0])), (a6, .inr (3, [.ref a1, .ref a2, .ref a7])), (a7, .inl (G.2 0, 120, .inl (f2))), (a2, .inr (5, [.ref a1, .ref a3, .ref a20, .ref a21, .ref a22, .ref a23, .ref a24, .int 0, .int 0, .int 0])), (a1, .inr (2, [.ref a18, .ref a19, .int 0])), (a3, .inr (7, [.ref a4, .ref a5])), (a4, .inl (G.2 2, 121, .inr (.inl (vp_updL (f0) 120 0)))), (a5, .inl (G.2 2, 121, .inr (.inl (vp_updL (f1) 120 0))))] := hD
  refine W.eq (g2 := F0 m 29 ls []) rfl ?_
  refine lv_aload_n hx hb dX11_read_29 rfl (lv_at hl 0 rfl) ?_
  refine va_get (D := G.1) (ci := 11) (v := .ref a6) (C := "Sourcewright") (T := TX11) (N := 20) hx hb hts inX11 hown hK hP 0 rfl rfl 9 (by decide) (hts _ wq_452) (fun _ h9 => h9) rfl dX11_read_30 ?_
  refine pz_go (wr := [(a0, .inr (11, [.ref a1, .ref a8, .int 0, .ref a9, .int 0, .int 0, .ref a2, .ref a10, .ref a11, .ref a6, .ref a12, .ref a13, .ref a14, .ref a15, .ref a16, .ref a17, .int 0, .int (-1), .int (-1), .int 0])), (a2, .inr (5, [.ref a1, .ref a3, .ref a20, .ref a21, .ref a22, .ref a23, .ref a24, .int 0, .int 0, .int 0])), (a3, .inr (7, [.ref a4, .ref a5])), (a4, .inl (G.2 2, 121, .inr (.inl (vp_updL (f0) 120 0)))), (a5, .inl (G.2 2, 121, .inr (.inl (vp_updL (f1) 120 0))))]) (vx_runV (C := "Sourcewright$Life") (As := []) (rest := []) ⟨hx, hb, hml, hown, hts⟩ (cX3_tell_1 l hst G X H.size a6 a1 a7 a2 a18 a19 f2) (cwV 0 hts (pz_gV wq_642 wq_643 wq_644 wq_7 wq_645) rfl rfl rfl (by decide +kernel) ⟨(Nat.le_of_ble_eq_true rfl), (Nat.le_of_ble_eq_true rfl)⟩) (pz_preV (C := ("Sourcewright$Life", TX3, 3)) hK hP hD hS hA hE 1 (ci := 3) rfl rfl [1, 4, 2] rfl rfl) rfl rfl hl.1 rfl (lv_room (Nat.le_of_ble_eq_true rfl)) dX11_read_33 ⟨(Nat.le_of_ble_eq_true rfl), (Nat.le_of_ble_eq_true rfl)⟩) hP hD hS hA [1, 4, 2] [0, 3, 5, 6, 7] rfl rfl rfl (by decide) (fun u H locs hP hD hS => ?_)
  have hP : va_P G.1 pz_cl [(a0, .inr (11, [.ref a1, .ref a8, .int 0, .ref a9, .int 0, .int 0, .ref a2, .ref a10, .ref a11, .ref a6, .ref a12, .ref a13, .ref a14, .ref a15, .ref a16, .ref a17, .int 0, .int (-1), .int (-1), .int 0])), (a2, .inr (5, [.ref a1, .ref a3, .ref a20, .ref a21, .ref a22, .ref a23, .ref a24, .int 0, .int 0, .int 0])), (a3, .inr (7, [.ref a4, .ref a5])), (a4, .inl (G.2 2, 121, .inr (.inl (vp_updL (f0) 120 0)))), (a5, .inl (G.2 2, 121, .inr (.inl (vp_updL (f1) 120 0)))), (a6, .inr (3, [.ref a1, .ref a2, .ref a7])), (a1, .inr (2, [.ref a18, .ref a19, .int 0])), (a7, .inl (G.2 0, 120, .inl (f2)))] H := hP
  have hD : va_D A [(a0, .inr (11, [.ref a1, .ref a8, .int 0, .ref a9, .int 0, .int 0, .ref a2, .ref a10, .ref a11, .ref a6, .ref a12, .ref a13, .ref a14, .ref a15, .ref a16, .ref a17, .int 0, .int (-1), .int (-1), .int 0])), (a2, .inr (5, [.ref a1, .ref a3, .ref a20, .ref a21, .ref a22, .ref a23, .ref a24, .int 0, .int 0, .int 0])), (a3, .inr (7, [.ref a4, .ref a5])), (a4, .inl (G.2 2, 121, .inr (.inl (vp_updL (f0) 120 0)))), (a5, .inl (G.2 2, 121, .inr (.inl (vp_updL (f1) 120 0)))), (a6, .inr (3, [.ref a1, .ref a2, .ref a7])), (a1, .inr (2, [.ref a18, .ref a19, .int 0])), (a7, .inl (G.2 0, 120, .inl (f2)))] := hD
  refine W.eq (g2 := F0 m 36 ls []) rfl ?_
  refine lv_aload_n hx hb dX11_read_36 rfl (lv_at hl 0 rfl) ?_
  refine lv_iconst (v := 1) hx hb dX11_read_37 (by decide) ?_
  refine va_put (D := G.1) (ci := 11) (v := .int 1) (ty := tyX11 16) (C := "Sourcewright") (T := TX11) (N := 20) hx hb hts inX11 tyX11 tyX11_ok nmX11 hown hK hP hD hS 0 rfl rfl 16 (by decide) (hts _ wq_459) (fun _ h9 => h9) rfl (by decide +kernel) (by decide +kernel) (by decide +kernel) (Nat.le_of_ble_eq_true rfl) dX11_read_38 (fun H locs hP hD hS => ?_)
  have hP : va_P G.1 pz_cl [(a0, .inr (11, [.ref a1, .ref a8, .int 0, .ref a9, .int 0, .int 0, .ref a2, .ref a10, .ref a11, .ref a6, .ref a12, .ref a13, .ref a14, .ref a15, .ref a16, .ref a17, .int 1, .int (-1), .int (-1), .int 0])), (a2, .inr (5, [.ref a1, .ref a3, .ref a20, .ref a21, .ref a22, .ref a23, .ref a24, .int 0, .int 0, .int 0])), (a3, .inr (7, [.ref a4, .ref a5])), (a4, .inl (G.2 2, 121, .inr (.inl (vp_updL (f0) 120 0)))), (a5, .inl (G.2 2, 121, .inr (.inl (vp_updL (f1) 120 0)))), (a6, .inr (3, [.ref a1, .ref a2, .ref a7])), (a1, .inr (2, [.ref a18, .ref a19, .int 0])), (a7, .inl (G.2 0, 120, .inl (f2)))] H := hP
  have hD : va_D A [(a0, .inr (11, [.ref a1, .ref a8, .int 0, .ref a9, .int 0, .int 0, .ref a2, .ref a10, .ref a11, .ref a6, .ref a12, .ref a13, .ref a14, .ref a15, .ref a16, .ref a17, .int 1, .int (-1), .int (-1), .int 0])), (a2, .inr (5, [.ref a1, .ref a3, .ref a20, .ref a21, .ref a22, .ref a23, .ref a24, .int 0, .int 0, .int 0])), (a3, .inr (7, [.ref a4, .ref a5])), (a4, .inl (G.2 2, 121, .inr (.inl (vp_updL (f0) 120 0)))), (a5, .inl (G.2 2, 121, .inr (.inl (vp_updL (f1) 120 0)))), (a6, .inr (3, [.ref a1, .ref a2, .ref a7])), (a1, .inr (2, [.ref a18, .ref a19, .int 0])), (a7, .inl (G.2 0, 120, .inl (f2)))] := hD
  exact pz_rv hx hb hr hlocks hS (Nat.le_of_ble_eq_true rfl) (Nat.le_of_ble_eq_true rfl) dX11_read_41 () rfl (hP.sub [0, 6, 1, 2, 3, 4, 5, 7] rfl) (hD.sub [0, 6, 1, 2, 3, 4, 5, 7] rfl rfl)
set_option maxHeartbeats 4000000 in
set_option maxRecDepth 100000 in
theorem cX11_doubts_1 (l : Launch) (hst : l.stackTraces = false) (G : pz_G) (X : Nat → Nat) (sz : Nat) (a0 : Nat) (a1 : Nat) (a2 : Nat) (a3 : Nat) (a4 : Nat) (a5 : Nat) (a6 : Nat) (a7 : Nat) (a8 : Nat) (a9 : Nat) (a10 : Nat) (a11 : Nat) (a12 : Nat) (a13 : Nat) (a14 : Nat) (a15 : Nat) (a16 : Nat) (a17 : Nat) (a18 : Nat) (a19 : Nat) (a20 : Nat) (a21 : Nat) (a22 : Nat) (a23 : Nat) (a24 : Nat) (f0 : Nat → Int64) (f1 : Nat → Int64) (f2 : Nat → Int32) : pz_MR (S := Unit) l yX11_doubts (pz_cd yX11_doubts cX11_doubts 3 (some .int)) 4 87 0 0 G X sz [(a0, .inr (11, [.ref a1, .ref a8, .int 0, .ref a9, .int 0, .int 0, .ref a2, .ref a10, .ref a11, .ref a6, .ref a12, .ref a13, .ref a14, .ref a15, .ref a16, .ref a17, .int 0, .int (-1), .int (-1), .int 0])), (a1, .inr (2, [.ref a18, .ref a19, .int 0])), (a2, .inr (5, [.ref a1, .ref a3, .ref a20, .ref a21, .ref a22, .ref a23, .ref a24, .int 0, .int 0, .int 0])), (a3, .inr (7, [.ref a4, .ref a5])), (a4, .inl (G.2 2, 121, .inr (.inl (f0)))), (a5, .inl (G.2 2, 121, .inr (.inl (f1)))), (a6, .inr (3, [.ref a1, .ref a2, .ref a7])), (a7, .inl (G.2 0, 120, .inl (f2)))] [.ref a0] (fun u => some (.int 0)) (fun u => [(a0, .inr (11, [.ref a1, .ref a8, .int 0, .ref a9, .int 0, .int 0, .ref a2, .ref a10, .ref a11, .ref a6, .ref a12, .ref a13, .ref a14, .ref a15, .ref a16, .ref a17, .int 1, .int (-1), .int (-1), .int 0])), (a1, .inr (2, [.ref a18, .ref a19, .int 0])), (a2, .inr (5, [.ref a1, .ref a3, .ref a20, .ref a21, .ref a22, .ref a23, .ref a24, .int 0, .int 0, .int 0])), (a3, .inr (7, [.ref a4, .ref a5])), (a4, .inl (G.2 2, 121, .inr (.inl (vp_updL (f0) 120 0)))), (a5, .inl (G.2 2, 121, .inr (.inl (vp_updL (f1) 120 0)))), (a6, .inr (3, [.ref a1, .ref a2, .ref a7])), (a7, .inl (G.2 0, 120, .inl (f2)))]) := by
  refine pz_onR (by decide +kernel) (Nat.le_of_ble_eq_true rfl) ?_
  intro p e s m below meth c A hx hb hr hml hown hts hlocks hin hx0 hP hK hD hS hA hE ls hl
  have hown : s.vm.findClass "Sourcewright" = some m.cls := hown
  have hl : lv_has ls 3 [(0, .ref a0)] := hl
  refine lv_aload_n hx hb dX11_doubts_0 rfl (lv_at hl 0 rfl) ?_
  refine pz_go (wr := []) (vx_runV (C := "Sourcewright") (As := []) (rest := []) ⟨hx, hb, hml, hown, hts⟩ (cX11_read_1 l hst G X s.heap.size a0 a1 a2 a3 a4 a5 a6 a7 a8 a9 a10 a11 a12 a13 a14 a15 a16 a17 a18 a19 a20 a21 a22 a23 a24 f0 f1 f2) (cwV 0 hts (pz_gV wq_527 wq_529 wqs_1 wq_1 wq_530) rfl rfl rfl (by decide +kernel) ⟨(Nat.le_of_ble_eq_true rfl), (Nat.le_of_ble_eq_true rfl)⟩) (pz_preV (C := ("Sourcewright", TX11, 20)) hK hP hD hS hA hE 0 (ci := 11) rfl rfl [0, 1, 2, 3, 4, 5, 6, 7] rfl rfl) rfl rfl hl.1 rfl (lv_room (Nat.le_of_ble_eq_true rfl)) dX11_doubts_1 ⟨(Nat.le_of_ble_eq_true rfl), (Nat.le_of_ble_eq_true rfl)⟩) hP hD hS hA [0, 1, 2, 3, 4, 5, 6, 7] [] rfl rfl rfl (by decide) (fun u H locs hP hD hS => ?_)
  have hP : va_P G.1 pz_cl [(a0, .inr (11, [.ref a1, .ref a8, .int 0, .ref a9, .int 0, .int 0, .ref a2, .ref a10, .ref a11, .ref a6, .ref a12, .ref a13, .ref a14, .ref a15, .ref a16, .ref a17, .int 1, .int (-1), .int (-1), .int 0])), (a1, .inr (2, [.ref a18, .ref a19, .int 0])), (a2, .inr (5, [.ref a1, .ref a3, .ref a20, .ref a21, .ref a22, .ref a23, .ref a24, .int 0, .int 0, .int 0])), (a3, .inr (7, [.ref a4, .ref a5])), (a4, .inl (G.2 2, 121, .inr (.inl (vp_updL (f0) 120 0)))), (a5, .inl (G.2 2, 121, .inr (.inl (vp_updL (f1) 120 0)))), (a6, .inr (3, [.ref a1, .ref a2, .ref a7])), (a7, .inl (G.2 0, 120, .inl (f2)))] H := hP
  have hD : va_D A [(a0, .inr (11, [.ref a1, .ref a8, .int 0, .ref a9, .int 0, .int 0, .ref a2, .ref a10, .ref a11, .ref a6, .ref a12, .ref a13, .ref a14, .ref a15, .ref a16, .ref a17, .int 1, .int (-1), .int (-1), .int 0])), (a1, .inr (2, [.ref a18, .ref a19, .int 0])), (a2, .inr (5, [.ref a1, .ref a3, .ref a20, .ref a21, .ref a22, .ref a23, .ref a24, .int 0, .int 0, .int 0])), (a3, .inr (7, [.ref a4, .ref a5])), (a4, .inl (G.2 2, 121, .inr (.inl (vp_updL (f0) 120 0)))), (a5, .inl (G.2 2, 121, .inr (.inl (vp_updL (f1) 120 0)))), (a6, .inr (3, [.ref a1, .ref a2, .ref a7])), (a7, .inl (G.2 0, 120, .inl (f2)))] := hD
  refine W.eq (g2 := F0 m 4 ls []) rfl ?_
  refine lv_iconst (v := 0) hx hb dX11_doubts_4 (by decide) ?_
  refine lv_istore_n (lv' := [(1, .int 0), (0, .ref a0)]) hx hb dX11_doubts_5 rfl hl (by decide) rfl (fun ls hl => ?_)
  refine lv_iconst (v := 0) hx hb dX11_doubts_6 (by decide) ?_
  refine lv_istore_n (lv' := [(2, .int 0), (1, .int 0), (0, .ref a0)]) hx hb dX11_doubts_7 rfl hl (by decide) rfl (fun ls hl => ?_)
  refine lv_iload_n hx hb dX11_doubts_8 rfl (lv_at hl 0 rfl) ?_
  refine lv_aload_n hx hb dX11_doubts_9 rfl (lv_at hl 2 rfl) ?_
  refine va_get (D := G.1) (ci := 11) (v := .ref a1) (C := "Sourcewright") (T := TX11) (N := 20) hx hb hts inX11 hown hK hP 0 rfl rfl 0 (by decide) (hts _ wq_443) (fun _ h9 => h9) rfl dX11_doubts_10 ?_
  refine pz_go (wr := [(a0, .inr (11, [.ref a1, .ref a8, .int 0, .ref a9, .int 0, .int 0, .ref a2, .ref a10, .ref a11, .ref a6, .ref a12, .ref a13, .ref a14, .ref a15, .ref a16, .ref a17, .int 1, .int (-1), .int (-1), .int 0])), (a2, .inr (5, [.ref a1, .ref a3, .ref a20, .ref a21, .ref a22, .ref a23, .ref a24, .int 0, .int 0, .int 0])), (a3, .inr (7, [.ref a4, .ref a5])), (a4, .inl (G.2 2, 121, .inr (.inl (vp_updL (f0) 120 0)))), (a5, .inl (G.2 2, 121, .inr (.inl (vp_updL (f1) 120 0)))), (a6, .inr (3, [.ref a1, .ref a2, .ref a7])), (a7, .inl (G.2 0, 120, .inl (f2)))]) (vx_runV (C := "Sourcewright$Code") (As := []) (rest := [.int 0]) ⟨hx, hb, hml, hown, hts⟩ (cX2_count_1 l hst G X H.size a1 a18 a19) (cwV 0 hts (pz_gV wq_508 wq_509 wq_510 wq_2 wq_511) rfl rfl rfl (by decide +kernel) ⟨(Nat.le_of_ble_eq_true rfl), (Nat.le_of_ble_eq_true rfl)⟩) (pz_preV (C := ("Sourcewright$Code", TX2, 3)) hK hP hD hS hA hE 1 (ci := 2) rfl rfl [1] rfl rfl) rfl rfl hl.1 rfl (lv_room (Nat.le_of_ble_eq_true rfl)) dX11_doubts_13 ⟨(Nat.le_of_ble_eq_true rfl), (Nat.le_of_ble_eq_true rfl)⟩) hP hD hS hA [1] [0, 2, 3, 4, 5, 6, 7] rfl rfl rfl (by decide) (fun u H locs hP hD hS => ?_)
  have hP : va_P G.1 pz_cl [(a0, .inr (11, [.ref a1, .ref a8, .int 0, .ref a9, .int 0, .int 0, .ref a2, .ref a10, .ref a11, .ref a6, .ref a12, .ref a13, .ref a14, .ref a15, .ref a16, .ref a17, .int 1, .int (-1), .int (-1), .int 0])), (a2, .inr (5, [.ref a1, .ref a3, .ref a20, .ref a21, .ref a22, .ref a23, .ref a24, .int 0, .int 0, .int 0])), (a3, .inr (7, [.ref a4, .ref a5])), (a4, .inl (G.2 2, 121, .inr (.inl (vp_updL (f0) 120 0)))), (a5, .inl (G.2 2, 121, .inr (.inl (vp_updL (f1) 120 0)))), (a6, .inr (3, [.ref a1, .ref a2, .ref a7])), (a7, .inl (G.2 0, 120, .inl (f2))), (a1, .inr (2, [.ref a18, .ref a19, .int 0]))] H := hP
  have hD : va_D A [(a0, .inr (11, [.ref a1, .ref a8, .int 0, .ref a9, .int 0, .int 0, .ref a2, .ref a10, .ref a11, .ref a6, .ref a12, .ref a13, .ref a14, .ref a15, .ref a16, .ref a17, .int 1, .int (-1), .int (-1), .int 0])), (a2, .inr (5, [.ref a1, .ref a3, .ref a20, .ref a21, .ref a22, .ref a23, .ref a24, .int 0, .int 0, .int 0])), (a3, .inr (7, [.ref a4, .ref a5])), (a4, .inl (G.2 2, 121, .inr (.inl (vp_updL (f0) 120 0)))), (a5, .inl (G.2 2, 121, .inr (.inl (vp_updL (f1) 120 0)))), (a6, .inr (3, [.ref a1, .ref a2, .ref a7])), (a7, .inl (G.2 0, 120, .inl (f2))), (a1, .inr (2, [.ref a18, .ref a19, .int 0]))] := hD
  refine W.eq (g2 := F0 m 16 ls [.int 0, .int 0]) rfl ?_
  refine lv_icmp_ge (tgt := 39) hx hb dX11_doubts_16 (by decide) (fun _ => ?_) (fun hc => absurd hc (by decide))
  refine lv_iload_n hx hb dX11_doubts_39 rfl (lv_at hl 1 rfl) ?_
  exact pz_rz hx hb hr hlocks (by decide +kernel) hS (Nat.le_of_ble_eq_true rfl) (Nat.le_of_ble_eq_true rfl) dX11_doubts_40 () rfl (hP.sub [0, 7, 1, 2, 3, 4, 5, 6] rfl) (hD.sub [0, 7, 1, 2, 3, 4, 5, 6] rfl rfl)
