set_option maxHeartbeats 4000000 in
set_option maxRecDepth 100000 in
theorem cX2_cut_3 (l : Launch) (hst : l.stackTraces = false) (G : pz_G) (X : Nat → Nat) (sz : Nat) (a0 : Nat) (a1 : Nat) (a2 : Nat) (f0 : Nat → Int32) : pz_MR (S := Unit) l yX2_cut (pz_cd yX2_cut cX2_cut 2 none) 1 14 0 0 G X sz [(a0, .inr (2, [.ref a1, .ref a2, .int 0])), (a1, .inl (G.2 0, 240, .inl (f0)))] [.ref a0, .int 2] (fun u => none) (fun u => [(a0, .inr (2, [.ref a1, .ref a2, .int 2])), (a1, .inl (G.2 0, 240, .inl (f0)))]) := by
  refine pz_onR (by decide +kernel) (Nat.le_of_ble_eq_true rfl) ?_
  intro p e s m below meth c A hx hb hr hml hown hts hlocks hin hx0 hP hK hD hS hA hE ls hl
  have hown : s.vm.findClass "Sourcewright$Code" = some m.cls := hown
  have hl : lv_has ls 2 [(0, .ref a0), (1, .int 2)] := hl
  refine lv_aload_n hx hb dX2_cut_0 rfl (lv_at hl 0 rfl) ?_
  refine lv_iload_n hx hb dX2_cut_1 rfl (lv_at hl 1 rfl) ?_
  refine lv_if_ge (tgt := 9) hx hb dX2_cut_2 (by decide) (fun _ => ?_) (fun hc => absurd hc (by decide))
  refine lv_iload_n hx hb dX2_cut_9 rfl (lv_at hl 1 rfl) ?_
  refine lv_aload_n hx hb dX2_cut_10 rfl (lv_at hl 0 rfl) ?_
  refine va_get (D := G.1) (ci := 2) (v := .ref a1) (C := "Sourcewright$Code") (T := TX2) (N := 3) hx hb hts inX2 hown hK hP 0 rfl rfl 0 (by decide) (hts _ wq_62) (fun _ h9 => h9) rfl dX2_cut_11 ?_
  refine va_alen (v := 240) hx hb hK hP 1 0 rfl rfl (by show Int32.ofNat 240 = 240; decide) dX2_cut_14 ?_
  refine va_mmin hx hb (hml.trans hl.1.symm) hown (hts _ wq_516) (hts _ wq_517) (hts _ wq_22) (hts _ wq_518) (Nat.le_of_ble_eq_true rfl) (Nat.le_of_ble_eq_true rfl) (Nat.le_of_ble_eq_true rfl) (Nat.le_of_ble_eq_true rfl) dX2_cut_15 (pz_K (y := 2) (by decide) ?_)
  refine va_put (D := G.1) (ci := 2) (v := .int 2) (ty := tyX2 2) (C := "Sourcewright$Code") (T := TX2) (N := 3) hx hb hts inX2 tyX2 tyX2_ok nmX2 hown hK hP hD hS 0 rfl rfl 2 (by decide) (hts _ wq_64) (fun _ h9 => h9) rfl (by decide +kernel) rfl rfl (Nat.le_of_ble_eq_true rfl) dX2_cut_18 (fun H locs hP hD hS => ?_)
  have hP : va_P G.1 pz_cl [(a0, .inr (2, [.ref a1, .ref a2, .int 2])), (a1, .inl (G.2 0, 240, .inl (f0)))] H := hP
  have hD : va_D A [(a0, .inr (2, [.ref a1, .ref a2, .int 2])), (a1, .inl (G.2 0, 240, .inl (f0)))] := hD
  exact pz_rv hx hb hr hlocks hS (Nat.le_of_ble_eq_true rfl) (Nat.le_of_ble_eq_true rfl) dX2_cut_21 () rfl (hP.sub [0, 1] rfl) (hD.sub [0, 1] rfl rfl)
set_option maxHeartbeats 4000000 in
set_option maxRecDepth 100000 in
theorem cX2_at_1 (l : Launch) (hst : l.stackTraces = false) (G : pz_G) (X : Nat → Nat) (sz : Nat) (a0 : Nat) (a1 : Nat) (a2 : Nat) : pz_MR (S := Unit) l yX2_at (pz_cd yX2_at cX2_at 2 (some .int)) 0 0 0 0 G X sz [(a0, .inr (2, [.ref a1, .ref a2, .int 2])), (a1, .inl (G.2 0, 240, .inl (upd (upd (fun _ => 0) 0 128) 1 255)))] [.ref a0, .int 0] (fun u => some (.int 128)) (fun u => [(a0, .inr (2, [.ref a1, .ref a2, .int 2])), (a1, .inl (G.2 0, 240, .inl (upd (upd (fun _ => 0) 0 128) 1 255)))]) := by
  refine pz_onR (by decide +kernel) (Nat.le_of_ble_eq_true rfl) ?_
  intro p e s m below meth c A hx hb hr hml hown hts hlocks hin hx0 hP hK hD hS hA hE ls hl
  have hown : s.vm.findClass "Sourcewright$Code" = some m.cls := hown
  have hl : lv_has ls 2 [(0, .ref a0), (1, .int 0)] := hl
  refine lv_iload_n hx hb dX2_at_0 rfl (lv_at hl 1 rfl) ?_
  refine lv_if_lt (tgt := 30) hx hb dX2_at_1 (by decide) (fun hc => absurd hc (by decide)) (fun _ => ?_)
  refine lv_iload_n hx hb dX2_at_4 rfl (lv_at hl 1 rfl) ?_
  refine lv_aload_n hx hb dX2_at_5 rfl (lv_at hl 0 rfl) ?_
  refine va_get (D := G.1) (ci := 2) (v := .int 2) (C := "Sourcewright$Code") (T := TX2) (N := 3) hx hb hts inX2 hown hK hP 0 rfl rfl 2 (by decide) (hts _ wq_64) (fun _ h9 => h9) rfl dX2_at_6 ?_
  refine lv_icmp_ge (tgt := 30) hx hb dX2_at_9 (by decide) (fun hc => absurd hc (by decide)) (fun _ => ?_)
  refine lv_iload_n hx hb dX2_at_12 rfl (lv_at hl 1 rfl) ?_
  refine lv_aload_n hx hb dX2_at_13 rfl (lv_at hl 0 rfl) ?_
  refine va_get (D := G.1) (ci := 2) (v := .ref a1) (C := "Sourcewright$Code") (T := TX2) (N := 3) hx hb hts inX2 hown hK hP 0 rfl rfl 0 (by decide) (hts _ wq_62) (fun _ h9 => h9) rfl dX2_at_14 ?_
  refine va_alen (v := 240) hx hb hK hP 1 0 rfl rfl (by show Int32.ofNat 240 = 240; decide) dX2_at_17 ?_
  refine lv_icmp_ge (tgt := 30) hx hb dX2_at_18 (by decide) (fun hc => absurd hc (by decide)) (fun _ => ?_)
  refine lv_aload_n hx hb dX2_at_21 rfl (lv_at hl 0 rfl) ?_
  refine va_get (D := G.1) (ci := 2) (v := .ref a1) (C := "Sourcewright$Code") (T := TX2) (N := 3) hx hb hts inX2 hown hK hP 0 rfl rfl 0 (by decide) (hts _ wq_62) (fun _ h9 => h9) rfl dX2_at_22 ?_
  refine lv_iload_n hx hb dX2_at_25 rfl (lv_at hl 1 rfl) ?_
  refine va_iald hx hb hK hP 1 0 rfl rfl (pz_vi rfl) dX2_at_26 ?_
  refine W.eq (g2 := F0 m 27 ls [.int 128]) rfl ?_
  refine lv_goto (tgt := 31) hx hb dX2_at_27 (by decide) ?_
  exact pz_rz hx hb hr hlocks (by decide +kernel) hS (Nat.le_of_ble_eq_true rfl) (Nat.le_of_ble_eq_true rfl) dX2_at_31 () rfl (hP.sub [0, 1] rfl) (hD.sub [0, 1] rfl rfl)
set_option maxHeartbeats 4000000 in
set_option maxRecDepth 100000 in
theorem cX2_named_1 (l : Launch) (hst : l.stackTraces = false) (G : pz_G) (X : Nat → Nat) (sz : Nat) : pz_MR (S := Unit) l yX2_named (pz_cd yX2_named cX2_named 3 (some .int)) 0 0 0 0 G X sz [] [.int 128] (fun u => some (.int 8)) (fun u => []) := by
  refine pz_onR (by decide +kernel) (Nat.le_of_ble_eq_true rfl) ?_
  intro p e s m below meth c A hx hb hr hml hown hts hlocks hin hx0 hP hK hD hS hA hE ls hl
  have hown : s.vm.findClass "Sourcewright$Code" = some m.cls := hown
  have hl : lv_has ls 3 [(0, .int 128)] := hl
  refine lv_iload_n hx hb dX2_named_0 rfl (lv_at hl 0 rfl) ?_
  refine lv_iconst (v := 4) hx hb dX2_named_1 (by decide) ?_
  refine lv_ishr hx hb dX2_named_2 (pz_K (y := 8) (by decide) ?_)
  refine lv_istore_n (lv' := [(1, .int 8), (0, .int 128)]) hx hb dX2_named_3 rfl hl (by decide) rfl (fun ls hl => ?_)
  refine lv_iload_n hx hb dX2_named_4 rfl (lv_at hl 1 rfl) ?_
  refine lv_bipush (v := 15) hx hb dX2_named_5 (by decide) ?_
  refine lv_iand hx hb dX2_named_7 (pz_K (y := 0) (by decide) ?_)
  refine lv_istore_n (lv' := [(2, .int 0), (1, .int 8), (0, .int 128)]) hx hb dX2_named_8 rfl hl (by decide) rfl (fun ls hl => ?_)
  refine lv_iload_n hx hb dX2_named_9 rfl (lv_at hl 1 rfl) ?_
  refine lv_bipush (v := 8) hx hb dX2_named_10 (by decide) ?_
  refine lv_icmp_ne (tgt := 34) hx hb dX2_named_12 (by decide) (fun hc => absurd hc (by decide)) (fun _ => ?_)
  refine lv_iload_n hx hb dX2_named_15 rfl (lv_at hl 0 rfl) ?_
  refine va_getsN hx hb hE.2.1.1 hS hown (va_Nw.use rfl (hE.2.2.2.2.2.2.2.2.1 _ nx_546)) (fun _ h9 => h9) dX2_named_16 ?_
  refine va_tlen (v := 16) hx hb hE.2.1.2 hS (by decide) dX2_named_19 ?_
  refine lv_icmp_ge (tgt := 31) hx hb dX2_named_20 (by decide) (fun hc => absurd hc (by decide)) (fun _ => ?_)
  refine va_getsN hx hb hE.2.1.1 hS hown (va_Nw.use rfl (hE.2.2.2.2.2.2.2.2.1 _ nx_546)) (fun _ h9 => h9) dX2_named_23 ?_
  refine lv_iload_n hx hb dX2_named_26 rfl (lv_at hl 0 rfl) ?_
  refine va_ti (v := .int 8) hx hb hE.2.1.2 hS (pz_vi rfl) rfl dX2_named_27 ?_
  refine lv_goto (tgt := 33) hx hb dX2_named_28 (by decide) ?_
  exact pz_rz hx hb hr hlocks (by decide +kernel) hS (Nat.le_of_ble_eq_true rfl) (Nat.le_of_ble_eq_true rfl) dX2_named_33 () rfl (hP.sub [] rfl) (hD.sub [] rfl rfl)
set_option maxHeartbeats 4000000 in
set_option maxRecDepth 100000 in
theorem cX2_spanOf_1 (l : Launch) (hst : l.stackTraces = false) (G : pz_G) (X : Nat → Nat) (sz : Nat) : pz_MR (S := Unit) l yX2_spanOf (pz_cd yX2_spanOf cX2_spanOf 1 (some .int)) 0 0 0 0 G X sz [] [.int 8] (fun u => some (.int 2)) (fun u => []) := by
  refine pz_onR (by decide +kernel) (Nat.le_of_ble_eq_true rfl) ?_
  intro p e s m below meth c A hx hb hr hml hown hts hlocks hin hx0 hP hK hD hS hA hE ls hl
  have hown : s.vm.findClass "Sourcewright$Code" = some m.cls := hown
  have hl : lv_has ls 1 [(0, .int 8)] := hl
  refine lv_iload_n hx hb dX2_spanOf_0 rfl (lv_at hl 0 rfl) ?_
  refine lv_if_lt (tgt := 20) hx hb dX2_spanOf_1 (by decide) (fun hc => absurd hc (by decide)) (fun _ => ?_)
  refine lv_iload_n hx hb dX2_spanOf_4 rfl (lv_at hl 0 rfl) ?_
  refine va_getsN hx hb hE.2.2.1.1 hS hown (va_Nw.use rfl (hE.2.2.2.2.2.2.2.2.1 _ nx_553)) (fun _ h9 => h9) dX2_spanOf_5 ?_
  refine va_tlen (v := 19) hx hb hE.2.2.1.2 hS (by decide) dX2_spanOf_8 ?_
  refine lv_icmp_ge (tgt := 20) hx hb dX2_spanOf_9 (by decide) (fun hc => absurd hc (by decide)) (fun _ => ?_)
  refine va_getsN hx hb hE.2.2.1.1 hS hown (va_Nw.use rfl (hE.2.2.2.2.2.2.2.2.1 _ nx_553)) (fun _ h9 => h9) dX2_spanOf_12 ?_
  refine lv_iload_n hx hb dX2_spanOf_15 rfl (lv_at hl 0 rfl) ?_
  refine va_ti (v := .int 2) hx hb hE.2.2.1.2 hS (pz_vi rfl) rfl dX2_spanOf_16 ?_
  refine lv_goto (tgt := 21) hx hb dX2_spanOf_17 (by decide) ?_
  exact pz_rz hx hb hr hlocks (by decide +kernel) hS (Nat.le_of_ble_eq_true rfl) (Nat.le_of_ble_eq_true rfl) dX2_spanOf_21 () rfl (hP.sub [] rfl) (hD.sub [] rfl rfl)
set_option maxHeartbeats 4000000 in
set_option maxRecDepth 100000 in
theorem cX2_find_1 (l : Launch) (hst : l.stackTraces = false) (G : pz_G) (X : Nat → Nat) (sz : Nat) (a0 : Nat) (a1 : Nat) (a2 : Nat) : pz_MR (S := Unit) l yX2_find (pz_cd yX2_find cX2_find 3 (some .int)) 1 22 0 0 G X sz [(a0, .inr (2, [.ref a1, .ref a2, .int 2])), (a1, .inl (G.2 0, 240, .inl (upd (upd (fun _ => 0) 0 128) 1 255)))] [.ref a0, .int 0] (fun u => some (.int 8)) (fun u => [(a0, .inr (2, [.ref a1, .ref a2, .int 2])), (a1, .inl (G.2 0, 240, .inl (upd (upd (fun _ => 0) 0 128) 1 255)))]) := by
  refine pz_onR (by decide +kernel) (Nat.le_of_ble_eq_true rfl) ?_
  intro p e s m below meth c A hx hb hr hml hown hts hlocks hin hx0 hP hK hD hS hA hE ls hl
  have hown : s.vm.findClass "Sourcewright$Code" = some m.cls := hown
  have hl : lv_has ls 3 [(0, .ref a0), (1, .int 0)] := hl
  refine lv_aload_n hx hb dX2_find_0 rfl (lv_at hl 0 rfl) ?_
  refine lv_iload_n hx hb dX2_find_1 rfl (lv_at hl 1 rfl) ?_
  refine pz_go (wr := []) (vx_runV (C := "Sourcewright$Code") (As := [.int 0]) (rest := []) ⟨hx, hb, hml, hown, hts⟩ (cX2_at_1 l hst G X s.heap.size a0 a1 a2) (cwV 1 hts (pz_gV wq_539 wq_540 wq_541 wq_2 wq_542) rfl rfl rfl (by decide +kernel) ⟨(Nat.le_of_ble_eq_true rfl), (Nat.le_of_ble_eq_true rfl)⟩) (pz_preV (C := ("Sourcewright$Code", TX2, 3)) hK hP hD hS hA hE 0 (ci := 2) rfl rfl [0, 1] rfl rfl) rfl rfl hl.1 rfl (lv_room (Nat.le_of_ble_eq_true rfl)) dX2_find_2 ⟨(Nat.le_of_ble_eq_true rfl), (Nat.le_of_ble_eq_true rfl)⟩) hP hD hS hA [0, 1] [] rfl rfl rfl (by decide) (fun u H locs hP hD hS => ?_)
  have hP : va_P G.1 pz_cl [(a0, .inr (2, [.ref a1, .ref a2, .int 2])), (a1, .inl (G.2 0, 240, .inl (upd (upd (fun _ => 0) 0 128) 1 255)))] H := hP
  have hD : va_D A [(a0, .inr (2, [.ref a1, .ref a2, .int 2])), (a1, .inl (G.2 0, 240, .inl (upd (upd (fun _ => 0) 0 128) 1 255)))] := hD
  refine W.eq (g2 := F0 m 5 ls [.int 128]) rfl ?_
  refine pz_go (wr := [(a0, .inr (2, [.ref a1, .ref a2, .int 2])), (a1, .inl (G.2 0, 240, .inl (upd (upd (fun _ => 0) 0 128) 1 255)))]) (vx_runS (As := [.int 128]) (rest := []) ⟨hx, hb, hml, hown, hts⟩ (cX2_named_1 l hst G X H.size) (va_cwS 1 hts (pz_gS wq_543 wq_544 wq_2 wq_545) rfl rfl rfl (by decide +kernel) ⟨(Nat.le_of_ble_eq_true rfl), (Nat.le_of_ble_eq_true rfl)⟩) (pz_preS hK hP hD hS hA hE [] rfl rfl) rfl rfl hl.1 rfl (lv_room (Nat.le_of_ble_eq_true rfl)) dX2_find_5 ⟨(Nat.le_of_ble_eq_true rfl), (Nat.le_of_ble_eq_true rfl)⟩) hP hD hS hA [] [0, 1] rfl rfl rfl (by decide) (fun u H locs hP hD hS => ?_)
  have hP : va_P G.1 pz_cl [(a0, .inr (2, [.ref a1, .ref a2, .int 2])), (a1, .inl (G.2 0, 240, .inl (upd (upd (fun _ => 0) 0 128) 1 255)))] H := hP
  have hD : va_D A [(a0, .inr (2, [.ref a1, .ref a2, .int 2])), (a1, .inl (G.2 0, 240, .inl (upd (upd (fun _ => 0) 0 128) 1 255)))] := hD
  refine W.eq (g2 := F0 m 8 ls [.int 8]) rfl ?_
  refine lv_istore_n (lv' := [(2, .int 8), (0, .ref a0), (1, .int 0)]) hx hb dX2_find_8 rfl hl (by decide) rfl (fun ls hl => ?_)
  refine lv_iload_n hx hb dX2_find_9 rfl (lv_at hl 2 rfl) ?_
  refine lv_iload_n hx hb dX2_find_10 rfl (lv_at hl 0 rfl) ?_
  refine pz_go (wr := [(a0, .inr (2, [.ref a1, .ref a2, .int 2])), (a1, .inl (G.2 0, 240, .inl (upd (upd (fun _ => 0) 0 128) 1 255)))]) (vx_runS (As := [.int 8]) (rest := [.int 0]) ⟨hx, hb, hml, hown, hts⟩ (cX2_spanOf_1 l hst G X H.size) (va_cwS 1 hts (pz_gS wq_550 wq_551 wq_2 wq_552) rfl rfl rfl (by decide +kernel) ⟨(Nat.le_of_ble_eq_true rfl), (Nat.le_of_ble_eq_true rfl)⟩) (pz_preS hK hP hD hS hA hE [] rfl rfl) rfl rfl hl.1 rfl (lv_room (Nat.le_of_ble_eq_true rfl)) dX2_find_11 ⟨(Nat.le_of_ble_eq_true rfl), (Nat.le_of_ble_eq_true rfl)⟩) hP hD hS hA [] [0, 1] rfl rfl rfl (by decide) (fun u H locs hP hD hS => ?_)
  have hP : va_P G.1 pz_cl [(a0, .inr (2, [.ref a1, .ref a2, .int 2])), (a1, .inl (G.2 0, 240, .inl (upd (upd (fun _ => 0) 0 128) 1 255)))] H := hP
  have hD : va_D A [(a0, .inr (2, [.ref a1, .ref a2, .int 2])), (a1, .inl (G.2 0, 240, .inl (upd (upd (fun _ => 0) 0 128) 1 255)))] := hD
  refine W.eq (g2 := F0 m 14 ls [.int 2, .int 0]) rfl ?_
  refine lv_iadd hx hb dX2_find_14 (pz_K (y := 2) (by decide) ?_)
  refine lv_aload_n hx hb dX2_find_15 rfl (lv_at hl 1 rfl) ?_
  refine va_get (D := G.1) (ci := 2) (v := .int 2) (C := "Sourcewright$Code") (T := TX2) (N := 3) hx hb hts inX2 hown hK hP 0 rfl rfl 2 (by decide) (hts _ wq_64) (fun _ h9 => h9) rfl dX2_find_16 ?_
  refine lv_icmp_le (tgt := 25) hx hb dX2_find_19 (by decide) (fun _ => ?_) (fun hc => absurd hc (by decide))
  refine lv_iload_n hx hb dX2_find_25 rfl (lv_at hl 0 rfl) ?_
  refine lv_bipush (v := 11) hx hb dX2_find_26 (by decide) ?_
  refine lv_icmp_eq (tgt := 37) hx hb dX2_find_28 (by decide) (fun hc => absurd hc (by decide)) (fun _ => ?_)
  refine lv_iload_n hx hb dX2_find_31 rfl (lv_at hl 0 rfl) ?_
  refine lv_bipush (v := 12) hx hb dX2_find_32 (by decide) ?_
  refine lv_icmp_ne (tgt := 52) hx hb dX2_find_34 (by decide) (fun _ => ?_) (fun hc => absurd hc (by decide))
  refine lv_iload_n hx hb dX2_find_52 rfl (lv_at hl 0 rfl) ?_
  refine lv_bipush (v := 17) hx hb dX2_find_53 (by decide) ?_
  refine lv_icmp_ne (tgt := 82) hx hb dX2_find_55 (by decide) (fun _ => ?_) (fun hc => absurd hc (by decide))
  refine lv_iload_n hx hb dX2_find_82 rfl (lv_at hl 0 rfl) ?_
  exact pz_rz hx hb hr hlocks (by decide +kernel) hS (Nat.le_of_ble_eq_true rfl) (Nat.le_of_ble_eq_true rfl) dX2_find_83 () rfl (hP.sub [0, 1] rfl) (hD.sub [0, 1] rfl rfl)
set_option maxHeartbeats 4000000 in
set_option maxRecDepth 100000 in
theorem cX2_at_2 (l : Launch) (hst : l.stackTraces = false) (G : pz_G) (X : Nat → Nat) (sz : Nat) (a0 : Nat) (a1 : Nat) (a2 : Nat) : pz_MR (S := Unit) l yX2_at (pz_cd yX2_at cX2_at 2 (some .int)) 0 0 0 0 G X sz [(a0, .inr (2, [.ref a1, .ref a2, .int 2])), (a1, .inl (G.2 0, 240, .inl (upd (upd (fun _ => 0) 0 128) 1 255)))] [.ref a0, .int 1] (fun u => some (.int 255)) (fun u => [(a0, .inr (2, [.ref a1, .ref a2, .int 2])), (a1, .inl (G.2 0, 240, .inl (upd (upd (fun _ => 0) 0 128) 1 255)))]) := by
  refine pz_onR (by decide +kernel) (Nat.le_of_ble_eq_true rfl) ?_
  intro p e s m below meth c A hx hb hr hml hown hts hlocks hin hx0 hP hK hD hS hA hE ls hl
  have hown : s.vm.findClass "Sourcewright$Code" = some m.cls := hown
  have hl : lv_has ls 2 [(0, .ref a0), (1, .int 1)] := hl
  refine lv_iload_n hx hb dX2_at_0 rfl (lv_at hl 1 rfl) ?_
  refine lv_if_lt (tgt := 30) hx hb dX2_at_1 (by decide) (fun hc => absurd hc (by decide)) (fun _ => ?_)
  refine lv_iload_n hx hb dX2_at_4 rfl (lv_at hl 1 rfl) ?_
  refine lv_aload_n hx hb dX2_at_5 rfl (lv_at hl 0 rfl) ?_
  refine va_get (D := G.1) (ci := 2) (v := .int 2) (C := "Sourcewright$Code") (T := TX2) (N := 3) hx hb hts inX2 hown hK hP 0 rfl rfl 2 (by decide) (hts _ wq_64) (fun _ h9 => h9) rfl dX2_at_6 ?_
  refine lv_icmp_ge (tgt := 30) hx hb dX2_at_9 (by decide) (fun hc => absurd hc (by decide)) (fun _ => ?_)
  refine lv_iload_n hx hb dX2_at_12 rfl (lv_at hl 1 rfl) ?_
  refine lv_aload_n hx hb dX2_at_13 rfl (lv_at hl 0 rfl) ?_
  refine va_get (D := G.1) (ci := 2) (v := .ref a1) (C := "Sourcewright$Code") (T := TX2) (N := 3) hx hb hts inX2 hown hK hP 0 rfl rfl 0 (by decide) (hts _ wq_62) (fun _ h9 => h9) rfl dX2_at_14 ?_
  refine va_alen (v := 240) hx hb hK hP 1 0 rfl rfl (by show Int32.ofNat 240 = 240; decide) dX2_at_17 ?_
  refine lv_icmp_ge (tgt := 30) hx hb dX2_at_18 (by decide) (fun hc => absurd hc (by decide)) (fun _ => ?_)
  refine lv_aload_n hx hb dX2_at_21 rfl (lv_at hl 0 rfl) ?_
  refine va_get (D := G.1) (ci := 2) (v := .ref a1) (C := "Sourcewright$Code") (T := TX2) (N := 3) hx hb hts inX2 hown hK hP 0 rfl rfl 0 (by decide) (hts _ wq_62) (fun _ h9 => h9) rfl dX2_at_22 ?_
  refine lv_iload_n hx hb dX2_at_25 rfl (lv_at hl 1 rfl) ?_
  refine va_iald hx hb hK hP 1 0 rfl rfl (pz_vi rfl) dX2_at_26 ?_
  refine W.eq (g2 := F0 m 27 ls [.int 255]) rfl ?_
  refine lv_goto (tgt := 31) hx hb dX2_at_27 (by decide) ?_
  exact pz_rz hx hb hr hlocks (by decide +kernel) hS (Nat.le_of_ble_eq_true rfl) (Nat.le_of_ble_eq_true rfl) dX2_at_31 () rfl (hP.sub [0, 1] rfl) (hD.sub [0, 1] rfl rfl)
set_option maxHeartbeats 4000000 in
set_option maxRecDepth 100000 in
theorem cX2_named_2 (l : Launch) (hst : l.stackTraces = false) (G : pz_G) (X : Nat → Nat) (sz : Nat) : pz_MR (S := Unit) l yX2_named (pz_cd yX2_named cX2_named 3 (some .int)) 0 0 0 0 G X sz [] [.int 255] (fun u => some (.int 13)) (fun u => []) := by
  refine pz_onR (by decide +kernel) (Nat.le_of_ble_eq_true rfl) ?_
  intro p e s m below meth c A hx hb hr hml hown hts hlocks hin hx0 hP hK hD hS hA hE ls hl
  have hown : s.vm.findClass "Sourcewright$Code" = some m.cls := hown
  have hl : lv_has ls 3 [(0, .int 255)] := hl
  refine lv_iload_n hx hb dX2_named_0 rfl (lv_at hl 0 rfl) ?_
  refine lv_iconst (v := 4) hx hb dX2_named_1 (by decide) ?_
  refine lv_ishr hx hb dX2_named_2 (pz_K (y := 15) (by decide) ?_)
  refine lv_istore_n (lv' := [(1, .int 15), (0, .int 255)]) hx hb dX2_named_3 rfl hl (by decide) rfl (fun ls hl => ?_)
  refine lv_iload_n hx hb dX2_named_4 rfl (lv_at hl 1 rfl) ?_
  refine lv_bipush (v := 15) hx hb dX2_named_5 (by decide) ?_
  refine lv_iand hx hb dX2_named_7 (pz_K (y := 15) (by decide) ?_)
  refine lv_istore_n (lv' := [(2, .int 15), (1, .int 15), (0, .int 255)]) hx hb dX2_named_8 rfl hl (by decide) rfl (fun ls hl => ?_)
  refine lv_iload_n hx hb dX2_named_9 rfl (lv_at hl 1 rfl) ?_
  refine lv_bipush (v := 8) hx hb dX2_named_10 (by decide) ?_
  refine lv_icmp_ne (tgt := 34) hx hb dX2_named_12 (by decide) (fun _ => ?_) (fun hc => absurd hc (by decide))
  refine lv_iload_n hx hb dX2_named_34 rfl (lv_at hl 1 rfl) ?_
  refine lv_if_lt (tgt := 54) hx hb dX2_named_35 (by decide) (fun hc => absurd hc (by decide)) (fun _ => ?_)
  refine lv_iload_n hx hb dX2_named_38 rfl (lv_at hl 1 rfl) ?_
  refine va_getsN hx hb hE.1.1 hS hown (va_Nw.use rfl (hE.2.2.2.2.2.2.2.2.1 _ nx_548)) (fun _ h9 => h9) dX2_named_39 ?_
  refine va_tlen (v := 16) hx hb hE.1.2 hS (by decide) dX2_named_42 ?_
  refine lv_icmp_ge (tgt := 54) hx hb dX2_named_43 (by decide) (fun hc => absurd hc (by decide)) (fun _ => ?_)
  refine va_getsN hx hb hE.1.1 hS hown (va_Nw.use rfl (hE.2.2.2.2.2.2.2.2.1 _ nx_548)) (fun _ h9 => h9) dX2_named_46 ?_
  refine lv_iload_n hx hb dX2_named_49 rfl (lv_at hl 1 rfl) ?_
  refine va_ti (v := .int 13) hx hb hE.1.2 hS (pz_vi rfl) rfl dX2_named_50 ?_
  refine lv_goto (tgt := 56) hx hb dX2_named_51 (by decide) ?_
  exact pz_rz hx hb hr hlocks (by decide +kernel) hS (Nat.le_of_ble_eq_true rfl) (Nat.le_of_ble_eq_true rfl) dX2_named_56 () rfl (hP.sub [] rfl) (hD.sub [] rfl rfl)
set_option maxHeartbeats 4000000 in
set_option maxRecDepth 100000 in
theorem cX2_spanOf_2 (l : Launch) (hst : l.stackTraces = false) (G : pz_G) (X : Nat → Nat) (sz : Nat) : pz_MR (S := Unit) l yX2_spanOf (pz_cd yX2_spanOf cX2_spanOf 1 (some .int)) 0 0 0 0 G X sz [] [.int 13] (fun u => some (.int 1)) (fun u => []) := by
  refine pz_onR (by decide +kernel) (Nat.le_of_ble_eq_true rfl) ?_
  intro p e s m below meth c A hx hb hr hml hown hts hlocks hin hx0 hP hK hD hS hA hE ls hl
  have hown : s.vm.findClass "Sourcewright$Code" = some m.cls := hown
  have hl : lv_has ls 1 [(0, .int 13)] := hl
  refine lv_iload_n hx hb dX2_spanOf_0 rfl (lv_at hl 0 rfl) ?_
  refine lv_if_lt (tgt := 20) hx hb dX2_spanOf_1 (by decide) (fun hc => absurd hc (by decide)) (fun _ => ?_)
  refine lv_iload_n hx hb dX2_spanOf_4 rfl (lv_at hl 0 rfl) ?_
  refine va_getsN hx hb hE.2.2.1.1 hS hown (va_Nw.use rfl (hE.2.2.2.2.2.2.2.2.1 _ nx_553)) (fun _ h9 => h9) dX2_spanOf_5 ?_
  refine va_tlen (v := 19) hx hb hE.2.2.1.2 hS (by decide) dX2_spanOf_8 ?_
  refine lv_icmp_ge (tgt := 20) hx hb dX2_spanOf_9 (by decide) (fun hc => absurd hc (by decide)) (fun _ => ?_)
  refine va_getsN hx hb hE.2.2.1.1 hS hown (va_Nw.use rfl (hE.2.2.2.2.2.2.2.2.1 _ nx_553)) (fun _ h9 => h9) dX2_spanOf_12 ?_
  refine lv_iload_n hx hb dX2_spanOf_15 rfl (lv_at hl 0 rfl) ?_
  refine va_ti (v := .int 1) hx hb hE.2.2.1.2 hS (pz_vi rfl) rfl dX2_spanOf_16 ?_
  refine lv_goto (tgt := 21) hx hb dX2_spanOf_17 (by decide) ?_
  exact pz_rz hx hb hr hlocks (by decide +kernel) hS (Nat.le_of_ble_eq_true rfl) (Nat.le_of_ble_eq_true rfl) dX2_spanOf_21 () rfl (hP.sub [] rfl) (hD.sub [] rfl rfl)
set_option maxHeartbeats 4000000 in
set_option maxRecDepth 100000 in
theorem cX2_find_2 (l : Launch) (hst : l.stackTraces = false) (G : pz_G) (X : Nat → Nat) (sz : Nat) (a0 : Nat) (a1 : Nat) (a2 : Nat) : pz_MR (S := Unit) l yX2_find (pz_cd yX2_find cX2_find 3 (some .int)) 1 22 0 0 G X sz [(a0, .inr (2, [.ref a1, .ref a2, .int 2])), (a1, .inl (G.2 0, 240, .inl (upd (upd (fun _ => 0) 0 128) 1 255)))] [.ref a0, .int 1] (fun u => some (.int 13)) (fun u => [(a0, .inr (2, [.ref a1, .ref a2, .int 2])), (a1, .inl (G.2 0, 240, .inl (upd (upd (fun _ => 0) 0 128) 1 255)))]) := by
  refine pz_onR (by decide +kernel) (Nat.le_of_ble_eq_true rfl) ?_
  intro p e s m below meth c A hx hb hr hml hown hts hlocks hin hx0 hP hK hD hS hA hE ls hl
  have hown : s.vm.findClass "Sourcewright$Code" = some m.cls := hown
  have hl : lv_has ls 3 [(0, .ref a0), (1, .int 1)] := hl
  refine lv_aload_n hx hb dX2_find_0 rfl (lv_at hl 0 rfl) ?_
  refine lv_iload_n hx hb dX2_find_1 rfl (lv_at hl 1 rfl) ?_
  refine pz_go (wr := []) (vx_runV (C := "Sourcewright$Code") (As := [.int 1]) (rest := []) ⟨hx, hb, hml, hown, hts⟩ (cX2_at_2 l hst G X s.heap.size a0 a1 a2) (cwV 1 hts (pz_gV wq_539 wq_540 wq_541 wq_2 wq_542) rfl rfl rfl (by decide +kernel) ⟨(Nat.le_of_ble_eq_true rfl), (Nat.le_of_ble_eq_true rfl)⟩) (pz_preV (C := ("Sourcewright$Code", TX2, 3)) hK hP hD hS hA hE 0 (ci := 2) rfl rfl [0, 1] rfl rfl) rfl rfl hl.1 rfl (lv_room (Nat.le_of_ble_eq_true rfl)) dX2_find_2 ⟨(Nat.le_of_ble_eq_true rfl), (Nat.le_of_ble_eq_true rfl)⟩) hP hD hS hA [0, 1] [] rfl rfl rfl (by decide) (fun u H locs hP hD hS => ?_)
  have hP : va_P G.1 pz_cl [(a0, .inr (2, [.ref a1, .ref a2, .int 2])), (a1, .inl (G.2 0, 240, .inl (upd (upd (fun _ => 0) 0 128) 1 255)))] H := hP
  have hD : va_D A [(a0, .inr (2, [.ref a1, .ref a2, .int 2])), (a1, .inl (G.2 0, 240, .inl (upd (upd (fun _ => 0) 0 128) 1 255)))] := hD
  refine W.eq (g2 := F0 m 5 ls [.int 255]) rfl ?_
  refine pz_go (wr := [(a0, .inr (2, [.ref a1, .ref a2, .int 2])), (a1, .inl (G.2 0, 240, .inl (upd (upd (fun _ => 0) 0 128) 1 255)))]) (vx_runS (As := [.int 255]) (rest := []) ⟨hx, hb, hml, hown, hts⟩ (cX2_named_2 l hst G X H.size) (va_cwS 1 hts (pz_gS wq_543 wq_544 wq_2 wq_545) rfl rfl rfl (by decide +kernel) ⟨(Nat.le_of_ble_eq_true rfl), (Nat.le_of_ble_eq_true rfl)⟩) (pz_preS hK hP hD hS hA hE [] rfl rfl) rfl rfl hl.1 rfl (lv_room (Nat.le_of_ble_eq_true rfl)) dX2_find_5 ⟨(Nat.le_of_ble_eq_true rfl), (Nat.le_of_ble_eq_true rfl)⟩) hP hD hS hA [] [0, 1] rfl rfl rfl (by decide) (fun u H locs hP hD hS => ?_)
  have hP : va_P G.1 pz_cl [(a0, .inr (2, [.ref a1, .ref a2, .int 2])), (a1, .inl (G.2 0, 240, .inl (upd (upd (fun _ => 0) 0 128) 1 255)))] H := hP
  have hD : va_D A [(a0, .inr (2, [.ref a1, .ref a2, .int 2])), (a1, .inl (G.2 0, 240, .inl (upd (upd (fun _ => 0) 0 128) 1 255)))] := hD
  refine W.eq (g2 := F0 m 8 ls [.int 13]) rfl ?_
  refine lv_istore_n (lv' := [(2, .int 13), (0, .ref a0), (1, .int 1)]) hx hb dX2_find_8 rfl hl (by decide) rfl (fun ls hl => ?_)
  refine lv_iload_n hx hb dX2_find_9 rfl (lv_at hl 2 rfl) ?_
  refine lv_iload_n hx hb dX2_find_10 rfl (lv_at hl 0 rfl) ?_
  refine pz_go (wr := [(a0, .inr (2, [.ref a1, .ref a2, .int 2])), (a1, .inl (G.2 0, 240, .inl (upd (upd (fun _ => 0) 0 128) 1 255)))]) (vx_runS (As := [.int 13]) (rest := [.int 1]) ⟨hx, hb, hml, hown, hts⟩ (cX2_spanOf_2 l hst G X H.size) (va_cwS 1 hts (pz_gS wq_550 wq_551 wq_2 wq_552) rfl rfl rfl (by decide +kernel) ⟨(Nat.le_of_ble_eq_true rfl), (Nat.le_of_ble_eq_true rfl)⟩) (pz_preS hK hP hD hS hA hE [] rfl rfl) rfl rfl hl.1 rfl (lv_room (Nat.le_of_ble_eq_true rfl)) dX2_find_11 ⟨(Nat.le_of_ble_eq_true rfl), (Nat.le_of_ble_eq_true rfl)⟩) hP hD hS hA [] [0, 1] rfl rfl rfl (by decide) (fun u H locs hP hD hS => ?_)
  have hP : va_P G.1 pz_cl [(a0, .inr (2, [.ref a1, .ref a2, .int 2])), (a1, .inl (G.2 0, 240, .inl (upd (upd (fun _ => 0) 0 128) 1 255)))] H := hP
  have hD : va_D A [(a0, .inr (2, [.ref a1, .ref a2, .int 2])), (a1, .inl (G.2 0, 240, .inl (upd (upd (fun _ => 0) 0 128) 1 255)))] := hD
  refine W.eq (g2 := F0 m 14 ls [.int 1, .int 1]) rfl ?_
  refine lv_iadd hx hb dX2_find_14 (pz_K (y := 2) (by decide) ?_)
  refine lv_aload_n hx hb dX2_find_15 rfl (lv_at hl 1 rfl) ?_
  refine va_get (D := G.1) (ci := 2) (v := .int 2) (C := "Sourcewright$Code") (T := TX2) (N := 3) hx hb hts inX2 hown hK hP 0 rfl rfl 2 (by decide) (hts _ wq_64) (fun _ h9 => h9) rfl dX2_find_16 ?_
  refine lv_icmp_le (tgt := 25) hx hb dX2_find_19 (by decide) (fun _ => ?_) (fun hc => absurd hc (by decide))
  refine lv_iload_n hx hb dX2_find_25 rfl (lv_at hl 0 rfl) ?_
  refine lv_bipush (v := 11) hx hb dX2_find_26 (by decide) ?_
  refine lv_icmp_eq (tgt := 37) hx hb dX2_find_28 (by decide) (fun hc => absurd hc (by decide)) (fun _ => ?_)
  refine lv_iload_n hx hb dX2_find_31 rfl (lv_at hl 0 rfl) ?_
  refine lv_bipush (v := 12) hx hb dX2_find_32 (by decide) ?_
  refine lv_icmp_ne (tgt := 52) hx hb dX2_find_34 (by decide) (fun _ => ?_) (fun hc => absurd hc (by decide))
  refine lv_iload_n hx hb dX2_find_52 rfl (lv_at hl 0 rfl) ?_
  refine lv_bipush (v := 17) hx hb dX2_find_53 (by decide) ?_
  refine lv_icmp_ne (tgt := 82) hx hb dX2_find_55 (by decide) (fun _ => ?_) (fun hc => absurd hc (by decide))
  refine lv_iload_n hx hb dX2_find_82 rfl (lv_at hl 0 rfl) ?_
  exact pz_rz hx hb hr hlocks (by decide +kernel) hS (Nat.le_of_ble_eq_true rfl) (Nat.le_of_ble_eq_true rfl) dX2_find_83 () rfl (hP.sub [0, 1] rfl) (hD.sub [0, 1] rfl rfl)
set_option maxHeartbeats 4000000 in
set_option maxRecDepth 100000 in
theorem cX2_decode_2 (l : Launch) (hst : l.stackTraces = false) (G : pz_G) (X : Nat → Nat) (sz : Nat) (a0 : Nat) (a1 : Nat) (a2 : Nat) (f0 : Nat → Int32) : pz_MR (S := Unit) l yX2_decode (pz_cd yX2_decode cX2_decode 2 none) 2 44 0 0 G X sz [(a0, .inr (2, [.ref a2, .ref a1, .int 2])), (a1, .inl (G.2 0, 240, .inl (f0))), (a2, .inl (G.2 0, 240, .inl (upd (upd (fun _ => 0) 0 128) 1 255)))] [.ref a0] (fun u => none) (fun u => [(a0, .inr (2, [.ref a2, .ref a1, .int 2])), (a1, .inl (G.2 0, 240, .inl (upd (upd (f0) 0 8) 1 13))), (a2, .inl (G.2 0, 240, .inl (upd (upd (fun _ => 0) 0 128) 1 255)))]) := by
  refine pz_onR (by decide +kernel) (Nat.le_of_ble_eq_true rfl) ?_
  intro p e s m below meth c A hx hb hr hml hown hts hlocks hin hx0 hP hK hD hS hA hE ls hl
  have hown : s.vm.findClass "Sourcewright$Code" = some m.cls := hown
  have hl : lv_has ls 2 [(0, .ref a0)] := hl
  refine lv_iconst (v := 0) hx hb dX2_decode_0 (by decide) ?_
  refine lv_istore_n (lv' := [(1, .int 0), (0, .ref a0)]) hx hb dX2_decode_1 rfl hl (by decide) rfl (fun ls hl => ?_)
  refine lv_iload_n hx hb dX2_decode_2 rfl (lv_at hl 0 rfl) ?_
  refine lv_aload_n hx hb dX2_decode_3 rfl (lv_at hl 1 rfl) ?_
  refine va_get (D := G.1) (ci := 2) (v := .int 2) (C := "Sourcewright$Code") (T := TX2) (N := 3) hx hb hts inX2 hown hK hP 0 rfl rfl 2 (by decide) (hts _ wq_64) (fun _ h9 => h9) rfl dX2_decode_4 ?_
  refine lv_icmp_ge (tgt := 36) hx hb dX2_decode_7 (by decide) (fun hc => absurd hc (by decide)) (fun _ => ?_)
  refine lv_iload_n hx hb dX2_decode_10 rfl (lv_at hl 0 rfl) ?_
  refine lv_aload_n hx hb dX2_decode_11 rfl (lv_at hl 1 rfl) ?_
  refine va_get (D := G.1) (ci := 2) (v := .ref a1) (C := "Sourcewright$Code") (T := TX2) (N := 3) hx hb hts inX2 hown hK hP 0 rfl rfl 1 (by decide) (hts _ wq_63) (fun _ h9 => h9) rfl dX2_decode_12 ?_
  refine va_alen (v := 240) hx hb hK hP 1 0 rfl rfl (by show Int32.ofNat 240 = 240; decide) dX2_decode_15 ?_
  refine lv_icmp_ge (tgt := 36) hx hb dX2_decode_16 (by decide) (fun hc => absurd hc (by decide)) (fun _ => ?_)
  refine lv_aload_n hx hb dX2_decode_19 rfl (lv_at hl 1 rfl) ?_
  refine va_get (D := G.1) (ci := 2) (v := .ref a1) (C := "Sourcewright$Code") (T := TX2) (N := 3) hx hb hts inX2 hown hK hP 0 rfl rfl 1 (by decide) (hts _ wq_63) (fun _ h9 => h9) rfl dX2_decode_20 ?_
  refine lv_iload_n hx hb dX2_decode_23 rfl (lv_at hl 0 rfl) ?_
  refine lv_aload_n hx hb dX2_decode_24 rfl (lv_at hl 1 rfl) ?_
  refine lv_iload_n hx hb dX2_decode_25 rfl (lv_at hl 0 rfl) ?_
  refine pz_go (wr := [(a1, .inl (G.2 0, 240, .inl (f0)))]) (vx_runV (C := "Sourcewright$Code") (As := [.int 0]) (rest := [.int 0, .ref a1]) ⟨hx, hb, hml, hown, hts⟩ (cX2_find_1 l hst G X s.heap.size a0 a2 a1) (cwV 1 hts (pz_gV wq_535 wq_537 wqs_2 wq_2 wq_538) rfl rfl rfl (by decide +kernel) ⟨(Nat.le_of_ble_eq_true rfl), (Nat.le_of_ble_eq_true rfl)⟩) (pz_preV (C := ("Sourcewright$Code", TX2, 3)) hK hP hD hS hA hE 0 (ci := 2) rfl rfl [0, 2] rfl rfl) rfl rfl hl.1 rfl (lv_room (Nat.le_of_ble_eq_true rfl)) dX2_decode_26 ⟨(Nat.le_of_ble_eq_true rfl), (Nat.le_of_ble_eq_true rfl)⟩) hP hD hS hA [0, 2] [1] rfl rfl rfl (by decide) (fun u H locs hP hD hS => ?_)
  have hP : va_P G.1 pz_cl [(a1, .inl (G.2 0, 240, .inl (f0))), (a0, .inr (2, [.ref a2, .ref a1, .int 2])), (a2, .inl (G.2 0, 240, .inl (upd (upd (fun _ => 0) 0 128) 1 255)))] H := hP
  have hD : va_D A [(a1, .inl (G.2 0, 240, .inl (f0))), (a0, .inr (2, [.ref a2, .ref a1, .int 2])), (a2, .inl (G.2 0, 240, .inl (upd (upd (fun _ => 0) 0 128) 1 255)))] := hD
  refine W.eq (g2 := F0 m 29 ls [.int 8, .int 0, .ref a1]) rfl ?_
  refine va_iast hx hb hK hP hD hS 0 0 rfl rfl (pz_vi rfl) dX2_decode_29 (fun H locs hP hD hS => ?_)
  have hP : va_P G.1 pz_cl [(a1, .inl (G.2 0, 240, .inl (upd (f0) 0 8))), (a0, .inr (2, [.ref a2, .ref a1, .int 2])), (a2, .inl (G.2 0, 240, .inl (upd (upd (fun _ => 0) 0 128) 1 255)))] H := hP
  have hD : va_D A [(a1, .inl (G.2 0, 240, .inl (upd (f0) 0 8))), (a0, .inr (2, [.ref a2, .ref a1, .int 2])), (a2, .inl (G.2 0, 240, .inl (upd (upd (fun _ => 0) 0 128) 1 255)))] := hD
  refine lv_iinc (v := 1) (lv' := [(1, .int 1), (0, .ref a0)]) hx hb dX2_decode_30 hl (k := 0) rfl (by decide) (by decide) rfl (fun ls hl => ?_)
  refine lv_goto (tgt := 2) hx hb dX2_decode_33 (by decide) ?_
  refine lv_iload_n hx hb dX2_decode_2 rfl (lv_at hl 0 rfl) ?_
  refine lv_aload_n hx hb dX2_decode_3 rfl (lv_at hl 1 rfl) ?_
  refine va_get (D := G.1) (ci := 2) (v := .int 2) (C := "Sourcewright$Code") (T := TX2) (N := 3) hx hb hts inX2 hown hK hP 1 rfl rfl 2 (by decide) (hts _ wq_64) (fun _ h9 => h9) rfl dX2_decode_4 ?_
  refine lv_icmp_ge (tgt := 36) hx hb dX2_decode_7 (by decide) (fun hc => absurd hc (by decide)) (fun _ => ?_)
  refine lv_iload_n hx hb dX2_decode_10 rfl (lv_at hl 0 rfl) ?_
  refine lv_aload_n hx hb dX2_decode_11 rfl (lv_at hl 1 rfl) ?_
  refine va_get (D := G.1) (ci := 2) (v := .ref a1) (C := "Sourcewright$Code") (T := TX2) (N := 3) hx hb hts inX2 hown hK hP 1 rfl rfl 1 (by decide) (hts _ wq_63) (fun _ h9 => h9) rfl dX2_decode_12 ?_
  refine va_alen (v := 240) hx hb hK hP 0 0 rfl rfl (by show Int32.ofNat 240 = 240; decide) dX2_decode_15 ?_
  refine lv_icmp_ge (tgt := 36) hx hb dX2_decode_16 (by decide) (fun hc => absurd hc (by decide)) (fun _ => ?_)
  refine lv_aload_n hx hb dX2_decode_19 rfl (lv_at hl 1 rfl) ?_
  refine va_get (D := G.1) (ci := 2) (v := .ref a1) (C := "Sourcewright$Code") (T := TX2) (N := 3) hx hb hts inX2 hown hK hP 1 rfl rfl 1 (by decide) (hts _ wq_63) (fun _ h9 => h9) rfl dX2_decode_20 ?_
  refine lv_iload_n hx hb dX2_decode_23 rfl (lv_at hl 0 rfl) ?_
  refine lv_aload_n hx hb dX2_decode_24 rfl (lv_at hl 1 rfl) ?_
  refine lv_iload_n hx hb dX2_decode_25 rfl (lv_at hl 0 rfl) ?_
  refine pz_go (wr := [(a1, .inl (G.2 0, 240, .inl (upd (f0) 0 8)))]) (vx_runV (C := "Sourcewright$Code") (As := [.int 1]) (rest := [.int 1, .ref a1]) ⟨hx, hb, hml, hown, hts⟩ (cX2_find_2 l hst G X H.size a0 a2 a1) (cwV 1 hts (pz_gV wq_535 wq_537 wqs_2 wq_2 wq_538) rfl rfl rfl (by decide +kernel) ⟨(Nat.le_of_ble_eq_true rfl), (Nat.le_of_ble_eq_true rfl)⟩) (pz_preV (C := ("Sourcewright$Code", TX2, 3)) hK hP hD hS hA hE 1 (ci := 2) rfl rfl [1, 2] rfl rfl) rfl rfl hl.1 rfl (lv_room (Nat.le_of_ble_eq_true rfl)) dX2_decode_26 ⟨(Nat.le_of_ble_eq_true rfl), (Nat.le_of_ble_eq_true rfl)⟩) hP hD hS hA [1, 2] [0] rfl rfl rfl (by decide) (fun u H locs hP hD hS => ?_)
  have hP : va_P G.1 pz_cl [(a1, .inl (G.2 0, 240, .inl (upd (f0) 0 8))), (a0, .inr (2, [.ref a2, .ref a1, .int 2])), (a2, .inl (G.2 0, 240, .inl (upd (upd (fun _ => 0) 0 128) 1 255)))] H := hP
  have hD : va_D A [(a1, .inl (G.2 0, 240, .inl (upd (f0) 0 8))), (a0, .inr (2, [.ref a2, .ref a1, .int 2])), (a2, .inl (G.2 0, 240, .inl (upd (upd (fun _ => 0) 0 128) 1 255)))] := hD
  refine W.eq (g2 := F0 m 29 ls [.int 13, .int 1, .ref a1]) rfl ?_
  refine va_iast hx hb hK hP hD hS 0 0 rfl rfl (pz_vi rfl) dX2_decode_29 (fun H locs hP hD hS => ?_)
  have hP : va_P G.1 pz_cl [(a1, .inl (G.2 0, 240, .inl (upd (upd (f0) 0 8) 1 13))), (a0, .inr (2, [.ref a2, .ref a1, .int 2])), (a2, .inl (G.2 0, 240, .inl (upd (upd (fun _ => 0) 0 128) 1 255)))] H := hP
  have hD : va_D A [(a1, .inl (G.2 0, 240, .inl (upd (upd (f0) 0 8) 1 13))), (a0, .inr (2, [.ref a2, .ref a1, .int 2])), (a2, .inl (G.2 0, 240, .inl (upd (upd (fun _ => 0) 0 128) 1 255)))] := hD
  refine lv_iinc (v := 2) (lv' := [(1, .int 2), (0, .ref a0)]) hx hb dX2_decode_30 hl (k := 0) rfl (by decide) (by decide) rfl (fun ls hl => ?_)
  refine lv_goto (tgt := 2) hx hb dX2_decode_33 (by decide) ?_
  refine lv_iload_n hx hb dX2_decode_2 rfl (lv_at hl 0 rfl) ?_
  refine lv_aload_n hx hb dX2_decode_3 rfl (lv_at hl 1 rfl) ?_
  refine va_get (D := G.1) (ci := 2) (v := .int 2) (C := "Sourcewright$Code") (T := TX2) (N := 3) hx hb hts inX2 hown hK hP 1 rfl rfl 2 (by decide) (hts _ wq_64) (fun _ h9 => h9) rfl dX2_decode_4 ?_
  refine lv_icmp_ge (tgt := 36) hx hb dX2_decode_7 (by decide) (fun _ => ?_) (fun hc => absurd hc (by decide))
  exact pz_rv hx hb hr hlocks hS (Nat.le_of_ble_eq_true rfl) (Nat.le_of_ble_eq_true rfl) dX2_decode_36 () rfl (hP.sub [1, 0, 2] rfl) (hD.sub [1, 0, 2] rfl rfl)
set_option maxHeartbeats 4000000 in
set_option maxRecDepth 100000 in
theorem cX1_finish_1 (l : Launch) (hst : l.stackTraces = false) (G : pz_G) (X : Nat → Nat) (sz : Nat) (a0 : Nat) (a1 : Nat) (a2 : Nat) (a3 : Nat) (a4 : Nat) (a5 : Nat) (a6 : Nat) (a7 : Nat) (a8 : Nat) (a9 : Nat) (a10 : Nat) (a11 : Nat) (a12 : Nat) (a13 : Nat) (a14 : Nat) (f0 : Nat → Int32) : pz_MR (S := Unit) l yX1_finish (pz_cd yX1_finish cX1_finish 3 none) 3 65 0 0 G X sz [(a0, .inr (1, [.ref a4, .ref a5, .ref a6, .ref a7, .ref a1, .ref a8, .ref a9, .ref a10, .ref a11, .ref a12, .ref a13, .ref a14, .int 0, .int 0, .int 2, .int 0])), (a1, .inr (2, [.ref a2, .ref a3, .int 0])), (a2, .inl (G.2 0, 240, .inl (upd (upd (fun _ => 0) 0 128) 1 255))), (a3, .inl (G.2 0, 240, .inl (f0)))] [.ref a0] (fun u => none) (fun u => [(a0, .inr (1, [.ref a4, .ref a5, .ref a6, .ref a7, .ref a1, .ref a8, .ref a9, .ref a10, .ref a11, .ref a12, .ref a13, .ref a14, .int 0, .int 0, .int 2, .int 0])), (a1, .inr (2, [.ref a2, .ref a3, .int 2])), (a2, .inl (G.2 0, 240, .inl (upd (upd (fun _ => 0) 0 128) 1 255))), (a3, .inl (G.2 0, 240, .inl (upd (upd (f0) 0 8) 1 13)))]) := by
  refine pz_onR (by decide +kernel) (Nat.le_of_ble_eq_true rfl) ?_
  intro p e s m below meth c A hx hb hr hml hown hts hlocks hin hx0 hP hK hD hS hA hE ls hl
  have hown : s.vm.findClass "Sourcewright$Builder" = some m.cls := hown
  have hl : lv_has ls 3 [(0, .ref a0)] := hl
  refine lv_iconst (v := 0) hx hb dX1_finish_0 (by decide) ?_
  refine lv_istore_n (lv' := [(1, .int 0), (0, .ref a0)]) hx hb dX1_finish_1 rfl hl (by decide) rfl (fun ls hl => ?_)
  refine lv_iload_n hx hb dX1_finish_2 rfl (lv_at hl 0 rfl) ?_
  refine lv_aload_n hx hb dX1_finish_3 rfl (lv_at hl 1 rfl) ?_
  refine va_get (D := G.1) (ci := 1) (v := .int 0) (C := "Sourcewright$Builder") (T := TX1) (N := 16) hx hb hts inX1 hown hK hP 0 rfl rfl 13 (by decide) (hts _ wq_354) (fun _ h9 => h9) rfl dX1_finish_4 ?_
  refine lv_icmp_ge (tgt := 70) hx hb dX1_finish_7 (by decide) (fun _ => ?_) (fun hc => absurd hc (by decide))
  refine lv_aload_n hx hb dX1_finish_70 rfl (lv_at hl 1 rfl) ?_
  refine va_get (D := G.1) (ci := 1) (v := .ref a1) (C := "Sourcewright$Builder") (T := TX1) (N := 16) hx hb hts inX1 hown hK hP 0 rfl rfl 4 (by decide) (hts _ wq_345) (fun _ h9 => h9) rfl dX1_finish_71 ?_
  refine lv_aload_n hx hb dX1_finish_74 rfl (lv_at hl 1 rfl) ?_
  refine va_get (D := G.1) (ci := 1) (v := .int 2) (C := "Sourcewright$Builder") (T := TX1) (N := 16) hx hb hts inX1 hown hK hP 0 rfl rfl 14 (by decide) (hts _ wq_355) (fun _ h9 => h9) rfl dX1_finish_75 ?_
  refine pz_go (wr := [(a0, .inr (1, [.ref a4, .ref a5, .ref a6, .ref a7, .ref a1, .ref a8, .ref a9, .ref a10, .ref a11, .ref a12, .ref a13, .ref a14, .int 0, .int 0, .int 2, .int 0])), (a3, .inl (G.2 0, 240, .inl (f0)))]) (vx_runV (C := "Sourcewright$Code") (As := [.int 2]) (rest := []) ⟨hx, hb, hml, hown, hts⟩ (cX2_cut_3 l hst G X s.heap.size a1 a2 a3 (upd (upd (fun _ => 0) 0 128) 1 255)) (cwV 1 hts (pz_gV wq_1194 wq_513 wq_514 wq_2 wq_515) rfl rfl rfl (by decide +kernel) ⟨(Nat.le_of_ble_eq_true rfl), (Nat.le_of_ble_eq_true rfl)⟩) (pz_preV (C := ("Sourcewright$Code", TX2, 3)) hK hP hD hS hA hE 1 (ci := 2) rfl rfl [1, 2] rfl rfl) rfl rfl hl.1 rfl (lv_room (Nat.le_of_ble_eq_true rfl)) dX1_finish_78 ⟨(Nat.le_of_ble_eq_true rfl), (Nat.le_of_ble_eq_true rfl)⟩) hP hD hS hA [1, 2] [0, 3] rfl rfl rfl (by decide) (fun u H locs hP hD hS => ?_)
  have hP : va_P G.1 pz_cl [(a0, .inr (1, [.ref a4, .ref a5, .ref a6, .ref a7, .ref a1, .ref a8, .ref a9, .ref a10, .ref a11, .ref a12, .ref a13, .ref a14, .int 0, .int 0, .int 2, .int 0])), (a3, .inl (G.2 0, 240, .inl (f0))), (a1, .inr (2, [.ref a2, .ref a3, .int 2])), (a2, .inl (G.2 0, 240, .inl (upd (upd (fun _ => 0) 0 128) 1 255)))] H := hP
  have hD : va_D A [(a0, .inr (1, [.ref a4, .ref a5, .ref a6, .ref a7, .ref a1, .ref a8, .ref a9, .ref a10, .ref a11, .ref a12, .ref a13, .ref a14, .int 0, .int 0, .int 2, .int 0])), (a3, .inl (G.2 0, 240, .inl (f0))), (a1, .inr (2, [.ref a2, .ref a3, .int 2])), (a2, .inl (G.2 0, 240, .inl (upd (upd (fun _ => 0) 0 128) 1 255)))] := hD
  refine W.eq (g2 := F0 m 81 ls []) rfl ?_
  refine lv_aload_n hx hb dX1_finish_81 rfl (lv_at hl 1 rfl) ?_
  refine va_get (D := G.1) (ci := 1) (v := .ref a1) (C := "Sourcewright$Builder") (T := TX1) (N := 16) hx hb hts inX1 hown hK hP 0 rfl rfl 4 (by decide) (hts _ wq_345) (fun _ h9 => h9) rfl dX1_finish_82 ?_
  refine pz_go (wr := [(a0, .inr (1, [.ref a4, .ref a5, .ref a6, .ref a7, .ref a1, .ref a8, .ref a9, .ref a10, .ref a11, .ref a12, .ref a13, .ref a14, .int 0, .int 0, .int 2, .int 0]))]) (vx_runV (C := "Sourcewright$Code") (As := []) (rest := []) ⟨hx, hb, hml, hown, hts⟩ (cX2_decode_2 l hst G X H.size a1 a3 a2 f0) (cwV 0 hts (pz_gV wq_1195 wq_532 wq_533 wq_2 wq_534) rfl rfl rfl (by decide +kernel) ⟨(Nat.le_of_ble_eq_true rfl), (Nat.le_of_ble_eq_true rfl)⟩) (pz_preV (C := ("Sourcewright$Code", TX2, 3)) hK hP hD hS hA hE 2 (ci := 2) rfl rfl [2, 1, 3] rfl rfl) rfl rfl hl.1 rfl (lv_room (Nat.le_of_ble_eq_true rfl)) dX1_finish_85 ⟨(Nat.le_of_ble_eq_true rfl), (Nat.le_of_ble_eq_true rfl)⟩) hP hD hS hA [2, 1, 3] [0] rfl rfl rfl (by decide) (fun u H locs hP hD hS => ?_)
  have hP : va_P G.1 pz_cl [(a0, .inr (1, [.ref a4, .ref a5, .ref a6, .ref a7, .ref a1, .ref a8, .ref a9, .ref a10, .ref a11, .ref a12, .ref a13, .ref a14, .int 0, .int 0, .int 2, .int 0])), (a1, .inr (2, [.ref a2, .ref a3, .int 2])), (a3, .inl (G.2 0, 240, .inl (upd (upd (f0) 0 8) 1 13))), (a2, .inl (G.2 0, 240, .inl (upd (upd (fun _ => 0) 0 128) 1 255)))] H := hP
  have hD : va_D A [(a0, .inr (1, [.ref a4, .ref a5, .ref a6, .ref a7, .ref a1, .ref a8, .ref a9, .ref a10, .ref a11, .ref a12, .ref a13, .ref a14, .int 0, .int 0, .int 2, .int 0])), (a1, .inr (2, [.ref a2, .ref a3, .int 2])), (a3, .inl (G.2 0, 240, .inl (upd (upd (f0) 0 8) 1 13))), (a2, .inl (G.2 0, 240, .inl (upd (upd (fun _ => 0) 0 128) 1 255)))] := hD
  refine W.eq (g2 := F0 m 88 ls []) rfl ?_
  exact pz_rv hx hb hr hlocks hS (Nat.le_of_ble_eq_true rfl) (Nat.le_of_ble_eq_true rfl) dX1_finish_88 () rfl (hP.sub [0, 1, 3, 2] rfl) (hD.sub [0, 1, 3, 2] rfl rfl)
set_option maxHeartbeats 4000000 in
set_option maxRecDepth 100000 in
theorem cX11_build_1 (l : Launch) (hst : l.stackTraces = false) (G : pz_G) (X : Nat → Nat) (sz : Nat) (a0 : Nat) (a1 : Nat) (a2 : Nat) (a3 : Nat) (a4 : Nat) (a5 : Nat) (a6 : Nat) (a7 : Nat) (a8 : Nat) (a9 : Nat) (a10 : Nat) (a11 : Nat) (a12 : Nat) (a13 : Nat) (a14 : Nat) (a15 : Nat) (a16 : Nat) (a17 : Nat) (a18 : Nat) (a19 : Nat) (a20 : Nat) (a21 : Nat) (a22 : Nat) (a23 : Nat) (a24 : Nat) (a25 : Nat) (a26 : Nat) (a27 : Nat) (a28 : Nat) (a29 : Nat) (a30 : Nat) (f0 : Nat → Int32) (f1 : Nat → Int32) : pz_MR (S := (Nat → Int32)) l yX11_build (pz_cd yX11_build cX11_build 2 none) 4 87 0 0 G X sz [(a0, .inr (11, [.ref a7, .ref a8, .int 0, .ref a9, .int 0, .int 0, .ref a1, .ref a10, .ref a11, .ref a12, .ref a13, .ref a2, .ref a14, .ref a15, .ref a16, .ref a17, .int 1, .int (-1), .int (-1), .int 0])), (a1, .inr (5, [.ref a7, .ref a18, .ref a19, .ref a20, .ref a21, .ref a22, .ref a23, .int 0, .int 0, .int 0])), (a2, .inr (1, [.ref a7, .ref a10, .ref a12, .ref a24, .ref a4, .ref a25, .ref a26, .ref a27, .ref a28, .ref a29, .ref a30, .ref a3, .int 0, .int 0, .int 0, .int 0])), (a3, .inl (G.2 0, 120, .inl (f0))), (a4, .inr (2, [.ref a5, .ref a6, .int 0])), (a5, .inl (G.2 0, 240, .inl (fun _ => 0))), (a6, .inl (G.2 0, 240, .inl (f1)))] [.ref a0] (fun u => none) (fun u => [(a0, .inr (11, [.ref a7, .ref a8, .int 0, .ref a9, .int 0, .int 0, .ref a1, .ref a10, .ref a11, .ref a12, .ref a13, .ref a2, .ref a14, .ref a15, .ref a16, .ref a17, .int 1, .int (-1), .int (-1), .int 1])), (a1, .inr (5, [.ref a7, .ref a18, .ref a19, .ref a20, .ref a21, .ref a22, .ref a23, .int 0, .int 0, .int 0])), (a2, .inr (1, [.ref a7, .ref a10, .ref a12, .ref a24, .ref a4, .ref a25, .ref a26, .ref a27, .ref a28, .ref a29, .ref a30, .ref a3, .int 0, .int 0, .int 2, .int 0])), (a3, .inl (G.2 0, 120, .inl (upd (upd (upd (u) 117 255) 118 255) 119 255))), (a4, .inr (2, [.ref a5, .ref a6, .int 2])), (a5, .inl (G.2 0, 240, .inl (upd (upd (fun _ => 0) 0 128) 1 255))), (a6, .inl (G.2 0, 240, .inl (upd (upd (f1) 0 8) 1 13)))]) := by
  refine pz_onR (by decide +kernel) (Nat.le_of_ble_eq_true rfl) ?_
  intro p e s m below meth c A hx hb hr hml hown hts hlocks hin hx0 hP hK hD hS hA hE ls hl
  have hown : s.vm.findClass "Sourcewright" = some m.cls := hown
  have hl : lv_has ls 2 [(0, .ref a0)] := hl
  refine lv_aload_n hx hb dX11_build_0 rfl (lv_at hl 0 rfl) ?_
  refine va_get (D := G.1) (ci := 11) (v := .int 0) (C := "Sourcewright") (T := TX11) (N := 20) hx hb hts inX11 hown hK hP 0 rfl rfl 19 (by decide) (hts _ wq_462) (fun _ h9 => h9) rfl dX11_build_1 ?_
  refine lv_if_eq (tgt := 8) hx hb dX11_build_4 (by decide) (fun _ => ?_) (fun hc => absurd hc (by decide))
  refine lv_aload_n hx hb dX11_build_8 rfl (lv_at hl 0 rfl) ?_
  refine va_get (D := G.1) (ci := 11) (v := .ref a2) (C := "Sourcewright") (T := TX11) (N := 20) hx hb hts inX11 hown hK hP 0 rfl rfl 11 (by decide) (hts _ wq_454) (fun _ h9 => h9) rfl dX11_build_9 ?_
  refine lv_aload_n hx hb dX11_build_12 rfl (lv_at hl 0 rfl) ?_
  refine va_get (D := G.1) (ci := 11) (v := .ref a1) (C := "Sourcewright") (T := TX11) (N := 20) hx hb hts inX11 hown hK hP 0 rfl rfl 6 (by decide) (hts _ wq_449) (fun _ h9 => h9) rfl dX11_build_13 ?_
  refine pz_go (wr := [(a0, .inr (11, [.ref a7, .ref a8, .int 0, .ref a9, .int 0, .int 0, .ref a1, .ref a10, .ref a11, .ref a12, .ref a13, .ref a2, .ref a14, .ref a15, .ref a16, .ref a17, .int 1, .int (-1), .int (-1), .int 0])), (a2, .inr (1, [.ref a7, .ref a10, .ref a12, .ref a24, .ref a4, .ref a25, .ref a26, .ref a27, .ref a28, .ref a29, .ref a30, .ref a3, .int 0, .int 0, .int 0, .int 0])), (a3, .inl (G.2 0, 120, .inl (f0))), (a4, .inr (2, [.ref a5, .ref a6, .int 0])), (a5, .inl (G.2 0, 240, .inl (fun _ => 0))), (a6, .inl (G.2 0, 240, .inl (f1)))]) (vx_runV (C := "Sourcewright$Reading") (As := []) (rest := [.ref a2]) ⟨hx, hb, hml, hown, hts⟩ (cX5_count_1 l hst G X s.heap.size a1 a7 a18 a19 a20 a21 a22 a23) (cwV 0 hts (pz_gV wq_689 wq_690 wq_691 wq_3 wq_692) rfl rfl rfl (by decide +kernel) ⟨(Nat.le_of_ble_eq_true rfl), (Nat.le_of_ble_eq_true rfl)⟩) (pz_preV (C := ("Sourcewright$Reading", TX5, 10)) hK hP hD hS hA hE 1 (ci := 5) rfl rfl [1] rfl rfl) rfl rfl hl.1 rfl (lv_room (Nat.le_of_ble_eq_true rfl)) dX11_build_16 ⟨(Nat.le_of_ble_eq_true rfl), (Nat.le_of_ble_eq_true rfl)⟩) hP hD hS hA [1] [0, 2, 3, 4, 5, 6] rfl rfl rfl (by decide) (fun u H locs hP hD hS => ?_)
  have hP : va_P G.1 pz_cl [(a0, .inr (11, [.ref a7, .ref a8, .int 0, .ref a9, .int 0, .int 0, .ref a1, .ref a10, .ref a11, .ref a12, .ref a13, .ref a2, .ref a14, .ref a15, .ref a16, .ref a17, .int 1, .int (-1), .int (-1), .int 0])), (a2, .inr (1, [.ref a7, .ref a10, .ref a12, .ref a24, .ref a4, .ref a25, .ref a26, .ref a27, .ref a28, .ref a29, .ref a30, .ref a3, .int 0, .int 0, .int 0, .int 0])), (a3, .inl (G.2 0, 120, .inl (f0))), (a4, .inr (2, [.ref a5, .ref a6, .int 0])), (a5, .inl (G.2 0, 240, .inl (fun _ => 0))), (a6, .inl (G.2 0, 240, .inl (f1))), (a1, .inr (5, [.ref a7, .ref a18, .ref a19, .ref a20, .ref a21, .ref a22, .ref a23, .int 0, .int 0, .int 0]))] H := hP
  have hD : va_D A [(a0, .inr (11, [.ref a7, .ref a8, .int 0, .ref a9, .int 0, .int 0, .ref a1, .ref a10, .ref a11, .ref a12, .ref a13, .ref a2, .ref a14, .ref a15, .ref a16, .ref a17, .int 1, .int (-1), .int (-1), .int 0])), (a2, .inr (1, [.ref a7, .ref a10, .ref a12, .ref a24, .ref a4, .ref a25, .ref a26, .ref a27, .ref a28, .ref a29, .ref a30, .ref a3, .int 0, .int 0, .int 0, .int 0])), (a3, .inl (G.2 0, 120, .inl (f0))), (a4, .inr (2, [.ref a5, .ref a6, .int 0])), (a5, .inl (G.2 0, 240, .inl (fun _ => 0))), (a6, .inl (G.2 0, 240, .inl (f1))), (a1, .inr (5, [.ref a7, .ref a18, .ref a19, .ref a20, .ref a21, .ref a22, .ref a23, .int 0, .int 0, .int 0]))] := hD
  refine W.eq (g2 := F0 m 19 ls [.int 0, .ref a2]) rfl ?_
  refine lv_if_le (tgt := 37) hx hb dX11_build_19 (by decide) (fun _ => ?_) (fun hc => absurd hc (by decide))
  refine lv_iconst (v := 0) hx hb dX11_build_37 (by decide) ?_
  refine pz_go (wr := [(a0, .inr (11, [.ref a7, .ref a8, .int 0, .ref a9, .int 0, .int 0, .ref a1, .ref a10, .ref a11, .ref a12, .ref a13, .ref a2, .ref a14, .ref a15, .ref a16, .ref a17, .int 1, .int (-1), .int (-1), .int 0])), (a6, .inl (G.2 0, 240, .inl (f1))), (a1, .inr (5, [.ref a7, .ref a18, .ref a19, .ref a20, .ref a21, .ref a22, .ref a23, .int 0, .int 0, .int 0]))]) (vx_runV (C := "Sourcewright$Builder") (As := [.int 0]) (rest := []) ⟨hx, hb, hml, hown, hts⟩ (cX1_start_1 l hst G X H.size a2 a3 a4 a5 a7 a10 a12 a24 a25 a26 a27 a28 a29 a30 f0 a6 (fun _ => 0)) (cwV 1 hts (pz_gV wq_1136 wq_1137 wq_1138 wq_10 wq_1139) rfl rfl rfl (by decide +kernel) ⟨(Nat.le_of_ble_eq_true rfl), (Nat.le_of_ble_eq_true rfl)⟩) (pz_preV (C := ("Sourcewright$Builder", TX1, 16)) hK hP hD hS hA hE 1 (ci := 1) rfl rfl [1, 2, 3, 4] rfl rfl) rfl rfl hl.1 rfl (lv_room (Nat.le_of_ble_eq_true rfl)) dX11_build_38 ⟨(Nat.le_of_ble_eq_true rfl), (Nat.le_of_ble_eq_true rfl)⟩) hP hD hS hA [1, 2, 3, 4] [0, 5, 6] rfl rfl rfl (by decide) (fun g1 H locs hP hD hS => ?_)
  have hP : va_P G.1 pz_cl [(a0, .inr (11, [.ref a7, .ref a8, .int 0, .ref a9, .int 0, .int 0, .ref a1, .ref a10, .ref a11, .ref a12, .ref a13, .ref a2, .ref a14, .ref a15, .ref a16, .ref a17, .int 1, .int (-1), .int (-1), .int 0])), (a6, .inl (G.2 0, 240, .inl (f1))), (a1, .inr (5, [.ref a7, .ref a18, .ref a19, .ref a20, .ref a21, .ref a22, .ref a23, .int 0, .int 0, .int 0])), (a2, .inr (1, [.ref a7, .ref a10, .ref a12, .ref a24, .ref a4, .ref a25, .ref a26, .ref a27, .ref a28, .ref a29, .ref a30, .ref a3, .int 0, .int 0, .int 2, .int 0])), (a3, .inl (G.2 0, 120, .inl (upd (upd (upd (g1) 117 255) 118 255) 119 255))), (a4, .inr (2, [.ref a5, .ref a6, .int 0])), (a5, .inl (G.2 0, 240, .inl (upd (upd (fun _ => 0) 0 128) 1 255)))] H := hP
  have hD : va_D A [(a0, .inr (11, [.ref a7, .ref a8, .int 0, .ref a9, .int 0, .int 0, .ref a1, .ref a10, .ref a11, .ref a12, .ref a13, .ref a2, .ref a14, .ref a15, .ref a16, .ref a17, .int 1, .int (-1), .int (-1), .int 0])), (a6, .inl (G.2 0, 240, .inl (f1))), (a1, .inr (5, [.ref a7, .ref a18, .ref a19, .ref a20, .ref a21, .ref a22, .ref a23, .int 0, .int 0, .int 0])), (a2, .inr (1, [.ref a7, .ref a10, .ref a12, .ref a24, .ref a4, .ref a25, .ref a26, .ref a27, .ref a28, .ref a29, .ref a30, .ref a3, .int 0, .int 0, .int 2, .int 0])), (a3, .inl (G.2 0, 120, .inl (upd (upd (upd (g1) 117 255) 118 255) 119 255))), (a4, .inr (2, [.ref a5, .ref a6, .int 0])), (a5, .inl (G.2 0, 240, .inl (upd (upd (fun _ => 0) 0 128) 1 255)))] := hD
  refine W.eq (g2 := F0 m 41 ls []) rfl ?_
  refine lv_iconst (v := 0) hx hb dX11_build_41 (by decide) ?_
  refine lv_istore_n (lv' := [(1, .int 0), (0, .ref a0)]) hx hb dX11_build_42 rfl hl (by decide) rfl (fun ls hl => ?_)
  refine lv_iload_n hx hb dX11_build_43 rfl (lv_at hl 0 rfl) ?_
  refine lv_aload_n hx hb dX11_build_44 rfl (lv_at hl 1 rfl) ?_
  refine va_get (D := G.1) (ci := 11) (v := .ref a1) (C := "Sourcewright") (T := TX11) (N := 20) hx hb hts inX11 hown hK hP 0 rfl rfl 6 (by decide) (hts _ wq_449) (fun _ h9 => h9) rfl dX11_build_45 ?_
  refine pz_go (wr := [(a0, .inr (11, [.ref a7, .ref a8, .int 0, .ref a9, .int 0, .int 0, .ref a1, .ref a10, .ref a11, .ref a12, .ref a13, .ref a2, .ref a14, .ref a15, .ref a16, .ref a17, .int 1, .int (-1), .int (-1), .int 0])), (a6, .inl (G.2 0, 240, .inl (f1))), (a2, .inr (1, [.ref a7, .ref a10, .ref a12, .ref a24, .ref a4, .ref a25, .ref a26, .ref a27, .ref a28, .ref a29, .ref a30, .ref a3, .int 0, .int 0, .int 2, .int 0])), (a3, .inl (G.2 0, 120, .inl (upd (upd (upd (g1) 117 255) 118 255) 119 255))), (a4, .inr (2, [.ref a5, .ref a6, .int 0])), (a5, .inl (G.2 0, 240, .inl (upd (upd (fun _ => 0) 0 128) 1 255)))]) (vx_runV (C := "Sourcewright$Reading") (As := []) (rest := [.int 0]) ⟨hx, hb, hml, hown, hts⟩ (cX5_count_1 l hst G X H.size a1 a7 a18 a19 a20 a21 a22 a23) (cwV 0 hts (pz_gV wq_689 wq_690 wq_691 wq_3 wq_692) rfl rfl rfl (by decide +kernel) ⟨(Nat.le_of_ble_eq_true rfl), (Nat.le_of_ble_eq_true rfl)⟩) (pz_preV (C := ("Sourcewright$Reading", TX5, 10)) hK hP hD hS hA hE 2 (ci := 5) rfl rfl [2] rfl rfl) rfl rfl hl.1 rfl (lv_room (Nat.le_of_ble_eq_true rfl)) dX11_build_48 ⟨(Nat.le_of_ble_eq_true rfl), (Nat.le_of_ble_eq_true rfl)⟩) hP hD hS hA [2] [0, 1, 3, 4, 5, 6] rfl rfl rfl (by decide) (fun u H locs hP hD hS => ?_)
  have hP : va_P G.1 pz_cl [(a0, .inr (11, [.ref a7, .ref a8, .int 0, .ref a9, .int 0, .int 0, .ref a1, .ref a10, .ref a11, .ref a12, .ref a13, .ref a2, .ref a14, .ref a15, .ref a16, .ref a17, .int 1, .int (-1), .int (-1), .int 0])), (a6, .inl (G.2 0, 240, .inl (f1))), (a2, .inr (1, [.ref a7, .ref a10, .ref a12, .ref a24, .ref a4, .ref a25, .ref a26, .ref a27, .ref a28, .ref a29, .ref a30, .ref a3, .int 0, .int 0, .int 2, .int 0])), (a3, .inl (G.2 0, 120, .inl (upd (upd (upd (g1) 117 255) 118 255) 119 255))), (a4, .inr (2, [.ref a5, .ref a6, .int 0])), (a5, .inl (G.2 0, 240, .inl (upd (upd (fun _ => 0) 0 128) 1 255))), (a1, .inr (5, [.ref a7, .ref a18, .ref a19, .ref a20, .ref a21, .ref a22, .ref a23, .int 0, .int 0, .int 0]))] H := hP
  have hD : va_D A [(a0, .inr (11, [.ref a7, .ref a8, .int 0, .ref a9, .int 0, .int 0, .ref a1, .ref a10, .ref a11, .ref a12, .ref a13, .ref a2, .ref a14, .ref a15, .ref a16, .ref a17, .int 1, .int (-1), .int (-1), .int 0])), (a6, .inl (G.2 0, 240, .inl (f1))), (a2, .inr (1, [.ref a7, .ref a10, .ref a12, .ref a24, .ref a4, .ref a25, .ref a26, .ref a27, .ref a28, .ref a29, .ref a30, .ref a3, .int 0, .int 0, .int 2, .int 0])), (a3, .inl (G.2 0, 120, .inl (upd (upd (upd (g1) 117 255) 118 255) 119 255))), (a4, .inr (2, [.ref a5, .ref a6, .int 0])), (a5, .inl (G.2 0, 240, .inl (upd (upd (fun _ => 0) 0 128) 1 255))), (a1, .inr (5, [.ref a7, .ref a18, .ref a19, .ref a20, .ref a21, .ref a22, .ref a23, .int 0, .int 0, .int 0]))] := hD
  refine W.eq (g2 := F0 m 51 ls [.int 0, .int 0]) rfl ?_
  refine lv_icmp_ge (tgt := 97) hx hb dX11_build_51 (by decide) (fun _ => ?_) (fun hc => absurd hc (by decide))
  refine lv_aload_n hx hb dX11_build_97 rfl (lv_at hl 1 rfl) ?_
  refine va_get (D := G.1) (ci := 11) (v := .ref a2) (C := "Sourcewright") (T := TX11) (N := 20) hx hb hts inX11 hown hK hP 0 rfl rfl 11 (by decide) (hts _ wq_454) (fun _ h9 => h9) rfl dX11_build_98 ?_
  refine pz_go (wr := [(a0, .inr (11, [.ref a7, .ref a8, .int 0, .ref a9, .int 0, .int 0, .ref a1, .ref a10, .ref a11, .ref a12, .ref a13, .ref a2, .ref a14, .ref a15, .ref a16, .ref a17, .int 1, .int (-1), .int (-1), .int 0])), (a3, .inl (G.2 0, 120, .inl (upd (upd (upd (g1) 117 255) 118 255) 119 255))), (a1, .inr (5, [.ref a7, .ref a18, .ref a19, .ref a20, .ref a21, .ref a22, .ref a23, .int 0, .int 0, .int 0]))]) (vx_runV (C := "Sourcewright$Builder") (As := []) (rest := []) ⟨hx, hb, hml, hown, hts⟩ (cX1_finish_1 l hst G X H.size a2 a4 a5 a6 a7 a10 a12 a24 a25 a26 a27 a28 a29 a30 a3 f1) (cwV 0 hts (pz_gV wq_1190 wq_1191 wq_1192 wq_10 wq_1193) rfl rfl rfl (by decide +kernel) ⟨(Nat.le_of_ble_eq_true rfl), (Nat.le_of_ble_eq_true rfl)⟩) (pz_preV (C := ("Sourcewright$Builder", TX1, 16)) hK hP hD hS hA hE 2 (ci := 1) rfl rfl [2, 4, 5, 1] rfl rfl) rfl rfl hl.1 rfl (lv_room (Nat.le_of_ble_eq_true rfl)) dX11_build_101 ⟨(Nat.le_of_ble_eq_true rfl), (Nat.le_of_ble_eq_true rfl)⟩) hP hD hS hA [2, 4, 5, 1] [0, 3, 6] rfl rfl rfl (by decide) (fun u H locs hP hD hS => ?_)
  have hP : va_P G.1 pz_cl [(a0, .inr (11, [.ref a7, .ref a8, .int 0, .ref a9, .int 0, .int 0, .ref a1, .ref a10, .ref a11, .ref a12, .ref a13, .ref a2, .ref a14, .ref a15, .ref a16, .ref a17, .int 1, .int (-1), .int (-1), .int 0])), (a3, .inl (G.2 0, 120, .inl (upd (upd (upd (g1) 117 255) 118 255) 119 255))), (a1, .inr (5, [.ref a7, .ref a18, .ref a19, .ref a20, .ref a21, .ref a22, .ref a23, .int 0, .int 0, .int 0])), (a2, .inr (1, [.ref a7, .ref a10, .ref a12, .ref a24, .ref a4, .ref a25, .ref a26, .ref a27, .ref a28, .ref a29, .ref a30, .ref a3, .int 0, .int 0, .int 2, .int 0])), (a4, .inr (2, [.ref a5, .ref a6, .int 2])), (a5, .inl (G.2 0, 240, .inl (upd (upd (fun _ => 0) 0 128) 1 255))), (a6, .inl (G.2 0, 240, .inl (upd (upd (f1) 0 8) 1 13)))] H := hP
  have hD : va_D A [(a0, .inr (11, [.ref a7, .ref a8, .int 0, .ref a9, .int 0, .int 0, .ref a1, .ref a10, .ref a11, .ref a12, .ref a13, .ref a2, .ref a14, .ref a15, .ref a16, .ref a17, .int 1, .int (-1), .int (-1), .int 0])), (a3, .inl (G.2 0, 120, .inl (upd (upd (upd (g1) 117 255) 118 255) 119 255))), (a1, .inr (5, [.ref a7, .ref a18, .ref a19, .ref a20, .ref a21, .ref a22, .ref a23, .int 0, .int 0, .int 0])), (a2, .inr (1, [.ref a7, .ref a10, .ref a12, .ref a24, .ref a4, .ref a25, .ref a26, .ref a27, .ref a28, .ref a29, .ref a30, .ref a3, .int 0, .int 0, .int 2, .int 0])), (a4, .inr (2, [.ref a5, .ref a6, .int 2])), (a5, .inl (G.2 0, 240, .inl (upd (upd (fun _ => 0) 0 128) 1 255))), (a6, .inl (G.2 0, 240, .inl (upd (upd (f1) 0 8) 1 13)))] := hD
  refine W.eq (g2 := F0 m 104 ls []) rfl ?_
  refine lv_aload_n hx hb dX11_build_104 rfl (lv_at hl 1 rfl) ?_
  refine lv_iconst (v := 1) hx hb dX11_build_105 (by decide) ?_
  refine va_put (D := G.1) (ci := 11) (v := .int 1) (ty := tyX11 19) (C := "Sourcewright") (T := TX11) (N := 20) hx hb hts inX11 tyX11 tyX11_ok nmX11 hown hK hP hD hS 0 rfl rfl 19 (by decide) (hts _ wq_462) (fun _ h9 => h9) rfl (by decide +kernel) (by decide +kernel) (by decide +kernel) (Nat.le_of_ble_eq_true rfl) dX11_build_106 (fun H locs hP hD hS => ?_)
  have hP : va_P G.1 pz_cl [(a0, .inr (11, [.ref a7, .ref a8, .int 0, .ref a9, .int 0, .int 0, .ref a1, .ref a10, .ref a11, .ref a12, .ref a13, .ref a2, .ref a14, .ref a15, .ref a16, .ref a17, .int 1, .int (-1), .int (-1), .int 1])), (a3, .inl (G.2 0, 120, .inl (upd (upd (upd (g1) 117 255) 118 255) 119 255))), (a1, .inr (5, [.ref a7, .ref a18, .ref a19, .ref a20, .ref a21, .ref a22, .ref a23, .int 0, .int 0, .int 0])), (a2, .inr (1, [.ref a7, .ref a10, .ref a12, .ref a24, .ref a4, .ref a25, .ref a26, .ref a27, .ref a28, .ref a29, .ref a30, .ref a3, .int 0, .int 0, .int 2, .int 0])), (a4, .inr (2, [.ref a5, .ref a6, .int 2])), (a5, .inl (G.2 0, 240, .inl (upd (upd (fun _ => 0) 0 128) 1 255))), (a6, .inl (G.2 0, 240, .inl (upd (upd (f1) 0 8) 1 13)))] H := hP
  have hD : va_D A [(a0, .inr (11, [.ref a7, .ref a8, .int 0, .ref a9, .int 0, .int 0, .ref a1, .ref a10, .ref a11, .ref a12, .ref a13, .ref a2, .ref a14, .ref a15, .ref a16, .ref a17, .int 1, .int (-1), .int (-1), .int 1])), (a3, .inl (G.2 0, 120, .inl (upd (upd (upd (g1) 117 255) 118 255) 119 255))), (a1, .inr (5, [.ref a7, .ref a18, .ref a19, .ref a20, .ref a21, .ref a22, .ref a23, .int 0, .int 0, .int 0])), (a2, .inr (1, [.ref a7, .ref a10, .ref a12, .ref a24, .ref a4, .ref a25, .ref a26, .ref a27, .ref a28, .ref a29, .ref a30, .ref a3, .int 0, .int 0, .int 2, .int 0])), (a4, .inr (2, [.ref a5, .ref a6, .int 2])), (a5, .inl (G.2 0, 240, .inl (upd (upd (fun _ => 0) 0 128) 1 255))), (a6, .inl (G.2 0, 240, .inl (upd (upd (f1) 0 8) 1 13)))] := hD
  exact pz_rv hx hb hr hlocks hS (Nat.le_of_ble_eq_true rfl) (Nat.le_of_ble_eq_true rfl) dX11_build_109 g1 rfl (hP.sub [0, 2, 3, 1, 4, 5, 6] rfl) (hD.sub [0, 2, 3, 1, 4, 5, 6] rfl rfl)
set_option maxHeartbeats 4000000 in
set_option maxRecDepth 100000 in
theorem cX1_count_1 (l : Launch) (hst : l.stackTraces = false) (G : pz_G) (X : Nat → Nat) (sz : Nat) (a0 : Nat) (a1 : Nat) (a2 : Nat) (a3 : Nat) (a4 : Nat) (a5 : Nat) (a6 : Nat) (a7 : Nat) (a8 : Nat) (a9 : Nat) (a10 : Nat) (a11 : Nat) (a12 : Nat) : pz_MR (S := Unit) l yX1_count (pz_cd yX1_count cX1_count 1 (some .int)) 0 0 0 0 G X sz [(a0, .inr (1, [.ref a1, .ref a2, .ref a3, .ref a4, .ref a5, .ref a6, .ref a7, .ref a8, .ref a9, .ref a10, .ref a11, .ref a12, .int 0, .int 0, .int 2, .int 0]))] [.ref a0] (fun u => some (.int 2)) (fun u => [(a0, .inr (1, [.ref a1, .ref a2, .ref a3, .ref a4, .ref a5, .ref a6, .ref a7, .ref a8, .ref a9, .ref a10, .ref a11, .ref a12, .int 0, .int 0, .int 2, .int 0]))]) := by
  refine pz_onR (by decide +kernel) (Nat.le_of_ble_eq_true rfl) ?_
  intro p e s m below meth c A hx hb hr hml hown hts hlocks hin hx0 hP hK hD hS hA hE ls hl
  have hown : s.vm.findClass "Sourcewright$Builder" = some m.cls := hown
  have hl : lv_has ls 1 [(0, .ref a0)] := hl
  refine lv_aload_n hx hb dX1_count_0 rfl (lv_at hl 0 rfl) ?_
  refine va_get (D := G.1) (ci := 1) (v := .int 2) (C := "Sourcewright$Builder") (T := TX1) (N := 16) hx hb hts inX1 hown hK hP 0 rfl rfl 14 (by decide) (hts _ wq_355) (fun _ h9 => h9) rfl dX1_count_1 ?_
  exact pz_rz hx hb hr hlocks (by decide +kernel) hS (Nat.le_of_ble_eq_true rfl) (Nat.le_of_ble_eq_true rfl) dX1_count_4 () rfl (hP.sub [0] rfl) (hD.sub [0] rfl rfl)
set_option maxHeartbeats 4000000 in
set_option maxRecDepth 100000 in
theorem cX11_checkCompiled_1 (l : Launch) (hst : l.stackTraces = false) (G : pz_G) (X : Nat → Nat) (sz : Nat) (a0 : Nat) (a1 : Nat) (a2 : Nat) (a3 : Nat) (a4 : Nat) (a5 : Nat) (a6 : Nat) (a7 : Nat) (a8 : Nat) (a9 : Nat) (a10 : Nat) (a11 : Nat) (a12 : Nat) (a13 : Nat) (a14 : Nat) (a15 : Nat) (a16 : Nat) (a17 : Nat) (a18 : Nat) (a19 : Nat) (a20 : Nat) (a21 : Nat) (a22 : Nat) : pz_MR (S := Unit) l yX11_checkCompiled (pz_cd yX11_checkCompiled cX11_checkCompiled 1 none) 1 20 0 0 G X sz [(a0, .inr (11, [.ref a2, .ref a3, .int 0, .ref a4, .int 0, .int 0, .ref a5, .ref a6, .ref a7, .ref a8, .ref a9, .ref a1, .ref a10, .ref a11, .ref a12, .ref a13, .int 1, .int (-1), .int (-1), .int 1])), (a1, .inr (1, [.ref a2, .ref a6, .ref a8, .ref a14, .ref a15, .ref a16, .ref a17, .ref a18, .ref a19, .ref a20, .ref a21, .ref a22, .int 0, .int 0, .int 2, .int 0]))] [.ref a0] (fun u => none) (fun u => [(a0, .inr (11, [.ref a2, .ref a3, .int 0, .ref a4, .int 0, .int 0, .ref a5, .ref a6, .ref a7, .ref a8, .ref a9, .ref a1, .ref a10, .ref a11, .ref a12, .ref a13, .int 1, .int (-1), .int (-1), .int 1])), (a1, .inr (1, [.ref a2, .ref a6, .ref a8, .ref a14, .ref a15, .ref a16, .ref a17, .ref a18, .ref a19, .ref a20, .ref a21, .ref a22, .int 0, .int 0, .int 2, .int 0]))]) := by
  refine pz_onR (by decide +kernel) (Nat.le_of_ble_eq_true rfl) ?_
  intro p e s m below meth c A hx hb hr hml hown hts hlocks hin hx0 hP hK hD hS hA hE ls hl
  have hown : s.vm.findClass "Sourcewright" = some m.cls := hown
  have hl : lv_has ls 1 [(0, .ref a0)] := hl
  refine lv_aload_n hx hb dX11_checkCompiled_0 rfl (lv_at hl 0 rfl) ?_
  refine va_get (D := G.1) (ci := 11) (v := .ref a1) (C := "Sourcewright") (T := TX11) (N := 20) hx hb hts inX11 hown hK hP 0 rfl rfl 11 (by decide) (hts _ wq_454) (fun _ h9 => h9) rfl dX11_checkCompiled_1 ?_
  refine pz_go (wr := [(a0, .inr (11, [.ref a2, .ref a3, .int 0, .ref a4, .int 0, .int 0, .ref a5, .ref a6, .ref a7, .ref a8, .ref a9, .ref a1, .ref a10, .ref a11, .ref a12, .ref a13, .int 1, .int (-1), .int (-1), .int 1]))]) (vx_runV (C := "Sourcewright$Builder") (As := []) (rest := []) ⟨hx, hb, hml, hown, hts⟩ (cX1_count_1 l hst G X s.heap.size a1 a2 a6 a8 a14 a15 a16 a17 a18 a19 a20 a21 a22) (cwV 0 hts (pz_gV wq_1148 wq_1149 wq_1150 wq_10 wq_1151) rfl rfl rfl (by decide +kernel) ⟨(Nat.le_of_ble_eq_true rfl), (Nat.le_of_ble_eq_true rfl)⟩) (pz_preV (C := ("Sourcewright$Builder", TX1, 16)) hK hP hD hS hA hE 1 (ci := 1) rfl rfl [1] rfl rfl) rfl rfl hl.1 rfl (lv_room (Nat.le_of_ble_eq_true rfl)) dX11_checkCompiled_4 ⟨(Nat.le_of_ble_eq_true rfl), (Nat.le_of_ble_eq_true rfl)⟩) hP hD hS hA [1] [0] rfl rfl rfl (by decide) (fun u H locs hP hD hS => ?_)
  have hP : va_P G.1 pz_cl [(a0, .inr (11, [.ref a2, .ref a3, .int 0, .ref a4, .int 0, .int 0, .ref a5, .ref a6, .ref a7, .ref a8, .ref a9, .ref a1, .ref a10, .ref a11, .ref a12, .ref a13, .int 1, .int (-1), .int (-1), .int 1])), (a1, .inr (1, [.ref a2, .ref a6, .ref a8, .ref a14, .ref a15, .ref a16, .ref a17, .ref a18, .ref a19, .ref a20, .ref a21, .ref a22, .int 0, .int 0, .int 2, .int 0]))] H := hP
  have hD : va_D A [(a0, .inr (11, [.ref a2, .ref a3, .int 0, .ref a4, .int 0, .int 0, .ref a5, .ref a6, .ref a7, .ref a8, .ref a9, .ref a1, .ref a10, .ref a11, .ref a12, .ref a13, .int 1, .int (-1), .int (-1), .int 1])), (a1, .inr (1, [.ref a2, .ref a6, .ref a8, .ref a14, .ref a15, .ref a16, .ref a17, .ref a18, .ref a19, .ref a20, .ref a21, .ref a22, .int 0, .int 0, .int 2, .int 0]))] := hD
  refine W.eq (g2 := F0 m 7 ls [.int 2]) rfl ?_
  refine lv_sipush (v := 240) hx hb dX11_checkCompiled_7 (by decide) ?_
  refine lv_icmp_le (tgt := 24) hx hb dX11_checkCompiled_10 (by decide) (fun _ => ?_) (fun hc => absurd hc (by decide))
  exact pz_rv hx hb hr hlocks hS (Nat.le_of_ble_eq_true rfl) (Nat.le_of_ble_eq_true rfl) dX11_checkCompiled_24 () rfl (hP.sub [0, 1] rfl) (hD.sub [0, 1] rfl rfl)
set_option maxHeartbeats 4000000 in
set_option maxRecDepth 100000 in
theorem cX11_compiled_1 (l : Launch) (hst : l.stackTraces = false) (G : pz_G) (X : Nat → Nat) (sz : Nat) (a0 : Nat) (a1 : Nat) (a2 : Nat) (a3 : Nat) (a4 : Nat) (a5 : Nat) (a6 : Nat) (a7 : Nat) (a8 : Nat) (a9 : Nat) (a10 : Nat) (a11 : Nat) (a12 : Nat) (a13 : Nat) (a14 : Nat) (a15 : Nat) (a16 : Nat) (a17 : Nat) (a18 : Nat) (a19 : Nat) (a20 : Nat) (a21 : Nat) (a22 : Nat) (a23 : Nat) (a24 : Nat) (a25 : Nat) (a26 : Nat) (a27 : Nat) (a28 : Nat) (f0 : Nat → Int64) (f1 : Nat → Int64) (f2 : Nat → Int32) (a29 : Nat) (a30 : Nat) (a31 : Nat) (a32 : Nat) (a33 : Nat) (a34 : Nat) (a35 : Nat) (f3 : Nat → Int32) (f4 : Nat → Int32) : pz_MR (S := (Nat → Int32)) l yX11_compiled (pz_cd yX11_compiled cX11_compiled 1 (some .int)) 5 108 0 0 G X sz [(a0, .inr (11, [.ref a1, .ref a13, .int 0, .ref a14, .int 0, .int 0, .ref a2, .ref a15, .ref a16, .ref a6, .ref a17, .ref a8, .ref a18, .ref a19, .ref a20, .ref a21, .int 0, .int (-1), .int (-1), .int 0])), (a1, .inr (2, [.ref a22, .ref a23, .int 0])), (a2, .inr (5, [.ref a1, .ref a3, .ref a24, .ref a25, .ref a26, .ref a27, .ref a28, .int 0, .int 0, .int 0])), (a3, .inr (7, [.ref a4, .ref a5])), (a4, .inl (G.2 2, 121, .inr (.inl (f0)))), (a5, .inl (G.2 2, 121, .inr (.inl (f1)))), (a6, .inr (3, [.ref a1, .ref a2, .ref a7])), (a7, .inl (G.2 0, 120, .inl (f2))), (a8, .inr (1, [.ref a1, .ref a15, .ref a6, .ref a29, .ref a10, .ref a30, .ref a31, .ref a32, .ref a33, .ref a34, .ref a35, .ref a9, .int 0, .int 0, .int 0, .int 0])), (a9, .inl (G.2 0, 120, .inl (f3))), (a10, .inr (2, [.ref a11, .ref a12, .int 0])), (a11, .inl (G.2 0, 240, .inl (fun _ => 0))), (a12, .inl (G.2 0, 240, .inl (f4)))] [.ref a0] (fun u => some (.int 2)) (fun u => [(a0, .inr (11, [.ref a1, .ref a13, .int 0, .ref a14, .int 0, .int 0, .ref a2, .ref a15, .ref a16, .ref a6, .ref a17, .ref a8, .ref a18, .ref a19, .ref a20, .ref a21, .int 1, .int (-1), .int (-1), .int 1])), (a1, .inr (2, [.ref a22, .ref a23, .int 0])), (a2, .inr (5, [.ref a1, .ref a3, .ref a24, .ref a25, .ref a26, .ref a27, .ref a28, .int 0, .int 0, .int 0])), (a3, .inr (7, [.ref a4, .ref a5])), (a4, .inl (G.2 2, 121, .inr (.inl (vp_updL (f0) 120 0)))), (a5, .inl (G.2 2, 121, .inr (.inl (vp_updL (f1) 120 0)))), (a6, .inr (3, [.ref a1, .ref a2, .ref a7])), (a7, .inl (G.2 0, 120, .inl (f2))), (a8, .inr (1, [.ref a1, .ref a15, .ref a6, .ref a29, .ref a10, .ref a30, .ref a31, .ref a32, .ref a33, .ref a34, .ref a35, .ref a9, .int 0, .int 0, .int 2, .int 0])), (a9, .inl (G.2 0, 120, .inl (upd (upd (upd (u) 117 255) 118 255) 119 255))), (a10, .inr (2, [.ref a11, .ref a12, .int 2])), (a11, .inl (G.2 0, 240, .inl (upd (upd (fun _ => 0) 0 128) 1 255))), (a12, .inl (G.2 0, 240, .inl (upd (upd (f4) 0 8) 1 13)))]) := by
  refine pz_onR (by decide +kernel) (Nat.le_of_ble_eq_true rfl) ?_
  intro p e s m below meth c A hx hb hr hml hown hts hlocks hin hx0 hP hK hD hS hA hE ls hl
  have hown : s.vm.findClass "Sourcewright" = some m.cls := hown
  have hl : lv_has ls 1 [(0, .ref a0)] := hl
  refine lv_aload_n hx hb dX11_compiled_0 rfl (lv_at hl 0 rfl) ?_
  refine pz_go (wr := [(a8, .inr (1, [.ref a1, .ref a15, .ref a6, .ref a29, .ref a10, .ref a30, .ref a31, .ref a32, .ref a33, .ref a34, .ref a35, .ref a9, .int 0, .int 0, .int 0, .int 0])), (a9, .inl (G.2 0, 120, .inl (f3))), (a10, .inr (2, [.ref a11, .ref a12, .int 0])), (a11, .inl (G.2 0, 240, .inl (fun _ => 0))), (a12, .inl (G.2 0, 240, .inl (f4)))]) (vx_runV (C := "Sourcewright") (As := []) (rest := []) ⟨hx, hb, hml, hown, hts⟩ (cX11_read_1 l hst G X s.heap.size a0 a1 a2 a3 a4 a5 a6 a7 a13 a14 a15 a16 a17 a8 a18 a19 a20 a21 a22 a23 a24 a25 a26 a27 a28 f0 f1 f2) (cwV 0 hts (pz_gV wq_527 wq_529 wqs_1 wq_1 wq_530) rfl rfl rfl (by decide +kernel) ⟨(Nat.le_of_ble_eq_true rfl), (Nat.le_of_ble_eq_true rfl)⟩) (pz_preV (C := ("Sourcewright", TX11, 20)) hK hP hD hS hA hE 0 (ci := 11) rfl rfl [0, 1, 2, 3, 4, 5, 6, 7] rfl rfl) rfl rfl hl.1 rfl (lv_room (Nat.le_of_ble_eq_true rfl)) dX11_compiled_1 ⟨(Nat.le_of_ble_eq_true rfl), (Nat.le_of_ble_eq_true rfl)⟩) hP hD hS hA [0, 1, 2, 3, 4, 5, 6, 7] [8, 9, 10, 11, 12] rfl rfl rfl (by decide) (fun u H locs hP hD hS => ?_)
  have hP : va_P G.1 pz_cl [(a8, .inr (1, [.ref a1, .ref a15, .ref a6, .ref a29, .ref a10, .ref a30, .ref a31, .ref a32, .ref a33, .ref a34, .ref a35, .ref a9, .int 0, .int 0, .int 0, .int 0])), (a9, .inl (G.2 0, 120, .inl (f3))), (a10, .inr (2, [.ref a11, .ref a12, .int 0])), (a11, .inl (G.2 0, 240, .inl (fun _ => 0))), (a12, .inl (G.2 0, 240, .inl (f4))), (a0, .inr (11, [.ref a1, .ref a13, .int 0, .ref a14, .int 0, .int 0, .ref a2, .ref a15, .ref a16, .ref a6, .ref a17, .ref a8, .ref a18, .ref a19, .ref a20, .ref a21, .int 1, .int (-1), .int (-1), .int 0])), (a1, .inr (2, [.ref a22, .ref a23, .int 0])), (a2, .inr (5, [.ref a1, .ref a3, .ref a24, .ref a25, .ref a26, .ref a27, .ref a28, .int 0, .int 0, .int 0])), (a3, .inr (7, [.ref a4, .ref a5])), (a4, .inl (G.2 2, 121, .inr (.inl (vp_updL (f0) 120 0)))), (a5, .inl (G.2 2, 121, .inr (.inl (vp_updL (f1) 120 0)))), (a6, .inr (3, [.ref a1, .ref a2, .ref a7])), (a7, .inl (G.2 0, 120, .inl (f2)))] H := hP
  have hD : va_D A [(a8, .inr (1, [.ref a1, .ref a15, .ref a6, .ref a29, .ref a10, .ref a30, .ref a31, .ref a32, .ref a33, .ref a34, .ref a35, .ref a9, .int 0, .int 0, .int 0, .int 0])), (a9, .inl (G.2 0, 120, .inl (f3))), (a10, .inr (2, [.ref a11, .ref a12, .int 0])), (a11, .inl (G.2 0, 240, .inl (fun _ => 0))), (a12, .inl (G.2 0, 240, .inl (f4))), (a0, .inr (11, [.ref a1, .ref a13, .int 0, .ref a14, .int 0, .int 0, .ref a2, .ref a15, .ref a16, .ref a6, .ref a17, .ref a8, .ref a18, .ref a19, .ref a20, .ref a21, .int 1, .int (-1), .int (-1), .int 0])), (a1, .inr (2, [.ref a22, .ref a23, .int 0])), (a2, .inr (5, [.ref a1, .ref a3, .ref a24, .ref a25, .ref a26, .ref a27, .ref a28, .int 0, .int 0, .int 0])), (a3, .inr (7, [.ref a4, .ref a5])), (a4, .inl (G.2 2, 121, .inr (.inl (vp_updL (f0) 120 0)))), (a5, .inl (G.2 2, 121, .inr (.inl (vp_updL (f1) 120 0)))), (a6, .inr (3, [.ref a1, .ref a2, .ref a7])), (a7, .inl (G.2 0, 120, .inl (f2)))] := hD
  refine W.eq (g2 := F0 m 4 ls []) rfl ?_
  refine lv_aload_n hx hb dX11_compiled_4 rfl (lv_at hl 0 rfl) ?_
  refine pz_go (wr := [(a1, .inr (2, [.ref a22, .ref a23, .int 0])), (a3, .inr (7, [.ref a4, .ref a5])), (a4, .inl (G.2 2, 121, .inr (.inl (vp_updL (f0) 120 0)))), (a5, .inl (G.2 2, 121, .inr (.inl (vp_updL (f1) 120 0)))), (a6, .inr (3, [.ref a1, .ref a2, .ref a7])), (a7, .inl (G.2 0, 120, .inl (f2)))]) (vx_runV (C := "Sourcewright") (As := []) (rest := []) ⟨hx, hb, hml, hown, hts⟩ (cX11_build_1 l hst G X H.size a0 a2 a8 a9 a10 a11 a12 a1 a13 a14 a15 a16 a6 a17 a18 a19 a20 a21 a3 a24 a25 a26 a27 a28 a29 a30 a31 a32 a33 a34 a35 f3 f4) (cwV 0 hts (pz_gV wq_1132 wq_1134 wqs_58 wq_1 wq_1135) rfl rfl rfl (by decide +kernel) ⟨(Nat.le_of_ble_eq_true rfl), (Nat.le_of_ble_eq_true rfl)⟩) (pz_preV (C := ("Sourcewright", TX11, 20)) hK hP hD hS hA hE 5 (ci := 11) rfl rfl [5, 7, 0, 1, 2, 3, 4] rfl rfl) rfl rfl hl.1 rfl (lv_room (Nat.le_of_ble_eq_true rfl)) dX11_compiled_5 ⟨(Nat.le_of_ble_eq_true rfl), (Nat.le_of_ble_eq_true rfl)⟩) hP hD hS hA [5, 7, 0, 1, 2, 3, 4] [6, 8, 9, 10, 11, 12] rfl rfl rfl (by decide) (fun g1 H locs hP hD hS => ?_)
  have hP : va_P G.1 pz_cl [(a1, .inr (2, [.ref a22, .ref a23, .int 0])), (a3, .inr (7, [.ref a4, .ref a5])), (a4, .inl (G.2 2, 121, .inr (.inl (vp_updL (f0) 120 0)))), (a5, .inl (G.2 2, 121, .inr (.inl (vp_updL (f1) 120 0)))), (a6, .inr (3, [.ref a1, .ref a2, .ref a7])), (a7, .inl (G.2 0, 120, .inl (f2))), (a0, .inr (11, [.ref a1, .ref a13, .int 0, .ref a14, .int 0, .int 0, .ref a2, .ref a15, .ref a16, .ref a6, .ref a17, .ref a8, .ref a18, .ref a19, .ref a20, .ref a21, .int 1, .int (-1), .int (-1), .int 1])), (a2, .inr (5, [.ref a1, .ref a3, .ref a24, .ref a25, .ref a26, .ref a27, .ref a28, .int 0, .int 0, .int 0])), (a8, .inr (1, [.ref a1, .ref a15, .ref a6, .ref a29, .ref a10, .ref a30, .ref a31, .ref a32, .ref a33, .ref a34, .ref a35, .ref a9, .int 0, .int 0, .int 2, .int 0])), (a9, .inl (G.2 0, 120, .inl (upd (upd (upd (g1) 117 255) 118 255) 119 255))), (a10, .inr (2, [.ref a11, .ref a12, .int 2])), (a11, .inl (G.2 0, 240, .inl (upd (upd (fun _ => 0) 0 128) 1 255))), (a12, .inl (G.2 0, 240, .inl (upd (upd (f4) 0 8) 1 13)))] H := hP
  have hD : va_D A [(a1, .inr (2, [.ref a22, .ref a23, .int 0])), (a3, .inr (7, [.ref a4, .ref a5])), (a4, .inl (G.2 2, 121, .inr (.inl (vp_updL (f0) 120 0)))), (a5, .inl (G.2 2, 121, .inr (.inl (vp_updL (f1) 120 0)))), (a6, .inr (3, [.ref a1, .ref a2, .ref a7])), (a7, .inl (G.2 0, 120, .inl (f2))), (a0, .inr (11, [.ref a1, .ref a13, .int 0, .ref a14, .int 0, .int 0, .ref a2, .ref a15, .ref a16, .ref a6, .ref a17, .ref a8, .ref a18, .ref a19, .ref a20, .ref a21, .int 1, .int (-1), .int (-1), .int 1])), (a2, .inr (5, [.ref a1, .ref a3, .ref a24, .ref a25, .ref a26, .ref a27, .ref a28, .int 0, .int 0, .int 0])), (a8, .inr (1, [.ref a1, .ref a15, .ref a6, .ref a29, .ref a10, .ref a30, .ref a31, .ref a32, .ref a33, .ref a34, .ref a35, .ref a9, .int 0, .int 0, .int 2, .int 0])), (a9, .inl (G.2 0, 120, .inl (upd (upd (upd (g1) 117 255) 118 255) 119 255))), (a10, .inr (2, [.ref a11, .ref a12, .int 2])), (a11, .inl (G.2 0, 240, .inl (upd (upd (fun _ => 0) 0 128) 1 255))), (a12, .inl (G.2 0, 240, .inl (upd (upd (f4) 0 8) 1 13)))] := hD
  refine W.eq (g2 := F0 m 8 ls []) rfl ?_
  refine lv_aload_n hx hb dX11_compiled_8 rfl (lv_at hl 0 rfl) ?_
  refine pz_go (wr := [(a1, .inr (2, [.ref a22, .ref a23, .int 0])), (a3, .inr (7, [.ref a4, .ref a5])), (a4, .inl (G.2 2, 121, .inr (.inl (vp_updL (f0) 120 0)))), (a5, .inl (G.2 2, 121, .inr (.inl (vp_updL (f1) 120 0)))), (a6, .inr (3, [.ref a1, .ref a2, .ref a7])), (a7, .inl (G.2 0, 120, .inl (f2))), (a2, .inr (5, [.ref a1, .ref a3, .ref a24, .ref a25, .ref a26, .ref a27, .ref a28, .int 0, .int 0, .int 0])), (a9, .inl (G.2 0, 120, .inl (upd (upd (upd (g1) 117 255) 118 255) 119 255))), (a10, .inr (2, [.ref a11, .ref a12, .int 2])), (a11, .inl (G.2 0, 240, .inl (upd (upd (fun _ => 0) 0 128) 1 255))), (a12, .inl (G.2 0, 240, .inl (upd (upd (f4) 0 8) 1 13)))]) (vx_runV (C := "Sourcewright") (As := []) (rest := []) ⟨hx, hb, hml, hown, hts⟩ (cX11_checkCompiled_1 l hst G X H.size a0 a8 a1 a13 a14 a2 a15 a16 a6 a17 a18 a19 a20 a21 a29 a10 a30 a31 a32 a33 a34 a35 a9) (cwV 0 hts (pz_gV wq_1680 wq_1682 wqs_80 wq_1 wq_1683) rfl rfl rfl (by decide +kernel) ⟨(Nat.le_of_ble_eq_true rfl), (Nat.le_of_ble_eq_true rfl)⟩) (pz_preV (C := ("Sourcewright", TX11, 20)) hK hP hD hS hA hE 6 (ci := 11) rfl rfl [6, 8] rfl rfl) rfl rfl hl.1 rfl (lv_room (Nat.le_of_ble_eq_true rfl)) dX11_compiled_9 ⟨(Nat.le_of_ble_eq_true rfl), (Nat.le_of_ble_eq_true rfl)⟩) hP hD hS hA [6, 8] [0, 1, 2, 3, 4, 5, 7, 9, 10, 11, 12] rfl rfl rfl (by decide) (fun u H locs hP hD hS => ?_)
  have hP : va_P G.1 pz_cl [(a1, .inr (2, [.ref a22, .ref a23, .int 0])), (a3, .inr (7, [.ref a4, .ref a5])), (a4, .inl (G.2 2, 121, .inr (.inl (vp_updL (f0) 120 0)))), (a5, .inl (G.2 2, 121, .inr (.inl (vp_updL (f1) 120 0)))), (a6, .inr (3, [.ref a1, .ref a2, .ref a7])), (a7, .inl (G.2 0, 120, .inl (f2))), (a2, .inr (5, [.ref a1, .ref a3, .ref a24, .ref a25, .ref a26, .ref a27, .ref a28, .int 0, .int 0, .int 0])), (a9, .inl (G.2 0, 120, .inl (upd (upd (upd (g1) 117 255) 118 255) 119 255))), (a10, .inr (2, [.ref a11, .ref a12, .int 2])), (a11, .inl (G.2 0, 240, .inl (upd (upd (fun _ => 0) 0 128) 1 255))), (a12, .inl (G.2 0, 240, .inl (upd (upd (f4) 0 8) 1 13))), (a0, .inr (11, [.ref a1, .ref a13, .int 0, .ref a14, .int 0, .int 0, .ref a2, .ref a15, .ref a16, .ref a6, .ref a17, .ref a8, .ref a18, .ref a19, .ref a20, .ref a21, .int 1, .int (-1), .int (-1), .int 1])), (a8, .inr (1, [.ref a1, .ref a15, .ref a6, .ref a29, .ref a10, .ref a30, .ref a31, .ref a32, .ref a33, .ref a34, .ref a35, .ref a9, .int 0, .int 0, .int 2, .int 0]))] H := hP
  have hD : va_D A [(a1, .inr (2, [.ref a22, .ref a23, .int 0])), (a3, .inr (7, [.ref a4, .ref a5])), (a4, .inl (G.2 2, 121, .inr (.inl (vp_updL (f0) 120 0)))), (a5, .inl (G.2 2, 121, .inr (.inl (vp_updL (f1) 120 0)))), (a6, .inr (3, [.ref a1, .ref a2, .ref a7])), (a7, .inl (G.2 0, 120, .inl (f2))), (a2, .inr (5, [.ref a1, .ref a3, .ref a24, .ref a25, .ref a26, .ref a27, .ref a28, .int 0, .int 0, .int 0])), (a9, .inl (G.2 0, 120, .inl (upd (upd (upd (g1) 117 255) 118 255) 119 255))), (a10, .inr (2, [.ref a11, .ref a12, .int 2])), (a11, .inl (G.2 0, 240, .inl (upd (upd (fun _ => 0) 0 128) 1 255))), (a12, .inl (G.2 0, 240, .inl (upd (upd (f4) 0 8) 1 13))), (a0, .inr (11, [.ref a1, .ref a13, .int 0, .ref a14, .int 0, .int 0, .ref a2, .ref a15, .ref a16, .ref a6, .ref a17, .ref a8, .ref a18, .ref a19, .ref a20, .ref a21, .int 1, .int (-1), .int (-1), .int 1])), (a8, .inr (1, [.ref a1, .ref a15, .ref a6, .ref a29, .ref a10, .ref a30, .ref a31, .ref a32, .ref a33, .ref a34, .ref a35, .ref a9, .int 0, .int 0, .int 2, .int 0]))] := hD
  refine W.eq (g2 := F0 m 12 ls []) rfl ?_
  refine lv_aload_n hx hb dX11_compiled_12 rfl (lv_at hl 0 rfl) ?_
  refine va_get (D := G.1) (ci := 11) (v := .ref a8) (C := "Sourcewright") (T := TX11) (N := 20) hx hb hts inX11 hown hK hP 11 rfl rfl 11 (by decide) (hts _ wq_454) (fun _ h9 => h9) rfl dX11_compiled_13 ?_
  refine pz_go (wr := [(a1, .inr (2, [.ref a22, .ref a23, .int 0])), (a3, .inr (7, [.ref a4, .ref a5])), (a4, .inl (G.2 2, 121, .inr (.inl (vp_updL (f0) 120 0)))), (a5, .inl (G.2 2, 121, .inr (.inl (vp_updL (f1) 120 0)))), (a6, .inr (3, [.ref a1, .ref a2, .ref a7])), (a7, .inl (G.2 0, 120, .inl (f2))), (a2, .inr (5, [.ref a1, .ref a3, .ref a24, .ref a25, .ref a26, .ref a27, .ref a28, .int 0, .int 0, .int 0])), (a9, .inl (G.2 0, 120, .inl (upd (upd (upd (g1) 117 255) 118 255) 119 255))), (a10, .inr (2, [.ref a11, .ref a12, .int 2])), (a11, .inl (G.2 0, 240, .inl (upd (upd (fun _ => 0) 0 128) 1 255))), (a12, .inl (G.2 0, 240, .inl (upd (upd (f4) 0 8) 1 13))), (a0, .inr (11, [.ref a1, .ref a13, .int 0, .ref a14, .int 0, .int 0, .ref a2, .ref a15, .ref a16, .ref a6, .ref a17, .ref a8, .ref a18, .ref a19, .ref a20, .ref a21, .int 1, .int (-1), .int (-1), .int 1]))]) (vx_runV (C := "Sourcewright$Builder") (As := []) (rest := []) ⟨hx, hb, hml, hown, hts⟩ (cX1_count_1 l hst G X H.size a8 a1 a15 a6 a29 a10 a30 a31 a32 a33 a34 a35 a9) (cwV 0 hts (pz_gV wq_1148 wq_1149 wq_1150 wq_10 wq_1151) rfl rfl rfl (by decide +kernel) ⟨(Nat.le_of_ble_eq_true rfl), (Nat.le_of_ble_eq_true rfl)⟩) (pz_preV (C := ("Sourcewright$Builder", TX1, 16)) hK hP hD hS hA hE 12 (ci := 1) rfl rfl [12] rfl rfl) rfl rfl hl.1 rfl (lv_room (Nat.le_of_ble_eq_true rfl)) dX11_compiled_16 ⟨(Nat.le_of_ble_eq_true rfl), (Nat.le_of_ble_eq_true rfl)⟩) hP hD hS hA [12] [0, 1, 2, 3, 4, 5, 6, 7, 8, 9, 10, 11] rfl rfl rfl (by decide) (fun u H locs hP hD hS => ?_)
  have hP : va_P G.1 pz_cl [(a1, .inr (2, [.ref a22, .ref a23, .int 0])), (a3, .inr (7, [.ref a4, .ref a5])), (a4, .inl (G.2 2, 121, .inr (.inl (vp_updL (f0) 120 0)))), (a5, .inl (G.2 2, 121, .inr (.inl (vp_updL (f1) 120 0)))), (a6, .inr (3, [.ref a1, .ref a2, .ref a7])), (a7, .inl (G.2 0, 120, .inl (f2))), (a2, .inr (5, [.ref a1, .ref a3, .ref a24, .ref a25, .ref a26, .ref a27, .ref a28, .int 0, .int 0, .int 0])), (a9, .inl (G.2 0, 120, .inl (upd (upd (upd (g1) 117 255) 118 255) 119 255))), (a10, .inr (2, [.ref a11, .ref a12, .int 2])), (a11, .inl (G.2 0, 240, .inl (upd (upd (fun _ => 0) 0 128) 1 255))), (a12, .inl (G.2 0, 240, .inl (upd (upd (f4) 0 8) 1 13))), (a0, .inr (11, [.ref a1, .ref a13, .int 0, .ref a14, .int 0, .int 0, .ref a2, .ref a15, .ref a16, .ref a6, .ref a17, .ref a8, .ref a18, .ref a19, .ref a20, .ref a21, .int 1, .int (-1), .int (-1), .int 1])), (a8, .inr (1, [.ref a1, .ref a15, .ref a6, .ref a29, .ref a10, .ref a30, .ref a31, .ref a32, .ref a33, .ref a34, .ref a35, .ref a9, .int 0, .int 0, .int 2, .int 0]))] H := hP
  have hD : va_D A [(a1, .inr (2, [.ref a22, .ref a23, .int 0])), (a3, .inr (7, [.ref a4, .ref a5])), (a4, .inl (G.2 2, 121, .inr (.inl (vp_updL (f0) 120 0)))), (a5, .inl (G.2 2, 121, .inr (.inl (vp_updL (f1) 120 0)))), (a6, .inr (3, [.ref a1, .ref a2, .ref a7])), (a7, .inl (G.2 0, 120, .inl (f2))), (a2, .inr (5, [.ref a1, .ref a3, .ref a24, .ref a25, .ref a26, .ref a27, .ref a28, .int 0, .int 0, .int 0])), (a9, .inl (G.2 0, 120, .inl (upd (upd (upd (g1) 117 255) 118 255) 119 255))), (a10, .inr (2, [.ref a11, .ref a12, .int 2])), (a11, .inl (G.2 0, 240, .inl (upd (upd (fun _ => 0) 0 128) 1 255))), (a12, .inl (G.2 0, 240, .inl (upd (upd (f4) 0 8) 1 13))), (a0, .inr (11, [.ref a1, .ref a13, .int 0, .ref a14, .int 0, .int 0, .ref a2, .ref a15, .ref a16, .ref a6, .ref a17, .ref a8, .ref a18, .ref a19, .ref a20, .ref a21, .int 1, .int (-1), .int (-1), .int 1])), (a8, .inr (1, [.ref a1, .ref a15, .ref a6, .ref a29, .ref a10, .ref a30, .ref a31, .ref a32, .ref a33, .ref a34, .ref a35, .ref a9, .int 0, .int 0, .int 2, .int 0]))] := hD
  refine W.eq (g2 := F0 m 19 ls [.int 2]) rfl ?_
  exact pz_rz hx hb hr hlocks (by decide +kernel) hS (Nat.le_of_ble_eq_true rfl) (Nat.le_of_ble_eq_true rfl) dX11_compiled_19 g1 rfl (hP.sub [11, 0, 6, 1, 2, 3, 4, 5, 12, 7, 8, 9, 10] rfl) (hD.sub [11, 0, 6, 1, 2, 3, 4, 5, 12, 7, 8, 9, 10] rfl rfl)
set_option maxHeartbeats 4000000 in
set_option maxRecDepth 100000 in
theorem cL_compiled_1 (l : Launch) (hst : l.stackTraces = false) (G : pz_G) (X : Nat → Nat) (sz : Nat) (a0 : Nat) (a1 : Nat) (a2 : Nat) (a3 : Nat) (a4 : Nat) (a5 : Nat) (a6 : Nat) (a7 : Nat) (a8 : Nat) (a9 : Nat) (a10 : Nat) (a11 : Nat) (a12 : Nat) (a13 : Nat) (a14 : Nat) (a15 : Nat) (a16 : Nat) (a17 : Nat) (a18 : Nat) (a19 : Nat) (a20 : Nat) (a21 : Nat) (a22 : Nat) (a23 : Nat) (a24 : Nat) (a25 : Nat) (a26 : Nat) (a27 : Nat) (a28 : Nat) (a29 : Nat) (f0 : Nat → Int64) (f1 : Nat → Int64) (f2 : Nat → Int32) (a30 : Nat) (a31 : Nat) (a32 : Nat) (a33 : Nat) (a34 : Nat) (a35 : Nat) (a36 : Nat) (f3 : Nat → Int32) (f4 : Nat → Int32) (f5 : Nat → Int64) : pz_MR (S := (Nat → Int32)) l yL_compiled (pz_cw yL_compiled cL_compiled 3 (some .int) [(0, 8, 11, 29)]) 6 128 0 0 G X sz [(a0, .inr (11, [.ref a2, .ref a14, .int 0, .ref a15, .int 0, .int 0, .ref a3, .ref a16, .ref a17, .ref a7, .ref a18, .ref a9, .ref a19, .ref a20, .ref a21, .ref a22, .int 0, .int (-1), .int (-1), .int 0])), (a2, .inr (2, [.ref a23, .ref a24, .int 0])), (a3, .inr (5, [.ref a2, .ref a4, .ref a25, .ref a26, .ref a27, .ref a28, .ref a29, .int 0, .int 0, .int 0])), (a4, .inr (7, [.ref a5, .ref a6])), (a5, .inl (G.2 2, 121, .inr (.inl (f0)))), (a6, .inl (G.2 2, 121, .inr (.inl (f1)))), (a7, .inr (3, [.ref a2, .ref a3, .ref a8])), (a8, .inl (G.2 0, 120, .inl (f2))), (a9, .inr (1, [.ref a2, .ref a16, .ref a7, .ref a30, .ref a11, .ref a31, .ref a32, .ref a33, .ref a34, .ref a35, .ref a36, .ref a10, .int 0, .int 0, .int 0, .int 0])), (a10, .inl (G.2 0, 120, .inl (f3))), (a11, .inr (2, [.ref a12, .ref a13, .int 0])), (a12, .inl (G.2 0, 240, .inl (fun _ => 0))), (a13, .inl (G.2 0, 240, .inl (f4))), (a1, .inl (G.2 2, 1, .inr (.inl (f5))))] [.ref a0, .ref a1] (fun u => some (.int 0)) (fun u => [(a0, .inr (11, [.ref a2, .ref a14, .int 0, .ref a15, .int 0, .int 0, .ref a3, .ref a16, .ref a17, .ref a7, .ref a18, .ref a9, .ref a19, .ref a20, .ref a21, .ref a22, .int 1, .int (-1), .int (-1), .int 1])), (a2, .inr (2, [.ref a23, .ref a24, .int 0])), (a3, .inr (5, [.ref a2, .ref a4, .ref a25, .ref a26, .ref a27, .ref a28, .ref a29, .int 0, .int 0, .int 0])), (a4, .inr (7, [.ref a5, .ref a6])), (a5, .inl (G.2 2, 121, .inr (.inl (vp_updL (f0) 120 0)))), (a6, .inl (G.2 2, 121, .inr (.inl (vp_updL (f1) 120 0)))), (a7, .inr (3, [.ref a2, .ref a3, .ref a8])), (a8, .inl (G.2 0, 120, .inl (f2))), (a9, .inr (1, [.ref a2, .ref a16, .ref a7, .ref a30, .ref a11, .ref a31, .ref a32, .ref a33, .ref a34, .ref a35, .ref a36, .ref a10, .int 0, .int 0, .int 2, .int 0])), (a10, .inl (G.2 0, 120, .inl (upd (upd (upd (u) 117 255) 118 255) 119 255))), (a11, .inr (2, [.ref a12, .ref a13, .int 2])), (a12, .inl (G.2 0, 240, .inl (upd (upd (fun _ => 0) 0 128) 1 255))), (a13, .inl (G.2 0, 240, .inl (upd (upd (f4) 0 8) 1 13))), (a1, .inl (G.2 2, 1, .inr (.inl (vp_updL (f5) 0 2))))]) := by
  refine pz_onHR (by decide +kernel) (Nat.le_of_ble_eq_true rfl) ?_
  intro p e s m below meth c A hx hb hr hml hown hts hlocks hin hx0 hP hK hD hS hA hE ls hl
  have hown : s.vm.findClass "SourcewrightLaw" = some m.cls := hown
  have hl : lv_has ls 3 [(0, .ref a0), (1, .ref a1)] := hl
  refine lv_aload_n hx hb dL_compiled_0 rfl (lv_at hl 1 rfl) ?_
  refine lv_iconst (v := 0) hx hb dL_compiled_1 (by decide) ?_
  refine lv_aload_n hx hb dL_compiled_2 rfl (lv_at hl 0 rfl) ?_
  refine pz_go (wr := [(a1, .inl (G.2 2, 1, .inr (.inl (f5))))]) (vx_runV (C := "Sourcewright") (As := []) (rest := [.int 0, .ref a1]) ⟨hx, hb, hml, hown, hts⟩ (cX11_compiled_1 l hst G X s.heap.size a0 a2 a3 a4 a5 a6 a7 a8 a9 a10 a11 a12 a13 a14 a15 a16 a17 a18 a19 a20 a21 a22 a23 a24 a25 a26 a27 a28 a29 f0 f1 f2 a30 a31 a32 a33 a34 a35 a36 f3 f4) (cwV 0 hts (pz_gV wq_1676 wq_1677 wq_1678 wq_1 wq_1679) rfl rfl rfl (by decide +kernel) ⟨(Nat.le_of_ble_eq_true rfl), (Nat.le_of_ble_eq_true rfl)⟩) (pz_preV (C := ("Sourcewright", TX11, 20)) hK hP hD hS hA hE 0 (ci := 11) rfl rfl [0, 1, 2, 3, 4, 5, 6, 7, 8, 9, 10, 11, 12] rfl rfl) rfl rfl hl.1 rfl (lv_room (Nat.le_of_ble_eq_true rfl)) dL_compiled_3 ⟨(Nat.le_of_ble_eq_true rfl), (Nat.le_of_ble_eq_true rfl)⟩) hP hD hS hA [0, 1, 2, 3, 4, 5, 6, 7, 8, 9, 10, 11, 12] [13] rfl rfl rfl (by decide) (fun g1 H locs hP hD hS => ?_)
  have hP : va_P G.1 pz_cl [(a1, .inl (G.2 2, 1, .inr (.inl (f5)))), (a0, .inr (11, [.ref a2, .ref a14, .int 0, .ref a15, .int 0, .int 0, .ref a3, .ref a16, .ref a17, .ref a7, .ref a18, .ref a9, .ref a19, .ref a20, .ref a21, .ref a22, .int 1, .int (-1), .int (-1), .int 1])), (a2, .inr (2, [.ref a23, .ref a24, .int 0])), (a3, .inr (5, [.ref a2, .ref a4, .ref a25, .ref a26, .ref a27, .ref a28, .ref a29, .int 0, .int 0, .int 0])), (a4, .inr (7, [.ref a5, .ref a6])), (a5, .inl (G.2 2, 121, .inr (.inl (vp_updL (f0) 120 0)))), (a6, .inl (G.2 2, 121, .inr (.inl (vp_updL (f1) 120 0)))), (a7, .inr (3, [.ref a2, .ref a3, .ref a8])), (a8, .inl (G.2 0, 120, .inl (f2))), (a9, .inr (1, [.ref a2, .ref a16, .ref a7, .ref a30, .ref a11, .ref a31, .ref a32, .ref a33, .ref a34, .ref a35, .ref a36, .ref a10, .int 0, .int 0, .int 2, .int 0])), (a10, .inl (G.2 0, 120, .inl (upd (upd (upd (g1) 117 255) 118 255) 119 255))), (a11, .inr (2, [.ref a12, .ref a13, .int 2])), (a12, .inl (G.2 0, 240, .inl (upd (upd (fun _ => 0) 0 128) 1 255))), (a13, .inl (G.2 0, 240, .inl (upd (upd (f4) 0 8) 1 13)))] H := hP
  have hD : va_D A [(a1, .inl (G.2 2, 1, .inr (.inl (f5)))), (a0, .inr (11, [.ref a2, .ref a14, .int 0, .ref a15, .int 0, .int 0, .ref a3, .ref a16, .ref a17, .ref a7, .ref a18, .ref a9, .ref a19, .ref a20, .ref a21, .ref a22, .int 1, .int (-1), .int (-1), .int 1])), (a2, .inr (2, [.ref a23, .ref a24, .int 0])), (a3, .inr (5, [.ref a2, .ref a4, .ref a25, .ref a26, .ref a27, .ref a28, .ref a29, .int 0, .int 0, .int 0])), (a4, .inr (7, [.ref a5, .ref a6])), (a5, .inl (G.2 2, 121, .inr (.inl (vp_updL (f0) 120 0)))), (a6, .inl (G.2 2, 121, .inr (.inl (vp_updL (f1) 120 0)))), (a7, .inr (3, [.ref a2, .ref a3, .ref a8])), (a8, .inl (G.2 0, 120, .inl (f2))), (a9, .inr (1, [.ref a2, .ref a16, .ref a7, .ref a30, .ref a11, .ref a31, .ref a32, .ref a33, .ref a34, .ref a35, .ref a36, .ref a10, .int 0, .int 0, .int 2, .int 0])), (a10, .inl (G.2 0, 120, .inl (upd (upd (upd (g1) 117 255) 118 255) 119 255))), (a11, .inr (2, [.ref a12, .ref a13, .int 2])), (a12, .inl (G.2 0, 240, .inl (upd (upd (fun _ => 0) 0 128) 1 255))), (a13, .inl (G.2 0, 240, .inl (upd (upd (f4) 0 8) 1 13)))] := hD
  refine W.eq (g2 := F0 m 6 ls [.int 2, .int 0, .ref a1]) rfl ?_
  refine lv_i2l (v := 2) hx hb dL_compiled_6 (by decide) ?_
  refine va_last hx hb hK hP hD hS 0 2 rfl rfl (pz_vi rfl) dL_compiled_7 (fun H locs hP hD hS => ?_)
  have hP : va_P G.1 pz_cl [(a1, .inl (G.2 2, 1, .inr (.inl (vp_updL (f5) 0 2)))), (a0, .inr (11, [.ref a2, .ref a14, .int 0, .ref a15, .int 0, .int 0, .ref a3, .ref a16, .ref a17, .ref a7, .ref a18, .ref a9, .ref a19, .ref a20, .ref a21, .ref a22, .int 1, .int (-1), .int (-1), .int 1])), (a2, .inr (2, [.ref a23, .ref a24, .int 0])), (a3, .inr (5, [.ref a2, .ref a4, .ref a25, .ref a26, .ref a27, .ref a28, .ref a29, .int 0, .int 0, .int 0])), (a4, .inr (7, [.ref a5, .ref a6])), (a5, .inl (G.2 2, 121, .inr (.inl (vp_updL (f0) 120 0)))), (a6, .inl (G.2 2, 121, .inr (.inl (vp_updL (f1) 120 0)))), (a7, .inr (3, [.ref a2, .ref a3, .ref a8])), (a8, .inl (G.2 0, 120, .inl (f2))), (a9, .inr (1, [.ref a2, .ref a16, .ref a7, .ref a30, .ref a11, .ref a31, .ref a32, .ref a33, .ref a34, .ref a35, .ref a36, .ref a10, .int 0, .int 0, .int 2, .int 0])), (a10, .inl (G.2 0, 120, .inl (upd (upd (upd (g1) 117 255) 118 255) 119 255))), (a11, .inr (2, [.ref a12, .ref a13, .int 2])), (a12, .inl (G.2 0, 240, .inl (upd (upd (fun _ => 0) 0 128) 1 255))), (a13, .inl (G.2 0, 240, .inl (upd (upd (f4) 0 8) 1 13)))] H := hP
  have hD : va_D A [(a1, .inl (G.2 2, 1, .inr (.inl (vp_updL (f5) 0 2)))), (a0, .inr (11, [.ref a2, .ref a14, .int 0, .ref a15, .int 0, .int 0, .ref a3, .ref a16, .ref a17, .ref a7, .ref a18, .ref a9, .ref a19, .ref a20, .ref a21, .ref a22, .int 1, .int (-1), .int (-1), .int 1])), (a2, .inr (2, [.ref a23, .ref a24, .int 0])), (a3, .inr (5, [.ref a2, .ref a4, .ref a25, .ref a26, .ref a27, .ref a28, .ref a29, .int 0, .int 0, .int 0])), (a4, .inr (7, [.ref a5, .ref a6])), (a5, .inl (G.2 2, 121, .inr (.inl (vp_updL (f0) 120 0)))), (a6, .inl (G.2 2, 121, .inr (.inl (vp_updL (f1) 120 0)))), (a7, .inr (3, [.ref a2, .ref a3, .ref a8])), (a8, .inl (G.2 0, 120, .inl (f2))), (a9, .inr (1, [.ref a2, .ref a16, .ref a7, .ref a30, .ref a11, .ref a31, .ref a32, .ref a33, .ref a34, .ref a35, .ref a36, .ref a10, .int 0, .int 0, .int 2, .int 0])), (a10, .inl (G.2 0, 120, .inl (upd (upd (upd (g1) 117 255) 118 255) 119 255))), (a11, .inr (2, [.ref a12, .ref a13, .int 2])), (a12, .inl (G.2 0, 240, .inl (upd (upd (fun _ => 0) 0 128) 1 255))), (a13, .inl (G.2 0, 240, .inl (upd (upd (f4) 0 8) 1 13)))] := hD
  refine lv_goto (tgt := 14) hx hb dL_compiled_8 (by decide) ?_
  refine lv_iconst (v := 0) hx hb dL_compiled_14 (by decide) ?_
  exact pz_rz hx hb hr hlocks (by decide +kernel) hS (Nat.le_of_ble_eq_true rfl) (Nat.le_of_ble_eq_true rfl) dL_compiled_15 g1 rfl (hP.sub [1, 2, 3, 4, 5, 6, 7, 8, 9, 10, 11, 12, 13, 0] rfl) (hD.sub [1, 2, 3, 4, 5, 6, 7, 8, 9, 10, 11, 12, 13, 0] rfl rfl)
set_option maxHeartbeats 4000000 in
set_option maxRecDepth 100000 in
theorem cX13_numberOf_1 (l : Launch) (hst : l.stackTraces = false) (G : pz_G) (X : Nat → Nat) (sz : Nat) (a0 : Nat) (a1 : Nat) (a2 : Nat) (a3 : Nat) (a4 : Nat) : pz_MR (S := Unit) l yX13_numberOf (pz_cd yX13_numberOf cX13_numberOf 3 (some .int)) 1 20 0 0 G X sz [(a0, .inr (12, [.ref a2, .ref a3, .ref a4, .ref a1])), (a1, .inr (17, [.int 0, .ref (X 3), .int 0]))] [.ref a0, .int 0] (fun u => some (.int (-1))) (fun u => [(a0, .inr (12, [.ref a2, .ref a3, .ref a4, .ref a1])), (a1, .inr (17, [.int 0, .ref (X 3), .int 0]))]) := by
  refine pz_onR (by decide +kernel) (Nat.le_of_ble_eq_true rfl) ?_
  intro p e s m below meth c A hx hb hr hml hown hts hlocks hin hx0 hP hK hD hS hA hE ls hl
  have hown : s.vm.findClass "SourcewrightModel$Reading" = some m.cls := hown
  have hl : lv_has ls 3 [(0, .ref a0), (1, .int 0)] := hl
  refine lv_iconst (v := 0) hx hb dX13_numberOf_0 (by decide) ?_
  refine lv_istore_n (lv' := [(2, .int 0), (0, .ref a0), (1, .int 0)]) hx hb dX13_numberOf_1 rfl hl (by decide) rfl (fun ls hl => ?_)
  refine lv_iload_n hx hb dX13_numberOf_2 rfl (lv_at hl 0 rfl) ?_
  refine lv_aload_n hx hb dX13_numberOf_3 rfl (lv_at hl 1 rfl) ?_
  refine va_get (D := G.1) (ci := 12) (v := .ref a1) (C := "SourcewrightModel$Reading") (T := TX13) (N := 4) hx hb hts inX13 hown hK hP 0 rfl rfl 3 (by decide) (hts _ wq_2344) (fun _ h9 => h9) rfl dX13_numberOf_4 ?_
  refine pz_go (wr := [(a0, .inr (12, [.ref a2, .ref a3, .ref a4, .ref a1]))]) (vx_runV (C := "java/util/ArrayList") (As := []) (rest := [.int 0]) ⟨hx, hb, hml, hown, hts⟩ (cJx4a65c_size_8abf5_1 l hst G X s.heap.size a1) (cwV 0 hts (pz_gV wq_2148 wq_1847 wq_1848 wq_16 wq_1849) rfl rfl rfl (by decide +kernel) ⟨(Nat.le_of_ble_eq_true rfl), (Nat.le_of_ble_eq_true rfl)⟩) (pz_preV (C := ("java/util/ArrayList", TJx4a65c, 3)) hK hP hD hS hA hE 1 (ci := 17) rfl rfl [1] rfl rfl) rfl rfl hl.1 rfl (lv_room (Nat.le_of_ble_eq_true rfl)) dX13_numberOf_7 ⟨(Nat.le_of_ble_eq_true rfl), (Nat.le_of_ble_eq_true rfl)⟩) hP hD hS hA [1] [0] rfl rfl rfl (by decide) (fun u H locs hP hD hS => ?_)
  have hP : va_P G.1 pz_cl [(a0, .inr (12, [.ref a2, .ref a3, .ref a4, .ref a1])), (a1, .inr (17, [.int 0, .ref (X 3), .int 0]))] H := hP
  have hD : va_D A [(a0, .inr (12, [.ref a2, .ref a3, .ref a4, .ref a1])), (a1, .inr (17, [.int 0, .ref (X 3), .int 0]))] := hD
  refine W.eq (g2 := F0 m 10 ls [.int 0, .int 0]) rfl ?_
  refine lv_icmp_ge (tgt := 39) hx hb dX13_numberOf_10 (by decide) (fun _ => ?_) (fun hc => absurd hc (by decide))
  refine lv_iconst (v := (-1)) hx hb dX13_numberOf_39 (by decide) ?_
  exact pz_rz hx hb hr hlocks (by decide +kernel) hS (Nat.le_of_ble_eq_true rfl) (Nat.le_of_ble_eq_true rfl) dX13_numberOf_40 () rfl (hP.sub [0, 1] rfl) (hD.sub [0, 1] rfl rfl)
set_option maxHeartbeats 4000000 in
set_option maxRecDepth 100000 in
theorem cJ6_init_d00df_2 (l : Launch) (hst : l.stackTraces = false) (G : pz_G) (X : Nat → Nat) (sz : Nat) (a0 : Nat) : pz_MR (S := Unit) l yJ6_init_d00df (pz_cd yJ6_init_d00df cJ6_init_d00df 2 none) 2 32 0 0 G X sz [(a0, .inr (16, [.int 0]))] [.ref a0, .int 128] (fun u => none) (fun u => [(a0, .inr (16, [.int 128]))]) := by
  refine pz_onR (by decide +kernel) (Nat.le_of_ble_eq_true rfl) ?_
  intro p e s m below meth c A hx hb hr hml hown hts hlocks hin hx0 hP hK hD hS hA hE ls hl
  have hown : s.vm.findClass "java/lang/Integer" = some m.cls := hown
  have hl : lv_has ls 2 [(0, .ref a0), (1, .int 128)] := hl
  refine lv_aload_n hx hb dJ6_init_d00df_0 rfl (lv_at hl 0 rfl) ?_
  refine pz_go (wr := [(a0, .inr (16, [.int 0]))]) (vx_runI (As := []) (rest := []) ⟨hx, hb, hml, hown, hts⟩ (cJxd2413_init_da8c8_1 l hst G X s.heap.size a0) (cwI 0 hts (pz_gC wq_1864) rfl rfl rfl (hts _ wq_23) (hts _ wq_1862) (hts _ wq_1863) rfl (by decide +kernel) ⟨(Nat.le_of_ble_eq_true rfl), (Nat.le_of_ble_eq_true rfl)⟩) (pz_preS hK hP hD hS hA hE [] rfl rfl) rfl rfl hl.1 rfl (lv_room (Nat.le_of_ble_eq_true rfl)) dJ6_init_d00df_1 ⟨(Nat.le_of_ble_eq_true rfl), (Nat.le_of_ble_eq_true rfl)⟩) hP hD hS hA [] [0] rfl rfl rfl (by decide) (fun u H locs hP hD hS => ?_)
  have hP : va_P G.1 pz_cl [(a0, .inr (16, [.int 0]))] H := hP
  have hD : va_D A [(a0, .inr (16, [.int 0]))] := hD
  refine W.eq (g2 := F0 m 4 ls []) rfl ?_
  refine lv_aload_n hx hb dJ6_init_d00df_4 rfl (lv_at hl 0 rfl) ?_
  refine lv_iload_n hx hb dJ6_init_d00df_5 rfl (lv_at hl 1 rfl) ?_
  refine va_putF (D := G.1) (ci := 16) (v := .int 128) (ty := tyJ6 0) (C := "java/lang/Integer") (T := TJ6) (N := 1) hx hb hts inJ6 tyJ6 tyJ6_ok nmJ6 hown hK hP hD hS 0 rfl rfl 0 (by decide) (hts _ wq_1866) (fun _ h9 => h9) rfl hin rfl (by decide +kernel) rfl rfl (Nat.le_of_ble_eq_true rfl) dJ6_init_d00df_6 (fun H locs hP hD hS => ?_)
  have hP : va_P G.1 pz_cl [(a0, .inr (16, [.int 128]))] H := hP
  have hD : va_D A [(a0, .inr (16, [.int 128]))] := hD
  exact pz_rv hx hb hr hlocks hS (Nat.le_of_ble_eq_true rfl) (Nat.le_of_ble_eq_true rfl) dJ6_init_d00df_9 () rfl (hP.sub [0] rfl) (hD.sub [0] rfl rfl)
set_option maxHeartbeats 4000000 in
set_option maxRecDepth 100000 in
theorem cJ6_valueOf_2dffe_4 (l : Launch) (hst : l.stackTraces = false) (G : pz_G) (X : Nat → Nat) (sz : Nat) : pz_MR (S := Nat) l yJ6_valueOf_2dffe (pz_cd yJ6_valueOf_2dffe cJ6_valueOf_2dffe 1 (some (.object "java/lang/Integer"))) 3 53 1 1 G X sz [] [.int 128] (fun u => some (.ref u)) (fun u => [(u, .inr (16, [.int 128]))]) := by
  refine pz_onR (by decide +kernel) (Nat.le_of_ble_eq_true rfl) ?_
  intro p e s m below meth c A hx hb hr hml hown hts hlocks hin hx0 hP hK hD hS hA hE ls hl
  have hown : s.vm.findClass "java/lang/Integer" = some m.cls := hown
  have hl : lv_has ls 1 [(0, .int 128)] := hl
  refine lv_iload_n hx hb dJ6_valueOf_2dffe_0 rfl (lv_at hl 0 rfl) ?_
  refine lv_bipush (v := (-128)) hx hb dJ6_valueOf_2dffe_1 (by decide) ?_
  refine lv_icmp_lt (tgt := 23) hx hb dJ6_valueOf_2dffe_3 (by decide) (fun hc => absurd hc (by decide)) (fun _ => ?_)
  refine lv_iload_n hx hb dJ6_valueOf_2dffe_6 rfl (lv_at hl 0 rfl) ?_
  refine va_gets hx hb hE.2.2.2.2.1.1 hS hown (hts _ wq_1853) (fun _ h9 => h9) dJ6_valueOf_2dffe_7 ?_
  refine lv_icmp_gt (tgt := 23) hx hb dJ6_valueOf_2dffe_10 (by decide) (fun _ => ?_) (fun hc => absurd hc (by decide))
  refine va_new (ci := 16) (fs := [.int 0]) (C := "java/lang/Integer") (T := TJ6) (N := 1) hx hb hts inJ6 tyJ6 tyJ6_ok hown (hts _ wq_1857) (hts _ wq_1858) (hts _ wq_24) hK hP hD hS hA rfl (pz_dfJ6) (Nat.le_of_ble_eq_true rfl) (Nat.le_of_ble_eq_true rfl) dJ6_valueOf_2dffe_23 (fun q1 H hP hD hS => ?_)
  have hP : va_P G.1 pz_cl [(q1, .inr (16, [.int 0]))] H := hP
  have hD : va_D A [(q1, .inr (16, [.int 0]))] := hD
  refine lv_dup hx hb dJ6_valueOf_2dffe_26 rfl ?_
  refine lv_iload_n hx hb dJ6_valueOf_2dffe_27 rfl (lv_at hl 0 rfl) ?_
  refine pz_go (wr := []) (vx_runI (As := [.int 128]) (rest := [.ref q1]) ⟨hx, hb, hml, hown, hts⟩ (cJ6_init_d00df_2 l hst G X H.size q1) (cwI 1 hts (pz_gC wq_1861) rfl rfl rfl (hts _ wq_24) (hts _ wq_1859) (hts _ wq_1860) rfl (by decide +kernel) ⟨(Nat.le_of_ble_eq_true rfl), (Nat.le_of_ble_eq_true rfl)⟩) (pz_preS hK hP hD hS hA hE [0] rfl rfl) rfl rfl hl.1 rfl (lv_room (Nat.le_of_ble_eq_true rfl)) dJ6_valueOf_2dffe_28 ⟨(Nat.le_of_ble_eq_true rfl), (Nat.le_of_ble_eq_true rfl)⟩) hP hD hS hA [0] [] rfl rfl rfl (by decide) (fun u H locs hP hD hS => ?_)
  have hP : va_P G.1 pz_cl [(q1, .inr (16, [.int 128]))] H := hP
  have hD : va_D A [(q1, .inr (16, [.int 128]))] := hD
  refine W.eq (g2 := F0 m 31 ls [.ref q1]) rfl ?_
  exact pz_ra hx hb hr hlocks (Or.inl ⟨_, rfl⟩) (Or.inr ⟨_, rfl⟩) hS (Nat.le_of_ble_eq_true rfl) (Nat.le_of_ble_eq_true rfl) dJ6_valueOf_2dffe_31 q1 rfl (hP.sub [0] rfl) (hD.sub [0] rfl rfl)
set_option maxHeartbeats 4000000 in
set_option maxRecDepth 100000 in
theorem cJx4a65c_grow_92f84_2 (l : Launch) (hst : l.stackTraces = false) (G : pz_G) (X : Nat → Nat) (sz : Nat) (a0 : Nat) : pz_MR (S := Nat) l yJx4a65c_grow_92f84 (pz_cd yJx4a65c_grow_92f84 cJx4a65c_grow_92f84 4 (some (.array (.object "java/lang/Object")))) 1 14 1 10 G X sz [(a0, .inr (17, [.int 2, .ref (X 3), .int 0]))] [.ref a0, .int 1] (fun u => some (.ref u)) (fun u => [(a0, .inr (17, [.int 2, .ref u, .int 0])), (u, .inl (G.2 5, 10, .inr (.inr (.inr (.inr (fun _ => none))))))]) := by
  refine pz_onR (by decide +kernel) (Nat.le_of_ble_eq_true rfl) ?_
  intro p e s m below meth c A hx hb hr hml hown hts hlocks hin hx0 hP hK hD hS hA hE ls hl
  have hown : s.vm.findClass "java/util/ArrayList" = some m.cls := hown
  have hl : lv_has ls 4 [(0, .ref a0), (1, .int 1)] := hl
  refine lv_aload_n hx hb dJx4a65c_grow_92f84_0 rfl (lv_at hl 0 rfl) ?_
  refine va_get (D := G.1) (ci := 17) (v := .ref (X 3)) (C := "java/util/ArrayList") (T := TJx4a65c) (N := 3) hx hb hts inJx4a65c hown hK hP 0 rfl rfl 1 (by decide) (hts _ wq_1798) (fun _ h9 => h9) rfl dJx4a65c_grow_92f84_1 ?_
  refine va_tlen (v := 0) hx hb hE.2.2.2.1.2.1 hS (by decide) dJx4a65c_grow_92f84_4 ?_
  refine lv_istore_n (lv' := [(2, .int 0), (0, .ref a0), (1, .int 1)]) hx hb dJx4a65c_grow_92f84_5 rfl hl (by decide) rfl (fun ls hl => ?_)
  refine lv_iload_n hx hb dJx4a65c_grow_92f84_6 rfl (lv_at hl 0 rfl) ?_
  refine lv_if_gt (tgt := 20) hx hb dJx4a65c_grow_92f84_7 (by decide) (fun hc => absurd hc (by decide)) (fun _ => ?_)
  refine lv_aload_n hx hb dJx4a65c_grow_92f84_10 rfl (lv_at hl 1 rfl) ?_
  refine va_get (D := G.1) (ci := 17) (v := .ref (X 3)) (C := "java/util/ArrayList") (T := TJx4a65c) (N := 3) hx hb hts inJx4a65c hown hK hP 0 rfl rfl 1 (by decide) (hts _ wq_1798) (fun _ h9 => h9) rfl dJx4a65c_grow_92f84_11 ?_
  refine va_gets hx hb hE.2.2.2.1.1 hS hown (hts _ wq_1796) (fun _ h9 => h9) dJx4a65c_grow_92f84_14 ?_
  refine lv_acmp_eq (rx := (some (X 3))) (ry := (some (X 3))) (tgt := 45) hx hb dJx4a65c_grow_92f84_17 (by decide) (fun _ => ?_) (fun hc => absurd rfl hc)
  refine lv_aload_n hx hb dJx4a65c_grow_92f84_45 rfl (lv_at hl 1 rfl) ?_
  refine lv_bipush (v := 10) hx hb dJx4a65c_grow_92f84_46 (by decide) ?_
  refine lv_iload_n hx hb dJx4a65c_grow_92f84_48 rfl (lv_at hl 2 rfl) ?_
  refine va_mmax hx hb (hml.trans hl.1.symm) hown (hts _ wq_1939) (hts _ wq_884) (hts _ wq_22) (hts _ wq_885) (Nat.le_of_ble_eq_true rfl) (Nat.le_of_ble_eq_true rfl) (Nat.le_of_ble_eq_true rfl) (Nat.le_of_ble_eq_true rfl) dJx4a65c_grow_92f84_49 (pz_K (y := 10) (by decide) ?_)
  refine va_newq (N' := 10) hx hb hown (hts _ wq_1940) hE.2.2.2.2.2.2.2.2.2.2.1 hK hP hD hS hA (by decide) (by decide) (Nat.le_of_ble_eq_true rfl) (Nat.le_of_ble_eq_true rfl) (Nat.le_of_ble_eq_true rfl) dJx4a65c_grow_92f84_52 (fun q1 cA H hK hP hD hS => ?_)
  obtain rfl : cA = G.2 5 := pz_tyO hK 7 5 rfl rfl
  have hK : va_K G.1 pz_cl (pz_T G) s := hK.sub [0, 1, 2, 3, 4, 5, 6] rfl
  have hP : va_P G.1 pz_cl [(a0, .inr (17, [.int 2, .ref (X 3), .int 0])), (q1, .inl (G.2 5, 10, .inr (.inr (.inr (.inr (fun _ => none))))))] H := hP
  have hD : va_D A [(a0, .inr (17, [.int 2, .ref (X 3), .int 0])), (q1, .inl (G.2 5, 10, .inr (.inr (.inr (.inr (fun _ => none))))))] := hD
  refine lv_dup_x1 hx hb dJx4a65c_grow_92f84_55 rfl rfl ?_
  refine va_put (D := G.1) (ci := 17) (v := .ref q1) (ty := tyJx4a65c 1) (C := "java/util/ArrayList") (T := TJx4a65c) (N := 3) hx hb hts inJx4a65c tyJx4a65c tyJx4a65c_ok nmJx4a65c hown hK hP hD hS 0 rfl rfl 1 (by decide) (hts _ wq_1798) (fun _ h9 => h9) rfl (by decide +kernel) rfl rfl (Nat.le_of_ble_eq_true rfl) dJx4a65c_grow_92f84_56 (fun H locs hP hD hS => ?_)
  have hP : va_P G.1 pz_cl [(a0, .inr (17, [.int 2, .ref q1, .int 0])), (q1, .inl (G.2 5, 10, .inr (.inr (.inr (.inr (fun _ => none))))))] H := hP
  have hD : va_D A [(a0, .inr (17, [.int 2, .ref q1, .int 0])), (q1, .inl (G.2 5, 10, .inr (.inr (.inr (.inr (fun _ => none))))))] := hD
  exact pz_ra hx hb hr hlocks (Or.inr ⟨_, rfl⟩) (Or.inr ⟨_, rfl⟩) hS (Nat.le_of_ble_eq_true rfl) (Nat.le_of_ble_eq_true rfl) dJx4a65c_grow_92f84_59 q1 rfl (hP.sub [0, 1] rfl) (hD.sub [0, 1] rfl rfl)
set_option maxHeartbeats 4000000 in
set_option maxRecDepth 100000 in
theorem cJx4a65c_grow_d5877_2 (l : Launch) (hst : l.stackTraces = false) (G : pz_G) (X : Nat → Nat) (sz : Nat) (a0 : Nat) : pz_MR (S := Nat) l yJx4a65c_grow_d5877 (pz_cd yJx4a65c_grow_d5877 cJx4a65c_grow_d5877 1 (some (.array (.object "java/lang/Object")))) 2 37 1 10 G X sz [(a0, .inr (17, [.int 2, .ref (X 3), .int 0]))] [.ref a0] (fun u => some (.ref u)) (fun u => [(a0, .inr (17, [.int 2, .ref u, .int 0])), (u, .inl (G.2 5, 10, .inr (.inr (.inr (.inr (fun _ => none))))))]) := by
  refine pz_onR (by decide +kernel) (Nat.le_of_ble_eq_true rfl) ?_
  intro p e s m below meth c A hx hb hr hml hown hts hlocks hin hx0 hP hK hD hS hA hE ls hl
  have hown : s.vm.findClass "java/util/ArrayList" = some m.cls := hown
  have hl : lv_has ls 1 [(0, .ref a0)] := hl
  refine lv_aload_n hx hb dJx4a65c_grow_d5877_0 rfl (lv_at hl 0 rfl) ?_
  refine lv_aload_n hx hb dJx4a65c_grow_d5877_1 rfl (lv_at hl 0 rfl) ?_
  refine va_get (D := G.1) (ci := 17) (v := .int 0) (C := "java/util/ArrayList") (T := TJx4a65c) (N := 3) hx hb hts inJx4a65c hown hK hP 0 rfl rfl 2 (by decide) (hts _ wq_1801) (fun _ h9 => h9) rfl dJx4a65c_grow_d5877_2 ?_
  refine lv_iconst (v := 1) hx hb dJx4a65c_grow_d5877_5 (by decide) ?_
  refine lv_iadd hx hb dJx4a65c_grow_d5877_6 (pz_K (y := 1) (by decide) ?_)
  refine pz_go (wr := []) (vx_runV (C := "java/util/ArrayList") (As := [.int 1]) (rest := []) ⟨hx, hb, hml, hown, hts⟩ (cJx4a65c_grow_92f84_2 l hst G X s.heap.size a0) (cwV 1 hts (pz_gV wq_1882 wq_1884 wqs_86 wq_16 wq_1885) rfl rfl rfl (by decide +kernel) ⟨(Nat.le_of_ble_eq_true rfl), (Nat.le_of_ble_eq_true rfl)⟩) (pz_preV (C := ("java/util/ArrayList", TJx4a65c, 3)) hK hP hD hS hA hE 0 (ci := 17) rfl rfl [0] rfl rfl) rfl rfl hl.1 rfl (lv_room (Nat.le_of_ble_eq_true rfl)) dJx4a65c_grow_d5877_7 ⟨(Nat.le_of_ble_eq_true rfl), (Nat.le_of_ble_eq_true rfl)⟩) hP hD hS hA [0] [] rfl rfl rfl (by decide) (fun q1 H locs hP hD hS => ?_)
  have hP : va_P G.1 pz_cl [(a0, .inr (17, [.int 2, .ref q1, .int 0])), (q1, .inl (G.2 5, 10, .inr (.inr (.inr (.inr (fun _ => none))))))] H := hP
  have hD : va_D A [(a0, .inr (17, [.int 2, .ref q1, .int 0])), (q1, .inl (G.2 5, 10, .inr (.inr (.inr (.inr (fun _ => none))))))] := hD
  refine W.eq (g2 := F0 m 10 ls [.ref q1]) rfl ?_
  exact pz_ra hx hb hr hlocks (Or.inr ⟨_, rfl⟩) (Or.inr ⟨_, rfl⟩) hS (Nat.le_of_ble_eq_true rfl) (Nat.le_of_ble_eq_true rfl) dJx4a65c_grow_d5877_10 q1 rfl (hP.sub [0, 1] rfl) (hD.sub [0, 1] rfl rfl)
set_option maxHeartbeats 4000000 in
set_option maxRecDepth 100000 in
theorem cJx4a65c_add_72be8_4 (l : Launch) (hst : l.stackTraces = false) (G : pz_G) (X : Nat → Nat) (sz : Nat) (a0 : Nat) (a1 : Nat) : pz_MR (S := Nat) l yJx4a65c_add_72be8 (pz_cd yJx4a65c_add_72be8 cJx4a65c_add_72be8 4 none) 3 57 1 10 G X sz [(a0, .inr (17, [.int 2, .ref (X 3), .int 0])), (a1, .inr (16, [.int 128]))] [.ref a0, .ref a1, .ref (X 3), .int 0] (fun u => none) (fun u => [(a0, .inr (17, [.int 2, .ref u, .int 1])), (a1, .inr (16, [.int 128])), (u, .inl (G.2 5, 10, .inr (.inr (.inr (.inr (va_up (fun _ => none) 0 (some a1)))))))]) := by
  refine pz_onR (by decide +kernel) (Nat.le_of_ble_eq_true rfl) ?_
  intro p e s m below meth c A hx hb hr hml hown hts hlocks hin hx0 hP hK hD hS hA hE ls hl
  have hown : s.vm.findClass "java/util/ArrayList" = some m.cls := hown
  have hl : lv_has ls 4 [(0, .ref a0), (1, .ref a1), (2, .ref (X 3)), (3, .int 0)] := hl
  refine lv_iload_n hx hb dJx4a65c_add_72be8_0 rfl (lv_at hl 3 rfl) ?_
  refine lv_aload_n hx hb dJx4a65c_add_72be8_1 rfl (lv_at hl 2 rfl) ?_
  refine va_tlen (v := 0) hx hb hE.2.2.2.1.2.1 hS (by decide) dJx4a65c_add_72be8_2 ?_
  refine lv_icmp_ne (tgt := 11) hx hb dJx4a65c_add_72be8_3 (by decide) (fun hc => absurd hc (by decide)) (fun _ => ?_)
  refine lv_aload_n hx hb dJx4a65c_add_72be8_6 rfl (lv_at hl 0 rfl) ?_
  refine pz_go (wr := [(a1, .inr (16, [.int 128]))]) (vx_runV (C := "java/util/ArrayList") (As := []) (rest := []) ⟨hx, hb, hml, hown, hts⟩ (cJx4a65c_grow_d5877_2 l hst G X s.heap.size a0) (cwV 0 hts (pz_gV wq_1878 wq_1880 wqs_85 wq_16 wq_1881) rfl rfl rfl (by decide +kernel) ⟨(Nat.le_of_ble_eq_true rfl), (Nat.le_of_ble_eq_true rfl)⟩) (pz_preV (C := ("java/util/ArrayList", TJx4a65c, 3)) hK hP hD hS hA hE 0 (ci := 17) rfl rfl [0] rfl rfl) rfl rfl hl.1 rfl (lv_room (Nat.le_of_ble_eq_true rfl)) dJx4a65c_add_72be8_7 ⟨(Nat.le_of_ble_eq_true rfl), (Nat.le_of_ble_eq_true rfl)⟩) hP hD hS hA [0] [1] rfl rfl rfl (by decide) (fun q1 H locs hP hD hS => ?_)
  have hP : va_P G.1 pz_cl [(a1, .inr (16, [.int 128])), (a0, .inr (17, [.int 2, .ref q1, .int 0])), (q1, .inl (G.2 5, 10, .inr (.inr (.inr (.inr (fun _ => none))))))] H := hP
  have hD : va_D A [(a1, .inr (16, [.int 128])), (a0, .inr (17, [.int 2, .ref q1, .int 0])), (q1, .inl (G.2 5, 10, .inr (.inr (.inr (.inr (fun _ => none))))))] := hD
  refine W.eq (g2 := F0 m 10 ls [.ref q1]) rfl ?_
  refine lv_astore_n (lv' := [(2, .ref q1), (0, .ref a0), (1, .ref a1), (3, .int 0)]) hx hb dJx4a65c_add_72be8_10 rfl hl (by decide) rfl (fun ls hl => ?_)
  refine lv_aload_n hx hb dJx4a65c_add_72be8_11 rfl (lv_at hl 0 rfl) ?_
  refine lv_iload_n hx hb dJx4a65c_add_72be8_12 rfl (lv_at hl 3 rfl) ?_
  refine lv_aload_n hx hb dJx4a65c_add_72be8_13 rfl (lv_at hl 2 rfl) ?_
  refine vb_astq (E := "java/lang/Object") (C := "java/lang/Integer") hx hb hK hP hD hS 2 5 rfl rfl (va_recv hK hP (ci := 16) (q0 := 0) rfl rfl) (vb_asgC (hE.2.2.2.2.2.2.2.2.1 _ nx_3213)) (pz_vi rfl) dJx4a65c_add_72be8_14 (fun H locs hP hD hS => ?_)
  have hP : va_P G.1 pz_cl [(a1, .inr (16, [.int 128])), (a0, .inr (17, [.int 2, .ref q1, .int 0])), (q1, .inl (G.2 5, 10, .inr (.inr (.inr (.inr (va_up (fun _ => none) 0 (some a1)))))))] H := hP
  have hD : va_D A [(a1, .inr (16, [.int 128])), (a0, .inr (17, [.int 2, .ref q1, .int 0])), (q1, .inl (G.2 5, 10, .inr (.inr (.inr (.inr (va_up (fun _ => none) 0 (some a1)))))))] := hD
  refine lv_aload_n hx hb dJx4a65c_add_72be8_15 rfl (lv_at hl 1 rfl) ?_
  refine lv_iload_n hx hb dJx4a65c_add_72be8_16 rfl (lv_at hl 3 rfl) ?_
  refine lv_iconst (v := 1) hx hb dJx4a65c_add_72be8_17 (by decide) ?_
  refine lv_iadd hx hb dJx4a65c_add_72be8_18 (pz_K (y := 1) (by decide) ?_)
  refine va_put (D := G.1) (ci := 17) (v := .int 1) (ty := tyJx4a65c 2) (C := "java/util/ArrayList") (T := TJx4a65c) (N := 3) hx hb hts inJx4a65c tyJx4a65c tyJx4a65c_ok nmJx4a65c hown hK hP hD hS 1 rfl rfl 2 (by decide) (hts _ wq_1801) (fun _ h9 => h9) rfl (by decide +kernel) rfl rfl (Nat.le_of_ble_eq_true rfl) dJx4a65c_add_72be8_19 (fun H locs hP hD hS => ?_)
  have hP : va_P G.1 pz_cl [(a1, .inr (16, [.int 128])), (a0, .inr (17, [.int 2, .ref q1, .int 1])), (q1, .inl (G.2 5, 10, .inr (.inr (.inr (.inr (va_up (fun _ => none) 0 (some a1)))))))] H := hP
  have hD : va_D A [(a1, .inr (16, [.int 128])), (a0, .inr (17, [.int 2, .ref q1, .int 1])), (q1, .inl (G.2 5, 10, .inr (.inr (.inr (.inr (va_up (fun _ => none) 0 (some a1)))))))] := hD
  exact pz_rv hx hb hr hlocks hS (Nat.le_of_ble_eq_true rfl) (Nat.le_of_ble_eq_true rfl) dJx4a65c_add_72be8_22 q1 rfl (hP.sub [1, 0, 2] rfl) (hD.sub [1, 0, 2] rfl rfl)
set_option maxHeartbeats 4000000 in
set_option maxRecDepth 100000 in
theorem cJx4a65c_add_9ea2d_4 (l : Launch) (hst : l.stackTraces = false) (G : pz_G) (X : Nat → Nat) (sz : Nat) (a0 : Nat) (a1 : Nat) : pz_MR (S := Nat) l yJx4a65c_add_9ea2d (pz_cd yJx4a65c_add_9ea2d cJx4a65c_add_9ea2d 2 (some .boolean)) 4 80 1 10 G X sz [(a0, .inr (17, [.int 1, .ref (X 3), .int 0])), (a1, .inr (16, [.int 128]))] [.ref a0, .ref a1] (fun u => some (.int 1)) (fun u => [(a0, .inr (17, [.int 2, .ref u, .int 1])), (a1, .inr (16, [.int 128])), (u, .inl (G.2 5, 10, .inr (.inr (.inr (.inr (va_up (fun _ => none) 0 (some a1)))))))]) := by
  refine pz_onR (by decide +kernel) (Nat.le_of_ble_eq_true rfl) ?_
  intro p e s m below meth c A hx hb hr hml hown hts hlocks hin hx0 hP hK hD hS hA hE ls hl
  have hown : s.vm.findClass "java/util/ArrayList" = some m.cls := hown
  have hl : lv_has ls 2 [(0, .ref a0), (1, .ref a1)] := hl
  refine lv_aload_n hx hb dJx4a65c_add_9ea2d_0 rfl (lv_at hl 0 rfl) ?_
  refine lv_dup hx hb dJx4a65c_add_9ea2d_1 rfl ?_
  refine va_get (D := G.1) (ci := 17) (v := .int 1) (C := "java/util/ArrayList") (T := TJx4a65c) (N := 3) hx hb hts inJx4a65c hown hK hP 0 rfl rfl 0 (by decide) (hts _ wq_1805) (fun x9 h9 => u_same (hts _ wq_1804) x9 h9) rfl dJx4a65c_add_9ea2d_2 ?_
  refine lv_iconst (v := 1) hx hb dJx4a65c_add_9ea2d_5 (by decide) ?_
  refine lv_iadd hx hb dJx4a65c_add_9ea2d_6 (pz_K (y := 2) (by decide) ?_)
  refine va_put (D := G.1) (ci := 17) (v := .int 2) (ty := tyJx4a65c 0) (C := "java/util/ArrayList") (T := TJx4a65c) (N := 3) hx hb hts inJx4a65c tyJx4a65c tyJx4a65c_ok nmJx4a65c hown hK hP hD hS 0 rfl rfl 0 (by decide) (hts _ wq_1805) (fun x9 h9 => u_same (hts _ wq_1804) x9 h9) rfl (by decide +kernel) rfl rfl (Nat.le_of_ble_eq_true rfl) dJx4a65c_add_9ea2d_7 (fun H locs hP hD hS => ?_)
  have hP : va_P G.1 pz_cl [(a0, .inr (17, [.int 2, .ref (X 3), .int 0])), (a1, .inr (16, [.int 128]))] H := hP
  have hD : va_D A [(a0, .inr (17, [.int 2, .ref (X 3), .int 0])), (a1, .inr (16, [.int 128]))] := hD
  refine lv_aload_n hx hb dJx4a65c_add_9ea2d_10 rfl (lv_at hl 0 rfl) ?_
  refine lv_aload_n hx hb dJx4a65c_add_9ea2d_11 rfl (lv_at hl 1 rfl) ?_
  refine lv_aload_n hx hb dJx4a65c_add_9ea2d_12 rfl (lv_at hl 0 rfl) ?_
  refine va_get (D := G.1) (ci := 17) (v := .ref (X 3)) (C := "java/util/ArrayList") (T := TJx4a65c) (N := 3) hx hb hts inJx4a65c hown hK hP 0 rfl rfl 1 (by decide) (hts _ wq_1798) (fun _ h9 => h9) rfl dJx4a65c_add_9ea2d_13 ?_
  refine lv_aload_n hx hb dJx4a65c_add_9ea2d_16 rfl (lv_at hl 0 rfl) ?_
  refine va_get (D := G.1) (ci := 17) (v := .int 0) (C := "java/util/ArrayList") (T := TJx4a65c) (N := 3) hx hb hts inJx4a65c hown hK hP 0 rfl rfl 2 (by decide) (hts _ wq_1801) (fun _ h9 => h9) rfl dJx4a65c_add_9ea2d_17 ?_
  refine pz_go (wr := []) (vx_runV (C := "java/util/ArrayList") (As := [.ref a1, .ref (X 3), .int 0]) (rest := []) ⟨hx, hb, hml, hown, hts⟩ (cJx4a65c_add_72be8_4 l hst G X H.size a0 a1) (cwV 3 hts (pz_gV wq_1874 wq_1876 wqs_84 wq_16 wq_1877) rfl rfl rfl (by decide +kernel) ⟨(Nat.le_of_ble_eq_true rfl), (Nat.le_of_ble_eq_true rfl)⟩) (pz_preV (C := ("java/util/ArrayList", TJx4a65c, 3)) hK hP hD hS hA hE 0 (ci := 17) rfl rfl [0, 1] rfl rfl) rfl rfl hl.1 rfl (lv_room (Nat.le_of_ble_eq_true rfl)) dJx4a65c_add_9ea2d_20 ⟨(Nat.le_of_ble_eq_true rfl), (Nat.le_of_ble_eq_true rfl)⟩) hP hD hS hA [0, 1] [] rfl rfl rfl (by decide) (fun q1 H locs hP hD hS => ?_)
  have hP : va_P G.1 pz_cl [(a0, .inr (17, [.int 2, .ref q1, .int 1])), (a1, .inr (16, [.int 128])), (q1, .inl (G.2 5, 10, .inr (.inr (.inr (.inr (va_up (fun _ => none) 0 (some a1)))))))] H := hP
  have hD : va_D A [(a0, .inr (17, [.int 2, .ref q1, .int 1])), (a1, .inr (16, [.int 128])), (q1, .inl (G.2 5, 10, .inr (.inr (.inr (.inr (va_up (fun _ => none) 0 (some a1)))))))] := hD
  refine W.eq (g2 := F0 m 23 ls []) rfl ?_
  refine lv_iconst (v := 1) hx hb dJx4a65c_add_9ea2d_23 (by decide) ?_
  exact pz_rz hx hb hr hlocks (by decide +kernel) hS (Nat.le_of_ble_eq_true rfl) (Nat.le_of_ble_eq_true rfl) dJx4a65c_add_9ea2d_24 q1 rfl (hP.sub [0, 1, 2] rfl) (hD.sub [0, 1, 2] rfl rfl)
set_option maxHeartbeats 4000000 in
set_option maxRecDepth 100000 in
theorem cJ6_init_d00df_3 (l : Launch) (hst : l.stackTraces = false) (G : pz_G) (X : Nat → Nat) (sz : Nat) (a0 : Nat) : pz_MR (S := Unit) l yJ6_init_d00df (pz_cd yJ6_init_d00df cJ6_init_d00df 2 none) 2 32 0 0 G X sz [(a0, .inr (16, [.int 0]))] [.ref a0, .int 255] (fun u => none) (fun u => [(a0, .inr (16, [.int 255]))]) := by
  refine pz_onR (by decide +kernel) (Nat.le_of_ble_eq_true rfl) ?_
  intro p e s m below meth c A hx hb hr hml hown hts hlocks hin hx0 hP hK hD hS hA hE ls hl
  have hown : s.vm.findClass "java/lang/Integer" = some m.cls := hown
  have hl : lv_has ls 2 [(0, .ref a0), (1, .int 255)] := hl
  refine lv_aload_n hx hb dJ6_init_d00df_0 rfl (lv_at hl 0 rfl) ?_
  refine pz_go (wr := [(a0, .inr (16, [.int 0]))]) (vx_runI (As := []) (rest := []) ⟨hx, hb, hml, hown, hts⟩ (cJxd2413_init_da8c8_1 l hst G X s.heap.size a0) (cwI 0 hts (pz_gC wq_1864) rfl rfl rfl (hts _ wq_23) (hts _ wq_1862) (hts _ wq_1863) rfl (by decide +kernel) ⟨(Nat.le_of_ble_eq_true rfl), (Nat.le_of_ble_eq_true rfl)⟩) (pz_preS hK hP hD hS hA hE [] rfl rfl) rfl rfl hl.1 rfl (lv_room (Nat.le_of_ble_eq_true rfl)) dJ6_init_d00df_1 ⟨(Nat.le_of_ble_eq_true rfl), (Nat.le_of_ble_eq_true rfl)⟩) hP hD hS hA [] [0] rfl rfl rfl (by decide) (fun u H locs hP hD hS => ?_)
  have hP : va_P G.1 pz_cl [(a0, .inr (16, [.int 0]))] H := hP
  have hD : va_D A [(a0, .inr (16, [.int 0]))] := hD
  refine W.eq (g2 := F0 m 4 ls []) rfl ?_
  refine lv_aload_n hx hb dJ6_init_d00df_4 rfl (lv_at hl 0 rfl) ?_
  refine lv_iload_n hx hb dJ6_init_d00df_5 rfl (lv_at hl 1 rfl) ?_
  refine va_putF (D := G.1) (ci := 16) (v := .int 255) (ty := tyJ6 0) (C := "java/lang/Integer") (T := TJ6) (N := 1) hx hb hts inJ6 tyJ6 tyJ6_ok nmJ6 hown hK hP hD hS 0 rfl rfl 0 (by decide) (hts _ wq_1866) (fun _ h9 => h9) rfl hin rfl (by decide +kernel) rfl rfl (Nat.le_of_ble_eq_true rfl) dJ6_init_d00df_6 (fun H locs hP hD hS => ?_)
  have hP : va_P G.1 pz_cl [(a0, .inr (16, [.int 255]))] H := hP
  have hD : va_D A [(a0, .inr (16, [.int 255]))] := hD
  exact pz_rv hx hb hr hlocks hS (Nat.le_of_ble_eq_true rfl) (Nat.le_of_ble_eq_true rfl) dJ6_init_d00df_9 () rfl (hP.sub [0] rfl) (hD.sub [0] rfl rfl)
set_option maxHeartbeats 4000000 in
set_option maxRecDepth 100000 in
theorem cJ6_valueOf_2dffe_5 (l : Launch) (hst : l.stackTraces = false) (G : pz_G) (X : Nat → Nat) (sz : Nat) : pz_MR (S := Nat) l yJ6_valueOf_2dffe (pz_cd yJ6_valueOf_2dffe cJ6_valueOf_2dffe 1 (some (.object "java/lang/Integer"))) 3 53 1 1 G X sz [] [.int 255] (fun u => some (.ref u)) (fun u => [(u, .inr (16, [.int 255]))]) := by
  refine pz_onR (by decide +kernel) (Nat.le_of_ble_eq_true rfl) ?_
  intro p e s m below meth c A hx hb hr hml hown hts hlocks hin hx0 hP hK hD hS hA hE ls hl
  have hown : s.vm.findClass "java/lang/Integer" = some m.cls := hown
  have hl : lv_has ls 1 [(0, .int 255)] := hl
  refine lv_iload_n hx hb dJ6_valueOf_2dffe_0 rfl (lv_at hl 0 rfl) ?_
  refine lv_bipush (v := (-128)) hx hb dJ6_valueOf_2dffe_1 (by decide) ?_
  refine lv_icmp_lt (tgt := 23) hx hb dJ6_valueOf_2dffe_3 (by decide) (fun hc => absurd hc (by decide)) (fun _ => ?_)
  refine lv_iload_n hx hb dJ6_valueOf_2dffe_6 rfl (lv_at hl 0 rfl) ?_
  refine va_gets hx hb hE.2.2.2.2.1.1 hS hown (hts _ wq_1853) (fun _ h9 => h9) dJ6_valueOf_2dffe_7 ?_
  refine lv_icmp_gt (tgt := 23) hx hb dJ6_valueOf_2dffe_10 (by decide) (fun _ => ?_) (fun hc => absurd hc (by decide))
  refine va_new (ci := 16) (fs := [.int 0]) (C := "java/lang/Integer") (T := TJ6) (N := 1) hx hb hts inJ6 tyJ6 tyJ6_ok hown (hts _ wq_1857) (hts _ wq_1858) (hts _ wq_24) hK hP hD hS hA rfl (pz_dfJ6) (Nat.le_of_ble_eq_true rfl) (Nat.le_of_ble_eq_true rfl) dJ6_valueOf_2dffe_23 (fun q1 H hP hD hS => ?_)
  have hP : va_P G.1 pz_cl [(q1, .inr (16, [.int 0]))] H := hP
  have hD : va_D A [(q1, .inr (16, [.int 0]))] := hD
  refine lv_dup hx hb dJ6_valueOf_2dffe_26 rfl ?_
  refine lv_iload_n hx hb dJ6_valueOf_2dffe_27 rfl (lv_at hl 0 rfl) ?_
  refine pz_go (wr := []) (vx_runI (As := [.int 255]) (rest := [.ref q1]) ⟨hx, hb, hml, hown, hts⟩ (cJ6_init_d00df_3 l hst G X H.size q1) (cwI 1 hts (pz_gC wq_1861) rfl rfl rfl (hts _ wq_24) (hts _ wq_1859) (hts _ wq_1860) rfl (by decide +kernel) ⟨(Nat.le_of_ble_eq_true rfl), (Nat.le_of_ble_eq_true rfl)⟩) (pz_preS hK hP hD hS hA hE [0] rfl rfl) rfl rfl hl.1 rfl (lv_room (Nat.le_of_ble_eq_true rfl)) dJ6_valueOf_2dffe_28 ⟨(Nat.le_of_ble_eq_true rfl), (Nat.le_of_ble_eq_true rfl)⟩) hP hD hS hA [0] [] rfl rfl rfl (by decide) (fun u H locs hP hD hS => ?_)
  have hP : va_P G.1 pz_cl [(q1, .inr (16, [.int 255]))] H := hP
  have hD : va_D A [(q1, .inr (16, [.int 255]))] := hD
  refine W.eq (g2 := F0 m 31 ls [.ref q1]) rfl ?_
  exact pz_ra hx hb hr hlocks (Or.inl ⟨_, rfl⟩) (Or.inr ⟨_, rfl⟩) hS (Nat.le_of_ble_eq_true rfl) (Nat.le_of_ble_eq_true rfl) dJ6_valueOf_2dffe_31 q1 rfl (hP.sub [0] rfl) (hD.sub [0] rfl rfl)
set_option maxHeartbeats 4000000 in
set_option maxRecDepth 100000 in
theorem cJx4a65c_add_72be8_5 (l : Launch) (hst : l.stackTraces = false) (G : pz_G) (X : Nat → Nat) (sz : Nat) (a0 : Nat) (a1 : Nat) (a2 : Nat) (f0 : Nat → Option Nat) : pz_MR (S := Unit) l yJx4a65c_add_72be8 (pz_cd yJx4a65c_add_72be8 cJx4a65c_add_72be8 4 none) 0 0 0 0 G X sz [(a2, .inl (G.2 5, 10, .inr (.inr (.inr (.inr (f0)))))), (a1, .inr (16, [.int 255])), (a0, .inr (17, [.int 3, .ref a2, .int 1]))] [.ref a0, .ref a1, .ref a2, .int 1] (fun u => none) (fun u => [(a2, .inl (G.2 5, 10, .inr (.inr (.inr (.inr (va_up (f0) 1 (some a1))))))), (a1, .inr (16, [.int 255])), (a0, .inr (17, [.int 3, .ref a2, .int 2]))]) := by
  refine pz_onR (by decide +kernel) (Nat.le_of_ble_eq_true rfl) ?_
  intro p e s m below meth c A hx hb hr hml hown hts hlocks hin hx0 hP hK hD hS hA hE ls hl
  have hown : s.vm.findClass "java/util/ArrayList" = some m.cls := hown
  have hl : lv_has ls 4 [(0, .ref a0), (1, .ref a1), (2, .ref a2), (3, .int 1)] := hl
  refine lv_iload_n hx hb dJx4a65c_add_72be8_0 rfl (lv_at hl 3 rfl) ?_
  refine lv_aload_n hx hb dJx4a65c_add_72be8_1 rfl (lv_at hl 2 rfl) ?_
  refine va_alen (v := 10) hx hb hK hP 0 5 rfl rfl (by show Int32.ofNat 10 = 10; decide) dJx4a65c_add_72be8_2 ?_
  refine lv_icmp_ne (tgt := 11) hx hb dJx4a65c_add_72be8_3 (by decide) (fun _ => ?_) (fun hc => absurd hc (by decide))
  refine lv_aload_n hx hb dJx4a65c_add_72be8_11 rfl (lv_at hl 2 rfl) ?_
  refine lv_iload_n hx hb dJx4a65c_add_72be8_12 rfl (lv_at hl 3 rfl) ?_
  refine lv_aload_n hx hb dJx4a65c_add_72be8_13 rfl (lv_at hl 1 rfl) ?_
  refine vb_astq (E := "java/lang/Object") (C := "java/lang/Integer") hx hb hK hP hD hS 0 5 rfl rfl (va_recv hK hP (ci := 16) (q0 := 1) rfl rfl) (vb_asgC (hE.2.2.2.2.2.2.2.2.1 _ nx_3213)) (pz_vi rfl) dJx4a65c_add_72be8_14 (fun H locs hP hD hS => ?_)
  have hP : va_P G.1 pz_cl [(a2, .inl (G.2 5, 10, .inr (.inr (.inr (.inr (va_up (f0) 1 (some a1))))))), (a1, .inr (16, [.int 255])), (a0, .inr (17, [.int 3, .ref a2, .int 1]))] H := hP
  have hD : va_D A [(a2, .inl (G.2 5, 10, .inr (.inr (.inr (.inr (va_up (f0) 1 (some a1))))))), (a1, .inr (16, [.int 255])), (a0, .inr (17, [.int 3, .ref a2, .int 1]))] := hD
  refine lv_aload_n hx hb dJx4a65c_add_72be8_15 rfl (lv_at hl 0 rfl) ?_
  refine lv_iload_n hx hb dJx4a65c_add_72be8_16 rfl (lv_at hl 3 rfl) ?_
  refine lv_iconst (v := 1) hx hb dJx4a65c_add_72be8_17 (by decide) ?_
  refine lv_iadd hx hb dJx4a65c_add_72be8_18 (pz_K (y := 2) (by decide) ?_)
  refine va_put (D := G.1) (ci := 17) (v := .int 2) (ty := tyJx4a65c 2) (C := "java/util/ArrayList") (T := TJx4a65c) (N := 3) hx hb hts inJx4a65c tyJx4a65c tyJx4a65c_ok nmJx4a65c hown hK hP hD hS 2 rfl rfl 2 (by decide) (hts _ wq_1801) (fun _ h9 => h9) rfl (by decide +kernel) rfl rfl (Nat.le_of_ble_eq_true rfl) dJx4a65c_add_72be8_19 (fun H locs hP hD hS => ?_)
  have hP : va_P G.1 pz_cl [(a2, .inl (G.2 5, 10, .inr (.inr (.inr (.inr (va_up (f0) 1 (some a1))))))), (a1, .inr (16, [.int 255])), (a0, .inr (17, [.int 3, .ref a2, .int 2]))] H := hP
  have hD : va_D A [(a2, .inl (G.2 5, 10, .inr (.inr (.inr (.inr (va_up (f0) 1 (some a1))))))), (a1, .inr (16, [.int 255])), (a0, .inr (17, [.int 3, .ref a2, .int 2]))] := hD
  exact pz_rv hx hb hr hlocks hS (Nat.le_of_ble_eq_true rfl) (Nat.le_of_ble_eq_true rfl) dJx4a65c_add_72be8_22 () rfl (hP.sub [0, 1, 2] rfl) (hD.sub [0, 1, 2] rfl rfl)
set_option maxHeartbeats 4000000 in
set_option maxRecDepth 100000 in
theorem cJx4a65c_add_9ea2d_5 (l : Launch) (hst : l.stackTraces = false) (G : pz_G) (X : Nat → Nat) (sz : Nat) (a0 : Nat) (a1 : Nat) (a2 : Nat) (f0 : Nat → Option Nat) : pz_MR (S := Unit) l yJx4a65c_add_9ea2d (pz_cd yJx4a65c_add_9ea2d cJx4a65c_add_9ea2d 2 (some .boolean)) 1 23 0 0 G X sz [(a0, .inr (17, [.int 2, .ref a2, .int 1])), (a2, .inl (G.2 5, 10, .inr (.inr (.inr (.inr (f0)))))), (a1, .inr (16, [.int 255]))] [.ref a0, .ref a1] (fun u => some (.int 1)) (fun u => [(a0, .inr (17, [.int 3, .ref a2, .int 2])), (a2, .inl (G.2 5, 10, .inr (.inr (.inr (.inr (va_up (f0) 1 (some a1))))))), (a1, .inr (16, [.int 255]))]) := by
  refine pz_onR (by decide +kernel) (Nat.le_of_ble_eq_true rfl) ?_
  intro p e s m below meth c A hx hb hr hml hown hts hlocks hin hx0 hP hK hD hS hA hE ls hl
  have hown : s.vm.findClass "java/util/ArrayList" = some m.cls := hown
  have hl : lv_has ls 2 [(0, .ref a0), (1, .ref a1)] := hl
  refine lv_aload_n hx hb dJx4a65c_add_9ea2d_0 rfl (lv_at hl 0 rfl) ?_
  refine lv_dup hx hb dJx4a65c_add_9ea2d_1 rfl ?_
  refine va_get (D := G.1) (ci := 17) (v := .int 2) (C := "java/util/ArrayList") (T := TJx4a65c) (N := 3) hx hb hts inJx4a65c hown hK hP 0 rfl rfl 0 (by decide) (hts _ wq_1805) (fun x9 h9 => u_same (hts _ wq_1804) x9 h9) rfl dJx4a65c_add_9ea2d_2 ?_
  refine lv_iconst (v := 1) hx hb dJx4a65c_add_9ea2d_5 (by decide) ?_
  refine lv_iadd hx hb dJx4a65c_add_9ea2d_6 (pz_K (y := 3) (by decide) ?_)
  refine va_put (D := G.1) (ci := 17) (v := .int 3) (ty := tyJx4a65c 0) (C := "java/util/ArrayList") (T := TJx4a65c) (N := 3) hx hb hts inJx4a65c tyJx4a65c tyJx4a65c_ok nmJx4a65c hown hK hP hD hS 0 rfl rfl 0 (by decide) (hts _ wq_1805) (fun x9 h9 => u_same (hts _ wq_1804) x9 h9) rfl (by decide +kernel) rfl rfl (Nat.le_of_ble_eq_true rfl) dJx4a65c_add_9ea2d_7 (fun H locs hP hD hS => ?_)
  have hP : va_P G.1 pz_cl [(a0, .inr (17, [.int 3, .ref a2, .int 1])), (a2, .inl (G.2 5, 10, .inr (.inr (.inr (.inr (f0)))))), (a1, .inr (16, [.int 255]))] H := hP
  have hD : va_D A [(a0, .inr (17, [.int 3, .ref a2, .int 1])), (a2, .inl (G.2 5, 10, .inr (.inr (.inr (.inr (f0)))))), (a1, .inr (16, [.int 255]))] := hD
  refine lv_aload_n hx hb dJx4a65c_add_9ea2d_10 rfl (lv_at hl 0 rfl) ?_
  refine lv_aload_n hx hb dJx4a65c_add_9ea2d_11 rfl (lv_at hl 1 rfl) ?_
  refine lv_aload_n hx hb dJx4a65c_add_9ea2d_12 rfl (lv_at hl 0 rfl) ?_
  refine va_get (D := G.1) (ci := 17) (v := .ref a2) (C := "java/util/ArrayList") (T := TJx4a65c) (N := 3) hx hb hts inJx4a65c hown hK hP 0 rfl rfl 1 (by decide) (hts _ wq_1798) (fun _ h9 => h9) rfl dJx4a65c_add_9ea2d_13 ?_
  refine lv_aload_n hx hb dJx4a65c_add_9ea2d_16 rfl (lv_at hl 0 rfl) ?_
  refine va_get (D := G.1) (ci := 17) (v := .int 1) (C := "java/util/ArrayList") (T := TJx4a65c) (N := 3) hx hb hts inJx4a65c hown hK hP 0 rfl rfl 2 (by decide) (hts _ wq_1801) (fun _ h9 => h9) rfl dJx4a65c_add_9ea2d_17 ?_
  refine pz_go (wr := []) (vx_runV (C := "java/util/ArrayList") (As := [.ref a1, .ref a2, .int 1]) (rest := []) ⟨hx, hb, hml, hown, hts⟩ (cJx4a65c_add_72be8_5 l hst G X H.size a0 a1 a2 f0) (cwV 3 hts (pz_gV wq_1874 wq_1876 wqs_84 wq_16 wq_1877) rfl rfl rfl (by decide +kernel) ⟨(Nat.le_of_ble_eq_true rfl), (Nat.le_of_ble_eq_true rfl)⟩) (pz_preV (C := ("java/util/ArrayList", TJx4a65c, 3)) hK hP hD hS hA hE 0 (ci := 17) rfl rfl [1, 2, 0] rfl rfl) rfl rfl hl.1 rfl (lv_room (Nat.le_of_ble_eq_true rfl)) dJx4a65c_add_9ea2d_20 ⟨(Nat.le_of_ble_eq_true rfl), (Nat.le_of_ble_eq_true rfl)⟩) hP hD hS hA [1, 2, 0] [] rfl rfl rfl (by decide) (fun u H locs hP hD hS => ?_)
  have hP : va_P G.1 pz_cl [(a2, .inl (G.2 5, 10, .inr (.inr (.inr (.inr (va_up (f0) 1 (some a1))))))), (a1, .inr (16, [.int 255])), (a0, .inr (17, [.int 3, .ref a2, .int 2]))] H := hP
  have hD : va_D A [(a2, .inl (G.2 5, 10, .inr (.inr (.inr (.inr (va_up (f0) 1 (some a1))))))), (a1, .inr (16, [.int 255])), (a0, .inr (17, [.int 3, .ref a2, .int 2]))] := hD
  refine W.eq (g2 := F0 m 23 ls []) rfl ?_
  refine lv_iconst (v := 1) hx hb dJx4a65c_add_9ea2d_23 (by decide) ?_
  exact pz_rz hx hb hr hlocks (by decide +kernel) hS (Nat.le_of_ble_eq_true rfl) (Nat.le_of_ble_eq_true rfl) dJx4a65c_add_9ea2d_24 () rfl (hP.sub [2, 0, 1] rfl) (hD.sub [2, 0, 1] rfl rfl)
set_option maxHeartbeats 4000000 in
set_option maxRecDepth 100000 in
theorem cX15_goTo_1 (l : Launch) (hst : l.stackTraces = false) (G : pz_G) (X : Nat → Nat) (sz : Nat) (a0 : Nat) (a1 : Nat) (a2 : Nat) (a3 : Nat) : pz_MR (S := Nat × Nat × Nat) l yX15_goTo (pz_cd yX15_goTo cX15_goTo 2 none) 5 101 3 12 G X sz [(a0, .inr (14, [.ref a2, .int 0, .ref a1, .ref a3, .null, .int 0])), (a1, .inr (17, [.int 1, .ref (X 3), .int 0]))] [.ref a0, .int 255] (fun u => none) (fun u => [(a0, .inr (14, [.ref a2, .int 0, .ref a1, .ref a3, .null, .int 0])), (a1, .inr (17, [.int 3, .ref u.2.1, .int 2])), (u.1, .inr (16, [.int 128])), (u.2.1, .inl (G.2 5, 10, .inr (.inr (.inr (.inr (va_up (va_up (fun _ => none) 0 (some u.1)) 1 (some u.2.2))))))), (u.2.2, .inr (16, [.int 255]))]) := by
  refine pz_onR (by decide +kernel) (Nat.le_of_ble_eq_true rfl) ?_
  intro p e s m below meth c A hx hb hr hml hown hts hlocks hin hx0 hP hK hD hS hA hE ls hl
  have hown : s.vm.findClass "SourcewrightModel$Writer" = some m.cls := hown
  have hl : lv_has ls 2 [(0, .ref a0), (1, .int 255)] := hl
  refine lv_aload_n hx hb dX15_goTo_0 rfl (lv_at hl 0 rfl) ?_
  refine va_get (D := G.1) (ci := 14) (v := .ref a1) (C := "SourcewrightModel$Writer") (T := TX15) (N := 6) hx hb hts inX15 hown hK hP 0 rfl rfl 2 (by decide) (hts _ wq_3026) (fun _ h9 => h9) rfl dX15_goTo_1 ?_
  refine lv_sipush (v := 128) hx hb dX15_goTo_4 (by decide) ?_
  refine pz_go (wr := [(a0, .inr (14, [.ref a2, .int 0, .ref a1, .ref a3, .null, .int 0])), (a1, .inr (17, [.int 1, .ref (X 3), .int 0]))]) (vx_runS (As := [.int 128]) (rest := [.ref a1]) ⟨hx, hb, hml, hown, hts⟩ (cJ6_valueOf_2dffe_4 l hst G X s.heap.size) (va_cwS 1 hts (pz_gS wq_2979 wq_1851 wq_24 wq_1852) rfl rfl rfl (by decide +kernel) ⟨(Nat.le_of_ble_eq_true rfl), (Nat.le_of_ble_eq_true rfl)⟩) (pz_preS hK hP hD hS hA hE [] rfl rfl) rfl rfl hl.1 rfl (lv_room (Nat.le_of_ble_eq_true rfl)) dX15_goTo_7 ⟨(Nat.le_of_ble_eq_true rfl), (Nat.le_of_ble_eq_true rfl)⟩) hP hD hS hA [] [0, 1] rfl rfl rfl (by decide) (fun q1 H locs hP hD hS => ?_)
  have hP : va_P G.1 pz_cl [(a0, .inr (14, [.ref a2, .int 0, .ref a1, .ref a3, .null, .int 0])), (a1, .inr (17, [.int 1, .ref (X 3), .int 0])), (q1, .inr (16, [.int 128]))] H := hP
  have hD : va_D A [(a0, .inr (14, [.ref a2, .int 0, .ref a1, .ref a3, .null, .int 0])), (a1, .inr (17, [.int 1, .ref (X 3), .int 0])), (q1, .inr (16, [.int 128]))] := hD
  refine W.eq (g2 := F0 m 10 ls [.ref q1, .ref a1]) rfl ?_
  refine pz_go (wr := [(a0, .inr (14, [.ref a2, .int 0, .ref a1, .ref a3, .null, .int 0]))]) (vx_runV (C := "java/util/ArrayList") (As := [.ref q1]) (rest := []) ⟨hx, hb, hml, hown, hts⟩ (cJx4a65c_add_9ea2d_4 l hst G X H.size a1 q1) (cwV 1 hts (pz_gV wq_2980 wq_1871 wq_1872 wq_16 wq_1873) rfl rfl rfl (by decide +kernel) ⟨(Nat.le_of_ble_eq_true rfl), (Nat.le_of_ble_eq_true rfl)⟩) (pz_preV (C := ("java/util/ArrayList", TJx4a65c, 3)) hK hP hD hS hA hE 1 (ci := 17) rfl rfl [1, 2] rfl rfl) rfl rfl hl.1 rfl (lv_room (Nat.le_of_ble_eq_true rfl)) dX15_goTo_10 ⟨(Nat.le_of_ble_eq_true rfl), (Nat.le_of_ble_eq_true rfl)⟩) hP hD hS hA [1, 2] [0] rfl rfl rfl (by decide) (fun q2 H locs hP hD hS => ?_)
  have hP : va_P G.1 pz_cl [(a0, .inr (14, [.ref a2, .int 0, .ref a1, .ref a3, .null, .int 0])), (a1, .inr (17, [.int 2, .ref q2, .int 1])), (q1, .inr (16, [.int 128])), (q2, .inl (G.2 5, 10, .inr (.inr (.inr (.inr (va_up (fun _ => none) 0 (some q1)))))))] H := hP
  have hD : va_D A [(a0, .inr (14, [.ref a2, .int 0, .ref a1, .ref a3, .null, .int 0])), (a1, .inr (17, [.int 2, .ref q2, .int 1])), (q1, .inr (16, [.int 128])), (q2, .inl (G.2 5, 10, .inr (.inr (.inr (.inr (va_up (fun _ => none) 0 (some q1)))))))] := hD
  refine W.eq (g2 := F0 m 13 ls [.int 1]) rfl ?_
  refine lv_pop hx hb dX15_goTo_13 rfl ?_
  refine lv_aload_n hx hb dX15_goTo_14 rfl (lv_at hl 0 rfl) ?_
  refine va_get (D := G.1) (ci := 14) (v := .ref a1) (C := "SourcewrightModel$Writer") (T := TX15) (N := 6) hx hb hts inX15 hown hK hP 0 rfl rfl 2 (by decide) (hts _ wq_3026) (fun _ h9 => h9) rfl dX15_goTo_15 ?_
  refine lv_iload_n hx hb dX15_goTo_18 rfl (lv_at hl 1 rfl) ?_
  refine lv_sipush (v := 256) hx hb dX15_goTo_19 (by decide) ?_
  refine lv_irem hx hb dX15_goTo_22 (by decide) (pz_K (y := 255) (by decide) ?_)
  refine pz_go (wr := [(a0, .inr (14, [.ref a2, .int 0, .ref a1, .ref a3, .null, .int 0])), (a1, .inr (17, [.int 2, .ref q2, .int 1])), (q1, .inr (16, [.int 128])), (q2, .inl (G.2 5, 10, .inr (.inr (.inr (.inr (va_up (fun _ => none) 0 (some q1)))))))]) (vx_runS (As := [.int 255]) (rest := [.ref a1]) ⟨hx, hb, hml, hown, hts⟩ (cJ6_valueOf_2dffe_5 l hst G X H.size) (va_cwS 1 hts (pz_gS wq_2979 wq_1851 wq_24 wq_1852) rfl rfl rfl (by decide +kernel) ⟨(Nat.le_of_ble_eq_true rfl), (Nat.le_of_ble_eq_true rfl)⟩) (pz_preS hK hP hD hS hA hE [] rfl rfl) rfl rfl hl.1 rfl (lv_room (Nat.le_of_ble_eq_true rfl)) dX15_goTo_23 ⟨(Nat.le_of_ble_eq_true rfl), (Nat.le_of_ble_eq_true rfl)⟩) hP hD hS hA [] [0, 1, 2, 3] rfl rfl rfl (by decide) (fun q3 H locs hP hD hS => ?_)
  have hP : va_P G.1 pz_cl [(a0, .inr (14, [.ref a2, .int 0, .ref a1, .ref a3, .null, .int 0])), (a1, .inr (17, [.int 2, .ref q2, .int 1])), (q1, .inr (16, [.int 128])), (q2, .inl (G.2 5, 10, .inr (.inr (.inr (.inr (va_up (fun _ => none) 0 (some q1))))))), (q3, .inr (16, [.int 255]))] H := hP
  have hD : va_D A [(a0, .inr (14, [.ref a2, .int 0, .ref a1, .ref a3, .null, .int 0])), (a1, .inr (17, [.int 2, .ref q2, .int 1])), (q1, .inr (16, [.int 128])), (q2, .inl (G.2 5, 10, .inr (.inr (.inr (.inr (va_up (fun _ => none) 0 (some q1))))))), (q3, .inr (16, [.int 255]))] := hD
  refine W.eq (g2 := F0 m 26 ls [.ref q3, .ref a1]) rfl ?_
  refine pz_go (wr := [(a0, .inr (14, [.ref a2, .int 0, .ref a1, .ref a3, .null, .int 0])), (q1, .inr (16, [.int 128]))]) (vx_runV (C := "java/util/ArrayList") (As := [.ref q3]) (rest := []) ⟨hx, hb, hml, hown, hts⟩ (cJx4a65c_add_9ea2d_5 l hst G X H.size a1 q3 q2 (va_up (fun _ => none) 0 (some q1))) (cwV 1 hts (pz_gV wq_2980 wq_1871 wq_1872 wq_16 wq_1873) rfl rfl rfl (by decide +kernel) ⟨(Nat.le_of_ble_eq_true rfl), (Nat.le_of_ble_eq_true rfl)⟩) (pz_preV (C := ("java/util/ArrayList", TJx4a65c, 3)) hK hP hD hS hA hE 1 (ci := 17) rfl rfl [1, 3, 4] rfl rfl) rfl rfl hl.1 rfl (lv_room (Nat.le_of_ble_eq_true rfl)) dX15_goTo_26 ⟨(Nat.le_of_ble_eq_true rfl), (Nat.le_of_ble_eq_true rfl)⟩) hP hD hS hA [1, 3, 4] [0, 2] rfl rfl rfl (by decide) (fun u H locs hP hD hS => ?_)
  have hP : va_P G.1 pz_cl [(a0, .inr (14, [.ref a2, .int 0, .ref a1, .ref a3, .null, .int 0])), (q1, .inr (16, [.int 128])), (a1, .inr (17, [.int 3, .ref q2, .int 2])), (q2, .inl (G.2 5, 10, .inr (.inr (.inr (.inr (va_up (va_up (fun _ => none) 0 (some q1)) 1 (some q3))))))), (q3, .inr (16, [.int 255]))] H := hP
  have hD : va_D A [(a0, .inr (14, [.ref a2, .int 0, .ref a1, .ref a3, .null, .int 0])), (q1, .inr (16, [.int 128])), (a1, .inr (17, [.int 3, .ref q2, .int 2])), (q2, .inl (G.2 5, 10, .inr (.inr (.inr (.inr (va_up (va_up (fun _ => none) 0 (some q1)) 1 (some q3))))))), (q3, .inr (16, [.int 255]))] := hD
  refine W.eq (g2 := F0 m 29 ls [.int 1]) rfl ?_
  refine lv_pop hx hb dX15_goTo_29 rfl ?_
  exact pz_rv hx hb hr hlocks hS (Nat.le_of_ble_eq_true rfl) (Nat.le_of_ble_eq_true rfl) dX15_goTo_30 (q1, q2, q3) rfl (hP.sub [0, 2, 1, 3, 4] rfl) (hD.sub [0, 2, 1, 3, 4] rfl rfl)
set_option maxHeartbeats 4000000 in
set_option maxRecDepth 100000 in
theorem cJx4a65c_clear_da8c8_2 (l : Launch) (hst : l.stackTraces = false) (G : pz_G) (X : Nat → Nat) (sz : Nat) (a0 : Nat) (a1 : Nat) (f0 : Nat → Option Nat) : pz_MR (S := Unit) l yJx4a65c_clear_da8c8 (pz_cd yJx4a65c_clear_da8c8 cJx4a65c_clear_da8c8 4 none) 0 0 0 0 G X sz [(a0, .inr (17, [.int 3, .ref a1, .int 2])), (a1, .inl (G.2 5, 10, .inr (.inr (.inr (.inr (f0))))))] [.ref a0] (fun u => none) (fun u => [(a0, .inr (17, [.int 4, .ref a1, .int 0])), (a1, .inl (G.2 5, 10, .inr (.inr (.inr (.inr (va_up (va_up (f0) 0 none) 1 none))))))]) := by
  refine pz_onR (by decide +kernel) (Nat.le_of_ble_eq_true rfl) ?_
  intro p e s m below meth c A hx hb hr hml hown hts hlocks hin hx0 hP hK hD hS hA hE ls hl
  have hown : s.vm.findClass "java/util/ArrayList" = some m.cls := hown
  have hl : lv_has ls 4 [(0, .ref a0)] := hl
  refine lv_aload_n hx hb dJx4a65c_clear_da8c8_0 rfl (lv_at hl 0 rfl) ?_
  refine lv_dup hx hb dJx4a65c_clear_da8c8_1 rfl ?_
  refine va_get (D := G.1) (ci := 17) (v := .int 3) (C := "java/util/ArrayList") (T := TJx4a65c) (N := 3) hx hb hts inJx4a65c hown hK hP 0 rfl rfl 0 (by decide) (hts _ wq_1805) (fun x9 h9 => u_same (hts _ wq_1804) x9 h9) rfl dJx4a65c_clear_da8c8_2 ?_
  refine lv_iconst (v := 1) hx hb dJx4a65c_clear_da8c8_5 (by decide) ?_
  refine lv_iadd hx hb dJx4a65c_clear_da8c8_6 (pz_K (y := 4) (by decide) ?_)
  refine va_put (D := G.1) (ci := 17) (v := .int 4) (ty := tyJx4a65c 0) (C := "java/util/ArrayList") (T := TJx4a65c) (N := 3) hx hb hts inJx4a65c tyJx4a65c tyJx4a65c_ok nmJx4a65c hown hK hP hD hS 0 rfl rfl 0 (by decide) (hts _ wq_1805) (fun x9 h9 => u_same (hts _ wq_1804) x9 h9) rfl (by decide +kernel) rfl rfl (Nat.le_of_ble_eq_true rfl) dJx4a65c_clear_da8c8_7 (fun H locs hP hD hS => ?_)
  have hP : va_P G.1 pz_cl [(a0, .inr (17, [.int 4, .ref a1, .int 2])), (a1, .inl (G.2 5, 10, .inr (.inr (.inr (.inr (f0))))))] H := hP
  have hD : va_D A [(a0, .inr (17, [.int 4, .ref a1, .int 2])), (a1, .inl (G.2 5, 10, .inr (.inr (.inr (.inr (f0))))))] := hD
  refine lv_aload_n hx hb dJx4a65c_clear_da8c8_10 rfl (lv_at hl 0 rfl) ?_
  refine va_get (D := G.1) (ci := 17) (v := .ref a1) (C := "java/util/ArrayList") (T := TJx4a65c) (N := 3) hx hb hts inJx4a65c hown hK hP 0 rfl rfl 1 (by decide) (hts _ wq_1798) (fun _ h9 => h9) rfl dJx4a65c_clear_da8c8_11 ?_
  refine lv_astore_n (lv' := [(1, .ref a1), (0, .ref a0)]) hx hb dJx4a65c_clear_da8c8_14 rfl hl (by decide) rfl (fun ls hl => ?_)
  refine lv_aload_n hx hb dJx4a65c_clear_da8c8_15 rfl (lv_at hl 1 rfl) ?_
  refine va_get (D := G.1) (ci := 17) (v := .int 2) (C := "java/util/ArrayList") (T := TJx4a65c) (N := 3) hx hb hts inJx4a65c hown hK hP 0 rfl rfl 2 (by decide) (hts _ wq_1801) (fun _ h9 => h9) rfl dJx4a65c_clear_da8c8_16 ?_
  refine lv_istore_n (lv' := [(2, .int 2), (1, .ref a1), (0, .ref a0)]) hx hb dJx4a65c_clear_da8c8_19 rfl hl (by decide) rfl (fun ls hl => ?_)
  refine lv_aload_n hx hb dJx4a65c_clear_da8c8_20 rfl (lv_at hl 2 rfl) ?_
  refine lv_iconst (v := 0) hx hb dJx4a65c_clear_da8c8_21 (by decide) ?_
  refine lv_dup_x1 hx hb dJx4a65c_clear_da8c8_22 rfl rfl ?_
  refine va_put (D := G.1) (ci := 17) (v := .int 0) (ty := tyJx4a65c 2) (C := "java/util/ArrayList") (T := TJx4a65c) (N := 3) hx hb hts inJx4a65c tyJx4a65c tyJx4a65c_ok nmJx4a65c hown hK hP hD hS 0 rfl rfl 2 (by decide) (hts _ wq_1801) (fun _ h9 => h9) rfl (by decide +kernel) rfl rfl (Nat.le_of_ble_eq_true rfl) dJx4a65c_clear_da8c8_23 (fun H locs hP hD hS => ?_)
  have hP : va_P G.1 pz_cl [(a0, .inr (17, [.int 4, .ref a1, .int 0])), (a1, .inl (G.2 5, 10, .inr (.inr (.inr (.inr (f0))))))] H := hP
  have hD : va_D A [(a0, .inr (17, [.int 4, .ref a1, .int 0])), (a1, .inl (G.2 5, 10, .inr (.inr (.inr (.inr (f0))))))] := hD
  refine lv_istore_n (lv' := [(3, .int 0), (2, .int 2), (1, .ref a1), (0, .ref a0)]) hx hb dJx4a65c_clear_da8c8_26 rfl hl (by decide) rfl (fun ls hl => ?_)
  refine lv_iload_n hx hb dJx4a65c_clear_da8c8_27 rfl (lv_at hl 0 rfl) ?_
  refine lv_iload_n hx hb dJx4a65c_clear_da8c8_28 rfl (lv_at hl 1 rfl) ?_
  refine lv_icmp_ge (tgt := 42) hx hb dJx4a65c_clear_da8c8_29 (by decide) (fun hc => absurd hc (by decide)) (fun _ => ?_)
  refine lv_aload_n hx hb dJx4a65c_clear_da8c8_32 rfl (lv_at hl 2 rfl) ?_
  refine lv_iload_n hx hb dJx4a65c_clear_da8c8_33 rfl (lv_at hl 0 rfl) ?_
  refine lv_null hx hb dJx4a65c_clear_da8c8_34 ?_
  refine va_astqN hx hb hK hP hD hS 1 5 rfl rfl (pz_vi rfl) dJx4a65c_clear_da8c8_35 (fun H locs hP hD hS => ?_)
  have hP : va_P G.1 pz_cl [(a0, .inr (17, [.int 4, .ref a1, .int 0])), (a1, .inl (G.2 5, 10, .inr (.inr (.inr (.inr (va_up (f0) 0 none))))))] H := hP
  have hD : va_D A [(a0, .inr (17, [.int 4, .ref a1, .int 0])), (a1, .inl (G.2 5, 10, .inr (.inr (.inr (.inr (va_up (f0) 0 none))))))] := hD
  refine lv_iinc (v := 1) (lv' := [(3, .int 1), (2, .int 2), (1, .ref a1), (0, .ref a0)]) hx hb dJx4a65c_clear_da8c8_36 hl (k := 0) rfl (by decide) (by decide) rfl (fun ls hl => ?_)
  refine lv_goto (tgt := 27) hx hb dJx4a65c_clear_da8c8_39 (by decide) ?_
  refine lv_iload_n hx hb dJx4a65c_clear_da8c8_27 rfl (lv_at hl 0 rfl) ?_
  refine lv_iload_n hx hb dJx4a65c_clear_da8c8_28 rfl (lv_at hl 1 rfl) ?_
  refine lv_icmp_ge (tgt := 42) hx hb dJx4a65c_clear_da8c8_29 (by decide) (fun hc => absurd hc (by decide)) (fun _ => ?_)
  refine lv_aload_n hx hb dJx4a65c_clear_da8c8_32 rfl (lv_at hl 2 rfl) ?_
  refine lv_iload_n hx hb dJx4a65c_clear_da8c8_33 rfl (lv_at hl 0 rfl) ?_
  refine lv_null hx hb dJx4a65c_clear_da8c8_34 ?_
  refine va_astqN hx hb hK hP hD hS 1 5 rfl rfl (pz_vi rfl) dJx4a65c_clear_da8c8_35 (fun H locs hP hD hS => ?_)
  have hP : va_P G.1 pz_cl [(a0, .inr (17, [.int 4, .ref a1, .int 0])), (a1, .inl (G.2 5, 10, .inr (.inr (.inr (.inr (va_up (va_up (f0) 0 none) 1 none))))))] H := hP
  have hD : va_D A [(a0, .inr (17, [.int 4, .ref a1, .int 0])), (a1, .inl (G.2 5, 10, .inr (.inr (.inr (.inr (va_up (va_up (f0) 0 none) 1 none))))))] := hD
  refine lv_iinc (v := 2) (lv' := [(3, .int 2), (2, .int 2), (1, .ref a1), (0, .ref a0)]) hx hb dJx4a65c_clear_da8c8_36 hl (k := 0) rfl (by decide) (by decide) rfl (fun ls hl => ?_)
  refine lv_goto (tgt := 27) hx hb dJx4a65c_clear_da8c8_39 (by decide) ?_
  refine lv_iload_n hx hb dJx4a65c_clear_da8c8_27 rfl (lv_at hl 0 rfl) ?_
  refine lv_iload_n hx hb dJx4a65c_clear_da8c8_28 rfl (lv_at hl 1 rfl) ?_
  refine lv_icmp_ge (tgt := 42) hx hb dJx4a65c_clear_da8c8_29 (by decide) (fun _ => ?_) (fun hc => absurd hc (by decide))
  exact pz_rv hx hb hr hlocks hS (Nat.le_of_ble_eq_true rfl) (Nat.le_of_ble_eq_true rfl) dJx4a65c_clear_da8c8_42 () rfl (hP.sub [0, 1] rfl) (hD.sub [0, 1] rfl rfl)
set_option maxHeartbeats 4000000 in
set_option maxRecDepth 100000 in
theorem cJx4a65c_add_72be8_6 (l : Launch) (hst : l.stackTraces = false) (G : pz_G) (X : Nat → Nat) (sz : Nat) (a0 : Nat) (a1 : Nat) (a2 : Nat) (f0 : Nat → Option Nat) : pz_MR (S := Unit) l yJx4a65c_add_72be8 (pz_cd yJx4a65c_add_72be8 cJx4a65c_add_72be8 4 none) 0 0 0 0 G X sz [(a2, .inl (G.2 5, 10, .inr (.inr (.inr (.inr (f0)))))), (a1, .inr (16, [.int 128])), (a0, .inr (17, [.int 5, .ref a2, .int 0]))] [.ref a0, .ref a1, .ref a2, .int 0] (fun u => none) (fun u => [(a2, .inl (G.2 5, 10, .inr (.inr (.inr (.inr (va_up (f0) 0 (some a1))))))), (a1, .inr (16, [.int 128])), (a0, .inr (17, [.int 5, .ref a2, .int 1]))]) := by
  refine pz_onR (by decide +kernel) (Nat.le_of_ble_eq_true rfl) ?_
  intro p e s m below meth c A hx hb hr hml hown hts hlocks hin hx0 hP hK hD hS hA hE ls hl
  have hown : s.vm.findClass "java/util/ArrayList" = some m.cls := hown
  have hl : lv_has ls 4 [(0, .ref a0), (1, .ref a1), (2, .ref a2), (3, .int 0)] := hl
  refine lv_iload_n hx hb dJx4a65c_add_72be8_0 rfl (lv_at hl 3 rfl) ?_
  refine lv_aload_n hx hb dJx4a65c_add_72be8_1 rfl (lv_at hl 2 rfl) ?_
  refine va_alen (v := 10) hx hb hK hP 0 5 rfl rfl (by show Int32.ofNat 10 = 10; decide) dJx4a65c_add_72be8_2 ?_
  refine lv_icmp_ne (tgt := 11) hx hb dJx4a65c_add_72be8_3 (by decide) (fun _ => ?_) (fun hc => absurd hc (by decide))
  refine lv_aload_n hx hb dJx4a65c_add_72be8_11 rfl (lv_at hl 2 rfl) ?_
  refine lv_iload_n hx hb dJx4a65c_add_72be8_12 rfl (lv_at hl 3 rfl) ?_
  refine lv_aload_n hx hb dJx4a65c_add_72be8_13 rfl (lv_at hl 1 rfl) ?_
  refine vb_astq (E := "java/lang/Object") (C := "java/lang/Integer") hx hb hK hP hD hS 0 5 rfl rfl (va_recv hK hP (ci := 16) (q0 := 1) rfl rfl) (vb_asgC (hE.2.2.2.2.2.2.2.2.1 _ nx_3213)) (pz_vi rfl) dJx4a65c_add_72be8_14 (fun H locs hP hD hS => ?_)
  have hP : va_P G.1 pz_cl [(a2, .inl (G.2 5, 10, .inr (.inr (.inr (.inr (va_up (f0) 0 (some a1))))))), (a1, .inr (16, [.int 128])), (a0, .inr (17, [.int 5, .ref a2, .int 0]))] H := hP
  have hD : va_D A [(a2, .inl (G.2 5, 10, .inr (.inr (.inr (.inr (va_up (f0) 0 (some a1))))))), (a1, .inr (16, [.int 128])), (a0, .inr (17, [.int 5, .ref a2, .int 0]))] := hD
  refine lv_aload_n hx hb dJx4a65c_add_72be8_15 rfl (lv_at hl 0 rfl) ?_
  refine lv_iload_n hx hb dJx4a65c_add_72be8_16 rfl (lv_at hl 3 rfl) ?_
  refine lv_iconst (v := 1) hx hb dJx4a65c_add_72be8_17 (by decide) ?_
  refine lv_iadd hx hb dJx4a65c_add_72be8_18 (pz_K (y := 1) (by decide) ?_)
  refine va_put (D := G.1) (ci := 17) (v := .int 1) (ty := tyJx4a65c 2) (C := "java/util/ArrayList") (T := TJx4a65c) (N := 3) hx hb hts inJx4a65c tyJx4a65c tyJx4a65c_ok nmJx4a65c hown hK hP hD hS 2 rfl rfl 2 (by decide) (hts _ wq_1801) (fun _ h9 => h9) rfl (by decide +kernel) rfl rfl (Nat.le_of_ble_eq_true rfl) dJx4a65c_add_72be8_19 (fun H locs hP hD hS => ?_)
  have hP : va_P G.1 pz_cl [(a2, .inl (G.2 5, 10, .inr (.inr (.inr (.inr (va_up (f0) 0 (some a1))))))), (a1, .inr (16, [.int 128])), (a0, .inr (17, [.int 5, .ref a2, .int 1]))] H := hP
  have hD : va_D A [(a2, .inl (G.2 5, 10, .inr (.inr (.inr (.inr (va_up (f0) 0 (some a1))))))), (a1, .inr (16, [.int 128])), (a0, .inr (17, [.int 5, .ref a2, .int 1]))] := hD
  exact pz_rv hx hb hr hlocks hS (Nat.le_of_ble_eq_true rfl) (Nat.le_of_ble_eq_true rfl) dJx4a65c_add_72be8_22 () rfl (hP.sub [0, 1, 2] rfl) (hD.sub [0, 1, 2] rfl rfl)
set_option maxHeartbeats 4000000 in
set_option maxRecDepth 100000 in
theorem cJx4a65c_add_9ea2d_6 (l : Launch) (hst : l.stackTraces = false) (G : pz_G) (X : Nat → Nat) (sz : Nat) (a0 : Nat) (a1 : Nat) (a2 : Nat) (f0 : Nat → Option Nat) : pz_MR (S := Unit) l yJx4a65c_add_9ea2d (pz_cd yJx4a65c_add_9ea2d cJx4a65c_add_9ea2d 2 (some .boolean)) 1 23 0 0 G X sz [(a0, .inr (17, [.int 4, .ref a2, .int 0])), (a2, .inl (G.2 5, 10, .inr (.inr (.inr (.inr (f0)))))), (a1, .inr (16, [.int 128]))] [.ref a0, .ref a1] (fun u => some (.int 1)) (fun u => [(a0, .inr (17, [.int 5, .ref a2, .int 1])), (a2, .inl (G.2 5, 10, .inr (.inr (.inr (.inr (va_up (f0) 0 (some a1))))))), (a1, .inr (16, [.int 128]))]) := by
  refine pz_onR (by decide +kernel) (Nat.le_of_ble_eq_true rfl) ?_
  intro p e s m below meth c A hx hb hr hml hown hts hlocks hin hx0 hP hK hD hS hA hE ls hl
  have hown : s.vm.findClass "java/util/ArrayList" = some m.cls := hown
  have hl : lv_has ls 2 [(0, .ref a0), (1, .ref a1)] := hl
  refine lv_aload_n hx hb dJx4a65c_add_9ea2d_0 rfl (lv_at hl 0 rfl) ?_
  refine lv_dup hx hb dJx4a65c_add_9ea2d_1 rfl ?_
  refine va_get (D := G.1) (ci := 17) (v := .int 4) (C := "java/util/ArrayList") (T := TJx4a65c) (N := 3) hx hb hts inJx4a65c hown hK hP 0 rfl rfl 0 (by decide) (hts _ wq_1805) (fun x9 h9 => u_same (hts _ wq_1804) x9 h9) rfl dJx4a65c_add_9ea2d_2 ?_
  refine lv_iconst (v := 1) hx hb dJx4a65c_add_9ea2d_5 (by decide) ?_
  refine lv_iadd hx hb dJx4a65c_add_9ea2d_6 (pz_K (y := 5) (by decide) ?_)
  refine va_put (D := G.1) (ci := 17) (v := .int 5) (ty := tyJx4a65c 0) (C := "java/util/ArrayList") (T := TJx4a65c) (N := 3) hx hb hts inJx4a65c tyJx4a65c tyJx4a65c_ok nmJx4a65c hown hK hP hD hS 0 rfl rfl 0 (by decide) (hts _ wq_1805) (fun x9 h9 => u_same (hts _ wq_1804) x9 h9) rfl (by decide +kernel) rfl rfl (Nat.le_of_ble_eq_true rfl) dJx4a65c_add_9ea2d_7 (fun H locs hP hD hS => ?_)
  have hP : va_P G.1 pz_cl [(a0, .inr (17, [.int 5, .ref a2, .int 0])), (a2, .inl (G.2 5, 10, .inr (.inr (.inr (.inr (f0)))))), (a1, .inr (16, [.int 128]))] H := hP
  have hD : va_D A [(a0, .inr (17, [.int 5, .ref a2, .int 0])), (a2, .inl (G.2 5, 10, .inr (.inr (.inr (.inr (f0)))))), (a1, .inr (16, [.int 128]))] := hD
  refine lv_aload_n hx hb dJx4a65c_add_9ea2d_10 rfl (lv_at hl 0 rfl) ?_
  refine lv_aload_n hx hb dJx4a65c_add_9ea2d_11 rfl (lv_at hl 1 rfl) ?_
  refine lv_aload_n hx hb dJx4a65c_add_9ea2d_12 rfl (lv_at hl 0 rfl) ?_
  refine va_get (D := G.1) (ci := 17) (v := .ref a2) (C := "java/util/ArrayList") (T := TJx4a65c) (N := 3) hx hb hts inJx4a65c hown hK hP 0 rfl rfl 1 (by decide) (hts _ wq_1798) (fun _ h9 => h9) rfl dJx4a65c_add_9ea2d_13 ?_
  refine lv_aload_n hx hb dJx4a65c_add_9ea2d_16 rfl (lv_at hl 0 rfl) ?_
  refine va_get (D := G.1) (ci := 17) (v := .int 0) (C := "java/util/ArrayList") (T := TJx4a65c) (N := 3) hx hb hts inJx4a65c hown hK hP 0 rfl rfl 2 (by decide) (hts _ wq_1801) (fun _ h9 => h9) rfl dJx4a65c_add_9ea2d_17 ?_
  refine pz_go (wr := []) (vx_runV (C := "java/util/ArrayList") (As := [.ref a1, .ref a2, .int 0]) (rest := []) ⟨hx, hb, hml, hown, hts⟩ (cJx4a65c_add_72be8_6 l hst G X H.size a0 a1 a2 f0) (cwV 3 hts (pz_gV wq_1874 wq_1876 wqs_84 wq_16 wq_1877) rfl rfl rfl (by decide +kernel) ⟨(Nat.le_of_ble_eq_true rfl), (Nat.le_of_ble_eq_true rfl)⟩) (pz_preV (C := ("java/util/ArrayList", TJx4a65c, 3)) hK hP hD hS hA hE 0 (ci := 17) rfl rfl [1, 2, 0] rfl rfl) rfl rfl hl.1 rfl (lv_room (Nat.le_of_ble_eq_true rfl)) dJx4a65c_add_9ea2d_20 ⟨(Nat.le_of_ble_eq_true rfl), (Nat.le_of_ble_eq_true rfl)⟩) hP hD hS hA [1, 2, 0] [] rfl rfl rfl (by decide) (fun u H locs hP hD hS => ?_)
  have hP : va_P G.1 pz_cl [(a2, .inl (G.2 5, 10, .inr (.inr (.inr (.inr (va_up (f0) 0 (some a1))))))), (a1, .inr (16, [.int 128])), (a0, .inr (17, [.int 5, .ref a2, .int 1]))] H := hP
  have hD : va_D A [(a2, .inl (G.2 5, 10, .inr (.inr (.inr (.inr (va_up (f0) 0 (some a1))))))), (a1, .inr (16, [.int 128])), (a0, .inr (17, [.int 5, .ref a2, .int 1]))] := hD
  refine W.eq (g2 := F0 m 23 ls []) rfl ?_
  refine lv_iconst (v := 1) hx hb dJx4a65c_add_9ea2d_23 (by decide) ?_
  exact pz_rz hx hb hr hlocks (by decide +kernel) hS (Nat.le_of_ble_eq_true rfl) (Nat.le_of_ble_eq_true rfl) dJx4a65c_add_9ea2d_24 () rfl (hP.sub [2, 0, 1] rfl) (hD.sub [2, 0, 1] rfl rfl)
set_option maxHeartbeats 4000000 in
set_option maxRecDepth 100000 in
theorem cJx4a65c_add_72be8_7 (l : Launch) (hst : l.stackTraces = false) (G : pz_G) (X : Nat → Nat) (sz : Nat) (a0 : Nat) (a1 : Nat) (a2 : Nat) (f0 : Nat → Option Nat) : pz_MR (S := Unit) l yJx4a65c_add_72be8 (pz_cd yJx4a65c_add_72be8 cJx4a65c_add_72be8 4 none) 0 0 0 0 G X sz [(a2, .inl (G.2 5, 10, .inr (.inr (.inr (.inr (f0)))))), (a1, .inr (16, [.int 255])), (a0, .inr (17, [.int 6, .ref a2, .int 1]))] [.ref a0, .ref a1, .ref a2, .int 1] (fun u => none) (fun u => [(a2, .inl (G.2 5, 10, .inr (.inr (.inr (.inr (va_up (f0) 1 (some a1))))))), (a1, .inr (16, [.int 255])), (a0, .inr (17, [.int 6, .ref a2, .int 2]))]) := by
  refine pz_onR (by decide +kernel) (Nat.le_of_ble_eq_true rfl) ?_
  intro p e s m below meth c A hx hb hr hml hown hts hlocks hin hx0 hP hK hD hS hA hE ls hl
  have hown : s.vm.findClass "java/util/ArrayList" = some m.cls := hown
  have hl : lv_has ls 4 [(0, .ref a0), (1, .ref a1), (2, .ref a2), (3, .int 1)] := hl
  refine lv_iload_n hx hb dJx4a65c_add_72be8_0 rfl (lv_at hl 3 rfl) ?_
  refine lv_aload_n hx hb dJx4a65c_add_72be8_1 rfl (lv_at hl 2 rfl) ?_
  refine va_alen (v := 10) hx hb hK hP 0 5 rfl rfl (by show Int32.ofNat 10 = 10; decide) dJx4a65c_add_72be8_2 ?_
  refine lv_icmp_ne (tgt := 11) hx hb dJx4a65c_add_72be8_3 (by decide) (fun _ => ?_) (fun hc => absurd hc (by decide))
  refine lv_aload_n hx hb dJx4a65c_add_72be8_11 rfl (lv_at hl 2 rfl) ?_
  refine lv_iload_n hx hb dJx4a65c_add_72be8_12 rfl (lv_at hl 3 rfl) ?_
  refine lv_aload_n hx hb dJx4a65c_add_72be8_13 rfl (lv_at hl 1 rfl) ?_
  refine vb_astq (E := "java/lang/Object") (C := "java/lang/Integer") hx hb hK hP hD hS 0 5 rfl rfl (va_recv hK hP (ci := 16) (q0 := 1) rfl rfl) (vb_asgC (hE.2.2.2.2.2.2.2.2.1 _ nx_3213)) (pz_vi rfl) dJx4a65c_add_72be8_14 (fun H locs hP hD hS => ?_)
  have hP : va_P G.1 pz_cl [(a2, .inl (G.2 5, 10, .inr (.inr (.inr (.inr (va_up (f0) 1 (some a1))))))), (a1, .inr (16, [.int 255])), (a0, .inr (17, [.int 6, .ref a2, .int 1]))] H := hP
  have hD : va_D A [(a2, .inl (G.2 5, 10, .inr (.inr (.inr (.inr (va_up (f0) 1 (some a1))))))), (a1, .inr (16, [.int 255])), (a0, .inr (17, [.int 6, .ref a2, .int 1]))] := hD
  refine lv_aload_n hx hb dJx4a65c_add_72be8_15 rfl (lv_at hl 0 rfl) ?_
  refine lv_iload_n hx hb dJx4a65c_add_72be8_16 rfl (lv_at hl 3 rfl) ?_
  refine lv_iconst (v := 1) hx hb dJx4a65c_add_72be8_17 (by decide) ?_
  refine lv_iadd hx hb dJx4a65c_add_72be8_18 (pz_K (y := 2) (by decide) ?_)
  refine va_put (D := G.1) (ci := 17) (v := .int 2) (ty := tyJx4a65c 2) (C := "java/util/ArrayList") (T := TJx4a65c) (N := 3) hx hb hts inJx4a65c tyJx4a65c tyJx4a65c_ok nmJx4a65c hown hK hP hD hS 2 rfl rfl 2 (by decide) (hts _ wq_1801) (fun _ h9 => h9) rfl (by decide +kernel) rfl rfl (Nat.le_of_ble_eq_true rfl) dJx4a65c_add_72be8_19 (fun H locs hP hD hS => ?_)
  have hP : va_P G.1 pz_cl [(a2, .inl (G.2 5, 10, .inr (.inr (.inr (.inr (va_up (f0) 1 (some a1))))))), (a1, .inr (16, [.int 255])), (a0, .inr (17, [.int 6, .ref a2, .int 2]))] H := hP
  have hD : va_D A [(a2, .inl (G.2 5, 10, .inr (.inr (.inr (.inr (va_up (f0) 1 (some a1))))))), (a1, .inr (16, [.int 255])), (a0, .inr (17, [.int 6, .ref a2, .int 2]))] := hD
  exact pz_rv hx hb hr hlocks hS (Nat.le_of_ble_eq_true rfl) (Nat.le_of_ble_eq_true rfl) dJx4a65c_add_72be8_22 () rfl (hP.sub [0, 1, 2] rfl) (hD.sub [0, 1, 2] rfl rfl)
set_option maxHeartbeats 4000000 in
set_option maxRecDepth 100000 in
theorem cJx4a65c_add_9ea2d_7 (l : Launch) (hst : l.stackTraces = false) (G : pz_G) (X : Nat → Nat) (sz : Nat) (a0 : Nat) (a1 : Nat) (a2 : Nat) (f0 : Nat → Option Nat) : pz_MR (S := Unit) l yJx4a65c_add_9ea2d (pz_cd yJx4a65c_add_9ea2d cJx4a65c_add_9ea2d 2 (some .boolean)) 1 23 0 0 G X sz [(a0, .inr (17, [.int 5, .ref a2, .int 1])), (a2, .inl (G.2 5, 10, .inr (.inr (.inr (.inr (f0)))))), (a1, .inr (16, [.int 255]))] [.ref a0, .ref a1] (fun u => some (.int 1)) (fun u => [(a0, .inr (17, [.int 6, .ref a2, .int 2])), (a2, .inl (G.2 5, 10, .inr (.inr (.inr (.inr (va_up (f0) 1 (some a1))))))), (a1, .inr (16, [.int 255]))]) := by
  refine pz_onR (by decide +kernel) (Nat.le_of_ble_eq_true rfl) ?_
  intro p e s m below meth c A hx hb hr hml hown hts hlocks hin hx0 hP hK hD hS hA hE ls hl
  have hown : s.vm.findClass "java/util/ArrayList" = some m.cls := hown
  have hl : lv_has ls 2 [(0, .ref a0), (1, .ref a1)] := hl
  refine lv_aload_n hx hb dJx4a65c_add_9ea2d_0 rfl (lv_at hl 0 rfl) ?_
  refine lv_dup hx hb dJx4a65c_add_9ea2d_1 rfl ?_
  refine va_get (D := G.1) (ci := 17) (v := .int 5) (C := "java/util/ArrayList") (T := TJx4a65c) (N := 3) hx hb hts inJx4a65c hown hK hP 0 rfl rfl 0 (by decide) (hts _ wq_1805) (fun x9 h9 => u_same (hts _ wq_1804) x9 h9) rfl dJx4a65c_add_9ea2d_2 ?_
  refine lv_iconst (v := 1) hx hb dJx4a65c_add_9ea2d_5 (by decide) ?_
  refine lv_iadd hx hb dJx4a65c_add_9ea2d_6 (pz_K (y := 6) (by decide) ?_)
  refine va_put (D := G.1) (ci := 17) (v := .int 6) (ty := tyJx4a65c 0) (C := "java/util/ArrayList") (T := TJx4a65c) (N := 3) hx hb hts inJx4a65c tyJx4a65c tyJx4a65c_ok nmJx4a65c hown hK hP hD hS 0 rfl rfl 0 (by decide) (hts _ wq_1805) (fun x9 h9 => u_same (hts _ wq_1804) x9 h9) rfl (by decide +kernel) rfl rfl (Nat.le_of_ble_eq_true rfl) dJx4a65c_add_9ea2d_7 (fun H locs hP hD hS => ?_)
  have hP : va_P G.1 pz_cl [(a0, .inr (17, [.int 6, .ref a2, .int 1])), (a2, .inl (G.2 5, 10, .inr (.inr (.inr (.inr (f0)))))), (a1, .inr (16, [.int 255]))] H := hP
  have hD : va_D A [(a0, .inr (17, [.int 6, .ref a2, .int 1])), (a2, .inl (G.2 5, 10, .inr (.inr (.inr (.inr (f0)))))), (a1, .inr (16, [.int 255]))] := hD
  refine lv_aload_n hx hb dJx4a65c_add_9ea2d_10 rfl (lv_at hl 0 rfl) ?_
  refine lv_aload_n hx hb dJx4a65c_add_9ea2d_11 rfl (lv_at hl 1 rfl) ?_
  refine lv_aload_n hx hb dJx4a65c_add_9ea2d_12 rfl (lv_at hl 0 rfl) ?_
  refine va_get (D := G.1) (ci := 17) (v := .ref a2) (C := "java/util/ArrayList") (T := TJx4a65c) (N := 3) hx hb hts inJx4a65c hown hK hP 0 rfl rfl 1 (by decide) (hts _ wq_1798) (fun _ h9 => h9) rfl dJx4a65c_add_9ea2d_13 ?_
  refine lv_aload_n hx hb dJx4a65c_add_9ea2d_16 rfl (lv_at hl 0 rfl) ?_
  refine va_get (D := G.1) (ci := 17) (v := .int 1) (C := "java/util/ArrayList") (T := TJx4a65c) (N := 3) hx hb hts inJx4a65c hown hK hP 0 rfl rfl 2 (by decide) (hts _ wq_1801) (fun _ h9 => h9) rfl dJx4a65c_add_9ea2d_17 ?_
  refine pz_go (wr := []) (vx_runV (C := "java/util/ArrayList") (As := [.ref a1, .ref a2, .int 1]) (rest := []) ⟨hx, hb, hml, hown, hts⟩ (cJx4a65c_add_72be8_7 l hst G X H.size a0 a1 a2 f0) (cwV 3 hts (pz_gV wq_1874 wq_1876 wqs_84 wq_16 wq_1877) rfl rfl rfl (by decide +kernel) ⟨(Nat.le_of_ble_eq_true rfl), (Nat.le_of_ble_eq_true rfl)⟩) (pz_preV (C := ("java/util/ArrayList", TJx4a65c, 3)) hK hP hD hS hA hE 0 (ci := 17) rfl rfl [1, 2, 0] rfl rfl) rfl rfl hl.1 rfl (lv_room (Nat.le_of_ble_eq_true rfl)) dJx4a65c_add_9ea2d_20 ⟨(Nat.le_of_ble_eq_true rfl), (Nat.le_of_ble_eq_true rfl)⟩) hP hD hS hA [1, 2, 0] [] rfl rfl rfl (by decide) (fun u H locs hP hD hS => ?_)
  have hP : va_P G.1 pz_cl [(a2, .inl (G.2 5, 10, .inr (.inr (.inr (.inr (va_up (f0) 1 (some a1))))))), (a1, .inr (16, [.int 255])), (a0, .inr (17, [.int 6, .ref a2, .int 2]))] H := hP
  have hD : va_D A [(a2, .inl (G.2 5, 10, .inr (.inr (.inr (.inr (va_up (f0) 1 (some a1))))))), (a1, .inr (16, [.int 255])), (a0, .inr (17, [.int 6, .ref a2, .int 2]))] := hD
  refine W.eq (g2 := F0 m 23 ls []) rfl ?_
  refine lv_iconst (v := 1) hx hb dJx4a65c_add_9ea2d_23 (by decide) ?_
  exact pz_rz hx hb hr hlocks (by decide +kernel) hS (Nat.le_of_ble_eq_true rfl) (Nat.le_of_ble_eq_true rfl) dJx4a65c_add_9ea2d_24 () rfl (hP.sub [2, 0, 1] rfl) (hD.sub [2, 0, 1] rfl rfl)
set_option maxHeartbeats 4000000 in
set_option maxRecDepth 100000 in
theorem cX15_goTo_2 (l : Launch) (hst : l.stackTraces = false) (G : pz_G) (X : Nat → Nat) (sz : Nat) (a0 : Nat) (a1 : Nat) (a2 : Nat) (a3 : Nat) (a4 : Nat) (f0 : Nat → Option Nat) : pz_MR (S := Nat × Nat) l yX15_goTo (pz_cd yX15_goTo cX15_goTo 2 none) 4 73 2 2 G X sz [(a0, .inr (14, [.ref a3, .int 0, .ref a1, .ref a4, .null, .int 0])), (a1, .inr (17, [.int 4, .ref a2, .int 0])), (a2, .inl (G.2 5, 10, .inr (.inr (.inr (.inr (f0))))))] [.ref a0, .int 255] (fun u => none) (fun u => [(a0, .inr (14, [.ref a3, .int 0, .ref a1, .ref a4, .null, .int 0])), (a1, .inr (17, [.int 6, .ref a2, .int 2])), (a2, .inl (G.2 5, 10, .inr (.inr (.inr (.inr (va_up (va_up (f0) 0 (some u.1)) 1 (some u.2))))))), (u.1, .inr (16, [.int 128])), (u.2, .inr (16, [.int 255]))]) := by
  refine pz_onR (by decide +kernel) (Nat.le_of_ble_eq_true rfl) ?_
  intro p e s m below meth c A hx hb hr hml hown hts hlocks hin hx0 hP hK hD hS hA hE ls hl
  have hown : s.vm.findClass "SourcewrightModel$Writer" = some m.cls := hown
  have hl : lv_has ls 2 [(0, .ref a0), (1, .int 255)] := hl
  refine lv_aload_n hx hb dX15_goTo_0 rfl (lv_at hl 0 rfl) ?_
  refine va_get (D := G.1) (ci := 14) (v := .ref a1) (C := "SourcewrightModel$Writer") (T := TX15) (N := 6) hx hb hts inX15 hown hK hP 0 rfl rfl 2 (by decide) (hts _ wq_3026) (fun _ h9 => h9) rfl dX15_goTo_1 ?_
  refine lv_sipush (v := 128) hx hb dX15_goTo_4 (by decide) ?_
  refine pz_go (wr := [(a0, .inr (14, [.ref a3, .int 0, .ref a1, .ref a4, .null, .int 0])), (a1, .inr (17, [.int 4, .ref a2, .int 0])), (a2, .inl (G.2 5, 10, .inr (.inr (.inr (.inr (f0))))))]) (vx_runS (As := [.int 128]) (rest := [.ref a1]) ⟨hx, hb, hml, hown, hts⟩ (cJ6_valueOf_2dffe_4 l hst G X s.heap.size) (va_cwS 1 hts (pz_gS wq_2979 wq_1851 wq_24 wq_1852) rfl rfl rfl (by decide +kernel) ⟨(Nat.le_of_ble_eq_true rfl), (Nat.le_of_ble_eq_true rfl)⟩) (pz_preS hK hP hD hS hA hE [] rfl rfl) rfl rfl hl.1 rfl (lv_room (Nat.le_of_ble_eq_true rfl)) dX15_goTo_7 ⟨(Nat.le_of_ble_eq_true rfl), (Nat.le_of_ble_eq_true rfl)⟩) hP hD hS hA [] [0, 1, 2] rfl rfl rfl (by decide) (fun q1 H locs hP hD hS => ?_)
  have hP : va_P G.1 pz_cl [(a0, .inr (14, [.ref a3, .int 0, .ref a1, .ref a4, .null, .int 0])), (a1, .inr (17, [.int 4, .ref a2, .int 0])), (a2, .inl (G.2 5, 10, .inr (.inr (.inr (.inr (f0)))))), (q1, .inr (16, [.int 128]))] H := hP
  have hD : va_D A [(a0, .inr (14, [.ref a3, .int 0, .ref a1, .ref a4, .null, .int 0])), (a1, .inr (17, [.int 4, .ref a2, .int 0])), (a2, .inl (G.2 5, 10, .inr (.inr (.inr (.inr (f0)))))), (q1, .inr (16, [.int 128]))] := hD
  refine W.eq (g2 := F0 m 10 ls [.ref q1, .ref a1]) rfl ?_
  refine pz_go (wr := [(a0, .inr (14, [.ref a3, .int 0, .ref a1, .ref a4, .null, .int 0]))]) (vx_runV (C := "java/util/ArrayList") (As := [.ref q1]) (rest := []) ⟨hx, hb, hml, hown, hts⟩ (cJx4a65c_add_9ea2d_6 l hst G X H.size a1 q1 a2 f0) (cwV 1 hts (pz_gV wq_2980 wq_1871 wq_1872 wq_16 wq_1873) rfl rfl rfl (by decide +kernel) ⟨(Nat.le_of_ble_eq_true rfl), (Nat.le_of_ble_eq_true rfl)⟩) (pz_preV (C := ("java/util/ArrayList", TJx4a65c, 3)) hK hP hD hS hA hE 1 (ci := 17) rfl rfl [1, 2, 3] rfl rfl) rfl rfl hl.1 rfl (lv_room (Nat.le_of_ble_eq_true rfl)) dX15_goTo_10 ⟨(Nat.le_of_ble_eq_true rfl), (Nat.le_of_ble_eq_true rfl)⟩) hP hD hS hA [1, 2, 3] [0] rfl rfl rfl (by decide) (fun u H locs hP hD hS => ?_)
  have hP : va_P G.1 pz_cl [(a0, .inr (14, [.ref a3, .int 0, .ref a1, .ref a4, .null, .int 0])), (a1, .inr (17, [.int 5, .ref a2, .int 1])), (a2, .inl (G.2 5, 10, .inr (.inr (.inr (.inr (va_up (f0) 0 (some q1))))))), (q1, .inr (16, [.int 128]))] H := hP
  have hD : va_D A [(a0, .inr (14, [.ref a3, .int 0, .ref a1, .ref a4, .null, .int 0])), (a1, .inr (17, [.int 5, .ref a2, .int 1])), (a2, .inl (G.2 5, 10, .inr (.inr (.inr (.inr (va_up (f0) 0 (some q1))))))), (q1, .inr (16, [.int 128]))] := hD
  refine W.eq (g2 := F0 m 13 ls [.int 1]) rfl ?_
  refine lv_pop hx hb dX15_goTo_13 rfl ?_
  refine lv_aload_n hx hb dX15_goTo_14 rfl (lv_at hl 0 rfl) ?_
  refine va_get (D := G.1) (ci := 14) (v := .ref a1) (C := "SourcewrightModel$Writer") (T := TX15) (N := 6) hx hb hts inX15 hown hK hP 0 rfl rfl 2 (by decide) (hts _ wq_3026) (fun _ h9 => h9) rfl dX15_goTo_15 ?_
  refine lv_iload_n hx hb dX15_goTo_18 rfl (lv_at hl 1 rfl) ?_
  refine lv_sipush (v := 256) hx hb dX15_goTo_19 (by decide) ?_
  refine lv_irem hx hb dX15_goTo_22 (by decide) (pz_K (y := 255) (by decide) ?_)
  refine pz_go (wr := [(a0, .inr (14, [.ref a3, .int 0, .ref a1, .ref a4, .null, .int 0])), (a1, .inr (17, [.int 5, .ref a2, .int 1])), (a2, .inl (G.2 5, 10, .inr (.inr (.inr (.inr (va_up (f0) 0 (some q1))))))), (q1, .inr (16, [.int 128]))]) (vx_runS (As := [.int 255]) (rest := [.ref a1]) ⟨hx, hb, hml, hown, hts⟩ (cJ6_valueOf_2dffe_5 l hst G X H.size) (va_cwS 1 hts (pz_gS wq_2979 wq_1851 wq_24 wq_1852) rfl rfl rfl (by decide +kernel) ⟨(Nat.le_of_ble_eq_true rfl), (Nat.le_of_ble_eq_true rfl)⟩) (pz_preS hK hP hD hS hA hE [] rfl rfl) rfl rfl hl.1 rfl (lv_room (Nat.le_of_ble_eq_true rfl)) dX15_goTo_23 ⟨(Nat.le_of_ble_eq_true rfl), (Nat.le_of_ble_eq_true rfl)⟩) hP hD hS hA [] [0, 1, 2, 3] rfl rfl rfl (by decide) (fun q2 H locs hP hD hS => ?_)
  have hP : va_P G.1 pz_cl [(a0, .inr (14, [.ref a3, .int 0, .ref a1, .ref a4, .null, .int 0])), (a1, .inr (17, [.int 5, .ref a2, .int 1])), (a2, .inl (G.2 5, 10, .inr (.inr (.inr (.inr (va_up (f0) 0 (some q1))))))), (q1, .inr (16, [.int 128])), (q2, .inr (16, [.int 255]))] H := hP
  have hD : va_D A [(a0, .inr (14, [.ref a3, .int 0, .ref a1, .ref a4, .null, .int 0])), (a1, .inr (17, [.int 5, .ref a2, .int 1])), (a2, .inl (G.2 5, 10, .inr (.inr (.inr (.inr (va_up (f0) 0 (some q1))))))), (q1, .inr (16, [.int 128])), (q2, .inr (16, [.int 255]))] := hD
  refine W.eq (g2 := F0 m 26 ls [.ref q2, .ref a1]) rfl ?_
  refine pz_go (wr := [(a0, .inr (14, [.ref a3, .int 0, .ref a1, .ref a4, .null, .int 0])), (q1, .inr (16, [.int 128]))]) (vx_runV (C := "java/util/ArrayList") (As := [.ref q2]) (rest := []) ⟨hx, hb, hml, hown, hts⟩ (cJx4a65c_add_9ea2d_7 l hst G X H.size a1 q2 a2 (va_up (f0) 0 (some q1))) (cwV 1 hts (pz_gV wq_2980 wq_1871 wq_1872 wq_16 wq_1873) rfl rfl rfl (by decide +kernel) ⟨(Nat.le_of_ble_eq_true rfl), (Nat.le_of_ble_eq_true rfl)⟩) (pz_preV (C := ("java/util/ArrayList", TJx4a65c, 3)) hK hP hD hS hA hE 1 (ci := 17) rfl rfl [1, 2, 4] rfl rfl) rfl rfl hl.1 rfl (lv_room (Nat.le_of_ble_eq_true rfl)) dX15_goTo_26 ⟨(Nat.le_of_ble_eq_true rfl), (Nat.le_of_ble_eq_true rfl)⟩) hP hD hS hA [1, 2, 4] [0, 3] rfl rfl rfl (by decide) (fun u H locs hP hD hS => ?_)
  have hP : va_P G.1 pz_cl [(a0, .inr (14, [.ref a3, .int 0, .ref a1, .ref a4, .null, .int 0])), (q1, .inr (16, [.int 128])), (a1, .inr (17, [.int 6, .ref a2, .int 2])), (a2, .inl (G.2 5, 10, .inr (.inr (.inr (.inr (va_up (va_up (f0) 0 (some q1)) 1 (some q2))))))), (q2, .inr (16, [.int 255]))] H := hP
  have hD : va_D A [(a0, .inr (14, [.ref a3, .int 0, .ref a1, .ref a4, .null, .int 0])), (q1, .inr (16, [.int 128])), (a1, .inr (17, [.int 6, .ref a2, .int 2])), (a2, .inl (G.2 5, 10, .inr (.inr (.inr (.inr (va_up (va_up (f0) 0 (some q1)) 1 (some q2))))))), (q2, .inr (16, [.int 255]))] := hD
  refine W.eq (g2 := F0 m 29 ls [.int 1]) rfl ?_
  refine lv_pop hx hb dX15_goTo_29 rfl ?_
  exact pz_rv hx hb hr hlocks hS (Nat.le_of_ble_eq_true rfl) (Nat.le_of_ble_eq_true rfl) dX15_goTo_30 (q1, q2) rfl (hP.sub [0, 2, 3, 1, 4] rfl) (hD.sub [0, 2, 3, 1, 4] rfl rfl)
set_option maxHeartbeats 4000000 in
set_option maxRecDepth 100000 in
theorem cX15_init_1 (l : Launch) (hst : l.stackTraces = false) (G : pz_G) (X : Nat → Nat) (sz : Nat) (a0 : Nat) (a1 : Nat) (a2 : Nat) (a3 : Nat) (a4 : Nat) (a5 : Nat) (f0 : Nat → Int32) : pz_MR (S := Nat × Nat × Nat × Nat × Nat × Nat × Nat) l yX15_init (pz_cd yX15_init cX15_init 4 none) 6 122 7 17 G X sz [(a0, .inr (14, [.null, .int 0, .null, .null, .null, .int 0])), (a1, .inr (12, [.ref a3, .ref a4, .ref a5, .ref a2])), (a2, .inr (17, [.int 0, .ref (X 3), .int 0])), (a3, .inl (G.2 0, 0, .inl (f0)))] [.ref a0, .ref a1, .int 0] (fun u => none) (fun u => [(a0, .inr (14, [.ref a1, .int 0, .ref u.1, .ref u.2.1, .null, .int 0])), (a1, .inr (12, [.ref a3, .ref a4, .ref a5, .ref a2])), (a2, .inr (17, [.int 0, .ref (X 3), .int 0])), (a3, .inl (G.2 0, 0, .inl (f0))), (u.2.1, .inl (G.2 6, 0, .inr (.inr (.inr (.inr (fun _ => none)))))), (u.2.2.1, .inr (16, [.int 128])), (u.2.2.2.2.1, .inr (16, [.int 255])), (u.1, .inr (17, [.int 6, .ref u.2.2.2.1, .int 2])), (u.2.2.2.1, .inl (G.2 5, 10, .inr (.inr (.inr (.inr (va_up (va_up (va_up (va_up (va_up (va_up (fun _ => none) 0 (some u.2.2.1)) 1 (some u.2.2.2.2.1)) 0 none) 1 none) 0 (some u.2.2.2.2.2.1)) 1 (some u.2.2.2.2.2.2))))))), (u.2.2.2.2.2.1, .inr (16, [.int 128])), (u.2.2.2.2.2.2, .inr (16, [.int 255]))]) := by
  refine pz_onR (by decide +kernel) (Nat.le_of_ble_eq_true rfl) ?_
  intro p e s m below meth c A hx hb hr hml hown hts hlocks hin hx0 hP hK hD hS hA hE ls hl
  have hown : s.vm.findClass "SourcewrightModel$Writer" = some m.cls := hown
  have hl : lv_has ls 4 [(0, .ref a0), (1, .ref a1), (2, .int 0)] := hl
  refine lv_aload_n hx hb dX15_init_0 rfl (lv_at hl 0 rfl) ?_
  refine W.objInit hx hb hown (hts _ wq_2964) (hts _ wq_54) (hts _ wq_55) rfl (by rw [hml]; exact hl.1) rfl dX15_init_1 (Nat.le_of_ble_eq_true rfl) (Nat.le_of_ble_eq_true rfl) ?_
  refine W.eq (g2 := F0 m 4 ls []) rfl ?_
  refine lv_aload_n hx hb dX15_init_4 rfl (lv_at hl 0 rfl) ?_
  refine va_new (ci := 17) (fs := [.int 0, .null, .int 0]) (C := "java/util/ArrayList") (T := TJx4a65c) (N := 3) hx hb hts inJx4a65c tyJx4a65c tyJx4a65c_ok hown (hts _ wq_2965) (hts _ wq_1785) (hts _ wq_16) hK hP hD hS hA rfl (pz_dfJx4a65c) (Nat.le_of_ble_eq_true rfl) (Nat.le_of_ble_eq_true rfl) dX15_init_5 (fun q1 H hP hD hS => ?_)
  have hP : va_P G.1 pz_cl [(a0, .inr (14, [.null, .int 0, .null, .null, .null, .int 0])), (a1, .inr (12, [.ref a3, .ref a4, .ref a5, .ref a2])), (a2, .inr (17, [.int 0, .ref (X 3), .int 0])), (a3, .inl (G.2 0, 0, .inl (f0))), (q1, .inr (17, [.int 0, .null, .int 0]))] H := hP
  have hD : va_D A [(a0, .inr (14, [.null, .int 0, .null, .null, .null, .int 0])), (a1, .inr (12, [.ref a3, .ref a4, .ref a5, .ref a2])), (a2, .inr (17, [.int 0, .ref (X 3), .int 0])), (a3, .inl (G.2 0, 0, .inl (f0))), (q1, .inr (17, [.int 0, .null, .int 0]))] := hD
  refine lv_dup hx hb dX15_init_8 rfl ?_
  refine pz_go (wr := [(a0, .inr (14, [.null, .int 0, .null, .null, .null, .int 0])), (a1, .inr (12, [.ref a3, .ref a4, .ref a5, .ref a2])), (a2, .inr (17, [.int 0, .ref (X 3), .int 0])), (a3, .inl (G.2 0, 0, .inl (f0)))]) (vx_runI (As := []) (rest := [.ref q1, .ref a0]) ⟨hx, hb, hml, hown, hts⟩ (cJx4a65c_init_da8c8_1 l hst G X H.size q1) (cwI 0 hts (pz_gC wq_1788) rfl rfl rfl (hts _ wq_16) (hts _ wq_2966) (hts _ wq_1787) rfl (by decide +kernel) ⟨(Nat.le_of_ble_eq_true rfl), (Nat.le_of_ble_eq_true rfl)⟩) (pz_preS hK hP hD hS hA hE [4] rfl rfl) rfl rfl hl.1 rfl (lv_room (Nat.le_of_ble_eq_true rfl)) dX15_init_9 ⟨(Nat.le_of_ble_eq_true rfl), (Nat.le_of_ble_eq_true rfl)⟩) hP hD hS hA [4] [0, 1, 2, 3] rfl rfl rfl (by decide) (fun u H locs hP hD hS => ?_)
  have hP : va_P G.1 pz_cl [(a0, .inr (14, [.null, .int 0, .null, .null, .null, .int 0])), (a1, .inr (12, [.ref a3, .ref a4, .ref a5, .ref a2])), (a2, .inr (17, [.int 0, .ref (X 3), .int 0])), (a3, .inl (G.2 0, 0, .inl (f0))), (q1, .inr (17, [.int 0, .ref (X 3), .int 0]))] H := hP
  have hD : va_D A [(a0, .inr (14, [.null, .int 0, .null, .null, .null, .int 0])), (a1, .inr (12, [.ref a3, .ref a4, .ref a5, .ref a2])), (a2, .inr (17, [.int 0, .ref (X 3), .int 0])), (a3, .inl (G.2 0, 0, .inl (f0))), (q1, .inr (17, [.int 0, .ref (X 3), .int 0]))] := hD
  refine W.eq (g2 := F0 m 12 ls [.ref q1, .ref a0]) rfl ?_
  refine va_putF (D := G.1) (ci := 14) (v := .ref q1) (ty := tyX15 2) (C := "SourcewrightModel$Writer") (T := TX15) (N := 6) hx hb hts inX15 tyX15 tyX15_ok nmX15 hown hK hP hD hS 0 rfl rfl 2 (by decide) (hts _ wq_3026) (fun _ h9 => h9) rfl hin rfl (by decide +kernel) rfl rfl (Nat.le_of_ble_eq_true rfl) dX15_init_12 (fun H locs hP hD hS => ?_)
  have hP : va_P G.1 pz_cl [(a0, .inr (14, [.null, .int 0, .ref q1, .null, .null, .int 0])), (a1, .inr (12, [.ref a3, .ref a4, .ref a5, .ref a2])), (a2, .inr (17, [.int 0, .ref (X 3), .int 0])), (a3, .inl (G.2 0, 0, .inl (f0))), (q1, .inr (17, [.int 0, .ref (X 3), .int 0]))] H := hP
  have hD : va_D A [(a0, .inr (14, [.null, .int 0, .ref q1, .null, .null, .int 0])), (a1, .inr (12, [.ref a3, .ref a4, .ref a5, .ref a2])), (a2, .inr (17, [.int 0, .ref (X 3), .int 0])), (a3, .inl (G.2 0, 0, .inl (f0))), (q1, .inr (17, [.int 0, .ref (X 3), .int 0]))] := hD
  refine lv_aload_n hx hb dX15_init_15 rfl (lv_at hl 0 rfl) ?_
  refine lv_aload_n hx hb dX15_init_16 rfl (lv_at hl 1 rfl) ?_
  refine va_putF (D := G.1) (ci := 14) (v := .ref a1) (ty := tyX15 0) (C := "SourcewrightModel$Writer") (T := TX15) (N := 6) hx hb hts inX15 tyX15 tyX15_ok nmX15 hown hK hP hD hS 0 rfl rfl 0 (by decide) (hts _ wq_3024) (fun _ h9 => h9) rfl hin rfl (by decide +kernel) rfl rfl (Nat.le_of_ble_eq_true rfl) dX15_init_17 (fun H locs hP hD hS => ?_)
  have hP : va_P G.1 pz_cl [(a0, .inr (14, [.ref a1, .int 0, .ref q1, .null, .null, .int 0])), (a1, .inr (12, [.ref a3, .ref a4, .ref a5, .ref a2])), (a2, .inr (17, [.int 0, .ref (X 3), .int 0])), (a3, .inl (G.2 0, 0, .inl (f0))), (q1, .inr (17, [.int 0, .ref (X 3), .int 0]))] H := hP
  have hD : va_D A [(a0, .inr (14, [.ref a1, .int 0, .ref q1, .null, .null, .int 0])), (a1, .inr (12, [.ref a3, .ref a4, .ref a5, .ref a2])), (a2, .inr (17, [.int 0, .ref (X 3), .int 0])), (a3, .inl (G.2 0, 0, .inl (f0))), (q1, .inr (17, [.int 0, .ref (X 3), .int 0]))] := hD
  refine lv_aload_n hx hb dX15_init_20 rfl (lv_at hl 0 rfl) ?_
  refine lv_iload_n hx hb dX15_init_21 rfl (lv_at hl 2 rfl) ?_
  refine va_putF (D := G.1) (ci := 14) (v := .int 0) (ty := tyX15 1) (C := "SourcewrightModel$Writer") (T := TX15) (N := 6) hx hb hts inX15 tyX15 tyX15_ok nmX15 hown hK hP hD hS 0 rfl rfl 1 (by decide) (hts _ wq_3025) (fun _ h9 => h9) rfl hin rfl (by decide +kernel) (by decide +kernel) (by decide +kernel) (Nat.le_of_ble_eq_true rfl) dX15_init_22 (fun H locs hP hD hS => ?_)
  have hP : va_P G.1 pz_cl [(a0, .inr (14, [.ref a1, .int 0, .ref q1, .null, .null, .int 0])), (a1, .inr (12, [.ref a3, .ref a4, .ref a5, .ref a2])), (a2, .inr (17, [.int 0, .ref (X 3), .int 0])), (a3, .inl (G.2 0, 0, .inl (f0))), (q1, .inr (17, [.int 0, .ref (X 3), .int 0]))] H := hP
  have hD : va_D A [(a0, .inr (14, [.ref a1, .int 0, .ref q1, .null, .null, .int 0])), (a1, .inr (12, [.ref a3, .ref a4, .ref a5, .ref a2])), (a2, .inr (17, [.int 0, .ref (X 3), .int 0])), (a3, .inl (G.2 0, 0, .inl (f0))), (q1, .inr (17, [.int 0, .ref (X 3), .int 0]))] := hD
  refine lv_aload_n hx hb dX15_init_25 rfl (lv_at hl 0 rfl) ?_
  refine lv_aload_n hx hb dX15_init_26 rfl (lv_at hl 1 rfl) ?_
  refine va_getN (D := G.1) (ci := 12) (v := .ref a2) (C := "SourcewrightModel$Reading") (T := TX13) (N := 4) hx hb hts inX13 hown hK hP 1 rfl rfl 3 (by decide) (va_Nw.use rfl (hE.2.2.2.2.2.2.2.2.1 _ nx_2345)) (fun _ h9 => h9) rfl dX15_init_27 ?_
  refine pz_go (wr := [(a0, .inr (14, [.ref a1, .int 0, .ref q1, .null, .null, .int 0])), (a1, .inr (12, [.ref a3, .ref a4, .ref a5, .ref a2])), (a3, .inl (G.2 0, 0, .inl (f0))), (q1, .inr (17, [.int 0, .ref (X 3), .int 0]))]) (vx_runV (C := "java/util/ArrayList") (As := []) (rest := [.ref a0]) ⟨hx, hb, hml, hown, hts⟩ (cJx4a65c_size_8abf5_1 l hst G X H.size a2) (cwV 0 hts (pz_gV wq_2967 wq_1847 wq_1848 wq_16 wq_1849) rfl rfl rfl (by decide +kernel) ⟨(Nat.le_of_ble_eq_true rfl), (Nat.le_of_ble_eq_true rfl)⟩) (pz_preV (C := ("java/util/ArrayList", TJx4a65c, 3)) hK hP hD hS hA hE 2 (ci := 17) rfl rfl [2] rfl rfl) rfl rfl hl.1 rfl (lv_room (Nat.le_of_ble_eq_true rfl)) dX15_init_30 ⟨(Nat.le_of_ble_eq_true rfl), (Nat.le_of_ble_eq_true rfl)⟩) hP hD hS hA [2] [0, 1, 3, 4] rfl rfl rfl (by decide) (fun u H locs hP hD hS => ?_)
  have hP : va_P G.1 pz_cl [(a0, .inr (14, [.ref a1, .int 0, .ref q1, .null, .null, .int 0])), (a1, .inr (12, [.ref a3, .ref a4, .ref a5, .ref a2])), (a3, .inl (G.2 0, 0, .inl (f0))), (q1, .inr (17, [.int 0, .ref (X 3), .int 0])), (a2, .inr (17, [.int 0, .ref (X 3), .int 0]))] H := hP
  have hD : va_D A [(a0, .inr (14, [.ref a1, .int 0, .ref q1, .null, .null, .int 0])), (a1, .inr (12, [.ref a3, .ref a4, .ref a5, .ref a2])), (a3, .inl (G.2 0, 0, .inl (f0))), (q1, .inr (17, [.int 0, .ref (X 3), .int 0])), (a2, .inr (17, [.int 0, .ref (X 3), .int 0]))] := hD
  refine W.eq (g2 := F0 m 33 ls [.int 0, .ref a0]) rfl ?_
  refine lv_aload_n hx hb dX15_init_33 rfl (lv_at hl 1 rfl) ?_
  refine va_getN (D := G.1) (ci := 12) (v := .ref a3) (C := "SourcewrightModel$Reading") (T := TX13) (N := 4) hx hb hts inX13 hown hK hP 1 rfl rfl 0 (by decide) (va_Nw.use rfl (hE.2.2.2.2.2.2.2.2.1 _ nx_2340)) (fun _ h9 => h9) rfl dX15_init_34 ?_
  refine va_alen (v := 0) hx hb hK hP 2 0 rfl rfl (by show Int32.ofNat 0 = 0; decide) dX15_init_37 ?_
  refine pz_mna0 hx hb hown (hts _ wq_2968) hE.2.2.2.2.2.2.2.2.2.2.2.1 (hts _ wq_72) hK hP hD hS hA (Nat.le_of_ble_eq_true rfl) (Nat.le_of_ble_eq_true rfl) dX15_init_38 (fun q2 H hP hD hS => ?_)
  have hP : va_P G.1 pz_cl [(a0, .inr (14, [.ref a1, .int 0, .ref q1, .null, .null, .int 0])), (a1, .inr (12, [.ref a3, .ref a4, .ref a5, .ref a2])), (a3, .inl (G.2 0, 0, .inl (f0))), (q1, .inr (17, [.int 0, .ref (X 3), .int 0])), (a2, .inr (17, [.int 0, .ref (X 3), .int 0])), (q2, .inl (G.2 6, 0, .inr (.inr (.inr (.inr (fun _ => none))))))] H := hP
  have hD : va_D A [(a0, .inr (14, [.ref a1, .int 0, .ref q1, .null, .null, .int 0])), (a1, .inr (12, [.ref a3, .ref a4, .ref a5, .ref a2])), (a3, .inl (G.2 0, 0, .inl (f0))), (q1, .inr (17, [.int 0, .ref (X 3), .int 0])), (a2, .inr (17, [.int 0, .ref (X 3), .int 0])), (q2, .inl (G.2 6, 0, .inr (.inr (.inr (.inr (fun _ => none))))))] := hD
  refine va_putF (D := G.1) (ci := 14) (v := .ref q2) (ty := tyX15 3) (C := "SourcewrightModel$Writer") (T := TX15) (N := 6) hx hb hts inX15 tyX15 tyX15_ok nmX15 hown hK hP hD hS 0 rfl rfl 3 (by decide) (hts _ wq_3028) (fun _ h9 => h9) rfl hin rfl (by decide +kernel) rfl rfl (Nat.le_of_ble_eq_true rfl) dX15_init_42 (fun H locs hP hD hS => ?_)
  have hP : va_P G.1 pz_cl [(a0, .inr (14, [.ref a1, .int 0, .ref q1, .ref q2, .null, .int 0])), (a1, .inr (12, [.ref a3, .ref a4, .ref a5, .ref a2])), (a3, .inl (G.2 0, 0, .inl (f0))), (q1, .inr (17, [.int 0, .ref (X 3), .int 0])), (a2, .inr (17, [.int 0, .ref (X 3), .int 0])), (q2, .inl (G.2 6, 0, .inr (.inr (.inr (.inr (fun _ => none))))))] H := hP
  have hD : va_D A [(a0, .inr (14, [.ref a1, .int 0, .ref q1, .ref q2, .null, .int 0])), (a1, .inr (12, [.ref a3, .ref a4, .ref a5, .ref a2])), (a3, .inl (G.2 0, 0, .inl (f0))), (q1, .inr (17, [.int 0, .ref (X 3), .int 0])), (a2, .inr (17, [.int 0, .ref (X 3), .int 0])), (q2, .inl (G.2 6, 0, .inr (.inr (.inr (.inr (fun _ => none))))))] := hD
  refine lv_iconst (v := 0) hx hb dX15_init_45 (by decide) ?_
  refine lv_istore_n (lv' := [(3, .int 0), (0, .ref a0), (1, .ref a1), (2, .int 0)]) hx hb dX15_init_46 rfl hl (by decide) rfl (fun ls hl => ?_)
  refine lv_iload_n hx hb dX15_init_47 rfl (lv_at hl 0 rfl) ?_
  refine lv_iconst (v := 2) hx hb dX15_init_48 (by decide) ?_
  refine lv_icmp_ge (tgt := 142) hx hb dX15_init_49 (by decide) (fun hc => absurd hc (by decide)) (fun _ => ?_)
  refine lv_aload_n hx hb dX15_init_52 rfl (lv_at hl 1 rfl) ?_
  refine va_get (D := G.1) (ci := 14) (v := .ref q1) (C := "SourcewrightModel$Writer") (T := TX15) (N := 6) hx hb hts inX15 hown hK hP 0 rfl rfl 2 (by decide) (hts _ wq_3026) (fun _ h9 => h9) rfl dX15_init_53 ?_
  refine pz_go (wr := [(a0, .inr (14, [.ref a1, .int 0, .ref q1, .ref q2, .null, .int 0])), (a1, .inr (12, [.ref a3, .ref a4, .ref a5, .ref a2])), (a3, .inl (G.2 0, 0, .inl (f0))), (a2, .inr (17, [.int 0, .ref (X 3), .int 0])), (q2, .inl (G.2 6, 0, .inr (.inr (.inr (.inr (fun _ => none))))))]) (vx_runV (C := "java/util/ArrayList") (As := []) (rest := []) ⟨hx, hb, hml, hown, hts⟩ (cJx4a65c_clear_da8c8_1 l hst G X H.size q1) (cwV 0 hts (pz_gV wq_2969 wq_1971 wq_1972 wq_16 wq_1973) rfl rfl rfl (by decide +kernel) ⟨(Nat.le_of_ble_eq_true rfl), (Nat.le_of_ble_eq_true rfl)⟩) (pz_preV (C := ("java/util/ArrayList", TJx4a65c, 3)) hK hP hD hS hA hE 3 (ci := 17) rfl rfl [3] rfl rfl) rfl rfl hl.1 rfl (lv_room (Nat.le_of_ble_eq_true rfl)) dX15_init_56 ⟨(Nat.le_of_ble_eq_true rfl), (Nat.le_of_ble_eq_true rfl)⟩) hP hD hS hA [3] [0, 1, 2, 4, 5] rfl rfl rfl (by decide) (fun u H locs hP hD hS => ?_)
  have hP : va_P G.1 pz_cl [(a0, .inr (14, [.ref a1, .int 0, .ref q1, .ref q2, .null, .int 0])), (a1, .inr (12, [.ref a3, .ref a4, .ref a5, .ref a2])), (a3, .inl (G.2 0, 0, .inl (f0))), (a2, .inr (17, [.int 0, .ref (X 3), .int 0])), (q2, .inl (G.2 6, 0, .inr (.inr (.inr (.inr (fun _ => none)))))), (q1, .inr (17, [.int 1, .ref (X 3), .int 0]))] H := hP
  have hD : va_D A [(a0, .inr (14, [.ref a1, .int 0, .ref q1, .ref q2, .null, .int 0])), (a1, .inr (12, [.ref a3, .ref a4, .ref a5, .ref a2])), (a3, .inl (G.2 0, 0, .inl (f0))), (a2, .inr (17, [.int 0, .ref (X 3), .int 0])), (q2, .inl (G.2 6, 0, .inr (.inr (.inr (.inr (fun _ => none)))))), (q1, .inr (17, [.int 1, .ref (X 3), .int 0]))] := hD
  refine W.eq (g2 := F0 m 59 ls []) rfl ?_
  refine lv_aload_n hx hb dX15_init_59 rfl (lv_at hl 2 rfl) ?_
  refine lv_iconst (v := 0) hx hb dX15_init_60 (by decide) ?_
  refine pz_go (wr := [(a0, .inr (14, [.ref a1, .int 0, .ref q1, .ref q2, .null, .int 0])), (a3, .inl (G.2 0, 0, .inl (f0))), (q2, .inl (G.2 6, 0, .inr (.inr (.inr (.inr (fun _ => none)))))), (q1, .inr (17, [.int 1, .ref (X 3), .int 0]))]) (vx_runV (C := "SourcewrightModel$Reading") (As := [.int 0]) (rest := []) ⟨hx, hb, hml, hown, hts⟩ (cX13_numberOf_1 l hst G X H.size a1 a2 a3 a4 a5) (cwV 1 hts (pz_gV wq_2970 wq_2971 wq_2972 wq_36 wq_2973) rfl rfl rfl (by decide +kernel) ⟨(Nat.le_of_ble_eq_true rfl), (Nat.le_of_ble_eq_true rfl)⟩) (pz_preV (C := ("SourcewrightModel$Reading", TX13, 4)) hK hP hD hS hA hE 1 (ci := 12) rfl rfl [1, 3] rfl rfl) rfl rfl hl.1 rfl (lv_room (Nat.le_of_ble_eq_true rfl)) dX15_init_61 ⟨(Nat.le_of_ble_eq_true rfl), (Nat.le_of_ble_eq_true rfl)⟩) hP hD hS hA [1, 3] [0, 2, 4, 5] rfl rfl rfl (by decide) (fun u H locs hP hD hS => ?_)
  have hP : va_P G.1 pz_cl [(a0, .inr (14, [.ref a1, .int 0, .ref q1, .ref q2, .null, .int 0])), (a3, .inl (G.2 0, 0, .inl (f0))), (q2, .inl (G.2 6, 0, .inr (.inr (.inr (.inr (fun _ => none)))))), (q1, .inr (17, [.int 1, .ref (X 3), .int 0])), (a1, .inr (12, [.ref a3, .ref a4, .ref a5, .ref a2])), (a2, .inr (17, [.int 0, .ref (X 3), .int 0]))] H := hP
  have hD : va_D A [(a0, .inr (14, [.ref a1, .int 0, .ref q1, .ref q2, .null, .int 0])), (a3, .inl (G.2 0, 0, .inl (f0))), (q2, .inl (G.2 6, 0, .inr (.inr (.inr (.inr (fun _ => none)))))), (q1, .inr (17, [.int 1, .ref (X 3), .int 0])), (a1, .inr (12, [.ref a3, .ref a4, .ref a5, .ref a2])), (a2, .inr (17, [.int 0, .ref (X 3), .int 0]))] := hD
  refine W.eq (g2 := F0 m 64 ls [.int (-1)]) rfl ?_
  refine lv_iconst (v := (-1)) hx hb dX15_init_64 (by decide) ?_
  refine lv_icmp_ne (tgt := 75) hx hb dX15_init_65 (by decide) (fun hc => absurd hc (by decide)) (fun _ => ?_)
  refine lv_aload_n hx hb dX15_init_68 rfl (lv_at hl 1 rfl) ?_
  refine lv_sipush (v := 255) hx hb dX15_init_69 (by decide) ?_
  refine pz_go (wr := [(a3, .inl (G.2 0, 0, .inl (f0))), (q2, .inl (G.2 6, 0, .inr (.inr (.inr (.inr (fun _ => none)))))), (a1, .inr (12, [.ref a3, .ref a4, .ref a5, .ref a2])), (a2, .inr (17, [.int 0, .ref (X 3), .int 0]))]) (vx_runV (C := "SourcewrightModel$Writer") (As := [.int 255]) (rest := []) ⟨hx, hb, hml, hown, hts⟩ (cX15_goTo_1 l hst G X H.size a0 q1 a1 q2) (cwV 1 hts (pz_gV wq_2975 wq_2977 wqs_116 wq_44 wq_2978) rfl rfl rfl (by decide +kernel) ⟨(Nat.le_of_ble_eq_true rfl), (Nat.le_of_ble_eq_true rfl)⟩) (pz_preV (C := ("SourcewrightModel$Writer", TX15, 6)) hK hP hD hS hA hE 0 (ci := 14) rfl rfl [0, 3] rfl rfl) rfl rfl hl.1 rfl (lv_room (Nat.le_of_ble_eq_true rfl)) dX15_init_72 ⟨(Nat.le_of_ble_eq_true rfl), (Nat.le_of_ble_eq_true rfl)⟩) hP hD hS hA [0, 3] [1, 2, 4, 5] rfl rfl rfl (by decide) (fun u H locs hP hD hS => ?_)
  obtain ⟨q3, q4, q5⟩ := u
  have hP : va_P G.1 pz_cl [(a3, .inl (G.2 0, 0, .inl (f0))), (q2, .inl (G.2 6, 0, .inr (.inr (.inr (.inr (fun _ => none)))))), (a1, .inr (12, [.ref a3, .ref a4, .ref a5, .ref a2])), (a2, .inr (17, [.int 0, .ref (X 3), .int 0])), (a0, .inr (14, [.ref a1, .int 0, .ref q1, .ref q2, .null, .int 0])), (q1, .inr (17, [.int 3, .ref q4, .int 2])), (q3, .inr (16, [.int 128])), (q4, .inl (G.2 5, 10, .inr (.inr (.inr (.inr (va_up (va_up (fun _ => none) 0 (some q3)) 1 (some q5))))))), (q5, .inr (16, [.int 255]))] H := hP
  have hD : va_D A [(a3, .inl (G.2 0, 0, .inl (f0))), (q2, .inl (G.2 6, 0, .inr (.inr (.inr (.inr (fun _ => none)))))), (a1, .inr (12, [.ref a3, .ref a4, .ref a5, .ref a2])), (a2, .inr (17, [.int 0, .ref (X 3), .int 0])), (a0, .inr (14, [.ref a1, .int 0, .ref q1, .ref q2, .null, .int 0])), (q1, .inr (17, [.int 3, .ref q4, .int 2])), (q3, .inr (16, [.int 128])), (q4, .inl (G.2 5, 10, .inr (.inr (.inr (.inr (va_up (va_up (fun _ => none) 0 (some q3)) 1 (some q5))))))), (q5, .inr (16, [.int 255]))] := hD
  refine W.eq (g2 := F0 m 75 ls []) rfl ?_
  refine lv_aload_n hx hb dX15_init_75 rfl (lv_at hl 1 rfl) ?_
  refine lv_iconst (v := 0) hx hb dX15_init_76 (by decide) ?_
  refine va_put (D := G.1) (ci := 14) (v := .int 0) (ty := tyX15 5) (C := "SourcewrightModel$Writer") (T := TX15) (N := 6) hx hb hts inX15 tyX15 tyX15_ok nmX15 hown hK hP hD hS 4 rfl rfl 5 (by decide) (hts _ wq_3030) (fun _ h9 => h9) rfl (by decide +kernel) rfl rfl (Nat.le_of_ble_eq_true rfl) dX15_init_77 (fun H locs hP hD hS => ?_)
  have hP : va_P G.1 pz_cl [(a3, .inl (G.2 0, 0, .inl (f0))), (q2, .inl (G.2 6, 0, .inr (.inr (.inr (.inr (fun _ => none)))))), (a1, .inr (12, [.ref a3, .ref a4, .ref a5, .ref a2])), (a2, .inr (17, [.int 0, .ref (X 3), .int 0])), (a0, .inr (14, [.ref a1, .int 0, .ref q1, .ref q2, .null, .int 0])), (q1, .inr (17, [.int 3, .ref q4, .int 2])), (q3, .inr (16, [.int 128])), (q4, .inl (G.2 5, 10, .inr (.inr (.inr (.inr (va_up (va_up (fun _ => none) 0 (some q3)) 1 (some q5))))))), (q5, .inr (16, [.int 255]))] H := hP
  have hD : va_D A [(a3, .inl (G.2 0, 0, .inl (f0))), (q2, .inl (G.2 6, 0, .inr (.inr (.inr (.inr (fun _ => none)))))), (a1, .inr (12, [.ref a3, .ref a4, .ref a5, .ref a2])), (a2, .inr (17, [.int 0, .ref (X 3), .int 0])), (a0, .inr (14, [.ref a1, .int 0, .ref q1, .ref q2, .null, .int 0])), (q1, .inr (17, [.int 3, .ref q4, .int 2])), (q3, .inr (16, [.int 128])), (q4, .inl (G.2 5, 10, .inr (.inr (.inr (.inr (va_up (va_up (fun _ => none) 0 (some q3)) 1 (some q5))))))), (q5, .inr (16, [.int 255]))] := hD
  refine lv_aload_n hx hb dX15_init_80 rfl (lv_at hl 1 rfl) ?_
  refine va_get (D := G.1) (ci := 14) (v := .int 0) (C := "SourcewrightModel$Writer") (T := TX15) (N := 6) hx hb hts inX15 hown hK hP 4 rfl rfl 5 (by decide) (hts _ wq_3030) (fun _ h9 => h9) rfl dX15_init_81 ?_
  refine lv_aload_n hx hb dX15_init_84 rfl (lv_at hl 2 rfl) ?_
  refine va_getN (D := G.1) (ci := 12) (v := .ref a2) (C := "SourcewrightModel$Reading") (T := TX13) (N := 4) hx hb hts inX13 hown hK hP 2 rfl rfl 3 (by decide) (va_Nw.use rfl (hE.2.2.2.2.2.2.2.2.1 _ nx_2345)) (fun _ h9 => h9) rfl dX15_init_85 ?_
  refine pz_go (wr := [(a3, .inl (G.2 0, 0, .inl (f0))), (q2, .inl (G.2 6, 0, .inr (.inr (.inr (.inr (fun _ => none)))))), (a1, .inr (12, [.ref a3, .ref a4, .ref a5, .ref a2])), (a0, .inr (14, [.ref a1, .int 0, .ref q1, .ref q2, .null, .int 0])), (q1, .inr (17, [.int 3, .ref q4, .int 2])), (q3, .inr (16, [.int 128])), (q4, .inl (G.2 5, 10, .inr (.inr (.inr (.inr (va_up (va_up (fun _ => none) 0 (some q3)) 1 (some q5))))))), (q5, .inr (16, [.int 255]))]) (vx_runV (C := "java/util/ArrayList") (As := []) (rest := [.int 0]) ⟨hx, hb, hml, hown, hts⟩ (cJx4a65c_size_8abf5_1 l hst G X H.size a2) (cwV 0 hts (pz_gV wq_2967 wq_1847 wq_1848 wq_16 wq_1849) rfl rfl rfl (by decide +kernel) ⟨(Nat.le_of_ble_eq_true rfl), (Nat.le_of_ble_eq_true rfl)⟩) (pz_preV (C := ("java/util/ArrayList", TJx4a65c, 3)) hK hP hD hS hA hE 3 (ci := 17) rfl rfl [3] rfl rfl) rfl rfl hl.1 rfl (lv_room (Nat.le_of_ble_eq_true rfl)) dX15_init_88 ⟨(Nat.le_of_ble_eq_true rfl), (Nat.le_of_ble_eq_true rfl)⟩) hP hD hS hA [3] [0, 1, 2, 4, 5, 6, 7, 8] rfl rfl rfl (by decide) (fun u H locs hP hD hS => ?_)
  have hP : va_P G.1 pz_cl [(a3, .inl (G.2 0, 0, .inl (f0))), (q2, .inl (G.2 6, 0, .inr (.inr (.inr (.inr (fun _ => none)))))), (a1, .inr (12, [.ref a3, .ref a4, .ref a5, .ref a2])), (a0, .inr (14, [.ref a1, .int 0, .ref q1, .ref q2, .null, .int 0])), (q1, .inr (17, [.int 3, .ref q4, .int 2])), (q3, .inr (16, [.int 128])), (q4, .inl (G.2 5, 10, .inr (.inr (.inr (.inr (va_up (va_up (fun _ => none) 0 (some q3)) 1 (some q5))))))), (q5, .inr (16, [.int 255])), (a2, .inr (17, [.int 0, .ref (X 3), .int 0]))] H := hP
  have hD : va_D A [(a3, .inl (G.2 0, 0, .inl (f0))), (q2, .inl (G.2 6, 0, .inr (.inr (.inr (.inr (fun _ => none)))))), (a1, .inr (12, [.ref a3, .ref a4, .ref a5, .ref a2])), (a0, .inr (14, [.ref a1, .int 0, .ref q1, .ref q2, .null, .int 0])), (q1, .inr (17, [.int 3, .ref q4, .int 2])), (q3, .inr (16, [.int 128])), (q4, .inl (G.2 5, 10, .inr (.inr (.inr (.inr (va_up (va_up (fun _ => none) 0 (some q3)) 1 (some q5))))))), (q5, .inr (16, [.int 255])), (a2, .inr (17, [.int 0, .ref (X 3), .int 0]))] := hD
  refine W.eq (g2 := F0 m 91 ls [.int 0, .int 0]) rfl ?_
  refine lv_icmp_ge (tgt := 136) hx hb dX15_init_91 (by decide) (fun _ => ?_) (fun hc => absurd hc (by decide))
  refine lv_iinc (v := 1) (lv' := [(3, .int 1), (0, .ref a0), (1, .ref a1), (2, .int 0)]) hx hb dX15_init_136 hl (k := 0) rfl (by decide) (by decide) rfl (fun ls hl => ?_)
  refine lv_goto (tgt := 47) hx hb dX15_init_139 (by decide) ?_
  refine lv_iload_n hx hb dX15_init_47 rfl (lv_at hl 0 rfl) ?_
  refine lv_iconst (v := 2) hx hb dX15_init_48 (by decide) ?_
  refine lv_icmp_ge (tgt := 142) hx hb dX15_init_49 (by decide) (fun hc => absurd hc (by decide)) (fun _ => ?_)
  refine lv_aload_n hx hb dX15_init_52 rfl (lv_at hl 1 rfl) ?_
  refine va_get (D := G.1) (ci := 14) (v := .ref q1) (C := "SourcewrightModel$Writer") (T := TX15) (N := 6) hx hb hts inX15 hown hK hP 3 rfl rfl 2 (by decide) (hts _ wq_3026) (fun _ h9 => h9) rfl dX15_init_53 ?_
  refine pz_go (wr := [(a3, .inl (G.2 0, 0, .inl (f0))), (q2, .inl (G.2 6, 0, .inr (.inr (.inr (.inr (fun _ => none)))))), (a1, .inr (12, [.ref a3, .ref a4, .ref a5, .ref a2])), (a0, .inr (14, [.ref a1, .int 0, .ref q1, .ref q2, .null, .int 0])), (q3, .inr (16, [.int 128])), (q5, .inr (16, [.int 255])), (a2, .inr (17, [.int 0, .ref (X 3), .int 0]))]) (vx_runV (C := "java/util/ArrayList") (As := []) (rest := []) ⟨hx, hb, hml, hown, hts⟩ (cJx4a65c_clear_da8c8_2 l hst G X H.size q1 q4 (va_up (va_up (fun _ => none) 0 (some q3)) 1 (some q5))) (cwV 0 hts (pz_gV wq_2969 wq_1971 wq_1972 wq_16 wq_1973) rfl rfl rfl (by decide +kernel) ⟨(Nat.le_of_ble_eq_true rfl), (Nat.le_of_ble_eq_true rfl)⟩) (pz_preV (C := ("java/util/ArrayList", TJx4a65c, 3)) hK hP hD hS hA hE 4 (ci := 17) rfl rfl [4, 6] rfl rfl) rfl rfl hl.1 rfl (lv_room (Nat.le_of_ble_eq_true rfl)) dX15_init_56 ⟨(Nat.le_of_ble_eq_true rfl), (Nat.le_of_ble_eq_true rfl)⟩) hP hD hS hA [4, 6] [0, 1, 2, 3, 5, 7, 8] rfl rfl rfl (by decide) (fun u H locs hP hD hS => ?_)
  have hP : va_P G.1 pz_cl [(a3, .inl (G.2 0, 0, .inl (f0))), (q2, .inl (G.2 6, 0, .inr (.inr (.inr (.inr (fun _ => none)))))), (a1, .inr (12, [.ref a3, .ref a4, .ref a5, .ref a2])), (a0, .inr (14, [.ref a1, .int 0, .ref q1, .ref q2, .null, .int 0])), (q3, .inr (16, [.int 128])), (q5, .inr (16, [.int 255])), (a2, .inr (17, [.int 0, .ref (X 3), .int 0])), (q1, .inr (17, [.int 4, .ref q4, .int 0])), (q4, .inl (G.2 5, 10, .inr (.inr (.inr (.inr (va_up (va_up (va_up (va_up (fun _ => none) 0 (some q3)) 1 (some q5)) 0 none) 1 none))))))] H := hP
  have hD : va_D A [(a3, .inl (G.2 0, 0, .inl (f0))), (q2, .inl (G.2 6, 0, .inr (.inr (.inr (.inr (fun _ => none)))))), (a1, .inr (12, [.ref a3, .ref a4, .ref a5, .ref a2])), (a0, .inr (14, [.ref a1, .int 0, .ref q1, .ref q2, .null, .int 0])), (q3, .inr (16, [.int 128])), (q5, .inr (16, [.int 255])), (a2, .inr (17, [.int 0, .ref (X 3), .int 0])), (q1, .inr (17, [.int 4, .ref q4, .int 0])), (q4, .inl (G.2 5, 10, .inr (.inr (.inr (.inr (va_up (va_up (va_up (va_up (fun _ => none) 0 (some q3)) 1 (some q5)) 0 none) 1 none))))))] := hD
  refine W.eq (g2 := F0 m 59 ls []) rfl ?_
  refine lv_aload_n hx hb dX15_init_59 rfl (lv_at hl 2 rfl) ?_
  refine lv_iconst (v := 0) hx hb dX15_init_60 (by decide) ?_
  refine pz_go (wr := [(a3, .inl (G.2 0, 0, .inl (f0))), (q2, .inl (G.2 6, 0, .inr (.inr (.inr (.inr (fun _ => none)))))), (a0, .inr (14, [.ref a1, .int 0, .ref q1, .ref q2, .null, .int 0])), (q3, .inr (16, [.int 128])), (q5, .inr (16, [.int 255])), (q1, .inr (17, [.int 4, .ref q4, .int 0])), (q4, .inl (G.2 5, 10, .inr (.inr (.inr (.inr (va_up (va_up (va_up (va_up (fun _ => none) 0 (some q3)) 1 (some q5)) 0 none) 1 none))))))]) (vx_runV (C := "SourcewrightModel$Reading") (As := [.int 0]) (rest := []) ⟨hx, hb, hml, hown, hts⟩ (cX13_numberOf_1 l hst G X H.size a1 a2 a3 a4 a5) (cwV 1 hts (pz_gV wq_2970 wq_2971 wq_2972 wq_36 wq_2973) rfl rfl rfl (by decide +kernel) ⟨(Nat.le_of_ble_eq_true rfl), (Nat.le_of_ble_eq_true rfl)⟩) (pz_preV (C := ("SourcewrightModel$Reading", TX13, 4)) hK hP hD hS hA hE 2 (ci := 12) rfl rfl [2, 6] rfl rfl) rfl rfl hl.1 rfl (lv_room (Nat.le_of_ble_eq_true rfl)) dX15_init_61 ⟨(Nat.le_of_ble_eq_true rfl), (Nat.le_of_ble_eq_true rfl)⟩) hP hD hS hA [2, 6] [0, 1, 3, 4, 5, 7, 8] rfl rfl rfl (by decide) (fun u H locs hP hD hS => ?_)
  have hP : va_P G.1 pz_cl [(a3, .inl (G.2 0, 0, .inl (f0))), (q2, .inl (G.2 6, 0, .inr (.inr (.inr (.inr (fun _ => none)))))), (a0, .inr (14, [.ref a1, .int 0, .ref q1, .ref q2, .null, .int 0])), (q3, .inr (16, [.int 128])), (q5, .inr (16, [.int 255])), (q1, .inr (17, [.int 4, .ref q4, .int 0])), (q4, .inl (G.2 5, 10, .inr (.inr (.inr (.inr (va_up (va_up (va_up (va_up (fun _ => none) 0 (some q3)) 1 (some q5)) 0 none) 1 none)))))), (a1, .inr (12, [.ref a3, .ref a4, .ref a5, .ref a2])), (a2, .inr (17, [.int 0, .ref (X 3), .int 0]))] H := hP
  have hD : va_D A [(a3, .inl (G.2 0, 0, .inl (f0))), (q2, .inl (G.2 6, 0, .inr (.inr (.inr (.inr (fun _ => none)))))), (a0, .inr (14, [.ref a1, .int 0, .ref q1, .ref q2, .null, .int 0])), (q3, .inr (16, [.int 128])), (q5, .inr (16, [.int 255])), (q1, .inr (17, [.int 4, .ref q4, .int 0])), (q4, .inl (G.2 5, 10, .inr (.inr (.inr (.inr (va_up (va_up (va_up (va_up (fun _ => none) 0 (some q3)) 1 (some q5)) 0 none) 1 none)))))), (a1, .inr (12, [.ref a3, .ref a4, .ref a5, .ref a2])), (a2, .inr (17, [.int 0, .ref (X 3), .int 0]))] := hD
  refine W.eq (g2 := F0 m 64 ls [.int (-1)]) rfl ?_
  refine lv_iconst (v := (-1)) hx hb dX15_init_64 (by decide) ?_
  refine lv_icmp_ne (tgt := 75) hx hb dX15_init_65 (by decide) (fun hc => absurd hc (by decide)) (fun _ => ?_)
  refine lv_aload_n hx hb dX15_init_68 rfl (lv_at hl 1 rfl) ?_
  refine lv_sipush (v := 255) hx hb dX15_init_69 (by decide) ?_
  refine pz_go (wr := [(a3, .inl (G.2 0, 0, .inl (f0))), (q2, .inl (G.2 6, 0, .inr (.inr (.inr (.inr (fun _ => none)))))), (q3, .inr (16, [.int 128])), (q5, .inr (16, [.int 255])), (a1, .inr (12, [.ref a3, .ref a4, .ref a5, .ref a2])), (a2, .inr (17, [.int 0, .ref (X 3), .int 0]))]) (vx_runV (C := "SourcewrightModel$Writer") (As := [.int 255]) (rest := []) ⟨hx, hb, hml, hown, hts⟩ (cX15_goTo_2 l hst G X H.size a0 q1 q4 a1 q2 (va_up (va_up (va_up (va_up (fun _ => none) 0 (some q3)) 1 (some q5)) 0 none) 1 none)) (cwV 1 hts (pz_gV wq_2975 wq_2977 wqs_116 wq_44 wq_2978) rfl rfl rfl (by decide +kernel) ⟨(Nat.le_of_ble_eq_true rfl), (Nat.le_of_ble_eq_true rfl)⟩) (pz_preV (C := ("SourcewrightModel$Writer", TX15, 6)) hK hP hD hS hA hE 2 (ci := 14) rfl rfl [2, 5, 6] rfl rfl) rfl rfl hl.1 rfl (lv_room (Nat.le_of_ble_eq_true rfl)) dX15_init_72 ⟨(Nat.le_of_ble_eq_true rfl), (Nat.le_of_ble_eq_true rfl)⟩) hP hD hS hA [2, 5, 6] [0, 1, 3, 4, 7, 8] rfl rfl rfl (by decide) (fun u H locs hP hD hS => ?_)
  obtain ⟨q6, q7⟩ := u
  have hP : va_P G.1 pz_cl [(a3, .inl (G.2 0, 0, .inl (f0))), (q2, .inl (G.2 6, 0, .inr (.inr (.inr (.inr (fun _ => none)))))), (q3, .inr (16, [.int 128])), (q5, .inr (16, [.int 255])), (a1, .inr (12, [.ref a3, .ref a4, .ref a5, .ref a2])), (a2, .inr (17, [.int 0, .ref (X 3), .int 0])), (a0, .inr (14, [.ref a1, .int 0, .ref q1, .ref q2, .null, .int 0])), (q1, .inr (17, [.int 6, .ref q4, .int 2])), (q4, .inl (G.2 5, 10, .inr (.inr (.inr (.inr (va_up (va_up (va_up (va_up (va_up (va_up (fun _ => none) 0 (some q3)) 1 (some q5)) 0 none) 1 none) 0 (some q6)) 1 (some q7))))))), (q6, .inr (16, [.int 128])), (q7, .inr (16, [.int 255]))] H := hP
  have hD : va_D A [(a3, .inl (G.2 0, 0, .inl (f0))), (q2, .inl (G.2 6, 0, .inr (.inr (.inr (.inr (fun _ => none)))))), (q3, .inr (16, [.int 128])), (q5, .inr (16, [.int 255])), (a1, .inr (12, [.ref a3, .ref a4, .ref a5, .ref a2])), (a2, .inr (17, [.int 0, .ref (X 3), .int 0])), (a0, .inr (14, [.ref a1, .int 0, .ref q1, .ref q2, .null, .int 0])), (q1, .inr (17, [.int 6, .ref q4, .int 2])), (q4, .inl (G.2 5, 10, .inr (.inr (.inr (.inr (va_up (va_up (va_up (va_up (va_up (va_up (fun _ => none) 0 (some q3)) 1 (some q5)) 0 none) 1 none) 0 (some q6)) 1 (some q7))))))), (q6, .inr (16, [.int 128])), (q7, .inr (16, [.int 255]))] := hD
  refine W.eq (g2 := F0 m 75 ls []) rfl ?_
  refine lv_aload_n hx hb dX15_init_75 rfl (lv_at hl 1 rfl) ?_
  refine lv_iconst (v := 0) hx hb dX15_init_76 (by decide) ?_
  refine va_put (D := G.1) (ci := 14) (v := .int 0) (ty := tyX15 5) (C := "SourcewrightModel$Writer") (T := TX15) (N := 6) hx hb hts inX15 tyX15 tyX15_ok nmX15 hown hK hP hD hS 6 rfl rfl 5 (by decide) (hts _ wq_3030) (fun _ h9 => h9) rfl (by decide +kernel) rfl rfl (Nat.le_of_ble_eq_true rfl) dX15_init_77 (fun H locs hP hD hS => ?_)
  have hP : va_P G.1 pz_cl [(a3, .inl (G.2 0, 0, .inl (f0))), (q2, .inl (G.2 6, 0, .inr (.inr (.inr (.inr (fun _ => none)))))), (q3, .inr (16, [.int 128])), (q5, .inr (16, [.int 255])), (a1, .inr (12, [.ref a3, .ref a4, .ref a5, .ref a2])), (a2, .inr (17, [.int 0, .ref (X 3), .int 0])), (a0, .inr (14, [.ref a1, .int 0, .ref q1, .ref q2, .null, .int 0])), (q1, .inr (17, [.int 6, .ref q4, .int 2])), (q4, .inl (G.2 5, 10, .inr (.inr (.inr (.inr (va_up (va_up (va_up (va_up (va_up (va_up (fun _ => none) 0 (some q3)) 1 (some q5)) 0 none) 1 none) 0 (some q6)) 1 (some q7))))))), (q6, .inr (16, [.int 128])), (q7, .inr (16, [.int 255]))] H := hP
  have hD : va_D A [(a3, .inl (G.2 0, 0, .inl (f0))), (q2, .inl (G.2 6, 0, .inr (.inr (.inr (.inr (fun _ => none)))))), (q3, .inr (16, [.int 128])), (q5, .inr (16, [.int 255])), (a1, .inr (12, [.ref a3, .ref a4, .ref a5, .ref a2])), (a2, .inr (17, [.int 0, .ref (X 3), .int 0])), (a0, .inr (14, [.ref a1, .int 0, .ref q1, .ref q2, .null, .int 0])), (q1, .inr (17, [.int 6, .ref q4, .int 2])), (q4, .inl (G.2 5, 10, .inr (.inr (.inr (.inr (va_up (va_up (va_up (va_up (va_up (va_up (fun _ => none) 0 (some q3)) 1 (some q5)) 0 none) 1 none) 0 (some q6)) 1 (some q7))))))), (q6, .inr (16, [.int 128])), (q7, .inr (16, [.int 255]))] := hD
  refine lv_aload_n hx hb dX15_init_80 rfl (lv_at hl 1 rfl) ?_
  refine va_get (D := G.1) (ci := 14) (v := .int 0) (C := "SourcewrightModel$Writer") (T := TX15) (N := 6) hx hb hts inX15 hown hK hP 6 rfl rfl 5 (by decide) (hts _ wq_3030) (fun _ h9 => h9) rfl dX15_init_81 ?_
  refine lv_aload_n hx hb dX15_init_84 rfl (lv_at hl 2 rfl) ?_
  refine va_getN (D := G.1) (ci := 12) (v := .ref a2) (C := "SourcewrightModel$Reading") (T := TX13) (N := 4) hx hb hts inX13 hown hK hP 4 rfl rfl 3 (by decide) (va_Nw.use rfl (hE.2.2.2.2.2.2.2.2.1 _ nx_2345)) (fun _ h9 => h9) rfl dX15_init_85 ?_
  refine pz_go (wr := [(a3, .inl (G.2 0, 0, .inl (f0))), (q2, .inl (G.2 6, 0, .inr (.inr (.inr (.inr (fun _ => none)))))), (q3, .inr (16, [.int 128])), (q5, .inr (16, [.int 255])), (a1, .inr (12, [.ref a3, .ref a4, .ref a5, .ref a2])), (a0, .inr (14, [.ref a1, .int 0, .ref q1, .ref q2, .null, .int 0])), (q1, .inr (17, [.int 6, .ref q4, .int 2])), (q4, .inl (G.2 5, 10, .inr (.inr (.inr (.inr (va_up (va_up (va_up (va_up (va_up (va_up (fun _ => none) 0 (some q3)) 1 (some q5)) 0 none) 1 none) 0 (some q6)) 1 (some q7))))))), (q6, .inr (16, [.int 128])), (q7, .inr (16, [.int 255]))]) (vx_runV (C := "java/util/ArrayList") (As := []) (rest := [.int 0]) ⟨hx, hb, hml, hown, hts⟩ (cJx4a65c_size_8abf5_1 l hst G X H.size a2) (cwV 0 hts (pz_gV wq_2967 wq_1847 wq_1848 wq_16 wq_1849) rfl rfl rfl (by decide +kernel) ⟨(Nat.le_of_ble_eq_true rfl), (Nat.le_of_ble_eq_true rfl)⟩) (pz_preV (C := ("java/util/ArrayList", TJx4a65c, 3)) hK hP hD hS hA hE 5 (ci := 17) rfl rfl [5] rfl rfl) rfl rfl hl.1 rfl (lv_room (Nat.le_of_ble_eq_true rfl)) dX15_init_88 ⟨(Nat.le_of_ble_eq_true rfl), (Nat.le_of_ble_eq_true rfl)⟩) hP hD hS hA [5] [0, 1, 2, 3, 4, 6, 7, 8, 9, 10] rfl rfl rfl (by decide) (fun u H locs hP hD hS => ?_)
  have hP : va_P G.1 pz_cl [(a3, .inl (G.2 0, 0, .inl (f0))), (q2, .inl (G.2 6, 0, .inr (.inr (.inr (.inr (fun _ => none)))))), (q3, .inr (16, [.int 128])), (q5, .inr (16, [.int 255])), (a1, .inr (12, [.ref a3, .ref a4, .ref a5, .ref a2])), (a0, .inr (14, [.ref a1, .int 0, .ref q1, .ref q2, .null, .int 0])), (q1, .inr (17, [.int 6, .ref q4, .int 2])), (q4, .inl (G.2 5, 10, .inr (.inr (.inr (.inr (va_up (va_up (va_up (va_up (va_up (va_up (fun _ => none) 0 (some q3)) 1 (some q5)) 0 none) 1 none) 0 (some q6)) 1 (some q7))))))), (q6, .inr (16, [.int 128])), (q7, .inr (16, [.int 255])), (a2, .inr (17, [.int 0, .ref (X 3), .int 0]))] H := hP
  have hD : va_D A [(a3, .inl (G.2 0, 0, .inl (f0))), (q2, .inl (G.2 6, 0, .inr (.inr (.inr (.inr (fun _ => none)))))), (q3, .inr (16, [.int 128])), (q5, .inr (16, [.int 255])), (a1, .inr (12, [.ref a3, .ref a4, .ref a5, .ref a2])), (a0, .inr (14, [.ref a1, .int 0, .ref q1, .ref q2, .null, .int 0])), (q1, .inr (17, [.int 6, .ref q4, .int 2])), (q4, .inl (G.2 5, 10, .inr (.inr (.inr (.inr (va_up (va_up (va_up (va_up (va_up (va_up (fun _ => none) 0 (some q3)) 1 (some q5)) 0 none) 1 none) 0 (some q6)) 1 (some q7))))))), (q6, .inr (16, [.int 128])), (q7, .inr (16, [.int 255])), (a2, .inr (17, [.int 0, .ref (X 3), .int 0]))] := hD
  refine W.eq (g2 := F0 m 91 ls [.int 0, .int 0]) rfl ?_
  refine lv_icmp_ge (tgt := 136) hx hb dX15_init_91 (by decide) (fun _ => ?_) (fun hc => absurd hc (by decide))
  refine lv_iinc (v := 2) (lv' := [(3, .int 2), (0, .ref a0), (1, .ref a1), (2, .int 0)]) hx hb dX15_init_136 hl (k := 0) rfl (by decide) (by decide) rfl (fun ls hl => ?_)
  refine lv_goto (tgt := 47) hx hb dX15_init_139 (by decide) ?_
  refine lv_iload_n hx hb dX15_init_47 rfl (lv_at hl 0 rfl) ?_
  refine lv_iconst (v := 2) hx hb dX15_init_48 (by decide) ?_
  refine lv_icmp_ge (tgt := 142) hx hb dX15_init_49 (by decide) (fun _ => ?_) (fun hc => absurd hc (by decide))
  exact pz_rv hx hb hr hlocks hS (Nat.le_of_ble_eq_true rfl) (Nat.le_of_ble_eq_true rfl) dX15_init_142 (q1, q2, q3, q4, q5, q6, q7) rfl (hP.sub [5, 4, 10, 0, 1, 2, 3, 6, 7, 8, 9] rfl) (hD.sub [5, 4, 10, 0, 1, 2, 3, 6, 7, 8, 9] rfl rfl)
