set_option maxHeartbeats 4000000 in
set_option maxRecDepth 100000 in
theorem law_head {p : Program} {e : Env} {s : State} {m : MethodId} {below : List Frame} {meth : Method} {c : Code} (l : Launch) (hst : l.stackTraces = false) {b L : Nat} {xs : Nat → Int32} {d0 : Drawn} (hd0 : s.drawn.sameBut d0 lw_cs) (hL : L ≤ 5) (C0 : lw_At p s m meth c b L xs) (dC : Nat → ClassId) (dI : Nat → Nat → Nat) (q0 a0 a1 a2 a4 a6 a8 q1 b2 b4 b5 b6 b7 b9 b10 b11 b12 b13 q2 : Nat) (y2 y8 z2 z10 yo : ClassId) (sa : Nat) (hai : aiX sa (fun q : Nat => s.heap.size ≤ q) (s.setDrawn d0) s.heap) {H : Heap} {locs : List Loc} (hK : va_K (dC, dI) vwCl [(y2, .long), (y8, .long), (z2, .long), (z10, .long), (yo, .long)] (s.setDrawn d0)) (hP : va_P (dC, dI) vwCl [(q0, .inr (6, [.ref a0, .ref a1, .ref a2, .int 0, .ref a4, .int 0, .ref a6, .int 0, .ref a8])), (a2, .inl (y2, 16, .inr (.inl (fun _ => 0)))), (a8, .inl (y8, 32, .inr (.inl (fun _ => 0)))), (q1, .inr (7, [.int 0, .int 0, .ref b2, .int 0, .ref b4, .ref b5, .ref b6, .ref b7, .int 0, .ref b9, .ref b10, .ref b11, .ref b12, .ref b13])), (b2, .inl (z2, 16, .inr (.inl (fun _ => 0)))), (b10, .inl (z10, 32, .inr (.inl (fun _ => 0)))), (q2, .inl (yo, 1, .inr (.inl (fun _ => 0))))] H) (hD : va_D (fun q : Nat => s.heap.size ≤ q) [(q0, .inr (6, [.ref a0, .ref a1, .ref a2, .int 0, .ref a4, .int 0, .ref a6, .int 0, .ref a8])), (a2, .inl (y2, 16, .inr (.inl (fun _ => 0)))), (a8, .inl (y8, 32, .inr (.inl (fun _ => 0)))), (q1, .inr (7, [.int 0, .int 0, .ref b2, .int 0, .ref b4, .ref b5, .ref b6, .ref b7, .int 0, .ref b9, .ref b10, .ref b11, .ref b12, .ref b13])), (b2, .inl (z2, 16, .inr (.inl (fun _ => 0)))), (b10, .inl (z10, 32, .inr (.inl (fun _ => 0)))), (q2, .inl (yo, 1, .inr (.inl (fun _ => 0))))]) (hS : va_S (fun q : Nat => s.heap.size ≤ q) s.heap H locs) {ls : Array Slot} (hl : lv_has ls 9 [(4, .int 0), (3, .ref q2), (2, .ref q1), (1, .ref q0), (0, .ref b)]) : W p l e room_1 (s.setDrawn d0) m #[Value.ref b] below meth c H locs 31 654 (lw_Z below #[Value.ref b] s) (F0 m 23 ls []) := by
  obtain ⟨hx, hb, hr, hml, hown, hts0, hX, hbl, hlocks, hgv⟩ := id C0
  have htsT := dr_words hts0 d0
  have hts := htsT
  have hown : (s.setDrawn d0).vm.findClass RL = some m.cls := hown
  have hA : ∀ q : Nat, s.heap.size ≤ q → (fun q : Nat => s.heap.size ≤ q) q := fun _ h => h
  have hbA : ¬ (fun q : Nat => s.heap.size ≤ q) b := Nat.not_le.mpr hbl
  have hX : va_X b _ xs (s.setDrawn d0) s.heap := hX
  refine lv_iload hx hb dL_law_23 (lv_at hl 0 rfl) ?_
  refine lv_aload_n hx hb dL_law_25 rfl (lv_at hl 4 rfl) ?_
  refine va_slen hx hb hX hbl hbA hS dL_law_26 ?_
  refine lv_iconst (v := 5) hx hb dL_law_27 (by decide) ?_
  refine lv_isub hx hb dL_law_28 ?_
  rcases Nat.lt_or_ge L 5 with hlt | hge
  · exact lv_icmp_gt (tgt := 1429) hx hb dL_law_29 (by decide) (fun _ => law_exit l hd0 C0 31 654 (Nat.le_of_ble_eq_true rfl) (Nat.le_of_ble_eq_true rfl) hS) (fun c => absurd (lt_five L hlt) c)
  obtain rfl : L = 5 := Nat.le_antisymm hL hge
  refine lv_icmp_gt (tgt := 1429) hx hb dL_law_29 (by decide) (fun c => absurd c (by decide)) (fun _ => ?_)
  refine lv_aload_n hx hb dL_law_32 rfl (lv_at hl 4 rfl) ?_
  refine lv_iload hx hb dL_law_33 (lv_at hl 0 rfl) ?_
  refine va_sld (i := 0) hx hb hX hbl hbA hS (by unfold vp_in; decide) dL_law_35 ?_
  refine lv_bipush (v := 31) hx hb dL_law_36 (by decide) ?_
  refine lv_iand hx hb dL_law_38 ?_
  obtain ⟨j, hj, ej⟩ := pk_andE (xs (0 : Int32).toNatClampNeg) (m := 31) 5 (by decide)
  rw [ej]
  have hj : j < 32 := hj
  rcases (show j = 0 ∨ j = 1 ∨ j = 2 ∨ j = 3 ∨ j = 4 ∨ j = 5 ∨ j = 6 ∨ j = 7 ∨ j = 8 ∨ j = 9 ∨ j = 10 ∨ j = 11 ∨ j = 12 ∨ j = 13 ∨ j = 14 ∨ j = 15 ∨ j = 16 ∨ j = 17 ∨ j = 18 ∨ j = 19 ∨ j = 20 ∨ j = 21 ∨ j = 22 ∨ j = 23 ∨ j = 24 ∨ j = 25 ∨ j = 26 ∨ j = 27 ∨ j = 28 ∨ j = 29 ∨ j = 30 ∨ j = 31 by omega) with rfl | rfl | rfl | rfl | rfl | rfl | rfl | rfl | rfl | rfl | rfl | rfl | rfl | rfl | rfl | rfl | rfl | rfl | rfl | rfl | rfl | rfl | rfl | rfl | rfl | rfl | rfl | rfl | rfl | rfl | rfl | rfl
  · exact lv_tableIn (off := 113) (tgt := 152) hx hb dL_law_39 (by decide) (by decide) rfl (by decide) (law_0 l hst hd0 C0 dC dI q0 a0 a1 a2 a4 a6 a8 q1 b2 b4 b5 b6 b7 b9 b10 b11 b12 b13 q2 y2 y8 z2 z10 yo hK hP hD hS hl)
  · exact lv_tableIn (off := 170) (tgt := 209) hx hb dL_law_39 (by decide) (by decide) rfl (by decide) (law_1 l hst hd0 C0 dC dI q0 a0 a1 a2 a4 a6 a8 q1 b2 b4 b5 b6 b7 b9 b10 b11 b12 b13 q2 y2 y8 z2 z10 yo hK hP hD hS hl)
  · exact lv_tableIn (off := 207) (tgt := 246) hx hb dL_law_39 (by decide) (by decide) rfl (by decide) (law_2 l hst hd0 C0 dC dI q0 a0 a1 a2 a4 a6 a8 q1 b2 b4 b5 b6 b7 b9 b10 b11 b12 b13 q2 y2 y8 z2 z10 yo hK hP hD hS hl)
  · exact lv_tableIn (off := 233) (tgt := 272) hx hb dL_law_39 (by decide) (by decide) rfl (by decide) (law_3 l hst hd0 C0 dC dI q0 a0 a1 a2 a4 a6 a8 q1 b2 b4 b5 b6 b7 b9 b10 b11 b12 b13 q2 y2 y8 z2 z10 yo hK hP hD hS hl)
  · exact lv_tableIn (off := 315) (tgt := 354) hx hb dL_law_39 (by decide) (by decide) rfl (by decide) (law_4 l hst hd0 C0 dC dI q0 a0 a1 a2 a4 a6 a8 q1 b2 b4 b5 b6 b7 b9 b10 b11 b12 b13 q2 y2 y8 z2 z10 yo hK hP hD hS hl)
  · exact lv_tableIn (off := 352) (tgt := 391) hx hb dL_law_39 (by decide) (by decide) rfl (by decide) (law_5 l hst hd0 C0 dC dI q0 a0 a1 a2 a4 a6 a8 q1 b2 b4 b5 b6 b7 b9 b10 b11 b12 b13 q2 y2 y8 z2 z10 yo hK hP hD hS hl)
  · exact lv_tableIn (off := 421) (tgt := 460) hx hb dL_law_39 (by decide) (by decide) rfl (by decide) (law_6 l hst hd0 C0 dC dI q0 a0 a1 a2 a4 a6 a8 q1 b2 b4 b5 b6 b7 b9 b10 b11 b12 b13 q2 y2 y8 z2 z10 yo hK hP hD hS hl)
  · exact lv_tableIn (off := 459) (tgt := 498) hx hb dL_law_39 (by decide) (by decide) rfl (by decide) (law_7 l hst hd0 C0 dC dI q0 a0 a1 a2 a4 a6 a8 q1 b2 b4 b5 b6 b7 b9 b10 b11 b12 b13 q2 y2 y8 z2 z10 yo hK hP hD hS hl)
  · exact lv_tableIn (off := 496) (tgt := 535) hx hb dL_law_39 (by decide) (by decide) rfl (by decide) (law_8 l hst hd0 C0 dC dI q0 a0 a1 a2 a4 a6 a8 q1 b2 b4 b5 b6 b7 b9 b10 b11 b12 b13 q2 y2 y8 z2 z10 yo hK hP hD hS hl)
  · exact lv_tableIn (off := 534) (tgt := 573) hx hb dL_law_39 (by decide) (by decide) rfl (by decide) (law_9 l hst hd0 C0 dC dI q0 a0 a1 a2 a4 a6 a8 q1 b2 b4 b5 b6 b7 b9 b10 b11 b12 b13 q2 y2 y8 z2 z10 yo hK hP hD hS hl)
  · exact lv_tableIn (off := 633) (tgt := 672) hx hb dL_law_39 (by decide) (by decide) rfl (by decide) (law_10 l hst hd0 C0 dC dI q0 a0 a1 a2 a4 a6 a8 q1 b2 b4 b5 b6 b7 b9 b10 b11 b12 b13 q2 y2 y8 z2 z10 yo hK hP hD hS hl)
  · exact lv_tableIn (off := 686) (tgt := 725) hx hb dL_law_39 (by decide) (by decide) rfl (by decide) (law_11 l hst hd0 C0 dC dI q0 a0 a1 a2 a4 a6 a8 q1 b2 b4 b5 b6 b7 b9 b10 b11 b12 b13 q2 y2 y8 z2 z10 yo hK hP hD hS hl)
  · exact lv_tableIn (off := 741) (tgt := 780) hx hb dL_law_39 (by decide) (by decide) rfl (by decide) (law_12 l hst hd0 C0 dC dI q0 a0 a1 a2 a4 a6 a8 q1 b2 b4 b5 b6 b7 b9 b10 b11 b12 b13 q2 y2 y8 z2 z10 yo hK hP hD hS hl)
  · exact lv_tableIn (off := 790) (tgt := 829) hx hb dL_law_39 (by decide) (by decide) rfl (by decide) (law_13 l hst hd0 C0 dC dI q0 a0 a1 a2 a4 a6 a8 q1 b2 b4 b5 b6 b7 b9 b10 b11 b12 b13 q2 y2 y8 z2 z10 yo hK hP hD hS hl)
  · exact lv_tableIn (off := 851) (tgt := 890) hx hb dL_law_39 (by decide) (by decide) rfl (by decide) (law_14 l hst hd0 C0 dC dI q0 a0 a1 a2 a4 a6 a8 q1 b2 b4 b5 b6 b7 b9 b10 b11 b12 b13 q2 y2 y8 z2 z10 yo hK hP hD hS hl)
  · exact lv_tableIn (off := 912) (tgt := 951) hx hb dL_law_39 (by decide) (by decide) rfl (by decide) (law_15 l hst hd0 C0 dC dI q0 a0 a1 a2 a4 a6 a8 q1 b2 b4 b5 b6 b7 b9 b10 b11 b12 b13 q2 y2 y8 z2 z10 yo hK hP hD hS hl)
  · exact lv_tableIn (off := 974) (tgt := 1013) hx hb dL_law_39 (by decide) (by decide) rfl (by decide) (law_16 l hst hd0 C0 dC dI q0 a0 a1 a2 a4 a6 a8 q1 b2 b4 b5 b6 b7 b9 b10 b11 b12 b13 q2 y2 y8 z2 z10 yo hK hP hD hS hl)
  · exact lv_tableIn (off := 1000) (tgt := 1039) hx hb dL_law_39 (by decide) (by decide) rfl (by decide) (law_17 l hst hd0 C0 dC dI q0 a0 a1 a2 a4 a6 a8 q1 b2 b4 b5 b6 b7 b9 b10 b11 b12 b13 q2 y2 y8 z2 z10 yo hK hP hD hS hl)
  · exact lv_tableIn (off := 1037) (tgt := 1076) hx hb dL_law_39 (by decide) (by decide) rfl (by decide) (law_18 l hst hd0 C0 dC dI q0 a0 a1 a2 a4 a6 a8 q1 b2 b4 b5 b6 b7 b9 b10 b11 b12 b13 q2 y2 y8 z2 z10 yo hK hP hD hS hl)
  · exact lv_tableIn (off := 1086) (tgt := 1125) hx hb dL_law_39 (by decide) (by decide) rfl (by decide) (law_19 l hst hd0 C0 dC dI q0 a0 a1 a2 a4 a6 a8 q1 b2 b4 b5 b6 b7 b9 b10 b11 b12 b13 q2 y2 y8 z2 z10 yo sa hai hK hP hD hS hl)
  · exact lv_tableIn (off := 1142) (tgt := 1181) hx hb dL_law_39 (by decide) (by decide) rfl (by decide) (law_20 l hst hd0 C0 dC dI q0 a0 a1 a2 a4 a6 a8 q1 b2 b4 b5 b6 b7 b9 b10 b11 b12 b13 q2 y2 y8 z2 z10 yo hK hP hD hS hl)
  · exact lv_tableIn (off := 1212) (tgt := 1251) hx hb dL_law_39 (by decide) (by decide) rfl (by decide) (law_21 l hst hd0 C0 dC dI q0 a0 a1 a2 a4 a6 a8 q1 b2 b4 b5 b6 b7 b9 b10 b11 b12 b13 q2 y2 y8 z2 z10 yo hK hP hD hS hl)
  · exact lv_tableIn (off := 1237) (tgt := 1276) hx hb dL_law_39 (by decide) (by decide) rfl (by decide) (law_22 l hst hd0 C0 dC dI q0 a0 a1 a2 a4 a6 a8 q1 b2 b4 b5 b6 b7 b9 b10 b11 b12 b13 q2 y2 y8 z2 z10 yo hK hP hD hS hl)
  · exact lv_tableIn (off := 1298) (tgt := 1337) hx hb dL_law_39 (by decide) (by decide) rfl (by decide) (law_23 l hst hd0 C0 dC dI q0 a0 a1 a2 a4 a6 a8 q1 b2 b4 b5 b6 b7 b9 b10 b11 b12 b13 q2 y2 y8 z2 z10 yo hK hP hD hS hl)
  · exact lv_tableIn (off := 1359) (tgt := 1398) hx hb dL_law_39 (by decide) (by decide) rfl (by decide) (law_24 l hst hd0 C0 dC dI q0 a0 a1 a2 a4 a6 a8 q1 b2 b4 b5 b6 b7 b9 b10 b11 b12 b13 q2 y2 y8 z2 z10 yo hK hP hD hS hl)
  · exact lv_tableOut (tgt := 1423) hx hb dL_law_39 (by decide) (by decide) (law_end l hd0 C0 31 654 (Nat.le_of_ble_eq_true rfl) (Nat.le_of_ble_eq_true rfl) hS (lv_sub hl [0, 4] rfl))
  · exact lv_tableOut (tgt := 1423) hx hb dL_law_39 (by decide) (by decide) (law_end l hd0 C0 31 654 (Nat.le_of_ble_eq_true rfl) (Nat.le_of_ble_eq_true rfl) hS (lv_sub hl [0, 4] rfl))
  · exact lv_tableOut (tgt := 1423) hx hb dL_law_39 (by decide) (by decide) (law_end l hd0 C0 31 654 (Nat.le_of_ble_eq_true rfl) (Nat.le_of_ble_eq_true rfl) hS (lv_sub hl [0, 4] rfl))
  · exact lv_tableOut (tgt := 1423) hx hb dL_law_39 (by decide) (by decide) (law_end l hd0 C0 31 654 (Nat.le_of_ble_eq_true rfl) (Nat.le_of_ble_eq_true rfl) hS (lv_sub hl [0, 4] rfl))
  · exact lv_tableOut (tgt := 1423) hx hb dL_law_39 (by decide) (by decide) (law_end l hd0 C0 31 654 (Nat.le_of_ble_eq_true rfl) (Nat.le_of_ble_eq_true rfl) hS (lv_sub hl [0, 4] rfl))
  · exact lv_tableOut (tgt := 1423) hx hb dL_law_39 (by decide) (by decide) (law_end l hd0 C0 31 654 (Nat.le_of_ble_eq_true rfl) (Nat.le_of_ble_eq_true rfl) hS (lv_sub hl [0, 4] rfl))
  · exact lv_tableOut (tgt := 1423) hx hb dL_law_39 (by decide) (by decide) (law_end l hd0 C0 31 654 (Nat.le_of_ble_eq_true rfl) (Nat.le_of_ble_eq_true rfl) hS (lv_sub hl [0, 4] rfl))
set_option maxHeartbeats 4000000 in
set_option maxRecDepth 100000 in
theorem whole_start {p : Program} {e : Env} {s : State} {m : MethodId} {below : List Frame} {meth : Method} {c : Code} (l : Launch) (hst : l.stackTraces = false) {b L : Nat} {xs : Nat → Int32} (hL : L ≤ 5) (C0 : lw_At p s m meth c b L xs) : W p l e room_1 s m #[Value.ref b] below meth c s.heap [] 0 0 (lw_Z below #[Value.ref b] s) (entryFrame m ([Value.ref b] : List Value).toArray 9) := by
  obtain ⟨hx, hb, hr, hml, hown, hts0, hX, hbl, hlocks, hgv⟩ := id C0
  have hd0 := Drawn.sameBut.refl s.drawn lw_cs
  refine W.base ?_
  have htsT := dr_words hts0 s.drawn
  have hts := htsT
  have hown : (s.setDrawn s.drawn).vm.findClass RL = some m.cls := hown
  have hA : ∀ q : Nat, s.heap.size ≤ q → (fun q : Nat => s.heap.size ≤ q) q := fun _ h => h
  have hbA : ¬ (fun q : Nat => s.heap.size ≤ q) b := Nat.not_le.mpr hbl
  have hX : va_X b _ xs (s.setDrawn s.drawn) s.heap := hX
  obtain ⟨cc0, is0, hn0⟩ := u_known (C := RJ0) (T := TJ0) (N := 2) (n := 4) htsT inm_J0 (htsT (.instantiable RJ0 4) (by decide +kernel))
  obtain ⟨cc1, is1, hn1⟩ := u_known (C := RJx00060) (T := TJx00060) (N := 6) (n := 6) htsT inm_Jx00060 (htsT (.instantiable RJx00060 6) (by decide +kernel))
  obtain ⟨cc2, is2, hn2⟩ := u_known (C := RX0) (T := TX0) (N := 8) (n := 8) htsT inm_X0 (htsT (.instantiable RX0 8) (by decide +kernel))
  obtain ⟨cc3, is3, hn3⟩ := u_known (C := RX1) (T := TX1) (N := 2) (n := 2) htsT inm_X1 (htsT (.instantiable RX1 2) (by decide +kernel))
  obtain ⟨cc4, is4, hn4⟩ := u_known (C := RX2) (T := TX2) (N := 6) (n := 6) htsT inm_X2 (htsT (.instantiable RX2 6) (by decide +kernel))
  obtain ⟨cc5, is5, hn5⟩ := u_known (C := RX3) (T := TX3) (N := 6) (n := 6) htsT inm_X3 (htsT (.instantiable RX3 6) (by decide +kernel))
  obtain ⟨cc6, is6, hn6⟩ := u_known (C := RX4) (T := TX4) (N := 9) (n := 9) htsT inm_X4 (htsT (.instantiable RX4 9) (by decide +kernel))
  obtain ⟨cc7, is7, hn7⟩ := u_known (C := RX5) (T := TX5) (N := 14) (n := 14) htsT inm_X5 (htsT (.instantiable RX5 14) (by decide +kernel))
  obtain ⟨dC, dI, hKc⟩ : ∃ (dC : Nat → ClassId) (dI : Nat → Nat → Nat), ∀ (k : Nat) (q : vw_C), vwCl[k]? = some q → u_Kn (s.setDrawn s.drawn) q.1 q.2.1 q.2.2 (dC k) (dI k) := by
    refine ⟨fun k => if k = 0 then cc0 else if k = 1 then cc1 else if k = 2 then cc2 else if k = 3 then cc3 else if k = 4 then cc4 else if k = 5 then cc5 else if k = 6 then cc6 else cc7, fun k => if k = 0 then is0 else if k = 1 then is1 else if k = 2 then is2 else if k = 3 then is3 else if k = 4 then is4 else if k = 5 then is5 else if k = 6 then is6 else is7, ?_⟩
    intro k q hq
    match k, hq with
    | 0, hq => cases hq; exact hn0
    | 1, hq => cases hq; exact hn1
    | 2, hq => cases hq; exact hn2
    | 3, hq => cases hq; exact hn3
    | 4, hq => cases hq; exact hn4
    | 5, hq => cases hq; exact hn5
    | 6, hq => cases hq; exact hn6
    | 7, hq => cases hq; exact hn7
    | k + 8, hq => simp [vwCl] at hq
  have hS : va_S (fun q : Nat => s.heap.size ≤ q) s.heap s.heap [] := va_S.rf
  have hK : va_K (dC, dI) vwCl [] (s.setDrawn s.drawn) := ⟨hKc, fun k q h => by simp at h⟩
  have hP : va_P (dC, dI) vwCl [] s.heap := fun k q h => by simp at h
  have hD : va_D (fun q : Nat => s.heap.size ≤ q) [] := ⟨fun i j p q h => by simp at h, fun k q h => by simp at h⟩
  have hN9 : va_Nw (.methodLinkNest RX4 9 yX0_init RX4) (s.setDrawn s.drawn) := va_Nw.of rfl (htsT _ tw_9)
  have hN18 : va_Nw (.methodLinkNest RX4 18 yX3_init RX4) (s.setDrawn s.drawn) := va_Nw.of rfl (htsT _ tw_18)
  have hN11 : va_Nw (.methodLinkNest RX3 11 yX1_init RX4) (s.setDrawn s.drawn) := va_Nw.of rfl (htsT _ tw_11)
  have hAO : va_AO RX2 (s.setDrawn s.drawn) := va_AO.of (htsT _ tw_ao)
  obtain ⟨k4, kk4, hf4, -⟩ := Cond.instantiable_spec (htsT (.instantiable RX4 9) (by decide +kernel))
  obtain ⟨_, _, _, sa, _, _, _, _, _, hsa⟩ := Cond.stringRef_spec hf4 (htsT _ tw_str)
  have hflat := flat_of_before _ hgv
  have hai : aiX sa (fun q : Nat => s.heap.size ≤ q) (s.setDrawn s.drawn) s.heap := by
    refine ⟨vk_R.of (htsT _ tw_str) hsa, ?_, ?_, ?_⟩
    · exact vx_Zqof (htsT _ tw_l1) (htsT _ tw_t) ((Cond.before_setDrawn _ s s.drawn _).trans (hflat _ tw_r1)) (fun a h h2 => Nat.not_le.mpr h h2)
    · exact vx_Zqof (htsT _ tw_l2) (htsT _ tw_t) ((Cond.before_setDrawn _ s s.drawn _).trans (hflat _ tw_r2)) (fun a h h2 => Nat.not_le.mpr h h2)
    · intro w hw
      have h5 := htsT w (tw_b w hw)
      simp only [aiB, List.mem_cons, List.not_mem_nil, or_false] at hw
      rcases hw with rfl | rfl | rfl | rfl | rfl <;> exact va_Nw.of rfl h5
  have hl := lv_entry ([.ref b]) (n := 9) (Nat.le_of_ble_eq_true rfl)
  rw [lg_entry_eq]
  generalize (lg_sl ([.ref b]) ++ List.replicate (9 - (lg_sl ([.ref b])).length) Slot.unset).toArray = ls at hl ⊢
  have hl : lv_has ls 9 [(0, .ref b)] := hl
  obtain ⟨H, hHe⟩ : ∃ H : Heap, H = s.heap := ⟨_, rfl⟩
  have hP : va_P (dC, dI) vwCl [] H := by rw [hHe]; exact hP
  have hS : va_S (fun q : Nat => s.heap.size ≤ q) s.heap H [] := by rw [hHe]; exact hS
  suffices K : W p l e room_1 (s.setDrawn s.drawn) m #[Value.ref b] below meth c H [] 0 0 (lw_Z below #[Value.ref b] s) (F0 m 0 ls []) by rw [hHe] at K; exact K
  refine va_new (ci := 6) (fs := [.null, .null, .null, .int 0, .null, .int 0, .null, .int 0, .null]) (C := RX4) (T := TX4) (N := 9) hx hb hts iL_law_X4 tyX4 tyX4_ok hown (hts _ kL_law_2) (hts _ kL_law_3) (hts _ kL_law_4) hK hP hD hS hA rfl (fun j hj => by rcases (show j = 0 ∨ j = 1 ∨ j = 2 ∨ j = 3 ∨ j = 4 ∨ j = 5 ∨ j = 6 ∨ j = 7 ∨ j = 8 by omega) with rfl | rfl | rfl | rfl | rfl | rfl | rfl | rfl | rfl <;> rfl) (Nat.le_of_ble_eq_true rfl) (Nat.le_of_ble_eq_true rfl) dL_law_0 (fun q_1 H hP hD hS => ?_)
  have hP : va_P (dC, dI) vwCl [(q_1, .inr (6, [.null, .null, .null, .int 0, .null, .int 0, .null, .int 0, .null]))] H := hP
  have hD : va_D (fun q : Nat => s.heap.size ≤ q) [(q_1, .inr (6, [.null, .null, .null, .int 0, .null, .int 0, .null, .int 0, .null]))] := hD
  refine W.widen (k := 1) (n := 9) (Nat.le_of_ble_eq_true rfl) (Nat.le_of_ble_eq_true rfl) ?_
  refine lv_dup hx hb dL_law_3 rfl ?_
  have hPc := hP.sub (ws' := [(q_1, .inr (6, [.null, .null, .null, .int 0, .null, .int 0, .null, .int 0, .null]))]) [0] rfl
  have hDc := hD.sub (ws' := [(q_1, .inr (6, [.null, .null, .null, .int 0, .null, .int 0, .null, .int 0, .null]))]) [0] (by decide) rfl
  have hKc := hK.sub (tys' := []) [] rfl
  have hFc := va_free (wc := [(q_1, .inr (6, [.null, .null, .null, .int 0, .null, .int 0, .null, .int 0, .null]))]) hD hS hA [0] rfl
  refine va_callv (va_runI (As := []) (rest := [.ref q_1]) ⟨hx, hb, hml, hown, hts⟩ (mt_X4_init l dC dI H.size q_1) (cwI 0 hts gm_L_law_X4_init rfl rfl rfl (hts _ kL_law_4) (hts _ kL_law_5) (hts _ kL_law_6) rfl (by decide +kernel) ⟨Nat.le_of_ble_eq_true rfl, Nat.le_of_ble_eq_true rfl⟩) ⟨fun a U g mk q => by obtain ⟨q0, q1, qP, qK, qD, e0, e1, e2, e3⟩ := q; exact ⟨q0, q1, qP, va_K.moved (u := U) (U := U.calling g mk a) (Vm.Alike.refl U.vm) qK, qD, va_Nw.same rfl rfl e0, va_Nw.same rfl rfl e1, va_Nw.same rfl rfl e2, va_AO.moved (u := U) (U := U.calling g mk a) (Vm.Alike.refl U.vm) e3⟩, fun U hU hW => ⟨rfl, by rw [hU], by rw [hU]; exact hPc, va_K.moved hW.alike hKc, hDc.weaken (fun _ _ _ _ => trivial), va_Nw.warmM hW hN9, va_Nw.warmM hW hN18, va_Nw.warmM hW hN11, va_AO.moved hW.alike hAO⟩⟩ rfl rfl hl.1 rfl (lv_room (Nat.le_of_ble_eq_true rfl)) dL_law_4 ⟨Nat.le_of_ble_eq_true rfl, Nat.le_of_ble_eq_true rfl⟩) hS (fun q _ h => hFc q h) hFc (fun u t H1 locs ht hvm hw hB hz1 hk1 hS => ?_)
  obtain ⟨a0_2, a1_3, a2_4, a4_5, a6_6, a8_7, y2_8, y8_9⟩ := u
  obtain ⟨hP1, hK1, hD1⟩ := hB
  rw [ht] at hP1
  have hK1 := va_K.moved hvm.symm hK1
  obtain ⟨hP, hD⟩ := va_join (wr := []) (w1 := [(q_1, .inr (6, [.ref a0_2, .ref a1_3, .ref a2_4, .int 0, .ref a4_5, .int 0, .ref a6_6, .int 0, .ref a8_7])), (a2_4, .inl (y2_8, 16, .inr (.inl (fun _ => 0)))), (a8_7, .inl (y8_9, 32, .inr (.inl (fun _ => 0))))]) hP hD [0] [] rfl rfl (by decide) (by decide) hk1 hFc hP1 hD1
  have hK := (hK.sub (tys' := []) [] rfl).app hK1
  have hK : va_K (dC, dI) vwCl [(y2_8, .long), (y8_9, .long)] (s.setDrawn s.drawn) := hK
  generalize H1 = H at hP hS ⊢
  have hP : va_P (dC, dI) vwCl [(q_1, .inr (6, [.ref a0_2, .ref a1_3, .ref a2_4, .int 0, .ref a4_5, .int 0, .ref a6_6, .int 0, .ref a8_7])), (a2_4, .inl (y2_8, 16, .inr (.inl (fun _ => 0)))), (a8_7, .inl (y8_9, 32, .inr (.inl (fun _ => 0))))] H := hP
  have hD : va_D (fun q : Nat => s.heap.size ≤ q) [(q_1, .inr (6, [.ref a0_2, .ref a1_3, .ref a2_4, .int 0, .ref a4_5, .int 0, .ref a6_6, .int 0, .ref a8_7])), (a2_4, .inl (y2_8, 16, .inr (.inl (fun _ => 0)))), (a8_7, .inl (y8_9, 32, .inr (.inl (fun _ => 0))))] := hD
  refine W.widen (k := 19) (n := 319) (Nat.le_of_ble_eq_true rfl) (Nat.le_of_ble_eq_true rfl) ?_
  refine lv_astore_n (lv' := [(1, .ref q_1), (0, .ref b)]) hx hb dL_law_7 rfl hl (by decide) rfl (fun ls hl => ?_)
  refine va_new (ci := 7) (fs := [.int 0, .int 0, .null, .int 0, .null, .null, .null, .null, .int 0, .null, .null, .null, .null, .null]) (C := RX5) (T := TX5) (N := 14) hx hb hts iL_law_X5 tyX5 tyX5_ok hown (hts _ kL_law_8) (hts _ kL_law_9) (hts _ kL_law_10) hK hP hD hS hA rfl (fun j hj => by rcases (show j = 0 ∨ j = 1 ∨ j = 2 ∨ j = 3 ∨ j = 4 ∨ j = 5 ∨ j = 6 ∨ j = 7 ∨ j = 8 ∨ j = 9 ∨ j = 10 ∨ j = 11 ∨ j = 12 ∨ j = 13 by omega) with rfl | rfl | rfl | rfl | rfl | rfl | rfl | rfl | rfl | rfl | rfl | rfl | rfl | rfl <;> rfl) (Nat.le_of_ble_eq_true rfl) (Nat.le_of_ble_eq_true rfl) dL_law_8 (fun q_11 H hP hD hS => ?_)
  have hP : va_P (dC, dI) vwCl [(q_1, .inr (6, [.ref a0_2, .ref a1_3, .ref a2_4, .int 0, .ref a4_5, .int 0, .ref a6_6, .int 0, .ref a8_7])), (a2_4, .inl (y2_8, 16, .inr (.inl (fun _ => 0)))), (a8_7, .inl (y8_9, 32, .inr (.inl (fun _ => 0)))), (q_11, .inr (7, [.int 0, .int 0, .null, .int 0, .null, .null, .null, .null, .int 0, .null, .null, .null, .null, .null]))] H := hP
  have hD : va_D (fun q : Nat => s.heap.size ≤ q) [(q_1, .inr (6, [.ref a0_2, .ref a1_3, .ref a2_4, .int 0, .ref a4_5, .int 0, .ref a6_6, .int 0, .ref a8_7])), (a2_4, .inl (y2_8, 16, .inr (.inl (fun _ => 0)))), (a8_7, .inl (y8_9, 32, .inr (.inl (fun _ => 0)))), (q_11, .inr (7, [.int 0, .int 0, .null, .int 0, .null, .null, .null, .null, .int 0, .null, .null, .null, .null, .null]))] := hD
  refine W.widen (k := 20) (n := 333) (Nat.le_of_ble_eq_true rfl) (Nat.le_of_ble_eq_true rfl) ?_
  refine lv_dup hx hb dL_law_11 rfl ?_
  have hPc := hP.sub (ws' := [(q_11, .inr (7, [.int 0, .int 0, .null, .int 0, .null, .null, .null, .null, .int 0, .null, .null, .null, .null, .null]))]) [3] rfl
  have hDc := hD.sub (ws' := [(q_11, .inr (7, [.int 0, .int 0, .null, .int 0, .null, .null, .null, .null, .int 0, .null, .null, .null, .null, .null]))]) [3] (by decide) rfl
  have hKc := hK.sub (tys' := []) [] rfl
  have hFc := va_free (wc := [(q_11, .inr (7, [.int 0, .int 0, .null, .int 0, .null, .null, .null, .null, .int 0, .null, .null, .null, .null, .null]))]) hD hS hA [3] rfl
  refine va_callv (va_runI (As := []) (rest := [.ref q_11]) ⟨hx, hb, hml, hown, hts⟩ (mt_X5_init l dC dI H.size q_11) (cwI 0 hts gm_L_law_X5_init rfl rfl rfl (hts _ kL_law_10) (hts _ kL_law_11) (hts _ kL_law_12) rfl (by decide +kernel) ⟨Nat.le_of_ble_eq_true rfl, Nat.le_of_ble_eq_true rfl⟩) ⟨fun a U g mk q => by obtain ⟨q0, q1, qP, qK, qD⟩ := q; exact ⟨q0, q1, qP, va_K.moved (u := U) (U := U.calling g mk a) (Vm.Alike.refl U.vm) qK, qD⟩, fun U hU hW => ⟨rfl, by rw [hU], by rw [hU]; exact hPc, va_K.moved hW.alike hKc, hDc.weaken (fun _ _ _ _ => trivial)⟩⟩ rfl rfl hl.1 rfl (lv_room (Nat.le_of_ble_eq_true rfl)) dL_law_12 ⟨Nat.le_of_ble_eq_true rfl, Nat.le_of_ble_eq_true rfl⟩) hS (fun q _ h => hFc q h) hFc (fun u t H1 locs ht hvm hw hB hz1 hk1 hS => ?_)
  obtain ⟨b2_12, b4_13, b5_14, b6_15, b7_16, b9_17, b10_18, b11_19, b12_20, b13_21, y2_22, y10_23⟩ := u
  obtain ⟨hP1, hK1, hD1⟩ := hB
  rw [ht] at hP1
  have hK1 := va_K.moved hvm.symm hK1
  obtain ⟨hP, hD⟩ := va_join (wr := [(q_1, .inr (6, [.ref a0_2, .ref a1_3, .ref a2_4, .int 0, .ref a4_5, .int 0, .ref a6_6, .int 0, .ref a8_7])), (a2_4, .inl (y2_8, 16, .inr (.inl (fun _ => 0)))), (a8_7, .inl (y8_9, 32, .inr (.inl (fun _ => 0))))]) (w1 := [(q_11, .inr (7, [.int 0, .int 0, .ref b2_12, .int 0, .ref b4_13, .ref b5_14, .ref b6_15, .ref b7_16, .int 0, .ref b9_17, .ref b10_18, .ref b11_19, .ref b12_20, .ref b13_21])), (b2_12, .inl (y2_22, 16, .inr (.inl (fun _ => 0)))), (b10_18, .inl (y10_23, 32, .inr (.inl (fun _ => 0))))]) hP hD [3] [0, 1, 2] rfl rfl (by decide) (by decide) hk1 hFc hP1 hD1
  have hK := (hK.sub (tys' := [(y2_8, .long), (y8_9, .long)]) [0, 1] rfl).app hK1
  have hK : va_K (dC, dI) vwCl [(y2_8, .long), (y8_9, .long), (y2_22, .long), (y10_23, .long)] (s.setDrawn s.drawn) := hK
  generalize H1 = H at hP hS ⊢
  have hP : va_P (dC, dI) vwCl [(q_1, .inr (6, [.ref a0_2, .ref a1_3, .ref a2_4, .int 0, .ref a4_5, .int 0, .ref a6_6, .int 0, .ref a8_7])), (a2_4, .inl (y2_8, 16, .inr (.inl (fun _ => 0)))), (a8_7, .inl (y8_9, 32, .inr (.inl (fun _ => 0)))), (q_11, .inr (7, [.int 0, .int 0, .ref b2_12, .int 0, .ref b4_13, .ref b5_14, .ref b6_15, .ref b7_16, .int 0, .ref b9_17, .ref b10_18, .ref b11_19, .ref b12_20, .ref b13_21])), (b2_12, .inl (y2_22, 16, .inr (.inl (fun _ => 0)))), (b10_18, .inl (y10_23, 32, .inr (.inl (fun _ => 0))))] H := hP
  have hD : va_D (fun q : Nat => s.heap.size ≤ q) [(q_1, .inr (6, [.ref a0_2, .ref a1_3, .ref a2_4, .int 0, .ref a4_5, .int 0, .ref a6_6, .int 0, .ref a8_7])), (a2_4, .inl (y2_8, 16, .inr (.inl (fun _ => 0)))), (a8_7, .inl (y8_9, 32, .inr (.inl (fun _ => 0)))), (q_11, .inr (7, [.int 0, .int 0, .ref b2_12, .int 0, .ref b4_13, .ref b5_14, .ref b6_15, .ref b7_16, .int 0, .ref b9_17, .ref b10_18, .ref b11_19, .ref b12_20, .ref b13_21])), (b2_12, .inl (y2_22, 16, .inr (.inl (fun _ => 0)))), (b10_18, .inl (y10_23, 32, .inr (.inl (fun _ => 0))))] := hD
  refine W.widen (k := 30) (n := 653) (Nat.le_of_ble_eq_true rfl) (Nat.le_of_ble_eq_true rfl) ?_
  refine lv_astore_n (lv' := [(2, .ref q_11), (1, .ref q_1), (0, .ref b)]) hx hb dL_law_15 rfl hl (by decide) rfl (fun ls hl => ?_)
  refine lv_iconst (v := 1) hx hb dL_law_16 (by decide) ?_
  refine va_newa (atype := .long) (ty := .long) (N' := 1) (a0 := (1, .inr (.inl (fun _ => 0)))) hx hb (hts _ kL_law_13) rfl hK hP hD hS hA (fun _ => rfl) (by decide) rfl (Nat.le_of_ble_eq_true rfl) (Nat.le_of_ble_eq_true rfl) (Nat.le_of_ble_eq_true rfl) dL_law_17 (fun q_25 y_26 H hK hP hD hS => ?_)
  have hK : va_K (dC, dI) vwCl [(y2_8, .long), (y8_9, .long), (y2_22, .long), (y10_23, .long), (y_26, .long)] (s.setDrawn s.drawn) := hK
  have hP : va_P (dC, dI) vwCl [(q_1, .inr (6, [.ref a0_2, .ref a1_3, .ref a2_4, .int 0, .ref a4_5, .int 0, .ref a6_6, .int 0, .ref a8_7])), (a2_4, .inl (y2_8, 16, .inr (.inl (fun _ => 0)))), (a8_7, .inl (y8_9, 32, .inr (.inl (fun _ => 0)))), (q_11, .inr (7, [.int 0, .int 0, .ref b2_12, .int 0, .ref b4_13, .ref b5_14, .ref b6_15, .ref b7_16, .int 0, .ref b9_17, .ref b10_18, .ref b11_19, .ref b12_20, .ref b13_21])), (b2_12, .inl (y2_22, 16, .inr (.inl (fun _ => 0)))), (b10_18, .inl (y10_23, 32, .inr (.inl (fun _ => 0)))), (q_25, .inl (y_26, 1, .inr (.inl (fun _ => 0))))] H := hP
  have hD : va_D (fun q : Nat => s.heap.size ≤ q) [(q_1, .inr (6, [.ref a0_2, .ref a1_3, .ref a2_4, .int 0, .ref a4_5, .int 0, .ref a6_6, .int 0, .ref a8_7])), (a2_4, .inl (y2_8, 16, .inr (.inl (fun _ => 0)))), (a8_7, .inl (y8_9, 32, .inr (.inl (fun _ => 0)))), (q_11, .inr (7, [.int 0, .int 0, .ref b2_12, .int 0, .ref b4_13, .ref b5_14, .ref b6_15, .ref b7_16, .int 0, .ref b9_17, .ref b10_18, .ref b11_19, .ref b12_20, .ref b13_21])), (b2_12, .inl (y2_22, 16, .inr (.inl (fun _ => 0)))), (b10_18, .inl (y10_23, 32, .inr (.inl (fun _ => 0)))), (q_25, .inl (y_26, 1, .inr (.inl (fun _ => 0))))] := hD
  refine W.widen (k := 31) (n := 654) (Nat.le_of_ble_eq_true rfl) (Nat.le_of_ble_eq_true rfl) ?_
  refine lv_astore_n (lv' := [(3, .ref q_25), (2, .ref q_11), (1, .ref q_1), (0, .ref b)]) hx hb dL_law_19 rfl hl (by decide) rfl (fun ls hl => ?_)
  refine lv_iconst (v := 0) hx hb dL_law_20 (by decide) ?_
  refine lv_istore (lv' := [(4, .int 0), (3, .ref q_25), (2, .ref q_11), (1, .ref q_1), (0, .ref b)]) hx hb dL_law_21 hl (by decide) rfl (fun ls hl => ?_)
  have hP := hP.sub (ws' := [(q_1, .inr (6, [.ref a0_2, .ref a1_3, .ref a2_4, .int 0, .ref a4_5, .int 0, .ref a6_6, .int 0, .ref a8_7])), (a2_4, .inl (y2_8, 16, .inr (.inl (fun _ => 0)))), (a8_7, .inl (y8_9, 32, .inr (.inl (fun _ => 0)))), (q_11, .inr (7, [.int 0, .int 0, .ref b2_12, .int 0, .ref b4_13, .ref b5_14, .ref b6_15, .ref b7_16, .int 0, .ref b9_17, .ref b10_18, .ref b11_19, .ref b12_20, .ref b13_21])), (b2_12, .inl (y2_22, 16, .inr (.inl (fun _ => 0)))), (b10_18, .inl (y10_23, 32, .inr (.inl (fun _ => 0)))), (q_25, .inl (y_26, 1, .inr (.inl (fun _ => 0))))]) [0, 1, 2, 3, 4, 5, 6] rfl
  have hD := hD.sub (ws' := [(q_1, .inr (6, [.ref a0_2, .ref a1_3, .ref a2_4, .int 0, .ref a4_5, .int 0, .ref a6_6, .int 0, .ref a8_7])), (a2_4, .inl (y2_8, 16, .inr (.inl (fun _ => 0)))), (a8_7, .inl (y8_9, 32, .inr (.inl (fun _ => 0)))), (q_11, .inr (7, [.int 0, .int 0, .ref b2_12, .int 0, .ref b4_13, .ref b5_14, .ref b6_15, .ref b7_16, .int 0, .ref b9_17, .ref b10_18, .ref b11_19, .ref b12_20, .ref b13_21])), (b2_12, .inl (y2_22, 16, .inr (.inl (fun _ => 0)))), (b10_18, .inl (y10_23, 32, .inr (.inl (fun _ => 0)))), (q_25, .inl (y_26, 1, .inr (.inl (fun _ => 0))))]) [0, 1, 2, 3, 4, 5, 6] (by decide) rfl
  have hK := hK.sub (tys' := [(y2_8, .long), (y8_9, .long), (y2_22, .long), (y10_23, .long), (y_26, .long)]) [0, 1, 2, 3, 4] rfl
  exact law_head l hst hd0 hL C0 dC dI q_1 a0_2 a1_3 a2_4 a4_5 a6_6 a8_7 q_11 b2_12 b4_13 b5_14 b6_15 b7_16 b9_17 b10_18 b11_19 b12_20 b13_21 q_25 y2_8 y8_9 y2_22 y10_23 y_26 sa hai hK hP hD hS (lv_sub hl [0, 1, 2, 3, 4] rfl)
