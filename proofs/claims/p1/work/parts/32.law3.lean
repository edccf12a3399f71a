set_option maxHeartbeats 4000000 in
set_option maxRecDepth 100000 in
theorem law_5 {p : Program} {e : Env} {s : State} {m : MethodId} {below : List Frame} {meth : Method} {c : Code} (l : Launch) (hst : l.stackTraces = false) {b : Nat} {xs : Nat → Int32} {d0 : Drawn} (hd0 : s.drawn.sameBut d0 lw_cs) (C0 : lw_At p s m meth c b 5 xs) (dC : Nat → ClassId) (dI : Nat → Nat → Nat) (q0 a0 a1 a2 a4 a6 a8 q1 b2 b4 b5 b6 b7 b9 b10 b11 b12 b13 q2 : Nat) (y2 y8 z2 z10 yo : ClassId) {H : Heap} {locs : List Loc} (hK : va_K (dC, dI) vwCl [(y2, .long), (y8, .long), (z2, .long), (z10, .long), (yo, .long)] (s.setDrawn d0)) (hP : va_P (dC, dI) vwCl [(q0, .inr (6, [.ref a0, .ref a1, .ref a2, .int 0, .ref a4, .int 0, .ref a6, .int 0, .ref a8])), (a2, .inl (y2, 16, .inr (.inl (fun _ => 0)))), (a8, .inl (y8, 32, .inr (.inl (fun _ => 0)))), (q1, .inr (7, [.int 0, .int 0, .ref b2, .int 0, .ref b4, .ref b5, .ref b6, .ref b7, .int 0, .ref b9, .ref b10, .ref b11, .ref b12, .ref b13])), (b2, .inl (z2, 16, .inr (.inl (fun _ => 0)))), (b10, .inl (z10, 32, .inr (.inl (fun _ => 0)))), (q2, .inl (yo, 1, .inr (.inl (fun _ => 0))))] H) (hD : va_D (fun q : Nat => s.heap.size ≤ q) [(q0, .inr (6, [.ref a0, .ref a1, .ref a2, .int 0, .ref a4, .int 0, .ref a6, .int 0, .ref a8])), (a2, .inl (y2, 16, .inr (.inl (fun _ => 0)))), (a8, .inl (y8, 32, .inr (.inl (fun _ => 0)))), (q1, .inr (7, [.int 0, .int 0, .ref b2, .int 0, .ref b4, .ref b5, .ref b6, .ref b7, .int 0, .ref b9, .ref b10, .ref b11, .ref b12, .ref b13])), (b2, .inl (z2, 16, .inr (.inl (fun _ => 0)))), (b10, .inl (z10, 32, .inr (.inl (fun _ => 0)))), (q2, .inl (yo, 1, .inr (.inl (fun _ => 0))))]) (hS : va_S (fun q : Nat => s.heap.size ≤ q) s.heap H locs) {ls : Array Slot} (hl : lv_has ls 9 [(4, .int 0), (3, .ref q2), (2, .ref q1), (1, .ref q0), (0, .ref b)]) : W p l e room_1 (s.setDrawn d0) m #[Value.ref b] below meth c H locs 31 654 (lw_Z below #[Value.ref b] s) (F0 m 391 ls []) := by
  obtain ⟨hx, hb, hr, hml, hown, hts0, hX, hbl, hlocks, hgv⟩ := id C0
  have htsT := dr_words hts0 d0
  have hts := htsT
  have hown : (s.setDrawn d0).vm.findClass RL = some m.cls := hown
  have hA : ∀ q : Nat, s.heap.size ≤ q → (fun q : Nat => s.heap.size ≤ q) q := fun _ h => h
  have hbA : ¬ (fun q : Nat => s.heap.size ≤ q) b := Nat.not_le.mpr hbl
  have hX : va_X b _ xs (s.setDrawn d0) s.heap := hX
  refine lv_aload_n hx hb dL_law_391 rfl (lv_at hl 3 rfl) ?_
  refine lv_aload_n hx hb dL_law_392 rfl (lv_at hl 4 rfl) ?_
  refine lv_iload hx hb dL_law_393 (lv_at hl 0 rfl) ?_
  refine lv_iconst (v := 1) hx hb dL_law_395 (by decide) ?_
  refine lv_iadd hx hb dL_law_396 ?_
  refine va_sld (i := (0 + 1 : Int32)) hx hb hX hbl hbA hS (by unfold vp_in; decide) dL_law_397 ?_
  refine lv_aload_n hx hb dL_law_398 rfl (lv_at hl 4 rfl) ?_
  refine lv_iload hx hb dL_law_399 (lv_at hl 0 rfl) ?_
  refine lv_iconst (v := 2) hx hb dL_law_401 (by decide) ?_
  refine lv_iadd hx hb dL_law_402 ?_
  refine va_sld (i := (0 + 2 : Int32)) hx hb hX hbl hbA hS (by unfold vp_in; decide) dL_law_403 ?_
  refine lv_i2l hx hb dL_law_404 rfl ?_
  refine lv_bipush (v := 32) hx hb dL_law_405 (by decide) ?_
  refine lv_lshl hx hb dL_law_407 rfl ?_
  refine lv_aload_n hx hb dL_law_408 rfl (lv_at hl 4 rfl) ?_
  refine lv_iload hx hb dL_law_409 (lv_at hl 0 rfl) ?_
  refine lv_iconst (v := 3) hx hb dL_law_411 (by decide) ?_
  refine lv_iadd hx hb dL_law_412 ?_
  refine va_sld (i := (0 + 3 : Int32)) hx hb hX hbl hbA hS (by unfold vp_in; decide) dL_law_413 ?_
  refine lv_i2l hx hb dL_law_414 rfl ?_
  refine lv_ldc2 (v := 4294967295) hx hb hown (hts _ kL_law_0) dL_law_415 ?_
  refine lv_land hx hb dL_law_418 ?_
  refine lv_lor hx hb dL_law_419 ?_
  have hPc := hP.sub (ws' := [(q0, .inr (6, [.ref a0, .ref a1, .ref a2, .int 0, .ref a4, .int 0, .ref a6, .int 0, .ref a8]))]) [0] rfl
  have hDc := hD.sub (ws' := [(q0, .inr (6, [.ref a0, .ref a1, .ref a2, .int 0, .ref a4, .int 0, .ref a6, .int 0, .ref a8]))]) [0] (by decide) rfl
  have hKc := hK.sub (tys' := []) [] rfl
  have hFc := va_free (wc := [(q0, .inr (6, [.ref a0, .ref a1, .ref a2, .int 0, .ref a4, .int 0, .ref a6, .int 0, .ref a8]))]) hD hS hA [0] rfl
  refine va_calli (va_runV (As := [.int (xs ((0 + 1 : Int32) : Int32).toNatClampNeg), .long ((((((xs ((0 + 2 : Int32) : Int32).toNatClampNeg : Int32).toInt64) <<< ((32 : Int32).toInt64 &&& 63) : Int64)) ||| ((((xs ((0 + 3 : Int32) : Int32).toNatClampNeg : Int32).toInt64) &&& 4294967295 : Int64)) : Int64))]) (rest := []) ⟨hx, hb, hml, hown, hts⟩ (mt_X4_place l dC dI H.size q0 a0 a1 a2 a4 a6 a8 (xs ((0 + 1 : Int32) : Int32).toNatClampNeg) ((((((xs ((0 + 2 : Int32) : Int32).toNatClampNeg : Int32).toInt64) <<< ((32 : Int32).toInt64 &&& 63) : Int64)) ||| ((((xs ((0 + 3 : Int32) : Int32).toNatClampNeg : Int32).toInt64) &&& 4294967295 : Int64)) : Int64))) (cwV 2 hts gm_L_law_X4_place rfl rfl rfl (by decide +kernel) ⟨Nat.le_of_ble_eq_true rfl, Nat.le_of_ble_eq_true rfl⟩) ⟨fun a U g mk q => by obtain ⟨q0, q1, qP, qK, qD⟩ := q; exact ⟨q0, q1, qP, va_K.moved (u := U) (U := U.calling g mk a) (Vm.Alike.refl U.vm) qK, qD⟩, va_recv hKc hPc (ci := 6) (q0 := 0) rfl rfl, fun U hU hW => ⟨rfl, by rw [hU], by rw [hU]; exact hPc, va_K.moved hW.alike hKc, hDc.weaken (fun _ _ _ _ => trivial)⟩⟩ rfl rfl hl.1 rfl (lv_room (Nat.le_of_ble_eq_true rfl)) dL_law_420 ⟨Nat.le_of_ble_eq_true rfl, Nat.le_of_ble_eq_true rfl⟩) hS (fun q _ h => hFc q h) hFc (fun r_1 u t H1 locs ht hvm hw hB hz1 hk1 hS => ?_)
  obtain ⟨hP1, hK1, hD1⟩ := hB
  rw [ht] at hP1
  have hK1 := va_K.moved hvm.symm hK1
  obtain ⟨hP, hD⟩ := va_join (wr := [(a2, .inl (y2, 16, .inr (.inl (fun _ => 0)))), (a8, .inl (y8, 32, .inr (.inl (fun _ => 0)))), (q1, .inr (7, [.int 0, .int 0, .ref b2, .int 0, .ref b4, .ref b5, .ref b6, .ref b7, .int 0, .ref b9, .ref b10, .ref b11, .ref b12, .ref b13])), (b2, .inl (z2, 16, .inr (.inl (fun _ => 0)))), (b10, .inl (z10, 32, .inr (.inl (fun _ => 0)))), (q2, .inl (yo, 1, .inr (.inl (fun _ => 0))))]) (w1 := []) hP hD [0] [1, 2, 3, 4, 5, 6] rfl rfl (by decide) (by decide) hk1 hFc hP1 hD1
  generalize H1 = H at hP hS ⊢
  have hP : va_P (dC, dI) vwCl [(a2, .inl (y2, 16, .inr (.inl (fun _ => 0)))), (a8, .inl (y8, 32, .inr (.inl (fun _ => 0)))), (q1, .inr (7, [.int 0, .int 0, .ref b2, .int 0, .ref b4, .ref b5, .ref b6, .ref b7, .int 0, .ref b9, .ref b10, .ref b11, .ref b12, .ref b13])), (b2, .inl (z2, 16, .inr (.inl (fun _ => 0)))), (b10, .inl (z10, 32, .inr (.inl (fun _ => 0)))), (q2, .inl (yo, 1, .inr (.inl (fun _ => 0))))] H := hP
  have hD : va_D (fun q : Nat => s.heap.size ≤ q) [(a2, .inl (y2, 16, .inr (.inl (fun _ => 0)))), (a8, .inl (y8, 32, .inr (.inl (fun _ => 0)))), (q1, .inr (7, [.int 0, .int 0, .ref b2, .int 0, .ref b4, .ref b5, .ref b6, .ref b7, .int 0, .ref b9, .ref b10, .ref b11, .ref b12, .ref b13])), (b2, .inl (z2, 16, .inr (.inl (fun _ => 0)))), (b10, .inl (z10, 32, .inr (.inl (fun _ => 0)))), (q2, .inl (yo, 1, .inr (.inl (fun _ => 0))))] := hD
  subst hw
  refine lv_aload_n hx hb dL_law_423 rfl (lv_at hl 2 rfl) ?_
  refine lv_aload_n hx hb dL_law_424 rfl (lv_at hl 4 rfl) ?_
  refine lv_iload hx hb dL_law_425 (lv_at hl 0 rfl) ?_
  refine lv_iconst (v := 1) hx hb dL_law_427 (by decide) ?_
  refine lv_iadd hx hb dL_law_428 ?_
  refine va_sld (i := (0 + 1 : Int32)) hx hb hX hbl hbA hS (by unfold vp_in; decide) dL_law_429 ?_
  refine lv_aload_n hx hb dL_law_430 rfl (lv_at hl 4 rfl) ?_
  refine lv_iload hx hb dL_law_431 (lv_at hl 0 rfl) ?_
  refine lv_iconst (v := 2) hx hb dL_law_433 (by decide) ?_
  refine lv_iadd hx hb dL_law_434 ?_
  refine va_sld (i := (0 + 2 : Int32)) hx hb hX hbl hbA hS (by unfold vp_in; decide) dL_law_435 ?_
  refine lv_i2l hx hb dL_law_436 rfl ?_
  refine lv_bipush (v := 32) hx hb dL_law_437 (by decide) ?_
  refine lv_lshl hx hb dL_law_439 rfl ?_
  refine lv_aload_n hx hb dL_law_440 rfl (lv_at hl 4 rfl) ?_
  refine lv_iload hx hb dL_law_441 (lv_at hl 0 rfl) ?_
  refine lv_iconst (v := 3) hx hb dL_law_443 (by decide) ?_
  refine lv_iadd hx hb dL_law_444 ?_
  refine va_sld (i := (0 + 3 : Int32)) hx hb hX hbl hbA hS (by unfold vp_in; decide) dL_law_445 ?_
  refine lv_i2l hx hb dL_law_446 rfl ?_
  refine lv_ldc2 (v := 4294967295) hx hb hown (hts _ kL_law_0) dL_law_447 ?_
  refine lv_land hx hb dL_law_450 ?_
  refine lv_lor hx hb dL_law_451 ?_
  have hPc := hP.sub (ws' := [(q1, .inr (7, [.int 0, .int 0, .ref b2, .int 0, .ref b4, .ref b5, .ref b6, .ref b7, .int 0, .ref b9, .ref b10, .ref b11, .ref b12, .ref b13]))]) [2] rfl
  have hDc := hD.sub (ws' := [(q1, .inr (7, [.int 0, .int 0, .ref b2, .int 0, .ref b4, .ref b5, .ref b6, .ref b7, .int 0, .ref b9, .ref b10, .ref b11, .ref b12, .ref b13]))]) [2] (by decide) rfl
  have hKc := hK.sub (tys' := []) [] rfl
  have hFc := va_free (wc := [(q1, .inr (7, [.int 0, .int 0, .ref b2, .int 0, .ref b4, .ref b5, .ref b6, .ref b7, .int 0, .ref b9, .ref b10, .ref b11, .ref b12, .ref b13]))]) hD hS hA [2] rfl
  refine va_calli (va_runV (As := [.int (xs ((0 + 1 : Int32) : Int32).toNatClampNeg), .long ((((((xs ((0 + 2 : Int32) : Int32).toNatClampNeg : Int32).toInt64) <<< ((32 : Int32).toInt64 &&& 63) : Int64)) ||| ((((xs ((0 + 3 : Int32) : Int32).toNatClampNeg : Int32).toInt64) &&& 4294967295 : Int64)) : Int64))]) (rest := [.int ((-1))]) ⟨hx, hb, hml, hown, hts⟩ (mt_X5_place l dC dI H.size q1 b2 b4 b5 b6 b7 b9 b10 b11 b12 b13 0 (xs ((0 + 1 : Int32) : Int32).toNatClampNeg) ((((((xs ((0 + 2 : Int32) : Int32).toNatClampNeg : Int32).toInt64) <<< ((32 : Int32).toInt64 &&& 63) : Int64)) ||| ((((xs ((0 + 3 : Int32) : Int32).toNatClampNeg : Int32).toInt64) &&& 4294967295 : Int64)) : Int64))) (cwV 2 hts gm_L_law_X5_place rfl rfl rfl (by decide +kernel) ⟨Nat.le_of_ble_eq_true rfl, Nat.le_of_ble_eq_true rfl⟩) ⟨fun a U g mk q => by obtain ⟨q0, q1, qP, qK, qD⟩ := q; exact ⟨q0, q1, qP, va_K.moved (u := U) (U := U.calling g mk a) (Vm.Alike.refl U.vm) qK, qD⟩, va_recv hKc hPc (ci := 7) (q0 := 0) rfl rfl, fun U hU hW => ⟨rfl, by rw [hU], by rw [hU]; exact hPc, va_K.moved hW.alike hKc, hDc.weaken (fun _ _ _ _ => trivial)⟩⟩ rfl rfl hl.1 rfl (lv_room (Nat.le_of_ble_eq_true rfl)) dL_law_452 ⟨Nat.le_of_ble_eq_true rfl, Nat.le_of_ble_eq_true rfl⟩) hS (fun q _ h => hFc q h) hFc (fun r_2 u t H1 locs ht hvm hw hB hz1 hk1 hS => ?_)
  obtain ⟨hP1, hK1, hD1⟩ := hB
  rw [ht] at hP1
  have hK1 := va_K.moved hvm.symm hK1
  obtain ⟨hP, hD⟩ := va_join (wr := [(a2, .inl (y2, 16, .inr (.inl (fun _ => 0)))), (a8, .inl (y8, 32, .inr (.inl (fun _ => 0)))), (b2, .inl (z2, 16, .inr (.inl (fun _ => 0)))), (b10, .inl (z10, 32, .inr (.inl (fun _ => 0)))), (q2, .inl (yo, 1, .inr (.inl (fun _ => 0))))]) (w1 := []) hP hD [2] [0, 1, 3, 4, 5] rfl rfl (by decide) (by decide) hk1 hFc hP1 hD1
  generalize H1 = H at hP hS ⊢
  have hP : va_P (dC, dI) vwCl [(a2, .inl (y2, 16, .inr (.inl (fun _ => 0)))), (a8, .inl (y8, 32, .inr (.inl (fun _ => 0)))), (b2, .inl (z2, 16, .inr (.inl (fun _ => 0)))), (b10, .inl (z10, 32, .inr (.inl (fun _ => 0)))), (q2, .inl (yo, 1, .inr (.inl (fun _ => 0))))] H := hP
  have hD : va_D (fun q : Nat => s.heap.size ≤ q) [(a2, .inl (y2, 16, .inr (.inl (fun _ => 0)))), (a8, .inl (y8, 32, .inr (.inl (fun _ => 0)))), (b2, .inl (z2, 16, .inr (.inl (fun _ => 0)))), (b10, .inl (z10, 32, .inr (.inl (fun _ => 0)))), (q2, .inl (yo, 1, .inr (.inl (fun _ => 0))))] := hD
  subst hw
  refine lv_icmp_eq (tgt := 1423) hx hb dL_law_455 (by decide) (fun c_3 => ?_) (fun c_3 => absurd c_3 (by decide))
  exact law_end l hd0 C0 31 654 (Nat.le_of_ble_eq_true rfl) (Nat.le_of_ble_eq_true rfl) hS (lv_sub hl [0, 4] rfl)
set_option maxHeartbeats 4000000 in
set_option maxRecDepth 100000 in
theorem law_6 {p : Program} {e : Env} {s : State} {m : MethodId} {below : List Frame} {meth : Method} {c : Code} (l : Launch) (hst : l.stackTraces = false) {b : Nat} {xs : Nat → Int32} {d0 : Drawn} (hd0 : s.drawn.sameBut d0 lw_cs) (C0 : lw_At p s m meth c b 5 xs) (dC : Nat → ClassId) (dI : Nat → Nat → Nat) (q0 a0 a1 a2 a4 a6 a8 q1 b2 b4 b5 b6 b7 b9 b10 b11 b12 b13 q2 : Nat) (y2 y8 z2 z10 yo : ClassId) {H : Heap} {locs : List Loc} (hK : va_K (dC, dI) vwCl [(y2, .long), (y8, .long), (z2, .long), (z10, .long), (yo, .long)] (s.setDrawn d0)) (hP : va_P (dC, dI) vwCl [(q0, .inr (6, [.ref a0, .ref a1, .ref a2, .int 0, .ref a4, .int 0, .ref a6, .int 0, .ref a8])), (a2, .inl (y2, 16, .inr (.inl (fun _ => 0)))), (a8, .inl (y8, 32, .inr (.inl (fun _ => 0)))), (q1, .inr (7, [.int 0, .int 0, .ref b2, .int 0, .ref b4, .ref b5, .ref b6, .ref b7, .int 0, .ref b9, .ref b10, .ref b11, .ref b12, .ref b13])), (b2, .inl (z2, 16, .inr (.inl (fun _ => 0)))), (b10, .inl (z10, 32, .inr (.inl (fun _ => 0)))), (q2, .inl (yo, 1, .inr (.inl (fun _ => 0))))] H) (hD : va_D (fun q : Nat => s.heap.size ≤ q) [(q0, .inr (6, [.ref a0, .ref a1, .ref a2, .int 0, .ref a4, .int 0, .ref a6, .int 0, .ref a8])), (a2, .inl (y2, 16, .inr (.inl (fun _ => 0)))), (a8, .inl (y8, 32, .inr (.inl (fun _ => 0)))), (q1, .inr (7, [.int 0, .int 0, .ref b2, .int 0, .ref b4, .ref b5, .ref b6, .ref b7, .int 0, .ref b9, .ref b10, .ref b11, .ref b12, .ref b13])), (b2, .inl (z2, 16, .inr (.inl (fun _ => 0)))), (b10, .inl (z10, 32, .inr (.inl (fun _ => 0)))), (q2, .inl (yo, 1, .inr (.inl (fun _ => 0))))]) (hS : va_S (fun q : Nat => s.heap.size ≤ q) s.heap H locs) {ls : Array Slot} (hl : lv_has ls 9 [(4, .int 0), (3, .ref q2), (2, .ref q1), (1, .ref q0), (0, .ref b)]) : W p l e room_1 (s.setDrawn d0) m #[Value.ref b] below meth c H locs 31 654 (lw_Z below #[Value.ref b] s) (F0 m 460 ls []) := by
  obtain ⟨hx, hb, hr, hml, hown, hts0, hX, hbl, hlocks, hgv⟩ := id C0
  have htsT := dr_words hts0 d0
  have hts := htsT
  have hown : (s.setDrawn d0).vm.findClass RL = some m.cls := hown
  have hA : ∀ q : Nat, s.heap.size ≤ q → (fun q : Nat => s.heap.size ≤ q) q := fun _ h => h
  have hbA : ¬ (fun q : Nat => s.heap.size ≤ q) b := Nat.not_le.mpr hbl
  have hX : va_X b _ xs (s.setDrawn d0) s.heap := hX
  refine lv_aload_n hx hb dL_law_460 rfl (lv_at hl 3 rfl) ?_
  refine lv_aload_n hx hb dL_law_461 rfl (lv_at hl 4 rfl) ?_
  refine lv_iload hx hb dL_law_462 (lv_at hl 0 rfl) ?_
  refine lv_iconst (v := 1) hx hb dL_law_464 (by decide) ?_
  refine lv_iadd hx hb dL_law_465 ?_
  refine va_sld (i := (0 + 1 : Int32)) hx hb hX hbl hbA hS (by unfold vp_in; decide) dL_law_466 ?_
  refine lv_aload_n hx hb dL_law_467 rfl (lv_at hl 4 rfl) ?_
  refine lv_iload hx hb dL_law_468 (lv_at hl 0 rfl) ?_
  refine lv_iconst (v := 2) hx hb dL_law_470 (by decide) ?_
  refine lv_iadd hx hb dL_law_471 ?_
  refine va_sld (i := (0 + 2 : Int32)) hx hb hX hbl hbA hS (by unfold vp_in; decide) dL_law_472 ?_
  have hPc := hP.sub (ws' := [(q0, .inr (6, [.ref a0, .ref a1, .ref a2, .int 0, .ref a4, .int 0, .ref a6, .int 0, .ref a8]))]) [0] rfl
  have hDc := hD.sub (ws' := [(q0, .inr (6, [.ref a0, .ref a1, .ref a2, .int 0, .ref a4, .int 0, .ref a6, .int 0, .ref a8]))]) [0] (by decide) rfl
  have hKc := hK.sub (tys' := []) [] rfl
  have hFc := va_free (wc := [(q0, .inr (6, [.ref a0, .ref a1, .ref a2, .int 0, .ref a4, .int 0, .ref a6, .int 0, .ref a8]))]) hD hS hA [0] rfl
  refine va_calll (va_runV (As := [.int (xs ((0 + 1 : Int32) : Int32).toNatClampNeg), .int (xs ((0 + 2 : Int32) : Int32).toNatClampNeg)]) (rest := []) ⟨hx, hb, hml, hown, hts⟩ (mt_X4_told l dC dI H.size q0 a0 a1 a2 a4 a6 a8 (xs ((0 + 1 : Int32) : Int32).toNatClampNeg) (xs ((0 + 2 : Int32) : Int32).toNatClampNeg)) (cwV 2 hts gm_L_law_X4_told rfl rfl rfl (by decide +kernel) ⟨Nat.le_of_ble_eq_true rfl, Nat.le_of_ble_eq_true rfl⟩) ⟨fun a U g mk q => by obtain ⟨q0, q1, qP, qK, qD⟩ := q; exact ⟨q0, q1, qP, va_K.moved (u := U) (U := U.calling g mk a) (Vm.Alike.refl U.vm) qK, qD⟩, va_recv hKc hPc (ci := 6) (q0 := 0) rfl rfl, fun U hU hW => ⟨rfl, by rw [hU], by rw [hU]; exact hPc, va_K.moved hW.alike hKc, hDc.weaken (fun _ _ _ _ => trivial)⟩⟩ rfl rfl hl.1 rfl (lv_room (Nat.le_of_ble_eq_true rfl)) dL_law_473 ⟨Nat.le_of_ble_eq_true rfl, Nat.le_of_ble_eq_true rfl⟩) hS (fun q _ h => hFc q h) hFc (fun r_1 u t H1 locs ht hvm hw hB hz1 hk1 hS => ?_)
  obtain ⟨hP1, hK1, hD1⟩ := hB
  rw [ht] at hP1
  have hK1 := va_K.moved hvm.symm hK1
  obtain ⟨hP, hD⟩ := va_join (wr := [(a2, .inl (y2, 16, .inr (.inl (fun _ => 0)))), (a8, .inl (y8, 32, .inr (.inl (fun _ => 0)))), (q1, .inr (7, [.int 0, .int 0, .ref b2, .int 0, .ref b4, .ref b5, .ref b6, .ref b7, .int 0, .ref b9, .ref b10, .ref b11, .ref b12, .ref b13])), (b2, .inl (z2, 16, .inr (.inl (fun _ => 0)))), (b10, .inl (z10, 32, .inr (.inl (fun _ => 0)))), (q2, .inl (yo, 1, .inr (.inl (fun _ => 0))))]) (w1 := []) hP hD [0] [1, 2, 3, 4, 5, 6] rfl rfl (by decide) (by decide) hk1 hFc hP1 hD1
  generalize H1 = H at hP hS ⊢
  have hP : va_P (dC, dI) vwCl [(a2, .inl (y2, 16, .inr (.inl (fun _ => 0)))), (a8, .inl (y8, 32, .inr (.inl (fun _ => 0)))), (q1, .inr (7, [.int 0, .int 0, .ref b2, .int 0, .ref b4, .ref b5, .ref b6, .ref b7, .int 0, .ref b9, .ref b10, .ref b11, .ref b12, .ref b13])), (b2, .inl (z2, 16, .inr (.inl (fun _ => 0)))), (b10, .inl (z10, 32, .inr (.inl (fun _ => 0)))), (q2, .inl (yo, 1, .inr (.inl (fun _ => 0))))] H := hP
  have hD : va_D (fun q : Nat => s.heap.size ≤ q) [(a2, .inl (y2, 16, .inr (.inl (fun _ => 0)))), (a8, .inl (y8, 32, .inr (.inl (fun _ => 0)))), (q1, .inr (7, [.int 0, .int 0, .ref b2, .int 0, .ref b4, .ref b5, .ref b6, .ref b7, .int 0, .ref b9, .ref b10, .ref b11, .ref b12, .ref b13])), (b2, .inl (z2, 16, .inr (.inl (fun _ => 0)))), (b10, .inl (z10, 32, .inr (.inl (fun _ => 0)))), (q2, .inl (yo, 1, .inr (.inl (fun _ => 0))))] := hD
  subst hw
  refine lv_aload_n hx hb dL_law_476 rfl (lv_at hl 2 rfl) ?_
  refine lv_aload_n hx hb dL_law_477 rfl (lv_at hl 4 rfl) ?_
  refine lv_iload hx hb dL_law_478 (lv_at hl 0 rfl) ?_
  refine lv_iconst (v := 1) hx hb dL_law_480 (by decide) ?_
  refine lv_iadd hx hb dL_law_481 ?_
  refine va_sld (i := (0 + 1 : Int32)) hx hb hX hbl hbA hS (by unfold vp_in; decide) dL_law_482 ?_
  refine lv_aload_n hx hb dL_law_483 rfl (lv_at hl 4 rfl) ?_
  refine lv_iload hx hb dL_law_484 (lv_at hl 0 rfl) ?_
  refine lv_iconst (v := 2) hx hb dL_law_486 (by decide) ?_
  refine lv_iadd hx hb dL_law_487 ?_
  refine va_sld (i := (0 + 2 : Int32)) hx hb hX hbl hbA hS (by unfold vp_in; decide) dL_law_488 ?_
  have hPc := hP.sub (ws' := [(q1, .inr (7, [.int 0, .int 0, .ref b2, .int 0, .ref b4, .ref b5, .ref b6, .ref b7, .int 0, .ref b9, .ref b10, .ref b11, .ref b12, .ref b13]))]) [2] rfl
  have hDc := hD.sub (ws' := [(q1, .inr (7, [.int 0, .int 0, .ref b2, .int 0, .ref b4, .ref b5, .ref b6, .ref b7, .int 0, .ref b9, .ref b10, .ref b11, .ref b12, .ref b13]))]) [2] (by decide) rfl
  have hKc := hK.sub (tys' := []) [] rfl
  have hFc := va_free (wc := [(q1, .inr (7, [.int 0, .int 0, .ref b2, .int 0, .ref b4, .ref b5, .ref b6, .ref b7, .int 0, .ref b9, .ref b10, .ref b11, .ref b12, .ref b13]))]) hD hS hA [2] rfl
  refine va_calll (va_runV (As := [.int (xs ((0 + 1 : Int32) : Int32).toNatClampNeg), .int (xs ((0 + 2 : Int32) : Int32).toNatClampNeg)]) (rest := [.long ((-1))]) ⟨hx, hb, hml, hown, hts⟩ (mt_X5_told l dC dI H.size q1 b2 b4 b5 b6 b7 b9 b10 b11 b12 b13 0 (xs ((0 + 1 : Int32) : Int32).toNatClampNeg) (xs ((0 + 2 : Int32) : Int32).toNatClampNeg)) (cwV 2 hts gm_L_law_X5_told rfl rfl rfl (by decide +kernel) ⟨Nat.le_of_ble_eq_true rfl, Nat.le_of_ble_eq_true rfl⟩) ⟨fun a U g mk q => by obtain ⟨q0, q1, qP, qK, qD⟩ := q; exact ⟨q0, q1, qP, va_K.moved (u := U) (U := U.calling g mk a) (Vm.Alike.refl U.vm) qK, qD⟩, va_recv hKc hPc (ci := 7) (q0 := 0) rfl rfl, fun U hU hW => ⟨rfl, by rw [hU], by rw [hU]; exact hPc, va_K.moved hW.alike hKc, hDc.weaken (fun _ _ _ _ => trivial)⟩⟩ rfl rfl hl.1 rfl (lv_room (Nat.le_of_ble_eq_true rfl)) dL_law_489 ⟨Nat.le_of_ble_eq_true rfl, Nat.le_of_ble_eq_true rfl⟩) hS (fun q _ h => hFc q h) hFc (fun r_2 u t H1 locs ht hvm hw hB hz1 hk1 hS => ?_)
  obtain ⟨hP1, hK1, hD1⟩ := hB
  rw [ht] at hP1
  have hK1 := va_K.moved hvm.symm hK1
  obtain ⟨hP, hD⟩ := va_join (wr := [(a2, .inl (y2, 16, .inr (.inl (fun _ => 0)))), (a8, .inl (y8, 32, .inr (.inl (fun _ => 0)))), (b2, .inl (z2, 16, .inr (.inl (fun _ => 0)))), (b10, .inl (z10, 32, .inr (.inl (fun _ => 0)))), (q2, .inl (yo, 1, .inr (.inl (fun _ => 0))))]) (w1 := []) hP hD [2] [0, 1, 3, 4, 5] rfl rfl (by decide) (by decide) hk1 hFc hP1 hD1
  generalize H1 = H at hP hS ⊢
  have hP : va_P (dC, dI) vwCl [(a2, .inl (y2, 16, .inr (.inl (fun _ => 0)))), (a8, .inl (y8, 32, .inr (.inl (fun _ => 0)))), (b2, .inl (z2, 16, .inr (.inl (fun _ => 0)))), (b10, .inl (z10, 32, .inr (.inl (fun _ => 0)))), (q2, .inl (yo, 1, .inr (.inl (fun _ => 0))))] H := hP
  have hD : va_D (fun q : Nat => s.heap.size ≤ q) [(a2, .inl (y2, 16, .inr (.inl (fun _ => 0)))), (a8, .inl (y8, 32, .inr (.inl (fun _ => 0)))), (b2, .inl (z2, 16, .inr (.inl (fun _ => 0)))), (b10, .inl (z10, 32, .inr (.inl (fun _ => 0)))), (q2, .inl (yo, 1, .inr (.inl (fun _ => 0))))] := hD
  subst hw
  refine W.lcmp hx hb dL_law_492 ?_
  refine lv_if_eq (tgt := 1423) hx hb dL_law_493 (by decide) (fun c_3 => ?_) (fun c_3 => absurd c_3 (by decide))
  exact law_end l hd0 C0 31 654 (Nat.le_of_ble_eq_true rfl) (Nat.le_of_ble_eq_true rfl) hS (lv_sub hl [0, 4] rfl)
set_option maxHeartbeats 4000000 in
set_option maxRecDepth 100000 in
theorem law_7 {p : Program} {e : Env} {s : State} {m : MethodId} {below : List Frame} {meth : Method} {c : Code} (l : Launch) (hst : l.stackTraces = false) {b : Nat} {xs : Nat → Int32} {d0 : Drawn} (hd0 : s.drawn.sameBut d0 lw_cs) (C0 : lw_At p s m meth c b 5 xs) (dC : Nat → ClassId) (dI : Nat → Nat → Nat) (q0 a0 a1 a2 a4 a6 a8 q1 b2 b4 b5 b6 b7 b9 b10 b11 b12 b13 q2 : Nat) (y2 y8 z2 z10 yo : ClassId) {H : Heap} {locs : List Loc} (hK : va_K (dC, dI) vwCl [(y2, .long), (y8, .long), (z2, .long), (z10, .long), (yo, .long)] (s.setDrawn d0)) (hP : va_P (dC, dI) vwCl [(q0, .inr (6, [.ref a0, .ref a1, .ref a2, .int 0, .ref a4, .int 0, .ref a6, .int 0, .ref a8])), (a2, .inl (y2, 16, .inr (.inl (fun _ => 0)))), (a8, .inl (y8, 32, .inr (.inl (fun _ => 0)))), (q1, .inr (7, [.int 0, .int 0, .ref b2, .int 0, .ref b4, .ref b5, .ref b6, .ref b7, .int 0, .ref b9, .ref b10, .ref b11, .ref b12, .ref b13])), (b2, .inl (z2, 16, .inr (.inl (fun _ => 0)))), (b10, .inl (z10, 32, .inr (.inl (fun _ => 0)))), (q2, .inl (yo, 1, .inr (.inl (fun _ => 0))))] H) (hD : va_D (fun q : Nat => s.heap.size ≤ q) [(q0, .inr (6, [.ref a0, .ref a1, .ref a2, .int 0, .ref a4, .int 0, .ref a6, .int 0, .ref a8])), (a2, .inl (y2, 16, .inr (.inl (fun _ => 0)))), (a8, .inl (y8, 32, .inr (.inl (fun _ => 0)))), (q1, .inr (7, [.int 0, .int 0, .ref b2, .int 0, .ref b4, .ref b5, .ref b6, .ref b7, .int 0, .ref b9, .ref b10, .ref b11, .ref b12, .ref b13])), (b2, .inl (z2, 16, .inr (.inl (fun _ => 0)))), (b10, .inl (z10, 32, .inr (.inl (fun _ => 0)))), (q2, .inl (yo, 1, .inr (.inl (fun _ => 0))))]) (hS : va_S (fun q : Nat => s.heap.size ≤ q) s.heap H locs) {ls : Array Slot} (hl : lv_has ls 9 [(4, .int 0), (3, .ref q2), (2, .ref q1), (1, .ref q0), (0, .ref b)]) : W p l e room_1 (s.setDrawn d0) m #[Value.ref b] below meth c H locs 31 654 (lw_Z below #[Value.ref b] s) (F0 m 498 ls []) := by
  obtain ⟨hx, hb, hr, hml, hown, hts0, hX, hbl, hlocks, hgv⟩ := id C0
  have htsT := dr_words hts0 d0
  have hts := htsT
  have hown : (s.setDrawn d0).vm.findClass RL = some m.cls := hown
  have hA : ∀ q : Nat, s.heap.size ≤ q → (fun q : Nat => s.heap.size ≤ q) q := fun _ h => h
  have hbA : ¬ (fun q : Nat => s.heap.size ≤ q) b := Nat.not_le.mpr hbl
  have hX : va_X b _ xs (s.setDrawn d0) s.heap := hX
  refine lv_aload_n hx hb dL_law_498 rfl (lv_at hl 3 rfl) ?_
  refine lv_aload_n hx hb dL_law_499 rfl (lv_at hl 4 rfl) ?_
  refine lv_iload hx hb dL_law_500 (lv_at hl 0 rfl) ?_
  refine lv_iconst (v := 1) hx hb dL_law_502 (by decide) ?_
  refine lv_iadd hx hb dL_law_503 ?_
  refine va_sld (i := (0 + 1 : Int32)) hx hb hX hbl hbA hS (by unfold vp_in; decide) dL_law_504 ?_
  refine lv_aload_n hx hb dL_law_505 rfl (lv_at hl 4 rfl) ?_
  refine lv_iload hx hb dL_law_506 (lv_at hl 0 rfl) ?_
  refine lv_iconst (v := 2) hx hb dL_law_508 (by decide) ?_
  refine lv_iadd hx hb dL_law_509 ?_
  refine va_sld (i := (0 + 2 : Int32)) hx hb hX hbl hbA hS (by unfold vp_in; decide) dL_law_510 ?_
  have hPc := hP.sub (ws' := [(q0, .inr (6, [.ref a0, .ref a1, .ref a2, .int 0, .ref a4, .int 0, .ref a6, .int 0, .ref a8]))]) [0] rfl
  have hDc := hD.sub (ws' := [(q0, .inr (6, [.ref a0, .ref a1, .ref a2, .int 0, .ref a4, .int 0, .ref a6, .int 0, .ref a8]))]) [0] (by decide) rfl
  have hKc := hK.sub (tys' := []) [] rfl
  have hFc := va_free (wc := [(q0, .inr (6, [.ref a0, .ref a1, .ref a2, .int 0, .ref a4, .int 0, .ref a6, .int 0, .ref a8]))]) hD hS hA [0] rfl
  refine va_calli (va_runV (As := [.int (xs ((0 + 1 : Int32) : Int32).toNatClampNeg), .int (xs ((0 + 2 : Int32) : Int32).toNatClampNeg)]) (rest := []) ⟨hx, hb, hml, hown, hts⟩ (mt_X4_same l dC dI H.size q0 a0 a1 a2 a4 a6 a8 (xs ((0 + 1 : Int32) : Int32).toNatClampNeg) (xs ((0 + 2 : Int32) : Int32).toNatClampNeg)) (cwV 2 hts gm_L_law_X4_same rfl rfl rfl (by decide +kernel) ⟨Nat.le_of_ble_eq_true rfl, Nat.le_of_ble_eq_true rfl⟩) ⟨fun a U g mk q => by obtain ⟨q0, q1, qP, qK, qD⟩ := q; exact ⟨q0, q1, qP, va_K.moved (u := U) (U := U.calling g mk a) (Vm.Alike.refl U.vm) qK, qD⟩, va_recv hKc hPc (ci := 6) (q0 := 0) rfl rfl, fun U hU hW => ⟨rfl, by rw [hU], by rw [hU]; exact hPc, va_K.moved hW.alike hKc, hDc.weaken (fun _ _ _ _ => trivial)⟩⟩ rfl rfl hl.1 rfl (lv_room (Nat.le_of_ble_eq_true rfl)) dL_law_511 ⟨Nat.le_of_ble_eq_true rfl, Nat.le_of_ble_eq_true rfl⟩) hS (fun q _ h => hFc q h) hFc (fun r_1 u t H1 locs ht hvm hw hB hz1 hk1 hS => ?_)
  obtain ⟨hP1, hK1, hD1⟩ := hB
  rw [ht] at hP1
  have hK1 := va_K.moved hvm.symm hK1
  obtain ⟨hP, hD⟩ := va_join (wr := [(a2, .inl (y2, 16, .inr (.inl (fun _ => 0)))), (a8, .inl (y8, 32, .inr (.inl (fun _ => 0)))), (q1, .inr (7, [.int 0, .int 0, .ref b2, .int 0, .ref b4, .ref b5, .ref b6, .ref b7, .int 0, .ref b9, .ref b10, .ref b11, .ref b12, .ref b13])), (b2, .inl (z2, 16, .inr (.inl (fun _ => 0)))), (b10, .inl (z10, 32, .inr (.inl (fun _ => 0)))), (q2, .inl (yo, 1, .inr (.inl (fun _ => 0))))]) (w1 := []) hP hD [0] [1, 2, 3, 4, 5, 6] rfl rfl (by decide) (by decide) hk1 hFc hP1 hD1
  generalize H1 = H at hP hS ⊢
  have hP : va_P (dC, dI) vwCl [(a2, .inl (y2, 16, .inr (.inl (fun _ => 0)))), (a8, .inl (y8, 32, .inr (.inl (fun _ => 0)))), (q1, .inr (7, [.int 0, .int 0, .ref b2, .int 0, .ref b4, .ref b5, .ref b6, .ref b7, .int 0, .ref b9, .ref b10, .ref b11, .ref b12, .ref b13])), (b2, .inl (z2, 16, .inr (.inl (fun _ => 0)))), (b10, .inl (z10, 32, .inr (.inl (fun _ => 0)))), (q2, .inl (yo, 1, .inr (.inl (fun _ => 0))))] H := hP
  have hD : va_D (fun q : Nat => s.heap.size ≤ q) [(a2, .inl (y2, 16, .inr (.inl (fun _ => 0)))), (a8, .inl (y8, 32, .inr (.inl (fun _ => 0)))), (q1, .inr (7, [.int 0, .int 0, .ref b2, .int 0, .ref b4, .ref b5, .ref b6, .ref b7, .int 0, .ref b9, .ref b10, .ref b11, .ref b12, .ref b13])), (b2, .inl (z2, 16, .inr (.inl (fun _ => 0)))), (b10, .inl (z10, 32, .inr (.inl (fun _ => 0)))), (q2, .inl (yo, 1, .inr (.inl (fun _ => 0))))] := hD
  subst hw
  refine lv_aload_n hx hb dL_law_514 rfl (lv_at hl 2 rfl) ?_
  refine lv_aload_n hx hb dL_law_515 rfl (lv_at hl 4 rfl) ?_
  refine lv_iload hx hb dL_law_516 (lv_at hl 0 rfl) ?_
  refine lv_iconst (v := 1) hx hb dL_law_518 (by decide) ?_
  refine lv_iadd hx hb dL_law_519 ?_
  refine va_sld (i := (0 + 1 : Int32)) hx hb hX hbl hbA hS (by unfold vp_in; decide) dL_law_520 ?_
  refine lv_aload_n hx hb dL_law_521 rfl (lv_at hl 4 rfl) ?_
  refine lv_iload hx hb dL_law_522 (lv_at hl 0 rfl) ?_
  refine lv_iconst (v := 2) hx hb dL_law_524 (by decide) ?_
  refine lv_iadd hx hb dL_law_525 ?_
  refine va_sld (i := (0 + 2 : Int32)) hx hb hX hbl hbA hS (by unfold vp_in; decide) dL_law_526 ?_
  have hPc := hP.sub (ws' := [(q1, .inr (7, [.int 0, .int 0, .ref b2, .int 0, .ref b4, .ref b5, .ref b6, .ref b7, .int 0, .ref b9, .ref b10, .ref b11, .ref b12, .ref b13]))]) [2] rfl
  have hDc := hD.sub (ws' := [(q1, .inr (7, [.int 0, .int 0, .ref b2, .int 0, .ref b4, .ref b5, .ref b6, .ref b7, .int 0, .ref b9, .ref b10, .ref b11, .ref b12, .ref b13]))]) [2] (by decide) rfl
  have hKc := hK.sub (tys' := []) [] rfl
  have hFc := va_free (wc := [(q1, .inr (7, [.int 0, .int 0, .ref b2, .int 0, .ref b4, .ref b5, .ref b6, .ref b7, .int 0, .ref b9, .ref b10, .ref b11, .ref b12, .ref b13]))]) hD hS hA [2] rfl
  refine va_calli (va_runV (As := [.int (xs ((0 + 1 : Int32) : Int32).toNatClampNeg), .int (xs ((0 + 2 : Int32) : Int32).toNatClampNeg)]) (rest := [.int 0]) ⟨hx, hb, hml, hown, hts⟩ (mt_X5_same l dC dI H.size q1 b2 b4 b5 b6 b7 b9 b10 b11 b12 b13 0 (xs ((0 + 1 : Int32) : Int32).toNatClampNeg) (xs ((0 + 2 : Int32) : Int32).toNatClampNeg)) (cwV 2 hts gm_L_law_X5_same rfl rfl rfl (by decide +kernel) ⟨Nat.le_of_ble_eq_true rfl, Nat.le_of_ble_eq_true rfl⟩) ⟨fun a U g mk q => by obtain ⟨q0, q1, qP, qK, qD⟩ := q; exact ⟨q0, q1, qP, va_K.moved (u := U) (U := U.calling g mk a) (Vm.Alike.refl U.vm) qK, qD⟩, va_recv hKc hPc (ci := 7) (q0 := 0) rfl rfl, fun U hU hW => ⟨rfl, by rw [hU], by rw [hU]; exact hPc, va_K.moved hW.alike hKc, hDc.weaken (fun _ _ _ _ => trivial)⟩⟩ rfl rfl hl.1 rfl (lv_room (Nat.le_of_ble_eq_true rfl)) dL_law_527 ⟨Nat.le_of_ble_eq_true rfl, Nat.le_of_ble_eq_true rfl⟩) hS (fun q _ h => hFc q h) hFc (fun r_2 u t H1 locs ht hvm hw hB hz1 hk1 hS => ?_)
  obtain ⟨hP1, hK1, hD1⟩ := hB
  rw [ht] at hP1
  have hK1 := va_K.moved hvm.symm hK1
  obtain ⟨hP, hD⟩ := va_join (wr := [(a2, .inl (y2, 16, .inr (.inl (fun _ => 0)))), (a8, .inl (y8, 32, .inr (.inl (fun _ => 0)))), (b2, .inl (z2, 16, .inr (.inl (fun _ => 0)))), (b10, .inl (z10, 32, .inr (.inl (fun _ => 0)))), (q2, .inl (yo, 1, .inr (.inl (fun _ => 0))))]) (w1 := []) hP hD [2] [0, 1, 3, 4, 5] rfl rfl (by decide) (by decide) hk1 hFc hP1 hD1
  generalize H1 = H at hP hS ⊢
  have hP : va_P (dC, dI) vwCl [(a2, .inl (y2, 16, .inr (.inl (fun _ => 0)))), (a8, .inl (y8, 32, .inr (.inl (fun _ => 0)))), (b2, .inl (z2, 16, .inr (.inl (fun _ => 0)))), (b10, .inl (z10, 32, .inr (.inl (fun _ => 0)))), (q2, .inl (yo, 1, .inr (.inl (fun _ => 0))))] H := hP
  have hD : va_D (fun q : Nat => s.heap.size ≤ q) [(a2, .inl (y2, 16, .inr (.inl (fun _ => 0)))), (a8, .inl (y8, 32, .inr (.inl (fun _ => 0)))), (b2, .inl (z2, 16, .inr (.inl (fun _ => 0)))), (b10, .inl (z10, 32, .inr (.inl (fun _ => 0)))), (q2, .inl (yo, 1, .inr (.inl (fun _ => 0))))] := hD
  subst hw
  refine lv_icmp_eq (tgt := 1423) hx hb dL_law_530 (by decide) (fun c_3 => ?_) (fun c_3 => absurd c_3 (by decide))
  exact law_end l hd0 C0 31 654 (Nat.le_of_ble_eq_true rfl) (Nat.le_of_ble_eq_true rfl) hS (lv_sub hl [0, 4] rfl)
set_option maxHeartbeats 4000000 in
set_option maxRecDepth 100000 in
theorem law_8 {p : Program} {e : Env} {s : State} {m : MethodId} {below : List Frame} {meth : Method} {c : Code} (l : Launch) (hst : l.stackTraces = false) {b : Nat} {xs : Nat → Int32} {d0 : Drawn} (hd0 : s.drawn.sameBut d0 lw_cs) (C0 : lw_At p s m meth c b 5 xs) (dC : Nat → ClassId) (dI : Nat → Nat → Nat) (q0 a0 a1 a2 a4 a6 a8 q1 b2 b4 b5 b6 b7 b9 b10 b11 b12 b13 q2 : Nat) (y2 y8 z2 z10 yo : ClassId) {H : Heap} {locs : List Loc} (hK : va_K (dC, dI) vwCl [(y2, .long), (y8, .long), (z2, .long), (z10, .long), (yo, .long)] (s.setDrawn d0)) (hP : va_P (dC, dI) vwCl [(q0, .inr (6, [.ref a0, .ref a1, .ref a2, .int 0, .ref a4, .int 0, .ref a6, .int 0, .ref a8])), (a2, .inl (y2, 16, .inr (.inl (fun _ => 0)))), (a8, .inl (y8, 32, .inr (.inl (fun _ => 0)))), (q1, .inr (7, [.int 0, .int 0, .ref b2, .int 0, .ref b4, .ref b5, .ref b6, .ref b7, .int 0, .ref b9, .ref b10, .ref b11, .ref b12, .ref b13])), (b2, .inl (z2, 16, .inr (.inl (fun _ => 0)))), (b10, .inl (z10, 32, .inr (.inl (fun _ => 0)))), (q2, .inl (yo, 1, .inr (.inl (fun _ => 0))))] H) (hD : va_D (fun q : Nat => s.heap.size ≤ q) [(q0, .inr (6, [.ref a0, .ref a1, .ref a2, .int 0, .ref a4, .int 0, .ref a6, .int 0, .ref a8])), (a2, .inl (y2, 16, .inr (.inl (fun _ => 0)))), (a8, .inl (y8, 32, .inr (.inl (fun _ => 0)))), (q1, .inr (7, [.int 0, .int 0, .ref b2, .int 0, .ref b4, .ref b5, .ref b6, .ref b7, .int 0, .ref b9, .ref b10, .ref b11, .ref b12, .ref b13])), (b2, .inl (z2, 16, .inr (.inl (fun _ => 0)))), (b10, .inl (z10, 32, .inr (.inl (fun _ => 0)))), (q2, .inl (yo, 1, .inr (.inl (fun _ => 0))))]) (hS : va_S (fun q : Nat => s.heap.size ≤ q) s.heap H locs) {ls : Array Slot} (hl : lv_has ls 9 [(4, .int 0), (3, .ref q2), (2, .ref q1), (1, .ref q0), (0, .ref b)]) : W p l e room_1 (s.setDrawn d0) m #[Value.ref b] below meth c H locs 31 654 (lw_Z below #[Value.ref b] s) (F0 m 535 ls []) := by
  obtain ⟨hx, hb, hr, hml, hown, hts0, hX, hbl, hlocks, hgv⟩ := id C0
  have htsT := dr_words hts0 d0
  have hts := htsT
  have hown : (s.setDrawn d0).vm.findClass RL = some m.cls := hown
  have hA : ∀ q : Nat, s.heap.size ≤ q → (fun q : Nat => s.heap.size ≤ q) q := fun _ h => h
  have hbA : ¬ (fun q : Nat => s.heap.size ≤ q) b := Nat.not_le.mpr hbl
  have hX : va_X b _ xs (s.setDrawn d0) s.heap := hX
  refine lv_aload_n hx hb dL_law_535 rfl (lv_at hl 3 rfl) ?_
  refine lv_aload_n hx hb dL_law_536 rfl (lv_at hl 4 rfl) ?_
  refine lv_iload hx hb dL_law_537 (lv_at hl 0 rfl) ?_
  refine lv_iconst (v := 1) hx hb dL_law_539 (by decide) ?_
  refine lv_iadd hx hb dL_law_540 ?_
  refine va_sld (i := (0 + 1 : Int32)) hx hb hX hbl hbA hS (by unfold vp_in; decide) dL_law_541 ?_
  refine lv_aload_n hx hb dL_law_542 rfl (lv_at hl 4 rfl) ?_
  refine lv_iload hx hb dL_law_543 (lv_at hl 0 rfl) ?_
  refine lv_iconst (v := 2) hx hb dL_law_545 (by decide) ?_
  refine lv_iadd hx hb dL_law_546 ?_
  refine va_sld (i := (0 + 2 : Int32)) hx hb hX hbl hbA hS (by unfold vp_in; decide) dL_law_547 ?_
  have hPc := hP.sub (ws' := [(q0, .inr (6, [.ref a0, .ref a1, .ref a2, .int 0, .ref a4, .int 0, .ref a6, .int 0, .ref a8]))]) [0] rfl
  have hDc := hD.sub (ws' := [(q0, .inr (6, [.ref a0, .ref a1, .ref a2, .int 0, .ref a4, .int 0, .ref a6, .int 0, .ref a8]))]) [0] (by decide) rfl
  have hKc := hK.sub (tys' := []) [] rfl
  have hFc := va_free (wc := [(q0, .inr (6, [.ref a0, .ref a1, .ref a2, .int 0, .ref a4, .int 0, .ref a6, .int 0, .ref a8]))]) hD hS hA [0] rfl
  refine va_calll (va_runV (As := [.int (xs ((0 + 1 : Int32) : Int32).toNatClampNeg), .int (xs ((0 + 2 : Int32) : Int32).toNatClampNeg)]) (rest := []) ⟨hx, hb, hml, hown, hts⟩ (mt_X4_bits l dC dI H.size q0 a0 a1 a2 a4 a6 a8 (xs ((0 + 1 : Int32) : Int32).toNatClampNeg) (xs ((0 + 2 : Int32) : Int32).toNatClampNeg)) (cwV 2 hts gm_L_law_X4_bits rfl rfl rfl (by decide +kernel) ⟨Nat.le_of_ble_eq_true rfl, Nat.le_of_ble_eq_true rfl⟩) ⟨fun a U g mk q => by obtain ⟨q0, q1, qP, qK, qD⟩ := q; exact ⟨q0, q1, qP, va_K.moved (u := U) (U := U.calling g mk a) (Vm.Alike.refl U.vm) qK, qD⟩, va_recv hKc hPc (ci := 6) (q0 := 0) rfl rfl, fun U hU hW => ⟨rfl, by rw [hU], by rw [hU]; exact hPc, va_K.moved hW.alike hKc, hDc.weaken (fun _ _ _ _ => trivial)⟩⟩ rfl rfl hl.1 rfl (lv_room (Nat.le_of_ble_eq_true rfl)) dL_law_548 ⟨Nat.le_of_ble_eq_true rfl, Nat.le_of_ble_eq_true rfl⟩) hS (fun q _ h => hFc q h) hFc (fun r_1 u t H1 locs ht hvm hw hB hz1 hk1 hS => ?_)
  obtain ⟨hP1, hK1, hD1⟩ := hB
  rw [ht] at hP1
  have hK1 := va_K.moved hvm.symm hK1
  obtain ⟨hP, hD⟩ := va_join (wr := [(a2, .inl (y2, 16, .inr (.inl (fun _ => 0)))), (a8, .inl (y8, 32, .inr (.inl (fun _ => 0)))), (q1, .inr (7, [.int 0, .int 0, .ref b2, .int 0, .ref b4, .ref b5, .ref b6, .ref b7, .int 0, .ref b9, .ref b10, .ref b11, .ref b12, .ref b13])), (b2, .inl (z2, 16, .inr (.inl (fun _ => 0)))), (b10, .inl (z10, 32, .inr (.inl (fun _ => 0)))), (q2, .inl (yo, 1, .inr (.inl (fun _ => 0))))]) (w1 := []) hP hD [0] [1, 2, 3, 4, 5, 6] rfl rfl (by decide) (by decide) hk1 hFc hP1 hD1
  generalize H1 = H at hP hS ⊢
  have hP : va_P (dC, dI) vwCl [(a2, .inl (y2, 16, .inr (.inl (fun _ => 0)))), (a8, .inl (y8, 32, .inr (.inl (fun _ => 0)))), (q1, .inr (7, [.int 0, .int 0, .ref b2, .int 0, .ref b4, .ref b5, .ref b6, .ref b7, .int 0, .ref b9, .ref b10, .ref b11, .ref b12, .ref b13])), (b2, .inl (z2, 16, .inr (.inl (fun _ => 0)))), (b10, .inl (z10, 32, .inr (.inl (fun _ => 0)))), (q2, .inl (yo, 1, .inr (.inl (fun _ => 0))))] H := hP
  have hD : va_D (fun q : Nat => s.heap.size ≤ q) [(a2, .inl (y2, 16, .inr (.inl (fun _ => 0)))), (a8, .inl (y8, 32, .inr (.inl (fun _ => 0)))), (q1, .inr (7, [.int 0, .int 0, .ref b2, .int 0, .ref b4, .ref b5, .ref b6, .ref b7, .int 0, .ref b9, .ref b10, .ref b11, .ref b12, .ref b13])), (b2, .inl (z2, 16, .inr (.inl (fun _ => 0)))), (b10, .inl (z10, 32, .inr (.inl (fun _ => 0)))), (q2, .inl (yo, 1, .inr (.inl (fun _ => 0))))] := hD
  subst hw
  refine lv_aload_n hx hb dL_law_551 rfl (lv_at hl 2 rfl) ?_
  refine lv_aload_n hx hb dL_law_552 rfl (lv_at hl 4 rfl) ?_
  refine lv_iload hx hb dL_law_553 (lv_at hl 0 rfl) ?_
  refine lv_iconst (v := 1) hx hb dL_law_555 (by decide) ?_
  refine lv_iadd hx hb dL_law_556 ?_
  refine va_sld (i := (0 + 1 : Int32)) hx hb hX hbl hbA hS (by unfold vp_in; decide) dL_law_557 ?_
  refine lv_aload_n hx hb dL_law_558 rfl (lv_at hl 4 rfl) ?_
  refine lv_iload hx hb dL_law_559 (lv_at hl 0 rfl) ?_
  refine lv_iconst (v := 2) hx hb dL_law_561 (by decide) ?_
  refine lv_iadd hx hb dL_law_562 ?_
  refine va_sld (i := (0 + 2 : Int32)) hx hb hX hbl hbA hS (by unfold vp_in; decide) dL_law_563 ?_
  have hPc := hP.sub (ws' := [(q1, .inr (7, [.int 0, .int 0, .ref b2, .int 0, .ref b4, .ref b5, .ref b6, .ref b7, .int 0, .ref b9, .ref b10, .ref b11, .ref b12, .ref b13]))]) [2] rfl
  have hDc := hD.sub (ws' := [(q1, .inr (7, [.int 0, .int 0, .ref b2, .int 0, .ref b4, .ref b5, .ref b6, .ref b7, .int 0, .ref b9, .ref b10, .ref b11, .ref b12, .ref b13]))]) [2] (by decide) rfl
  have hKc := hK.sub (tys' := []) [] rfl
  have hFc := va_free (wc := [(q1, .inr (7, [.int 0, .int 0, .ref b2, .int 0, .ref b4, .ref b5, .ref b6, .ref b7, .int 0, .ref b9, .ref b10, .ref b11, .ref b12, .ref b13]))]) hD hS hA [2] rfl
  refine va_calll (va_runV (As := [.int (xs ((0 + 1 : Int32) : Int32).toNatClampNeg), .int (xs ((0 + 2 : Int32) : Int32).toNatClampNeg)]) (rest := [.long ((-1))]) ⟨hx, hb, hml, hown, hts⟩ (mt_X5_bits l dC dI H.size q1 b2 b4 b5 b6 b7 b9 b10 b11 b12 b13 0 (xs ((0 + 1 : Int32) : Int32).toNatClampNeg) (xs ((0 + 2 : Int32) : Int32).toNatClampNeg)) (cwV 2 hts gm_L_law_X5_bits rfl rfl rfl (by decide +kernel) ⟨Nat.le_of_ble_eq_true rfl, Nat.le_of_ble_eq_true rfl⟩) ⟨fun a U g mk q => by obtain ⟨q0, q1, qP, qK, qD⟩ := q; exact ⟨q0, q1, qP, va_K.moved (u := U) (U := U.calling g mk a) (Vm.Alike.refl U.vm) qK, qD⟩, va_recv hKc hPc (ci := 7) (q0 := 0) rfl rfl, fun U hU hW => ⟨rfl, by rw [hU], by rw [hU]; exact hPc, va_K.moved hW.alike hKc, hDc.weaken (fun _ _ _ _ => trivial)⟩⟩ rfl rfl hl.1 rfl (lv_room (Nat.le_of_ble_eq_true rfl)) dL_law_564 ⟨Nat.le_of_ble_eq_true rfl, Nat.le_of_ble_eq_true rfl⟩) hS (fun q _ h => hFc q h) hFc (fun r_2 u t H1 locs ht hvm hw hB hz1 hk1 hS => ?_)
  obtain ⟨hP1, hK1, hD1⟩ := hB
  rw [ht] at hP1
  have hK1 := va_K.moved hvm.symm hK1
  obtain ⟨hP, hD⟩ := va_join (wr := [(a2, .inl (y2, 16, .inr (.inl (fun _ => 0)))), (a8, .inl (y8, 32, .inr (.inl (fun _ => 0)))), (b2, .inl (z2, 16, .inr (.inl (fun _ => 0)))), (b10, .inl (z10, 32, .inr (.inl (fun _ => 0)))), (q2, .inl (yo, 1, .inr (.inl (fun _ => 0))))]) (w1 := []) hP hD [2] [0, 1, 3, 4, 5] rfl rfl (by decide) (by decide) hk1 hFc hP1 hD1
  generalize H1 = H at hP hS ⊢
  have hP : va_P (dC, dI) vwCl [(a2, .inl (y2, 16, .inr (.inl (fun _ => 0)))), (a8, .inl (y8, 32, .inr (.inl (fun _ => 0)))), (b2, .inl (z2, 16, .inr (.inl (fun _ => 0)))), (b10, .inl (z10, 32, .inr (.inl (fun _ => 0)))), (q2, .inl (yo, 1, .inr (.inl (fun _ => 0))))] H := hP
  have hD : va_D (fun q : Nat => s.heap.size ≤ q) [(a2, .inl (y2, 16, .inr (.inl (fun _ => 0)))), (a8, .inl (y8, 32, .inr (.inl (fun _ => 0)))), (b2, .inl (z2, 16, .inr (.inl (fun _ => 0)))), (b10, .inl (z10, 32, .inr (.inl (fun _ => 0)))), (q2, .inl (yo, 1, .inr (.inl (fun _ => 0))))] := hD
  subst hw
  refine W.lcmp hx hb dL_law_567 ?_
  refine lv_if_eq (tgt := 1423) hx hb dL_law_568 (by decide) (fun c_3 => ?_) (fun c_3 => absurd c_3 (by decide))
  exact law_end l hd0 C0 31 654 (Nat.le_of_ble_eq_true rfl) (Nat.le_of_ble_eq_true rfl) hS (lv_sub hl [0, 4] rfl)
set_option maxHeartbeats 4000000 in
set_option maxRecDepth 100000 in
theorem law_9 {p : Program} {e : Env} {s : State} {m : MethodId} {below : List Frame} {meth : Method} {c : Code} (l : Launch) (hst : l.stackTraces = false) {b : Nat} {xs : Nat → Int32} {d0 : Drawn} (hd0 : s.drawn.sameBut d0 lw_cs) (C0 : lw_At p s m meth c b 5 xs) (dC : Nat → ClassId) (dI : Nat → Nat → Nat) (q0 a0 a1 a2 a4 a6 a8 q1 b2 b4 b5 b6 b7 b9 b10 b11 b12 b13 q2 : Nat) (y2 y8 z2 z10 yo : ClassId) {H : Heap} {locs : List Loc} (hK : va_K (dC, dI) vwCl [(y2, .long), (y8, .long), (z2, .long), (z10, .long), (yo, .long)] (s.setDrawn d0)) (hP : va_P (dC, dI) vwCl [(q0, .inr (6, [.ref a0, .ref a1, .ref a2, .int 0, .ref a4, .int 0, .ref a6, .int 0, .ref a8])), (a2, .inl (y2, 16, .inr (.inl (fun _ => 0)))), (a8, .inl (y8, 32, .inr (.inl (fun _ => 0)))), (q1, .inr (7, [.int 0, .int 0, .ref b2, .int 0, .ref b4, .ref b5, .ref b6, .ref b7, .int 0, .ref b9, .ref b10, .ref b11, .ref b12, .ref b13])), (b2, .inl (z2, 16, .inr (.inl (fun _ => 0)))), (b10, .inl (z10, 32, .inr (.inl (fun _ => 0)))), (q2, .inl (yo, 1, .inr (.inl (fun _ => 0))))] H) (hD : va_D (fun q : Nat => s.heap.size ≤ q) [(q0, .inr (6, [.ref a0, .ref a1, .ref a2, .int 0, .ref a4, .int 0, .ref a6, .int 0, .ref a8])), (a2, .inl (y2, 16, .inr (.inl (fun _ => 0)))), (a8, .inl (y8, 32, .inr (.inl (fun _ => 0)))), (q1, .inr (7, [.int 0, .int 0, .ref b2, .int 0, .ref b4, .ref b5, .ref b6, .ref b7, .int 0, .ref b9, .ref b10, .ref b11, .ref b12, .ref b13])), (b2, .inl (z2, 16, .inr (.inl (fun _ => 0)))), (b10, .inl (z10, 32, .inr (.inl (fun _ => 0)))), (q2, .inl (yo, 1, .inr (.inl (fun _ => 0))))]) (hS : va_S (fun q : Nat => s.heap.size ≤ q) s.heap H locs) {ls : Array Slot} (hl : lv_has ls 9 [(4, .int 0), (3, .ref q2), (2, .ref q1), (1, .ref q0), (0, .ref b)]) : W p l e room_1 (s.setDrawn d0) m #[Value.ref b] below meth c H locs 31 654 (lw_Z below #[Value.ref b] s) (F0 m 573 ls []) := by
  obtain ⟨hx, hb, hr, hml, hown, hts0, hX, hbl, hlocks, hgv⟩ := id C0
  have htsT := dr_words hts0 d0
  have hts := htsT
  have hown : (s.setDrawn d0).vm.findClass RL = some m.cls := hown
  have hA : ∀ q : Nat, s.heap.size ≤ q → (fun q : Nat => s.heap.size ≤ q) q := fun _ h => h
  have hbA : ¬ (fun q : Nat => s.heap.size ≤ q) b := Nat.not_le.mpr hbl
  have hX : va_X b _ xs (s.setDrawn d0) s.heap := hX
  refine lv_aload_n hx hb dL_law_573 rfl (lv_at hl 3 rfl) ?_
  refine lv_aload_n hx hb dL_law_574 rfl (lv_at hl 4 rfl) ?_
  refine lv_iload hx hb dL_law_575 (lv_at hl 0 rfl) ?_
  refine lv_iconst (v := 1) hx hb dL_law_577 (by decide) ?_
  refine lv_iadd hx hb dL_law_578 ?_
  refine va_sld (i := (0 + 1 : Int32)) hx hb hX hbl hbA hS (by unfold vp_in; decide) dL_law_579 ?_
  refine lv_aload_n hx hb dL_law_580 rfl (lv_at hl 4 rfl) ?_
  refine lv_iload hx hb dL_law_581 (lv_at hl 0 rfl) ?_
  refine lv_iconst (v := 2) hx hb dL_law_583 (by decide) ?_
  refine lv_iadd hx hb dL_law_584 ?_
  refine va_sld (i := (0 + 2 : Int32)) hx hb hX hbl hbA hS (by unfold vp_in; decide) dL_law_585 ?_
  refine lv_i2l hx hb dL_law_586 rfl ?_
  refine lv_bipush (v := 32) hx hb dL_law_587 (by decide) ?_
  refine lv_lshl hx hb dL_law_589 rfl ?_
  refine lv_aload_n hx hb dL_law_590 rfl (lv_at hl 4 rfl) ?_
  refine lv_iload hx hb dL_law_591 (lv_at hl 0 rfl) ?_
  refine lv_iconst (v := 3) hx hb dL_law_593 (by decide) ?_
  refine lv_iadd hx hb dL_law_594 ?_
  refine va_sld (i := (0 + 3 : Int32)) hx hb hX hbl hbA hS (by unfold vp_in; decide) dL_law_595 ?_
  refine lv_i2l hx hb dL_law_596 rfl ?_
  refine lv_ldc2 (v := 4294967295) hx hb hown (hts _ kL_law_0) dL_law_597 ?_
  refine lv_land hx hb dL_law_600 ?_
  refine lv_lor hx hb dL_law_601 ?_
  refine lv_aload_n hx hb dL_law_602 rfl (lv_at hl 1 rfl) ?_
  have hPc := hP.sub (ws' := [(q0, .inr (6, [.ref a0, .ref a1, .ref a2, .int 0, .ref a4, .int 0, .ref a6, .int 0, .ref a8])), (q2, .inl (yo, 1, .inr (.inl (fun _ => 0))))]) [0, 6] rfl
  have hDc := hD.sub (ws' := [(q0, .inr (6, [.ref a0, .ref a1, .ref a2, .int 0, .ref a4, .int 0, .ref a6, .int 0, .ref a8])), (q2, .inl (yo, 1, .inr (.inl (fun _ => 0))))]) [0, 6] (by decide) rfl
  have hKc := hK.sub (tys' := [(yo, .long)]) [4] rfl
  have hFc := va_free (wc := [(q0, .inr (6, [.ref a0, .ref a1, .ref a2, .int 0, .ref a4, .int 0, .ref a6, .int 0, .ref a8])), (q2, .inl (yo, 1, .inr (.inl (fun _ => 0))))]) hD hS hA [0, 6] rfl
  refine va_calli (vx_runSW (As := [.ref q0, .int (xs ((0 + 1 : Int32) : Int32).toNatClampNeg), .long ((((((xs ((0 + 2 : Int32) : Int32).toNatClampNeg : Int32).toInt64) <<< ((32 : Int32).toInt64 &&& 63) : Int64)) ||| ((((xs ((0 + 3 : Int32) : Int32).toNatClampNeg : Int32).toInt64) &&& 4294967295 : Int64)) : Int64)), .ref q2]) (rest := []) ⟨hx, hb, hml, hown, hts⟩ (mt_L_below l dC dI H.size q0 a0 a1 a2 a4 a6 a8 q2 yo (xs ((0 + 1 : Int32) : Int32).toNatClampNeg) ((((((xs ((0 + 2 : Int32) : Int32).toNatClampNeg : Int32).toInt64) <<< ((32 : Int32).toInt64 &&& 63) : Int64)) ||| ((((xs ((0 + 3 : Int32) : Int32).toNatClampNeg : Int32).toInt64) &&& 4294967295 : Int64)) : Int64))) (vx_cwSW 4 hts gm_L_law_L_below rfl rfl rfl (by decide +kernel) ⟨Nat.le_of_ble_eq_true rfl, Nat.le_of_ble_eq_true rfl⟩) ⟨fun a U g mk q => by obtain ⟨q0, q1, qP, qK, qD⟩ := q; exact ⟨q0, q1, qP, va_K.moved (u := U) (U := U.calling g mk a) (Vm.Alike.refl U.vm) qK, qD⟩, fun U hU hW => ⟨rfl, by rw [hU], by rw [hU]; exact hPc, va_K.moved hW.alike hKc, hDc.weaken (fun _ _ _ _ => trivial)⟩⟩ rfl rfl hl.1 rfl (lv_room (Nat.le_of_ble_eq_true rfl)) dL_law_603 ⟨Nat.le_of_ble_eq_true rfl, Nat.le_of_ble_eq_true rfl⟩) hS (fun q _ h => hFc q h) hFc (fun r_1 u t H1 locs ht hvm hw hB hz1 hk1 hS => ?_)
  obtain ⟨hP1, hK1, hD1⟩ := hB
  rw [ht] at hP1
  have hK1 := va_K.moved hvm.symm hK1
  obtain ⟨hP, hD⟩ := va_join (wr := [(a2, .inl (y2, 16, .inr (.inl (fun _ => 0)))), (a8, .inl (y8, 32, .inr (.inl (fun _ => 0)))), (q1, .inr (7, [.int 0, .int 0, .ref b2, .int 0, .ref b4, .ref b5, .ref b6, .ref b7, .int 0, .ref b9, .ref b10, .ref b11, .ref b12, .ref b13])), (b2, .inl (z2, 16, .inr (.inl (fun _ => 0)))), (b10, .inl (z10, 32, .inr (.inl (fun _ => 0))))]) (w1 := [(q2, .inl (yo, 1, .inr (.inl (vp_updL (fun _ => 0) (0 : Int32).toNatClampNeg (-1)))))]) hP hD [0, 6] [1, 2, 3, 4, 5] rfl rfl (by decide) (by decide) hk1 hFc hP1 hD1
  generalize H1 = H at hP hS ⊢
  have hP : va_P (dC, dI) vwCl [(a2, .inl (y2, 16, .inr (.inl (fun _ => 0)))), (a8, .inl (y8, 32, .inr (.inl (fun _ => 0)))), (q1, .inr (7, [.int 0, .int 0, .ref b2, .int 0, .ref b4, .ref b5, .ref b6, .ref b7, .int 0, .ref b9, .ref b10, .ref b11, .ref b12, .ref b13])), (b2, .inl (z2, 16, .inr (.inl (fun _ => 0)))), (b10, .inl (z10, 32, .inr (.inl (fun _ => 0)))), (q2, .inl (yo, 1, .inr (.inl (vp_updL (fun _ => 0) (0 : Int32).toNatClampNeg (-1)))))] H := hP
  have hD : va_D (fun q : Nat => s.heap.size ≤ q) [(a2, .inl (y2, 16, .inr (.inl (fun _ => 0)))), (a8, .inl (y8, 32, .inr (.inl (fun _ => 0)))), (q1, .inr (7, [.int 0, .int 0, .ref b2, .int 0, .ref b4, .ref b5, .ref b6, .ref b7, .int 0, .ref b9, .ref b10, .ref b11, .ref b12, .ref b13])), (b2, .inl (z2, 16, .inr (.inl (fun _ => 0)))), (b10, .inl (z10, 32, .inr (.inl (fun _ => 0)))), (q2, .inl (yo, 1, .inr (.inl (vp_updL (fun _ => 0) (0 : Int32).toNatClampNeg (-1)))))] := hD
  subst hw
  refine lv_istore (lv' := [(5, .int 0), (4, .int 0), (3, .ref q2), (2, .ref q1), (1, .ref q0), (0, .ref b)]) hx hb dL_law_606 hl (by decide) rfl (fun ls hl => ?_)
  refine lv_aload_n hx hb dL_law_608 rfl (lv_at hl 3 rfl) ?_
  refine lv_aload_n hx hb dL_law_609 rfl (lv_at hl 5 rfl) ?_
  refine lv_iload hx hb dL_law_610 (lv_at hl 1 rfl) ?_
  refine lv_iconst (v := 1) hx hb dL_law_612 (by decide) ?_
  refine lv_iadd hx hb dL_law_613 ?_
  refine va_sld (i := (0 + 1 : Int32)) hx hb hX hbl hbA hS (by unfold vp_in; decide) dL_law_614 ?_
  refine lv_aload_n hx hb dL_law_615 rfl (lv_at hl 5 rfl) ?_
  refine lv_iload hx hb dL_law_616 (lv_at hl 1 rfl) ?_
  refine lv_iconst (v := 2) hx hb dL_law_618 (by decide) ?_
  refine lv_iadd hx hb dL_law_619 ?_
  refine va_sld (i := (0 + 2 : Int32)) hx hb hX hbl hbA hS (by unfold vp_in; decide) dL_law_620 ?_
  refine lv_i2l hx hb dL_law_621 rfl ?_
  refine lv_bipush (v := 32) hx hb dL_law_622 (by decide) ?_
  refine lv_lshl hx hb dL_law_624 rfl ?_
  refine lv_aload_n hx hb dL_law_625 rfl (lv_at hl 5 rfl) ?_
  refine lv_iload hx hb dL_law_626 (lv_at hl 1 rfl) ?_
  refine lv_iconst (v := 3) hx hb dL_law_628 (by decide) ?_
  refine lv_iadd hx hb dL_law_629 ?_
  refine va_sld (i := (0 + 3 : Int32)) hx hb hX hbl hbA hS (by unfold vp_in; decide) dL_law_630 ?_
  refine lv_i2l hx hb dL_law_631 rfl ?_
  refine lv_ldc2 (v := 4294967295) hx hb hown (hts _ kL_law_0) dL_law_632 ?_
  refine lv_land hx hb dL_law_635 ?_
  refine lv_lor hx hb dL_law_636 ?_
  have hPc := hP.sub (ws' := [(q1, .inr (7, [.int 0, .int 0, .ref b2, .int 0, .ref b4, .ref b5, .ref b6, .ref b7, .int 0, .ref b9, .ref b10, .ref b11, .ref b12, .ref b13]))]) [2] rfl
  have hDc := hD.sub (ws' := [(q1, .inr (7, [.int 0, .int 0, .ref b2, .int 0, .ref b4, .ref b5, .ref b6, .ref b7, .int 0, .ref b9, .ref b10, .ref b11, .ref b12, .ref b13]))]) [2] (by decide) rfl
  have hKc := hK.sub (tys' := []) [] rfl
  have hFc := va_free (wc := [(q1, .inr (7, [.int 0, .int 0, .ref b2, .int 0, .ref b4, .ref b5, .ref b6, .ref b7, .int 0, .ref b9, .ref b10, .ref b11, .ref b12, .ref b13]))]) hD hS hA [2] rfl
  refine va_calll (va_runV (As := [.int (xs ((0 + 1 : Int32) : Int32).toNatClampNeg), .long ((((((xs ((0 + 2 : Int32) : Int32).toNatClampNeg : Int32).toInt64) <<< ((32 : Int32).toInt64 &&& 63) : Int64)) ||| ((((xs ((0 + 3 : Int32) : Int32).toNatClampNeg : Int32).toInt64) &&& 4294967295 : Int64)) : Int64))]) (rest := []) ⟨hx, hb, hml, hown, hts⟩ (mt_X5_below l dC dI H.size q1 b2 b4 b5 b6 b7 b9 b10 b11 b12 b13 0 (xs ((0 + 1 : Int32) : Int32).toNatClampNeg) ((((((xs ((0 + 2 : Int32) : Int32).toNatClampNeg : Int32).toInt64) <<< ((32 : Int32).toInt64 &&& 63) : Int64)) ||| ((((xs ((0 + 3 : Int32) : Int32).toNatClampNeg : Int32).toInt64) &&& 4294967295 : Int64)) : Int64))) (cwV 2 hts gm_L_law_X5_below rfl rfl rfl (by decide +kernel) ⟨Nat.le_of_ble_eq_true rfl, Nat.le_of_ble_eq_true rfl⟩) ⟨fun a U g mk q => by obtain ⟨q0, q1, qP, qK, qD⟩ := q; exact ⟨q0, q1, qP, va_K.moved (u := U) (U := U.calling g mk a) (Vm.Alike.refl U.vm) qK, qD⟩, va_recv hKc hPc (ci := 7) (q0 := 0) rfl rfl, fun U hU hW => ⟨rfl, by rw [hU], by rw [hU]; exact hPc, va_K.moved hW.alike hKc, hDc.weaken (fun _ _ _ _ => trivial)⟩⟩ rfl rfl hl.1 rfl (lv_room (Nat.le_of_ble_eq_true rfl)) dL_law_637 ⟨Nat.le_of_ble_eq_true rfl, Nat.le_of_ble_eq_true rfl⟩) hS (fun q _ h => hFc q h) hFc (fun r_2 u t H1 locs ht hvm hw hB hz1 hk1 hS => ?_)
  obtain ⟨hP1, hK1, hD1⟩ := hB
  rw [ht] at hP1
  have hK1 := va_K.moved hvm.symm hK1
  obtain ⟨hP, hD⟩ := va_join (wr := [(a2, .inl (y2, 16, .inr (.inl (fun _ => 0)))), (a8, .inl (y8, 32, .inr (.inl (fun _ => 0)))), (b2, .inl (z2, 16, .inr (.inl (fun _ => 0)))), (b10, .inl (z10, 32, .inr (.inl (fun _ => 0)))), (q2, .inl (yo, 1, .inr (.inl (vp_updL (fun _ => 0) (0 : Int32).toNatClampNeg (-1)))))]) (w1 := [(q1, .inr (7, [.int 0, .int 0, .ref b2, .int 0, .ref b4, .ref b5, .ref b6, .ref b7, .int 0, .ref b9, .ref b10, .ref b11, .ref b12, .ref b13]))]) hP hD [2] [0, 1, 3, 4, 5] rfl rfl (by decide) (by decide) hk1 hFc hP1 hD1
  generalize H1 = H at hP hS ⊢
  have hP : va_P (dC, dI) vwCl [(a2, .inl (y2, 16, .inr (.inl (fun _ => 0)))), (a8, .inl (y8, 32, .inr (.inl (fun _ => 0)))), (b2, .inl (z2, 16, .inr (.inl (fun _ => 0)))), (b10, .inl (z10, 32, .inr (.inl (fun _ => 0)))), (q2, .inl (yo, 1, .inr (.inl (vp_updL (fun _ => 0) (0 : Int32).toNatClampNeg (-1))))), (q1, .inr (7, [.int 0, .int 0, .ref b2, .int 0, .ref b4, .ref b5, .ref b6, .ref b7, .int 0, .ref b9, .ref b10, .ref b11, .ref b12, .ref b13]))] H := hP
  have hD : va_D (fun q : Nat => s.heap.size ≤ q) [(a2, .inl (y2, 16, .inr (.inl (fun _ => 0)))), (a8, .inl (y8, 32, .inr (.inl (fun _ => 0)))), (b2, .inl (z2, 16, .inr (.inl (fun _ => 0)))), (b10, .inl (z10, 32, .inr (.inl (fun _ => 0)))), (q2, .inl (yo, 1, .inr (.inl (vp_updL (fun _ => 0) (0 : Int32).toNatClampNeg (-1))))), (q1, .inr (7, [.int 0, .int 0, .ref b2, .int 0, .ref b4, .ref b5, .ref b6, .ref b7, .int 0, .ref b9, .ref b10, .ref b11, .ref b12, .ref b13]))] := hD
  subst hw
  refine lv_lstore (lv' := [(6, .long ((-1))), (5, .int 0), (4, .int 0), (3, .ref q2), (2, .ref q1), (1, .ref q0), (0, .ref b)]) hx hb dL_law_640 hl (by decide) rfl (fun ls hl => ?_)
  refine lv_aload_n hx hb dL_law_642 rfl (lv_at hl 4 rfl) ?_
  have hPc := hP.sub (ws' := [(q1, .inr (7, [.int 0, .int 0, .ref b2, .int 0, .ref b4, .ref b5, .ref b6, .ref b7, .int 0, .ref b9, .ref b10, .ref b11, .ref b12, .ref b13]))]) [5] rfl
  have hDc := hD.sub (ws' := [(q1, .inr (7, [.int 0, .int 0, .ref b2, .int 0, .ref b4, .ref b5, .ref b6, .ref b7, .int 0, .ref b9, .ref b10, .ref b11, .ref b12, .ref b13]))]) [5] (by decide) rfl
  have hKc := hK.sub (tys' := []) [] rfl
  have hFc := va_free (wc := [(q1, .inr (7, [.int 0, .int 0, .ref b2, .int 0, .ref b4, .ref b5, .ref b6, .ref b7, .int 0, .ref b9, .ref b10, .ref b11, .ref b12, .ref b13]))]) hD hS hA [5] rfl
  refine va_calli (va_runV (As := []) (rest := []) ⟨hx, hb, hml, hown, hts⟩ (mt_X5_thrown l dC dI H.size q1 b2 b4 b5 b6 b7 b9 b10 b11 b12 b13 0) (cwV 0 hts gm_L_law_X5_thrown rfl rfl rfl (by decide +kernel) ⟨Nat.le_of_ble_eq_true rfl, Nat.le_of_ble_eq_true rfl⟩) ⟨fun a U g mk q => by obtain ⟨q0, q1, qP, qK, qD⟩ := q; exact ⟨q0, q1, qP, va_K.moved (u := U) (U := U.calling g mk a) (Vm.Alike.refl U.vm) qK, qD⟩, va_recv hKc hPc (ci := 7) (q0 := 0) rfl rfl, fun U hU hW => ⟨rfl, by rw [hU], by rw [hU]; exact hPc, va_K.moved hW.alike hKc, hDc.weaken (fun _ _ _ _ => trivial)⟩⟩ rfl rfl hl.1 rfl (lv_room (Nat.le_of_ble_eq_true rfl)) dL_law_643 ⟨Nat.le_of_ble_eq_true rfl, Nat.le_of_ble_eq_true rfl⟩) hS (fun q _ h => hFc q h) hFc (fun r_3 u t H1 locs ht hvm hw hB hz1 hk1 hS => ?_)
  obtain ⟨hP1, hK1, hD1⟩ := hB
  rw [ht] at hP1
  have hK1 := va_K.moved hvm.symm hK1
  obtain ⟨hP, hD⟩ := va_join (wr := [(a2, .inl (y2, 16, .inr (.inl (fun _ => 0)))), (a8, .inl (y8, 32, .inr (.inl (fun _ => 0)))), (b2, .inl (z2, 16, .inr (.inl (fun _ => 0)))), (b10, .inl (z10, 32, .inr (.inl (fun _ => 0)))), (q2, .inl (yo, 1, .inr (.inl (vp_updL (fun _ => 0) (0 : Int32).toNatClampNeg (-1)))))]) (w1 := []) hP hD [5] [0, 1, 2, 3, 4] rfl rfl (by decide) (by decide) hk1 hFc hP1 hD1
  generalize H1 = H at hP hS ⊢
  have hP : va_P (dC, dI) vwCl [(a2, .inl (y2, 16, .inr (.inl (fun _ => 0)))), (a8, .inl (y8, 32, .inr (.inl (fun _ => 0)))), (b2, .inl (z2, 16, .inr (.inl (fun _ => 0)))), (b10, .inl (z10, 32, .inr (.inl (fun _ => 0)))), (q2, .inl (yo, 1, .inr (.inl (vp_updL (fun _ => 0) (0 : Int32).toNatClampNeg (-1)))))] H := hP
  have hD : va_D (fun q : Nat => s.heap.size ≤ q) [(a2, .inl (y2, 16, .inr (.inl (fun _ => 0)))), (a8, .inl (y8, 32, .inr (.inl (fun _ => 0)))), (b2, .inl (z2, 16, .inr (.inl (fun _ => 0)))), (b10, .inl (z10, 32, .inr (.inl (fun _ => 0)))), (q2, .inl (yo, 1, .inr (.inl (vp_updL (fun _ => 0) (0 : Int32).toNatClampNeg (-1)))))] := hD
  subst hw
  refine lv_iload hx hb dL_law_646 (lv_at hl 1 rfl) ?_
  refine lv_icmp_eq (tgt := 653) hx hb dL_law_648 (by decide) (fun c_4 => ?_) (fun c_4 => absurd c_4 (by decide))
  refine lv_iload hx hb dL_law_653 (lv_at hl 1 rfl) ?_
  refine lv_if_ne (tgt := 669) hx hb dL_law_655 (by decide) (fun c_5 => absurd c_5 (by decide)) (fun c_5 => ?_)
  refine lv_aload_n hx hb dL_law_658 rfl (lv_at hl 3 rfl) ?_
  refine lv_iconst (v := 0) hx hb dL_law_659 (by decide) ?_
  refine va_lald hx hb hK hP 4 4 rfl rfl (by unfold vp_in; decide) dL_law_660 ?_
  refine lv_lload hx hb dL_law_661 (lv_at hl 0 rfl) ?_
  refine W.lcmp hx hb dL_law_663 ?_
  refine lv_if_eq (tgt := 669) hx hb dL_law_664 (by decide) (fun c_6 => ?_) (fun c_6 => absurd c_6 (by decide))
  refine lv_goto (tgt := 1423) hx hb dL_law_669 (by decide) ?_
  exact law_end l hd0 C0 31 654 (Nat.le_of_ble_eq_true rfl) (Nat.le_of_ble_eq_true rfl) hS (lv_sub hl [2, 6] rfl)
