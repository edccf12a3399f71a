set_option maxHeartbeats 4000000 in
set_option maxRecDepth 100000 in
theorem law_10 {p : Program} {e : Env} {s : State} {m : MethodId} {below : List Frame} {meth : Method} {c : Code} (l : Launch) (hst : l.stackTraces = false) {b : Nat} {xs : Nat → Int32} {d0 : Drawn} (hd0 : s.drawn.sameBut d0 lw_cs) (C0 : lw_At p s m meth c b 5 xs) (dC : Nat → ClassId) (dI : Nat → Nat → Nat) (q0 a0 a1 a2 a4 a6 a8 q1 b2 b4 b5 b6 b7 b9 b10 b11 b12 b13 q2 : Nat) (y2 y8 z2 z10 yo : ClassId) {H : Heap} {locs : List Loc} (hK : va_K (dC, dI) vwCl [(y2, .long), (y8, .long), (z2, .long), (z10, .long), (yo, .long)] (s.setDrawn d0)) (hP : va_P (dC, dI) vwCl [(q0, .inr (6, [.ref a0, .ref a1, .ref a2, .int 0, .ref a4, .int 0, .ref a6, .int 0, .ref a8])), (a2, .inl (y2, 16, .inr (.inl (fun _ => 0)))), (a8, .inl (y8, 32, .inr (.inl (fun _ => 0)))), (q1, .inr (7, [.int 0, .int 0, .ref b2, .int 0, .ref b4, .ref b5, .ref b6, .ref b7, .int 0, .ref b9, .ref b10, .ref b11, .ref b12, .ref b13])), (b2, .inl (z2, 16, .inr (.inl (fun _ => 0)))), (b10, .inl (z10, 32, .inr (.inl (fun _ => 0)))), (q2, .inl (yo, 1, .inr (.inl (fun _ => 0))))] H) (hD : va_D (fun q : Nat => s.heap.size ≤ q) [(q0, .inr (6, [.ref a0, .ref a1, .ref a2, .int 0, .ref a4, .int 0, .ref a6, .int 0, .ref a8])), (a2, .inl (y2, 16, .inr (.inl (fun _ => 0)))), (a8, .inl (y8, 32, .inr (.inl (fun _ => 0)))), (q1, .inr (7, [.int 0, .int 0, .ref b2, .int 0, .ref b4, .ref b5, .ref b6, .ref b7, .int 0, .ref b9, .ref b10, .ref b11, .ref b12, .ref b13])), (b2, .inl (z2, 16, .inr (.inl (fun _ => 0)))), (b10, .inl (z10, 32, .inr (.inl (fun _ => 0)))), (q2, .inl (yo, 1, .inr (.inl (fun _ => 0))))]) (hS : va_S (fun q : Nat => s.heap.size ≤ q) s.heap H locs) {ls : Array Slot} (hl : lv_has ls 9 [(4, .int 0), (3, .ref q2), (2, .ref q1), (1, .ref q0), (0, .ref b)]) : W p l e room_1 (s.setDrawn d0) m #[Value.ref b] below meth c H locs 31 654 (lw_Z below #[Value.ref b] s) (F0 m 672 ls []) := by
  obtain ⟨hx, hb, hr, hml, hown, hts0, hX, hbl, hlocks, hgv⟩ := id C0
  have htsT := dr_words hts0 d0
  have hts := htsT
  have hown : (s.setDrawn d0).vm.findClass RL = some m.cls := hown
  have hA : ∀ q : Nat, s.heap.size ≤ q → (fun q : Nat => s.heap.size ≤ q) q := fun _ h => h
  have hbA : ¬ (fun q : Nat => s.heap.size ≤ q) b := Nat.not_le.mpr hbl
  have hX : va_X b _ xs (s.setDrawn d0) s.heap := hX
  refine lv_aload_n hx hb dL_law_672 rfl (lv_at hl 3 rfl) ?_
  refine lv_aload_n hx hb dL_law_673 rfl (lv_at hl 4 rfl) ?_
  refine lv_iload hx hb dL_law_674 (lv_at hl 0 rfl) ?_
  refine lv_iconst (v := 1) hx hb dL_law_676 (by decide) ?_
  refine lv_iadd hx hb dL_law_677 ?_
  refine va_sld (i := (0 + 1 : Int32)) hx hb hX hbl hbA hS (by unfold vp_in; decide) dL_law_678 ?_
  have hPc := hP.sub (ws' := [(q0, .inr (6, [.ref a0, .ref a1, .ref a2, .int 0, .ref a4, .int 0, .ref a6, .int 0, .ref a8]))]) [0] rfl
  have hDc := hD.sub (ws' := [(q0, .inr (6, [.ref a0, .ref a1, .ref a2, .int 0, .ref a4, .int 0, .ref a6, .int 0, .ref a8]))]) [0] (by decide) rfl
  have hKc := hK.sub (tys' := []) [] rfl
  have hFc := va_free (wc := [(q0, .inr (6, [.ref a0, .ref a1, .ref a2, .int 0, .ref a4, .int 0, .ref a6, .int 0, .ref a8]))]) hD hS hA [0] rfl
  refine va_calld (va_runV (As := [.int (xs ((0 + 1 : Int32) : Int32).toNatClampNeg)]) (rest := []) ⟨hx, hb, hml, hown, hts⟩ (mt_X4_real l dC dI H.size q0 a0 a1 a2 a4 a6 a8 (xs ((0 + 1 : Int32) : Int32).toNatClampNeg)) (cwV 1 hts gm_L_law_X4_real rfl rfl rfl (by decide +kernel) ⟨Nat.le_of_ble_eq_true rfl, Nat.le_of_ble_eq_true rfl⟩) ⟨fun a U g mk q => by obtain ⟨q0, q1, qP, qK, qD⟩ := q; exact ⟨q0, q1, qP, va_K.moved (u := U) (U := U.calling g mk a) (Vm.Alike.refl U.vm) qK, qD⟩, va_recv hKc hPc (ci := 6) (q0 := 0) rfl rfl, fun U hU hW => ⟨rfl, by rw [hU], by rw [hU]; exact hPc, va_K.moved hW.alike hKc, hDc.weaken (fun _ _ _ _ => trivial)⟩⟩ rfl rfl hl.1 rfl (lv_room (Nat.le_of_ble_eq_true rfl)) dL_law_679 ⟨Nat.le_of_ble_eq_true rfl, Nat.le_of_ble_eq_true rfl⟩) hS (fun q _ h => hFc q h) hFc (fun r_1 u t H1 locs ht hvm hw hB hz1 hk1 hS => ?_)
  obtain ⟨hP1, hK1, hD1⟩ := hB
  rw [ht] at hP1
  have hK1 := va_K.moved hvm.symm hK1
  obtain ⟨hP, hD⟩ := va_join (wr := [(a2, .inl (y2, 16, .inr (.inl (fun _ => 0)))), (a8, .inl (y8, 32, .inr (.inl (fun _ => 0)))), (q1, .inr (7, [.int 0, .int 0, .ref b2, .int 0, .ref b4, .ref b5, .ref b6, .ref b7, .int 0, .ref b9, .ref b10, .ref b11, .ref b12, .ref b13])), (b2, .inl (z2, 16, .inr (.inl (fun _ => 0)))), (b10, .inl (z10, 32, .inr (.inl (fun _ => 0)))), (q2, .inl (yo, 1, .inr (.inl (fun _ => 0))))]) (w1 := []) hP hD [0] [1, 2, 3, 4, 5, 6] rfl rfl (by decide) (by decide) hk1 hFc hP1 hD1
  generalize H1 = H at hP hS ⊢
  have hP : va_P (dC, dI) vwCl [(a2, .inl (y2, 16, .inr (.inl (fun _ => 0)))), (a8, .inl (y8, 32, .inr (.inl (fun _ => 0)))), (q1, .inr (7, [.int 0, .int 0, .ref b2, .int 0, .ref b4, .ref b5, .ref b6, .ref b7, .int 0, .ref b9, .ref b10, .ref b11, .ref b12, .ref b13])), (b2, .inl (z2, 16, .inr (.inl (fun _ => 0)))), (b10, .inl (z10, 32, .inr (.inl (fun _ => 0)))), (q2, .inl (yo, 1, .inr (.inl (fun _ => 0))))] H := hP
  have hD : va_D (fun q : Nat => s.heap.size ≤ q) [(a2, .inl (y2, 16, .inr (.inl (fun _ => 0)))), (a8, .inl (y8, 32, .inr (.inl (fun _ => 0)))), (q1, .inr (7, [.int 0, .int 0, .ref b2, .int 0, .ref b4, .ref b5, .ref b6, .ref b7, .int 0, .ref b9, .ref b10, .ref b11, .ref b12, .ref b13])), (b2, .inl (z2, 16, .inr (.inl (fun _ => 0)))), (b10, .inl (z10, 32, .inr (.inl (fun _ => 0)))), (q2, .inl (yo, 1, .inr (.inl (fun _ => 0))))] := hD
  subst hw
  refine lv_dstore (lv' := [(5, .double 13830554455654793216), (4, .int 0), (3, .ref q2), (2, .ref q1), (1, .ref q0), (0, .ref b)]) hx hb dL_law_682 hl (by decide) rfl (fun ls hl => ?_)
  refine lv_aload_n hx hb dL_law_684 rfl (lv_at hl 3 rfl) ?_
  refine lv_aload_n hx hb dL_law_685 rfl (lv_at hl 5 rfl) ?_
  refine lv_iload hx hb dL_law_686 (lv_at hl 1 rfl) ?_
  refine lv_iconst (v := 1) hx hb dL_law_688 (by decide) ?_
  refine lv_iadd hx hb dL_law_689 ?_
  refine va_sld (i := (0 + 1 : Int32)) hx hb hX hbl hbA hS (by unfold vp_in; decide) dL_law_690 ?_
  have hPc := hP.sub (ws' := [(q1, .inr (7, [.int 0, .int 0, .ref b2, .int 0, .ref b4, .ref b5, .ref b6, .ref b7, .int 0, .ref b9, .ref b10, .ref b11, .ref b12, .ref b13]))]) [2] rfl
  have hDc := hD.sub (ws' := [(q1, .inr (7, [.int 0, .int 0, .ref b2, .int 0, .ref b4, .ref b5, .ref b6, .ref b7, .int 0, .ref b9, .ref b10, .ref b11, .ref b12, .ref b13]))]) [2] (by decide) rfl
  have hKc := hK.sub (tys' := []) [] rfl
  have hFc := va_free (wc := [(q1, .inr (7, [.int 0, .int 0, .ref b2, .int 0, .ref b4, .ref b5, .ref b6, .ref b7, .int 0, .ref b9, .ref b10, .ref b11, .ref b12, .ref b13]))]) hD hS hA [2] rfl
  refine va_calld (va_runV (As := [.int (xs ((0 + 1 : Int32) : Int32).toNatClampNeg)]) (rest := []) ⟨hx, hb, hml, hown, hts⟩ (mt_X5_real l dC dI H.size q1 b2 b4 b5 b6 b7 b9 b10 b11 b12 b13 0 (xs ((0 + 1 : Int32) : Int32).toNatClampNeg)) (cwV 1 hts gm_L_law_X5_real rfl rfl rfl (by decide +kernel) ⟨Nat.le_of_ble_eq_true rfl, Nat.le_of_ble_eq_true rfl⟩) ⟨fun a U g mk q => by obtain ⟨q0, q1, qP, qK, qD⟩ := q; exact ⟨q0, q1, qP, va_K.moved (u := U) (U := U.calling g mk a) (Vm.Alike.refl U.vm) qK, qD⟩, va_recv hKc hPc (ci := 7) (q0 := 0) rfl rfl, fun U hU hW => ⟨rfl, by rw [hU], by rw [hU]; exact hPc, va_K.moved hW.alike hKc, hDc.weaken (fun _ _ _ _ => trivial)⟩⟩ rfl rfl hl.1 rfl (lv_room (Nat.le_of_ble_eq_true rfl)) dL_law_691 ⟨Nat.le_of_ble_eq_true rfl, Nat.le_of_ble_eq_true rfl⟩) hS (fun q _ h => hFc q h) hFc (fun r_2 u t H1 locs ht hvm hw hB hz1 hk1 hS => ?_)
  obtain ⟨hP1, hK1, hD1⟩ := hB
  rw [ht] at hP1
  have hK1 := va_K.moved hvm.symm hK1
  obtain ⟨hP, hD⟩ := va_join (wr := [(a2, .inl (y2, 16, .inr (.inl (fun _ => 0)))), (a8, .inl (y8, 32, .inr (.inl (fun _ => 0)))), (b2, .inl (z2, 16, .inr (.inl (fun _ => 0)))), (b10, .inl (z10, 32, .inr (.inl (fun _ => 0)))), (q2, .inl (yo, 1, .inr (.inl (fun _ => 0))))]) (w1 := []) hP hD [2] [0, 1, 3, 4, 5] rfl rfl (by decide) (by decide) hk1 hFc hP1 hD1
  generalize H1 = H at hP hS ⊢
  have hP : va_P (dC, dI) vwCl [(a2, .inl (y2, 16, .inr (.inl (fun _ => 0)))), (a8, .inl (y8, 32, .inr (.inl (fun _ => 0)))), (b2, .inl (z2, 16, .inr (.inl (fun _ => 0)))), (b10, .inl (z10, 32, .inr (.inl (fun _ => 0)))), (q2, .inl (yo, 1, .inr (.inl (fun _ => 0))))] H := hP
  have hD : va_D (fun q : Nat => s.heap.size ≤ q) [(a2, .inl (y2, 16, .inr (.inl (fun _ => 0)))), (a8, .inl (y8, 32, .inr (.inl (fun _ => 0)))), (b2, .inl (z2, 16, .inr (.inl (fun _ => 0)))), (b10, .inl (z10, 32, .inr (.inl (fun _ => 0)))), (q2, .inl (yo, 1, .inr (.inl (fun _ => 0))))] := hD
  subst hw
  refine lv_dstore (lv' := [(7, .double 13830554455654793216), (5, .double 13830554455654793216), (4, .int 0), (3, .ref q2), (2, .ref q1), (1, .ref q0), (0, .ref b)]) hx hb dL_law_694 hl (by decide) rfl (fun ls hl => ?_)
  refine lv_dload hx hb dL_law_696 (lv_at hl 1 rfl) ?_
  refine lv_dload hx hb dL_law_698 (lv_at hl 0 rfl) ?_
  refine lv_dcmp hx hb dL_law_700 ?_
  refine lv_if_eq (tgt := 722) hx hb dL_law_701 (by decide) (fun c_3 => ?_) (fun c_3 => absurd c_3 (by decide +kernel))
  refine lv_goto (tgt := 1423) hx hb dL_law_722 (by decide) ?_
  exact law_end l hd0 C0 31 654 (Nat.le_of_ble_eq_true rfl) (Nat.le_of_ble_eq_true rfl) hS (lv_sub hl [2, 6] rfl)
set_option maxHeartbeats 4000000 in
set_option maxRecDepth 100000 in
theorem law_11 {p : Program} {e : Env} {s : State} {m : MethodId} {below : List Frame} {meth : Method} {c : Code} (l : Launch) (hst : l.stackTraces = false) {b : Nat} {xs : Nat → Int32} {d0 : Drawn} (hd0 : s.drawn.sameBut d0 lw_cs) (C0 : lw_At p s m meth c b 5 xs) (dC : Nat → ClassId) (dI : Nat → Nat → Nat) (q0 a0 a1 a2 a4 a6 a8 q1 b2 b4 b5 b6 b7 b9 b10 b11 b12 b13 q2 : Nat) (y2 y8 z2 z10 yo : ClassId) {H : Heap} {locs : List Loc} (hK : va_K (dC, dI) vwCl [(y2, .long), (y8, .long), (z2, .long), (z10, .long), (yo, .long)] (s.setDrawn d0)) (hP : va_P (dC, dI) vwCl [(q0, .inr (6, [.ref a0, .ref a1, .ref a2, .int 0, .ref a4, .int 0, .ref a6, .int 0, .ref a8])), (a2, .inl (y2, 16, .inr (.inl (fun _ => 0)))), (a8, .inl (y8, 32, .inr (.inl (fun _ => 0)))), (q1, .inr (7, [.int 0, .int 0, .ref b2, .int 0, .ref b4, .ref b5, .ref b6, .ref b7, .int 0, .ref b9, .ref b10, .ref b11, .ref b12, .ref b13])), (b2, .inl (z2, 16, .inr (.inl (fun _ => 0)))), (b10, .inl (z10, 32, .inr (.inl (fun _ => 0)))), (q2, .inl (yo, 1, .inr (.inl (fun _ => 0))))] H) (hD : va_D (fun q : Nat => s.heap.size ≤ q) [(q0, .inr (6, [.ref a0, .ref a1, .ref a2, .int 0, .ref a4, .int 0, .ref a6, .int 0, .ref a8])), (a2, .inl (y2, 16, .inr (.inl (fun _ => 0)))), (a8, .inl (y8, 32, .inr (.inl (fun _ => 0)))), (q1, .inr (7, [.int 0, .int 0, .ref b2, .int 0, .ref b4, .ref b5, .ref b6, .ref b7, .int 0, .ref b9, .ref b10, .ref b11, .ref b12, .ref b13])), (b2, .inl (z2, 16, .inr (.inl (fun _ => 0)))), (b10, .inl (z10, 32, .inr (.inl (fun _ => 0)))), (q2, .inl (yo, 1, .inr (.inl (fun _ => 0))))]) (hS : va_S (fun q : Nat => s.heap.size ≤ q) s.heap H locs) {ls : Array Slot} (hl : lv_has ls 9 [(4, .int 0), (3, .ref q2), (2, .ref q1), (1, .ref q0), (0, .ref b)]) : W p l e room_1 (s.setDrawn d0) m #[Value.ref b] below meth c H locs 31 654 (lw_Z below #[Value.ref b] s) (F0 m 725 ls []) := by
  obtain ⟨hx, hb, hr, hml, hown, hts0, hX, hbl, hlocks, hgv⟩ := id C0
  have htsT := dr_words hts0 d0
  have hts := htsT
  have hown : (s.setDrawn d0).vm.findClass RL = some m.cls := hown
  have hA : ∀ q : Nat, s.heap.size ≤ q → (fun q : Nat => s.heap.size ≤ q) q := fun _ h => h
  have hbA : ¬ (fun q : Nat => s.heap.size ≤ q) b := Nat.not_le.mpr hbl
  have hX : va_X b _ xs (s.setDrawn d0) s.heap := hX
  refine lv_aload_n hx hb dL_law_725 rfl (lv_at hl 3 rfl) ?_
  refine lv_aload_n hx hb dL_law_726 rfl (lv_at hl 4 rfl) ?_
  refine lv_iload hx hb dL_law_727 (lv_at hl 0 rfl) ?_
  refine lv_iconst (v := 1) hx hb dL_law_729 (by decide) ?_
  refine lv_iadd hx hb dL_law_730 ?_
  refine va_sld (i := (0 + 1 : Int32)) hx hb hX hbl hbA hS (by unfold vp_in; decide) dL_law_731 ?_
  have hPc := hP.sub (ws' := [(q0, .inr (6, [.ref a0, .ref a1, .ref a2, .int 0, .ref a4, .int 0, .ref a6, .int 0, .ref a8]))]) [0] rfl
  have hDc := hD.sub (ws' := [(q0, .inr (6, [.ref a0, .ref a1, .ref a2, .int 0, .ref a4, .int 0, .ref a6, .int 0, .ref a8]))]) [0] (by decide) rfl
  have hKc := hK.sub (tys' := []) [] rfl
  have hFc := va_free (wc := [(q0, .inr (6, [.ref a0, .ref a1, .ref a2, .int 0, .ref a4, .int 0, .ref a6, .int 0, .ref a8]))]) hD hS hA [0] rfl
  refine va_callf (va_runV (As := [.int (xs ((0 + 1 : Int32) : Int32).toNatClampNeg)]) (rest := []) ⟨hx, hb, hml, hown, hts⟩ (mt_X4_single l dC dI H.size q0 a0 a1 a2 a4 a6 a8 (xs ((0 + 1 : Int32) : Int32).toNatClampNeg)) (cwV 1 hts gm_L_law_X4_single rfl rfl rfl (by decide +kernel) ⟨Nat.le_of_ble_eq_true rfl, Nat.le_of_ble_eq_true rfl⟩) ⟨fun a U g mk q => by obtain ⟨q0, q1, qP, qK, qD⟩ := q; exact ⟨q0, q1, qP, va_K.moved (u := U) (U := U.calling g mk a) (Vm.Alike.refl U.vm) qK, qD⟩, va_recv hKc hPc (ci := 6) (q0 := 0) rfl rfl, fun U hU hW => ⟨rfl, by rw [hU], by rw [hU]; exact hPc, va_K.moved hW.alike hKc, hDc.weaken (fun _ _ _ _ => trivial)⟩⟩ rfl rfl hl.1 rfl (lv_room (Nat.le_of_ble_eq_true rfl)) dL_law_732 ⟨Nat.le_of_ble_eq_true rfl, Nat.le_of_ble_eq_true rfl⟩) hS (fun q _ h => hFc q h) hFc (fun r_1 u t H1 locs ht hvm hw hB hz1 hk1 hS => ?_)
  obtain ⟨hP1, hK1, hD1⟩ := hB
  rw [ht] at hP1
  have hK1 := va_K.moved hvm.symm hK1
  obtain ⟨hP, hD⟩ := va_join (wr := [(a2, .inl (y2, 16, .inr (.inl (fun _ => 0)))), (a8, .inl (y8, 32, .inr (.inl (fun _ => 0)))), (q1, .inr (7, [.int 0, .int 0, .ref b2, .int 0, .ref b4, .ref b5, .ref b6, .ref b7, .int 0, .ref b9, .ref b10, .ref b11, .ref b12, .ref b13])), (b2, .inl (z2, 16, .inr (.inl (fun _ => 0)))), (b10, .inl (z10, 32, .inr (.inl (fun _ => 0)))), (q2, .inl (yo, 1, .inr (.inl (fun _ => 0))))]) (w1 := []) hP hD [0] [1, 2, 3, 4, 5, 6] rfl rfl (by decide) (by decide) hk1 hFc hP1 hD1
  generalize H1 = H at hP hS ⊢
  have hP : va_P (dC, dI) vwCl [(a2, .inl (y2, 16, .inr (.inl (fun _ => 0)))), (a8, .inl (y8, 32, .inr (.inl (fun _ => 0)))), (q1, .inr (7, [.int 0, .int 0, .ref b2, .int 0, .ref b4, .ref b5, .ref b6, .ref b7, .int 0, .ref b9, .ref b10, .ref b11, .ref b12, .ref b13])), (b2, .inl (z2, 16, .inr (.inl (fun _ => 0)))), (b10, .inl (z10, 32, .inr (.inl (fun _ => 0)))), (q2, .inl (yo, 1, .inr (.inl (fun _ => 0))))] H := hP
  have hD : va_D (fun q : Nat => s.heap.size ≤ q) [(a2, .inl (y2, 16, .inr (.inl (fun _ => 0)))), (a8, .inl (y8, 32, .inr (.inl (fun _ => 0)))), (q1, .inr (7, [.int 0, .int 0, .ref b2, .int 0, .ref b4, .ref b5, .ref b6, .ref b7, .int 0, .ref b9, .ref b10, .ref b11, .ref b12, .ref b13])), (b2, .inl (z2, 16, .inr (.inl (fun _ => 0)))), (b10, .inl (z10, 32, .inr (.inl (fun _ => 0)))), (q2, .inl (yo, 1, .inr (.inl (fun _ => 0))))] := hD
  subst hw
  refine lv_f2d hx hb dL_law_735 (by unfold vf_n64; decide +kernel) ?_
  refine lv_dstore (lv' := [(5, .double ((FP.f2d 3212836864))), (4, .int 0), (3, .ref q2), (2, .ref q1), (1, .ref q0), (0, .ref b)]) hx hb dL_law_736 hl (by decide) rfl (fun ls hl => ?_)
  refine lv_aload_n hx hb dL_law_738 rfl (lv_at hl 3 rfl) ?_
  refine lv_aload_n hx hb dL_law_739 rfl (lv_at hl 5 rfl) ?_
  refine lv_iload hx hb dL_law_740 (lv_at hl 1 rfl) ?_
  refine lv_iconst (v := 1) hx hb dL_law_742 (by decide) ?_
  refine lv_iadd hx hb dL_law_743 ?_
  refine va_sld (i := (0 + 1 : Int32)) hx hb hX hbl hbA hS (by unfold vp_in; decide) dL_law_744 ?_
  have hPc := hP.sub (ws' := [(q1, .inr (7, [.int 0, .int 0, .ref b2, .int 0, .ref b4, .ref b5, .ref b6, .ref b7, .int 0, .ref b9, .ref b10, .ref b11, .ref b12, .ref b13]))]) [2] rfl
  have hDc := hD.sub (ws' := [(q1, .inr (7, [.int 0, .int 0, .ref b2, .int 0, .ref b4, .ref b5, .ref b6, .ref b7, .int 0, .ref b9, .ref b10, .ref b11, .ref b12, .ref b13]))]) [2] (by decide) rfl
  have hKc := hK.sub (tys' := []) [] rfl
  have hFc := va_free (wc := [(q1, .inr (7, [.int 0, .int 0, .ref b2, .int 0, .ref b4, .ref b5, .ref b6, .ref b7, .int 0, .ref b9, .ref b10, .ref b11, .ref b12, .ref b13]))]) hD hS hA [2] rfl
  refine va_callf (va_runV (As := [.int (xs ((0 + 1 : Int32) : Int32).toNatClampNeg)]) (rest := []) ⟨hx, hb, hml, hown, hts⟩ (mt_X5_single l dC dI H.size q1 b2 b4 b5 b6 b7 b9 b10 b11 b12 b13 0 (xs ((0 + 1 : Int32) : Int32).toNatClampNeg)) (cwV 1 hts gm_L_law_X5_single rfl rfl rfl (by decide +kernel) ⟨Nat.le_of_ble_eq_true rfl, Nat.le_of_ble_eq_true rfl⟩) ⟨fun a U g mk q => by obtain ⟨q0, q1, qP, qK, qD⟩ := q; exact ⟨q0, q1, qP, va_K.moved (u := U) (U := U.calling g mk a) (Vm.Alike.refl U.vm) qK, qD⟩, va_recv hKc hPc (ci := 7) (q0 := 0) rfl rfl, fun U hU hW => ⟨rfl, by rw [hU], by rw [hU]; exact hPc, va_K.moved hW.alike hKc, hDc.weaken (fun _ _ _ _ => trivial)⟩⟩ rfl rfl hl.1 rfl (lv_room (Nat.le_of_ble_eq_true rfl)) dL_law_745 ⟨Nat.le_of_ble_eq_true rfl, Nat.le_of_ble_eq_true rfl⟩) hS (fun q _ h => hFc q h) hFc (fun r_2 u t H1 locs ht hvm hw hB hz1 hk1 hS => ?_)
  obtain ⟨hP1, hK1, hD1⟩ := hB
  rw [ht] at hP1
  have hK1 := va_K.moved hvm.symm hK1
  obtain ⟨hP, hD⟩ := va_join (wr := [(a2, .inl (y2, 16, .inr (.inl (fun _ => 0)))), (a8, .inl (y8, 32, .inr (.inl (fun _ => 0)))), (b2, .inl (z2, 16, .inr (.inl (fun _ => 0)))), (b10, .inl (z10, 32, .inr (.inl (fun _ => 0)))), (q2, .inl (yo, 1, .inr (.inl (fun _ => 0))))]) (w1 := []) hP hD [2] [0, 1, 3, 4, 5] rfl rfl (by decide) (by decide) hk1 hFc hP1 hD1
  generalize H1 = H at hP hS ⊢
  have hP : va_P (dC, dI) vwCl [(a2, .inl (y2, 16, .inr (.inl (fun _ => 0)))), (a8, .inl (y8, 32, .inr (.inl (fun _ => 0)))), (b2, .inl (z2, 16, .inr (.inl (fun _ => 0)))), (b10, .inl (z10, 32, .inr (.inl (fun _ => 0)))), (q2, .inl (yo, 1, .inr (.inl (fun _ => 0))))] H := hP
  have hD : va_D (fun q : Nat => s.heap.size ≤ q) [(a2, .inl (y2, 16, .inr (.inl (fun _ => 0)))), (a8, .inl (y8, 32, .inr (.inl (fun _ => 0)))), (b2, .inl (z2, 16, .inr (.inl (fun _ => 0)))), (b10, .inl (z10, 32, .inr (.inl (fun _ => 0)))), (q2, .inl (yo, 1, .inr (.inl (fun _ => 0))))] := hD
  subst hw
  refine lv_f2d hx hb dL_law_748 (by unfold vf_n64; decide +kernel) ?_
  refine lv_dstore (lv' := [(7, .double ((FP.f2d 3212836864))), (5, .double ((FP.f2d 3212836864))), (4, .int 0), (3, .ref q2), (2, .ref q1), (1, .ref q0), (0, .ref b)]) hx hb dL_law_749 hl (by decide) rfl (fun ls hl => ?_)
  refine lv_dload hx hb dL_law_751 (lv_at hl 1 rfl) ?_
  refine lv_dload hx hb dL_law_753 (lv_at hl 0 rfl) ?_
  refine lv_dcmp hx hb dL_law_755 ?_
  refine lv_if_eq (tgt := 777) hx hb dL_law_756 (by decide) (fun c_3 => ?_) (fun c_3 => absurd c_3 (by decide +kernel))
  refine lv_goto (tgt := 1423) hx hb dL_law_777 (by decide) ?_
  exact law_end l hd0 C0 31 654 (Nat.le_of_ble_eq_true rfl) (Nat.le_of_ble_eq_true rfl) hS (lv_sub hl [2, 6] rfl)
set_option maxHeartbeats 4000000 in
set_option maxRecDepth 100000 in
theorem law_12 {p : Program} {e : Env} {s : State} {m : MethodId} {below : List Frame} {meth : Method} {c : Code} (l : Launch) (hst : l.stackTraces = false) {b : Nat} {xs : Nat → Int32} {d0 : Drawn} (hd0 : s.drawn.sameBut d0 lw_cs) (C0 : lw_At p s m meth c b 5 xs) (dC : Nat → ClassId) (dI : Nat → Nat → Nat) (q0 a0 a1 a2 a4 a6 a8 q1 b2 b4 b5 b6 b7 b9 b10 b11 b12 b13 q2 : Nat) (y2 y8 z2 z10 yo : ClassId) {H : Heap} {locs : List Loc} (hK : va_K (dC, dI) vwCl [(y2, .long), (y8, .long), (z2, .long), (z10, .long), (yo, .long)] (s.setDrawn d0)) (hP : va_P (dC, dI) vwCl [(q0, .inr (6, [.ref a0, .ref a1, .ref a2, .int 0, .ref a4, .int 0, .ref a6, .int 0, .ref a8])), (a2, .inl (y2, 16, .inr (.inl (fun _ => 0)))), (a8, .inl (y8, 32, .inr (.inl (fun _ => 0)))), (q1, .inr (7, [.int 0, .int 0, .ref b2, .int 0, .ref b4, .ref b5, .ref b6, .ref b7, .int 0, .ref b9, .ref b10, .ref b11, .ref b12, .ref b13])), (b2, .inl (z2, 16, .inr (.inl (fun _ => 0)))), (b10, .inl (z10, 32, .inr (.inl (fun _ => 0)))), (q2, .inl (yo, 1, .inr (.inl (fun _ => 0))))] H) (hD : va_D (fun q : Nat => s.heap.size ≤ q) [(q0, .inr (6, [.ref a0, .ref a1, .ref a2, .int 0, .ref a4, .int 0, .ref a6, .int 0, .ref a8])), (a2, .inl (y2, 16, .inr (.inl (fun _ => 0)))), (a8, .inl (y8, 32, .inr (.inl (fun _ => 0)))), (q1, .inr (7, [.int 0, .int 0, .ref b2, .int 0, .ref b4, .ref b5, .ref b6, .ref b7, .int 0, .ref b9, .ref b10, .ref b11, .ref b12, .ref b13])), (b2, .inl (z2, 16, .inr (.inl (fun _ => 0)))), (b10, .inl (z10, 32, .inr (.inl (fun _ => 0)))), (q2, .inl (yo, 1, .inr (.inl (fun _ => 0))))]) (hS : va_S (fun q : Nat => s.heap.size ≤ q) s.heap H locs) {ls : Array Slot} (hl : lv_has ls 9 [(4, .int 0), (3, .ref q2), (2, .ref q1), (1, .ref q0), (0, .ref b)]) : W p l e room_1 (s.setDrawn d0) m #[Value.ref b] below meth c H locs 31 654 (lw_Z below #[Value.ref b] s) (F0 m 780 ls []) := by
  obtain ⟨hx, hb, hr, hml, hown, hts0, hX, hbl, hlocks, hgv⟩ := id C0
  have htsT := dr_words hts0 d0
  have hts := htsT
  have hown : (s.setDrawn d0).vm.findClass RL = some m.cls := hown
  have hA : ∀ q : Nat, s.heap.size ≤ q → (fun q : Nat => s.heap.size ≤ q) q := fun _ h => h
  have hbA : ¬ (fun q : Nat => s.heap.size ≤ q) b := Nat.not_le.mpr hbl
  have hX : va_X b _ xs (s.setDrawn d0) s.heap := hX
  refine lv_aload_n hx hb dL_law_780 rfl (lv_at hl 3 rfl) ?_
  refine lv_aload_n hx hb dL_law_781 rfl (lv_at hl 4 rfl) ?_
  refine lv_iload hx hb dL_law_782 (lv_at hl 0 rfl) ?_
  refine lv_iconst (v := 1) hx hb dL_law_784 (by decide) ?_
  refine lv_iadd hx hb dL_law_785 ?_
  refine va_sld (i := (0 + 1 : Int32)) hx hb hX hbl hbA hS (by unfold vp_in; decide) dL_law_786 ?_
  refine lv_aload_n hx hb dL_law_787 rfl (lv_at hl 4 rfl) ?_
  refine lv_iload hx hb dL_law_788 (lv_at hl 0 rfl) ?_
  refine lv_iconst (v := 2) hx hb dL_law_790 (by decide) ?_
  refine lv_iadd hx hb dL_law_791 ?_
  refine va_sld (i := (0 + 2 : Int32)) hx hb hX hbl hbA hS (by unfold vp_in; decide) dL_law_792 ?_
  refine lv_aload_n hx hb dL_law_793 rfl (lv_at hl 4 rfl) ?_
  refine lv_iload hx hb dL_law_794 (lv_at hl 0 rfl) ?_
  refine lv_iconst (v := 3) hx hb dL_law_796 (by decide) ?_
  refine lv_iadd hx hb dL_law_797 ?_
  refine va_sld (i := (0 + 3 : Int32)) hx hb hX hbl hbA hS (by unfold vp_in; decide) dL_law_798 ?_
  have hPc := hP.sub (ws' := [(q0, .inr (6, [.ref a0, .ref a1, .ref a2, .int 0, .ref a4, .int 0, .ref a6, .int 0, .ref a8]))]) [0] rfl
  have hDc := hD.sub (ws' := [(q0, .inr (6, [.ref a0, .ref a1, .ref a2, .int 0, .ref a4, .int 0, .ref a6, .int 0, .ref a8]))]) [0] (by decide) rfl
  have hKc := hK.sub (tys' := []) [] rfl
  have hFc := va_free (wc := [(q0, .inr (6, [.ref a0, .ref a1, .ref a2, .int 0, .ref a4, .int 0, .ref a6, .int 0, .ref a8]))]) hD hS hA [0] rfl
  refine va_calli (va_runV (As := [.int (xs ((0 + 1 : Int32) : Int32).toNatClampNeg), .int (xs ((0 + 2 : Int32) : Int32).toNatClampNeg), .int (xs ((0 + 3 : Int32) : Int32).toNatClampNeg)]) (rest := []) ⟨hx, hb, hml, hown, hts⟩ (mt_X4_coin l dC dI H.size q0 a0 a1 a2 a4 a6 a8 (xs ((0 + 1 : Int32) : Int32).toNatClampNeg) (xs ((0 + 2 : Int32) : Int32).toNatClampNeg) (xs ((0 + 3 : Int32) : Int32).toNatClampNeg)) (cwV 3 hts gm_L_law_X4_coin rfl rfl rfl (by decide +kernel) ⟨Nat.le_of_ble_eq_true rfl, Nat.le_of_ble_eq_true rfl⟩) ⟨fun a U g mk q => by obtain ⟨q0, q1, qP, qK, qD⟩ := q; exact ⟨q0, q1, qP, va_K.moved (u := U) (U := U.calling g mk a) (Vm.Alike.refl U.vm) qK, qD⟩, va_recv hKc hPc (ci := 6) (q0 := 0) rfl rfl, fun U hU hW => ⟨rfl, by rw [hU], by rw [hU]; exact hPc, va_K.moved hW.alike hKc, hDc.weaken (fun _ _ _ _ => trivial)⟩⟩ rfl rfl hl.1 rfl (lv_room (Nat.le_of_ble_eq_true rfl)) dL_law_799 ⟨Nat.le_of_ble_eq_true rfl, Nat.le_of_ble_eq_true rfl⟩) hS (fun q _ h => hFc q h) hFc (fun r_1 u t H1 locs ht hvm hw hB hz1 hk1 hS => ?_)
  obtain ⟨hP1, hK1, hD1⟩ := hB
  rw [ht] at hP1
  have hK1 := va_K.moved hvm.symm hK1
  obtain ⟨hP, hD⟩ := va_join (wr := [(a2, .inl (y2, 16, .inr (.inl (fun _ => 0)))), (a8, .inl (y8, 32, .inr (.inl (fun _ => 0)))), (q1, .inr (7, [.int 0, .int 0, .ref b2, .int 0, .ref b4, .ref b5, .ref b6, .ref b7, .int 0, .ref b9, .ref b10, .ref b11, .ref b12, .ref b13])), (b2, .inl (z2, 16, .inr (.inl (fun _ => 0)))), (b10, .inl (z10, 32, .inr (.inl (fun _ => 0)))), (q2, .inl (yo, 1, .inr (.inl (fun _ => 0))))]) (w1 := []) hP hD [0] [1, 2, 3, 4, 5, 6] rfl rfl (by decide) (by decide) hk1 hFc hP1 hD1
  generalize H1 = H at hP hS ⊢
  have hP : va_P (dC, dI) vwCl [(a2, .inl (y2, 16, .inr (.inl (fun _ => 0)))), (a8, .inl (y8, 32, .inr (.inl (fun _ => 0)))), (q1, .inr (7, [.int 0, .int 0, .ref b2, .int 0, .ref b4, .ref b5, .ref b6, .ref b7, .int 0, .ref b9, .ref b10, .ref b11, .ref b12, .ref b13])), (b2, .inl (z2, 16, .inr (.inl (fun _ => 0)))), (b10, .inl (z10, 32, .inr (.inl (fun _ => 0)))), (q2, .inl (yo, 1, .inr (.inl (fun _ => 0))))] H := hP
  have hD : va_D (fun q : Nat => s.heap.size ≤ q) [(a2, .inl (y2, 16, .inr (.inl (fun _ => 0)))), (a8, .inl (y8, 32, .inr (.inl (fun _ => 0)))), (q1, .inr (7, [.int 0, .int 0, .ref b2, .int 0, .ref b4, .ref b5, .ref b6, .ref b7, .int 0, .ref b9, .ref b10, .ref b11, .ref b12, .ref b13])), (b2, .inl (z2, 16, .inr (.inl (fun _ => 0)))), (b10, .inl (z10, 32, .inr (.inl (fun _ => 0)))), (q2, .inl (yo, 1, .inr (.inl (fun _ => 0))))] := hD
  subst hw
  refine lv_aload_n hx hb dL_law_802 rfl (lv_at hl 2 rfl) ?_
  refine lv_aload_n hx hb dL_law_803 rfl (lv_at hl 4 rfl) ?_
  refine lv_iload hx hb dL_law_804 (lv_at hl 0 rfl) ?_
  refine lv_iconst (v := 1) hx hb dL_law_806 (by decide) ?_
  refine lv_iadd hx hb dL_law_807 ?_
  refine va_sld (i := (0 + 1 : Int32)) hx hb hX hbl hbA hS (by unfold vp_in; decide) dL_law_808 ?_
  refine lv_aload_n hx hb dL_law_809 rfl (lv_at hl 4 rfl) ?_
  refine lv_iload hx hb dL_law_810 (lv_at hl 0 rfl) ?_
  refine lv_iconst (v := 2) hx hb dL_law_812 (by decide) ?_
  refine lv_iadd hx hb dL_law_813 ?_
  refine va_sld (i := (0 + 2 : Int32)) hx hb hX hbl hbA hS (by unfold vp_in; decide) dL_law_814 ?_
  refine lv_aload_n hx hb dL_law_815 rfl (lv_at hl 4 rfl) ?_
  refine lv_iload hx hb dL_law_816 (lv_at hl 0 rfl) ?_
  refine lv_iconst (v := 3) hx hb dL_law_818 (by decide) ?_
  refine lv_iadd hx hb dL_law_819 ?_
  refine va_sld (i := (0 + 3 : Int32)) hx hb hX hbl hbA hS (by unfold vp_in; decide) dL_law_820 ?_
  have hPc := hP.sub (ws' := [(q1, .inr (7, [.int 0, .int 0, .ref b2, .int 0, .ref b4, .ref b5, .ref b6, .ref b7, .int 0, .ref b9, .ref b10, .ref b11, .ref b12, .ref b13]))]) [2] rfl
  have hDc := hD.sub (ws' := [(q1, .inr (7, [.int 0, .int 0, .ref b2, .int 0, .ref b4, .ref b5, .ref b6, .ref b7, .int 0, .ref b9, .ref b10, .ref b11, .ref b12, .ref b13]))]) [2] (by decide) rfl
  have hKc := hK.sub (tys' := []) [] rfl
  have hFc := va_free (wc := [(q1, .inr (7, [.int 0, .int 0, .ref b2, .int 0, .ref b4, .ref b5, .ref b6, .ref b7, .int 0, .ref b9, .ref b10, .ref b11, .ref b12, .ref b13]))]) hD hS hA [2] rfl
  refine va_calli (va_runV (As := [.int (xs ((0 + 1 : Int32) : Int32).toNatClampNeg), .int (xs ((0 + 2 : Int32) : Int32).toNatClampNeg), .int (xs ((0 + 3 : Int32) : Int32).toNatClampNeg)]) (rest := [.int ((-1))]) ⟨hx, hb, hml, hown, hts⟩ (mt_X5_coin l dC dI H.size q1 b2 b4 b5 b6 b7 b9 b10 b11 b12 b13 0 (xs ((0 + 1 : Int32) : Int32).toNatClampNeg) (xs ((0 + 2 : Int32) : Int32).toNatClampNeg) (xs ((0 + 3 : Int32) : Int32).toNatClampNeg)) (cwV 3 hts gm_L_law_X5_coin rfl rfl rfl (by decide +kernel) ⟨Nat.le_of_ble_eq_true rfl, Nat.le_of_ble_eq_true rfl⟩) ⟨fun a U g mk q => by obtain ⟨q0, q1, qP, qK, qD⟩ := q; exact ⟨q0, q1, qP, va_K.moved (u := U) (U := U.calling g mk a) (Vm.Alike.refl U.vm) qK, qD⟩, va_recv hKc hPc (ci := 7) (q0 := 0) rfl rfl, fun U hU hW => ⟨rfl, by rw [hU], by rw [hU]; exact hPc, va_K.moved hW.alike hKc, hDc.weaken (fun _ _ _ _ => trivial)⟩⟩ rfl rfl hl.1 rfl (lv_room (Nat.le_of_ble_eq_true rfl)) dL_law_821 ⟨Nat.le_of_ble_eq_true rfl, Nat.le_of_ble_eq_true rfl⟩) hS (fun q _ h => hFc q h) hFc (fun r_2 u t H1 locs ht hvm hw hB hz1 hk1 hS => ?_)
  obtain ⟨hP1, hK1, hD1⟩ := hB
  rw [ht] at hP1
  have hK1 := va_K.moved hvm.symm hK1
  obtain ⟨hP, hD⟩ := va_join (wr := [(a2, .inl (y2, 16, .inr (.inl (fun _ => 0)))), (a8, .inl (y8, 32, .inr (.inl (fun _ => 0)))), (b2, .inl (z2, 16, .inr (.inl (fun _ => 0)))), (b10, .inl (z10, 32, .inr (.inl (fun _ => 0)))), (q2, .inl (yo, 1, .inr (.inl (fun _ => 0))))]) (w1 := []) hP hD [2] [0, 1, 3, 4, 5] rfl rfl (by decide) (by decide) hk1 hFc hP1 hD1
  generalize H1 = H at hP hS ⊢
  have hP : va_P (dC, dI) vwCl [(a2, .inl (y2, 16, .inr (.inl (fun _ => 0)))), (a8, .inl (y8, 32, .inr (.inl (fun _ => 0)))), (b2, .inl (z2, 16, .inr (.inl (fun _ => 0)))), (b10, .inl (z10, 32, .inr (.inl (fun _ => 0)))), (q2, .inl (yo, 1, .inr (.inl (fun _ => 0))))] H := hP
  have hD : va_D (fun q : Nat => s.heap.size ≤ q) [(a2, .inl (y2, 16, .inr (.inl (fun _ => 0)))), (a8, .inl (y8, 32, .inr (.inl (fun _ => 0)))), (b2, .inl (z2, 16, .inr (.inl (fun _ => 0)))), (b10, .inl (z10, 32, .inr (.inl (fun _ => 0)))), (q2, .inl (yo, 1, .inr (.inl (fun _ => 0))))] := hD
  subst hw
  refine lv_icmp_eq (tgt := 1423) hx hb dL_law_824 (by decide) (fun c_3 => ?_) (fun c_3 => absurd c_3 (by decide))
  exact law_end l hd0 C0 31 654 (Nat.le_of_ble_eq_true rfl) (Nat.le_of_ble_eq_true rfl) hS (lv_sub hl [0, 4] rfl)
set_option maxHeartbeats 4000000 in
set_option maxRecDepth 100000 in
theorem law_13 {p : Program} {e : Env} {s : State} {m : MethodId} {below : List Frame} {meth : Method} {c : Code} (l : Launch) (hst : l.stackTraces = false) {b : Nat} {xs : Nat → Int32} {d0 : Drawn} (hd0 : s.drawn.sameBut d0 lw_cs) (C0 : lw_At p s m meth c b 5 xs) (dC : Nat → ClassId) (dI : Nat → Nat → Nat) (q0 a0 a1 a2 a4 a6 a8 q1 b2 b4 b5 b6 b7 b9 b10 b11 b12 b13 q2 : Nat) (y2 y8 z2 z10 yo : ClassId) {H : Heap} {locs : List Loc} (hK : va_K (dC, dI) vwCl [(y2, .long), (y8, .long), (z2, .long), (z10, .long), (yo, .long)] (s.setDrawn d0)) (hP : va_P (dC, dI) vwCl [(q0, .inr (6, [.ref a0, .ref a1, .ref a2, .int 0, .ref a4, .int 0, .ref a6, .int 0, .ref a8])), (a2, .inl (y2, 16, .inr (.inl (fun _ => 0)))), (a8, .inl (y8, 32, .inr (.inl (fun _ => 0)))), (q1, .inr (7, [.int 0, .int 0, .ref b2, .int 0, .ref b4, .ref b5, .ref b6, .ref b7, .int 0, .ref b9, .ref b10, .ref b11, .ref b12, .ref b13])), (b2, .inl (z2, 16, .inr (.inl (fun _ => 0)))), (b10, .inl (z10, 32, .inr (.inl (fun _ => 0)))), (q2, .inl (yo, 1, .inr (.inl (fun _ => 0))))] H) (hD : va_D (fun q : Nat => s.heap.size ≤ q) [(q0, .inr (6, [.ref a0, .ref a1, .ref a2, .int 0, .ref a4, .int 0, .ref a6, .int 0, .ref a8])), (a2, .inl (y2, 16, .inr (.inl (fun _ => 0)))), (a8, .inl (y8, 32, .inr (.inl (fun _ => 0)))), (q1, .inr (7, [.int 0, .int 0, .ref b2, .int 0, .ref b4, .ref b5, .ref b6, .ref b7, .int 0, .ref b9, .ref b10, .ref b11, .ref b12, .ref b13])), (b2, .inl (z2, 16, .inr (.inl (fun _ => 0)))), (b10, .inl (z10, 32, .inr (.inl (fun _ => 0)))), (q2, .inl (yo, 1, .inr (.inl (fun _ => 0))))]) (hS : va_S (fun q : Nat => s.heap.size ≤ q) s.heap H locs) {ls : Array Slot} (hl : lv_has ls 9 [(4, .int 0), (3, .ref q2), (2, .ref q1), (1, .ref q0), (0, .ref b)]) : W p l e room_1 (s.setDrawn d0) m #[Value.ref b] below meth c H locs 31 654 (lw_Z below #[Value.ref b] s) (F0 m 829 ls []) := by
  obtain ⟨hx, hb, hr, hml, hown, hts0, hX, hbl, hlocks, hgv⟩ := id C0
  have htsT := dr_words hts0 d0
  have hts := htsT
  have hown : (s.setDrawn d0).vm.findClass RL = some m.cls := hown
  have hA : ∀ q : Nat, s.heap.size ≤ q → (fun q : Nat => s.heap.size ≤ q) q := fun _ h => h
  have hbA : ¬ (fun q : Nat => s.heap.size ≤ q) b := Nat.not_le.mpr hbl
  have hX : va_X b _ xs (s.setDrawn d0) s.heap := hX
  refine lv_aload_n hx hb dL_law_829 rfl (lv_at hl 3 rfl) ?_
  refine lv_aload_n hx hb dL_law_830 rfl (lv_at hl 4 rfl) ?_
  refine lv_iload hx hb dL_law_831 (lv_at hl 0 rfl) ?_
  refine lv_iconst (v := 1) hx hb dL_law_833 (by decide) ?_
  refine lv_iadd hx hb dL_law_834 ?_
  refine va_sld (i := (0 + 1 : Int32)) hx hb hX hbl hbA hS (by unfold vp_in; decide) dL_law_835 ?_
  refine lv_aload_n hx hb dL_law_836 rfl (lv_at hl 4 rfl) ?_
  refine lv_iload hx hb dL_law_837 (lv_at hl 0 rfl) ?_
  refine lv_iconst (v := 2) hx hb dL_law_839 (by decide) ?_
  refine lv_iadd hx hb dL_law_840 ?_
  refine va_sld (i := (0 + 2 : Int32)) hx hb hX hbl hbA hS (by unfold vp_in; decide) dL_law_841 ?_
  refine lv_aload_n hx hb dL_law_842 rfl (lv_at hl 4 rfl) ?_
  refine lv_iload hx hb dL_law_843 (lv_at hl 0 rfl) ?_
  refine lv_iconst (v := 3) hx hb dL_law_845 (by decide) ?_
  refine lv_iadd hx hb dL_law_846 ?_
  refine va_sld (i := (0 + 3 : Int32)) hx hb hX hbl hbA hS (by unfold vp_in; decide) dL_law_847 ?_
  refine lv_aload_n hx hb dL_law_848 rfl (lv_at hl 4 rfl) ?_
  refine lv_iload hx hb dL_law_849 (lv_at hl 0 rfl) ?_
  refine lv_iconst (v := 4) hx hb dL_law_851 (by decide) ?_
  refine lv_iadd hx hb dL_law_852 ?_
  refine va_sld (i := (0 + 4 : Int32)) hx hb hX hbl hbA hS (by unfold vp_in; decide) dL_law_853 ?_
  have hPc := hP.sub (ws' := [(q0, .inr (6, [.ref a0, .ref a1, .ref a2, .int 0, .ref a4, .int 0, .ref a6, .int 0, .ref a8]))]) [0] rfl
  have hDc := hD.sub (ws' := [(q0, .inr (6, [.ref a0, .ref a1, .ref a2, .int 0, .ref a4, .int 0, .ref a6, .int 0, .ref a8]))]) [0] (by decide) rfl
  have hKc := hK.sub (tys' := []) [] rfl
  have hFc := va_free (wc := [(q0, .inr (6, [.ref a0, .ref a1, .ref a2, .int 0, .ref a4, .int 0, .ref a6, .int 0, .ref a8]))]) hD hS hA [0] rfl
  refine va_calli (va_runV (As := [.int (xs ((0 + 1 : Int32) : Int32).toNatClampNeg), .int (xs ((0 + 2 : Int32) : Int32).toNatClampNeg), .int (xs ((0 + 3 : Int32) : Int32).toNatClampNeg), .int (xs ((0 + 4 : Int32) : Int32).toNatClampNeg)]) (rest := []) ⟨hx, hb, hml, hown, hts⟩ (mt_X4_misses l dC dI H.size q0 a0 a1 a2 a4 a6 a8 (xs ((0 + 1 : Int32) : Int32).toNatClampNeg) (xs ((0 + 2 : Int32) : Int32).toNatClampNeg) (xs ((0 + 3 : Int32) : Int32).toNatClampNeg) (xs ((0 + 4 : Int32) : Int32).toNatClampNeg)) (cwV 4 hts gm_L_law_X4_misses rfl rfl rfl (by decide +kernel) ⟨Nat.le_of_ble_eq_true rfl, Nat.le_of_ble_eq_true rfl⟩) ⟨fun a U g mk q => by obtain ⟨q0, q1, qP, qK, qD⟩ := q; exact ⟨q0, q1, qP, va_K.moved (u := U) (U := U.calling g mk a) (Vm.Alike.refl U.vm) qK, qD⟩, va_recv hKc hPc (ci := 6) (q0 := 0) rfl rfl, fun U hU hW => ⟨rfl, by rw [hU], by rw [hU]; exact hPc, va_K.moved hW.alike hKc, hDc.weaken (fun _ _ _ _ => trivial)⟩⟩ rfl rfl hl.1 rfl (lv_room (Nat.le_of_ble_eq_true rfl)) dL_law_854 ⟨Nat.le_of_ble_eq_true rfl, Nat.le_of_ble_eq_true rfl⟩) hS (fun q _ h => hFc q h) hFc (fun r_1 u t H1 locs ht hvm hw hB hz1 hk1 hS => ?_)
  obtain ⟨hP1, hK1, hD1⟩ := hB
  rw [ht] at hP1
  have hK1 := va_K.moved hvm.symm hK1
  obtain ⟨hP, hD⟩ := va_join (wr := [(a2, .inl (y2, 16, .inr (.inl (fun _ => 0)))), (a8, .inl (y8, 32, .inr (.inl (fun _ => 0)))), (q1, .inr (7, [.int 0, .int 0, .ref b2, .int 0, .ref b4, .ref b5, .ref b6, .ref b7, .int 0, .ref b9, .ref b10, .ref b11, .ref b12, .ref b13])), (b2, .inl (z2, 16, .inr (.inl (fun _ => 0)))), (b10, .inl (z10, 32, .inr (.inl (fun _ => 0)))), (q2, .inl (yo, 1, .inr (.inl (fun _ => 0))))]) (w1 := []) hP hD [0] [1, 2, 3, 4, 5, 6] rfl rfl (by decide) (by decide) hk1 hFc hP1 hD1
  generalize H1 = H at hP hS ⊢
  have hP : va_P (dC, dI) vwCl [(a2, .inl (y2, 16, .inr (.inl (fun _ => 0)))), (a8, .inl (y8, 32, .inr (.inl (fun _ => 0)))), (q1, .inr (7, [.int 0, .int 0, .ref b2, .int 0, .ref b4, .ref b5, .ref b6, .ref b7, .int 0, .ref b9, .ref b10, .ref b11, .ref b12, .ref b13])), (b2, .inl (z2, 16, .inr (.inl (fun _ => 0)))), (b10, .inl (z10, 32, .inr (.inl (fun _ => 0)))), (q2, .inl (yo, 1, .inr (.inl (fun _ => 0))))] H := hP
  have hD : va_D (fun q : Nat => s.heap.size ≤ q) [(a2, .inl (y2, 16, .inr (.inl (fun _ => 0)))), (a8, .inl (y8, 32, .inr (.inl (fun _ => 0)))), (q1, .inr (7, [.int 0, .int 0, .ref b2, .int 0, .ref b4, .ref b5, .ref b6, .ref b7, .int 0, .ref b9, .ref b10, .ref b11, .ref b12, .ref b13])), (b2, .inl (z2, 16, .inr (.inl (fun _ => 0)))), (b10, .inl (z10, 32, .inr (.inl (fun _ => 0)))), (q2, .inl (yo, 1, .inr (.inl (fun _ => 0))))] := hD
  subst hw
  refine lv_aload_n hx hb dL_law_857 rfl (lv_at hl 2 rfl) ?_
  refine lv_aload_n hx hb dL_law_858 rfl (lv_at hl 4 rfl) ?_
  refine lv_iload hx hb dL_law_859 (lv_at hl 0 rfl) ?_
  refine lv_iconst (v := 1) hx hb dL_law_861 (by decide) ?_
  refine lv_iadd hx hb dL_law_862 ?_
  refine va_sld (i := (0 + 1 : Int32)) hx hb hX hbl hbA hS (by unfold vp_in; decide) dL_law_863 ?_
  refine lv_aload_n hx hb dL_law_864 rfl (lv_at hl 4 rfl) ?_
  refine lv_iload hx hb dL_law_865 (lv_at hl 0 rfl) ?_
  refine lv_iconst (v := 2) hx hb dL_law_867 (by decide) ?_
  refine lv_iadd hx hb dL_law_868 ?_
  refine va_sld (i := (0 + 2 : Int32)) hx hb hX hbl hbA hS (by unfold vp_in; decide) dL_law_869 ?_
  refine lv_aload_n hx hb dL_law_870 rfl (lv_at hl 4 rfl) ?_
  refine lv_iload hx hb dL_law_871 (lv_at hl 0 rfl) ?_
  refine lv_iconst (v := 3) hx hb dL_law_873 (by decide) ?_
  refine lv_iadd hx hb dL_law_874 ?_
  refine va_sld (i := (0 + 3 : Int32)) hx hb hX hbl hbA hS (by unfold vp_in; decide) dL_law_875 ?_
  refine lv_aload_n hx hb dL_law_876 rfl (lv_at hl 4 rfl) ?_
  refine lv_iload hx hb dL_law_877 (lv_at hl 0 rfl) ?_
  refine lv_iconst (v := 4) hx hb dL_law_879 (by decide) ?_
  refine lv_iadd hx hb dL_law_880 ?_
  refine va_sld (i := (0 + 4 : Int32)) hx hb hX hbl hbA hS (by unfold vp_in; decide) dL_law_881 ?_
  have hPc := hP.sub (ws' := [(q1, .inr (7, [.int 0, .int 0, .ref b2, .int 0, .ref b4, .ref b5, .ref b6, .ref b7, .int 0, .ref b9, .ref b10, .ref b11, .ref b12, .ref b13]))]) [2] rfl
  have hDc := hD.sub (ws' := [(q1, .inr (7, [.int 0, .int 0, .ref b2, .int 0, .ref b4, .ref b5, .ref b6, .ref b7, .int 0, .ref b9, .ref b10, .ref b11, .ref b12, .ref b13]))]) [2] (by decide) rfl
  have hKc := hK.sub (tys' := []) [] rfl
  have hFc := va_free (wc := [(q1, .inr (7, [.int 0, .int 0, .ref b2, .int 0, .ref b4, .ref b5, .ref b6, .ref b7, .int 0, .ref b9, .ref b10, .ref b11, .ref b12, .ref b13]))]) hD hS hA [2] rfl
  refine va_calli (va_runV (As := [.int (xs ((0 + 1 : Int32) : Int32).toNatClampNeg), .int (xs ((0 + 2 : Int32) : Int32).toNatClampNeg), .int (xs ((0 + 3 : Int32) : Int32).toNatClampNeg), .int (xs ((0 + 4 : Int32) : Int32).toNatClampNeg)]) (rest := [.int ((-1))]) ⟨hx, hb, hml, hown, hts⟩ (mt_X5_misses l dC dI H.size q1 b2 b4 b5 b6 b7 b9 b10 b11 b12 b13 0 (xs ((0 + 1 : Int32) : Int32).toNatClampNeg) (xs ((0 + 2 : Int32) : Int32).toNatClampNeg) (xs ((0 + 3 : Int32) : Int32).toNatClampNeg) (xs ((0 + 4 : Int32) : Int32).toNatClampNeg)) (cwV 4 hts gm_L_law_X5_misses rfl rfl rfl (by decide +kernel) ⟨Nat.le_of_ble_eq_true rfl, Nat.le_of_ble_eq_true rfl⟩) ⟨fun a U g mk q => by obtain ⟨q0, q1, qP, qK, qD⟩ := q; exact ⟨q0, q1, qP, va_K.moved (u := U) (U := U.calling g mk a) (Vm.Alike.refl U.vm) qK, qD⟩, va_recv hKc hPc (ci := 7) (q0 := 0) rfl rfl, fun U hU hW => ⟨rfl, by rw [hU], by rw [hU]; exact hPc, va_K.moved hW.alike hKc, hDc.weaken (fun _ _ _ _ => trivial)⟩⟩ rfl rfl hl.1 rfl (lv_room (Nat.le_of_ble_eq_true rfl)) dL_law_882 ⟨Nat.le_of_ble_eq_true rfl, Nat.le_of_ble_eq_true rfl⟩) hS (fun q _ h => hFc q h) hFc (fun r_2 u t H1 locs ht hvm hw hB hz1 hk1 hS => ?_)
  obtain ⟨hP1, hK1, hD1⟩ := hB
  rw [ht] at hP1
  have hK1 := va_K.moved hvm.symm hK1
  obtain ⟨hP, hD⟩ := va_join (wr := [(a2, .inl (y2, 16, .inr (.inl (fun _ => 0)))), (a8, .inl (y8, 32, .inr (.inl (fun _ => 0)))), (b2, .inl (z2, 16, .inr (.inl (fun _ => 0)))), (b10, .inl (z10, 32, .inr (.inl (fun _ => 0)))), (q2, .inl (yo, 1, .inr (.inl (fun _ => 0))))]) (w1 := []) hP hD [2] [0, 1, 3, 4, 5] rfl rfl (by decide) (by decide) hk1 hFc hP1 hD1
  generalize H1 = H at hP hS ⊢
  have hP : va_P (dC, dI) vwCl [(a2, .inl (y2, 16, .inr (.inl (fun _ => 0)))), (a8, .inl (y8, 32, .inr (.inl (fun _ => 0)))), (b2, .inl (z2, 16, .inr (.inl (fun _ => 0)))), (b10, .inl (z10, 32, .inr (.inl (fun _ => 0)))), (q2, .inl (yo, 1, .inr (.inl (fun _ => 0))))] H := hP
  have hD : va_D (fun q : Nat => s.heap.size ≤ q) [(a2, .inl (y2, 16, .inr (.inl (fun _ => 0)))), (a8, .inl (y8, 32, .inr (.inl (fun _ => 0)))), (b2, .inl (z2, 16, .inr (.inl (fun _ => 0)))), (b10, .inl (z10, 32, .inr (.inl (fun _ => 0)))), (q2, .inl (yo, 1, .inr (.inl (fun _ => 0))))] := hD
  subst hw
  refine lv_icmp_eq (tgt := 1423) hx hb dL_law_885 (by decide) (fun c_3 => ?_) (fun c_3 => absurd c_3 (by decide))
  exact law_end l hd0 C0 31 654 (Nat.le_of_ble_eq_true rfl) (Nat.le_of_ble_eq_true rfl) hS (lv_sub hl [0, 4] rfl)
set_option maxHeartbeats 4000000 in
set_option maxRecDepth 100000 in
theorem law_14 {p : Program} {e : Env} {s : State} {m : MethodId} {below : List Frame} {meth : Method} {c : Code} (l : Launch) (hst : l.stackTraces = false) {b : Nat} {xs : Nat → Int32} {d0 : Drawn} (hd0 : s.drawn.sameBut d0 lw_cs) (C0 : lw_At p s m meth c b 5 xs) (dC : Nat → ClassId) (dI : Nat → Nat → Nat) (q0 a0 a1 a2 a4 a6 a8 q1 b2 b4 b5 b6 b7 b9 b10 b11 b12 b13 q2 : Nat) (y2 y8 z2 z10 yo : ClassId) {H : Heap} {locs : List Loc} (hK : va_K (dC, dI) vwCl [(y2, .long), (y8, .long), (z2, .long), (z10, .long), (yo, .long)] (s.setDrawn d0)) (hP : va_P (dC, dI) vwCl [(q0, .inr (6, [.ref a0, .ref a1, .ref a2, .int 0, .ref a4, .int 0, .ref a6, .int 0, .ref a8])), (a2, .inl (y2, 16, .inr (.inl (fun _ => 0)))), (a8, .inl (y8, 32, .inr (.inl (fun _ => 0)))), (q1, .inr (7, [.int 0, .int 0, .ref b2, .int 0, .ref b4, .ref b5, .ref b6, .ref b7, .int 0, .ref b9, .ref b10, .ref b11, .ref b12, .ref b13])), (b2, .inl (z2, 16, .inr (.inl (fun _ => 0)))), (b10, .inl (z10, 32, .inr (.inl (fun _ => 0)))), (q2, .inl (yo, 1, .inr (.inl (fun _ => 0))))] H) (hD : va_D (fun q : Nat => s.heap.size ≤ q) [(q0, .inr (6, [.ref a0, .ref a1, .ref a2, .int 0, .ref a4, .int 0, .ref a6, .int 0, .ref a8])), (a2, .inl (y2, 16, .inr (.inl (fun _ => 0)))), (a8, .inl (y8, 32, .inr (.inl (fun _ => 0)))), (q1, .inr (7, [.int 0, .int 0, .ref b2, .int 0, .ref b4, .ref b5, .ref b6, .ref b7, .int 0, .ref b9, .ref b10, .ref b11, .ref b12, .ref b13])), (b2, .inl (z2, 16, .inr (.inl (fun _ => 0)))), (b10, .inl (z10, 32, .inr (.inl (fun _ => 0)))), (q2, .inl (yo, 1, .inr (.inl (fun _ => 0))))]) (hS : va_S (fun q : Nat => s.heap.size ≤ q) s.heap H locs) {ls : Array Slot} (hl : lv_has ls 9 [(4, .int 0), (3, .ref q2), (2, .ref q1), (1, .ref q0), (0, .ref b)]) : W p l e room_1 (s.setDrawn d0) m #[Value.ref b] below meth c H locs 31 654 (lw_Z below #[Value.ref b] s) (F0 m 890 ls []) := by
  obtain ⟨hx, hb, hr, hml, hown, hts0, hX, hbl, hlocks, hgv⟩ := id C0
  have htsT := dr_words hts0 d0
  have hts := htsT
  have hown : (s.setDrawn d0).vm.findClass RL = some m.cls := hown
  have hA : ∀ q : Nat, s.heap.size ≤ q → (fun q : Nat => s.heap.size ≤ q) q := fun _ h => h
  have hbA : ¬ (fun q : Nat => s.heap.size ≤ q) b := Nat.not_le.mpr hbl
  have hX : va_X b _ xs (s.setDrawn d0) s.heap := hX
  refine lv_aload_n hx hb dL_law_890 rfl (lv_at hl 3 rfl) ?_
  refine lv_aload_n hx hb dL_law_891 rfl (lv_at hl 4 rfl) ?_
  refine lv_iload hx hb dL_law_892 (lv_at hl 0 rfl) ?_
  refine lv_iconst (v := 1) hx hb dL_law_894 (by decide) ?_
  refine lv_iadd hx hb dL_law_895 ?_
  refine va_sld (i := (0 + 1 : Int32)) hx hb hX hbl hbA hS (by unfold vp_in; decide) dL_law_896 ?_
  refine lv_aload_n hx hb dL_law_897 rfl (lv_at hl 4 rfl) ?_
  refine lv_iload hx hb dL_law_898 (lv_at hl 0 rfl) ?_
  refine lv_iconst (v := 2) hx hb dL_law_900 (by decide) ?_
  refine lv_iadd hx hb dL_law_901 ?_
  refine va_sld (i := (0 + 2 : Int32)) hx hb hX hbl hbA hS (by unfold vp_in; decide) dL_law_902 ?_
  refine lv_aload_n hx hb dL_law_903 rfl (lv_at hl 4 rfl) ?_
  refine lv_iload hx hb dL_law_904 (lv_at hl 0 rfl) ?_
  refine lv_iconst (v := 3) hx hb dL_law_906 (by decide) ?_
  refine lv_iadd hx hb dL_law_907 ?_
  refine va_sld (i := (0 + 3 : Int32)) hx hb hX hbl hbA hS (by unfold vp_in; decide) dL_law_908 ?_
  refine lv_aload_n hx hb dL_law_909 rfl (lv_at hl 4 rfl) ?_
  refine lv_iload hx hb dL_law_910 (lv_at hl 0 rfl) ?_
  refine lv_iconst (v := 4) hx hb dL_law_912 (by decide) ?_
  refine lv_iadd hx hb dL_law_913 ?_
  refine va_sld (i := (0 + 4 : Int32)) hx hb hX hbl hbA hS (by unfold vp_in; decide) dL_law_914 ?_
  have hPc := hP.sub (ws' := [(q0, .inr (6, [.ref a0, .ref a1, .ref a2, .int 0, .ref a4, .int 0, .ref a6, .int 0, .ref a8]))]) [0] rfl
  have hDc := hD.sub (ws' := [(q0, .inr (6, [.ref a0, .ref a1, .ref a2, .int 0, .ref a4, .int 0, .ref a6, .int 0, .ref a8]))]) [0] (by decide) rfl
  have hKc := hK.sub (tys' := []) [] rfl
  have hFc := va_free (wc := [(q0, .inr (6, [.ref a0, .ref a1, .ref a2, .int 0, .ref a4, .int 0, .ref a6, .int 0, .ref a8]))]) hD hS hA [0] rfl
  refine va_calli (va_runV (As := [.int (xs ((0 + 1 : Int32) : Int32).toNatClampNeg), .int (xs ((0 + 2 : Int32) : Int32).toNatClampNeg), .int (xs ((0 + 3 : Int32) : Int32).toNatClampNeg), .int (xs ((0 + 4 : Int32) : Int32).toNatClampNeg)]) (rest := []) ⟨hx, hb, hml, hown, hts⟩ (mt_X4_hits l dC dI H.size q0 a0 a1 a2 a4 a6 a8 (xs ((0 + 1 : Int32) : Int32).toNatClampNeg) (xs ((0 + 2 : Int32) : Int32).toNatClampNeg) (xs ((0 + 3 : Int32) : Int32).toNatClampNeg) (xs ((0 + 4 : Int32) : Int32).toNatClampNeg)) (cwV 4 hts gm_L_law_X4_hits rfl rfl rfl (by decide +kernel) ⟨Nat.le_of_ble_eq_true rfl, Nat.le_of_ble_eq_true rfl⟩) ⟨fun a U g mk q => by obtain ⟨q0, q1, qP, qK, qD⟩ := q; exact ⟨q0, q1, qP, va_K.moved (u := U) (U := U.calling g mk a) (Vm.Alike.refl U.vm) qK, qD⟩, va_recv hKc hPc (ci := 6) (q0 := 0) rfl rfl, fun U hU hW => ⟨rfl, by rw [hU], by rw [hU]; exact hPc, va_K.moved hW.alike hKc, hDc.weaken (fun _ _ _ _ => trivial)⟩⟩ rfl rfl hl.1 rfl (lv_room (Nat.le_of_ble_eq_true rfl)) dL_law_915 ⟨Nat.le_of_ble_eq_true rfl, Nat.le_of_ble_eq_true rfl⟩) hS (fun q _ h => hFc q h) hFc (fun r_1 u t H1 locs ht hvm hw hB hz1 hk1 hS => ?_)
  obtain ⟨hP1, hK1, hD1⟩ := hB
  rw [ht] at hP1
  have hK1 := va_K.moved hvm.symm hK1
  obtain ⟨hP, hD⟩ := va_join (wr := [(a2, .inl (y2, 16, .inr (.inl (fun _ => 0)))), (a8, .inl (y8, 32, .inr (.inl (fun _ => 0)))), (q1, .inr (7, [.int 0, .int 0, .ref b2, .int 0, .ref b4, .ref b5, .ref b6, .ref b7, .int 0, .ref b9, .ref b10, .ref b11, .ref b12, .ref b13])), (b2, .inl (z2, 16, .inr (.inl (fun _ => 0)))), (b10, .inl (z10, 32, .inr (.inl (fun _ => 0)))), (q2, .inl (yo, 1, .inr (.inl (fun _ => 0))))]) (w1 := []) hP hD [0] [1, 2, 3, 4, 5, 6] rfl rfl (by decide) (by decide) hk1 hFc hP1 hD1
  generalize H1 = H at hP hS ⊢
  have hP : va_P (dC, dI) vwCl [(a2, .inl (y2, 16, .inr (.inl (fun _ => 0)))), (a8, .inl (y8, 32, .inr (.inl (fun _ => 0)))), (q1, .inr (7, [.int 0, .int 0, .ref b2, .int 0, .ref b4, .ref b5, .ref b6, .ref b7, .int 0, .ref b9, .ref b10, .ref b11, .ref b12, .ref b13])), (b2, .inl (z2, 16, .inr (.inl (fun _ => 0)))), (b10, .inl (z10, 32, .inr (.inl (fun _ => 0)))), (q2, .inl (yo, 1, .inr (.inl (fun _ => 0))))] H := hP
  have hD : va_D (fun q : Nat => s.heap.size ≤ q) [(a2, .inl (y2, 16, .inr (.inl (fun _ => 0)))), (a8, .inl (y8, 32, .inr (.inl (fun _ => 0)))), (q1, .inr (7, [.int 0, .int 0, .ref b2, .int 0, .ref b4, .ref b5, .ref b6, .ref b7, .int 0, .ref b9, .ref b10, .ref b11, .ref b12, .ref b13])), (b2, .inl (z2, 16, .inr (.inl (fun _ => 0)))), (b10, .inl (z10, 32, .inr (.inl (fun _ => 0)))), (q2, .inl (yo, 1, .inr (.inl (fun _ => 0))))] := hD
  subst hw
  refine lv_aload_n hx hb dL_law_918 rfl (lv_at hl 2 rfl) ?_
  refine lv_aload_n hx hb dL_law_919 rfl (lv_at hl 4 rfl) ?_
  refine lv_iload hx hb dL_law_920 (lv_at hl 0 rfl) ?_
  refine lv_iconst (v := 1) hx hb dL_law_922 (by decide) ?_
  refine lv_iadd hx hb dL_law_923 ?_
  refine va_sld (i := (0 + 1 : Int32)) hx hb hX hbl hbA hS (by unfold vp_in; decide) dL_law_924 ?_
  refine lv_aload_n hx hb dL_law_925 rfl (lv_at hl 4 rfl) ?_
  refine lv_iload hx hb dL_law_926 (lv_at hl 0 rfl) ?_
  refine lv_iconst (v := 2) hx hb dL_law_928 (by decide) ?_
  refine lv_iadd hx hb dL_law_929 ?_
  refine va_sld (i := (0 + 2 : Int32)) hx hb hX hbl hbA hS (by unfold vp_in; decide) dL_law_930 ?_
  refine lv_aload_n hx hb dL_law_931 rfl (lv_at hl 4 rfl) ?_
  refine lv_iload hx hb dL_law_932 (lv_at hl 0 rfl) ?_
  refine lv_iconst (v := 3) hx hb dL_law_934 (by decide) ?_
  refine lv_iadd hx hb dL_law_935 ?_
  refine va_sld (i := (0 + 3 : Int32)) hx hb hX hbl hbA hS (by unfold vp_in; decide) dL_law_936 ?_
  refine lv_aload_n hx hb dL_law_937 rfl (lv_at hl 4 rfl) ?_
  refine lv_iload hx hb dL_law_938 (lv_at hl 0 rfl) ?_
  refine lv_iconst (v := 4) hx hb dL_law_940 (by decide) ?_
  refine lv_iadd hx hb dL_law_941 ?_
  refine va_sld (i := (0 + 4 : Int32)) hx hb hX hbl hbA hS (by unfold vp_in; decide) dL_law_942 ?_
  have hPc := hP.sub (ws' := [(q1, .inr (7, [.int 0, .int 0, .ref b2, .int 0, .ref b4, .ref b5, .ref b6, .ref b7, .int 0, .ref b9, .ref b10, .ref b11, .ref b12, .ref b13]))]) [2] rfl
  have hDc := hD.sub (ws' := [(q1, .inr (7, [.int 0, .int 0, .ref b2, .int 0, .ref b4, .ref b5, .ref b6, .ref b7, .int 0, .ref b9, .ref b10, .ref b11, .ref b12, .ref b13]))]) [2] (by decide) rfl
  have hKc := hK.sub (tys' := []) [] rfl
  have hFc := va_free (wc := [(q1, .inr (7, [.int 0, .int 0, .ref b2, .int 0, .ref b4, .ref b5, .ref b6, .ref b7, .int 0, .ref b9, .ref b10, .ref b11, .ref b12, .ref b13]))]) hD hS hA [2] rfl
  refine va_calli (va_runV (As := [.int (xs ((0 + 1 : Int32) : Int32).toNatClampNeg), .int (xs ((0 + 2 : Int32) : Int32).toNatClampNeg), .int (xs ((0 + 3 : Int32) : Int32).toNatClampNeg), .int (xs ((0 + 4 : Int32) : Int32).toNatClampNeg)]) (rest := [.int ((-1))]) ⟨hx, hb, hml, hown, hts⟩ (mt_X5_hits l dC dI H.size q1 b2 b4 b5 b6 b7 b9 b10 b11 b12 b13 0 (xs ((0 + 1 : Int32) : Int32).toNatClampNeg) (xs ((0 + 2 : Int32) : Int32).toNatClampNeg) (xs ((0 + 3 : Int32) : Int32).toNatClampNeg) (xs ((0 + 4 : Int32) : Int32).toNatClampNeg)) (cwV 4 hts gm_L_law_X5_hits rfl rfl rfl (by decide +kernel) ⟨Nat.le_of_ble_eq_true rfl, Nat.le_of_ble_eq_true rfl⟩) ⟨fun a U g mk q => by obtain ⟨q0, q1, qP, qK, qD⟩ := q; exact ⟨q0, q1, qP, va_K.moved (u := U) (U := U.calling g mk a) (Vm.Alike.refl U.vm) qK, qD⟩, va_recv hKc hPc (ci := 7) (q0 := 0) rfl rfl, fun U hU hW => ⟨rfl, by rw [hU], by rw [hU]; exact hPc, va_K.moved hW.alike hKc, hDc.weaken (fun _ _ _ _ => trivial)⟩⟩ rfl rfl hl.1 rfl (lv_room (Nat.le_of_ble_eq_true rfl)) dL_law_943 ⟨Nat.le_of_ble_eq_true rfl, Nat.le_of_ble_eq_true rfl⟩) hS (fun q _ h => hFc q h) hFc (fun r_2 u t H1 locs ht hvm hw hB hz1 hk1 hS => ?_)
  obtain ⟨hP1, hK1, hD1⟩ := hB
  rw [ht] at hP1
  have hK1 := va_K.moved hvm.symm hK1
  obtain ⟨hP, hD⟩ := va_join (wr := [(a2, .inl (y2, 16, .inr (.inl (fun _ => 0)))), (a8, .inl (y8, 32, .inr (.inl (fun _ => 0)))), (b2, .inl (z2, 16, .inr (.inl (fun _ => 0)))), (b10, .inl (z10, 32, .inr (.inl (fun _ => 0)))), (q2, .inl (yo, 1, .inr (.inl (fun _ => 0))))]) (w1 := []) hP hD [2] [0, 1, 3, 4, 5] rfl rfl (by decide) (by decide) hk1 hFc hP1 hD1
  generalize H1 = H at hP hS ⊢
  have hP : va_P (dC, dI) vwCl [(a2, .inl (y2, 16, .inr (.inl (fun _ => 0)))), (a8, .inl (y8, 32, .inr (.inl (fun _ => 0)))), (b2, .inl (z2, 16, .inr (.inl (fun _ => 0)))), (b10, .inl (z10, 32, .inr (.inl (fun _ => 0)))), (q2, .inl (yo, 1, .inr (.inl (fun _ => 0))))] H := hP
  have hD : va_D (fun q : Nat => s.heap.size ≤ q) [(a2, .inl (y2, 16, .inr (.inl (fun _ => 0)))), (a8, .inl (y8, 32, .inr (.inl (fun _ => 0)))), (b2, .inl (z2, 16, .inr (.inl (fun _ => 0)))), (b10, .inl (z10, 32, .inr (.inl (fun _ => 0)))), (q2, .inl (yo, 1, .inr (.inl (fun _ => 0))))] := hD
  subst hw
  refine lv_icmp_eq (tgt := 1423) hx hb dL_law_946 (by decide) (fun c_3 => ?_) (fun c_3 => absurd c_3 (by decide))
  exact law_end l hd0 C0 31 654 (Nat.le_of_ble_eq_true rfl) (Nat.le_of_ble_eq_true rfl) hS (lv_sub hl [0, 4] rfl)
