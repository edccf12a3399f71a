set_option maxHeartbeats 4000000 in
set_option maxRecDepth 100000 in
theorem law_20 {p : Program} {e : Env} {s : State} {m : MethodId} {below : List Frame} {meth : Method} {c : Code} (l : Launch) (hst : l.stackTraces = false) {b : Nat} {xs : Nat → Int32} {d0 : Drawn} (hd0 : s.drawn.sameBut d0 lw_cs) (C0 : lw_At p s m meth c b 5 xs) (dC : Nat → ClassId) (dI : Nat → Nat → Nat) (q0 a0 a1 a2 a4 a6 a8 q1 b2 b4 b5 b6 b7 b9 b10 b11 b12 b13 q2 : Nat) (y2 y8 z2 z10 yo : ClassId) {H : Heap} {locs : List Loc} (hK : va_K (dC, dI) vwCl [(y2, .long), (y8, .long), (z2, .long), (z10, .long), (yo, .long)] (s.setDrawn d0)) (hP : va_P (dC, dI) vwCl [(q0, .inr (6, [.ref a0, .ref a1, .ref a2, .int 0, .ref a4, .int 0, .ref a6, .int 0, .ref a8])), (a2, .inl (y2, 16, .inr (.inl (fun _ => 0)))), (a8, .inl (y8, 32, .inr (.inl (fun _ => 0)))), (q1, .inr (7, [.int 0, .int 0, .ref b2, .int 0, .ref b4, .ref b5, .ref b6, .ref b7, .int 0, .ref b9, .ref b10, .ref b11, .ref b12, .ref b13])), (b2, .inl (z2, 16, .inr (.inl (fun _ => 0)))), (b10, .inl (z10, 32, .inr (.inl (fun _ => 0)))), (q2, .inl (yo, 1, .inr (.inl (fun _ => 0))))] H) (hD : va_D (fun q : Nat => s.heap.size ≤ q) [(q0, .inr (6, [.ref a0, .ref a1, .ref a2, .int 0, .ref a4, .int 0, .ref a6, .int 0, .ref a8])), (a2, .inl (y2, 16, .inr (.inl (fun _ => 0)))), (a8, .inl (y8, 32, .inr (.inl (fun _ => 0)))), (q1, .inr (7, [.int 0, .int 0, .ref b2, .int 0, .ref b4, .ref b5, .ref b6, .ref b7, .int 0, .ref b9, .ref b10, .ref b11, .ref b12, .ref b13])), (b2, .inl (z2, 16, .inr (.inl (fun _ => 0)))), (b10, .inl (z10, 32, .inr (.inl (fun _ => 0)))), (q2, .inl (yo, 1, .inr (.inl (fun _ => 0))))]) (hS : va_S (fun q : Nat => s.heap.size ≤ q) s.heap H locs) {ls : Array Slot} (hl : lv_has ls 9 [(4, .int 0), (3, .ref q2), (2, .ref q1), (1, .ref q0), (0, .ref b)]) : W p l e room_1 (s.setDrawn d0) m #[Value.ref b] below meth c H locs 31 654 (lw_Z below #[Value.ref b] s) (F0 m 1181 ls []) := by
  obtain ⟨hx, hb, hr, hml, hown, hts0, hX, hbl, hlocks, hgv⟩ := id C0
  have htsT := dr_words hts0 d0
  have hts := htsT
  have hown : (s.setDrawn d0).vm.findClass RL = some m.cls := hown
  have hA : ∀ q : Nat, s.heap.size ≤ q → (fun q : Nat => s.heap.size ≤ q) q := fun _ h => h
  have hbA : ¬ (fun q : Nat => s.heap.size ≤ q) b := Nat.not_le.mpr hbl
  have hX : va_X b _ xs (s.setDrawn d0) s.heap := hX
  refine lv_aload_n hx hb dL_law_1181 rfl (lv_at hl 3 rfl) ?_
  refine lv_aload_n hx hb dL_law_1182 rfl (lv_at hl 4 rfl) ?_
  refine lv_iload hx hb dL_law_1183 (lv_at hl 0 rfl) ?_
  refine lv_iconst (v := 1) hx hb dL_law_1185 (by decide) ?_
  refine lv_iadd hx hb dL_law_1186 ?_
  refine va_sld (i := (0 + 1 : Int32)) hx hb hX hbl hbA hS (by unfold vp_in; decide) dL_law_1187 ?_
  refine lv_aload_n hx hb dL_law_1188 rfl (lv_at hl 4 rfl) ?_
  refine lv_iload hx hb dL_law_1189 (lv_at hl 0 rfl) ?_
  refine lv_iconst (v := 2) hx hb dL_law_1191 (by decide) ?_
  refine lv_iadd hx hb dL_law_1192 ?_
  refine va_sld (i := (0 + 2 : Int32)) hx hb hX hbl hbA hS (by unfold vp_in; decide) dL_law_1193 ?_
  refine lv_i2l hx hb dL_law_1194 rfl ?_
  refine lv_bipush (v := 32) hx hb dL_law_1195 (by decide) ?_
  refine lv_lshl hx hb dL_law_1197 rfl ?_
  refine lv_aload_n hx hb dL_law_1198 rfl (lv_at hl 4 rfl) ?_
  refine lv_iload hx hb dL_law_1199 (lv_at hl 0 rfl) ?_
  refine lv_iconst (v := 3) hx hb dL_law_1201 (by decide) ?_
  refine lv_iadd hx hb dL_law_1202 ?_
  refine va_sld (i := (0 + 3 : Int32)) hx hb hX hbl hbA hS (by unfold vp_in; decide) dL_law_1203 ?_
  refine lv_i2l hx hb dL_law_1204 rfl ?_
  refine lv_ldc2 (v := 4294967295) hx hb hown (hts _ kL_law_0) dL_law_1205 ?_
  refine lv_land hx hb dL_law_1208 ?_
  refine lv_lor hx hb dL_law_1209 ?_
  have hPc := hP.sub (ws' := [(q0, .inr (6, [.ref a0, .ref a1, .ref a2, .int 0, .ref a4, .int 0, .ref a6, .int 0, .ref a8])), (a8, .inl (y8, 32, .inr (.inl (fun _ => 0))))]) [0, 2] rfl
  have hDc := hD.sub (ws' := [(q0, .inr (6, [.ref a0, .ref a1, .ref a2, .int 0, .ref a4, .int 0, .ref a6, .int 0, .ref a8])), (a8, .inl (y8, 32, .inr (.inl (fun _ => 0))))]) [0, 2] (by decide) rfl
  have hKc := hK.sub (tys' := [(y8, .long)]) [1] rfl
  have hFc := va_free (wc := [(q0, .inr (6, [.ref a0, .ref a1, .ref a2, .int 0, .ref a4, .int 0, .ref a6, .int 0, .ref a8])), (a8, .inl (y8, 32, .inr (.inl (fun _ => 0))))]) hD hS hA [0, 2] rfl
  refine va_calll (va_runV (As := [.int (xs ((0 + 1 : Int32) : Int32).toNatClampNeg), .long ((((((xs ((0 + 2 : Int32) : Int32).toNatClampNeg : Int32).toInt64) <<< ((32 : Int32).toInt64 &&& 63) : Int64)) ||| ((((xs ((0 + 3 : Int32) : Int32).toNatClampNeg : Int32).toInt64) &&& 4294967295 : Int64)) : Int64))]) (rest := []) ⟨hx, hb, hml, hown, hts⟩ (mt_X4_weight l dC dI H.size q0 a0 a1 a2 a4 a6 a8 y8 (xs ((0 + 1 : Int32) : Int32).toNatClampNeg) ((((((xs ((0 + 2 : Int32) : Int32).toNatClampNeg : Int32).toInt64) <<< ((32 : Int32).toInt64 &&& 63) : Int64)) ||| ((((xs ((0 + 3 : Int32) : Int32).toNatClampNeg : Int32).toInt64) &&& 4294967295 : Int64)) : Int64))) (cwV 2 hts gm_L_law_X4_weight rfl rfl rfl (by decide +kernel) ⟨Nat.le_of_ble_eq_true rfl, Nat.le_of_ble_eq_true rfl⟩) ⟨fun a U g mk q => by obtain ⟨q0, q1, qP, qK, qD⟩ := q; exact ⟨q0, q1, qP, va_K.moved (u := U) (U := U.calling g mk a) (Vm.Alike.refl U.vm) qK, qD⟩, va_recv hKc hPc (ci := 6) (q0 := 0) rfl rfl, fun U hU hW => ⟨rfl, by rw [hU], by rw [hU]; exact hPc, va_K.moved hW.alike hKc, hDc.weaken (fun _ _ _ _ => trivial)⟩⟩ rfl rfl hl.1 rfl (lv_room (Nat.le_of_ble_eq_true rfl)) dL_law_1210 ⟨Nat.le_of_ble_eq_true rfl, Nat.le_of_ble_eq_true rfl⟩) hS (fun q _ h => hFc q h) hFc (fun r_1 u t H1 locs ht hvm hw hB hz1 hk1 hS => ?_)
  obtain ⟨hP1, hK1, hD1⟩ := hB
  rw [ht] at hP1
  have hK1 := va_K.moved hvm.symm hK1
  obtain ⟨hP, hD⟩ := va_join (wr := [(a2, .inl (y2, 16, .inr (.inl (fun _ => 0)))), (q1, .inr (7, [.int 0, .int 0, .ref b2, .int 0, .ref b4, .ref b5, .ref b6, .ref b7, .int 0, .ref b9, .ref b10, .ref b11, .ref b12, .ref b13])), (b2, .inl (z2, 16, .inr (.inl (fun _ => 0)))), (b10, .inl (z10, 32, .inr (.inl (fun _ => 0)))), (q2, .inl (yo, 1, .inr (.inl (fun _ => 0))))]) (w1 := []) hP hD [0, 2] [1, 3, 4, 5, 6] rfl rfl (by decide) (by decide) hk1 hFc hP1 hD1
  generalize H1 = H at hP hS ⊢
  have hP : va_P (dC, dI) vwCl [(a2, .inl (y2, 16, .inr (.inl (fun _ => 0)))), (q1, .inr (7, [.int 0, .int 0, .ref b2, .int 0, .ref b4, .ref b5, .ref b6, .ref b7, .int 0, .ref b9, .ref b10, .ref b11, .ref b12, .ref b13])), (b2, .inl (z2, 16, .inr (.inl (fun _ => 0)))), (b10, .inl (z10, 32, .inr (.inl (fun _ => 0)))), (q2, .inl (yo, 1, .inr (.inl (fun _ => 0))))] H := hP
  have hD : va_D (fun q : Nat => s.heap.size ≤ q) [(a2, .inl (y2, 16, .inr (.inl (fun _ => 0)))), (q1, .inr (7, [.int 0, .int 0, .ref b2, .int 0, .ref b4, .ref b5, .ref b6, .ref b7, .int 0, .ref b9, .ref b10, .ref b11, .ref b12, .ref b13])), (b2, .inl (z2, 16, .inr (.inl (fun _ => 0)))), (b10, .inl (z10, 32, .inr (.inl (fun _ => 0)))), (q2, .inl (yo, 1, .inr (.inl (fun _ => 0))))] := hD
  subst hw
  refine lv_aload_n hx hb dL_law_1213 rfl (lv_at hl 2 rfl) ?_
  refine lv_aload_n hx hb dL_law_1214 rfl (lv_at hl 4 rfl) ?_
  refine lv_iload hx hb dL_law_1215 (lv_at hl 0 rfl) ?_
  refine lv_iconst (v := 1) hx hb dL_law_1217 (by decide) ?_
  refine lv_iadd hx hb dL_law_1218 ?_
  refine va_sld (i := (0 + 1 : Int32)) hx hb hX hbl hbA hS (by unfold vp_in; decide) dL_law_1219 ?_
  refine lv_aload_n hx hb dL_law_1220 rfl (lv_at hl 4 rfl) ?_
  refine lv_iload hx hb dL_law_1221 (lv_at hl 0 rfl) ?_
  refine lv_iconst (v := 2) hx hb dL_law_1223 (by decide) ?_
  refine lv_iadd hx hb dL_law_1224 ?_
  refine va_sld (i := (0 + 2 : Int32)) hx hb hX hbl hbA hS (by unfold vp_in; decide) dL_law_1225 ?_
  refine lv_i2l hx hb dL_law_1226 rfl ?_
  refine lv_bipush (v := 32) hx hb dL_law_1227 (by decide) ?_
  refine lv_lshl hx hb dL_law_1229 rfl ?_
  refine lv_aload_n hx hb dL_law_1230 rfl (lv_at hl 4 rfl) ?_
  refine lv_iload hx hb dL_law_1231 (lv_at hl 0 rfl) ?_
  refine lv_iconst (v := 3) hx hb dL_law_1233 (by decide) ?_
  refine lv_iadd hx hb dL_law_1234 ?_
  refine va_sld (i := (0 + 3 : Int32)) hx hb hX hbl hbA hS (by unfold vp_in; decide) dL_law_1235 ?_
  refine lv_i2l hx hb dL_law_1236 rfl ?_
  refine lv_ldc2 (v := 4294967295) hx hb hown (hts _ kL_law_0) dL_law_1237 ?_
  refine lv_land hx hb dL_law_1240 ?_
  refine lv_lor hx hb dL_law_1241 ?_
  have hPc := hP.sub (ws' := [(q1, .inr (7, [.int 0, .int 0, .ref b2, .int 0, .ref b4, .ref b5, .ref b6, .ref b7, .int 0, .ref b9, .ref b10, .ref b11, .ref b12, .ref b13])), (b10, .inl (z10, 32, .inr (.inl (fun _ => 0))))]) [1, 3] rfl
  have hDc := hD.sub (ws' := [(q1, .inr (7, [.int 0, .int 0, .ref b2, .int 0, .ref b4, .ref b5, .ref b6, .ref b7, .int 0, .ref b9, .ref b10, .ref b11, .ref b12, .ref b13])), (b10, .inl (z10, 32, .inr (.inl (fun _ => 0))))]) [1, 3] (by decide) rfl
  have hKc := hK.sub (tys' := [(z10, .long)]) [3] rfl
  have hFc := va_free (wc := [(q1, .inr (7, [.int 0, .int 0, .ref b2, .int 0, .ref b4, .ref b5, .ref b6, .ref b7, .int 0, .ref b9, .ref b10, .ref b11, .ref b12, .ref b13])), (b10, .inl (z10, 32, .inr (.inl (fun _ => 0))))]) hD hS hA [1, 3] rfl
  refine va_calll (va_runV (As := [.int (xs ((0 + 1 : Int32) : Int32).toNatClampNeg), .long ((((((xs ((0 + 2 : Int32) : Int32).toNatClampNeg : Int32).toInt64) <<< ((32 : Int32).toInt64 &&& 63) : Int64)) ||| ((((xs ((0 + 3 : Int32) : Int32).toNatClampNeg : Int32).toInt64) &&& 4294967295 : Int64)) : Int64))]) (rest := [.long ((wgt (xs ((0 + 1 : Int32) : Int32).toNatClampNeg) ((((((xs ((0 + 2 : Int32) : Int32).toNatClampNeg : Int32).toInt64) <<< ((32 : Int32).toInt64 &&& 63) : Int64)) ||| ((((xs ((0 + 3 : Int32) : Int32).toNatClampNeg : Int32).toInt64) &&& 4294967295 : Int64)) : Int64))))]) ⟨hx, hb, hml, hown, hts⟩ (mt_X5_weight l dC dI H.size q1 b2 b4 b5 b6 b7 b9 b10 b11 b12 b13 z10 0 (xs ((0 + 1 : Int32) : Int32).toNatClampNeg) ((((((xs ((0 + 2 : Int32) : Int32).toNatClampNeg : Int32).toInt64) <<< ((32 : Int32).toInt64 &&& 63) : Int64)) ||| ((((xs ((0 + 3 : Int32) : Int32).toNatClampNeg : Int32).toInt64) &&& 4294967295 : Int64)) : Int64))) (cwV 2 hts gm_L_law_X5_weight rfl rfl rfl (by decide +kernel) ⟨Nat.le_of_ble_eq_true rfl, Nat.le_of_ble_eq_true rfl⟩) ⟨fun a U g mk q => by obtain ⟨q0, q1, qP, qK, qD⟩ := q; exact ⟨q0, q1, qP, va_K.moved (u := U) (U := U.calling g mk a) (Vm.Alike.refl U.vm) qK, qD⟩, va_recv hKc hPc (ci := 7) (q0 := 0) rfl rfl, fun U hU hW => ⟨rfl, by rw [hU], by rw [hU]; exact hPc, va_K.moved hW.alike hKc, hDc.weaken (fun _ _ _ _ => trivial)⟩⟩ rfl rfl hl.1 rfl (lv_room (Nat.le_of_ble_eq_true rfl)) dL_law_1242 ⟨Nat.le_of_ble_eq_true rfl, Nat.le_of_ble_eq_true rfl⟩) hS (fun q _ h => hFc q h) hFc (fun r_2 u t H1 locs ht hvm hw hB hz1 hk1 hS => ?_)
  obtain ⟨hP1, hK1, hD1⟩ := hB
  rw [ht] at hP1
  have hK1 := va_K.moved hvm.symm hK1
  obtain ⟨hP, hD⟩ := va_join (wr := [(a2, .inl (y2, 16, .inr (.inl (fun _ => 0)))), (b2, .inl (z2, 16, .inr (.inl (fun _ => 0)))), (q2, .inl (yo, 1, .inr (.inl (fun _ => 0))))]) (w1 := []) hP hD [1, 3] [0, 2, 4] rfl rfl (by decide) (by decide) hk1 hFc hP1 hD1
  generalize H1 = H at hP hS ⊢
  have hP : va_P (dC, dI) vwCl [(a2, .inl (y2, 16, .inr (.inl (fun _ => 0)))), (b2, .inl (z2, 16, .inr (.inl (fun _ => 0)))), (q2, .inl (yo, 1, .inr (.inl (fun _ => 0))))] H := hP
  have hD : va_D (fun q : Nat => s.heap.size ≤ q) [(a2, .inl (y2, 16, .inr (.inl (fun _ => 0)))), (b2, .inl (z2, 16, .inr (.inl (fun _ => 0)))), (q2, .inl (yo, 1, .inr (.inl (fun _ => 0))))] := hD
  subst hw
  refine W.lcmp hx hb dL_law_1245 ?_
  refine lv_if_eq (tgt := 1423) hx hb dL_law_1246 (by decide) (fun c_3 => ?_) (fun c_3 => absurd ((lg_cmp_eq _ _).mpr rfl) c_3)
  exact law_end l hd0 C0 31 654 (Nat.le_of_ble_eq_true rfl) (Nat.le_of_ble_eq_true rfl) hS (lv_sub hl [0, 4] rfl)
set_option maxHeartbeats 4000000 in
set_option maxRecDepth 100000 in
theorem law_21 {p : Program} {e : Env} {s : State} {m : MethodId} {below : List Frame} {meth : Method} {c : Code} (l : Launch) (hst : l.stackTraces = false) {b : Nat} {xs : Nat → Int32} {d0 : Drawn} (hd0 : s.drawn.sameBut d0 lw_cs) (C0 : lw_At p s m meth c b 5 xs) (dC : Nat → ClassId) (dI : Nat → Nat → Nat) (q0 a0 a1 a2 a4 a6 a8 q1 b2 b4 b5 b6 b7 b9 b10 b11 b12 b13 q2 : Nat) (y2 y8 z2 z10 yo : ClassId) {H : Heap} {locs : List Loc} (hK : va_K (dC, dI) vwCl [(y2, .long), (y8, .long), (z2, .long), (z10, .long), (yo, .long)] (s.setDrawn d0)) (hP : va_P (dC, dI) vwCl [(q0, .inr (6, [.ref a0, .ref a1, .ref a2, .int 0, .ref a4, .int 0, .ref a6, .int 0, .ref a8])), (a2, .inl (y2, 16, .inr (.inl (fun _ => 0)))), (a8, .inl (y8, 32, .inr (.inl (fun _ => 0)))), (q1, .inr (7, [.int 0, .int 0, .ref b2, .int 0, .ref b4, .ref b5, .ref b6, .ref b7, .int 0, .ref b9, .ref b10, .ref b11, .ref b12, .ref b13])), (b2, .inl (z2, 16, .inr (.inl (fun _ => 0)))), (b10, .inl (z10, 32, .inr (.inl (fun _ => 0)))), (q2, .inl (yo, 1, .inr (.inl (fun _ => 0))))] H) (hD : va_D (fun q : Nat => s.heap.size ≤ q) [(q0, .inr (6, [.ref a0, .ref a1, .ref a2, .int 0, .ref a4, .int 0, .ref a6, .int 0, .ref a8])), (a2, .inl (y2, 16, .inr (.inl (fun _ => 0)))), (a8, .inl (y8, 32, .inr (.inl (fun _ => 0)))), (q1, .inr (7, [.int 0, .int 0, .ref b2, .int 0, .ref b4, .ref b5, .ref b6, .ref b7, .int 0, .ref b9, .ref b10, .ref b11, .ref b12, .ref b13])), (b2, .inl (z2, 16, .inr (.inl (fun _ => 0)))), (b10, .inl (z10, 32, .inr (.inl (fun _ => 0)))), (q2, .inl (yo, 1, .inr (.inl (fun _ => 0))))]) (hS : va_S (fun q : Nat => s.heap.size ≤ q) s.heap H locs) {ls : Array Slot} (hl : lv_has ls 9 [(4, .int 0), (3, .ref q2), (2, .ref q1), (1, .ref q0), (0, .ref b)]) : W p l e room_1 (s.setDrawn d0) m #[Value.ref b] below meth c H locs 31 654 (lw_Z below #[Value.ref b] s) (F0 m 1251 ls []) := by
  obtain ⟨hx, hb, hr, hml, hown, hts0, hX, hbl, hlocks, hgv⟩ := id C0
  have htsT := dr_words hts0 d0
  have hts := htsT
  have hown : (s.setDrawn d0).vm.findClass RL = some m.cls := hown
  have hA : ∀ q : Nat, s.heap.size ≤ q → (fun q : Nat => s.heap.size ≤ q) q := fun _ h => h
  have hbA : ¬ (fun q : Nat => s.heap.size ≤ q) b := Nat.not_le.mpr hbl
  have hX : va_X b _ xs (s.setDrawn d0) s.heap := hX
  refine lv_aload_n hx hb dL_law_1251 rfl (lv_at hl 3 rfl) ?_
  refine lv_aload_n hx hb dL_law_1252 rfl (lv_at hl 4 rfl) ?_
  refine lv_iload hx hb dL_law_1253 (lv_at hl 0 rfl) ?_
  refine lv_iconst (v := 1) hx hb dL_law_1255 (by decide) ?_
  refine lv_iadd hx hb dL_law_1256 ?_
  refine va_sld (i := (0 + 1 : Int32)) hx hb hX hbl hbA hS (by unfold vp_in; decide) dL_law_1257 ?_
  have hPc := hP.sub (ws' := [(q0, .inr (6, [.ref a0, .ref a1, .ref a2, .int 0, .ref a4, .int 0, .ref a6, .int 0, .ref a8]))]) [0] rfl
  have hDc := hD.sub (ws' := [(q0, .inr (6, [.ref a0, .ref a1, .ref a2, .int 0, .ref a4, .int 0, .ref a6, .int 0, .ref a8]))]) [0] (by decide) rfl
  have hKc := hK.sub (tys' := []) [] rfl
  have hFc := va_free (wc := [(q0, .inr (6, [.ref a0, .ref a1, .ref a2, .int 0, .ref a4, .int 0, .ref a6, .int 0, .ref a8]))]) hD hS hA [0] rfl
  refine va_calli (va_runV (As := [.int (xs ((0 + 1 : Int32) : Int32).toNatClampNeg)]) (rest := []) ⟨hx, hb, hml, hown, hts⟩ (mt_X4_choose l dC dI H.size q0 a0 a1 a2 a4 a6 a8 (xs ((0 + 1 : Int32) : Int32).toNatClampNeg)) (cwV 1 hts gm_L_law_X4_choose rfl rfl rfl (by decide +kernel) ⟨Nat.le_of_ble_eq_true rfl, Nat.le_of_ble_eq_true rfl⟩) ⟨fun a U g mk q => by obtain ⟨q0, q1, qP, qK, qD⟩ := q; exact ⟨q0, q1, qP, va_K.moved (u := U) (U := U.calling g mk a) (Vm.Alike.refl U.vm) qK, qD⟩, va_recv hKc hPc (ci := 6) (q0 := 0) rfl rfl, fun U hU hW => ⟨rfl, by rw [hU], by rw [hU]; exact hPc, va_K.moved hW.alike hKc, hDc.weaken (fun _ _ _ _ => trivial)⟩⟩ rfl rfl hl.1 rfl (lv_room (Nat.le_of_ble_eq_true rfl)) dL_law_1258 ⟨Nat.le_of_ble_eq_true rfl, Nat.le_of_ble_eq_true rfl⟩) hS (fun q _ h => hFc q h) hFc (fun r_1 u t H1 locs ht hvm hw hB hz1 hk1 hS => ?_)
  obtain ⟨hP1, hK1, hD1⟩ := hB
  rw [ht] at hP1
  have hK1 := va_K.moved hvm.symm hK1
  obtain ⟨hP, hD⟩ := va_join (wr := [(a2, .inl (y2, 16, .inr (.inl (fun _ => 0)))), (a8, .inl (y8, 32, .inr (.inl (fun _ => 0)))), (q1, .inr (7, [.int 0, .int 0, .ref b2, .int 0, .ref b4, .ref b5, .ref b6, .ref b7, .int 0, .ref b9, .ref b10, .ref b11, .ref b12, .ref b13])), (b2, .inl (z2, 16, .inr (.inl (fun _ => 0)))), (b10, .inl (z10, 32, .inr (.inl (fun _ => 0)))), (q2, .inl (yo, 1, .inr (.inl (fun _ => 0))))]) (w1 := []) hP hD [0] [1, 2, 3, 4, 5, 6] rfl rfl (by decide) (by decide) hk1 hFc hP1 hD1
  generalize H1 = H at hP hS ⊢
  have hP : va_P (dC, dI) vwCl [(a2, .inl (y2, 16, .inr (.inl (fun _ => 0)))), (a8, .inl (y8, 32, .inr (.inl (fun _ => 0)))), (q1, .inr (7, [.int 0, .int 0, .ref b2, .int 0, .ref b4, .ref b5, .ref b6, .ref b7, .int 0, .ref b9, .ref b10, .ref b11, .ref b12, .ref b13])), (b2, .inl (z2, 16, .inr (.inl (fun _ => 0)))), (b10, .inl (z10, 32, .inr (.inl (fun _ => 0)))), (q2, .inl (yo, 1, .inr (.inl (fun _ => 0))))] H := hP
  have hD : va_D (fun q : Nat => s.heap.size ≤ q) [(a2, .inl (y2, 16, .inr (.inl (fun _ => 0)))), (a8, .inl (y8, 32, .inr (.inl (fun _ => 0)))), (q1, .inr (7, [.int 0, .int 0, .ref b2, .int 0, .ref b4, .ref b5, .ref b6, .ref b7, .int 0, .ref b9, .ref b10, .ref b11, .ref b12, .ref b13])), (b2, .inl (z2, 16, .inr (.inl (fun _ => 0)))), (b10, .inl (z10, 32, .inr (.inl (fun _ => 0)))), (q2, .inl (yo, 1, .inr (.inl (fun _ => 0))))] := hD
  subst hw
  refine lv_aload_n hx hb dL_law_1261 rfl (lv_at hl 2 rfl) ?_
  refine lv_aload_n hx hb dL_law_1262 rfl (lv_at hl 4 rfl) ?_
  refine lv_iload hx hb dL_law_1263 (lv_at hl 0 rfl) ?_
  refine lv_iconst (v := 1) hx hb dL_law_1265 (by decide) ?_
  refine lv_iadd hx hb dL_law_1266 ?_
  refine va_sld (i := (0 + 1 : Int32)) hx hb hX hbl hbA hS (by unfold vp_in; decide) dL_law_1267 ?_
  have hPc := hP.sub (ws' := [(q1, .inr (7, [.int 0, .int 0, .ref b2, .int 0, .ref b4, .ref b5, .ref b6, .ref b7, .int 0, .ref b9, .ref b10, .ref b11, .ref b12, .ref b13]))]) [2] rfl
  have hDc := hD.sub (ws' := [(q1, .inr (7, [.int 0, .int 0, .ref b2, .int 0, .ref b4, .ref b5, .ref b6, .ref b7, .int 0, .ref b9, .ref b10, .ref b11, .ref b12, .ref b13]))]) [2] (by decide) rfl
  have hKc := hK.sub (tys' := []) [] rfl
  have hFc := va_free (wc := [(q1, .inr (7, [.int 0, .int 0, .ref b2, .int 0, .ref b4, .ref b5, .ref b6, .ref b7, .int 0, .ref b9, .ref b10, .ref b11, .ref b12, .ref b13]))]) hD hS hA [2] rfl
  refine va_calli (va_runV (As := [.int (xs ((0 + 1 : Int32) : Int32).toNatClampNeg)]) (rest := [.int ((-1))]) ⟨hx, hb, hml, hown, hts⟩ (mt_X5_choose l dC dI H.size q1 b2 b4 b5 b6 b7 b9 b10 b11 b12 b13 0 (xs ((0 + 1 : Int32) : Int32).toNatClampNeg)) (cwV 1 hts gm_L_law_X5_choose rfl rfl rfl (by decide +kernel) ⟨Nat.le_of_ble_eq_true rfl, Nat.le_of_ble_eq_true rfl⟩) ⟨fun a U g mk q => by obtain ⟨q0, q1, qP, qK, qD⟩ := q; exact ⟨q0, q1, qP, va_K.moved (u := U) (U := U.calling g mk a) (Vm.Alike.refl U.vm) qK, qD⟩, va_recv hKc hPc (ci := 7) (q0 := 0) rfl rfl, fun U hU hW => ⟨rfl, by rw [hU], by rw [hU]; exact hPc, va_K.moved hW.alike hKc, hDc.weaken (fun _ _ _ _ => trivial)⟩⟩ rfl rfl hl.1 rfl (lv_room (Nat.le_of_ble_eq_true rfl)) dL_law_1268 ⟨Nat.le_of_ble_eq_true rfl, Nat.le_of_ble_eq_true rfl⟩) hS (fun q _ h => hFc q h) hFc (fun r_2 u t H1 locs ht hvm hw hB hz1 hk1 hS => ?_)
  obtain ⟨hP1, hK1, hD1⟩ := hB
  rw [ht] at hP1
  have hK1 := va_K.moved hvm.symm hK1
  obtain ⟨hP, hD⟩ := va_join (wr := [(a2, .inl (y2, 16, .inr (.inl (fun _ => 0)))), (a8, .inl (y8, 32, .inr (.inl (fun _ => 0)))), (b2, .inl (z2, 16, .inr (.inl (fun _ => 0)))), (b10, .inl (z10, 32, .inr (.inl (fun _ => 0)))), (q2, .inl (yo, 1, .inr (.inl (fun _ => 0))))]) (w1 := []) hP hD [2] [0, 1, 3, 4, 5] rfl rfl (by decide) (by decide) hk1 hFc hP1 hD1
  generalize H1 = H at hP hS ⊢
  have hP : va_P (dC, dI) vwCl [(a2, .inl (y2, 16, .inr (.inl (fun _ => 0)))), (a8, .inl (y8, 32, .inr (.inl (fun _ => 0)))), (b2, .inl (z2, 16, .inr (.inl (fun _ => 0)))), (b10, .inl (z10, 32, .inr (.inl (fun _ => 0)))), (q2, .inl (yo, 1, .inr (.inl (fun _ => 0))))] H := hP
  have hD : va_D (fun q : Nat => s.heap.size ≤ q) [(a2, .inl (y2, 16, .inr (.inl (fun _ => 0)))), (a8, .inl (y8, 32, .inr (.inl (fun _ => 0)))), (b2, .inl (z2, 16, .inr (.inl (fun _ => 0)))), (b10, .inl (z10, 32, .inr (.inl (fun _ => 0)))), (q2, .inl (yo, 1, .inr (.inl (fun _ => 0))))] := hD
  subst hw
  refine lv_icmp_eq (tgt := 1423) hx hb dL_law_1271 (by decide) (fun c_3 => ?_) (fun c_3 => absurd c_3 (by decide))
  exact law_end l hd0 C0 31 654 (Nat.le_of_ble_eq_true rfl) (Nat.le_of_ble_eq_true rfl) hS (lv_sub hl [0, 4] rfl)
set_option maxHeartbeats 4000000 in
set_option maxRecDepth 100000 in
theorem law_22 {p : Program} {e : Env} {s : State} {m : MethodId} {below : List Frame} {meth : Method} {c : Code} (l : Launch) (hst : l.stackTraces = false) {b : Nat} {xs : Nat → Int32} {d0 : Drawn} (hd0 : s.drawn.sameBut d0 lw_cs) (C0 : lw_At p s m meth c b 5 xs) (dC : Nat → ClassId) (dI : Nat → Nat → Nat) (q0 a0 a1 a2 a4 a6 a8 q1 b2 b4 b5 b6 b7 b9 b10 b11 b12 b13 q2 : Nat) (y2 y8 z2 z10 yo : ClassId) {H : Heap} {locs : List Loc} (hK : va_K (dC, dI) vwCl [(y2, .long), (y8, .long), (z2, .long), (z10, .long), (yo, .long)] (s.setDrawn d0)) (hP : va_P (dC, dI) vwCl [(q0, .inr (6, [.ref a0, .ref a1, .ref a2, .int 0, .ref a4, .int 0, .ref a6, .int 0, .ref a8])), (a2, .inl (y2, 16, .inr (.inl (fun _ => 0)))), (a8, .inl (y8, 32, .inr (.inl (fun _ => 0)))), (q1, .inr (7, [.int 0, .int 0, .ref b2, .int 0, .ref b4, .ref b5, .ref b6, .ref b7, .int 0, .ref b9, .ref b10, .ref b11, .ref b12, .ref b13])), (b2, .inl (z2, 16, .inr (.inl (fun _ => 0)))), (b10, .inl (z10, 32, .inr (.inl (fun _ => 0)))), (q2, .inl (yo, 1, .inr (.inl (fun _ => 0))))] H) (hD : va_D (fun q : Nat => s.heap.size ≤ q) [(q0, .inr (6, [.ref a0, .ref a1, .ref a2, .int 0, .ref a4, .int 0, .ref a6, .int 0, .ref a8])), (a2, .inl (y2, 16, .inr (.inl (fun _ => 0)))), (a8, .inl (y8, 32, .inr (.inl (fun _ => 0)))), (q1, .inr (7, [.int 0, .int 0, .ref b2, .int 0, .ref b4, .ref b5, .ref b6, .ref b7, .int 0, .ref b9, .ref b10, .ref b11, .ref b12, .ref b13])), (b2, .inl (z2, 16, .inr (.inl (fun _ => 0)))), (b10, .inl (z10, 32, .inr (.inl (fun _ => 0)))), (q2, .inl (yo, 1, .inr (.inl (fun _ => 0))))]) (hS : va_S (fun q : Nat => s.heap.size ≤ q) s.heap H locs) {ls : Array Slot} (hl : lv_has ls 9 [(4, .int 0), (3, .ref q2), (2, .ref q1), (1, .ref q0), (0, .ref b)]) : W p l e room_1 (s.setDrawn d0) m #[Value.ref b] below meth c H locs 31 654 (lw_Z below #[Value.ref b] s) (F0 m 1276 ls []) := by
  obtain ⟨hx, hb, hr, hml, hown, hts0, hX, hbl, hlocks, hgv⟩ := id C0
  have htsT := dr_words hts0 d0
  have hts := htsT
  have hown : (s.setDrawn d0).vm.findClass RL = some m.cls := hown
  have hA : ∀ q : Nat, s.heap.size ≤ q → (fun q : Nat => s.heap.size ≤ q) q := fun _ h => h
  have hbA : ¬ (fun q : Nat => s.heap.size ≤ q) b := Nat.not_le.mpr hbl
  have hX : va_X b _ xs (s.setDrawn d0) s.heap := hX
  refine lv_aload_n hx hb dL_law_1276 rfl (lv_at hl 3 rfl) ?_
  refine lv_aload_n hx hb dL_law_1277 rfl (lv_at hl 4 rfl) ?_
  refine lv_iload hx hb dL_law_1278 (lv_at hl 0 rfl) ?_
  refine lv_iconst (v := 1) hx hb dL_law_1280 (by decide) ?_
  refine lv_iadd hx hb dL_law_1281 ?_
  refine va_sld (i := (0 + 1 : Int32)) hx hb hX hbl hbA hS (by unfold vp_in; decide) dL_law_1282 ?_
  refine lv_aload_n hx hb dL_law_1283 rfl (lv_at hl 4 rfl) ?_
  refine lv_iload hx hb dL_law_1284 (lv_at hl 0 rfl) ?_
  refine lv_iconst (v := 2) hx hb dL_law_1286 (by decide) ?_
  refine lv_iadd hx hb dL_law_1287 ?_
  refine va_sld (i := (0 + 2 : Int32)) hx hb hX hbl hbA hS (by unfold vp_in; decide) dL_law_1288 ?_
  refine lv_aload_n hx hb dL_law_1289 rfl (lv_at hl 4 rfl) ?_
  refine lv_iload hx hb dL_law_1290 (lv_at hl 0 rfl) ?_
  refine lv_iconst (v := 3) hx hb dL_law_1292 (by decide) ?_
  refine lv_iadd hx hb dL_law_1293 ?_
  refine va_sld (i := (0 + 3 : Int32)) hx hb hX hbl hbA hS (by unfold vp_in; decide) dL_law_1294 ?_
  refine lv_aload_n hx hb dL_law_1295 rfl (lv_at hl 4 rfl) ?_
  refine lv_iload hx hb dL_law_1296 (lv_at hl 0 rfl) ?_
  refine lv_iconst (v := 4) hx hb dL_law_1298 (by decide) ?_
  refine lv_iadd hx hb dL_law_1299 ?_
  refine va_sld (i := (0 + 4 : Int32)) hx hb hX hbl hbA hS (by unfold vp_in; decide) dL_law_1300 ?_
  have hPc := hP.sub (ws' := [(q0, .inr (6, [.ref a0, .ref a1, .ref a2, .int 0, .ref a4, .int 0, .ref a6, .int 0, .ref a8]))]) [0] rfl
  have hDc := hD.sub (ws' := [(q0, .inr (6, [.ref a0, .ref a1, .ref a2, .int 0, .ref a4, .int 0, .ref a6, .int 0, .ref a8]))]) [0] (by decide) rfl
  have hKc := hK.sub (tys' := []) [] rfl
  have hFc := va_free (wc := [(q0, .inr (6, [.ref a0, .ref a1, .ref a2, .int 0, .ref a4, .int 0, .ref a6, .int 0, .ref a8]))]) hD hS hA [0] rfl
  refine va_calli (va_runV (As := [.int (xs ((0 + 1 : Int32) : Int32).toNatClampNeg), .int (xs ((0 + 2 : Int32) : Int32).toNatClampNeg), .int (xs ((0 + 3 : Int32) : Int32).toNatClampNeg), .int (xs ((0 + 4 : Int32) : Int32).toNatClampNeg)]) (rest := []) ⟨hx, hb, hml, hown, hts⟩ (mt_X4_secret l dC dI H.size q0 a0 a1 a2 a4 a6 a8 (xs ((0 + 1 : Int32) : Int32).toNatClampNeg) (xs ((0 + 2 : Int32) : Int32).toNatClampNeg) (xs ((0 + 3 : Int32) : Int32).toNatClampNeg) (xs ((0 + 4 : Int32) : Int32).toNatClampNeg)) (cwV 4 hts gm_L_law_X4_secret rfl rfl rfl (by decide +kernel) ⟨Nat.le_of_ble_eq_true rfl, Nat.le_of_ble_eq_true rfl⟩) ⟨fun a U g mk q => by obtain ⟨q0, q1, qP, qK, qD⟩ := q; exact ⟨q0, q1, qP, va_K.moved (u := U) (U := U.calling g mk a) (Vm.Alike.refl U.vm) qK, qD⟩, va_recv hKc hPc (ci := 6) (q0 := 0) rfl rfl, fun U hU hW => ⟨rfl, by rw [hU], by rw [hU]; exact hPc, va_K.moved hW.alike hKc, hDc.weaken (fun _ _ _ _ => trivial)⟩⟩ rfl rfl hl.1 rfl (lv_room (Nat.le_of_ble_eq_true rfl)) dL_law_1301 ⟨Nat.le_of_ble_eq_true rfl, Nat.le_of_ble_eq_true rfl⟩) hS (fun q _ h => hFc q h) hFc (fun r_1 u t H1 locs ht hvm hw hB hz1 hk1 hS => ?_)
  obtain ⟨hP1, hK1, hD1⟩ := hB
  rw [ht] at hP1
  have hK1 := va_K.moved hvm.symm hK1
  obtain ⟨hP, hD⟩ := va_join (wr := [(a2, .inl (y2, 16, .inr (.inl (fun _ => 0)))), (a8, .inl (y8, 32, .inr (.inl (fun _ => 0)))), (q1, .inr (7, [.int 0, .int 0, .ref b2, .int 0, .ref b4, .ref b5, .ref b6, .ref b7, .int 0, .ref b9, .ref b10, .ref b11, .ref b12, .ref b13])), (b2, .inl (z2, 16, .inr (.inl (fun _ => 0)))), (b10, .inl (z10, 32, .inr (.inl (fun _ => 0)))), (q2, .inl (yo, 1, .inr (.inl (fun _ => 0))))]) (w1 := []) hP hD [0] [1, 2, 3, 4, 5, 6] rfl rfl (by decide) (by decide) hk1 hFc hP1 hD1
  generalize H1 = H at hP hS ⊢
  have hP : va_P (dC, dI) vwCl [(a2, .inl (y2, 16, .inr (.inl (fun _ => 0)))), (a8, .inl (y8, 32, .inr (.inl (fun _ => 0)))), (q1, .inr (7, [.int 0, .int 0, .ref b2, .int 0, .ref b4, .ref b5, .ref b6, .ref b7, .int 0, .ref b9, .ref b10, .ref b11, .ref b12, .ref b13])), (b2, .inl (z2, 16, .inr (.inl (fun _ => 0)))), (b10, .inl (z10, 32, .inr (.inl (fun _ => 0)))), (q2, .inl (yo, 1, .inr (.inl (fun _ => 0))))] H := hP
  have hD : va_D (fun q : Nat => s.heap.size ≤ q) [(a2, .inl (y2, 16, .inr (.inl (fun _ => 0)))), (a8, .inl (y8, 32, .inr (.inl (fun _ => 0)))), (q1, .inr (7, [.int 0, .int 0, .ref b2, .int 0, .ref b4, .ref b5, .ref b6, .ref b7, .int 0, .ref b9, .ref b10, .ref b11, .ref b12, .ref b13])), (b2, .inl (z2, 16, .inr (.inl (fun _ => 0)))), (b10, .inl (z10, 32, .inr (.inl (fun _ => 0)))), (q2, .inl (yo, 1, .inr (.inl (fun _ => 0))))] := hD
  subst hw
  refine lv_aload_n hx hb dL_law_1304 rfl (lv_at hl 2 rfl) ?_
  refine lv_aload_n hx hb dL_law_1305 rfl (lv_at hl 4 rfl) ?_
  refine lv_iload hx hb dL_law_1306 (lv_at hl 0 rfl) ?_
  refine lv_iconst (v := 1) hx hb dL_law_1308 (by decide) ?_
  refine lv_iadd hx hb dL_law_1309 ?_
  refine va_sld (i := (0 + 1 : Int32)) hx hb hX hbl hbA hS (by unfold vp_in; decide) dL_law_1310 ?_
  refine lv_aload_n hx hb dL_law_1311 rfl (lv_at hl 4 rfl) ?_
  refine lv_iload hx hb dL_law_1312 (lv_at hl 0 rfl) ?_
  refine lv_iconst (v := 2) hx hb dL_law_1314 (by decide) ?_
  refine lv_iadd hx hb dL_law_1315 ?_
  refine va_sld (i := (0 + 2 : Int32)) hx hb hX hbl hbA hS (by unfold vp_in; decide) dL_law_1316 ?_
  refine lv_aload_n hx hb dL_law_1317 rfl (lv_at hl 4 rfl) ?_
  refine lv_iload hx hb dL_law_1318 (lv_at hl 0 rfl) ?_
  refine lv_iconst (v := 3) hx hb dL_law_1320 (by decide) ?_
  refine lv_iadd hx hb dL_law_1321 ?_
  refine va_sld (i := (0 + 3 : Int32)) hx hb hX hbl hbA hS (by unfold vp_in; decide) dL_law_1322 ?_
  refine lv_aload_n hx hb dL_law_1323 rfl (lv_at hl 4 rfl) ?_
  refine lv_iload hx hb dL_law_1324 (lv_at hl 0 rfl) ?_
  refine lv_iconst (v := 4) hx hb dL_law_1326 (by decide) ?_
  refine lv_iadd hx hb dL_law_1327 ?_
  refine va_sld (i := (0 + 4 : Int32)) hx hb hX hbl hbA hS (by unfold vp_in; decide) dL_law_1328 ?_
  have hPc := hP.sub (ws' := [(q1, .inr (7, [.int 0, .int 0, .ref b2, .int 0, .ref b4, .ref b5, .ref b6, .ref b7, .int 0, .ref b9, .ref b10, .ref b11, .ref b12, .ref b13]))]) [2] rfl
  have hDc := hD.sub (ws' := [(q1, .inr (7, [.int 0, .int 0, .ref b2, .int 0, .ref b4, .ref b5, .ref b6, .ref b7, .int 0, .ref b9, .ref b10, .ref b11, .ref b12, .ref b13]))]) [2] (by decide) rfl
  have hKc := hK.sub (tys' := []) [] rfl
  have hFc := va_free (wc := [(q1, .inr (7, [.int 0, .int 0, .ref b2, .int 0, .ref b4, .ref b5, .ref b6, .ref b7, .int 0, .ref b9, .ref b10, .ref b11, .ref b12, .ref b13]))]) hD hS hA [2] rfl
  refine va_calli (va_runV (As := [.int (xs ((0 + 1 : Int32) : Int32).toNatClampNeg), .int (xs ((0 + 2 : Int32) : Int32).toNatClampNeg), .int (xs ((0 + 3 : Int32) : Int32).toNatClampNeg), .int (xs ((0 + 4 : Int32) : Int32).toNatClampNeg)]) (rest := [.int ((-1))]) ⟨hx, hb, hml, hown, hts⟩ (mt_X5_secret l dC dI H.size q1 b2 b4 b5 b6 b7 b9 b10 b11 b12 b13 0 (xs ((0 + 1 : Int32) : Int32).toNatClampNeg) (xs ((0 + 2 : Int32) : Int32).toNatClampNeg) (xs ((0 + 3 : Int32) : Int32).toNatClampNeg) (xs ((0 + 4 : Int32) : Int32).toNatClampNeg)) (cwV 4 hts gm_L_law_X5_secret rfl rfl rfl (by decide +kernel) ⟨Nat.le_of_ble_eq_true rfl, Nat.le_of_ble_eq_true rfl⟩) ⟨fun a U g mk q => by obtain ⟨q0, q1, qP, qK, qD⟩ := q; exact ⟨q0, q1, qP, va_K.moved (u := U) (U := U.calling g mk a) (Vm.Alike.refl U.vm) qK, qD⟩, va_recv hKc hPc (ci := 7) (q0 := 0) rfl rfl, fun U hU hW => ⟨rfl, by rw [hU], by rw [hU]; exact hPc, va_K.moved hW.alike hKc, hDc.weaken (fun _ _ _ _ => trivial)⟩⟩ rfl rfl hl.1 rfl (lv_room (Nat.le_of_ble_eq_true rfl)) dL_law_1329 ⟨Nat.le_of_ble_eq_true rfl, Nat.le_of_ble_eq_true rfl⟩) hS (fun q _ h => hFc q h) hFc (fun r_2 u t H1 locs ht hvm hw hB hz1 hk1 hS => ?_)
  obtain ⟨hP1, hK1, hD1⟩ := hB
  rw [ht] at hP1
  have hK1 := va_K.moved hvm.symm hK1
  obtain ⟨hP, hD⟩ := va_join (wr := [(a2, .inl (y2, 16, .inr (.inl (fun _ => 0)))), (a8, .inl (y8, 32, .inr (.inl (fun _ => 0)))), (b2, .inl (z2, 16, .inr (.inl (fun _ => 0)))), (b10, .inl (z10, 32, .inr (.inl (fun _ => 0)))), (q2, .inl (yo, 1, .inr (.inl (fun _ => 0))))]) (w1 := []) hP hD [2] [0, 1, 3, 4, 5] rfl rfl (by decide) (by decide) hk1 hFc hP1 hD1
  generalize H1 = H at hP hS ⊢
  have hP : va_P (dC, dI) vwCl [(a2, .inl (y2, 16, .inr (.inl (fun _ => 0)))), (a8, .inl (y8, 32, .inr (.inl (fun _ => 0)))), (b2, .inl (z2, 16, .inr (.inl (fun _ => 0)))), (b10, .inl (z10, 32, .inr (.inl (fun _ => 0)))), (q2, .inl (yo, 1, .inr (.inl (fun _ => 0))))] H := hP
  have hD : va_D (fun q : Nat => s.heap.size ≤ q) [(a2, .inl (y2, 16, .inr (.inl (fun _ => 0)))), (a8, .inl (y8, 32, .inr (.inl (fun _ => 0)))), (b2, .inl (z2, 16, .inr (.inl (fun _ => 0)))), (b10, .inl (z10, 32, .inr (.inl (fun _ => 0)))), (q2, .inl (yo, 1, .inr (.inl (fun _ => 0))))] := hD
  subst hw
  refine lv_icmp_eq (tgt := 1423) hx hb dL_law_1332 (by decide) (fun c_3 => ?_) (fun c_3 => absurd c_3 (by decide))
  exact law_end l hd0 C0 31 654 (Nat.le_of_ble_eq_true rfl) (Nat.le_of_ble_eq_true rfl) hS (lv_sub hl [0, 4] rfl)
set_option maxHeartbeats 4000000 in
set_option maxRecDepth 100000 in
theorem law_23 {p : Program} {e : Env} {s : State} {m : MethodId} {below : List Frame} {meth : Method} {c : Code} (l : Launch) (hst : l.stackTraces = false) {b : Nat} {xs : Nat → Int32} {d0 : Drawn} (hd0 : s.drawn.sameBut d0 lw_cs) (C0 : lw_At p s m meth c b 5 xs) (dC : Nat → ClassId) (dI : Nat → Nat → Nat) (q0 a0 a1 a2 a4 a6 a8 q1 b2 b4 b5 b6 b7 b9 b10 b11 b12 b13 q2 : Nat) (y2 y8 z2 z10 yo : ClassId) {H : Heap} {locs : List Loc} (hK : va_K (dC, dI) vwCl [(y2, .long), (y8, .long), (z2, .long), (z10, .long), (yo, .long)] (s.setDrawn d0)) (hP : va_P (dC, dI) vwCl [(q0, .inr (6, [.ref a0, .ref a1, .ref a2, .int 0, .ref a4, .int 0, .ref a6, .int 0, .ref a8])), (a2, .inl (y2, 16, .inr (.inl (fun _ => 0)))), (a8, .inl (y8, 32, .inr (.inl (fun _ => 0)))), (q1, .inr (7, [.int 0, .int 0, .ref b2, .int 0, .ref b4, .ref b5, .ref b6, .ref b7, .int 0, .ref b9, .ref b10, .ref b11, .ref b12, .ref b13])), (b2, .inl (z2, 16, .inr (.inl (fun _ => 0)))), (b10, .inl (z10, 32, .inr (.inl (fun _ => 0)))), (q2, .inl (yo, 1, .inr (.inl (fun _ => 0))))] H) (hD : va_D (fun q : Nat => s.heap.size ≤ q) [(q0, .inr (6, [.ref a0, .ref a1, .ref a2, .int 0, .ref a4, .int 0, .ref a6, .int 0, .ref a8])), (a2, .inl (y2, 16, .inr (.inl (fun _ => 0)))), (a8, .inl (y8, 32, .inr (.inl (fun _ => 0)))), (q1, .inr (7, [.int 0, .int 0, .ref b2, .int 0, .ref b4, .ref b5, .ref b6, .ref b7, .int 0, .ref b9, .ref b10, .ref b11, .ref b12, .ref b13])), (b2, .inl (z2, 16, .inr (.inl (fun _ => 0)))), (b10, .inl (z10, 32, .inr (.inl (fun _ => 0)))), (q2, .inl (yo, 1, .inr (.inl (fun _ => 0))))]) (hS : va_S (fun q : Nat => s.heap.size ≤ q) s.heap H locs) {ls : Array Slot} (hl : lv_has ls 9 [(4, .int 0), (3, .ref q2), (2, .ref q1), (1, .ref q0), (0, .ref b)]) : W p l e room_1 (s.setDrawn d0) m #[Value.ref b] below meth c H locs 31 654 (lw_Z below #[Value.ref b] s) (F0 m 1337 ls []) := by
  obtain ⟨hx, hb, hr, hml, hown, hts0, hX, hbl, hlocks, hgv⟩ := id C0
  have htsT := dr_words hts0 d0
  have hts := htsT
  have hown : (s.setDrawn d0).vm.findClass RL = some m.cls := hown
  have hA : ∀ q : Nat, s.heap.size ≤ q → (fun q : Nat => s.heap.size ≤ q) q := fun _ h => h
  have hbA : ¬ (fun q : Nat => s.heap.size ≤ q) b := Nat.not_le.mpr hbl
  have hX : va_X b _ xs (s.setDrawn d0) s.heap := hX
  refine lv_aload_n hx hb dL_law_1337 rfl (lv_at hl 3 rfl) ?_
  refine lv_aload_n hx hb dL_law_1338 rfl (lv_at hl 4 rfl) ?_
  refine lv_iload hx hb dL_law_1339 (lv_at hl 0 rfl) ?_
  refine lv_iconst (v := 1) hx hb dL_law_1341 (by decide) ?_
  refine lv_iadd hx hb dL_law_1342 ?_
  refine va_sld (i := (0 + 1 : Int32)) hx hb hX hbl hbA hS (by unfold vp_in; decide) dL_law_1343 ?_
  refine lv_aload_n hx hb dL_law_1344 rfl (lv_at hl 4 rfl) ?_
  refine lv_iload hx hb dL_law_1345 (lv_at hl 0 rfl) ?_
  refine lv_iconst (v := 2) hx hb dL_law_1347 (by decide) ?_
  refine lv_iadd hx hb dL_law_1348 ?_
  refine va_sld (i := (0 + 2 : Int32)) hx hb hX hbl hbA hS (by unfold vp_in; decide) dL_law_1349 ?_
  refine lv_aload_n hx hb dL_law_1350 rfl (lv_at hl 4 rfl) ?_
  refine lv_iload hx hb dL_law_1351 (lv_at hl 0 rfl) ?_
  refine lv_iconst (v := 3) hx hb dL_law_1353 (by decide) ?_
  refine lv_iadd hx hb dL_law_1354 ?_
  refine va_sld (i := (0 + 3 : Int32)) hx hb hX hbl hbA hS (by unfold vp_in; decide) dL_law_1355 ?_
  refine lv_aload_n hx hb dL_law_1356 rfl (lv_at hl 4 rfl) ?_
  refine lv_iload hx hb dL_law_1357 (lv_at hl 0 rfl) ?_
  refine lv_iconst (v := 4) hx hb dL_law_1359 (by decide) ?_
  refine lv_iadd hx hb dL_law_1360 ?_
  refine va_sld (i := (0 + 4 : Int32)) hx hb hX hbl hbA hS (by unfold vp_in; decide) dL_law_1361 ?_
  have hPc := hP.sub (ws' := [(q0, .inr (6, [.ref a0, .ref a1, .ref a2, .int 0, .ref a4, .int 0, .ref a6, .int 0, .ref a8]))]) [0] rfl
  have hDc := hD.sub (ws' := [(q0, .inr (6, [.ref a0, .ref a1, .ref a2, .int 0, .ref a4, .int 0, .ref a6, .int 0, .ref a8]))]) [0] (by decide) rfl
  have hKc := hK.sub (tys' := []) [] rfl
  have hFc := va_free (wc := [(q0, .inr (6, [.ref a0, .ref a1, .ref a2, .int 0, .ref a4, .int 0, .ref a6, .int 0, .ref a8]))]) hD hS hA [0] rfl
  refine va_calli (va_runV (As := [.int (xs ((0 + 1 : Int32) : Int32).toNatClampNeg), .int (xs ((0 + 2 : Int32) : Int32).toNatClampNeg), .int (xs ((0 + 3 : Int32) : Int32).toNatClampNeg), .int (xs ((0 + 4 : Int32) : Int32).toNatClampNeg)]) (rest := []) ⟨hx, hb, hml, hown, hts⟩ (mt_X4_back l dC dI H.size q0 a0 a1 a2 a4 a6 a8 (xs ((0 + 1 : Int32) : Int32).toNatClampNeg) (xs ((0 + 2 : Int32) : Int32).toNatClampNeg) (xs ((0 + 3 : Int32) : Int32).toNatClampNeg) (xs ((0 + 4 : Int32) : Int32).toNatClampNeg)) (cwV 4 hts gm_L_law_X4_back rfl rfl rfl (by decide +kernel) ⟨Nat.le_of_ble_eq_true rfl, Nat.le_of_ble_eq_true rfl⟩) ⟨fun a U g mk q => by obtain ⟨q0, q1, qP, qK, qD⟩ := q; exact ⟨q0, q1, qP, va_K.moved (u := U) (U := U.calling g mk a) (Vm.Alike.refl U.vm) qK, qD⟩, va_recv hKc hPc (ci := 6) (q0 := 0) rfl rfl, fun U hU hW => ⟨rfl, by rw [hU], by rw [hU]; exact hPc, va_K.moved hW.alike hKc, hDc.weaken (fun _ _ _ _ => trivial)⟩⟩ rfl rfl hl.1 rfl (lv_room (Nat.le_of_ble_eq_true rfl)) dL_law_1362 ⟨Nat.le_of_ble_eq_true rfl, Nat.le_of_ble_eq_true rfl⟩) hS (fun q _ h => hFc q h) hFc (fun r_1 u t H1 locs ht hvm hw hB hz1 hk1 hS => ?_)
  obtain ⟨hP1, hK1, hD1⟩ := hB
  rw [ht] at hP1
  have hK1 := va_K.moved hvm.symm hK1
  obtain ⟨hP, hD⟩ := va_join (wr := [(a2, .inl (y2, 16, .inr (.inl (fun _ => 0)))), (a8, .inl (y8, 32, .inr (.inl (fun _ => 0)))), (q1, .inr (7, [.int 0, .int 0, .ref b2, .int 0, .ref b4, .ref b5, .ref b6, .ref b7, .int 0, .ref b9, .ref b10, .ref b11, .ref b12, .ref b13])), (b2, .inl (z2, 16, .inr (.inl (fun _ => 0)))), (b10, .inl (z10, 32, .inr (.inl (fun _ => 0)))), (q2, .inl (yo, 1, .inr (.inl (fun _ => 0))))]) (w1 := []) hP hD [0] [1, 2, 3, 4, 5, 6] rfl rfl (by decide) (by decide) hk1 hFc hP1 hD1
  generalize H1 = H at hP hS ⊢
  have hP : va_P (dC, dI) vwCl [(a2, .inl (y2, 16, .inr (.inl (fun _ => 0)))), (a8, .inl (y8, 32, .inr (.inl (fun _ => 0)))), (q1, .inr (7, [.int 0, .int 0, .ref b2, .int 0, .ref b4, .ref b5, .ref b6, .ref b7, .int 0, .ref b9, .ref b10, .ref b11, .ref b12, .ref b13])), (b2, .inl (z2, 16, .inr (.inl (fun _ => 0)))), (b10, .inl (z10, 32, .inr (.inl (fun _ => 0)))), (q2, .inl (yo, 1, .inr (.inl (fun _ => 0))))] H := hP
  have hD : va_D (fun q : Nat => s.heap.size ≤ q) [(a2, .inl (y2, 16, .inr (.inl (fun _ => 0)))), (a8, .inl (y8, 32, .inr (.inl (fun _ => 0)))), (q1, .inr (7, [.int 0, .int 0, .ref b2, .int 0, .ref b4, .ref b5, .ref b6, .ref b7, .int 0, .ref b9, .ref b10, .ref b11, .ref b12, .ref b13])), (b2, .inl (z2, 16, .inr (.inl (fun _ => 0)))), (b10, .inl (z10, 32, .inr (.inl (fun _ => 0)))), (q2, .inl (yo, 1, .inr (.inl (fun _ => 0))))] := hD
  subst hw
  refine lv_aload_n hx hb dL_law_1365 rfl (lv_at hl 2 rfl) ?_
  refine lv_aload_n hx hb dL_law_1366 rfl (lv_at hl 4 rfl) ?_
  refine lv_iload hx hb dL_law_1367 (lv_at hl 0 rfl) ?_
  refine lv_iconst (v := 1) hx hb dL_law_1369 (by decide) ?_
  refine lv_iadd hx hb dL_law_1370 ?_
  refine va_sld (i := (0 + 1 : Int32)) hx hb hX hbl hbA hS (by unfold vp_in; decide) dL_law_1371 ?_
  refine lv_aload_n hx hb dL_law_1372 rfl (lv_at hl 4 rfl) ?_
  refine lv_iload hx hb dL_law_1373 (lv_at hl 0 rfl) ?_
  refine lv_iconst (v := 2) hx hb dL_law_1375 (by decide) ?_
  refine lv_iadd hx hb dL_law_1376 ?_
  refine va_sld (i := (0 + 2 : Int32)) hx hb hX hbl hbA hS (by unfold vp_in; decide) dL_law_1377 ?_
  refine lv_aload_n hx hb dL_law_1378 rfl (lv_at hl 4 rfl) ?_
  refine lv_iload hx hb dL_law_1379 (lv_at hl 0 rfl) ?_
  refine lv_iconst (v := 3) hx hb dL_law_1381 (by decide) ?_
  refine lv_iadd hx hb dL_law_1382 ?_
  refine va_sld (i := (0 + 3 : Int32)) hx hb hX hbl hbA hS (by unfold vp_in; decide) dL_law_1383 ?_
  refine lv_aload_n hx hb dL_law_1384 rfl (lv_at hl 4 rfl) ?_
  refine lv_iload hx hb dL_law_1385 (lv_at hl 0 rfl) ?_
  refine lv_iconst (v := 4) hx hb dL_law_1387 (by decide) ?_
  refine lv_iadd hx hb dL_law_1388 ?_
  refine va_sld (i := (0 + 4 : Int32)) hx hb hX hbl hbA hS (by unfold vp_in; decide) dL_law_1389 ?_
  have hPc := hP.sub (ws' := [(q1, .inr (7, [.int 0, .int 0, .ref b2, .int 0, .ref b4, .ref b5, .ref b6, .ref b7, .int 0, .ref b9, .ref b10, .ref b11, .ref b12, .ref b13]))]) [2] rfl
  have hDc := hD.sub (ws' := [(q1, .inr (7, [.int 0, .int 0, .ref b2, .int 0, .ref b4, .ref b5, .ref b6, .ref b7, .int 0, .ref b9, .ref b10, .ref b11, .ref b12, .ref b13]))]) [2] (by decide) rfl
  have hKc := hK.sub (tys' := []) [] rfl
  have hFc := va_free (wc := [(q1, .inr (7, [.int 0, .int 0, .ref b2, .int 0, .ref b4, .ref b5, .ref b6, .ref b7, .int 0, .ref b9, .ref b10, .ref b11, .ref b12, .ref b13]))]) hD hS hA [2] rfl
  refine va_calli (va_runV (As := [.int (xs ((0 + 1 : Int32) : Int32).toNatClampNeg), .int (xs ((0 + 2 : Int32) : Int32).toNatClampNeg), .int (xs ((0 + 3 : Int32) : Int32).toNatClampNeg), .int (xs ((0 + 4 : Int32) : Int32).toNatClampNeg)]) (rest := [.int ((-1))]) ⟨hx, hb, hml, hown, hts⟩ (mt_X5_back l dC dI H.size q1 b2 b4 b5 b6 b7 b9 b10 b11 b12 b13 0 (xs ((0 + 1 : Int32) : Int32).toNatClampNeg) (xs ((0 + 2 : Int32) : Int32).toNatClampNeg) (xs ((0 + 3 : Int32) : Int32).toNatClampNeg) (xs ((0 + 4 : Int32) : Int32).toNatClampNeg)) (cwV 4 hts gm_L_law_X5_back rfl rfl rfl (by decide +kernel) ⟨Nat.le_of_ble_eq_true rfl, Nat.le_of_ble_eq_true rfl⟩) ⟨fun a U g mk q => by obtain ⟨q0, q1, qP, qK, qD⟩ := q; exact ⟨q0, q1, qP, va_K.moved (u := U) (U := U.calling g mk a) (Vm.Alike.refl U.vm) qK, qD⟩, va_recv hKc hPc (ci := 7) (q0 := 0) rfl rfl, fun U hU hW => ⟨rfl, by rw [hU], by rw [hU]; exact hPc, va_K.moved hW.alike hKc, hDc.weaken (fun _ _ _ _ => trivial)⟩⟩ rfl rfl hl.1 rfl (lv_room (Nat.le_of_ble_eq_true rfl)) dL_law_1390 ⟨Nat.le_of_ble_eq_true rfl, Nat.le_of_ble_eq_true rfl⟩) hS (fun q _ h => hFc q h) hFc (fun r_2 u t H1 locs ht hvm hw hB hz1 hk1 hS => ?_)
  obtain ⟨hP1, hK1, hD1⟩ := hB
  rw [ht] at hP1
  have hK1 := va_K.moved hvm.symm hK1
  obtain ⟨hP, hD⟩ := va_join (wr := [(a2, .inl (y2, 16, .inr (.inl (fun _ => 0)))), (a8, .inl (y8, 32, .inr (.inl (fun _ => 0)))), (b2, .inl (z2, 16, .inr (.inl (fun _ => 0)))), (b10, .inl (z10, 32, .inr (.inl (fun _ => 0)))), (q2, .inl (yo, 1, .inr (.inl (fun _ => 0))))]) (w1 := []) hP hD [2] [0, 1, 3, 4, 5] rfl rfl (by decide) (by decide) hk1 hFc hP1 hD1
  generalize H1 = H at hP hS ⊢
  have hP : va_P (dC, dI) vwCl [(a2, .inl (y2, 16, .inr (.inl (fun _ => 0)))), (a8, .inl (y8, 32, .inr (.inl (fun _ => 0)))), (b2, .inl (z2, 16, .inr (.inl (fun _ => 0)))), (b10, .inl (z10, 32, .inr (.inl (fun _ => 0)))), (q2, .inl (yo, 1, .inr (.inl (fun _ => 0))))] H := hP
  have hD : va_D (fun q : Nat => s.heap.size ≤ q) [(a2, .inl (y2, 16, .inr (.inl (fun _ => 0)))), (a8, .inl (y8, 32, .inr (.inl (fun _ => 0)))), (b2, .inl (z2, 16, .inr (.inl (fun _ => 0)))), (b10, .inl (z10, 32, .inr (.inl (fun _ => 0)))), (q2, .inl (yo, 1, .inr (.inl (fun _ => 0))))] := hD
  subst hw
  refine lv_icmp_eq (tgt := 1423) hx hb dL_law_1393 (by decide) (fun c_3 => ?_) (fun c_3 => absurd c_3 (by decide))
  exact law_end l hd0 C0 31 654 (Nat.le_of_ble_eq_true rfl) (Nat.le_of_ble_eq_true rfl) hS (lv_sub hl [0, 4] rfl)
set_option maxHeartbeats 4000000 in
set_option maxRecDepth 100000 in
theorem law_24 {p : Program} {e : Env} {s : State} {m : MethodId} {below : List Frame} {meth : Method} {c : Code} (l : Launch) (hst : l.stackTraces = false) {b : Nat} {xs : Nat → Int32} {d0 : Drawn} (hd0 : s.drawn.sameBut d0 lw_cs) (C0 : lw_At p s m meth c b 5 xs) (dC : Nat → ClassId) (dI : Nat → Nat → Nat) (q0 a0 a1 a2 a4 a6 a8 q1 b2 b4 b5 b6 b7 b9 b10 b11 b12 b13 q2 : Nat) (y2 y8 z2 z10 yo : ClassId) {H : Heap} {locs : List Loc} (hK : va_K (dC, dI) vwCl [(y2, .long), (y8, .long), (z2, .long), (z10, .long), (yo, .long)] (s.setDrawn d0)) (hP : va_P (dC, dI) vwCl [(q0, .inr (6, [.ref a0, .ref a1, .ref a2, .int 0, .ref a4, .int 0, .ref a6, .int 0, .ref a8])), (a2, .inl (y2, 16, .inr (.inl (fun _ => 0)))), (a8, .inl (y8, 32, .inr (.inl (fun _ => 0)))), (q1, .inr (7, [.int 0, .int 0, .ref b2, .int 0, .ref b4, .ref b5, .ref b6, .ref b7, .int 0, .ref b9, .ref b10, .ref b11, .ref b12, .ref b13])), (b2, .inl (z2, 16, .inr (.inl (fun _ => 0)))), (b10, .inl (z10, 32, .inr (.inl (fun _ => 0)))), (q2, .inl (yo, 1, .inr (.inl (fun _ => 0))))] H) (hD : va_D (fun q : Nat => s.heap.size ≤ q) [(q0, .inr (6, [.ref a0, .ref a1, .ref a2, .int 0, .ref a4, .int 0, .ref a6, .int 0, .ref a8])), (a2, .inl (y2, 16, .inr (.inl (fun _ => 0)))), (a8, .inl (y8, 32, .inr (.inl (fun _ => 0)))), (q1, .inr (7, [.int 0, .int 0, .ref b2, .int 0, .ref b4, .ref b5, .ref b6, .ref b7, .int 0, .ref b9, .ref b10, .ref b11, .ref b12, .ref b13])), (b2, .inl (z2, 16, .inr (.inl (fun _ => 0)))), (b10, .inl (z10, 32, .inr (.inl (fun _ => 0)))), (q2, .inl (yo, 1, .inr (.inl (fun _ => 0))))]) (hS : va_S (fun q : Nat => s.heap.size ≤ q) s.heap H locs) {ls : Array Slot} (hl : lv_has ls 9 [(4, .int 0), (3, .ref q2), (2, .ref q1), (1, .ref q0), (0, .ref b)]) : W p l e room_1 (s.setDrawn d0) m #[Value.ref b] below meth c H locs 31 654 (lw_Z below #[Value.ref b] s) (F0 m 1398 ls []) := by
  obtain ⟨hx, hb, hr, hml, hown, hts0, hX, hbl, hlocks, hgv⟩ := id C0
  have htsT := dr_words hts0 d0
  have hts := htsT
  have hown : (s.setDrawn d0).vm.findClass RL = some m.cls := hown
  have hA : ∀ q : Nat, s.heap.size ≤ q → (fun q : Nat => s.heap.size ≤ q) q := fun _ h => h
  have hbA : ¬ (fun q : Nat => s.heap.size ≤ q) b := Nat.not_le.mpr hbl
  have hX : va_X b _ xs (s.setDrawn d0) s.heap := hX
  refine lv_aload_n hx hb dL_law_1398 rfl (lv_at hl 3 rfl) ?_
  refine lv_aload_n hx hb dL_law_1399 rfl (lv_at hl 4 rfl) ?_
  refine lv_iload hx hb dL_law_1400 (lv_at hl 0 rfl) ?_
  refine lv_iconst (v := 1) hx hb dL_law_1402 (by decide) ?_
  refine lv_iadd hx hb dL_law_1403 ?_
  refine va_sld (i := (0 + 1 : Int32)) hx hb hX hbl hbA hS (by unfold vp_in; decide) dL_law_1404 ?_
  have hPc := hP.sub (ws' := [(q0, .inr (6, [.ref a0, .ref a1, .ref a2, .int 0, .ref a4, .int 0, .ref a6, .int 0, .ref a8]))]) [0] rfl
  have hDc := hD.sub (ws' := [(q0, .inr (6, [.ref a0, .ref a1, .ref a2, .int 0, .ref a4, .int 0, .ref a6, .int 0, .ref a8]))]) [0] (by decide) rfl
  have hKc := hK.sub (tys' := []) [] rfl
  have hFc := va_free (wc := [(q0, .inr (6, [.ref a0, .ref a1, .ref a2, .int 0, .ref a4, .int 0, .ref a6, .int 0, .ref a8]))]) hD hS hA [0] rfl
  refine va_calli (va_runV (As := [.int (xs ((0 + 1 : Int32) : Int32).toNatClampNeg)]) (rest := []) ⟨hx, hb, hml, hown, hts⟩ (mt_X4_count l dC dI H.size q0 a0 a1 a2 a4 a6 a8 (xs ((0 + 1 : Int32) : Int32).toNatClampNeg)) (cwV 1 hts gm_L_law_X4_count rfl rfl rfl (by decide +kernel) ⟨Nat.le_of_ble_eq_true rfl, Nat.le_of_ble_eq_true rfl⟩) ⟨fun a U g mk q => by obtain ⟨q0, q1, qP, qK, qD⟩ := q; exact ⟨q0, q1, qP, va_K.moved (u := U) (U := U.calling g mk a) (Vm.Alike.refl U.vm) qK, qD⟩, va_recv hKc hPc (ci := 6) (q0 := 0) rfl rfl, fun U hU hW => ⟨rfl, by rw [hU], by rw [hU]; exact hPc, va_K.moved hW.alike hKc, hDc.weaken (fun _ _ _ _ => trivial)⟩⟩ rfl rfl hl.1 rfl (lv_room (Nat.le_of_ble_eq_true rfl)) dL_law_1405 ⟨Nat.le_of_ble_eq_true rfl, Nat.le_of_ble_eq_true rfl⟩) hS (fun q _ h => hFc q h) hFc (fun r_1 u t H1 locs ht hvm hw hB hz1 hk1 hS => ?_)
  obtain ⟨hP1, hK1, hD1⟩ := hB
  rw [ht] at hP1
  have hK1 := va_K.moved hvm.symm hK1
  obtain ⟨hP, hD⟩ := va_join (wr := [(a2, .inl (y2, 16, .inr (.inl (fun _ => 0)))), (a8, .inl (y8, 32, .inr (.inl (fun _ => 0)))), (q1, .inr (7, [.int 0, .int 0, .ref b2, .int 0, .ref b4, .ref b5, .ref b6, .ref b7, .int 0, .ref b9, .ref b10, .ref b11, .ref b12, .ref b13])), (b2, .inl (z2, 16, .inr (.inl (fun _ => 0)))), (b10, .inl (z10, 32, .inr (.inl (fun _ => 0)))), (q2, .inl (yo, 1, .inr (.inl (fun _ => 0))))]) (w1 := []) hP hD [0] [1, 2, 3, 4, 5, 6] rfl rfl (by decide) (by decide) hk1 hFc hP1 hD1
  generalize H1 = H at hP hS ⊢
  have hP : va_P (dC, dI) vwCl [(a2, .inl (y2, 16, .inr (.inl (fun _ => 0)))), (a8, .inl (y8, 32, .inr (.inl (fun _ => 0)))), (q1, .inr (7, [.int 0, .int 0, .ref b2, .int 0, .ref b4, .ref b5, .ref b6, .ref b7, .int 0, .ref b9, .ref b10, .ref b11, .ref b12, .ref b13])), (b2, .inl (z2, 16, .inr (.inl (fun _ => 0)))), (b10, .inl (z10, 32, .inr (.inl (fun _ => 0)))), (q2, .inl (yo, 1, .inr (.inl (fun _ => 0))))] H := hP
  have hD : va_D (fun q : Nat => s.heap.size ≤ q) [(a2, .inl (y2, 16, .inr (.inl (fun _ => 0)))), (a8, .inl (y8, 32, .inr (.inl (fun _ => 0)))), (q1, .inr (7, [.int 0, .int 0, .ref b2, .int 0, .ref b4, .ref b5, .ref b6, .ref b7, .int 0, .ref b9, .ref b10, .ref b11, .ref b12, .ref b13])), (b2, .inl (z2, 16, .inr (.inl (fun _ => 0)))), (b10, .inl (z10, 32, .inr (.inl (fun _ => 0)))), (q2, .inl (yo, 1, .inr (.inl (fun _ => 0))))] := hD
  subst hw
  refine lv_aload_n hx hb dL_law_1408 rfl (lv_at hl 2 rfl) ?_
  refine lv_aload_n hx hb dL_law_1409 rfl (lv_at hl 4 rfl) ?_
  refine lv_iload hx hb dL_law_1410 (lv_at hl 0 rfl) ?_
  refine lv_iconst (v := 1) hx hb dL_law_1412 (by decide) ?_
  refine lv_iadd hx hb dL_law_1413 ?_
  refine va_sld (i := (0 + 1 : Int32)) hx hb hX hbl hbA hS (by unfold vp_in; decide) dL_law_1414 ?_
  have hPc := hP.sub (ws' := [(q1, .inr (7, [.int 0, .int 0, .ref b2, .int 0, .ref b4, .ref b5, .ref b6, .ref b7, .int 0, .ref b9, .ref b10, .ref b11, .ref b12, .ref b13]))]) [2] rfl
  have hDc := hD.sub (ws' := [(q1, .inr (7, [.int 0, .int 0, .ref b2, .int 0, .ref b4, .ref b5, .ref b6, .ref b7, .int 0, .ref b9, .ref b10, .ref b11, .ref b12, .ref b13]))]) [2] (by decide) rfl
  have hKc := hK.sub (tys' := []) [] rfl
  have hFc := va_free (wc := [(q1, .inr (7, [.int 0, .int 0, .ref b2, .int 0, .ref b4, .ref b5, .ref b6, .ref b7, .int 0, .ref b9, .ref b10, .ref b11, .ref b12, .ref b13]))]) hD hS hA [2] rfl
  refine va_calli (va_runV (As := [.int (xs ((0 + 1 : Int32) : Int32).toNatClampNeg)]) (rest := [.int ((cnt (xs ((0 + 1 : Int32) : Int32).toNatClampNeg)))]) ⟨hx, hb, hml, hown, hts⟩ (mt_X5_count l dC dI H.size q1 b2 b4 b5 b6 b7 b9 b10 b11 b12 b13 0 (xs ((0 + 1 : Int32) : Int32).toNatClampNeg)) (cwV 1 hts gm_L_law_X5_count rfl rfl rfl (by decide +kernel) ⟨Nat.le_of_ble_eq_true rfl, Nat.le_of_ble_eq_true rfl⟩) ⟨fun a U g mk q => by obtain ⟨q0, q1, qP, qK, qD⟩ := q; exact ⟨q0, q1, qP, va_K.moved (u := U) (U := U.calling g mk a) (Vm.Alike.refl U.vm) qK, qD⟩, va_recv hKc hPc (ci := 7) (q0 := 0) rfl rfl, fun U hU hW => ⟨rfl, by rw [hU], by rw [hU]; exact hPc, va_K.moved hW.alike hKc, hDc.weaken (fun _ _ _ _ => trivial)⟩⟩ rfl rfl hl.1 rfl (lv_room (Nat.le_of_ble_eq_true rfl)) dL_law_1415 ⟨Nat.le_of_ble_eq_true rfl, Nat.le_of_ble_eq_true rfl⟩) hS (fun q _ h => hFc q h) hFc (fun r_2 u t H1 locs ht hvm hw hB hz1 hk1 hS => ?_)
  obtain ⟨hP1, hK1, hD1⟩ := hB
  rw [ht] at hP1
  have hK1 := va_K.moved hvm.symm hK1
  obtain ⟨hP, hD⟩ := va_join (wr := [(a2, .inl (y2, 16, .inr (.inl (fun _ => 0)))), (a8, .inl (y8, 32, .inr (.inl (fun _ => 0)))), (b2, .inl (z2, 16, .inr (.inl (fun _ => 0)))), (b10, .inl (z10, 32, .inr (.inl (fun _ => 0)))), (q2, .inl (yo, 1, .inr (.inl (fun _ => 0))))]) (w1 := []) hP hD [2] [0, 1, 3, 4, 5] rfl rfl (by decide) (by decide) hk1 hFc hP1 hD1
  generalize H1 = H at hP hS ⊢
  have hP : va_P (dC, dI) vwCl [(a2, .inl (y2, 16, .inr (.inl (fun _ => 0)))), (a8, .inl (y8, 32, .inr (.inl (fun _ => 0)))), (b2, .inl (z2, 16, .inr (.inl (fun _ => 0)))), (b10, .inl (z10, 32, .inr (.inl (fun _ => 0)))), (q2, .inl (yo, 1, .inr (.inl (fun _ => 0))))] H := hP
  have hD : va_D (fun q : Nat => s.heap.size ≤ q) [(a2, .inl (y2, 16, .inr (.inl (fun _ => 0)))), (a8, .inl (y8, 32, .inr (.inl (fun _ => 0)))), (b2, .inl (z2, 16, .inr (.inl (fun _ => 0)))), (b10, .inl (z10, 32, .inr (.inl (fun _ => 0)))), (q2, .inl (yo, 1, .inr (.inl (fun _ => 0))))] := hD
  subst hw
  refine lv_icmp_eq (tgt := 1423) hx hb dL_law_1418 (by decide) (fun c_3 => ?_) (fun c_3 => absurd rfl c_3)
  exact law_end l hd0 C0 31 654 (Nat.le_of_ble_eq_true rfl) (Nat.le_of_ble_eq_true rfl) hS (lv_sub hl [0, 4] rfl)
