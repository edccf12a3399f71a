theorem gA_law_L_at : GoodIn lw_tbl (va_wsS RL 121 yL_at wsA_Lat) := goodIn_of _ (by decide +kernel)
set_option maxHeartbeats 4000000 in
set_option maxRecDepth 100000 in
theorem law_exit {p : Program} {e : Env} {s : State} {m : MethodId} {below : List Frame} {meth : Method} {c : Code} (l : Launch) {b L : Nat} {xs : Nat → Int32} {d0 : Drawn} (hd0 : s.drawn.sameBut d0 lw_cs) (C0 : lw_At p s m meth c b L xs) {H : Heap} {locs : List Loc} (k n : Nat) (hk : k ≤ 600006) (hn : n ≤ 7302072) (hS : va_S (fun q : Nat => s.heap.size ≤ q) s.heap H locs) {ls : Array Slot} : W p l e room_1 (s.setDrawn d0) m #[Value.ref b] below meth c H locs k n (lw_Z below #[Value.ref b] s) (F0 m 1429 ls []) := by
  obtain ⟨hx, hb, hr, hml, hown, hts0, hX, hbl, hlocks, hgv⟩ := id C0
  refine lv_iconst (v := 1) hx hb dL_law_1429 (by decide) ?_
  refine va_forget (fun q hq => hS.2.2 q hq) ?_
  refine W.widen (k := 600006) (n := 7302072) hk hn ?_
  exact lw_ret hd0 hx hb hr hlocks dL_law_1430
set_option maxHeartbeats 4000000 in
set_option maxRecDepth 100000 in
theorem law_end {p : Program} {e : Env} {s : State} {m : MethodId} {below : List Frame} {meth : Method} {c : Code} (l : Launch) {b : Nat} {xs : Nat → Int32} {d0 : Drawn} (hd0 : s.drawn.sameBut d0 lw_cs) (C0 : lw_At p s m meth c b 5 xs) {H : Heap} {locs : List Loc} (k n : Nat) (hk : k ≤ 600006) (hn : n ≤ 7302072) (hS : va_S (fun q : Nat => s.heap.size ≤ q) s.heap H locs) {ls : Array Slot} (hl : lv_has ls 9 [(4, .int 0), (0, .ref b)]) : W p l e room_1 (s.setDrawn d0) m #[Value.ref b] below meth c H locs k n (lw_Z below #[Value.ref b] s) (F0 m 1423 ls []) := by
  obtain ⟨hx, hb, hr, hml, hown, hts0, hX, hbl, hlocks, hgv⟩ := id C0
  have hbA : ¬ (fun q : Nat => s.heap.size ≤ q) b := Nat.not_le.mpr hbl
  have hX : va_X b _ xs (s.setDrawn d0) s.heap := hX
  refine lv_iinc (v := 5) (lv' := [(4, .int 5), (0, .ref b)]) hx hb dL_law_1423 hl (k := 0) rfl (by decide) (by decide) rfl (fun ls hl => ?_)
  refine lv_goto (tgt := 23) hx hb dL_law_1426 (by decide) ?_
  refine lv_iload hx hb dL_law_23 (lv_at hl 0 rfl) ?_
  refine lv_aload_n hx hb dL_law_25 rfl (lv_at hl 1 rfl) ?_
  refine va_slen hx hb hX hbl hbA hS dL_law_26 ?_
  refine lv_iconst (v := 5) hx hb dL_law_27 (by decide) ?_
  refine lv_isub hx hb dL_law_28 ?_
  exact lv_icmp_gt (tgt := 1429) hx hb dL_law_29 (by decide) (fun _ => law_exit l hd0 C0 k n hk hn hS) (fun c => absurd (by decide) c)
theorem inm_J0 : ∀ w ∈ u_ws RJ0 TJ0 2, w ∈ lw_tbl := by decide +kernel
theorem inm_Jx00060 : ∀ w ∈ u_ws RJx00060 TJx00060 6, w ∈ lw_tbl := by decide +kernel
theorem inm_X0 : ∀ w ∈ u_ws RX0 TX0 8, w ∈ lw_tbl := by decide +kernel
theorem inm_X1 : ∀ w ∈ u_ws RX1 TX1 2, w ∈ lw_tbl := by decide +kernel
theorem inm_X2 : ∀ w ∈ u_ws RX2 TX2 6, w ∈ lw_tbl := by decide +kernel
theorem inm_X3 : ∀ w ∈ u_ws RX3 TX3 6, w ∈ lw_tbl := by decide +kernel
theorem inm_X4 : ∀ w ∈ u_ws RX4 TX4 9, w ∈ lw_tbl := by decide +kernel
theorem inm_X5 : ∀ w ∈ u_ws RX5 TX5 14, w ∈ lw_tbl := by decide +kernel
theorem lt_five : ∀ L : Nat, L < 5 → Int32.ofNat L - 5 < 0 := by decide
theorem tw_9 : Cond.methodLinkNest RX4 9 yX0_init RX4 ∈ lw_tbl := by decide +kernel
theorem tw_18 : Cond.methodLinkNest RX4 18 yX3_init RX4 ∈ lw_tbl := by decide +kernel
theorem tw_11 : Cond.methodLinkNest RX3 11 yX1_init RX4 ∈ lw_tbl := by decide +kernel
theorem tw_ao : Cond.arrayOver (.object RX2) ∈ lw_tbl := by decide +kernel
theorem tw_str : Cond.stringRef RX4 143 "no such number in the row" ∈ lw_tbl := by decide +kernel
theorem tw_l1 : Cond.laysStatic Bundle.tN "UNASSIGNED_STACK" Bundle.steD ∈ lw_tbl := by decide +kernel
theorem tw_l2 : Cond.laysStatic Bundle.tN "SUPPRESSED_SENTINEL" Bundle.listD ∈ lw_tbl := by decide +kernel
theorem tw_t : Cond.initialized Bundle.tN ∈ lw_tbl := by decide +kernel
theorem tw_r1 : Cond.isRef (.static Bundle.tN "UNASSIGNED_STACK" Bundle.steD) ∈ flatC (Jvm.Cond.and given_1 narrow_1) := by decide +kernel
theorem tw_r2 : Cond.isRef (.static Bundle.tN "SUPPRESSED_SENTINEL" Bundle.listD) ∈ flatC (Jvm.Cond.and given_1 narrow_1) := by decide +kernel
theorem tw_b : ∀ w ∈ aiB, w ∈ lw_tbl := by decide +kernel
theorem gm_L_law_X4_key : GoodIn lw_tbl (wsV RL 27 RX4 yX4_key wm_X4_key) := goodIn_of _ (by decide +kernel)
theorem gm_L_law_X5_key : GoodIn lw_tbl (wsV RL 31 RX5 yX5_key wm_X5_key) := goodIn_of _ (by decide +kernel)
theorem gm_L_law_X4_split : GoodIn lw_tbl (wsV RL 32 RX4 yX4_split wm_X4_split) := goodIn_of _ (by decide +kernel)
theorem gm_L_law_X5_split : GoodIn lw_tbl (wsV RL 36 RX5 yX5_split wm_X5_split) := goodIn_of _ (by decide +kernel)
theorem gm_L_law_X4_bitsOf : GoodIn lw_tbl (wsV RL 37 RX4 yX4_bitsOf wm_X4_bitsOf) := goodIn_of _ (by decide +kernel)
theorem gm_L_law_X5_bitsOf : GoodIn lw_tbl (wsV RL 41 RX5 yX5_bitsOf wm_X5_bitsOf) := goodIn_of _ (by decide +kernel)
theorem gm_L_law_X4_word : GoodIn lw_tbl (wsV RL 42 RX4 yX4_word wm_X4_word) := goodIn_of _ (by decide +kernel)
theorem gm_L_law_X5_word : GoodIn lw_tbl (wsV RL 46 RX5 yX5_word wm_X5_word) := goodIn_of _ (by decide +kernel)
theorem gm_L_law_X4_drawer : GoodIn lw_tbl (wsV RL 47 RX4 yX4_drawer wm_X4_drawer) := goodIn_of _ (by decide +kernel)
theorem gm_L_law_X5_drawer : GoodIn lw_tbl (wsV RL 50 RX5 yX5_drawer wm_X5_drawer) := goodIn_of _ (by decide +kernel)
theorem gm_L_law_X4_place : GoodIn lw_tbl (wsV RL 51 RX4 yX4_place wm_X4_place) := goodIn_of _ (by decide +kernel)
theorem gm_L_law_X5_place : GoodIn lw_tbl (wsV RL 55 RX5 yX5_place wm_X5_place) := goodIn_of _ (by decide +kernel)
theorem gm_L_law_X4_told : GoodIn lw_tbl (wsV RL 56 RX4 yX4_told wm_X4_told) := goodIn_of _ (by decide +kernel)
theorem gm_L_law_X5_told : GoodIn lw_tbl (wsV RL 60 RX5 yX5_told wm_X5_told) := goodIn_of _ (by decide +kernel)
theorem gm_L_law_X4_same : GoodIn lw_tbl (wsV RL 61 RX4 yX4_same wm_X4_same) := goodIn_of _ (by decide +kernel)
theorem gm_L_law_X5_same : GoodIn lw_tbl (wsV RL 65 RX5 yX5_same wm_X5_same) := goodIn_of _ (by decide +kernel)
theorem gm_L_law_X4_bits : GoodIn lw_tbl (wsV RL 66 RX4 yX4_bits wm_X4_bits) := goodIn_of _ (by decide +kernel)
theorem gm_L_law_X5_bits : GoodIn lw_tbl (wsV RL 69 RX5 yX5_bits wm_X5_bits) := goodIn_of _ (by decide +kernel)
theorem gm_L_law_L_below : GoodIn lw_tbl (va_wsS RL 70 yL_below wm_L_below) := goodIn_of _ (by decide +kernel)
theorem gm_L_law_X5_below : GoodIn lw_tbl (wsV RL 75 RX5 yX5_below wm_X5_below) := goodIn_of _ (by decide +kernel)
theorem gm_L_law_X5_thrown : GoodIn lw_tbl (wsV RL 76 RX5 yX5_thrown wm_X5_thrown) := goodIn_of _ (by decide +kernel)
theorem gm_L_law_X4_real : GoodIn lw_tbl (wsV RL 80 RX4 yX4_real wm_X4_real) := goodIn_of _ (by decide +kernel)
theorem gm_L_law_X5_real : GoodIn lw_tbl (wsV RL 84 RX5 yX5_real wm_X5_real) := goodIn_of _ (by decide +kernel)
theorem gm_L_law_X4_single : GoodIn lw_tbl (wsV RL 85 RX4 yX4_single wm_X4_single) := goodIn_of _ (by decide +kernel)
theorem gm_L_law_X5_single : GoodIn lw_tbl (wsV RL 89 RX5 yX5_single wm_X5_single) := goodIn_of _ (by decide +kernel)
theorem gm_L_law_X4_coin : GoodIn lw_tbl (wsV RL 90 RX4 yX4_coin wm_X4_coin) := goodIn_of _ (by decide +kernel)
theorem gm_L_law_X5_coin : GoodIn lw_tbl (wsV RL 94 RX5 yX5_coin wm_X5_coin) := goodIn_of _ (by decide +kernel)
theorem gm_L_law_X4_misses : GoodIn lw_tbl (wsV RL 95 RX4 yX4_misses wm_X4_misses) := goodIn_of _ (by decide +kernel)
theorem gm_L_law_X5_misses : GoodIn lw_tbl (wsV RL 99 RX5 yX5_misses wm_X5_misses) := goodIn_of _ (by decide +kernel)
theorem gm_L_law_X4_hits : GoodIn lw_tbl (wsV RL 100 RX4 yX4_hits wm_X4_hits) := goodIn_of _ (by decide +kernel)
theorem gm_L_law_X5_hits : GoodIn lw_tbl (wsV RL 103 RX5 yX5_hits wm_X5_hits) := goodIn_of _ (by decide +kernel)
theorem gm_L_law_X4_mask : GoodIn lw_tbl (wsV RL 104 RX4 yX4_mask wm_X4_mask) := goodIn_of _ (by decide +kernel)
theorem gm_L_law_X5_mask : GoodIn lw_tbl (wsV RL 108 RX5 yX5_mask wm_X5_mask) := goodIn_of _ (by decide +kernel)
theorem gm_L_law_X4_normal : GoodIn lw_tbl (wsV RL 109 RX4 yX4_normal wm_X4_normal) := goodIn_of _ (by decide +kernel)
theorem gm_L_law_X5_normal : GoodIn lw_tbl (wsV RL 112 RX5 yX5_normal wm_X5_normal) := goodIn_of _ (by decide +kernel)
theorem gm_L_law_X4_permutation : GoodIn lw_tbl (wsV RL 113 RX4 yX4_permutation wm_X4_permutation) := goodIn_of _ (by decide +kernel)
theorem gm_L_law_X5_permutation : GoodIn lw_tbl (wsV RL 116 RX5 yX5_permutation wm_X5_permutation) := goodIn_of _ (by decide +kernel)
theorem gm_L_law_X4_subset : GoodIn lw_tbl (wsV RL 117 RX4 yX4_subset wm_X4_subset) := goodIn_of _ (by decide +kernel)
theorem gm_L_law_X5_subset : GoodIn lw_tbl (wsV RL 120 RX5 yX5_subset wm_X5_subset) := goodIn_of _ (by decide +kernel)
theorem gm_L_law_X5_at : GoodIn lw_tbl (wsV RL 124 RX5 yX5_at wm_X5_at) := goodIn_of _ (by decide +kernel)
theorem gm_L_law_X4_weight : GoodIn lw_tbl (wsV RL 125 RX4 yX4_weight wm_X4_weight) := goodIn_of _ (by decide +kernel)
theorem gm_L_law_X5_weight : GoodIn lw_tbl (wsV RL 128 RX5 yX5_weight wm_X5_weight) := goodIn_of _ (by decide +kernel)
theorem gm_L_law_X4_choose : GoodIn lw_tbl (wsV RL 129 RX4 yX4_choose wm_X4_choose) := goodIn_of _ (by decide +kernel)
theorem gm_L_law_X5_choose : GoodIn lw_tbl (wsV RL 132 RX5 yX5_choose wm_X5_choose) := goodIn_of _ (by decide +kernel)
theorem gm_L_law_X4_secret : GoodIn lw_tbl (wsV RL 133 RX4 yX4_secret wm_X4_secret) := goodIn_of _ (by decide +kernel)
theorem gm_L_law_X5_secret : GoodIn lw_tbl (wsV RL 136 RX5 yX5_secret wm_X5_secret) := goodIn_of _ (by decide +kernel)
theorem gm_L_law_X4_back : GoodIn lw_tbl (wsV RL 137 RX4 yX4_back wm_X4_back) := goodIn_of _ (by decide +kernel)
theorem gm_L_law_X5_back : GoodIn lw_tbl (wsV RL 140 RX5 yX5_back wm_X5_back) := goodIn_of _ (by decide +kernel)
theorem gm_L_law_X4_count : GoodIn lw_tbl (wsV RL 141 RX4 yX4_count wm_X4_count) := goodIn_of _ (by decide +kernel)
theorem gm_L_law_X5_count : GoodIn lw_tbl (wsV RL 144 RX5 yX5_count wm_X5_count) := goodIn_of _ (by decide +kernel)
theorem gm_L_law_X4_init : GoodIn lw_tbl wm_X4_init := goodIn_of _ (by decide +kernel)
theorem gm_L_law_X5_init : GoodIn lw_tbl wm_X5_init := goodIn_of _ (by decide +kernel)
theorem kL_law_0 : Cond.constantLong RL 25 (4294967295) ∈ lw_tbl := by decide +kernel
theorem iL_law_X4 : ∀ w ∈ wsX40, w ∈ lw_tbl := inm_X4
theorem kL_law_2 : Cond.classLink RL 8 RX4 ∈ lw_tbl := by decide +kernel
theorem kL_law_3 : Cond.instantiable RX4 9 ∈ lw_tbl := by decide +kernel
theorem kL_law_4 : Cond.initialized RX4 ∈ lw_tbl := by decide +kernel
theorem kL_law_5 : Cond.methodLink RL 21 yX4_init ∈ lw_tbl := by decide +kernel
theorem kL_law_6 : Cond.instanceMethod yX4_init ∈ lw_tbl := by decide +kernel
theorem iL_law_X5 : ∀ w ∈ wsX50, w ∈ lw_tbl := inm_X5
theorem kL_law_8 : Cond.classLink RL 22 RX5 ∈ lw_tbl := by decide +kernel
theorem kL_law_9 : Cond.instantiable RX5 14 ∈ lw_tbl := by decide +kernel
theorem kL_law_10 : Cond.initialized RX5 ∈ lw_tbl := by decide +kernel
theorem kL_law_11 : Cond.methodLink RL 24 yX5_init ∈ lw_tbl := by decide +kernel
theorem kL_law_12 : Cond.instanceMethod yX5_init ∈ lw_tbl := by decide +kernel
theorem kL_law_13 : Cond.arrayClass .long ∈ lw_tbl := by decide +kernel
