theorem law_lt {i N : Nat} (hN : N ≤ 3072) (hi : i ≤ N) : nI N - nI 6 < nI i ↔ N < i + 6 := by
  by_cases h6 : 6 ≤ N
  · rw [g_subn h6 rfl]
    refine ⟨fun z => Nat.lt_of_not_le fun h => ?_, fun h => nI_lt (by omega) (by omega)⟩
    rcases Nat.lt_or_ge i (N - 6) with a | a
    · exact Int32.lt_irrefl (Int32.lt_trans z (nI_lt a (by omega)))
    · obtain rfl : i = N - 6 := by omega
      exact Int32.lt_irrefl z
  · have h := (by decide : ∀ N, N < 6 → ∀ i, i < 6 → nI N - nI 6 < nI i) N (by omega) i (by omega)
    exact ⟨fun _ => by omega, fun _ => h⟩
theorem law_op (w : Int32) : ∃ c, c < 32 ∧ w &&& nI 31 = nI c := ⟨w.toBitVec.toNat % 32, Nat.mod_lt _ (by decide), by
  apply Int32.toBitVec.inj
  show w.toBitVec &&& BitVec.ofNat 32 31 = BitVec.ofNat 32 (w.toBitVec.toNat % 32)
  apply BitVec.eq_of_toNat_eq
  rw [BitVec.toNat_and, BitVec.toNat_ofNat, BitVec.toNat_ofNat, show 31 % 2 ^ 32 = 2 ^ 5 - 1 from rfl, Nat.and_two_pow_sub_one_eq_mod]
  omega⟩
theorem LI.more {G : gG} {h : gH} {x buf rd bks oq rw orw root m rows asd vals many way told oth lst text out : Nat} {bk bv : Nat → Nat} {k : Nat} (c : LI G h x buf rd bks oq rw orw root m rows asd vals many way told oth lst text out bk bv k) : LI G h x buf rd bks oq rw orw root m rows asd vals many way told oth lst text out bk bv (k + 1) := by
  obtain ⟨t, bl, off, cur, und, now, Ds, g, hCI, hMI, hAP, ho⟩ := c
  exact ⟨t, bl, off, cur, und, now, Ds, g, hCI.more, hMI, hAP, ho⟩
set_option maxHeartbeats 4000000 in
set_option maxRecDepth 100000 in
theorem law_body {G : gG} {z0 : Nat} {X : gX} {mc ms cells slots i N sb k : Nat} {nm : String} {xs : Nat → Int32} {h : gH} {x buf rd bks oq rw orw root m rows asd vals many way told oth lst text out : Nat} {bk bv : Nat → Nat} (F : gF G z0 X cL_law 9 RL wsL_law (some .boolean) nm 14 526 mc ms) (hst : X.2.1.stackTraces = false) (hSc : gSc z0 X sb N xs) (hN : N ≤ 3072) (hiN : i + 6 ≤ N) (hcc : cells + 1173 ≤ mc) (hss : slots + 14000 ≤ ms) (hk9 : k < 60000) (hL : LI G h x buf rd bks oq rw orw root m rows asd vals many way told oth lst text out bk bv k) (K : ∀ (c9 s9 : Nat) (h' : gH), c9 ≤ cells + 1173 → s9 ≤ slots + 14000 → LI G h' x buf rd bks oq rw orw root m rows asd vals many way told oth lst text out bk bv (k + 1) → gV G z0 X c9 s9 h' 1252 [(4, .int (nI i)), (3, .ref out), (2, .ref m), (1, .ref x), (0, .ref sb)] []) : gV G z0 X cells slots h 33 [(4, .int (nI i)), (3, .ref out), (2, .ref m), (1, .ref x), (0, .ref sb)] [] := by
  refine v_aload_n (pc' := 34) F dL_law_33 rfl (j := 4) rfl rfl ?_
  refine v_iload (pc' := 36) F dL_law_34  (j := 0) rfl rfl ?_
  refine w_sld (pc' := 37) (j := i) F hSc (by omega) (by omega) rfl dL_law_36 rfl ?_
  refine v_bipush (pc' := 39) (v := nI 31) F dL_law_37 (by decide) rfl ?_
  obtain ⟨c, hc, ec⟩ := law_op (xs (i))
  refine v_iand (pc' := 40) (v := nI c) F dL_law_39 ec rfl ?_
  match c, hc with
  | 0, _ =>
    refine v_tableIn (tgt := 140) (off := 100) F dL_law_40 (by decide) (by decide) rfl (by decide) ?_
    exact op_append F hst hSc hN hiN hcc hss hk9 hL K
  | 1, _ =>
    refine v_tableIn (tgt := 213) (off := 173) F dL_law_40 (by decide) (by decide) rfl (by decide) ?_
    exact op_load F hst hSc hN hiN hcc hss hk9 hL K
  | 2, _ =>
    refine v_tableIn (tgt := 269) (off := 229) F dL_law_40 (by decide) (by decide) rfl (by decide) ?_
    exact op_errorOffset F hst hSc hN hiN hcc hss hk9 hL K
  | 3, _ =>
    refine v_tableIn (tgt := 282) (off := 242) F dL_law_40 (by decide) (by decide) rfl (by decide) ?_
    exact op_state F hst hSc hN hiN hcc hss hk9 hL K
  | 4, _ =>
    refine v_tableIn (tgt := 338) (off := 298) F dL_law_40 (by decide) (by decide) rfl (by decide) ?_
    exact op_version F hst hSc hN hiN hcc hss hk9 hL K
  | 5, _ =>
    refine v_tableIn (tgt := 406) (off := 366) F dL_law_40 (by decide) (by decide) rfl (by decide) ?_
    exact op_value F hst hSc hN hiN hcc hss hk9 hL K
  | 6, _ =>
    refine v_tableIn (tgt := 486) (off := 446) F dL_law_40 (by decide) (by decide) rfl (by decide) ?_
    exact op_first F hst hSc hN hiN hcc hss hk9 hL K
  | 7, _ =>
    refine v_tableIn (tgt := 542) (off := 502) F dL_law_40 (by decide) (by decide) rfl (by decide) ?_
    exact op_find F hst hSc hN hiN hcc hss hk9 hL K
  | 8, _ =>
    refine v_tableIn (tgt := 610) (off := 570) F dL_law_40 (by decide) (by decide) rfl (by decide) ?_
    exact op_alike F hst hSc hN hiN hcc hss hk9 hL K
  | 9, _ =>
    refine v_tableIn (tgt := 685) (off := 645) F dL_law_40 (by decide) (by decide) rfl (by decide) ?_
    exact op_common F hst hSc hN hiN hcc hss hk9 hL K
  | 10, _ =>
    refine v_tableIn (tgt := 753) (off := 713) F dL_law_40 (by decide) (by decide) rfl (by decide) ?_
    exact op_work F hst hSc hN hiN hcc hss hk9 hL K
  | 11, _ =>
    refine v_tableIn (tgt := 821) (off := 781) F dL_law_40 (by decide) (by decide) rfl (by decide) ?_
    exact op_idleIn F hst hSc hN hiN hcc hss hk9 hL K
  | 12, _ =>
    refine v_tableIn (tgt := 877) (off := 837) F dL_law_40 (by decide) (by decide) rfl (by decide) ?_
    exact op_gap F hst hSc hN hiN hcc hss hk9 hL K
  | 13, _ =>
    refine v_tableIn (tgt := 890) (off := 850) F dL_law_40 (by decide) (by decide) rfl (by decide) ?_
    exact op_ranked F hst hSc hN hiN hcc hss hk9 hL K
  | 14, _ =>
    refine v_tableIn (tgt := 946) (off := 906) F dL_law_40 (by decide) (by decide) rfl (by decide) ?_
    exact op_meanSteps F hst hSc hN hiN hcc hss hk9 hL K
  | 15, _ =>
    refine v_tableIn (tgt := 989) (off := 949) F dL_law_40 (by decide) (by decide) rfl (by decide) ?_
    exact op_push F hst hSc hN hiN hcc hss hk9 hL K
  | 16, _ =>
    refine v_tableIn (tgt := 1057) (off := 1017) F dL_law_40 (by decide) (by decide) rfl (by decide) ?_
    exact op_pop F hst hSc hN hiN hcc hss hk9 hL K
  | 17, _ =>
    refine v_tableIn (tgt := 1113) (off := 1073) F dL_law_40 (by decide) (by decide) rfl (by decide) ?_
    exact op_drop F hst hSc hN hiN hcc hss hk9 hL K
  | 18, _ =>
    refine v_tableIn (tgt := 1169) (off := 1129) F dL_law_40 (by decide) (by decide) rfl (by decide) ?_
    exact op_rule F hst hSc hN hiN hcc hss hk9 hL K
  | 19, _ =>
    refine v_tableIn (tgt := 1225) (off := 1185) F dL_law_40 (by decide) (by decide) rfl (by decide) ?_
    exact op_undo F hst hSc hN hiN hcc hss hk9 hL K
  | 20, _ =>
    refine v_tableIn (tgt := 1238) (off := 1198) F dL_law_40 (by decide) (by decide) rfl (by decide) ?_
    exact op_checksum F hst hSc hN hiN hcc hss hk9 hL K
  | c + 21, hc =>
    refine v_tableOut (tgt := 1252) F dL_law_40 (.inr ((by decide : ∀ c, c < 11 → 20 < (nI (c + 21)).toInt) c (by omega))) (by decide) ?_
    exact K _ _ _ (by omega) (by omega) (LI.more hL)
set_option maxHeartbeats 4000000 in
set_option maxRecDepth 100000 in
theorem law_loop {G : gG} {z0 : Nat} {X : gX} {mc ms N sb : Nat} {nm : String} {xs : Nat → Int32} {x buf rd bks oq rw orw root m rows asd vals many way told oth lst text out : Nat} {bk bv : Nat → Nat} (F : gF G z0 X cL_law 9 RL wsL_law (some .boolean) nm 14 526 mc ms) (hst : X.2.1.stackTraces = false) (hSc : gSc z0 X sb N xs) (hN : N ≤ 3072) (K : ∀ (cells slots : Nat) (h : gH) (L : List (Nat × Value)), cells ≤ mc → slots ≤ ms → gV G z0 X cells slots h 1259 L [.int (nI 1)]) : ∀ (r i k cells slots : Nat) (h : gH), N ≤ i + 6 * r + 5 → i ≤ N → cells + 1173 * r ≤ mc → slots + 14000 * r ≤ ms → k + r ≤ 60000 → LI G h x buf rd bks oq rw orw root m rows asd vals many way told oth lst text out bk bv k → gV G z0 X cells slots h 23 [(4, .int (nI i)), (3, .ref out), (2, .ref m), (1, .ref x), (0, .ref sb)] [] := by
  intro r
  induction r with
  | zero =>
    intro i k cells slots h hr hi hcc hss hk hL
    refine v_iload (pc' := 25) F dL_law_23  (j := 0) rfl rfl ?_
    refine v_aload_n (pc' := 26) F dL_law_25 rfl (j := 4) rfl rfl ?_
    refine v_slen (pc' := 27) F hSc dL_law_26 rfl ?_
    refine v_bipush (pc' := 29) (v := nI 6) F dL_law_27 (by decide) rfl ?_
    refine v_isub (pc' := 30) (v := (nI N) - (nI 6)) F dL_law_29 rfl rfl ?_
    refine v_icmp_gt (tgt := 1258) (pc' := 33) F dL_law_30 (by decide) rfl (fun CT => ?_) (fun CF => ?_)
    · replace CT := (law_lt hN hi).mp CT
      refine v_iconst (pc' := 1259) (v := nI 1) F dL_law_1258 (by decide) rfl ?_
      exact K _ _ _ _ (by omega) (by omega)
    · replace CF : ¬ N < i + 6 := fun z => CF ((law_lt hN hi).mpr z)
      exact absurd hr (by omega)
  | succ r ih =>
    intro i k cells slots h hr hi hcc hss hk hL
    refine v_iload (pc' := 25) F dL_law_23  (j := 0) rfl rfl ?_
    refine v_aload_n (pc' := 26) F dL_law_25 rfl (j := 4) rfl rfl ?_
    refine v_slen (pc' := 27) F hSc dL_law_26 rfl ?_
    refine v_bipush (pc' := 29) (v := nI 6) F dL_law_27 (by decide) rfl ?_
    refine v_isub (pc' := 30) (v := (nI N) - (nI 6)) F dL_law_29 rfl rfl ?_
    refine v_icmp_gt (tgt := 1258) (pc' := 33) F dL_law_30 (by decide) rfl (fun CT => ?_) (fun CF => ?_)
    · replace CT := (law_lt hN hi).mp CT
      refine v_iconst (pc' := 1259) (v := nI 1) F dL_law_1258 (by decide) rfl ?_
      exact K _ _ _ _ (by omega) (by omega)
    · replace CF : ¬ N < i + 6 := fun z => CF ((law_lt hN hi).mpr z)
      refine law_body F hst hSc hN (by omega) (by omega) (by omega) (by omega) hL (fun c9 s9 h' hc9 hs9 hL9 => ?_)
      refine v_iinc (pc' := 1255) (j := 0) (x := nI i) (v := nI (i + 6)) (L' := [(4, .int (nI (i + 6))), (3, .ref out), (2, .ref m), (1, .ref x), (0, .ref sb)]) F dL_law_1252 rfl (nI_add i 6) (by decide) rfl rfl ?_
      refine v_goto (tgt := 23) F dL_law_1255 (by decide) ?_
      refine v_sub (L' := [(4, .int (nI (i + 6))), (3, .ref out), (2, .ref m), (1, .ref x), (0, .ref sb)]) [0, 1, 2, 3, 4] rfl ?_
      exact ih (i + 6) (k + 1) c9 s9 h' (by omega) (by omega) (by omega) (by omega) (by omega) hL9
