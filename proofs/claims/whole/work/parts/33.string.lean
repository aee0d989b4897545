/-! STRINGS: the words that are read *by letters*; their places and bytes are the context's -/
section GV3
variable {G : gG} {z0 : Nat} {X : gX} {cc : ByteArray} {nL fr lo mc ms : Nat} {own nm : String} {Ts : List Cond} {ret : Option FieldType} {cells slots : Nat} {h : gH} {pc pc' : Nat} {L L' : List (Nat × Value)} {st : List Value}
theorem v_ldcS (F : gF G z0 X cc nL own Ts ret nm fr lo mc ms) {index i : Nat} {tx : String} (hq : (own, index, tx, i) ∈ gStrs) (d : decode cc pc = .ok (.ldc index, 2)) (hp : pc + 2 = pc') (k : gV G z0 X cells slots h pc' L (.ref (G.2.2 i) :: st)) : gV G z0 X cells slots h pc L st := by
  obtain ⟨p, l, e, R, s, m, args, below, meth, c, Q⟩ := X
  obtain ⟨hx, hb, hml, hown, hts, ⟨hK, hKr⟩, hz, hlk, hr, hnm, hR⟩ := F
  obtain ⟨-, -, -, -, ⟨h6, h7, h7a, h7b⟩, -⟩ := id hKr
  subst hp
  intro H locs ls hG hS hL
  exact va_ldcS hx hb hown (h6 _ hq) d (k H locs ls hG hS hL)
theorem v_sCoder (F : gF G z0 X cc nL own Ts ret nm fr lo mc ms) {index i : Nat} (hi : i < 4) (hlink : Cond.fieldLink own index "java/lang/String" "coder" "B" ∈ Ts) (d : decode cc pc = .ok (.getfield index, 3)) (hp : pc + 3 = pc') (k : gV G z0 X cells slots h pc' L (.int (nI 0) :: st)) : gV G z0 X cells slots h pc L (.ref (G.2.2 i) :: st) := by
  obtain ⟨p, l, e, R, s, m, args, below, meth, c, Q⟩ := X
  obtain ⟨hx, hb, hml, hown, hts, ⟨hK, hKr⟩, hz, hlk, hr, hnm, hR⟩ := F
  obtain ⟨-, -, -, -, ⟨h6, h7, h7a, h7b⟩, -⟩ := id hKr
  subst hp
  intro H locs ls hG hS hL
  exact vk_getf hx hb (h7 i hi).2.1 hS hown (hts _ hlink) (fun _ h9 => h9) d (k H locs ls hG hS hL)
theorem v_sValue (F : gF G z0 X cc nL own Ts ret nm fr lo mc ms) {index i : Nat} (hi : i < 4) (hlink : Cond.fieldLink own index "java/lang/String" "value" "[B" ∈ Ts) (d : decode cc pc = .ok (.getfield index, 3)) (hp : pc + 3 = pc') (k : gV G z0 X cells slots h pc' L (.ref (G.2.2 (20 + i)) :: st)) : gV G z0 X cells slots h pc L (.ref (G.2.2 i) :: st) := by
  obtain ⟨p, l, e, R, s, m, args, below, meth, c, Q⟩ := X
  obtain ⟨hx, hb, hml, hown, hts, ⟨hK, hKr⟩, hz, hlk, hr, hnm, hR⟩ := F
  obtain ⟨-, -, -, -, ⟨h6, h7, h7a, h7b⟩, -⟩ := id hKr
  subst hp
  intro H locs ls hG hS hL
  exact vk_getf hx hb (h7 i hi).2.2.1 hS hown (hts _ hlink) (fun _ h9 => h9) d (k H locs ls hG hS hL)
theorem v_sLen (F : gF G z0 X cc nL own Ts ret nm fr lo mc ms) {i : Nat} (hi : i < 4) (d : decode cc pc = .ok (.arraylength, 1)) (hp : pc + 1 = pc') (k : gV G z0 X cells slots h pc' L (.int (nI (gBytes i).length) :: st)) : gV G z0 X cells slots h pc L (.ref (G.2.2 (20 + i)) :: st) := by
  obtain ⟨p, l, e, R, s, m, args, below, meth, c, Q⟩ := X
  obtain ⟨hx, hb, hml, hown, hts, ⟨hK, hKr⟩, hz, hlk, hr, hnm, hR⟩ := F
  obtain ⟨-, -, -, -, ⟨h6, h7, h7a, h7b⟩, -⟩ := id hKr
  subst hp
  intro H locs ls hG hS hL
  exact va_tlen hx hb (h7 i hi).2.2.2 hS rfl d (k H locs ls hG hS hL)
theorem v_sByte (F : gF G z0 X cc nL own Ts ret nm fr lo mc ms) {i j : Nat} (hi : i < 4) (hj : j < (gBytes i).length) (d : decode cc pc = .ok (.baload, 1)) (hp : pc + 1 = pc') (k : gV G z0 X cells slots h pc' L (.int ((gBytes i).getD j 0) :: st)) : gV G z0 X cells slots h pc L (.int (nI j) :: .ref (G.2.2 (20 + i)) :: st) := by
  obtain ⟨p, l, e, R, s, m, args, below, meth, c, Q⟩ := X
  obtain ⟨hx, hb, hml, hown, hts, ⟨hK, hKr⟩, hz, hlk, hr, hnm, hR⟩ := F
  obtain ⟨-, -, -, -, ⟨h6, h7, h7a, h7b⟩, -⟩ := id hKr
  subst hp
  intro H locs ls hG hS hL
  have hl : (gBytes i).length < 6 := by
    rcases (show i = 0 ∨ i = 1 ∨ i = 2 ∨ i = 3 by omega) with rfl | rfl | rfl | rfl <;> decide
  exact va_tb hx hb (h7 i hi).2.2.2 hS (g_clamp hj (by omega)).1 (by rw [(g_clamp hj (by omega)).2]) d (k H locs ls hG hS hL)
theorem v_sCompact (F : gF G z0 X cc nL own Ts ret nm fr lo mc ms) {index : Nat} (hlink : Cond.fieldLink own index "java/lang/String" "COMPACT_STRINGS" "Z" ∈ Ts) (d : decode cc pc = .ok (.getstatic index, 3)) (hp : pc + 3 = pc') (k : gV G z0 X cells slots h pc' L (.int (nI 1) :: st)) : gV G z0 X cells slots h pc L st := by
  obtain ⟨p, l, e, R, s, m, args, below, meth, c, Q⟩ := X
  obtain ⟨hx, hb, hml, hown, hts, ⟨hK, hKr⟩, hz, hlk, hr, hnm, hR⟩ := F
  obtain ⟨-, -, -, -, ⟨h6, h7, h7a, h7b⟩, -⟩ := id hKr
  subst hp
  intro H locs ls hG hS hL
  exact va_gets hx hb h7a hS hown (hts _ hlink) (fun _ h9 => h9) d (k H locs ls hG hS hL)
theorem v_sForm (F : gF G z0 X cc nL own Ts ret nm fr lo mc ms) {index : Nat} (hlink : Cond.fieldLink own index "jdk/internal/util/Preconditions" "SIOOBE_FORMATTER" "Ljava/util/function/BiFunction;" ∈ Ts) (d : decode cc pc = .ok (.getstatic index, 3)) (hp : pc + 3 = pc') (k : ∀ r : Option Nat, gV G z0 X cells slots h pc' L (va_rf r :: st)) : gV G z0 X cells slots h pc L st := by
  obtain ⟨p, l, e, R, s, m, args, below, meth, c, Q⟩ := X
  obtain ⟨hx, hb, hml, hown, hts, ⟨hK, hKr⟩, hz, hlk, hr, hnm, hR⟩ := F
  obtain ⟨-, -, -, -, ⟨h6, h7, h7a, h7b⟩, -⟩ := id hKr
  subst hp
  intro H locs ls hG hS hL
  rcases h7b with z | ⟨t, z⟩
  · exact va_gets hx hb z hS hown (hts _ hlink) (fun _ h9 => h9) d (k none H locs ls hG hS hL)
  · exact va_gets hx hb z hS hown (hts _ hlink) (fun _ h9 => h9) d (k (some t) H locs ls hG hS hL)
theorem v_i2c (F : gF G z0 X cc nL own Ts ret nm fr lo mc ms) {x v : Int32}  (d : decode cc pc = .ok (.i2c, 1)) (hv : (x.toUInt32 % 65536).toInt32 = v) (hp : pc + 1 = pc') (k : gV G z0 X cells slots h pc' L (.int v :: st)) : gV G z0 X cells slots h pc L (.int x :: st) := by
  obtain ⟨p, l, e, R, s, m, args, below, meth, c, Q⟩ := X
  obtain ⟨hx, hb, hml, hown, hts, ⟨hK, hKr⟩, hz, hlk, hr, hnm, hR⟩ := F
  obtain ⟨-, -, -, -, ⟨h6, h7, h7a, h7b⟩, -⟩ := id hKr
  subst hp
  intro H locs ls hG hS hL
  exact lv_i2c hx hb d hv (k H locs ls hG hS hL)
theorem v_callVS (F : gF G z0 X cc nL own Ts ret nm fr lo mc ms) {y : MethodName} {ws ws' : List Cond} {frc loc mcc msc maxL n index i : Nat} {bytes : ByteArray} {postc : Option Value → gH → Prop} {As stk : List Value} {rt : Option FieldType} (hC : ∀ l : Launch, gC G z0 l y ws frc loc (.ref (G.2.2 i) :: As) h postc mcc msc) (hG1 : GoodIn Ts (wsV own index "java/lang/String" y ws)) (hw : ws = Cond.code y bytes maxL rt :: ws') (hd : y.cls = "java/lang/String" ∧ y.cls ≠ "java/lang/invoke/MethodHandle" ∧ y.cls ≠ "java/lang/invoke/VarHandle" ∧ (parseMethodDescriptor y.desc).map (fun d => d.parameters.length) = some n) (hR1 : frc + 1 ≤ fr) (hR2 : 8 + (maxL + 11) + loc ≤ lo) (hi : i < 4) (hn : As.length = n) (hsk : stk = As.reverse ++ .ref (G.2.2 i) :: st) (hst : (st.map fun v => v.category).sum ≤ 8) (hcc : cells + mcc ≤ mc) (hcs : slots + msc ≤ ms) (d : decode cc pc = .ok (.invokevirtual index, 3)) (hp : pc + 3 = pc') (kk : ∀ (v : Option Value) (h' : gH), postc v h' → gV G z0 X (cells + mcc) (slots + msc) h' pc' L (v.toList ++ st)) : gV G z0 X cells slots h pc L stk := by
  obtain ⟨p, l, e, R, s, m, args, below, meth, c, Q⟩ := X
  obtain ⟨hx, hb, hml, hown, hts, ⟨hK, hKr⟩, hz, hlk, hr, hnm, hR⟩ := F
  obtain ⟨-, -, -, -, ⟨h6, h7, h7a, h7b⟩, -⟩ := id hKr
  subst hp
  subst hsk
  subst hR
  intro H locs ls hG hS hL
  have hpre : PreS s H (gP G z0 (.ref (G.2.2 i) :: As) h) (.ref (G.2.2 i) :: As) := ⟨gP_blind G z0 _ h, fun U hU hW => ⟨rfl, by rw [hU]; exact Nat.le_trans hz hS.1, by rw [hU]; exact hG, gK.to ⟨hK, hKr⟩ hS.2.1 hU hW⟩⟩
  have hrec : ∃ cell : Cell, H[G.2.2 i]? = some cell ∧ cell.vm.isStatics = false ∧ s.vm.findClass "java/lang/String" = some cell.cls := by
    obtain ⟨cell, h1, h2, h3, -⟩ := (h7 i hi).1.kept hS.2.1
    exact ⟨cell, h1, h2, h3⟩
  exact g_call (va_runV (rest := st) ⟨hx, hb, hml, hown, hts⟩ (hC l) (cwV n hts hG1 hw rfl rfl hd ⟨hR1, hR2⟩) ⟨hpre.1, hrec, hpre.2⟩ rfl hn (by rw [← hml]; exact hL.1) rfl (lv_room hst) d ⟨hcc, hcs⟩) hS (fun v h' H1 locs1 hpc hG1 hS1 => kk v h' hpc H1 locs1 ls hG1 hS1 hL)
end GV3
theorem gB_len : ∀ i, i < 4 → (gBytes i).length < 6 ∧ (nI (gBytes i).length) >>> (nI 0 &&& 31) = nI (gBytes i).length := by
  intro i hi
  rcases (show i = 0 ∨ i = 1 ∨ i = 2 ∨ i = 3 by omega) with rfl | rfl | rfl | rfl <;> decide
theorem gB_chr : ∀ i, i < 4 → ∀ j, j < (gBytes i).length → (((gBytes i).getD j 0 &&& nI 255).toUInt32 % 65536).toInt32 = (gBytes i).getD j 0 ∧ narrow .char (.int ((gBytes i).getD j 0)) = .int ((gBytes i).getD j 0) := by
  intro i hi
  rcases (show i = 0 ∨ i = 1 ∨ i = 2 ∨ i = 3 by omega) with rfl | rfl | rfl | rfl <;> decide
theorem m_J0_coder_7d493_f38 : Cond.fieldLink RJ0 38 "java/lang/String" "COMPACT_STRINGS" "Z" ∈ wsJ0_coder_7d493 := by decide +kernel
theorem m_J0_coder_7d493_f15 : Cond.fieldLink RJ0 15 "java/lang/String" "coder" "B" ∈ wsJ0_coder_7d493 := by decide +kernel
set_option maxHeartbeats 4000000 in
set_option maxRecDepth 100000 in
theorem c_J0_coder_7d493 (G : gG) (z0 : Nat) (l : Launch) {h : gH} {i : Nat} (hi : i < 4) : gC G z0 l yJ0_coder_7d493 wsJ0_coder_7d493 0 0 [.ref (G.2.2 i)] h (fun v h' => v = some (.int (nI 0)) ∧ h' = h) 0 0 := by
  refine gC_of (cc := cJ0_coder_7d493) (nL := 1) (ret := (some .byte)) (by decide) rfl (Nat.le_of_ble_eq_true rfl) ?_
  intro X F E _
  change gF G z0 X cJ0_coder_7d493 1 RJ0 wsJ0_coder_7d493 (some .byte) "coder" 0 0 _ _ at F
  show gV G z0 X 0 0 h 0 [(0, .ref (G.2.2 i))] []
  refine v_sCompact (pc' := 3) F m_J0_coder_7d493_f38 dJ0_coder_7d493_0 rfl ?_
  refine w_if_eq (tgt := 13) (pc' := 6) F (by omega) dJ0_coder_7d493_3 (by decide) rfl (fun c0 => absurd c0 (by omega)) (fun _ => ?_)
  refine v_aload_n (pc' := 7) F dJ0_coder_7d493_6 rfl (j := 0) rfl rfl ?_
  refine v_sCoder (pc' := 10) F hi m_J0_coder_7d493_f15 dJ0_coder_7d493_7 rfl ?_
  refine v_goto (tgt := 14) F dJ0_coder_7d493_10 (by decide) ?_
  refine v_zret F E (by omega) (by omega) (by decide) dJ0_coder_7d493_14 ?_
  exact ⟨rfl, rfl⟩
theorem m_J0_isLatin1_aae02_f38 : Cond.fieldLink RJ0 38 "java/lang/String" "COMPACT_STRINGS" "Z" ∈ wsJ0_isLatin1_aae02 := by decide +kernel
theorem m_J0_isLatin1_aae02_f15 : Cond.fieldLink RJ0 15 "java/lang/String" "coder" "B" ∈ wsJ0_isLatin1_aae02 := by decide +kernel
set_option maxHeartbeats 4000000 in
set_option maxRecDepth 100000 in
theorem c_J0_isLatin1_aae02 (G : gG) (z0 : Nat) (l : Launch) {h : gH} {i : Nat} (hi : i < 4) : gC G z0 l yJ0_isLatin1_aae02 wsJ0_isLatin1_aae02 0 0 [.ref (G.2.2 i)] h (fun v h' => v = some (.int (nI 1)) ∧ h' = h) 0 0 := by
  refine gC_of (cc := cJ0_isLatin1_aae02) (nL := 1) (ret := (some .boolean)) (by decide) rfl (Nat.le_of_ble_eq_true rfl) ?_
  intro X F E _
  change gF G z0 X cJ0_isLatin1_aae02 1 RJ0 wsJ0_isLatin1_aae02 (some .boolean) "isLatin1" 0 0 _ _ at F
  show gV G z0 X 0 0 h 0 [(0, .ref (G.2.2 i))] []
  refine v_sCompact (pc' := 3) F m_J0_isLatin1_aae02_f38 dJ0_isLatin1_aae02_0 rfl ?_
  refine w_if_eq (tgt := 17) (pc' := 6) F (by omega) dJ0_isLatin1_aae02_3 (by decide) rfl (fun c0 => absurd c0 (by omega)) (fun _ => ?_)
  refine v_aload_n (pc' := 7) F dJ0_isLatin1_aae02_6 rfl (j := 0) rfl rfl ?_
  refine v_sCoder (pc' := 10) F hi m_J0_isLatin1_aae02_f15 dJ0_isLatin1_aae02_7 rfl ?_
  refine w_if_ne (tgt := 17) (pc' := 13) F (by omega) dJ0_isLatin1_aae02_10 (by decide) rfl (fun c0 => absurd c0 (by omega)) (fun _ => ?_)
  refine v_iconst (pc' := 14) (v := nI 1) F dJ0_isLatin1_aae02_13 (by decide) rfl ?_
  refine v_goto (tgt := 18) F dJ0_isLatin1_aae02_14 (by decide) ?_
  refine v_zret F E (by omega) (by omega) (by decide) dJ0_isLatin1_aae02_18 ?_
  exact ⟨rfl, rfl⟩
theorem m_J0_length_8abf5_f9 : Cond.fieldLink RJ0 9 "java/lang/String" "value" "[B" ∈ wsJ0_length_8abf5 := by decide +kernel
theorem hv_J0_coder_7d493 : yJ0_coder_7d493.cls = RJ0 ∧ yJ0_coder_7d493.cls ≠ "java/lang/invoke/MethodHandle" ∧ yJ0_coder_7d493.cls ≠ "java/lang/invoke/VarHandle" ∧ (parseMethodDescriptor yJ0_coder_7d493.desc).map (fun d => d.parameters.length) = some 0 := by decide +kernel
set_option maxHeartbeats 4000000 in
set_option maxRecDepth 100000 in
theorem c_J0_length_8abf5 (G : gG) (z0 : Nat) (l : Launch) {h : gH} {i : Nat} (hi : i < 4) : gC G z0 l yJ0_length_8abf5 wsJ0_length_8abf5 1 20 [.ref (G.2.2 i)] h (fun v h' => v = some (.int (nI (gBytes i).length)) ∧ h' = h) 0 0 := by
  refine gC_of (cc := cJ0_length_8abf5) (nL := 1) (ret := (some .int)) (by decide) rfl (Nat.le_of_ble_eq_true rfl) ?_
  intro X F E _
  change gF G z0 X cJ0_length_8abf5 1 RJ0 wsJ0_length_8abf5 (some .int) "length" 1 20 _ _ at F
  show gV G z0 X 0 0 h 0 [(0, .ref (G.2.2 i))] []
  refine v_aload_n (pc' := 1) F dJ0_length_8abf5_0 rfl (j := 0) rfl rfl ?_
  refine v_sValue (pc' := 4) F hi m_J0_length_8abf5_f9 dJ0_length_8abf5_1 rfl ?_
  refine v_sLen (pc' := 5) F hi dJ0_length_8abf5_4 rfl ?_
  refine v_aload_n (pc' := 6) F dJ0_length_8abf5_5 rfl (j := 0) rfl rfl ?_
  refine v_callVS (pc' := 9) (rt := (some .byte)) (mcc := 0) (msc := 0) (As := []) (st := [.int (nI ((gBytes i).length))]) F (fun l => c_J0_coder_7d493 G z0 l hi) gJ0_length_8abf5_J0_coder_7d493 rfl hv_J0_coder_7d493 (by decide) (by decide) hi rfl rfl (Nat.le_of_ble_eq_true rfl) (by omega) (by omega) dJ0_length_8abf5_6 rfl (fun v1 h hq => ?_)
  obtain ⟨rfl, rfl⟩ := hq
  refine v_ishr (pc' := 10) (v := (nI ((gBytes i).length)) >>> ((nI 0) &&& 31)) F dJ0_length_8abf5_9 rfl rfl ?_
  exact v_iret F E (by omega) (by omega)  dJ0_length_8abf5_10 ⟨by rw [(gB_len i hi).2], rfl⟩
set_option maxHeartbeats 4000000 in
set_option maxRecDepth 100000 in
theorem c_J3_checkIndex_8e157 (G : gG) (z0 : Nat) (l : Launch) {h : gH} {j m : Nat} {r : Option Nat} (hj : j < m) (hm : m < 1000) : gC G z0 l yJ3_checkIndex_8e157 wsJ3_checkIndex_8e157 0 0 [.int (nI j), .int (nI m), va_rf r] h (fun v h' => v = some (.int (nI j)) ∧ h' = h) 0 0 := by
  refine gC_of (cc := cJ3_checkIndex_8e157) (nL := 3) (ret := (some .int)) (by decide) rfl (by simp [lg_sl, gcat, gci, gcr, gcn, gcl, gvs, gvn]) ?_
  intro X F E _
  rw [show lv_args 0 [.int (nI j), .int (nI m), va_rf r] = [(0, .int (nI j)), (1, .int (nI m)), (2, va_rf r)] from by simp [lv_args, gcat, gci, gcr, gcn, gcl, gvs, gvn]]
  change gF G z0 X cJ3_checkIndex_8e157 3 RJ3 wsJ3_checkIndex_8e157 (some .int) "checkIndex" 0 0 _ _ at F
  show gV G z0 X 0 0 h 0 [(0, .int (nI j)), (1, .int (nI m)), (2, va_rf r)] []
  refine v_iload_n (pc' := 1) F dJ3_checkIndex_8e157_0 rfl (j := 0) rfl rfl ?_
  refine w_if_lt (tgt := 9) (pc' := 4) F (by omega) dJ3_checkIndex_8e157_1 (by decide) rfl (fun c0 => absurd c0 (by omega)) (fun _ => ?_)
  refine v_iload_n (pc' := 5) F dJ3_checkIndex_8e157_4 rfl (j := 0) rfl rfl ?_
  refine v_iload_n (pc' := 6) F dJ3_checkIndex_8e157_5 rfl (j := 1) rfl rfl ?_
  refine w_icmp_lt (tgt := 16) (pc' := 9) F (by omega) (by omega) dJ3_checkIndex_8e157_6 (by decide) rfl (fun _ => ?_) (fun c0 => absurd c0 (by omega))
  refine v_iload_n (pc' := 17) F dJ3_checkIndex_8e157_16 rfl (j := 0) rfl rfl ?_
  exact v_iret F E (by omega) (by omega)  dJ3_checkIndex_8e157_17 ⟨rfl, rfl⟩
theorem m_J0_checkIndex_df160_f1053 : Cond.fieldLink RJ0 1053 "jdk/internal/util/Preconditions" "SIOOBE_FORMATTER" "Ljava/util/function/BiFunction;" ∈ wsJ0_checkIndex_df160 := by decide +kernel
theorem hd_J3_checkIndex_8e157 : yJ3_checkIndex_8e157.cls ≠ "java/lang/invoke/MethodHandle" ∧ yJ3_checkIndex_8e157.cls ≠ "java/lang/invoke/VarHandle" ∧ (parseMethodDescriptor yJ3_checkIndex_8e157.desc).map (fun d => d.parameters.length) = some 3 := by decide +kernel
set_option maxHeartbeats 4000000 in
set_option maxRecDepth 100000 in
theorem c_J0_checkIndex_df160 (G : gG) (z0 : Nat) (l : Launch) {h : gH} {j m : Nat} (hj : j < m) (hm : m < 1000) : gC G z0 l yJ0_checkIndex_df160 wsJ0_checkIndex_df160 1 22 [.int (nI j), .int (nI m)] h (fun v h' => v = none ∧ h' = h) 0 0 := by
  refine gC_of (cc := cJ0_checkIndex_df160) (nL := 2) (ret := none) (by decide) rfl (Nat.le_of_ble_eq_true rfl) ?_
  intro X F E _
  change gF G z0 X cJ0_checkIndex_df160 2 RJ0 wsJ0_checkIndex_df160 none "checkIndex" 1 22 _ _ at F
  show gV G z0 X 0 0 h 0 [(0, .int (nI j)), (1, .int (nI m))] []
  refine v_iload_n (pc' := 1) F dJ0_checkIndex_df160_0 rfl (j := 0) rfl rfl ?_
  refine v_iload_n (pc' := 2) F dJ0_checkIndex_df160_1 rfl (j := 1) rfl rfl ?_
  refine v_sForm (pc' := 5) F m_J0_checkIndex_df160_f1053 dJ0_checkIndex_df160_2 rfl (fun r1 => ?_)
  refine v_callS (pc' := 8) (rt := (some .int)) (mcc := 0) (msc := 0) (As := [.int (nI j), .int (nI m), va_rf r1]) (st := []) F (fun l => c_J3_checkIndex_8e157 G z0 l hj hm) gJ0_checkIndex_df160_J3_checkIndex_8e157 rfl hd_J3_checkIndex_8e157 (by decide) (by decide) rfl rfl (Nat.le_of_ble_eq_true rfl) (by omega) (by omega) dJ0_checkIndex_df160_5 rfl (fun v2 h hq => ?_)
  obtain ⟨rfl, rfl⟩ := hq
  refine v_pop (pc' := 9) F dJ0_checkIndex_df160_8 rfl rfl ?_
  exact v_vret F E (by omega) (by omega)  dJ0_checkIndex_df160_9 ⟨rfl, rfl⟩
theorem hd_J0_checkIndex_df160 : yJ0_checkIndex_df160.cls ≠ "java/lang/invoke/MethodHandle" ∧ yJ0_checkIndex_df160.cls ≠ "java/lang/invoke/VarHandle" ∧ (parseMethodDescriptor yJ0_checkIndex_df160.desc).map (fun d => d.parameters.length) = some 2 := by decide +kernel
set_option maxHeartbeats 4000000 in
set_option maxRecDepth 100000 in
theorem c_J1_charAt_3b067 (G : gG) (z0 : Nat) (l : Launch) {h : gH} {i j : Nat} (hi : i < 4) (hj : j < (gBytes i).length) : gC G z0 l yJ1_charAt_3b067 wsJ1_charAt_3b067 2 43 [.ref (G.2.2 (20 + i)), .int (nI j)] h (fun v h' => v = some (.int ((gBytes i).getD j 0)) ∧ h' = h) 0 0 := by
  refine gC_of (cc := cJ1_charAt_3b067) (nL := 2) (ret := (some .char)) (by decide) rfl (Nat.le_of_ble_eq_true rfl) ?_
  intro X F E _
  change gF G z0 X cJ1_charAt_3b067 2 RJ1 wsJ1_charAt_3b067 (some .char) "charAt" 2 43 _ _ at F
  show gV G z0 X 0 0 h 0 [(0, .ref (G.2.2 (20 + i))), (1, .int (nI j))] []
  have hl := (gB_len i hi).1
  refine v_iload_n (pc' := 1) F dJ1_charAt_3b067_0 rfl (j := 1) rfl rfl ?_
  refine v_aload_n (pc' := 2) F dJ1_charAt_3b067_1 rfl (j := 0) rfl rfl ?_
  refine v_sLen (pc' := 3) F hi dJ1_charAt_3b067_2 rfl ?_
  refine v_callS (pc' := 6) (rt := none) (mcc := 0) (msc := 0) (As := [.int (nI j), .int (nI ((gBytes i).length))]) (st := []) F (fun l => c_J0_checkIndex_df160 G z0 l hj (by omega)) gJ1_charAt_3b067_J0_checkIndex_df160 rfl hd_J0_checkIndex_df160 (by decide) (by decide) rfl rfl (Nat.le_of_ble_eq_true rfl) (by omega) (by omega) dJ1_charAt_3b067_3 rfl (fun v1 h hq => ?_)
  obtain ⟨rfl, rfl⟩ := hq
  refine v_aload_n (pc' := 7) F dJ1_charAt_3b067_6 rfl (j := 0) rfl rfl ?_
  refine v_iload_n (pc' := 8) F dJ1_charAt_3b067_7 rfl (j := 1) rfl rfl ?_
  refine v_sByte (pc' := 9) (j := j) F hi hj dJ1_charAt_3b067_8 rfl ?_
  refine v_sipush (pc' := 12) (v := nI 255) F dJ1_charAt_3b067_9 (by decide) rfl ?_
  refine v_iand (pc' := 13) (v := ((gBytes i).getD j 0) &&& (nI 255)) F dJ1_charAt_3b067_12 rfl rfl ?_
  refine v_i2c (pc' := 14) (v := (gBytes i).getD j 0) F dJ1_charAt_3b067_13 (gB_chr i hi j hj).1 rfl ?_
  refine v_zret F E (by omega) (by omega) (gB_chr i hi j hj).2 dJ1_charAt_3b067_14 ?_
  exact ⟨rfl, rfl⟩
theorem hv_J0_isLatin1_aae02 : yJ0_isLatin1_aae02.cls = RJ0 ∧ yJ0_isLatin1_aae02.cls ≠ "java/lang/invoke/MethodHandle" ∧ yJ0_isLatin1_aae02.cls ≠ "java/lang/invoke/VarHandle" ∧ (parseMethodDescriptor yJ0_isLatin1_aae02.desc).map (fun d => d.parameters.length) = some 0 := by decide +kernel
theorem m_J0_charAt_5068e_f9 : Cond.fieldLink RJ0 9 "java/lang/String" "value" "[B" ∈ wsJ0_charAt_5068e := by decide +kernel
theorem hd_J1_charAt_3b067 : yJ1_charAt_3b067.cls ≠ "java/lang/invoke/MethodHandle" ∧ yJ1_charAt_3b067.cls ≠ "java/lang/invoke/VarHandle" ∧ (parseMethodDescriptor yJ1_charAt_3b067.desc).map (fun d => d.parameters.length) = some 2 := by decide +kernel
set_option maxHeartbeats 4000000 in
set_option maxRecDepth 100000 in
theorem c_J0_charAt_5068e (G : gG) (z0 : Nat) (l : Launch) {h : gH} {i j : Nat} (hi : i < 4) (hj : j < (gBytes i).length) : gC G z0 l yJ0_charAt_5068e wsJ0_charAt_5068e 3 64 [.ref (G.2.2 i), .int (nI j)] h (fun v h' => v = some (.int ((gBytes i).getD j 0)) ∧ h' = h) 0 0 := by
  refine gC_of (cc := cJ0_charAt_5068e) (nL := 2) (ret := (some .char)) (by decide) rfl (Nat.le_of_ble_eq_true rfl) ?_
  intro X F E _
  change gF G z0 X cJ0_charAt_5068e 2 RJ0 wsJ0_charAt_5068e (some .char) "charAt" 3 64 _ _ at F
  show gV G z0 X 0 0 h 0 [(0, .ref (G.2.2 i)), (1, .int (nI j))] []
  refine v_aload_n (pc' := 1) F dJ0_charAt_5068e_0 rfl (j := 0) rfl rfl ?_
  refine v_callVS (pc' := 4) (rt := (some .boolean)) (mcc := 0) (msc := 0) (As := []) (st := []) F (fun l => c_J0_isLatin1_aae02 G z0 l hi) gJ0_charAt_5068e_J0_isLatin1_aae02 rfl hv_J0_isLatin1_aae02 (by decide) (by decide) hi rfl rfl (Nat.le_of_ble_eq_true rfl) (by omega) (by omega) dJ0_charAt_5068e_1 rfl (fun v1 h hq => ?_)
  obtain ⟨rfl, rfl⟩ := hq
  refine w_if_eq (tgt := 16) (pc' := 7) F (by omega) dJ0_charAt_5068e_4 (by decide) rfl (fun c0 => absurd c0 (by omega)) (fun _ => ?_)
  refine v_aload_n (pc' := 8) F dJ0_charAt_5068e_7 rfl (j := 0) rfl rfl ?_
  refine v_sValue (pc' := 11) F hi m_J0_charAt_5068e_f9 dJ0_charAt_5068e_8 rfl ?_
  refine v_iload_n (pc' := 12) F dJ0_charAt_5068e_11 rfl (j := 1) rfl rfl ?_
  refine v_callS (pc' := 15) (rt := (some .char)) (mcc := 0) (msc := 0) (As := [.ref (G.2.2 (20 + i)), .int (nI j)]) (st := []) F (fun l => c_J1_charAt_3b067 G z0 l hi hj) gJ0_charAt_5068e_J1_charAt_3b067 rfl hd_J1_charAt_3b067 (by decide) (by decide) rfl rfl (Nat.le_of_ble_eq_true rfl) (by omega) (by omega) dJ0_charAt_5068e_12 rfl (fun v2 h hq => ?_)
  obtain ⟨rfl, rfl⟩ := hq
  refine v_zret F E (by omega) (by omega) (gB_chr i hi j hj).2 dJ0_charAt_5068e_15 ?_
  exact ⟨rfl, rfl⟩
