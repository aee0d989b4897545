theorem hv_X6_gap : yX6_gap.cls = RX6 ∧ yX6_gap.cls ≠ "java/lang/invoke/MethodHandle" ∧ yX6_gap.cls ≠ "java/lang/invoke/VarHandle" ∧ (parseMethodDescriptor yX6_gap.desc).map (fun d => d.parameters.length) = some 0 := by decide +kernel
theorem hv_X7_gap : yX7_gap.cls = RX7 ∧ yX7_gap.cls ≠ "java/lang/invoke/MethodHandle" ∧ yX7_gap.cls ≠ "java/lang/invoke/VarHandle" ∧ (parseMethodDescriptor yX7_gap.desc).map (fun d => d.parameters.length) = some 0 := by decide +kernel
set_option maxHeartbeats 4000000 in
set_option maxRecDepth 100000 in
theorem op_gap {G : gG} {z0 : Nat} {X : gX} {mc ms cells slots i N sb k : Nat} {nm : String} {xs : Nat → Int32} {h : gH} {x buf rd bks oq rw orw root m rows asd vals many way told oth lst text out : Nat} {bk bv : Nat → Nat} (F : gF G z0 X cL_law 9 RL wsL_law (some .boolean) nm 14 526 mc ms) (hst : X.2.1.stackTraces = false) (hSc : gSc z0 X sb N xs) (hN : N ≤ 3072) (hiN : i + 6 ≤ N) (hcc : cells + 1173 ≤ mc) (hss : slots + 14000 ≤ ms) (hk9 : k < 60000) (hL : LI G h x buf rd bks oq rw orw root m rows asd vals many way told oth lst text out bk bv k) (K : ∀ (c9 s9 : Nat) (h' : gH), c9 ≤ cells + 1173 → s9 ≤ slots + 14000 → LI G h' x buf rd bks oq rw orw root m rows asd vals many way told oth lst text out bk bv (k + 1) → gV G z0 X c9 s9 h' 1252 [(4, .int (nI i)), (3, .ref out), (2, .ref m), (1, .ref x), (0, .ref sb)] []) : gV G z0 X cells slots h 877 [(4, .int (nI i)), (3, .ref out), (2, .ref m), (1, .ref x), (0, .ref sb)] [] := by
  obtain ⟨t, bl, off, cur, und, now, Ds, g, hCI, hMI, hAP, ho⟩ := hL
  obtain ⟨hX, ⟨hc, hu, hb5⟩, ⟨fb, hbuf, hft⟩, hRd, hsc, hro, hVr, hring, ⟨hbi, hvi⟩, hDs⟩ := id hCI
  obtain ⟨w9, hdr, ad, as, hcl, hroot⟩ := hCI.now
  have hB := hcl.1
  have hD := hcl.dat w9
  have hn := w9.2.1
  have h1n := w9.1
  have hx6 := hX.1
  obtain ⟨th, len, spot, fa, num, frm, may, R, A, T, hMS, hnow, hasd, htext, hT, hsl⟩ := id hMI
  refine v_aload_n (pc' := 878) F dL_law_877 rfl (j := 3) rfl rfl ?_
  refine v_callV (pc' := 881) (rt := (some .int)) (mcc := 0) (msc := 0) (As := []) (st := []) F (fun l => c_X6_gap G z0 l hX hc hu hn hB hD hro hsc) gL_law_X6_gap rfl hv_X6_gap (by decide) (by decide) hx6 rfl rfl rfl (Nat.le_of_ble_eq_true rfl) (by omega) (by omega) dL_law_878 rfl (fun v2 h1 hq => ?_)
  obtain ⟨hv, hs1, f1⟩ := hq
  obtain ⟨hC1, hM1, ho1⟩ := LI.q hCI hMI hAP ho hs1 f1
  subst hv
  obtain ⟨th2, len2, spot2, fa2, num2, frm2, may2, R2, A2, T2, hMS2, hnow2, hasd2, htext2, hT2, hsl2⟩ := id hM1
  have hS2 : slD R2 (330 * now) (Ds 0) := by have h0 := hsl2 0 (Nat.zero_le _); rwa [show (now + 9 - 0) % 9 = now by omega] at h0
  obtain ⟨_, _, _, _, _, _, hm2, -⟩ := id hMS2
  refine v_aload_n (pc' := 882) F dL_law_881 rfl (j := 2) rfl rfl ?_
  refine v_callV (pc' := 885) (rt := (some .int)) (mcc := 0) (msc := 0) (As := []) (st := [.int (nI 0)]) F (fun l => c_X7_gap G z0 l hMS2 hnow2 w9 hS2) gL_law_X7_gap rfl hv_X7_gap (by decide) (by decide) hm2 rfl rfl rfl (Nat.le_of_ble_eq_true rfl) (by omega) (by omega) dL_law_882 rfl (fun v4 h3 hqm => ?_)
  obtain ⟨rfl, hMS3, fQ⟩ := hqm
  obtain ⟨hC3, ho3⟩ := LI.m hC1 hM1 hAP ho1 (sub_q m rows asd vals many way told oth lst text) fQ
  obtain ⟨ha3, ht3⟩ := mS.at hMS2 hasd2 htext2 fQ
  refine w_icmp_eq (tgt := 1252) (pc' := 888) F (by omega) (by omega) dL_law_885 (by decide) rfl (fun _ => ?_) (fun c0 => absurd rfl c0)
  refine v_sub (L' := [(4, .int (nI i)), (3, .ref out), (2, .ref m), (1, .ref x), (0, .ref sb)]) [0, 1, 2, 3, 4] rfl ?_
  exact K _ _ _ (by omega) (by omega) ⟨t, bl, off, cur, und, now, Ds, g, hC3.more, ⟨_, len2, spot2, fa2, num2, frm2, may2, R2, A2, T2, hMS3, hnow2, ha3, ht3, hT2, hsl2⟩, hAP, ho3⟩
theorem hv_X6_checksum : yX6_checksum.cls = RX6 ∧ yX6_checksum.cls ≠ "java/lang/invoke/MethodHandle" ∧ yX6_checksum.cls ≠ "java/lang/invoke/VarHandle" ∧ (parseMethodDescriptor yX6_checksum.desc).map (fun d => d.parameters.length) = some 0 := by decide +kernel
theorem hv_X7_checksum : yX7_checksum.cls = RX7 ∧ yX7_checksum.cls ≠ "java/lang/invoke/MethodHandle" ∧ yX7_checksum.cls ≠ "java/lang/invoke/VarHandle" ∧ (parseMethodDescriptor yX7_checksum.desc).map (fun d => d.parameters.length) = some 0 := by decide +kernel
set_option maxHeartbeats 4000000 in
set_option maxRecDepth 100000 in
theorem op_checksum {G : gG} {z0 : Nat} {X : gX} {mc ms cells slots i N sb k : Nat} {nm : String} {xs : Nat → Int32} {h : gH} {x buf rd bks oq rw orw root m rows asd vals many way told oth lst text out : Nat} {bk bv : Nat → Nat} (F : gF G z0 X cL_law 9 RL wsL_law (some .boolean) nm 14 526 mc ms) (hst : X.2.1.stackTraces = false) (hSc : gSc z0 X sb N xs) (hN : N ≤ 3072) (hiN : i + 6 ≤ N) (hcc : cells + 1173 ≤ mc) (hss : slots + 14000 ≤ ms) (hk9 : k < 60000) (hL : LI G h x buf rd bks oq rw orw root m rows asd vals many way told oth lst text out bk bv k) (K : ∀ (c9 s9 : Nat) (h' : gH), c9 ≤ cells + 1173 → s9 ≤ slots + 14000 → LI G h' x buf rd bks oq rw orw root m rows asd vals many way told oth lst text out bk bv (k + 1) → gV G z0 X c9 s9 h' 1252 [(4, .int (nI i)), (3, .ref out), (2, .ref m), (1, .ref x), (0, .ref sb)] []) : gV G z0 X cells slots h 1238 [(4, .int (nI i)), (3, .ref out), (2, .ref m), (1, .ref x), (0, .ref sb)] [] := by
  obtain ⟨t, bl, off, cur, und, now, Ds, g, hCI, hMI, hAP, ho⟩ := hL
  obtain ⟨hX, ⟨hc, hu, hb5⟩, ⟨fb, hbuf, hft⟩, hRd, hsc, hro, hVr, hring, ⟨hbi, hvi⟩, hDs⟩ := id hCI
  obtain ⟨w9, hdr, ad, as, hcl, hroot⟩ := hCI.now
  have hB := hcl.1
  have hD := hcl.dat w9
  have hn := w9.2.1
  have h1n := w9.1
  have hx6 := hX.1
  obtain ⟨th, len, spot, fa, num, frm, may, R, A, T, hMS, hnow, hasd, htext, hT, hsl⟩ := id hMI
  refine v_aload_n (pc' := 1239) F dL_law_1238 rfl (j := 3) rfl rfl ?_
  refine v_callV (pc' := 1242) (rt := (some .long)) (mcc := 0) (msc := 0) (As := []) (st := []) F (fun l => c_X6_checksum G z0 l hX hc hu hn hB hD hro hsc) gL_law_X6_checksum rfl hv_X6_checksum (by decide) (by decide) hx6 rfl rfl rfl (Nat.le_of_ble_eq_true rfl) (by omega) (by omega) dL_law_1239 rfl (fun v2 h1 hq => ?_)
  obtain ⟨hv, hs1, f1⟩ := hq
  obtain ⟨hC1, hM1, ho1⟩ := LI.q hCI hMI hAP ho hs1 f1
  rw [br_ck w9 hcl] at hv
  subst hv
  obtain ⟨th2, len2, spot2, fa2, num2, frm2, may2, R2, A2, T2, hMS2, hnow2, hasd2, htext2, hT2, hsl2⟩ := id hM1
  have hS2 : slD R2 (330 * now) (Ds 0) := by have h0 := hsl2 0 (Nat.zero_le _); rwa [show (now + 9 - 0) % 9 = now by omega] at h0
  obtain ⟨_, _, _, _, _, _, hm2, -⟩ := id hMS2
  refine v_aload_n (pc' := 1243) F dL_law_1242 rfl (j := 2) rfl rfl ?_
  refine v_callV (pc' := 1246) (rt := (some .long)) (mcc := 0) (msc := 0) (As := []) (st := [.long (mxL 0 (ckL (Ds 0).1 (Ds 0).2.1 (Ds 0).2.2.1 id (asD (Ds 0)) (Ds 0).2.2.2.2))]) F (fun l => c_X7_checksum G z0 l hMS2 hnow2 w9 hS2) gL_law_X7_checksum rfl hv_X7_checksum (by decide) (by decide) hm2 rfl rfl rfl (Nat.le_of_ble_eq_true rfl) (by omega) (by omega) dL_law_1243 rfl (fun v4 h3 hqm => ?_)
  obtain ⟨rfl, hMS3, fQ⟩ := hqm
  obtain ⟨hC3, ho3⟩ := LI.m hC1 hM1 hAP ho1 (sub_q m rows asd vals many way told oth lst text) fQ
  obtain ⟨ha3, ht3⟩ := mS.at hMS2 hasd2 htext2 fQ
  refine v_lcmp (pc' := 1247) F dL_law_1246 rfl ?_
  refine v_if_eq (tgt := 1252) (pc' := 1250) F dL_law_1247 (by decide) rfl (fun _ => ?_) (fun c0 => absurd (lg_self _) c0)
  refine v_sub (L' := [(4, .int (nI i)), (3, .ref out), (2, .ref m), (1, .ref x), (0, .ref sb)]) [0, 1, 2, 3, 4] rfl ?_
  exact K _ _ _ (by omega) (by omega) ⟨t, bl, off, cur, und, now, Ds, g, hC3.more, ⟨_, len2, spot2, fa2, num2, frm2, may2, R2, A2, T2, hMS3, hnow2, ha3, ht3, hT2, hsl2⟩, hAP, ho3⟩
theorem hv_X6_errorOffset : yX6_errorOffset.cls = RX6 ∧ yX6_errorOffset.cls ≠ "java/lang/invoke/MethodHandle" ∧ yX6_errorOffset.cls ≠ "java/lang/invoke/VarHandle" ∧ (parseMethodDescriptor yX6_errorOffset.desc).map (fun d => d.parameters.length) = some 0 := by decide +kernel
theorem hv_X7_errorOffset : yX7_errorOffset.cls = RX7 ∧ yX7_errorOffset.cls ≠ "java/lang/invoke/MethodHandle" ∧ yX7_errorOffset.cls ≠ "java/lang/invoke/VarHandle" ∧ (parseMethodDescriptor yX7_errorOffset.desc).map (fun d => d.parameters.length) = some 0 := by decide +kernel
set_option maxHeartbeats 4000000 in
set_option maxRecDepth 100000 in
theorem op_errorOffset {G : gG} {z0 : Nat} {X : gX} {mc ms cells slots i N sb k : Nat} {nm : String} {xs : Nat → Int32} {h : gH} {x buf rd bks oq rw orw root m rows asd vals many way told oth lst text out : Nat} {bk bv : Nat → Nat} (F : gF G z0 X cL_law 9 RL wsL_law (some .boolean) nm 14 526 mc ms) (hst : X.2.1.stackTraces = false) (hSc : gSc z0 X sb N xs) (hN : N ≤ 3072) (hiN : i + 6 ≤ N) (hcc : cells + 1173 ≤ mc) (hss : slots + 14000 ≤ ms) (hk9 : k < 60000) (hL : LI G h x buf rd bks oq rw orw root m rows asd vals many way told oth lst text out bk bv k) (K : ∀ (c9 s9 : Nat) (h' : gH), c9 ≤ cells + 1173 → s9 ≤ slots + 14000 → LI G h' x buf rd bks oq rw orw root m rows asd vals many way told oth lst text out bk bv (k + 1) → gV G z0 X c9 s9 h' 1252 [(4, .int (nI i)), (3, .ref out), (2, .ref m), (1, .ref x), (0, .ref sb)] []) : gV G z0 X cells slots h 269 [(4, .int (nI i)), (3, .ref out), (2, .ref m), (1, .ref x), (0, .ref sb)] [] := by
  obtain ⟨t, bl, off, cur, und, now, Ds, g, hCI, hMI, hAP, ho⟩ := hL
  obtain ⟨hX, ⟨hc, hu, hb5⟩, ⟨fb, hbuf, hft⟩, hRd, hsc, hro, hVr, hring, ⟨hbi, hvi⟩, hDs⟩ := id hCI
  obtain ⟨w9, hdr, ad, as, hcl, hroot⟩ := hCI.now
  have hB := hcl.1
  have hD := hcl.dat w9
  have hn := w9.2.1
  have h1n := w9.1
  have hx6 := hX.1
  obtain ⟨th, len, spot, fa, num, frm, may, R, A, T, hMS, hnow, hasd, htext, hT, hsl⟩ := id hMI
  refine v_aload_n (pc' := 270) F dL_law_269 rfl (j := 3) rfl rfl ?_
  refine v_callV (pc' := 273) (rt := (some .int)) (mcc := 0) (msc := 0) (As := []) (st := []) F (fun l => c_X6_errorOffset G z0 l hX hc hu) gL_law_X6_errorOffset rfl hv_X6_errorOffset (by decide) (by decide) hx6 rfl rfl rfl (Nat.le_of_ble_eq_true rfl) (by omega) (by omega) dL_law_270 rfl (fun v1 h hq => ?_)
  obtain ⟨rfl, rfl⟩ := hq
  obtain ⟨th2, len2, spot2, fa2, num2, frm2, may2, R2, A2, T2, hMS2, hnow2, hasd2, htext2, hT2, hsl2⟩ := id hMI
  have hS2 : slD R2 (330 * now) (Ds 0) := by have h0 := hsl2 0 (Nat.zero_le _); rwa [show (now + 9 - 0) % 9 = now by omega] at h0
  obtain ⟨_, _, _, _, _, _, hm2, -⟩ := id hMS2
  refine v_aload_n (pc' := 274) F dL_law_273 rfl (j := 2) rfl rfl ?_
  refine v_callV (pc' := 277) (rt := (some .int)) (mcc := 0) (msc := 0) (As := []) (st := [.int off]) F (fun l => c_X7_errorOffset G z0 l hMS2) gL_law_X7_errorOffset rfl hv_X7_errorOffset (by decide) (by decide) hm2 rfl rfl rfl (Nat.le_of_ble_eq_true rfl) (by omega) (by omega) dL_law_274 rfl (fun v3 h2 hqm => ?_)
  obtain ⟨rfl, hMS3, fQ⟩ := hqm
  obtain ⟨hC3, ho3⟩ := LI.m hCI hMI hAP ho (sub_q m rows asd vals many way told oth lst text) fQ
  obtain ⟨ha3, ht3⟩ := mS.at hMS2 hasd2 htext2 fQ
  refine v_icmp_eq (tgt := 1252) (pc' := 280) F dL_law_277 (by decide) rfl (fun _ => ?_) (fun c0 => absurd rfl c0)
  refine v_sub (L' := [(4, .int (nI i)), (3, .ref out), (2, .ref m), (1, .ref x), (0, .ref sb)]) [0, 1, 2, 3, 4] rfl ?_
  exact K _ _ _ (by omega) (by omega) ⟨t, bl, off, cur, und, now, Ds, g, hC3.more, ⟨_, len2, spot2, fa2, num2, frm2, may2, R2, A2, T2, hMS3, hnow2, ha3, ht3, hT2, hsl2⟩, hAP, ho3⟩
theorem hv_X6_undo : yX6_undo.cls = RX6 ∧ yX6_undo.cls ≠ "java/lang/invoke/MethodHandle" ∧ yX6_undo.cls ≠ "java/lang/invoke/VarHandle" ∧ (parseMethodDescriptor yX6_undo.desc).map (fun d => d.parameters.length) = some 0 := by decide +kernel
theorem hv_X7_undo : yX7_undo.cls = RX7 ∧ yX7_undo.cls ≠ "java/lang/invoke/MethodHandle" ∧ yX7_undo.cls ≠ "java/lang/invoke/VarHandle" ∧ (parseMethodDescriptor yX7_undo.desc).map (fun d => d.parameters.length) = some 0 := by decide +kernel
theorem LI.m2 {G : gG} {h h' : gH} {x buf rd bks oq rw orw root : Nat} {bk bv t : Nat → Nat} {bl : Nat} {off : Int32} {cur und k : Nat} {Ds : Nat → Dt} {m rows asd vals many way told oth lst text out now2 bl2 und2 : Nat} {off2 : Int32} {t2 : Nat → Nat} {Ds2 : Nat → Dt} {g : Nat → Int64} {S : List Nat} (c : CI G h x buf rd bks oq rw orw root bk bv t bl off cur und k Ds) (mi : MI G h m rows asd vals many way told oth lst text t2 bl2 off2 now2 und2 Ds2) (ap : AP buf rw orw way told oth text) (ho : h out = some (oL G 1 g)) (hS : ∀ s, s ∈ S → s ∈ [m, rows, asd, vals, many, way, told, oth, lst, text]) (f : gfr S h h') : CI G h' x buf rd bks oq rw orw root bk bv t bl off cur und k Ds ∧ h' out = some (oL G 1 g) := by
  obtain ⟨fb, c5, -⟩ := c.2.2.1
  obtain ⟨⟨f2, c9⟩, ⟨f3, c10⟩, -⟩ := c.2.2.2.2.1
  exact ⟨c.fr (fun s hs => mi.nc c5 c9 c10 ap s (hS s hs)) f, f _ _ (fun hm => mi.no ho (.inr (.inl rfl)) _ (hS _ hm) rfl) ho⟩
theorem mS.atT {G : gG} {h h' : gH} {m rows asd vals many way told oth lst text now : Nat} {th und fed len spot fa fat num frm may : Int32} {R A T : Nat → Int32} (c : mS G h m rows asd vals many way told oth lst text th now und fed len spot fa fat num frm may R) (ha : h asd = some (oI G 330 A)) (ht : h text = some (oI G 500 T)) (f : gfr (text :: [m, vals, many, way, told, oth, lst]) h h') : h' asd = some (oI G 330 A) := by
  obtain ⟨fl, rl, kd, ok, st, wm, hm, hrows, ⟨V, hvals⟩, ⟨M, hmany⟩, ⟨W, hway⟩, ⟨f1, htold⟩, ⟨g, hoth⟩, ⟨ll, hlst⟩, hn⟩ := c
  exact f _ _ (gnc (g_neL ha ht (by decide)) (gnc (Ne.symm (g_neA hm ha)) (gnc (g_neL ha hvals (by decide)) (gnc (g_neL ha hmany (by decide)) (gnc (g_neL ha hway (by decide)) (gnc (g_neL ha htold (by decide)) (gnc (g_neL ha hoth (by decide)) (gnc (g_neL ha hlst (by decide)) gn0)))))))) ha
theorem up_b {f : Nat → Int32} {t : Nat → Nat} {k s : Nat} {w : Int32} (h : ∀ j, j < k → f j = sb_b (t j) ∧ t j < 256) : ∀ j, j < k + 1 → upd f k (bt w s) j = sb_b (va_up t k (tc w s) j) ∧ va_up t k (tc w s) j < 256 := fun j hj => by
  unfold va_up
  by_cases e : j = k
  · rw [if_pos e, e, upd_eq]
    exact ⟨bt_tc w s, tc_lt w s⟩
  · rw [if_neg e, upd_ne e]
    exact h j (by omega)
theorem up_t {f : Nat → Int32} {t : Nat → Nat} {k s : Nat} {w : Int32} (h : ∀ j, j < k → f j = nI (t j)) : ∀ j, j < k + 1 → upd f k (nI (tc w s)) j = nI (va_up t k (tc w s) j) := fun j hj => by
  unfold va_up
  by_cases e : j = k
  · rw [if_pos e, e, upd_eq]
  · rw [if_neg e, upd_ne e]
    exact h j (by omega)
theorem b20_t {f : Nat → Int32} {t : Nat → Nat} {k : Nat} (w0 w1 w2 w3 w4 : Int32) (h : ∀ j, j < k → f j = sb_b (t j) ∧ t j < 256) : ∀ j, j < k + 20 → b20 f k w0 w1 w2 w3 w4 j = sb_b (t20 t k w0 w1 w2 w3 w4 j) ∧ t20 t k w0 w1 w2 w3 w4 j < 256 :=
  up_b (up_b (up_b (up_b (up_b (up_b (up_b (up_b (up_b (up_b (up_b (up_b (up_b (up_b (up_b (up_b (up_b (up_b (up_b (up_b h)))))))))))))))))))
theorem T20_t {f : Nat → Int32} {t : Nat → Nat} {k : Nat} (w0 w1 w2 w3 w4 : Int32) (h : ∀ j, j < k → f j = nI (t j)) : ∀ j, j < k + 20 → T20 f k w0 w1 w2 w3 w4 j = nI (t20 t k w0 w1 w2 w3 w4 j) :=
  up_t (up_t (up_t (up_t (up_t (up_t (up_t (up_t (up_t (up_t (up_t (up_t (up_t (up_t (up_t (up_t (up_t (up_t (up_t (up_t h)))))))))))))))))))
theorem f2d_ok {D : Dt} (w : wfD D) : vf_n64 (FP.f2d (meanN D.1 D.2.2.2.2)) := by
  unfold meanN
  have h1 := w.2.1
  have h2 := allS_lt w
  split
  · exact fd2_0
  · have := fd2_all (D.1 - 1 - 1) (by omega) ⟨_, h2⟩
    simp only at this
    rwa [show D.1 - 1 - 1 + 1 = D.1 - 1 by omega] at this
section GV9
variable {G : gG} {z0 : Nat} {X : gX} {cc : ByteArray} {nL fr lo mc ms : Nat} {own nm : String} {Ts : List Cond} {ret : Option FieldType} {cells slots : Nat} {h : gH} {pc pc' : Nat} {L L' : List (Nat × Value)} {st : List Value}
theorem v_f2d (F : gF G z0 X cc nL own Ts ret nm fr lo mc ms) {x : UInt32} (hne : vf_n64 (FP.f2d x)) (d : decode cc pc = .ok (.f2d, 1)) (hp : pc + 1 = pc') (k : gV G z0 X cells slots h pc' L (.double (FP.f2d x) :: st)) : gV G z0 X cells slots h pc L (.float x :: st) := by
  obtain ⟨p, l, e, R, s, m, args, below, meth, c, Q⟩ := X
  obtain ⟨hx, hb, hml, hown, hts, ⟨hK, hKr⟩, hz, hlk, hr, hnm, hR⟩ := F
  subst hp
  intro H locs ls hG hS hL
  exact lv_f2d hx hb d hne (k H locs ls hG hS hL)
theorem v_dcmp (F : gF G z0 X cc nL own Ts ret nm fr lo mc ms) {x y : UInt64} {op : CmpOp} (d : decode cc pc = .ok (.dcmp op, 1)) (hp : pc + 1 = pc') (k : gV G z0 X cells slots h pc' L (.int (Op.cmpValue (FP.dcmp x y) op) :: st)) : gV G z0 X cells slots h pc L (.double y :: .double x :: st) := by
  obtain ⟨p, l, e, R, s, m, args, below, meth, c, Q⟩ := X
  obtain ⟨hx, hb, hml, hown, hts, ⟨hK, hKr⟩, hz, hlk, hr, hnm, hR⟩ := F
  subst hp
  intro H locs ls hG hS hL
  exact lv_dcmp hx hb d (k H locs ls hG hS hL)
theorem v_dload9 (F : gF G z0 X cc nL own Ts ret nm fr lo mc ms) {i j : Nat} {x : UInt64} (d : decode cc pc = .ok (.dload i, 2)) (hl : L[j]? = some (i, .double x)) (hp : pc + 2 = pc') (k : gV G z0 X cells slots h pc' L (.double x :: st)) : gV G z0 X cells slots h pc L st := by
  obtain ⟨p, l, e, R, s, m, args, below, meth, c, Q⟩ := X
  obtain ⟨hx, hb, hml, hown, hts, ⟨hK, hKr⟩, hz, hlk, hr, hnm, hR⟩ := F
  subst hp
  intro H locs ls hG hS hL
  exact lv_dload hx hb d (lv_at hL j hl) (k H locs ls hG hS hL)
end GV9
set_option maxHeartbeats 4000000 in
set_option maxRecDepth 100000 in
theorem op_undo {G : gG} {z0 : Nat} {X : gX} {mc ms cells slots i N sb k : Nat} {nm : String} {xs : Nat → Int32} {h : gH} {x buf rd bks oq rw orw root m rows asd vals many way told oth lst text out : Nat} {bk bv : Nat → Nat} (F : gF G z0 X cL_law 9 RL wsL_law (some .boolean) nm 14 526 mc ms) (hst : X.2.1.stackTraces = false) (hSc : gSc z0 X sb N xs) (hN : N ≤ 3072) (hiN : i + 6 ≤ N) (hcc : cells + 1173 ≤ mc) (hss : slots + 14000 ≤ ms) (hk9 : k < 60000) (hL : LI G h x buf rd bks oq rw orw root m rows asd vals many way told oth lst text out bk bv k) (K : ∀ (c9 s9 : Nat) (h' : gH), c9 ≤ cells + 1173 → s9 ≤ slots + 14000 → LI G h' x buf rd bks oq rw orw root m rows asd vals many way told oth lst text out bk bv (k + 1) → gV G z0 X c9 s9 h' 1252 [(4, .int (nI i)), (3, .ref out), (2, .ref m), (1, .ref x), (0, .ref sb)] []) : gV G z0 X cells slots h 1225 [(4, .int (nI i)), (3, .ref out), (2, .ref m), (1, .ref x), (0, .ref sb)] [] := by
  obtain ⟨t, bl, off, cur, und, now, Ds, g, hCI, hMI, hAP, ho⟩ := hL
  obtain ⟨hX, ⟨hc, hu, hb5⟩, ⟨fb, hbuf, hft⟩, hRd, hsc, hro, hVr, hring, ⟨hbi, hvi⟩, hDs⟩ := id hCI
  obtain ⟨w9, hdr, ad, as, hcl, hroot⟩ := hCI.now
  have hB := hcl.1
  have hD := hcl.dat w9
  have hn := w9.2.1
  have h1n := w9.1
  have hx6 := hX.1
  obtain ⟨th, len, spot, fa, num, frm, may, R, A, T, hMS, hnow, hasd, htext, hT, hsl⟩ := id hMI
  refine v_aload_n (pc' := 1226) F dL_law_1225 rfl (j := 3) rfl rfl ?_
  refine v_callV (pc' := 1229) (rt := (some .int)) (mcc := 0) (msc := 0) (As := []) (st := []) F (fun l => c_X6_undo G z0 l hX hc hu) gL_law_X6_undo rfl hv_X6_undo (by decide) (by decide) hx6 rfl rfl rfl (Nat.le_of_ble_eq_true rfl) (by omega) (by omega) dL_law_1226 rfl (fun v2 h1 hq => ?_)
  rcases hq with ⟨hu0, hv, he⟩ | ⟨hu0, hv, hX1, f1⟩
  · replace he := he.symm
    subst he hv
    obtain ⟨th2, len2, spot2, fa2, num2, frm2, may2, R2, A2, T2, hMS2, hnow2, hasd2, htext2, hT2, hsl2⟩ := id hMI
    have hS2 : slD R2 (330 * now) (Ds 0) := by have h0 := hsl2 0 (Nat.zero_le _); rwa [show (now + 9 - 0) % 9 = now by omega] at h0
    obtain ⟨_, _, _, _, _, _, hm2, -⟩ := id hMS2
    refine v_aload_n (pc' := 1230) F dL_law_1229 rfl (j := 2) rfl rfl ?_
    refine v_callV (pc' := 1233) (rt := (some .int)) (mcc := 0) (msc := 0) (As := []) (st := [.int (-1)]) F (fun l => c0_X7_undo G z0 l hMS2 hu0) gL_law_X7_undo rfl hv_X7_undo (by decide) (by decide) hm2 rfl rfl rfl (Nat.le_of_ble_eq_true rfl) (by omega) (by omega) dL_law_1230 rfl (fun v4 h3 hqm => ?_)
    obtain ⟨rfl, hMS3, fQ⟩ := hqm
    obtain ⟨hC3, ho3⟩ := LI.m hCI hMI hAP ho (sub_q m rows asd vals many way told oth lst text) fQ
    obtain ⟨ha3, ht3⟩ := mS.at hMS2 hasd2 htext2 fQ
    refine v_icmp_eq (tgt := 1252) (pc' := 1236) F dL_law_1233 (by decide) rfl (fun _ => ?_) (fun c0 => absurd rfl c0)
    refine v_sub (L' := [(4, .int (nI i)), (3, .ref out), (2, .ref m), (1, .ref x), (0, .ref sb)]) [0, 1, 2, 3, 4] rfl ?_
    exact K _ _ _ (by omega) (by omega) ⟨t, bl, off, cur, und, now, Ds, g, hC3.more, ⟨_, len2, spot2, fa2, num2, frm2, may2, R2, A2, T2, hMS3, hnow2, ha3, ht3, hT2, hsl2⟩, hAP, ho3⟩
  · subst hv
    have hC1 := hCI.undo hu0 f1 hX1
    have hM1 := hMI.fr (nin (fun s9 hs9 a9 ha9 => by rw [List.mem_singleton.mp hs9]; exact hMI.no hx6 (.inl (by show 6 < 7; decide)) a9 ha9)) f1
    have ho1 := f1 _ _ (gnc (ne9 ho hx6 (by show 10 ≠ 6; decide)) gn0) ho
    obtain ⟨th2, len2, spot2, fa2, num2, frm2, may2, R2, A2, T2, hMS2, hnow2, hasd2, htext2, hT2, hsl2⟩ := id hM1
    have hS2 : slD R2 (330 * now) (Ds 0) := by have h0 := hsl2 0 (Nat.zero_le _); rwa [show (now + 9 - 0) % 9 = now by omega] at h0
    obtain ⟨_, _, _, _, _, _, hm2, -⟩ := id hMS2
    refine v_aload_n (pc' := 1230) F dL_law_1229 rfl (j := 2) rfl rfl ?_
    refine v_callV (pc' := 1233) (rt := (some .int)) (mcc := 0) (msc := 0) (As := []) (st := [.int (nI (und - 1))]) F (fun l => c_X7_undo G z0 l hMS2 hnow2 hu hu0) gL_law_X7_undo rfl hv_X7_undo (by decide) (by decide) hm2 rfl rfl rfl (Nat.le_of_ble_eq_true rfl) (by omega) (by omega) dL_law_1230 rfl (fun v6 h5 hqm => ?_)
    obtain ⟨rfl, hMS3, fQ⟩ := hqm
    obtain ⟨hC3, ho3⟩ := LI.m2 hC1 hM1 hAP ho1 (sub_q m rows asd vals many way told oth lst text) fQ
    obtain ⟨ha3, ht3⟩ := mS.at hMS2 hasd2 htext2 fQ
    refine w_icmp_eq (tgt := 1252) (pc' := 1236) F (by omega) (by omega) dL_law_1233 (by decide) rfl (fun _ => ?_) (fun c0 => absurd rfl c0)
    refine v_sub (L' := [(4, .int (nI i)), (3, .ref out), (2, .ref m), (1, .ref x), (0, .ref sb)]) [0, 1, 2, 3, 4] rfl ?_
    exact K _ _ _ (by omega) (by omega) ⟨t, bl, off, _, _, (now + 8) % 9, _, g, hC3, ⟨_, len2, spot2, fa2, num2, frm2, may2, R2, A2, T2, hMS3, Nat.mod_lt _ (by omega), ha3, ht3, hT2, sl_undo hnow2 hu0 hu hsl2⟩, hAP, ho3⟩
theorem hv_X6_append : yX6_append.cls = RX6 ∧ yX6_append.cls ≠ "java/lang/invoke/MethodHandle" ∧ yX6_append.cls ≠ "java/lang/invoke/VarHandle" ∧ (parseMethodDescriptor yX6_append.desc).map (fun d => d.parameters.length) = some 5 := by decide +kernel
theorem hv_X7_append : yX7_append.cls = RX7 ∧ yX7_append.cls ≠ "java/lang/invoke/MethodHandle" ∧ yX7_append.cls ≠ "java/lang/invoke/VarHandle" ∧ (parseMethodDescriptor yX7_append.desc).map (fun d => d.parameters.length) = some 5 := by decide +kernel
set_option maxHeartbeats 4000000 in
set_option maxRecDepth 100000 in
theorem op_append {G : gG} {z0 : Nat} {X : gX} {mc ms cells slots i N sb k : Nat} {nm : String} {xs : Nat → Int32} {h : gH} {x buf rd bks oq rw orw root m rows asd vals many way told oth lst text out : Nat} {bk bv : Nat → Nat} (F : gF G z0 X cL_law 9 RL wsL_law (some .boolean) nm 14 526 mc ms) (hst : X.2.1.stackTraces = false) (hSc : gSc z0 X sb N xs) (hN : N ≤ 3072) (hiN : i + 6 ≤ N) (hcc : cells + 1173 ≤ mc) (hss : slots + 14000 ≤ ms) (hk9 : k < 60000) (hL : LI G h x buf rd bks oq rw orw root m rows asd vals many way told oth lst text out bk bv k) (K : ∀ (c9 s9 : Nat) (h' : gH), c9 ≤ cells + 1173 → s9 ≤ slots + 14000 → LI G h' x buf rd bks oq rw orw root m rows asd vals many way told oth lst text out bk bv (k + 1) → gV G z0 X c9 s9 h' 1252 [(4, .int (nI i)), (3, .ref out), (2, .ref m), (1, .ref x), (0, .ref sb)] []) : gV G z0 X cells slots h 140 [(4, .int (nI i)), (3, .ref out), (2, .ref m), (1, .ref x), (0, .ref sb)] [] := by
  obtain ⟨t, bl, off, cur, und, now, Ds, g, hCI, hMI, hAP, ho⟩ := hL
  obtain ⟨hX, ⟨hc, hu, hb5⟩, ⟨fb, hbuf, hft⟩, hRd, hsc, hro, hVr, hring, ⟨hbi, hvi⟩, hDs⟩ := id hCI
  obtain ⟨w9, hdr, ad, as, hcl, hroot⟩ := hCI.now
  have hB := hcl.1
  have hD := hcl.dat w9
  have hn := w9.2.1
  have h1n := w9.1
  have hx6 := hX.1
  obtain ⟨th, len, spot, fa, num, frm, may, R, A, T, hMS, hnow, hasd, htext, hT, hsl⟩ := id hMI
  obtain ⟨w1, hw1⟩ : ∃ w, xs (i + 1) = w := ⟨_, rfl⟩
  obtain ⟨w2, hw2⟩ : ∃ w, xs (i + 2) = w := ⟨_, rfl⟩
  obtain ⟨w3, hw3⟩ : ∃ w, xs (i + 3) = w := ⟨_, rfl⟩
  obtain ⟨w4, hw4⟩ : ∃ w, xs (i + 4) = w := ⟨_, rfl⟩
  obtain ⟨w5, hw5⟩ : ∃ w, xs (i + 5) = w := ⟨_, rfl⟩
  refine v_aload_n (pc' := 141) F dL_law_140 rfl (j := 3) rfl rfl ?_
  refine v_aload_n (pc' := 142) F dL_law_141 rfl (j := 4) rfl rfl ?_
  refine v_iload (pc' := 144) F dL_law_142  (j := 0) rfl rfl ?_
  refine v_iconst (pc' := 145) (v := nI 1) F dL_law_144 (by decide) rfl ?_
  refine v_iadd (pc' := 146) (v := nI (i + 1)) F dL_law_145 (nI_add i 1) rfl ?_
  refine w_sld (pc' := 147) (j := i + 1) F hSc (by omega) (by omega) hw1 dL_law_146 rfl ?_
  refine v_aload_n (pc' := 148) F dL_law_147 rfl (j := 4) rfl rfl ?_
  refine v_iload (pc' := 150) F dL_law_148  (j := 0) rfl rfl ?_
  refine v_iconst (pc' := 151) (v := nI 2) F dL_law_150 (by decide) rfl ?_
  refine v_iadd (pc' := 152) (v := nI (i + 2)) F dL_law_151 (nI_add i 2) rfl ?_
  refine w_sld (pc' := 153) (j := i + 2) F hSc (by omega) (by omega) hw2 dL_law_152 rfl ?_
  refine v_aload_n (pc' := 154) F dL_law_153 rfl (j := 4) rfl rfl ?_
  refine v_iload (pc' := 156) F dL_law_154  (j := 0) rfl rfl ?_
  refine v_iconst (pc' := 157) (v := nI 3) F dL_law_156 (by decide) rfl ?_
  refine v_iadd (pc' := 158) (v := nI (i + 3)) F dL_law_157 (nI_add i 3) rfl ?_
  refine w_sld (pc' := 159) (j := i + 3) F hSc (by omega) (by omega) hw3 dL_law_158 rfl ?_
  refine v_aload_n (pc' := 160) F dL_law_159 rfl (j := 4) rfl rfl ?_
  refine v_iload (pc' := 162) F dL_law_160  (j := 0) rfl rfl ?_
  refine v_iconst (pc' := 163) (v := nI 4) F dL_law_162 (by decide) rfl ?_
  refine v_iadd (pc' := 164) (v := nI (i + 4)) F dL_law_163 (nI_add i 4) rfl ?_
  refine w_sld (pc' := 165) (j := i + 4) F hSc (by omega) (by omega) hw4 dL_law_164 rfl ?_
  refine v_aload_n (pc' := 166) F dL_law_165 rfl (j := 4) rfl rfl ?_
  refine v_iload (pc' := 168) F dL_law_166  (j := 0) rfl rfl ?_
  refine v_iconst (pc' := 169) (v := nI 5) F dL_law_168 (by decide) rfl ?_
  refine v_iadd (pc' := 170) (v := nI (i + 5)) F dL_law_169 (nI_add i 5) rfl ?_
  refine w_sld (pc' := 171) (j := i + 5) F hSc (by omega) (by omega) hw5 dL_law_170 rfl ?_
  refine v_callV (pc' := 174) (rt := (some .int)) (mcc := 0) (msc := 0) (As := [.int w1, .int w2, .int w3, .int w4, .int w5]) (st := []) F (fun l => c_X6_append G z0 l (bk := bk) w1 w2 w3 w4 w5 hx6 hbuf hb5) gL_law_X6_append rfl hv_X6_append (by decide) (by decide) hx6 rfl rfl rfl (Nat.le_of_ble_eq_true rfl) (by omega) (by omega) dL_law_171 rfl (fun v2 h1 hq => ?_)
  by_cases h20 : bl + 20 ≤ 500
  · rw [if_pos h20] at hq
    obtain ⟨hv, hx1, hb1, f1⟩ := hq
    subst hv
    obtain ⟨fz, hz1, hz2⟩ := hX.2
    have hX1 : isX6 G h1 x buf rd bks oq rw orw (bl + 20) off cur und bk := ⟨hx1, fz, f1 _ _ (gnc (ne9 hz1 hx6 (by simp [kd9])) (gnc (ne9 hz1 hbuf (by simp [kd9])) gn0)) hz1, hz2⟩
    have hC1 := hCI.obj (t' := t20 t bl w1 w2 w3 w4 w5) f1 hX1 hb1 (b20_t w1 w2 w3 w4 w5 hft) h20
    have hM1 := hMI.fr (nin (fun s9 hs9 a9 ha9 => by
      simp only [List.mem_cons, List.not_mem_nil, or_false] at hs9
      rcases hs9 with rfl | rfl
      · exact hMI.no hx6 (.inl (by show 6 < 7; decide)) a9 ha9
      · exact hMI.no3 hbuf rfl hAP.2.2.2.2.2.2 a9 ha9)) f1
    have ho1 := f1 _ _ (gnc (ne9 ho hx6 (by simp [kd9])) (gnc (ne9 ho hbuf (by simp [kd9])) gn0)) ho
    obtain ⟨th2, len2, spot2, fa2, num2, frm2, may2, R2, A2, T2, hMS2, hnow2, hasd2, htext2, hT2, hsl2⟩ := id hM1
    have hS2 : slD R2 (330 * now) (Ds 0) := by have h0 := hsl2 0 (Nat.zero_le _); rwa [show (now + 9 - 0) % 9 = now by omega] at h0
    obtain ⟨_, _, _, _, _, _, hm2, -⟩ := id hMS2
    refine v_aload_n (pc' := 175) F dL_law_174 rfl (j := 2) rfl rfl ?_
    refine v_aload_n (pc' := 176) F dL_law_175 rfl (j := 4) rfl rfl ?_
    refine v_iload (pc' := 178) F dL_law_176  (j := 0) rfl rfl ?_
    refine v_iconst (pc' := 179) (v := nI 1) F dL_law_178 (by decide) rfl ?_
    refine v_iadd (pc' := 180) (v := nI (i + 1)) F dL_law_179 (nI_add i 1) rfl ?_
    refine w_sld (pc' := 181) (j := i + 1) F hSc (by omega) (by omega) hw1 dL_law_180 rfl ?_
    refine v_aload_n (pc' := 182) F dL_law_181 rfl (j := 4) rfl rfl ?_
    refine v_iload (pc' := 184) F dL_law_182  (j := 0) rfl rfl ?_
    refine v_iconst (pc' := 185) (v := nI 2) F dL_law_184 (by decide) rfl ?_
    refine v_iadd (pc' := 186) (v := nI (i + 2)) F dL_law_185 (nI_add i 2) rfl ?_
    refine w_sld (pc' := 187) (j := i + 2) F hSc (by omega) (by omega) hw2 dL_law_186 rfl ?_
    refine v_aload_n (pc' := 188) F dL_law_187 rfl (j := 4) rfl rfl ?_
    refine v_iload (pc' := 190) F dL_law_188  (j := 0) rfl rfl ?_
    refine v_iconst (pc' := 191) (v := nI 3) F dL_law_190 (by decide) rfl ?_
    refine v_iadd (pc' := 192) (v := nI (i + 3)) F dL_law_191 (nI_add i 3) rfl ?_
    refine w_sld (pc' := 193) (j := i + 3) F hSc (by omega) (by omega) hw3 dL_law_192 rfl ?_
    refine v_aload_n (pc' := 194) F dL_law_193 rfl (j := 4) rfl rfl ?_
    refine v_iload (pc' := 196) F dL_law_194  (j := 0) rfl rfl ?_
    refine v_iconst (pc' := 197) (v := nI 4) F dL_law_196 (by decide) rfl ?_
    refine v_iadd (pc' := 198) (v := nI (i + 4)) F dL_law_197 (nI_add i 4) rfl ?_
    refine w_sld (pc' := 199) (j := i + 4) F hSc (by omega) (by omega) hw4 dL_law_198 rfl ?_
    refine v_aload_n (pc' := 200) F dL_law_199 rfl (j := 4) rfl rfl ?_
    refine v_iload (pc' := 202) F dL_law_200  (j := 0) rfl rfl ?_
    refine v_iconst (pc' := 203) (v := nI 5) F dL_law_202 (by decide) rfl ?_
    refine v_iadd (pc' := 204) (v := nI (i + 5)) F dL_law_203 (nI_add i 5) rfl ?_
    refine w_sld (pc' := 205) (j := i + 5) F hSc (by omega) (by omega) hw5 dL_law_204 rfl ?_
    refine v_callV (pc' := 208) (rt := (some .int)) (mcc := 0) (msc := 0) (As := [.int w1, .int w2, .int w3, .int w4, .int w5]) (st := [.int (nI (bl + 20))]) F (fun l => c_X7_append G z0 l w1 w2 w3 w4 w5 hMS2 htext2 hb5) gL_law_X7_append rfl hv_X7_append (by decide) (by decide) hm2 rfl rfl rfl (Nat.le_of_ble_eq_true rfl) (by omega) (by omega) dL_law_205 rfl (fun v4 h3 hqm => ?_)
    obtain ⟨k9, hMS3, hif, fQ⟩ := hqm
    rw [if_pos h20] at hif
    obtain ⟨rfl, rfl, ht3⟩ := hif
    obtain ⟨hC3, ho3⟩ := LI.m2 hC1 hM1 hAP ho1 (sub_t m rows asd vals many way told oth lst text) fQ
    have ha3 := mS.atT hMS2 hasd2 htext2 fQ
    refine w_icmp_eq (tgt := 1252) (pc' := 211) F (by omega) (by omega) dL_law_208 (by decide) rfl (fun _ => ?_) (fun c0 => absurd rfl c0)
    refine v_sub (L' := [(4, .int (nI i)), (3, .ref out), (2, .ref m), (1, .ref x), (0, .ref sb)]) [0, 1, 2, 3, 4] rfl ?_
    exact K _ _ _ (by omega) (by omega) ⟨_, bl + 20, off, cur, und, now, Ds, g, hC3, ⟨_, len2, spot2, fa2, num2, frm2, may2, R2, A2, _, hMS3, hnow2, ha3, ht3, T20_t w1 w2 w3 w4 w5 hT2, hsl2⟩, hAP, ho3⟩
  · rw [if_neg h20] at hq
    obtain ⟨hv, he⟩ := hq
    replace he := he.symm
    subst he hv
    obtain ⟨th2, len2, spot2, fa2, num2, frm2, may2, R2, A2, T2, hMS2, hnow2, hasd2, htext2, hT2, hsl2⟩ := id hMI
    have hS2 : slD R2 (330 * now) (Ds 0) := by have h0 := hsl2 0 (Nat.zero_le _); rwa [show (now + 9 - 0) % 9 = now by omega] at h0
    obtain ⟨_, _, _, _, _, _, hm2, -⟩ := id hMS2
    refine v_aload_n (pc' := 175) F dL_law_174 rfl (j := 2) rfl rfl ?_
    refine v_aload_n (pc' := 176) F dL_law_175 rfl (j := 4) rfl rfl ?_
    refine v_iload (pc' := 178) F dL_law_176  (j := 0) rfl rfl ?_
    refine v_iconst (pc' := 179) (v := nI 1) F dL_law_178 (by decide) rfl ?_
    refine v_iadd (pc' := 180) (v := nI (i + 1)) F dL_law_179 (nI_add i 1) rfl ?_
    refine w_sld (pc' := 181) (j := i + 1) F hSc (by omega) (by omega) hw1 dL_law_180 rfl ?_
    refine v_aload_n (pc' := 182) F dL_law_181 rfl (j := 4) rfl rfl ?_
    refine v_iload (pc' := 184) F dL_law_182  (j := 0) rfl rfl ?_
    refine v_iconst (pc' := 185) (v := nI 2) F dL_law_184 (by decide) rfl ?_
    refine v_iadd (pc' := 186) (v := nI (i + 2)) F dL_law_185 (nI_add i 2) rfl ?_
    refine w_sld (pc' := 187) (j := i + 2) F hSc (by omega) (by omega) hw2 dL_law_186 rfl ?_
    refine v_aload_n (pc' := 188) F dL_law_187 rfl (j := 4) rfl rfl ?_
    refine v_iload (pc' := 190) F dL_law_188  (j := 0) rfl rfl ?_
    refine v_iconst (pc' := 191) (v := nI 3) F dL_law_190 (by decide) rfl ?_
    refine v_iadd (pc' := 192) (v := nI (i + 3)) F dL_law_191 (nI_add i 3) rfl ?_
    refine w_sld (pc' := 193) (j := i + 3) F hSc (by omega) (by omega) hw3 dL_law_192 rfl ?_
    refine v_aload_n (pc' := 194) F dL_law_193 rfl (j := 4) rfl rfl ?_
    refine v_iload (pc' := 196) F dL_law_194  (j := 0) rfl rfl ?_
    refine v_iconst (pc' := 197) (v := nI 4) F dL_law_196 (by decide) rfl ?_
    refine v_iadd (pc' := 198) (v := nI (i + 4)) F dL_law_197 (nI_add i 4) rfl ?_
    refine w_sld (pc' := 199) (j := i + 4) F hSc (by omega) (by omega) hw4 dL_law_198 rfl ?_
    refine v_aload_n (pc' := 200) F dL_law_199 rfl (j := 4) rfl rfl ?_
    refine v_iload (pc' := 202) F dL_law_200  (j := 0) rfl rfl ?_
    refine v_iconst (pc' := 203) (v := nI 5) F dL_law_202 (by decide) rfl ?_
    refine v_iadd (pc' := 204) (v := nI (i + 5)) F dL_law_203 (nI_add i 5) rfl ?_
    refine w_sld (pc' := 205) (j := i + 5) F hSc (by omega) (by omega) hw5 dL_law_204 rfl ?_
    refine v_callV (pc' := 208) (rt := (some .int)) (mcc := 0) (msc := 0) (As := [.int w1, .int w2, .int w3, .int w4, .int w5]) (st := [.int (-1)]) F (fun l => c_X7_append G z0 l w1 w2 w3 w4 w5 hMS2 htext2 hb5) gL_law_X7_append rfl hv_X7_append (by decide) (by decide) hm2 rfl rfl rfl (Nat.le_of_ble_eq_true rfl) (by omega) (by omega) dL_law_205 rfl (fun v6 h5 hqm => ?_)
    obtain ⟨k9, hMS3, hif, fQ⟩ := hqm
    rw [if_neg h20] at hif
    obtain ⟨rfl, rfl, ht3⟩ := hif
    obtain ⟨hC3, ho3⟩ := LI.m2 hCI hMI hAP ho (sub_t m rows asd vals many way told oth lst text) fQ
    have ha3 := mS.atT hMS2 hasd2 htext2 fQ
    refine v_icmp_eq (tgt := 1252) (pc' := 211) F dL_law_208 (by decide) rfl (fun _ => ?_) (fun c0 => absurd rfl c0)
    refine v_sub (L' := [(4, .int (nI i)), (3, .ref out), (2, .ref m), (1, .ref x), (0, .ref sb)]) [0, 1, 2, 3, 4] rfl ?_
    exact K _ _ _ (by omega) (by omega) ⟨t, bl, off, cur, und, now, Ds, g, hC3.more, ⟨_, len2, spot2, fa2, num2, frm2, may2, R2, A2, T2, hMS3, hnow2, ha3, ht3, hT2, hsl2⟩, hAP, ho3⟩
theorem hv_X6_meanSteps : yX6_meanSteps.cls = RX6 ∧ yX6_meanSteps.cls ≠ "java/lang/invoke/MethodHandle" ∧ yX6_meanSteps.cls ≠ "java/lang/invoke/VarHandle" ∧ (parseMethodDescriptor yX6_meanSteps.desc).map (fun d => d.parameters.length) = some 0 := by decide +kernel
theorem hv_X7_meanSteps : yX7_meanSteps.cls = RX7 ∧ yX7_meanSteps.cls ≠ "java/lang/invoke/MethodHandle" ∧ yX7_meanSteps.cls ≠ "java/lang/invoke/VarHandle" ∧ (parseMethodDescriptor yX7_meanSteps.desc).map (fun d => d.parameters.length) = some 0 := by decide +kernel
set_option maxHeartbeats 4000000 in
set_option maxRecDepth 100000 in
theorem op_meanSteps {G : gG} {z0 : Nat} {X : gX} {mc ms cells slots i N sb k : Nat} {nm : String} {xs : Nat → Int32} {h : gH} {x buf rd bks oq rw orw root m rows asd vals many way told oth lst text out : Nat} {bk bv : Nat → Nat} (F : gF G z0 X cL_law 9 RL wsL_law (some .boolean) nm 14 526 mc ms) (hst : X.2.1.stackTraces = false) (hSc : gSc z0 X sb N xs) (hN : N ≤ 3072) (hiN : i + 6 ≤ N) (hcc : cells + 1173 ≤ mc) (hss : slots + 14000 ≤ ms) (hk9 : k < 60000) (hL : LI G h x buf rd bks oq rw orw root m rows asd vals many way told oth lst text out bk bv k) (K : ∀ (c9 s9 : Nat) (h' : gH), c9 ≤ cells + 1173 → s9 ≤ slots + 14000 → LI G h' x buf rd bks oq rw orw root m rows asd vals many way told oth lst text out bk bv (k + 1) → gV G z0 X c9 s9 h' 1252 [(4, .int (nI i)), (3, .ref out), (2, .ref m), (1, .ref x), (0, .ref sb)] []) : gV G z0 X cells slots h 946 [(4, .int (nI i)), (3, .ref out), (2, .ref m), (1, .ref x), (0, .ref sb)] [] := by
  obtain ⟨t, bl, off, cur, und, now, Ds, g, hCI, hMI, hAP, ho⟩ := hL
  obtain ⟨hX, ⟨hc, hu, hb5⟩, ⟨fb, hbuf, hft⟩, hRd, hsc, hro, hVr, hring, ⟨hbi, hvi⟩, hDs⟩ := id hCI
  obtain ⟨w9, hdr, ad, as, hcl, hroot⟩ := hCI.now
  have hB := hcl.1
  have hD := hcl.dat w9
  have hn := w9.2.1
  have h1n := w9.1
  have hx6 := hX.1
  obtain ⟨th, len, spot, fa, num, frm, may, R, A, T, hMS, hnow, hasd, htext, hT, hsl⟩ := id hMI
  refine v_aload_n (pc' := 947) F dL_law_946 rfl (j := 3) rfl rfl ?_
  refine v_callV (pc' := 950) (rt := (some .float)) (mcc := 0) (msc := 0) (As := []) (st := []) F (fun l => c_X6_meanSteps G z0 l hX hc hu hn hB hD hro hsc h1n (allS_lt w9)) gL_law_X6_meanSteps rfl hv_X6_meanSteps (by decide) (by decide) hx6 rfl rfl rfl (Nat.le_of_ble_eq_true rfl) (by omega) (by omega) dL_law_947 rfl (fun v2 h1 hq => ?_)
  obtain ⟨hv, hs1, f1⟩ := hq
  obtain ⟨hC1, hM1, ho1⟩ := LI.q hCI hMI hAP ho hs1 f1
  subst hv
  refine v_f2d (pc' := 951) F (f2d_ok w9) dL_law_950 rfl ?_
  refine v_dstore (pc' := 953) (i := 5) (L' := [(5, .double (FP.f2d (meanN (Ds 0).1 (Ds 0).2.2.2.2))), (4, .int (nI i)), (3, .ref out), (2, .ref m), (1, .ref x), (0, .ref sb)]) F dL_law_951 (by decide) rfl rfl ?_
  obtain ⟨th2, len2, spot2, fa2, num2, frm2, may2, R2, A2, T2, hMS2, hnow2, hasd2, htext2, hT2, hsl2⟩ := id hM1
  have hS2 : slD R2 (330 * now) (Ds 0) := by have h0 := hsl2 0 (Nat.zero_le _); rwa [show (now + 9 - 0) % 9 = now by omega] at h0
  obtain ⟨_, _, _, _, _, _, hm2, -⟩ := id hMS2
  refine v_aload_n (pc' := 954) F dL_law_953 rfl (j := 3) rfl rfl ?_
  refine v_callV (pc' := 957) (rt := (some .float)) (mcc := 0) (msc := 0) (As := []) (st := []) F (fun l => c_X7_meanSteps G z0 l hMS2 hnow2 w9 hS2 (allS_lt w9)) gL_law_X7_meanSteps rfl hv_X7_meanSteps (by decide) (by decide) hm2 rfl rfl rfl (Nat.le_of_ble_eq_true rfl) (by omega) (by omega) dL_law_954 rfl (fun v4 h3 hqm => ?_)
  obtain ⟨rfl, hMS3, fQ⟩ := hqm
  obtain ⟨hC3, ho3⟩ := LI.m hC1 hM1 hAP ho1 (sub_q m rows asd vals many way told oth lst text) fQ
  obtain ⟨ha3, ht3⟩ := mS.at hMS2 hasd2 htext2 fQ
  refine v_f2d (pc' := 958) F (f2d_ok w9) dL_law_957 rfl ?_
  refine v_dstore (pc' := 960) (i := 7) (L' := [(7, .double (FP.f2d (meanN (Ds 0).1 (Ds 0).2.2.2.2))), (5, .double (FP.f2d (meanN (Ds 0).1 (Ds 0).2.2.2.2))), (4, .int (nI i)), (3, .ref out), (2, .ref m), (1, .ref x), (0, .ref sb)]) F dL_law_958 (by decide) rfl rfl ?_
  refine v_dload9 (pc' := 962) F dL_law_960 (j := 1) rfl rfl ?_
  refine v_dload9 (pc' := 964) F dL_law_962 (j := 0) rfl rfl ?_
  refine v_dcmp (pc' := 965) F dL_law_964 rfl ?_
  refine v_if_eq (tgt := 986) (pc' := 968) F dL_law_965 (by decide) rfl (fun k0 => ?_) (fun k0 => ?_)
  · refine v_goto (tgt := 1252) F dL_law_986 (by decide) ?_
    refine v_sub (L' := [(4, .int (nI i)), (3, .ref out), (2, .ref m), (1, .ref x), (0, .ref sb)]) [2, 3, 4, 5, 6] rfl ?_
    exact K _ _ _ (by omega) (by omega) ⟨t, bl, off, cur, und, now, Ds, g, hC3.more, ⟨_, len2, spot2, fa2, num2, frm2, may2, R2, A2, T2, hMS3, hnow2, ha3, ht3, hT2, hsl2⟩, hAP, ho3⟩
  · refine v_dload9 (pc' := 970) F dL_law_968 (j := 1) rfl rfl ?_
    refine v_dload9 (pc' := 972) F dL_law_970 (j := 1) rfl rfl ?_
    refine v_dcmp (pc' := 973) F dL_law_972 rfl ?_
    refine v_if_eq (tgt := 984) (pc' := 976) F dL_law_973 (by decide) rfl (fun c0 => absurd c0 k0) (fun _ => ?_)
    refine v_dload9 (pc' := 978) F dL_law_976 (j := 0) rfl rfl ?_
    refine v_dload9 (pc' := 980) F dL_law_978 (j := 0) rfl rfl ?_
    refine v_dcmp (pc' := 981) F dL_law_980 rfl ?_
    refine v_if_ne (tgt := 986) (pc' := 984) F dL_law_981 (by decide) rfl (fun _ => ?_) (fun c0 => absurd c0 k0)
    refine v_goto (tgt := 1252) F dL_law_986 (by decide) ?_
    refine v_sub (L' := [(4, .int (nI i)), (3, .ref out), (2, .ref m), (1, .ref x), (0, .ref sb)]) [2, 3, 4, 5, 6] rfl ?_
    exact K _ _ _ (by omega) (by omega) ⟨t, bl, off, cur, und, now, Ds, g, hC3.more, ⟨_, len2, spot2, fa2, num2, frm2, may2, R2, A2, T2, hMS3, hnow2, ha3, ht3, hT2, hsl2⟩, hAP, ho3⟩
