theorem hd_L_state : yL_state.cls ≠ "java/lang/invoke/MethodHandle" ∧ yL_state.cls ≠ "java/lang/invoke/VarHandle" ∧ (parseMethodDescriptor yL_state.desc).map (fun d => d.parameters.length) = some 3 := by decide +kernel
theorem hv_X7_state : yX7_state.cls = RX7 ∧ yX7_state.cls ≠ "java/lang/invoke/MethodHandle" ∧ yX7_state.cls ≠ "java/lang/invoke/VarHandle" ∧ (parseMethodDescriptor yX7_state.desc).map (fun d => d.parameters.length) = some 1 := by decide +kernel
theorem hv_X7_thrown : yX7_thrown.cls = RX7 ∧ yX7_thrown.cls ≠ "java/lang/invoke/MethodHandle" ∧ yX7_thrown.cls ≠ "java/lang/invoke/VarHandle" ∧ (parseMethodDescriptor yX7_thrown.desc).map (fun d => d.parameters.length) = some 0 := by decide +kernel
set_option maxHeartbeats 4000000 in
set_option maxRecDepth 100000 in
theorem op_state {G : gG} {z0 : Nat} {X : gX} {mc ms cells slots i N sb k : Nat} {nm : String} {xs : Nat → Int32} {h : gH} {x buf rd bks oq rw orw root m rows asd vals many way told oth lst text out : Nat} {bk bv : Nat → Nat} (F : gF G z0 X cL_law 9 RL wsL_law (some .boolean) nm 14 526 mc ms) (hst : X.2.1.stackTraces = false) (hSc : gSc z0 X sb N xs) (hN : N ≤ 3072) (hiN : i + 6 ≤ N) (hcc : cells + 1173 ≤ mc) (hss : slots + 14000 ≤ ms) (hk9 : k < 60000) (hL : LI G h x buf rd bks oq rw orw root m rows asd vals many way told oth lst text out bk bv k) (K : ∀ (c9 s9 : Nat) (h' : gH), c9 ≤ cells + 1173 → s9 ≤ slots + 14000 → LI G h' x buf rd bks oq rw orw root m rows asd vals many way told oth lst text out bk bv (k + 1) → gV G z0 X c9 s9 h' 1252 [(4, .int (nI i)), (3, .ref out), (2, .ref m), (1, .ref x), (0, .ref sb)] []) : gV G z0 X cells slots h 282 [(4, .int (nI i)), (3, .ref out), (2, .ref m), (1, .ref x), (0, .ref sb)] [] := by
  obtain ⟨t, bl, off, cur, und, now, Ds, g, hCI, hMI, hAP, ho⟩ := hL
  obtain ⟨hX, ⟨hc, hu, hb5⟩, ⟨fb, hbuf, hft⟩, hRd, hsc, hro, hVr, hring, ⟨hbi, hvi⟩, hDs⟩ := id hCI
  obtain ⟨w9, hdr, ad, as, hcl, hroot⟩ := hCI.now
  have hB := hcl.1
  have hD := hcl.dat w9
  have hn := w9.2.1
  have h1n := w9.1
  have hx6 := hX.1
  obtain ⟨th, len, spot, fa, num, frm, may, R, A, T, hMS, hnow, hasd, htext, hT, hsl⟩ := id hMI
  obtain ⟨w1, hw1⟩ : ∃ w, xs (i + 1) = w := ⟨_, rfl⟩
  refine v_aload_n (pc' := 283) F dL_law_282 rfl (j := 3) rfl rfl ?_
  refine v_aload_n (pc' := 284) F dL_law_283 rfl (j := 4) rfl rfl ?_
  refine v_iload (pc' := 286) F dL_law_284  (j := 0) rfl rfl ?_
  refine v_iconst (pc' := 287) (v := nI 1) F dL_law_286 (by decide) rfl ?_
  refine v_iadd (pc' := 288) (v := nI (i + 1)) F dL_law_287 (nI_add i 1) rfl ?_
  refine w_sld (pc' := 289) (j := i + 1) F hSc (by omega) (by omega) hw1 dL_law_288 rfl ?_
  refine v_aload_n (pc' := 290) F dL_law_289 rfl (j := 1) rfl rfl ?_
  refine v_callSH (pc' := 293) (rt := (some .int)) (hh := [(0, 9, 12, 13)]) (mcc := 1) (msc := 6) (As := [.ref x, .int w1, .ref out]) (st := []) F hst (fun l hst => c_L_state G z0 l hst w1 hx6 ho (fun l hst => c_X6_state G z0 l hst w1 hX hc hu hn hB hD hro hsc) (fun v h9 hq => by obtain ⟨kk, hk, ew1, hv, hs1, f1⟩ := hq; exact ⟨⟨_, hv⟩, (LI.q hCI hMI hAP ho hs1 f1).2.2⟩) (fun E h9 hq => hq.1.1)) gL_law_L_state rfl hd_L_state (by decide) (by decide) rfl rfl (Nat.le_of_ble_eq_true rfl) (by omega) (by omega) dL_law_290 rfl (fun v9 h9 hq => ?_)
  rcases hq with ⟨k9, h1, hq1, rfl, g9, hgo, hg0, fO⟩ | ⟨E9, kc, hx1, rfl, hec⟩
  · obtain ⟨kk, hk, ew1, hv, hs1, f1⟩ := hq1
    subst ew1
    obtain rfl := Value.int.inj (Option.some.inj hv)
    obtain ⟨hC1, hM1, ho1⟩ := LI.q hCI hMI hAP ho hs1 f1
    obtain ⟨hC2, hM2⟩ := LI.o hC1 hM1 ho1 fO
    by_cases hsp : kk = 8
    · skip
      subst hsp
      rw [if_pos rfl] at hg0
      obtain ⟨th2, len2, spot2, fa2, num2, frm2, may2, R2, A2, T2, hMS2, hnow2, hasd2, htext2, hT2, hsl2⟩ := id hM2
      have hS2 : slD R2 (330 * now) (Ds 0) := by have h0 := hsl2 0 (Nat.zero_le _); rwa [show (now + 9 - 0) % 9 = now by omega] at h0
      obtain ⟨_, _, _, _, _, _, hm2, -⟩ := id hMS2
      refine v_istore (pc' := 295) (i := 5) (L' := [(5, .int (nI 0)), (4, .int (nI i)), (3, .ref out), (2, .ref m), (1, .ref x), (0, .ref sb)]) F dL_law_293  (by decide) rfl rfl ?_
      refine v_aload_n (pc' := 296) F dL_law_295 rfl (j := 3) rfl rfl ?_
      refine v_aload_n (pc' := 297) F dL_law_296 rfl (j := 5) rfl rfl ?_
      refine v_iload (pc' := 299) F dL_law_297  (j := 1) rfl rfl ?_
      refine v_iconst (pc' := 300) (v := nI 1) F dL_law_299 (by decide) rfl ?_
      refine v_iadd (pc' := 301) (v := nI (i + 1)) F dL_law_300 (nI_add i 1) rfl ?_
      refine w_sld (pc' := 302) (j := i + 1) F hSc (by omega) (by omega) hw1 dL_law_301 rfl ?_
      refine v_callV (pc' := 305) (rt := (some .int)) (mcc := 0) (msc := 0) (As := [.int (nI 8)]) (st := []) F (fun l => c8_X7_state G z0 l hMS2 hnow2 w9 hS2) gL_law_X7_state rfl hv_X7_state (by decide) (by decide) hm2 rfl rfl rfl (Nat.le_of_ble_eq_true rfl) (by omega) (by omega) dL_law_302 rfl (fun v2 h1 hqm => ?_)
      obtain ⟨rfl, hMS3, fQ⟩ := hqm
      obtain ⟨hC3, ho3⟩ := LI.m hC2 hM2 hAP hgo (sub_q m rows asd vals many way told oth lst text) fQ
      obtain ⟨ha3, ht3⟩ := mS.at hMS2 hasd2 htext2 fQ
      obtain ⟨_, _, _, _, _, _, hm3, -⟩ := id hMS3
      refine v_istore (pc' := 307) (i := 6) (L' := [(6, .int (nI und)), (5, .int (nI 0)), (4, .int (nI i)), (3, .ref out), (2, .ref m), (1, .ref x), (0, .ref sb)]) F dL_law_305  (by decide) rfl rfl ?_
      refine v_aload_n (pc' := 308) F dL_law_307 rfl (j := 4) rfl rfl ?_
      refine v_callV (pc' := 311) (rt := (some .int)) (mcc := 0) (msc := 0) (As := []) (st := []) F (fun l => c_X7_thrown G z0 l hm3) gL_law_X7_thrown rfl hv_X7_thrown (by decide) (by decide) hm3 rfl rfl rfl (Nat.le_of_ble_eq_true rfl) (by omega) (by omega) dL_law_308 rfl (fun v3 h1 hqt => ?_)
      obtain ⟨rfl, rfl⟩ := hqt
      refine v_iload (pc' := 313) F dL_law_311  (j := 1) rfl rfl ?_
      refine w_icmp_eq (tgt := 318) (pc' := 316) F (by omega) (by omega) dL_law_313 (by decide) rfl (fun _ => ?_) (fun c0 => absurd c0 (by omega))
      refine v_iload (pc' := 320) F dL_law_318  (j := 1) rfl rfl ?_
      refine w_if_ne (tgt := 335) (pc' := 323) F (by omega) dL_law_320 (by decide) rfl (fun c0 => absurd c0 (by omega)) (fun _ => ?_)
      refine v_aload_n (pc' := 324) F dL_law_323 rfl (j := 3) rfl rfl ?_
      refine v_iconst (pc' := 325) (v := nI 0) F dL_law_324 (by decide) rfl ?_
      refine w_lald (pc' := 326) (v := (nI und).toInt64) F ho3 (by omega) (by omega) hg0 dL_law_325 rfl ?_
      refine v_iload (pc' := 328) F dL_law_326  (j := 0) rfl rfl ?_
      refine v_i2l (pc' := 329) (v := (nI und).toInt64) F dL_law_328 rfl rfl ?_
      refine v_lcmp (pc' := 330) F dL_law_329 rfl ?_
      refine v_if_eq (tgt := 335) (pc' := 333) F dL_law_330 (by decide) rfl (fun _ => ?_) (fun c0 => absurd (lg_self _) c0)
      refine v_goto (tgt := 1252) F dL_law_335 (by decide) ?_
      refine v_sub (L' := [(4, .int (nI i)), (3, .ref out), (2, .ref m), (1, .ref x), (0, .ref sb)]) [2, 3, 4, 5, 6] rfl ?_
      exact K _ _ _ (by omega) (by omega) ⟨t, bl, off, cur, und, now, Ds, g9, hC3.more, ⟨_, len2, spot2, fa2, num2, frm2, may2, R2, A2, T2, hMS3, hnow2, ha3, ht3, hT2, hsl2⟩, hAP, ho3⟩
    · skip
      rw [if_neg hsp, br_all w9 hcl] at hg0
      obtain ⟨th2, len2, spot2, fa2, num2, frm2, may2, R2, A2, T2, hMS2, hnow2, hasd2, htext2, hT2, hsl2⟩ := id hM2
      have hS2 : slD R2 (330 * now) (Ds 0) := by have h0 := hsl2 0 (Nat.zero_le _); rwa [show (now + 9 - 0) % 9 = now by omega] at h0
      obtain ⟨_, _, _, _, _, _, hm2, -⟩ := id hMS2
      refine v_istore (pc' := 295) (i := 5) (L' := [(5, .int (nI 0)), (4, .int (nI i)), (3, .ref out), (2, .ref m), (1, .ref x), (0, .ref sb)]) F dL_law_293  (by decide) rfl rfl ?_
      refine v_aload_n (pc' := 296) F dL_law_295 rfl (j := 3) rfl rfl ?_
      refine v_aload_n (pc' := 297) F dL_law_296 rfl (j := 5) rfl rfl ?_
      refine v_iload (pc' := 299) F dL_law_297  (j := 1) rfl rfl ?_
      refine v_iconst (pc' := 300) (v := nI 1) F dL_law_299 (by decide) rfl ?_
      refine v_iadd (pc' := 301) (v := nI (i + 1)) F dL_law_300 (nI_add i 1) rfl ?_
      refine w_sld (pc' := 302) (j := i + 1) F hSc (by omega) (by omega) hw1 dL_law_301 rfl ?_
      refine v_callV (pc' := 305) (rt := (some .int)) (mcc := 0) (msc := 0) (As := [.int (nI kk)]) (st := []) F (fun l => c_X7_state G z0 l hMS2 hnow2 w9 hS2 ⟨hk, hsp⟩) gL_law_X7_state rfl hv_X7_state (by decide) (by decide) hm2 rfl rfl rfl (Nat.le_of_ble_eq_true rfl) (by omega) (by omega) dL_law_302 rfl (fun v5 h4 hqm => ?_)
      obtain ⟨rfl, hMS3, fQ⟩ := hqm
      obtain ⟨hC3, ho3⟩ := LI.m hC2 hM2 hAP hgo (sub_q m rows asd vals many way told oth lst text) fQ
      obtain ⟨ha3, ht3⟩ := mS.at hMS2 hasd2 htext2 fQ
      obtain ⟨_, _, _, _, _, _, hm3, -⟩ := id hMS3
      refine v_istore (pc' := 307) (i := 6) (L' := [(6, .int (nI (nAll (Ds 0).1 (Ds 0).2.1 (Ds 0).2.2.1 id (fun i => (asD (Ds 0) i).head?) (Ds 0).2.2.2.2 kk))), (5, .int (nI 0)), (4, .int (nI i)), (3, .ref out), (2, .ref m), (1, .ref x), (0, .ref sb)]) F dL_law_305  (by decide) rfl rfl ?_
      refine v_aload_n (pc' := 308) F dL_law_307 rfl (j := 4) rfl rfl ?_
      refine v_callV (pc' := 311) (rt := (some .int)) (mcc := 0) (msc := 0) (As := []) (st := []) F (fun l => c_X7_thrown G z0 l hm3) gL_law_X7_thrown rfl hv_X7_thrown (by decide) (by decide) hm3 rfl rfl rfl (Nat.le_of_ble_eq_true rfl) (by omega) (by omega) dL_law_308 rfl (fun v6 h4 hqt => ?_)
      obtain ⟨rfl, rfl⟩ := hqt
      refine v_iload (pc' := 313) F dL_law_311  (j := 1) rfl rfl ?_
      refine w_icmp_eq (tgt := 318) (pc' := 316) F (by omega) (by omega) dL_law_313 (by decide) rfl (fun _ => ?_) (fun c0 => absurd c0 (by omega))
      refine v_iload (pc' := 320) F dL_law_318  (j := 1) rfl rfl ?_
      refine w_if_ne (tgt := 335) (pc' := 323) F (by omega) dL_law_320 (by decide) rfl (fun c0 => absurd c0 (by omega)) (fun _ => ?_)
      refine v_aload_n (pc' := 324) F dL_law_323 rfl (j := 3) rfl rfl ?_
      refine v_iconst (pc' := 325) (v := nI 0) F dL_law_324 (by decide) rfl ?_
      refine w_lald (pc' := 326) (v := (nI (nAll (Ds 0).1 (Ds 0).2.1 (Ds 0).2.2.1 id (fun i => (asD (Ds 0) i).head?) (Ds 0).2.2.2.2 kk)).toInt64) F ho3 (by omega) (by omega) hg0 dL_law_325 rfl ?_
      refine v_iload (pc' := 328) F dL_law_326  (j := 0) rfl rfl ?_
      refine v_i2l (pc' := 329) (v := (nI (nAll (Ds 0).1 (Ds 0).2.1 (Ds 0).2.2.1 id (fun i => (asD (Ds 0) i).head?) (Ds 0).2.2.2.2 kk)).toInt64) F dL_law_328 rfl rfl ?_
      refine v_lcmp (pc' := 330) F dL_law_329 rfl ?_
      refine v_if_eq (tgt := 335) (pc' := 333) F dL_law_330 (by decide) rfl (fun _ => ?_) (fun c0 => absurd (lg_self _) c0)
      refine v_goto (tgt := 1252) F dL_law_335 (by decide) ?_
      refine v_sub (L' := [(4, .int (nI i)), (3, .ref out), (2, .ref m), (1, .ref x), (0, .ref sb)]) [2, 3, 4, 5, 6] rfl ?_
      exact K _ _ _ (by omega) (by omega) ⟨t, bl, off, cur, und, now, Ds, g9, hC3.more, ⟨_, len2, spot2, fa2, num2, frm2, may2, R2, A2, T2, hMS3, hnow2, ha3, ht3, hT2, hsl2⟩, hAP, ho3⟩
  · obtain ⟨hP9, hs1, f1⟩ := hx1
    obtain ⟨hC1, hM1, ho1⟩ := LI.q hCI hMI hAP ho hs1 f1
    obtain ⟨rfl, hno⟩ := hP9
    have hkc : kc = 1 := by rw [← hec]; decide
    subst hkc
    obtain ⟨th2, len2, spot2, fa2, num2, frm2, may2, R2, A2, T2, hMS2, hnow2, hasd2, htext2, hT2, hsl2⟩ := id hM1
    have hS2 : slD R2 (330 * now) (Ds 0) := by have h0 := hsl2 0 (Nat.zero_le _); rwa [show (now + 9 - 0) % 9 = now by omega] at h0
    obtain ⟨_, _, _, _, _, _, hm2, -⟩ := id hMS2
    refine v_istore (pc' := 295) (i := 5) (L' := [(5, .int (nI 1)), (4, .int (nI i)), (3, .ref out), (2, .ref m), (1, .ref x), (0, .ref sb)]) F dL_law_293  (by decide) rfl rfl ?_
    refine v_aload_n (pc' := 296) F dL_law_295 rfl (j := 3) rfl rfl ?_
    refine v_aload_n (pc' := 297) F dL_law_296 rfl (j := 5) rfl rfl ?_
    refine v_iload (pc' := 299) F dL_law_297  (j := 1) rfl rfl ?_
    refine v_iconst (pc' := 300) (v := nI 1) F dL_law_299 (by decide) rfl ?_
    refine v_iadd (pc' := 301) (v := nI (i + 1)) F dL_law_300 (nI_add i 1) rfl ?_
    refine w_sld (pc' := 302) (j := i + 1) F hSc (by omega) (by omega) hw1 dL_law_301 rfl ?_
    refine v_callV (pc' := 305) (rt := (some .int)) (mcc := 0) (msc := 0) (As := [.int w1]) (st := []) F (fun l => o1_X7_state G z0 l hMS2 hnow2 w9 hS2 w1 hno) gL_law_X7_state rfl hv_X7_state (by decide) (by decide) hm2 rfl rfl rfl (Nat.le_of_ble_eq_true rfl) (by omega) (by omega) dL_law_302 rfl (fun v8 h7 hqm => ?_)
    obtain ⟨⟨y9, rfl⟩, hMS3, fQ⟩ := hqm
    obtain ⟨hC3, ho3⟩ := LI.m hC1 hM1 hAP ho1 (sub_q m rows asd vals many way told oth lst text) fQ
    obtain ⟨ha3, ht3⟩ := mS.at hMS2 hasd2 htext2 fQ
    obtain ⟨_, _, _, _, _, _, hm3, -⟩ := id hMS3
    refine v_istore (pc' := 307) (i := 6) (L' := [(6, .int y9), (5, .int (nI 1)), (4, .int (nI i)), (3, .ref out), (2, .ref m), (1, .ref x), (0, .ref sb)]) F dL_law_305  (by decide) rfl rfl ?_
    refine v_aload_n (pc' := 308) F dL_law_307 rfl (j := 4) rfl rfl ?_
    refine v_callV (pc' := 311) (rt := (some .int)) (mcc := 0) (msc := 0) (As := []) (st := []) F (fun l => c_X7_thrown G z0 l hm3) gL_law_X7_thrown rfl hv_X7_thrown (by decide) (by decide) hm3 rfl rfl rfl (Nat.le_of_ble_eq_true rfl) (by omega) (by omega) dL_law_308 rfl (fun v9 h7 hqt => ?_)
    obtain ⟨rfl, rfl⟩ := hqt
    refine v_iload (pc' := 313) F dL_law_311  (j := 1) rfl rfl ?_
    refine w_icmp_eq (tgt := 318) (pc' := 316) F (by omega) (by omega) dL_law_313 (by decide) rfl (fun _ => ?_) (fun c0 => absurd c0 (by omega))
    refine v_iload (pc' := 320) F dL_law_318  (j := 1) rfl rfl ?_
    refine w_if_ne (tgt := 335) (pc' := 323) F (by omega) dL_law_320 (by decide) rfl (fun _ => ?_) (fun c0 => absurd c0 (by omega))
    refine v_goto (tgt := 1252) F dL_law_335 (by decide) ?_
    refine v_sub (L' := [(4, .int (nI i)), (3, .ref out), (2, .ref m), (1, .ref x), (0, .ref sb)]) [2, 3, 4, 5, 6] rfl ?_
    exact K _ _ _ (by omega) (by omega) ⟨t, bl, off, cur, und, now, Ds, g, hC3.more, ⟨_, len2, spot2, fa2, num2, frm2, may2, R2, A2, T2, hMS3, hnow2, ha3, ht3, hT2, hsl2⟩, hAP, ho3⟩
theorem hd_L_version : yL_version.cls ≠ "java/lang/invoke/MethodHandle" ∧ yL_version.cls ≠ "java/lang/invoke/VarHandle" ∧ (parseMethodDescriptor yL_version.desc).map (fun d => d.parameters.length) = some 4 := by decide +kernel
theorem hv_X7_version : yX7_version.cls = RX7 ∧ yX7_version.cls ≠ "java/lang/invoke/MethodHandle" ∧ yX7_version.cls ≠ "java/lang/invoke/VarHandle" ∧ (parseMethodDescriptor yX7_version.desc).map (fun d => d.parameters.length) = some 2 := by decide +kernel
set_option maxHeartbeats 4000000 in
set_option maxRecDepth 100000 in
theorem op_version {G : gG} {z0 : Nat} {X : gX} {mc ms cells slots i N sb k : Nat} {nm : String} {xs : Nat → Int32} {h : gH} {x buf rd bks oq rw orw root m rows asd vals many way told oth lst text out : Nat} {bk bv : Nat → Nat} (F : gF G z0 X cL_law 9 RL wsL_law (some .boolean) nm 14 526 mc ms) (hst : X.2.1.stackTraces = false) (hSc : gSc z0 X sb N xs) (hN : N ≤ 3072) (hiN : i + 6 ≤ N) (hcc : cells + 1173 ≤ mc) (hss : slots + 14000 ≤ ms) (hk9 : k < 60000) (hL : LI G h x buf rd bks oq rw orw root m rows asd vals many way told oth lst text out bk bv k) (K : ∀ (c9 s9 : Nat) (h' : gH), c9 ≤ cells + 1173 → s9 ≤ slots + 14000 → LI G h' x buf rd bks oq rw orw root m rows asd vals many way told oth lst text out bk bv (k + 1) → gV G z0 X c9 s9 h' 1252 [(4, .int (nI i)), (3, .ref out), (2, .ref m), (1, .ref x), (0, .ref sb)] []) : gV G z0 X cells slots h 338 [(4, .int (nI i)), (3, .ref out), (2, .ref m), (1, .ref x), (0, .ref sb)] [] := by
  obtain ⟨t, bl, off, cur, und, now, Ds, g, hCI, hMI, hAP, ho⟩ := hL
  obtain ⟨hX, ⟨hc, hu, hb5⟩, ⟨fb, hbuf, hft⟩, hRd, hsc, hro, hVr, hring, ⟨hbi, hvi⟩, hDs⟩ := id hCI
  obtain ⟨w9, hdr, ad, as, hcl, hroot⟩ := hCI.now
  have hB := hcl.1
  have hD := hcl.dat w9
  have hn := w9.2.1
  have h1n := w9.1
  have hx6 := hX.1
  obtain ⟨th, len, spot, fa, num, frm, may, R, A, T, hMS, hnow, hasd, htext, hT, hsl⟩ := id hMI
  obtain ⟨w1, hw1⟩ : ∃ w, xs (i + 1) = w := ⟨_, rfl⟩
  obtain ⟨w2, hw2⟩ : ∃ w, xs (i + 2) = w := ⟨_, rfl⟩
  refine v_aload_n (pc' := 339) F dL_law_338 rfl (j := 3) rfl rfl ?_
  refine v_aload_n (pc' := 340) F dL_law_339 rfl (j := 4) rfl rfl ?_
  refine v_iload (pc' := 342) F dL_law_340  (j := 0) rfl rfl ?_
  refine v_iconst (pc' := 343) (v := nI 1) F dL_law_342 (by decide) rfl ?_
  refine v_iadd (pc' := 344) (v := nI (i + 1)) F dL_law_343 (nI_add i 1) rfl ?_
  refine w_sld (pc' := 345) (j := i + 1) F hSc (by omega) (by omega) hw1 dL_law_344 rfl ?_
  refine v_aload_n (pc' := 346) F dL_law_345 rfl (j := 4) rfl rfl ?_
  refine v_iload (pc' := 348) F dL_law_346  (j := 0) rfl rfl ?_
  refine v_iconst (pc' := 349) (v := nI 2) F dL_law_348 (by decide) rfl ?_
  refine v_iadd (pc' := 350) (v := nI (i + 2)) F dL_law_349 (nI_add i 2) rfl ?_
  refine w_sld (pc' := 351) (j := i + 2) F hSc (by omega) (by omega) hw2 dL_law_350 rfl ?_
  refine v_aload_n (pc' := 352) F dL_law_351 rfl (j := 1) rfl rfl ?_
  refine v_callSH (pc' := 355) (rt := (some .int)) (hh := [(0, 10, 13, 22), (0, 10, 17, 13)]) (mcc := 2) (msc := 12) (As := [.ref x, .int w1, .int w2, .ref out]) (st := []) F hst (fun l hst => c_L_version G z0 l hst w1 w2 hx6 ho (fun l hst => c_X6_version G z0 l hst w1 w2 hX hc hu hn hB hD hro hsc) (fun v h9 hq => by obtain ⟨j, kk, hj, hk, ew1, ew2, hv, hs1, f1⟩ := hq; exact ⟨⟨_, hv⟩, (LI.q hCI hMI hAP ho hs1 f1).2.2⟩) (fun E h9 hq => by rcases hq.1 with z | z; exact .inl z.1; exact .inr z.1)) gL_law_L_version rfl hd_L_version (by decide) (by decide) rfl rfl (Nat.le_of_ble_eq_true rfl) (by omega) (by omega) dL_law_352 rfl (fun v9 h9 hq => ?_)
  rcases hq with ⟨k9, h1, hq1, rfl, g9, hgo, hg0, fO⟩ | ⟨E9, kc, hx1, rfl, hec⟩
  · obtain ⟨j, kk, hj, hk, ew1, ew2, hv, hs1, f1⟩ := hq1
    subst ew1
    subst ew2
    rw [br_one w9 hcl hj] at hv
    obtain rfl := Value.int.inj (Option.some.inj hv)
    obtain ⟨hC1, hM1, ho1⟩ := LI.q hCI hMI hAP ho hs1 f1
    obtain ⟨hC2, hM2⟩ := LI.o hC1 hM1 ho1 fO
    obtain ⟨th2, len2, spot2, fa2, num2, frm2, may2, R2, A2, T2, hMS2, hnow2, hasd2, htext2, hT2, hsl2⟩ := id hM2
    have hS2 : slD R2 (330 * now) (Ds 0) := by have h0 := hsl2 0 (Nat.zero_le _); rwa [show (now + 9 - 0) % 9 = now by omega] at h0
    obtain ⟨_, _, _, _, _, _, hm2, -⟩ := id hMS2
    refine v_istore (pc' := 357) (i := 5) (L' := [(5, .int (nI 0)), (4, .int (nI i)), (3, .ref out), (2, .ref m), (1, .ref x), (0, .ref sb)]) F dL_law_355  (by decide) rfl rfl ?_
    refine v_aload_n (pc' := 358) F dL_law_357 rfl (j := 3) rfl rfl ?_
    refine v_aload_n (pc' := 359) F dL_law_358 rfl (j := 5) rfl rfl ?_
    refine v_iload (pc' := 361) F dL_law_359  (j := 1) rfl rfl ?_
    refine v_iconst (pc' := 362) (v := nI 1) F dL_law_361 (by decide) rfl ?_
    refine v_iadd (pc' := 363) (v := nI (i + 1)) F dL_law_362 (nI_add i 1) rfl ?_
    refine w_sld (pc' := 364) (j := i + 1) F hSc (by omega) (by omega) hw1 dL_law_363 rfl ?_
    refine v_aload_n (pc' := 365) F dL_law_364 rfl (j := 5) rfl rfl ?_
    refine v_iload (pc' := 367) F dL_law_365  (j := 1) rfl rfl ?_
    refine v_iconst (pc' := 368) (v := nI 2) F dL_law_367 (by decide) rfl ?_
    refine v_iadd (pc' := 369) (v := nI (i + 2)) F dL_law_368 (nI_add i 2) rfl ?_
    refine w_sld (pc' := 370) (j := i + 2) F hSc (by omega) (by omega) hw2 dL_law_369 rfl ?_
    refine v_callV (pc' := 373) (rt := (some .int)) (mcc := 0) (msc := 0) (As := [.int (nI j), .int (nI kk)]) (st := []) F (fun l => c_X7_version G z0 l hMS2 hnow2 w9 hS2 hj hk) gL_law_X7_version rfl hv_X7_version (by decide) (by decide) hm2 rfl rfl rfl (Nat.le_of_ble_eq_true rfl) (by omega) (by omega) dL_law_370 rfl (fun v2 h1 hqm => ?_)
    obtain ⟨rfl, hMS3, fQ⟩ := hqm
    obtain ⟨hC3, ho3⟩ := LI.m hC2 hM2 hAP hgo (sub_q m rows asd vals many way told oth lst text) fQ
    obtain ⟨ha3, ht3⟩ := mS.at hMS2 hasd2 htext2 fQ
    obtain ⟨_, _, _, _, _, _, hm3, -⟩ := id hMS3
    refine v_istore (pc' := 375) (i := 6) (L' := [(6, .int (nOne (Ds 0).1 id (fun i => (asD (Ds 0) i).head?) ((Ds 0).2.2.2.2 j) (asD (Ds 0) j).head? j kk)), (5, .int (nI 0)), (4, .int (nI i)), (3, .ref out), (2, .ref m), (1, .ref x), (0, .ref sb)]) F dL_law_373  (by decide) rfl rfl ?_
    refine v_aload_n (pc' := 376) F dL_law_375 rfl (j := 4) rfl rfl ?_
    refine v_callV (pc' := 379) (rt := (some .int)) (mcc := 0) (msc := 0) (As := []) (st := []) F (fun l => c_X7_thrown G z0 l hm3) gL_law_X7_thrown rfl hv_X7_thrown (by decide) (by decide) hm3 rfl rfl rfl (Nat.le_of_ble_eq_true rfl) (by omega) (by omega) dL_law_376 rfl (fun v3 h1 hqt => ?_)
    obtain ⟨rfl, rfl⟩ := hqt
    refine v_iload (pc' := 381) F dL_law_379  (j := 1) rfl rfl ?_
    refine w_icmp_eq (tgt := 386) (pc' := 384) F (by omega) (by omega) dL_law_381 (by decide) rfl (fun _ => ?_) (fun c0 => absurd c0 (by omega))
    refine v_iload (pc' := 388) F dL_law_386  (j := 1) rfl rfl ?_
    refine w_if_ne (tgt := 403) (pc' := 391) F (by omega) dL_law_388 (by decide) rfl (fun c0 => absurd c0 (by omega)) (fun _ => ?_)
    refine v_aload_n (pc' := 392) F dL_law_391 rfl (j := 3) rfl rfl ?_
    refine v_iconst (pc' := 393) (v := nI 0) F dL_law_392 (by decide) rfl ?_
    refine w_lald (pc' := 394) (v := (nOne (Ds 0).1 id (fun i => (asD (Ds 0) i).head?) ((Ds 0).2.2.2.2 j) (asD (Ds 0) j).head? j kk).toInt64) F ho3 (by omega) (by omega) hg0 dL_law_393 rfl ?_
    refine v_iload (pc' := 396) F dL_law_394  (j := 0) rfl rfl ?_
    refine v_i2l (pc' := 397) (v := (nOne (Ds 0).1 id (fun i => (asD (Ds 0) i).head?) ((Ds 0).2.2.2.2 j) (asD (Ds 0) j).head? j kk).toInt64) F dL_law_396 rfl rfl ?_
    refine v_lcmp (pc' := 398) F dL_law_397 rfl ?_
    refine v_if_eq (tgt := 403) (pc' := 401) F dL_law_398 (by decide) rfl (fun _ => ?_) (fun c0 => absurd (lg_self _) c0)
    refine v_goto (tgt := 1252) F dL_law_403 (by decide) ?_
    refine v_sub (L' := [(4, .int (nI i)), (3, .ref out), (2, .ref m), (1, .ref x), (0, .ref sb)]) [2, 3, 4, 5, 6] rfl ?_
    exact K _ _ _ (by omega) (by omega) ⟨t, bl, off, cur, und, now, Ds, g9, hC3.more, ⟨_, len2, spot2, fa2, num2, frm2, may2, R2, A2, T2, hMS3, hnow2, ha3, ht3, hT2, hsl2⟩, hAP, ho3⟩
  · obtain ⟨hP9, hs1, f1⟩ := hx1
    obtain ⟨hC1, hM1, ho1⟩ := LI.q hCI hMI hAP ho hs1 f1
    rcases hP9 with ⟨rfl, hno⟩ | ⟨rfl, ⟨j, hj, ew1⟩, hno⟩
    · have hkc : kc = 1 := by rw [← hec]; decide
      subst hkc
      obtain ⟨th2, len2, spot2, fa2, num2, frm2, may2, R2, A2, T2, hMS2, hnow2, hasd2, htext2, hT2, hsl2⟩ := id hM1
      have hS2 : slD R2 (330 * now) (Ds 0) := by have h0 := hsl2 0 (Nat.zero_le _); rwa [show (now + 9 - 0) % 9 = now by omega] at h0
      obtain ⟨_, _, _, _, _, _, hm2, -⟩ := id hMS2
      refine v_istore (pc' := 357) (i := 5) (L' := [(5, .int (nI 1)), (4, .int (nI i)), (3, .ref out), (2, .ref m), (1, .ref x), (0, .ref sb)]) F dL_law_355  (by decide) rfl rfl ?_
      refine v_aload_n (pc' := 358) F dL_law_357 rfl (j := 3) rfl rfl ?_
      refine v_aload_n (pc' := 359) F dL_law_358 rfl (j := 5) rfl rfl ?_
      refine v_iload (pc' := 361) F dL_law_359  (j := 1) rfl rfl ?_
      refine v_iconst (pc' := 362) (v := nI 1) F dL_law_361 (by decide) rfl ?_
      refine v_iadd (pc' := 363) (v := nI (i + 1)) F dL_law_362 (nI_add i 1) rfl ?_
      refine w_sld (pc' := 364) (j := i + 1) F hSc (by omega) (by omega) hw1 dL_law_363 rfl ?_
      refine v_aload_n (pc' := 365) F dL_law_364 rfl (j := 5) rfl rfl ?_
      refine v_iload (pc' := 367) F dL_law_365  (j := 1) rfl rfl ?_
      refine v_iconst (pc' := 368) (v := nI 2) F dL_law_367 (by decide) rfl ?_
      refine v_iadd (pc' := 369) (v := nI (i + 2)) F dL_law_368 (nI_add i 2) rfl ?_
      refine w_sld (pc' := 370) (j := i + 2) F hSc (by omega) (by omega) hw2 dL_law_369 rfl ?_
      refine v_callV (pc' := 373) (rt := (some .int)) (mcc := 0) (msc := 0) (As := [.int w1, .int w2]) (st := []) F (fun l => o1_X7_version G z0 l hMS2 hnow2 w9 hS2 w1 w2 hno) gL_law_X7_version rfl hv_X7_version (by decide) (by decide) hm2 rfl rfl rfl (Nat.le_of_ble_eq_true rfl) (by omega) (by omega) dL_law_370 rfl (fun v5 h4 hqm => ?_)
      obtain ⟨⟨y9, rfl⟩, hMS3, fQ⟩ := hqm
      obtain ⟨hC3, ho3⟩ := LI.m hC1 hM1 hAP ho1 (sub_q m rows asd vals many way told oth lst text) fQ
      obtain ⟨ha3, ht3⟩ := mS.at hMS2 hasd2 htext2 fQ
      obtain ⟨_, _, _, _, _, _, hm3, -⟩ := id hMS3
      refine v_istore (pc' := 375) (i := 6) (L' := [(6, .int y9), (5, .int (nI 1)), (4, .int (nI i)), (3, .ref out), (2, .ref m), (1, .ref x), (0, .ref sb)]) F dL_law_373  (by decide) rfl rfl ?_
      refine v_aload_n (pc' := 376) F dL_law_375 rfl (j := 4) rfl rfl ?_
      refine v_callV (pc' := 379) (rt := (some .int)) (mcc := 0) (msc := 0) (As := []) (st := []) F (fun l => c_X7_thrown G z0 l hm3) gL_law_X7_thrown rfl hv_X7_thrown (by decide) (by decide) hm3 rfl rfl rfl (Nat.le_of_ble_eq_true rfl) (by omega) (by omega) dL_law_376 rfl (fun v6 h4 hqt => ?_)
      obtain ⟨rfl, rfl⟩ := hqt
      refine v_iload (pc' := 381) F dL_law_379  (j := 1) rfl rfl ?_
      refine w_icmp_eq (tgt := 386) (pc' := 384) F (by omega) (by omega) dL_law_381 (by decide) rfl (fun _ => ?_) (fun c0 => absurd c0 (by omega))
      refine v_iload (pc' := 388) F dL_law_386  (j := 1) rfl rfl ?_
      refine w_if_ne (tgt := 403) (pc' := 391) F (by omega) dL_law_388 (by decide) rfl (fun _ => ?_) (fun c0 => absurd c0 (by omega))
      refine v_goto (tgt := 1252) F dL_law_403 (by decide) ?_
      refine v_sub (L' := [(4, .int (nI i)), (3, .ref out), (2, .ref m), (1, .ref x), (0, .ref sb)]) [2, 3, 4, 5, 6] rfl ?_
      exact K _ _ _ (by omega) (by omega) ⟨t, bl, off, cur, und, now, Ds, g, hC3.more, ⟨_, len2, spot2, fa2, num2, frm2, may2, R2, A2, T2, hMS3, hnow2, ha3, ht3, hT2, hsl2⟩, hAP, ho3⟩
    · have hkc : kc = 2 := by rw [← hec]; decide
      subst hkc
      subst ew1
      obtain ⟨th2, len2, spot2, fa2, num2, frm2, may2, R2, A2, T2, hMS2, hnow2, hasd2, htext2, hT2, hsl2⟩ := id hM1
      have hS2 : slD R2 (330 * now) (Ds 0) := by have h0 := hsl2 0 (Nat.zero_le _); rwa [show (now + 9 - 0) % 9 = now by omega] at h0
      obtain ⟨_, _, _, _, _, _, hm2, -⟩ := id hMS2
      refine v_istore (pc' := 357) (i := 5) (L' := [(5, .int (nI 2)), (4, .int (nI i)), (3, .ref out), (2, .ref m), (1, .ref x), (0, .ref sb)]) F dL_law_355  (by decide) rfl rfl ?_
      refine v_aload_n (pc' := 358) F dL_law_357 rfl (j := 3) rfl rfl ?_
      refine v_aload_n (pc' := 359) F dL_law_358 rfl (j := 5) rfl rfl ?_
      refine v_iload (pc' := 361) F dL_law_359  (j := 1) rfl rfl ?_
      refine v_iconst (pc' := 362) (v := nI 1) F dL_law_361 (by decide) rfl ?_
      refine v_iadd (pc' := 363) (v := nI (i + 1)) F dL_law_362 (nI_add i 1) rfl ?_
      refine w_sld (pc' := 364) (j := i + 1) F hSc (by omega) (by omega) hw1 dL_law_363 rfl ?_
      refine v_aload_n (pc' := 365) F dL_law_364 rfl (j := 5) rfl rfl ?_
      refine v_iload (pc' := 367) F dL_law_365  (j := 1) rfl rfl ?_
      refine v_iconst (pc' := 368) (v := nI 2) F dL_law_367 (by decide) rfl ?_
      refine v_iadd (pc' := 369) (v := nI (i + 2)) F dL_law_368 (nI_add i 2) rfl ?_
      refine w_sld (pc' := 370) (j := i + 2) F hSc (by omega) (by omega) hw2 dL_law_369 rfl ?_
      refine v_callV (pc' := 373) (rt := (some .int)) (mcc := 0) (msc := 0) (As := [.int (nI j), .int w2]) (st := []) F (fun l => o2_X7_version G z0 l hMS2 hnow2 w9 hS2 w2 hj hno) gL_law_X7_version rfl hv_X7_version (by decide) (by decide) hm2 rfl rfl rfl (Nat.le_of_ble_eq_true rfl) (by omega) (by omega) dL_law_370 rfl (fun v8 h7 hqm => ?_)
      obtain ⟨⟨y9, rfl⟩, hMS3, fQ⟩ := hqm
      obtain ⟨hC3, ho3⟩ := LI.m hC1 hM1 hAP ho1 (sub_q m rows asd vals many way told oth lst text) fQ
      obtain ⟨ha3, ht3⟩ := mS.at hMS2 hasd2 htext2 fQ
      obtain ⟨_, _, _, _, _, _, hm3, -⟩ := id hMS3
      refine v_istore (pc' := 375) (i := 6) (L' := [(6, .int y9), (5, .int (nI 2)), (4, .int (nI i)), (3, .ref out), (2, .ref m), (1, .ref x), (0, .ref sb)]) F dL_law_373  (by decide) rfl rfl ?_
      refine v_aload_n (pc' := 376) F dL_law_375 rfl (j := 4) rfl rfl ?_
      refine v_callV (pc' := 379) (rt := (some .int)) (mcc := 0) (msc := 0) (As := []) (st := []) F (fun l => c_X7_thrown G z0 l hm3) gL_law_X7_thrown rfl hv_X7_thrown (by decide) (by decide) hm3 rfl rfl rfl (Nat.le_of_ble_eq_true rfl) (by omega) (by omega) dL_law_376 rfl (fun v9 h7 hqt => ?_)
      obtain ⟨rfl, rfl⟩ := hqt
      refine v_iload (pc' := 381) F dL_law_379  (j := 1) rfl rfl ?_
      refine w_icmp_eq (tgt := 386) (pc' := 384) F (by omega) (by omega) dL_law_381 (by decide) rfl (fun _ => ?_) (fun c0 => absurd c0 (by omega))
      refine v_iload (pc' := 388) F dL_law_386  (j := 1) rfl rfl ?_
      refine w_if_ne (tgt := 403) (pc' := 391) F (by omega) dL_law_388 (by decide) rfl (fun _ => ?_) (fun c0 => absurd c0 (by omega))
      refine v_goto (tgt := 1252) F dL_law_403 (by decide) ?_
      refine v_sub (L' := [(4, .int (nI i)), (3, .ref out), (2, .ref m), (1, .ref x), (0, .ref sb)]) [2, 3, 4, 5, 6] rfl ?_
      exact K _ _ _ (by omega) (by omega) ⟨t, bl, off, cur, und, now, Ds, g, hC3.more, ⟨_, len2, spot2, fa2, num2, frm2, may2, R2, A2, T2, hMS3, hnow2, ha3, ht3, hT2, hsl2⟩, hAP, ho3⟩
theorem hd_L_value : yL_value.cls ≠ "java/lang/invoke/MethodHandle" ∧ yL_value.cls ≠ "java/lang/invoke/VarHandle" ∧ (parseMethodDescriptor yL_value.desc).map (fun d => d.parameters.length) = some 5 := by decide +kernel
theorem hv_X7_value : yX7_value.cls = RX7 ∧ yX7_value.cls ≠ "java/lang/invoke/MethodHandle" ∧ yX7_value.cls ≠ "java/lang/invoke/VarHandle" ∧ (parseMethodDescriptor yX7_value.desc).map (fun d => d.parameters.length) = some 3 := by decide +kernel
set_option maxHeartbeats 4000000 in
set_option maxRecDepth 100000 in
theorem op_value {G : gG} {z0 : Nat} {X : gX} {mc ms cells slots i N sb k : Nat} {nm : String} {xs : Nat → Int32} {h : gH} {x buf rd bks oq rw orw root m rows asd vals many way told oth lst text out : Nat} {bk bv : Nat → Nat} (F : gF G z0 X cL_law 9 RL wsL_law (some .boolean) nm 14 526 mc ms) (hst : X.2.1.stackTraces = false) (hSc : gSc z0 X sb N xs) (hN : N ≤ 3072) (hiN : i + 6 ≤ N) (hcc : cells + 1173 ≤ mc) (hss : slots + 14000 ≤ ms) (hk9 : k < 60000) (hL : LI G h x buf rd bks oq rw orw root m rows asd vals many way told oth lst text out bk bv k) (K : ∀ (c9 s9 : Nat) (h' : gH), c9 ≤ cells + 1173 → s9 ≤ slots + 14000 → LI G h' x buf rd bks oq rw orw root m rows asd vals many way told oth lst text out bk bv (k + 1) → gV G z0 X c9 s9 h' 1252 [(4, .int (nI i)), (3, .ref out), (2, .ref m), (1, .ref x), (0, .ref sb)] []) : gV G z0 X cells slots h 406 [(4, .int (nI i)), (3, .ref out), (2, .ref m), (1, .ref x), (0, .ref sb)] [] := by
  obtain ⟨t, bl, off, cur, und, now, Ds, g, hCI, hMI, hAP, ho⟩ := hL
  obtain ⟨hX, ⟨hc, hu, hb5⟩, ⟨fb, hbuf, hft⟩, hRd, hsc, hro, hVr, hring, ⟨hbi, hvi⟩, hDs⟩ := id hCI
  obtain ⟨w9, hdr, ad, as, hcl, hroot⟩ := hCI.now
  have hB := hcl.1
  have hD := hcl.dat w9
  have hn := w9.2.1
  have h1n := w9.1
  have hx6 := hX.1
  obtain ⟨th, len, spot, fa, num, frm, may, R, A, T, hMS, hnow, hasd, htext, hT, hsl⟩ := id hMI
  obtain ⟨w1, hw1⟩ : ∃ w, xs (i + 1) = w := ⟨_, rfl⟩
  obtain ⟨w2, hw2⟩ : ∃ w, xs (i + 2) = w := ⟨_, rfl⟩
  obtain ⟨w3, hw3⟩ : ∃ w, xs (i + 3) = w := ⟨_, rfl⟩
  refine v_aload_n (pc' := 407) F dL_law_406 rfl (j := 3) rfl rfl ?_
  refine v_aload_n (pc' := 408) F dL_law_407 rfl (j := 4) rfl rfl ?_
  refine v_iload (pc' := 410) F dL_law_408  (j := 0) rfl rfl ?_
  refine v_iconst (pc' := 411) (v := nI 1) F dL_law_410 (by decide) rfl ?_
  refine v_iadd (pc' := 412) (v := nI (i + 1)) F dL_law_411 (nI_add i 1) rfl ?_
  refine w_sld (pc' := 413) (j := i + 1) F hSc (by omega) (by omega) hw1 dL_law_412 rfl ?_
  refine v_aload_n (pc' := 414) F dL_law_413 rfl (j := 4) rfl rfl ?_
  refine v_iload (pc' := 416) F dL_law_414  (j := 0) rfl rfl ?_
  refine v_iconst (pc' := 417) (v := nI 2) F dL_law_416 (by decide) rfl ?_
  refine v_iadd (pc' := 418) (v := nI (i + 2)) F dL_law_417 (nI_add i 2) rfl ?_
  refine w_sld (pc' := 419) (j := i + 2) F hSc (by omega) (by omega) hw2 dL_law_418 rfl ?_
  refine v_aload_n (pc' := 420) F dL_law_419 rfl (j := 4) rfl rfl ?_
  refine v_iload (pc' := 422) F dL_law_420  (j := 0) rfl rfl ?_
  refine v_iconst (pc' := 423) (v := nI 3) F dL_law_422 (by decide) rfl ?_
  refine v_iadd (pc' := 424) (v := nI (i + 3)) F dL_law_423 (nI_add i 3) rfl ?_
  refine w_sld (pc' := 425) (j := i + 3) F hSc (by omega) (by omega) hw3 dL_law_424 rfl ?_
  refine v_aload_n (pc' := 426) F dL_law_425 rfl (j := 1) rfl rfl ?_
  refine v_callSH (pc' := 429) (rt := (some .int)) (hh := [(0, 12, 15, 22), (0, 12, 19, 13)]) (mcc := 2) (msc := 12) (As := [.ref x, .int w1, .int w2, .int w3, .ref out]) (st := []) F hst (fun l hst => c_L_value G z0 l hst w1 w2 w3 hx6 ho (fun l hst => c_X6_value G z0 l hst w1 w2 w3 hX hc hu hn hB hD hro hsc) (fun v h9 hq => by obtain ⟨j, kk, hj, hk, ew1, ew2, hv, hs1, f1⟩ := hq; exact ⟨⟨_, hv⟩, (LI.q hCI hMI hAP ho hs1 f1).2.2⟩) (fun E h9 hq => by rcases hq.1 with z | z; exact .inl z.1; exact .inr z.1)) gL_law_L_value rfl hd_L_value (by decide) (by decide) rfl rfl (Nat.le_of_ble_eq_true rfl) (by omega) (by omega) dL_law_426 rfl (fun v9 h9 hq => ?_)
  rcases hq with ⟨k9, h1, hq1, rfl, g9, hgo, hg0, fO⟩ | ⟨E9, kc, hx1, rfl, hec⟩
  · obtain ⟨j, kk, hj, hk, ew1, ew2, hv, hs1, f1⟩ := hq1
    subst ew1
    subst ew2
    obtain rfl := Value.int.inj (Option.some.inj hv)
    obtain ⟨hC1, hM1, ho1⟩ := LI.q hCI hMI hAP ho hs1 f1
    obtain ⟨hC2, hM2⟩ := LI.o hC1 hM1 ho1 fO
    by_cases hsp : kk = 0
    · skip
      subst hsp
      rw [if_pos rfl] at hg0
      obtain ⟨th2, len2, spot2, fa2, num2, frm2, may2, R2, A2, T2, hMS2, hnow2, hasd2, htext2, hT2, hsl2⟩ := id hM2
      have hS2 : slD R2 (330 * now) (Ds 0) := by have h0 := hsl2 0 (Nat.zero_le _); rwa [show (now + 9 - 0) % 9 = now by omega] at h0
      obtain ⟨_, _, _, _, _, _, hm2, -⟩ := id hMS2
      refine v_istore (pc' := 431) (i := 5) (L' := [(5, .int (nI 0)), (4, .int (nI i)), (3, .ref out), (2, .ref m), (1, .ref x), (0, .ref sb)]) F dL_law_429  (by decide) rfl rfl ?_
      refine v_aload_n (pc' := 432) F dL_law_431 rfl (j := 3) rfl rfl ?_
      refine v_aload_n (pc' := 433) F dL_law_432 rfl (j := 5) rfl rfl ?_
      refine v_iload (pc' := 435) F dL_law_433  (j := 1) rfl rfl ?_
      refine v_iconst (pc' := 436) (v := nI 1) F dL_law_435 (by decide) rfl ?_
      refine v_iadd (pc' := 437) (v := nI (i + 1)) F dL_law_436 (nI_add i 1) rfl ?_
      refine w_sld (pc' := 438) (j := i + 1) F hSc (by omega) (by omega) hw1 dL_law_437 rfl ?_
      refine v_aload_n (pc' := 439) F dL_law_438 rfl (j := 5) rfl rfl ?_
      refine v_iload (pc' := 441) F dL_law_439  (j := 1) rfl rfl ?_
      refine v_iconst (pc' := 442) (v := nI 2) F dL_law_441 (by decide) rfl ?_
      refine v_iadd (pc' := 443) (v := nI (i + 2)) F dL_law_442 (nI_add i 2) rfl ?_
      refine w_sld (pc' := 444) (j := i + 2) F hSc (by omega) (by omega) hw2 dL_law_443 rfl ?_
      refine v_aload_n (pc' := 445) F dL_law_444 rfl (j := 5) rfl rfl ?_
      refine v_iload (pc' := 447) F dL_law_445  (j := 1) rfl rfl ?_
      refine v_iconst (pc' := 448) (v := nI 3) F dL_law_447 (by decide) rfl ?_
      refine v_iadd (pc' := 449) (v := nI (i + 3)) F dL_law_448 (nI_add i 3) rfl ?_
      refine w_sld (pc' := 450) (j := i + 3) F hSc (by omega) (by omega) hw3 dL_law_449 rfl ?_
      refine v_callV (pc' := 453) (rt := (some .int)) (mcc := 0) (msc := 0) (As := [.int (nI j), .int (nI 0), .int w3]) (st := []) F (fun l => c0_X7_value G z0 l w3 hMS2 hnow2 w9 hS2 hj) gL_law_X7_value rfl hv_X7_value (by decide) (by decide) hm2 rfl rfl rfl (Nat.le_of_ble_eq_true rfl) (by omega) (by omega) dL_law_450 rfl (fun v2 h1 hqm => ?_)
      obtain ⟨rfl, hMS3, fQ⟩ := hqm
      obtain ⟨hC3, ho3⟩ := LI.m hC2 hM2 hAP hgo (sub_q m rows asd vals many way told oth lst text) fQ
      obtain ⟨ha3, ht3⟩ := mS.at hMS2 hasd2 htext2 fQ
      obtain ⟨_, _, _, _, _, _, hm3, -⟩ := id hMS3
      refine v_istore (pc' := 455) (i := 6) (L' := [(6, .int (vAt w3 (wVals ((Ds 0).2.2.2.2 j)) 0)), (5, .int (nI 0)), (4, .int (nI i)), (3, .ref out), (2, .ref m), (1, .ref x), (0, .ref sb)]) F dL_law_453  (by decide) rfl rfl ?_
      refine v_aload_n (pc' := 456) F dL_law_455 rfl (j := 4) rfl rfl ?_
      refine v_callV (pc' := 459) (rt := (some .int)) (mcc := 0) (msc := 0) (As := []) (st := []) F (fun l => c_X7_thrown G z0 l hm3) gL_law_X7_thrown rfl hv_X7_thrown (by decide) (by decide) hm3 rfl rfl rfl (Nat.le_of_ble_eq_true rfl) (by omega) (by omega) dL_law_456 rfl (fun v3 h1 hqt => ?_)
      obtain ⟨rfl, rfl⟩ := hqt
      refine v_iload (pc' := 461) F dL_law_459  (j := 1) rfl rfl ?_
      refine w_icmp_eq (tgt := 466) (pc' := 464) F (by omega) (by omega) dL_law_461 (by decide) rfl (fun _ => ?_) (fun c0 => absurd c0 (by omega))
      refine v_iload (pc' := 468) F dL_law_466  (j := 1) rfl rfl ?_
      refine w_if_ne (tgt := 483) (pc' := 471) F (by omega) dL_law_468 (by decide) rfl (fun c0 => absurd c0 (by omega)) (fun _ => ?_)
      refine v_aload_n (pc' := 472) F dL_law_471 rfl (j := 3) rfl rfl ?_
      refine v_iconst (pc' := 473) (v := nI 0) F dL_law_472 (by decide) rfl ?_
      refine w_lald (pc' := 474) (v := (vAt w3 (wVals ((Ds 0).2.2.2.2 j)) 0).toInt64) F ho3 (by omega) (by omega) hg0 dL_law_473 rfl ?_
      refine v_iload (pc' := 476) F dL_law_474  (j := 0) rfl rfl ?_
      refine v_i2l (pc' := 477) (v := (vAt w3 (wVals ((Ds 0).2.2.2.2 j)) 0).toInt64) F dL_law_476 rfl rfl ?_
      refine v_lcmp (pc' := 478) F dL_law_477 rfl ?_
      refine v_if_eq (tgt := 483) (pc' := 481) F dL_law_478 (by decide) rfl (fun _ => ?_) (fun c0 => absurd (lg_self _) c0)
      refine v_goto (tgt := 1252) F dL_law_483 (by decide) ?_
      refine v_sub (L' := [(4, .int (nI i)), (3, .ref out), (2, .ref m), (1, .ref x), (0, .ref sb)]) [2, 3, 4, 5, 6] rfl ?_
      exact K _ _ _ (by omega) (by omega) ⟨t, bl, off, cur, und, now, Ds, g9, hC3.more, ⟨_, len2, spot2, fa2, num2, frm2, may2, R2, A2, T2, hMS3, hnow2, ha3, ht3, hT2, hsl2⟩, hAP, ho3⟩
    · skip
      rw [if_neg hsp] at hg0
      obtain ⟨th2, len2, spot2, fa2, num2, frm2, may2, R2, A2, T2, hMS2, hnow2, hasd2, htext2, hT2, hsl2⟩ := id hM2
      have hS2 : slD R2 (330 * now) (Ds 0) := by have h0 := hsl2 0 (Nat.zero_le _); rwa [show (now + 9 - 0) % 9 = now by omega] at h0
      obtain ⟨_, _, _, _, _, _, hm2, -⟩ := id hMS2
      refine v_istore (pc' := 431) (i := 5) (L' := [(5, .int (nI 0)), (4, .int (nI i)), (3, .ref out), (2, .ref m), (1, .ref x), (0, .ref sb)]) F dL_law_429  (by decide) rfl rfl ?_
      refine v_aload_n (pc' := 432) F dL_law_431 rfl (j := 3) rfl rfl ?_
      refine v_aload_n (pc' := 433) F dL_law_432 rfl (j := 5) rfl rfl ?_
      refine v_iload (pc' := 435) F dL_law_433  (j := 1) rfl rfl ?_
      refine v_iconst (pc' := 436) (v := nI 1) F dL_law_435 (by decide) rfl ?_
      refine v_iadd (pc' := 437) (v := nI (i + 1)) F dL_law_436 (nI_add i 1) rfl ?_
      refine w_sld (pc' := 438) (j := i + 1) F hSc (by omega) (by omega) hw1 dL_law_437 rfl ?_
      refine v_aload_n (pc' := 439) F dL_law_438 rfl (j := 5) rfl rfl ?_
      refine v_iload (pc' := 441) F dL_law_439  (j := 1) rfl rfl ?_
      refine v_iconst (pc' := 442) (v := nI 2) F dL_law_441 (by decide) rfl ?_
      refine v_iadd (pc' := 443) (v := nI (i + 2)) F dL_law_442 (nI_add i 2) rfl ?_
      refine w_sld (pc' := 444) (j := i + 2) F hSc (by omega) (by omega) hw2 dL_law_443 rfl ?_
      refine v_aload_n (pc' := 445) F dL_law_444 rfl (j := 5) rfl rfl ?_
      refine v_iload (pc' := 447) F dL_law_445  (j := 1) rfl rfl ?_
      refine v_iconst (pc' := 448) (v := nI 3) F dL_law_447 (by decide) rfl ?_
      refine v_iadd (pc' := 449) (v := nI (i + 3)) F dL_law_448 (nI_add i 3) rfl ?_
      refine w_sld (pc' := 450) (j := i + 3) F hSc (by omega) (by omega) hw3 dL_law_449 rfl ?_
      refine v_callV (pc' := 453) (rt := (some .int)) (mcc := 0) (msc := 0) (As := [.int (nI j), .int (nI kk), .int w3]) (st := []) F (fun l => c_X7_value G z0 l w3 hMS2 hnow2 w9 hS2 hj (by omega) (by omega)) gL_law_X7_value rfl hv_X7_value (by decide) (by decide) hm2 rfl rfl rfl (Nat.le_of_ble_eq_true rfl) (by omega) (by omega) dL_law_450 rfl (fun v5 h4 hqm => ?_)
      obtain ⟨rfl, hMS3, fQ⟩ := hqm
      obtain ⟨hC3, ho3⟩ := LI.m hC2 hM2 hAP hgo (sub_q m rows asd vals many way told oth lst text) fQ
      obtain ⟨ha3, ht3⟩ := mS.at hMS2 hasd2 htext2 fQ
      obtain ⟨_, _, _, _, _, _, hm3, -⟩ := id hMS3
      refine v_istore (pc' := 455) (i := 6) (L' := [(6, .int (vAt w3 (qList (qOf ((Ds 0).2.2.2.2 j)).1 kk) 0)), (5, .int (nI 0)), (4, .int (nI i)), (3, .ref out), (2, .ref m), (1, .ref x), (0, .ref sb)]) F dL_law_453  (by decide) rfl rfl ?_
      refine v_aload_n (pc' := 456) F dL_law_455 rfl (j := 4) rfl rfl ?_
      refine v_callV (pc' := 459) (rt := (some .int)) (mcc := 0) (msc := 0) (As := []) (st := []) F (fun l => c_X7_thrown G z0 l hm3) gL_law_X7_thrown rfl hv_X7_thrown (by decide) (by decide) hm3 rfl rfl rfl (Nat.le_of_ble_eq_true rfl) (by omega) (by omega) dL_law_456 rfl (fun v6 h4 hqt => ?_)
      obtain ⟨rfl, rfl⟩ := hqt
      refine v_iload (pc' := 461) F dL_law_459  (j := 1) rfl rfl ?_
      refine w_icmp_eq (tgt := 466) (pc' := 464) F (by omega) (by omega) dL_law_461 (by decide) rfl (fun _ => ?_) (fun c0 => absurd c0 (by omega))
      refine v_iload (pc' := 468) F dL_law_466  (j := 1) rfl rfl ?_
      refine w_if_ne (tgt := 483) (pc' := 471) F (by omega) dL_law_468 (by decide) rfl (fun c0 => absurd c0 (by omega)) (fun _ => ?_)
      refine v_aload_n (pc' := 472) F dL_law_471 rfl (j := 3) rfl rfl ?_
      refine v_iconst (pc' := 473) (v := nI 0) F dL_law_472 (by decide) rfl ?_
      refine w_lald (pc' := 474) (v := (vAt w3 (qList (qOf ((Ds 0).2.2.2.2 j)).1 kk) 0).toInt64) F ho3 (by omega) (by omega) hg0 dL_law_473 rfl ?_
      refine v_iload (pc' := 476) F dL_law_474  (j := 0) rfl rfl ?_
      refine v_i2l (pc' := 477) (v := (vAt w3 (qList (qOf ((Ds 0).2.2.2.2 j)).1 kk) 0).toInt64) F dL_law_476 rfl rfl ?_
      refine v_lcmp (pc' := 478) F dL_law_477 rfl ?_
      refine v_if_eq (tgt := 483) (pc' := 481) F dL_law_478 (by decide) rfl (fun _ => ?_) (fun c0 => absurd (lg_self _) c0)
      refine v_goto (tgt := 1252) F dL_law_483 (by decide) ?_
      refine v_sub (L' := [(4, .int (nI i)), (3, .ref out), (2, .ref m), (1, .ref x), (0, .ref sb)]) [2, 3, 4, 5, 6] rfl ?_
      exact K _ _ _ (by omega) (by omega) ⟨t, bl, off, cur, und, now, Ds, g9, hC3.more, ⟨_, len2, spot2, fa2, num2, frm2, may2, R2, A2, T2, hMS3, hnow2, ha3, ht3, hT2, hsl2⟩, hAP, ho3⟩
  · obtain ⟨hP9, hs1, f1⟩ := hx1
    obtain ⟨hC1, hM1, ho1⟩ := LI.q hCI hMI hAP ho hs1 f1
    rcases hP9 with ⟨rfl, hno⟩ | ⟨rfl, ⟨j, hj, ew1⟩, hno⟩
    · have hkc : kc = 1 := by rw [← hec]; decide
      subst hkc
      obtain ⟨th2, len2, spot2, fa2, num2, frm2, may2, R2, A2, T2, hMS2, hnow2, hasd2, htext2, hT2, hsl2⟩ := id hM1
      have hS2 : slD R2 (330 * now) (Ds 0) := by have h0 := hsl2 0 (Nat.zero_le _); rwa [show (now + 9 - 0) % 9 = now by omega] at h0
      obtain ⟨_, _, _, _, _, _, hm2, -⟩ := id hMS2
      refine v_istore (pc' := 431) (i := 5) (L' := [(5, .int (nI 1)), (4, .int (nI i)), (3, .ref out), (2, .ref m), (1, .ref x), (0, .ref sb)]) F dL_law_429  (by decide) rfl rfl ?_
      refine v_aload_n (pc' := 432) F dL_law_431 rfl (j := 3) rfl rfl ?_
      refine v_aload_n (pc' := 433) F dL_law_432 rfl (j := 5) rfl rfl ?_
      refine v_iload (pc' := 435) F dL_law_433  (j := 1) rfl rfl ?_
      refine v_iconst (pc' := 436) (v := nI 1) F dL_law_435 (by decide) rfl ?_
      refine v_iadd (pc' := 437) (v := nI (i + 1)) F dL_law_436 (nI_add i 1) rfl ?_
      refine w_sld (pc' := 438) (j := i + 1) F hSc (by omega) (by omega) hw1 dL_law_437 rfl ?_
      refine v_aload_n (pc' := 439) F dL_law_438 rfl (j := 5) rfl rfl ?_
      refine v_iload (pc' := 441) F dL_law_439  (j := 1) rfl rfl ?_
      refine v_iconst (pc' := 442) (v := nI 2) F dL_law_441 (by decide) rfl ?_
      refine v_iadd (pc' := 443) (v := nI (i + 2)) F dL_law_442 (nI_add i 2) rfl ?_
      refine w_sld (pc' := 444) (j := i + 2) F hSc (by omega) (by omega) hw2 dL_law_443 rfl ?_
      refine v_aload_n (pc' := 445) F dL_law_444 rfl (j := 5) rfl rfl ?_
      refine v_iload (pc' := 447) F dL_law_445  (j := 1) rfl rfl ?_
      refine v_iconst (pc' := 448) (v := nI 3) F dL_law_447 (by decide) rfl ?_
      refine v_iadd (pc' := 449) (v := nI (i + 3)) F dL_law_448 (nI_add i 3) rfl ?_
      refine w_sld (pc' := 450) (j := i + 3) F hSc (by omega) (by omega) hw3 dL_law_449 rfl ?_
      refine v_callV (pc' := 453) (rt := (some .int)) (mcc := 0) (msc := 0) (As := [.int w1, .int w2, .int w3]) (st := []) F (fun l => o1_X7_value G z0 l hMS2 hnow2 w9 hS2 w1 w2 w3 hno) gL_law_X7_value rfl hv_X7_value (by decide) (by decide) hm2 rfl rfl rfl (Nat.le_of_ble_eq_true rfl) (by omega) (by omega) dL_law_450 rfl (fun v8 h7 hqm => ?_)
      obtain ⟨⟨y9, rfl⟩, hMS3, fQ⟩ := hqm
      obtain ⟨hC3, ho3⟩ := LI.m hC1 hM1 hAP ho1 (sub_q m rows asd vals many way told oth lst text) fQ
      obtain ⟨ha3, ht3⟩ := mS.at hMS2 hasd2 htext2 fQ
      obtain ⟨_, _, _, _, _, _, hm3, -⟩ := id hMS3
      refine v_istore (pc' := 455) (i := 6) (L' := [(6, .int y9), (5, .int (nI 1)), (4, .int (nI i)), (3, .ref out), (2, .ref m), (1, .ref x), (0, .ref sb)]) F dL_law_453  (by decide) rfl rfl ?_
      refine v_aload_n (pc' := 456) F dL_law_455 rfl (j := 4) rfl rfl ?_
      refine v_callV (pc' := 459) (rt := (some .int)) (mcc := 0) (msc := 0) (As := []) (st := []) F (fun l => c_X7_thrown G z0 l hm3) gL_law_X7_thrown rfl hv_X7_thrown (by decide) (by decide) hm3 rfl rfl rfl (Nat.le_of_ble_eq_true rfl) (by omega) (by omega) dL_law_456 rfl (fun v9 h7 hqt => ?_)
      obtain ⟨rfl, rfl⟩ := hqt
      refine v_iload (pc' := 461) F dL_law_459  (j := 1) rfl rfl ?_
      refine w_icmp_eq (tgt := 466) (pc' := 464) F (by omega) (by omega) dL_law_461 (by decide) rfl (fun _ => ?_) (fun c0 => absurd c0 (by omega))
      refine v_iload (pc' := 468) F dL_law_466  (j := 1) rfl rfl ?_
      refine w_if_ne (tgt := 483) (pc' := 471) F (by omega) dL_law_468 (by decide) rfl (fun _ => ?_) (fun c0 => absurd c0 (by omega))
      refine v_goto (tgt := 1252) F dL_law_483 (by decide) ?_
      refine v_sub (L' := [(4, .int (nI i)), (3, .ref out), (2, .ref m), (1, .ref x), (0, .ref sb)]) [2, 3, 4, 5, 6] rfl ?_
      exact K _ _ _ (by omega) (by omega) ⟨t, bl, off, cur, und, now, Ds, g, hC3.more, ⟨_, len2, spot2, fa2, num2, frm2, may2, R2, A2, T2, hMS3, hnow2, ha3, ht3, hT2, hsl2⟩, hAP, ho3⟩
    · have hkc : kc = 2 := by rw [← hec]; decide
      subst hkc
      subst ew1
      obtain ⟨th2, len2, spot2, fa2, num2, frm2, may2, R2, A2, T2, hMS2, hnow2, hasd2, htext2, hT2, hsl2⟩ := id hM1
      have hS2 : slD R2 (330 * now) (Ds 0) := by have h0 := hsl2 0 (Nat.zero_le _); rwa [show (now + 9 - 0) % 9 = now by omega] at h0
      obtain ⟨_, _, _, _, _, _, hm2, -⟩ := id hMS2
      refine v_istore (pc' := 431) (i := 5) (L' := [(5, .int (nI 2)), (4, .int (nI i)), (3, .ref out), (2, .ref m), (1, .ref x), (0, .ref sb)]) F dL_law_429  (by decide) rfl rfl ?_
      refine v_aload_n (pc' := 432) F dL_law_431 rfl (j := 3) rfl rfl ?_
      refine v_aload_n (pc' := 433) F dL_law_432 rfl (j := 5) rfl rfl ?_
      refine v_iload (pc' := 435) F dL_law_433  (j := 1) rfl rfl ?_
      refine v_iconst (pc' := 436) (v := nI 1) F dL_law_435 (by decide) rfl ?_
      refine v_iadd (pc' := 437) (v := nI (i + 1)) F dL_law_436 (nI_add i 1) rfl ?_
      refine w_sld (pc' := 438) (j := i + 1) F hSc (by omega) (by omega) hw1 dL_law_437 rfl ?_
      refine v_aload_n (pc' := 439) F dL_law_438 rfl (j := 5) rfl rfl ?_
      refine v_iload (pc' := 441) F dL_law_439  (j := 1) rfl rfl ?_
      refine v_iconst (pc' := 442) (v := nI 2) F dL_law_441 (by decide) rfl ?_
      refine v_iadd (pc' := 443) (v := nI (i + 2)) F dL_law_442 (nI_add i 2) rfl ?_
      refine w_sld (pc' := 444) (j := i + 2) F hSc (by omega) (by omega) hw2 dL_law_443 rfl ?_
      refine v_aload_n (pc' := 445) F dL_law_444 rfl (j := 5) rfl rfl ?_
      refine v_iload (pc' := 447) F dL_law_445  (j := 1) rfl rfl ?_
      refine v_iconst (pc' := 448) (v := nI 3) F dL_law_447 (by decide) rfl ?_
      refine v_iadd (pc' := 449) (v := nI (i + 3)) F dL_law_448 (nI_add i 3) rfl ?_
      refine w_sld (pc' := 450) (j := i + 3) F hSc (by omega) (by omega) hw3 dL_law_449 rfl ?_
      refine v_callV (pc' := 453) (rt := (some .int)) (mcc := 0) (msc := 0) (As := [.int (nI j), .int w2, .int w3]) (st := []) F (fun l => o2_X7_value G z0 l hMS2 hnow2 w9 hS2 w2 w3 hj hno) gL_law_X7_value rfl hv_X7_value (by decide) (by decide) hm2 rfl rfl rfl (Nat.le_of_ble_eq_true rfl) (by omega) (by omega) dL_law_450 rfl (fun v11 h10 hqm => ?_)
      obtain ⟨⟨y9, rfl⟩, hMS3, fQ⟩ := hqm
      obtain ⟨hC3, ho3⟩ := LI.m hC1 hM1 hAP ho1 (sub_q m rows asd vals many way told oth lst text) fQ
      obtain ⟨ha3, ht3⟩ := mS.at hMS2 hasd2 htext2 fQ
      obtain ⟨_, _, _, _, _, _, hm3, -⟩ := id hMS3
      refine v_istore (pc' := 455) (i := 6) (L' := [(6, .int y9), (5, .int (nI 2)), (4, .int (nI i)), (3, .ref out), (2, .ref m), (1, .ref x), (0, .ref sb)]) F dL_law_453  (by decide) rfl rfl ?_
      refine v_aload_n (pc' := 456) F dL_law_455 rfl (j := 4) rfl rfl ?_
      refine v_callV (pc' := 459) (rt := (some .int)) (mcc := 0) (msc := 0) (As := []) (st := []) F (fun l => c_X7_thrown G z0 l hm3) gL_law_X7_thrown rfl hv_X7_thrown (by decide) (by decide) hm3 rfl rfl rfl (Nat.le_of_ble_eq_true rfl) (by omega) (by omega) dL_law_456 rfl (fun v12 h10 hqt => ?_)
      obtain ⟨rfl, rfl⟩ := hqt
      refine v_iload (pc' := 461) F dL_law_459  (j := 1) rfl rfl ?_
      refine w_icmp_eq (tgt := 466) (pc' := 464) F (by omega) (by omega) dL_law_461 (by decide) rfl (fun _ => ?_) (fun c0 => absurd c0 (by omega))
      refine v_iload (pc' := 468) F dL_law_466  (j := 1) rfl rfl ?_
      refine w_if_ne (tgt := 483) (pc' := 471) F (by omega) dL_law_468 (by decide) rfl (fun _ => ?_) (fun c0 => absurd c0 (by omega))
      refine v_goto (tgt := 1252) F dL_law_483 (by decide) ?_
      refine v_sub (L' := [(4, .int (nI i)), (3, .ref out), (2, .ref m), (1, .ref x), (0, .ref sb)]) [2, 3, 4, 5, 6] rfl ?_
      exact K _ _ _ (by omega) (by omega) ⟨t, bl, off, cur, und, now, Ds, g, hC3.more, ⟨_, len2, spot2, fa2, num2, frm2, may2, R2, A2, T2, hMS3, hnow2, ha3, ht3, hT2, hsl2⟩, hAP, ho3⟩
theorem hd_L_first : yL_first.cls ≠ "java/lang/invoke/MethodHandle" ∧ yL_first.cls ≠ "java/lang/invoke/VarHandle" ∧ (parseMethodDescriptor yL_first.desc).map (fun d => d.parameters.length) = some 3 := by decide +kernel
theorem hv_X7_first : yX7_first.cls = RX7 ∧ yX7_first.cls ≠ "java/lang/invoke/MethodHandle" ∧ yX7_first.cls ≠ "java/lang/invoke/VarHandle" ∧ (parseMethodDescriptor yX7_first.desc).map (fun d => d.parameters.length) = some 1 := by decide +kernel
set_option maxHeartbeats 4000000 in
set_option maxRecDepth 100000 in
theorem op_first {G : gG} {z0 : Nat} {X : gX} {mc ms cells slots i N sb k : Nat} {nm : String} {xs : Nat → Int32} {h : gH} {x buf rd bks oq rw orw root m rows asd vals many way told oth lst text out : Nat} {bk bv : Nat → Nat} (F : gF G z0 X cL_law 9 RL wsL_law (some .boolean) nm 14 526 mc ms) (hst : X.2.1.stackTraces = false) (hSc : gSc z0 X sb N xs) (hN : N ≤ 3072) (hiN : i + 6 ≤ N) (hcc : cells + 1173 ≤ mc) (hss : slots + 14000 ≤ ms) (hk9 : k < 60000) (hL : LI G h x buf rd bks oq rw orw root m rows asd vals many way told oth lst text out bk bv k) (K : ∀ (c9 s9 : Nat) (h' : gH), c9 ≤ cells + 1173 → s9 ≤ slots + 14000 → LI G h' x buf rd bks oq rw orw root m rows asd vals many way told oth lst text out bk bv (k + 1) → gV G z0 X c9 s9 h' 1252 [(4, .int (nI i)), (3, .ref out), (2, .ref m), (1, .ref x), (0, .ref sb)] []) : gV G z0 X cells slots h 486 [(4, .int (nI i)), (3, .ref out), (2, .ref m), (1, .ref x), (0, .ref sb)] [] := by
  obtain ⟨t, bl, off, cur, und, now, Ds, g, hCI, hMI, hAP, ho⟩ := hL
  obtain ⟨hX, ⟨hc, hu, hb5⟩, ⟨fb, hbuf, hft⟩, hRd, hsc, hro, hVr, hring, ⟨hbi, hvi⟩, hDs⟩ := id hCI
  obtain ⟨w9, hdr, ad, as, hcl, hroot⟩ := hCI.now
  have hB := hcl.1
  have hD := hcl.dat w9
  have hn := w9.2.1
  have h1n := w9.1
  have hx6 := hX.1
  obtain ⟨th, len, spot, fa, num, frm, may, R, A, T, hMS, hnow, hasd, htext, hT, hsl⟩ := id hMI
  obtain ⟨w1, hw1⟩ : ∃ w, xs (i + 1) = w := ⟨_, rfl⟩
  refine v_aload_n (pc' := 487) F dL_law_486 rfl (j := 3) rfl rfl ?_
  refine v_aload_n (pc' := 488) F dL_law_487 rfl (j := 4) rfl rfl ?_
  refine v_iload (pc' := 490) F dL_law_488  (j := 0) rfl rfl ?_
  refine v_iconst (pc' := 491) (v := nI 1) F dL_law_490 (by decide) rfl ?_
  refine v_iadd (pc' := 492) (v := nI (i + 1)) F dL_law_491 (nI_add i 1) rfl ?_
  refine w_sld (pc' := 493) (j := i + 1) F hSc (by omega) (by omega) hw1 dL_law_492 rfl ?_
  refine v_aload_n (pc' := 494) F dL_law_493 rfl (j := 1) rfl rfl ?_
  refine v_callSH (pc' := 497) (rt := (some .int)) (hh := [(0, 9, 12, 22), (0, 9, 15, 31)]) (mcc := 2) (msc := 12) (As := [.ref x, .int w1, .ref out]) (st := []) F hst (fun l hst => c_L_first G z0 l hst w1 hx6 ho (fun l hst => c_X6_first G z0 l hst w1 hX hc hu hn hB hD hro hsc) (fun v h9 hq => by obtain ⟨j, hj, ew1, hne, hv, hs1, f1⟩ := hq; exact ⟨⟨_, hv⟩, (LI.q hCI hMI hAP ho hs1 f1).2.2⟩) (fun E h9 hq => by rcases hq.1 with z | z; exact .inl z.1; exact .inr z.1)) gL_law_L_first rfl hd_L_first (by decide) (by decide) rfl rfl (Nat.le_of_ble_eq_true rfl) (by omega) (by omega) dL_law_494 rfl (fun v9 h9 hq => ?_)
  rcases hq with ⟨k9, h1, hq1, rfl, g9, hgo, hg0, fO⟩ | ⟨E9, kc, hx1, rfl, hec⟩
  · obtain ⟨j, hj, ew1, hne, hv, hs1, f1⟩ := hq1
    subst ew1
    obtain rfl := Value.int.inj (Option.some.inj hv)
    obtain ⟨hC1, hM1, ho1⟩ := LI.q hCI hMI hAP ho hs1 f1
    obtain ⟨hC2, hM2⟩ := LI.o hC1 hM1 ho1 fO
    obtain ⟨th2, len2, spot2, fa2, num2, frm2, may2, R2, A2, T2, hMS2, hnow2, hasd2, htext2, hT2, hsl2⟩ := id hM2
    have hS2 : slD R2 (330 * now) (Ds 0) := by have h0 := hsl2 0 (Nat.zero_le _); rwa [show (now + 9 - 0) % 9 = now by omega] at h0
    obtain ⟨_, _, _, _, _, _, hm2, -⟩ := id hMS2
    refine v_istore (pc' := 499) (i := 5) (L' := [(5, .int (nI 0)), (4, .int (nI i)), (3, .ref out), (2, .ref m), (1, .ref x), (0, .ref sb)]) F dL_law_497  (by decide) rfl rfl ?_
    refine v_aload_n (pc' := 500) F dL_law_499 rfl (j := 3) rfl rfl ?_
    refine v_aload_n (pc' := 501) F dL_law_500 rfl (j := 5) rfl rfl ?_
    refine v_iload (pc' := 503) F dL_law_501  (j := 1) rfl rfl ?_
    refine v_iconst (pc' := 504) (v := nI 1) F dL_law_503 (by decide) rfl ?_
    refine v_iadd (pc' := 505) (v := nI (i + 1)) F dL_law_504 (nI_add i 1) rfl ?_
    refine w_sld (pc' := 506) (j := i + 1) F hSc (by omega) (by omega) hw1 dL_law_505 rfl ?_
    refine v_callV (pc' := 509) (rt := (some .int)) (mcc := 0) (msc := 0) (As := [.int (nI j)]) (st := []) F (fun l => c_X7_first G z0 l hMS2 hnow2 w9 hS2 hj hne) gL_law_X7_first rfl hv_X7_first (by decide) (by decide) hm2 rfl rfl rfl (Nat.le_of_ble_eq_true rfl) (by omega) (by omega) dL_law_506 rfl (fun v2 h1 hqm => ?_)
    obtain ⟨rfl, hMS3, fQ⟩ := hqm
    obtain ⟨hC3, ho3⟩ := LI.m hC2 hM2 hAP hgo (sub_q m rows asd vals many way told oth lst text) fQ
    obtain ⟨ha3, ht3⟩ := mS.at hMS2 hasd2 htext2 fQ
    obtain ⟨_, _, _, _, _, _, hm3, -⟩ := id hMS3
    refine v_istore (pc' := 511) (i := 6) (L' := [(6, .int ((wVals ((Ds 0).2.2.2.2 j)).getD 0 0)), (5, .int (nI 0)), (4, .int (nI i)), (3, .ref out), (2, .ref m), (1, .ref x), (0, .ref sb)]) F dL_law_509  (by decide) rfl rfl ?_
    refine v_aload_n (pc' := 512) F dL_law_511 rfl (j := 4) rfl rfl ?_
    refine v_callV (pc' := 515) (rt := (some .int)) (mcc := 0) (msc := 0) (As := []) (st := []) F (fun l => c_X7_thrown G z0 l hm3) gL_law_X7_thrown rfl hv_X7_thrown (by decide) (by decide) hm3 rfl rfl rfl (Nat.le_of_ble_eq_true rfl) (by omega) (by omega) dL_law_512 rfl (fun v3 h1 hqt => ?_)
    obtain ⟨rfl, rfl⟩ := hqt
    refine v_iload (pc' := 517) F dL_law_515  (j := 1) rfl rfl ?_
    refine w_icmp_eq (tgt := 522) (pc' := 520) F (by omega) (by omega) dL_law_517 (by decide) rfl (fun _ => ?_) (fun c0 => absurd c0 (by omega))
    refine v_iload (pc' := 524) F dL_law_522  (j := 1) rfl rfl ?_
    refine w_if_ne (tgt := 539) (pc' := 527) F (by omega) dL_law_524 (by decide) rfl (fun c0 => absurd c0 (by omega)) (fun _ => ?_)
    refine v_aload_n (pc' := 528) F dL_law_527 rfl (j := 3) rfl rfl ?_
    refine v_iconst (pc' := 529) (v := nI 0) F dL_law_528 (by decide) rfl ?_
    refine w_lald (pc' := 530) (v := ((wVals ((Ds 0).2.2.2.2 j)).getD 0 0).toInt64) F ho3 (by omega) (by omega) hg0 dL_law_529 rfl ?_
    refine v_iload (pc' := 532) F dL_law_530  (j := 0) rfl rfl ?_
    refine v_i2l (pc' := 533) (v := ((wVals ((Ds 0).2.2.2.2 j)).getD 0 0).toInt64) F dL_law_532 rfl rfl ?_
    refine v_lcmp (pc' := 534) F dL_law_533 rfl ?_
    refine v_if_eq (tgt := 539) (pc' := 537) F dL_law_534 (by decide) rfl (fun _ => ?_) (fun c0 => absurd (lg_self _) c0)
    refine v_goto (tgt := 1252) F dL_law_539 (by decide) ?_
    refine v_sub (L' := [(4, .int (nI i)), (3, .ref out), (2, .ref m), (1, .ref x), (0, .ref sb)]) [2, 3, 4, 5, 6] rfl ?_
    exact K _ _ _ (by omega) (by omega) ⟨t, bl, off, cur, und, now, Ds, g9, hC3.more, ⟨_, len2, spot2, fa2, num2, frm2, may2, R2, A2, T2, hMS3, hnow2, ha3, ht3, hT2, hsl2⟩, hAP, ho3⟩
  · obtain ⟨hP9, hs1, f1⟩ := hx1
    obtain ⟨hC1, hM1, ho1⟩ := LI.q hCI hMI hAP ho hs1 f1
    rcases hP9 with ⟨rfl, hno⟩ | ⟨rfl, j, hj, ew1, hne⟩
    · have hkc : kc = 1 := by rw [← hec]; decide
      subst hkc
      obtain ⟨th2, len2, spot2, fa2, num2, frm2, may2, R2, A2, T2, hMS2, hnow2, hasd2, htext2, hT2, hsl2⟩ := id hM1
      have hS2 : slD R2 (330 * now) (Ds 0) := by have h0 := hsl2 0 (Nat.zero_le _); rwa [show (now + 9 - 0) % 9 = now by omega] at h0
      obtain ⟨_, _, _, _, _, _, hm2, -⟩ := id hMS2
      refine v_istore (pc' := 499) (i := 5) (L' := [(5, .int (nI 1)), (4, .int (nI i)), (3, .ref out), (2, .ref m), (1, .ref x), (0, .ref sb)]) F dL_law_497  (by decide) rfl rfl ?_
      refine v_aload_n (pc' := 500) F dL_law_499 rfl (j := 3) rfl rfl ?_
      refine v_aload_n (pc' := 501) F dL_law_500 rfl (j := 5) rfl rfl ?_
      refine v_iload (pc' := 503) F dL_law_501  (j := 1) rfl rfl ?_
      refine v_iconst (pc' := 504) (v := nI 1) F dL_law_503 (by decide) rfl ?_
      refine v_iadd (pc' := 505) (v := nI (i + 1)) F dL_law_504 (nI_add i 1) rfl ?_
      refine w_sld (pc' := 506) (j := i + 1) F hSc (by omega) (by omega) hw1 dL_law_505 rfl ?_
      refine v_callV (pc' := 509) (rt := (some .int)) (mcc := 0) (msc := 0) (As := [.int w1]) (st := []) F (fun l => o1_X7_first G z0 l hMS2 hnow2 w9 hS2 w1 hno) gL_law_X7_first rfl hv_X7_first (by decide) (by decide) hm2 rfl rfl rfl (Nat.le_of_ble_eq_true rfl) (by omega) (by omega) dL_law_506 rfl (fun v5 h4 hqm => ?_)
      obtain ⟨⟨y9, rfl⟩, hMS3, fQ⟩ := hqm
      obtain ⟨hC3, ho3⟩ := LI.m hC1 hM1 hAP ho1 (sub_q m rows asd vals many way told oth lst text) fQ
      obtain ⟨ha3, ht3⟩ := mS.at hMS2 hasd2 htext2 fQ
      obtain ⟨_, _, _, _, _, _, hm3, -⟩ := id hMS3
      refine v_istore (pc' := 511) (i := 6) (L' := [(6, .int y9), (5, .int (nI 1)), (4, .int (nI i)), (3, .ref out), (2, .ref m), (1, .ref x), (0, .ref sb)]) F dL_law_509  (by decide) rfl rfl ?_
      refine v_aload_n (pc' := 512) F dL_law_511 rfl (j := 4) rfl rfl ?_
      refine v_callV (pc' := 515) (rt := (some .int)) (mcc := 0) (msc := 0) (As := []) (st := []) F (fun l => c_X7_thrown G z0 l hm3) gL_law_X7_thrown rfl hv_X7_thrown (by decide) (by decide) hm3 rfl rfl rfl (Nat.le_of_ble_eq_true rfl) (by omega) (by omega) dL_law_512 rfl (fun v6 h4 hqt => ?_)
      obtain ⟨rfl, rfl⟩ := hqt
      refine v_iload (pc' := 517) F dL_law_515  (j := 1) rfl rfl ?_
      refine w_icmp_eq (tgt := 522) (pc' := 520) F (by omega) (by omega) dL_law_517 (by decide) rfl (fun _ => ?_) (fun c0 => absurd c0 (by omega))
      refine v_iload (pc' := 524) F dL_law_522  (j := 1) rfl rfl ?_
      refine w_if_ne (tgt := 539) (pc' := 527) F (by omega) dL_law_524 (by decide) rfl (fun _ => ?_) (fun c0 => absurd c0 (by omega))
      refine v_goto (tgt := 1252) F dL_law_539 (by decide) ?_
      refine v_sub (L' := [(4, .int (nI i)), (3, .ref out), (2, .ref m), (1, .ref x), (0, .ref sb)]) [2, 3, 4, 5, 6] rfl ?_
      exact K _ _ _ (by omega) (by omega) ⟨t, bl, off, cur, und, now, Ds, g, hC3.more, ⟨_, len2, spot2, fa2, num2, frm2, may2, R2, A2, T2, hMS3, hnow2, ha3, ht3, hT2, hsl2⟩, hAP, ho3⟩
    · have hkc : kc = 2 := by rw [← hec]; decide
      subst hkc
      subst ew1
      obtain ⟨th2, len2, spot2, fa2, num2, frm2, may2, R2, A2, T2, hMS2, hnow2, hasd2, htext2, hT2, hsl2⟩ := id hM1
      have hS2 : slD R2 (330 * now) (Ds 0) := by have h0 := hsl2 0 (Nat.zero_le _); rwa [show (now + 9 - 0) % 9 = now by omega] at h0
      obtain ⟨_, _, _, _, _, _, hm2, -⟩ := id hMS2
      refine v_istore (pc' := 499) (i := 5) (L' := [(5, .int (nI 2)), (4, .int (nI i)), (3, .ref out), (2, .ref m), (1, .ref x), (0, .ref sb)]) F dL_law_497  (by decide) rfl rfl ?_
      refine v_aload_n (pc' := 500) F dL_law_499 rfl (j := 3) rfl rfl ?_
      refine v_aload_n (pc' := 501) F dL_law_500 rfl (j := 5) rfl rfl ?_
      refine v_iload (pc' := 503) F dL_law_501  (j := 1) rfl rfl ?_
      refine v_iconst (pc' := 504) (v := nI 1) F dL_law_503 (by decide) rfl ?_
      refine v_iadd (pc' := 505) (v := nI (i + 1)) F dL_law_504 (nI_add i 1) rfl ?_
      refine w_sld (pc' := 506) (j := i + 1) F hSc (by omega) (by omega) hw1 dL_law_505 rfl ?_
      refine v_callV (pc' := 509) (rt := (some .int)) (mcc := 0) (msc := 0) (As := [.int (nI j)]) (st := []) F (fun l => o2_X7_first G z0 l hMS2 hnow2 w9 hS2 hj hne) gL_law_X7_first rfl hv_X7_first (by decide) (by decide) hm2 rfl rfl rfl (Nat.le_of_ble_eq_true rfl) (by omega) (by omega) dL_law_506 rfl (fun v8 h7 hqm => ?_)
      obtain ⟨⟨y9, rfl⟩, hMS3, fQ⟩ := hqm
      obtain ⟨hC3, ho3⟩ := LI.m hC1 hM1 hAP ho1 (sub_q m rows asd vals many way told oth lst text) fQ
      obtain ⟨ha3, ht3⟩ := mS.at hMS2 hasd2 htext2 fQ
      obtain ⟨_, _, _, _, _, _, hm3, -⟩ := id hMS3
      refine v_istore (pc' := 511) (i := 6) (L' := [(6, .int y9), (5, .int (nI 2)), (4, .int (nI i)), (3, .ref out), (2, .ref m), (1, .ref x), (0, .ref sb)]) F dL_law_509  (by decide) rfl rfl ?_
      refine v_aload_n (pc' := 512) F dL_law_511 rfl (j := 4) rfl rfl ?_
      refine v_callV (pc' := 515) (rt := (some .int)) (mcc := 0) (msc := 0) (As := []) (st := []) F (fun l => c_X7_thrown G z0 l hm3) gL_law_X7_thrown rfl hv_X7_thrown (by decide) (by decide) hm3 rfl rfl rfl (Nat.le_of_ble_eq_true rfl) (by omega) (by omega) dL_law_512 rfl (fun v9 h7 hqt => ?_)
      obtain ⟨rfl, rfl⟩ := hqt
      refine v_iload (pc' := 517) F dL_law_515  (j := 1) rfl rfl ?_
      refine w_icmp_eq (tgt := 522) (pc' := 520) F (by omega) (by omega) dL_law_517 (by decide) rfl (fun _ => ?_) (fun c0 => absurd c0 (by omega))
      refine v_iload (pc' := 524) F dL_law_522  (j := 1) rfl rfl ?_
      refine w_if_ne (tgt := 539) (pc' := 527) F (by omega) dL_law_524 (by decide) rfl (fun _ => ?_) (fun c0 => absurd c0 (by omega))
      refine v_goto (tgt := 1252) F dL_law_539 (by decide) ?_
      refine v_sub (L' := [(4, .int (nI i)), (3, .ref out), (2, .ref m), (1, .ref x), (0, .ref sb)]) [2, 3, 4, 5, 6] rfl ?_
      exact K _ _ _ (by omega) (by omega) ⟨t, bl, off, cur, und, now, Ds, g, hC3.more, ⟨_, len2, spot2, fa2, num2, frm2, may2, R2, A2, T2, hMS3, hnow2, ha3, ht3, hT2, hsl2⟩, hAP, ho3⟩
theorem hd_L_find : yL_find.cls ≠ "java/lang/invoke/MethodHandle" ∧ yL_find.cls ≠ "java/lang/invoke/VarHandle" ∧ (parseMethodDescriptor yL_find.desc).map (fun d => d.parameters.length) = some 4 := by decide +kernel
theorem hv_X7_find : yX7_find.cls = RX7 ∧ yX7_find.cls ≠ "java/lang/invoke/MethodHandle" ∧ yX7_find.cls ≠ "java/lang/invoke/VarHandle" ∧ (parseMethodDescriptor yX7_find.desc).map (fun d => d.parameters.length) = some 2 := by decide +kernel
set_option maxHeartbeats 4000000 in
set_option maxRecDepth 100000 in
theorem op_find {G : gG} {z0 : Nat} {X : gX} {mc ms cells slots i N sb k : Nat} {nm : String} {xs : Nat → Int32} {h : gH} {x buf rd bks oq rw orw root m rows asd vals many way told oth lst text out : Nat} {bk bv : Nat → Nat} (F : gF G z0 X cL_law 9 RL wsL_law (some .boolean) nm 14 526 mc ms) (hst : X.2.1.stackTraces = false) (hSc : gSc z0 X sb N xs) (hN : N ≤ 3072) (hiN : i + 6 ≤ N) (hcc : cells + 1173 ≤ mc) (hss : slots + 14000 ≤ ms) (hk9 : k < 60000) (hL : LI G h x buf rd bks oq rw orw root m rows asd vals many way told oth lst text out bk bv k) (K : ∀ (c9 s9 : Nat) (h' : gH), c9 ≤ cells + 1173 → s9 ≤ slots + 14000 → LI G h' x buf rd bks oq rw orw root m rows asd vals many way told oth lst text out bk bv (k + 1) → gV G z0 X c9 s9 h' 1252 [(4, .int (nI i)), (3, .ref out), (2, .ref m), (1, .ref x), (0, .ref sb)] []) : gV G z0 X cells slots h 542 [(4, .int (nI i)), (3, .ref out), (2, .ref m), (1, .ref x), (0, .ref sb)] [] := by
  obtain ⟨t, bl, off, cur, und, now, Ds, g, hCI, hMI, hAP, ho⟩ := hL
  obtain ⟨hX, ⟨hc, hu, hb5⟩, ⟨fb, hbuf, hft⟩, hRd, hsc, hro, hVr, hring, ⟨hbi, hvi⟩, hDs⟩ := id hCI
  obtain ⟨w9, hdr, ad, as, hcl, hroot⟩ := hCI.now
  have hB := hcl.1
  have hD := hcl.dat w9
  have hn := w9.2.1
  have h1n := w9.1
  have hx6 := hX.1
  obtain ⟨th, len, spot, fa, num, frm, may, R, A, T, hMS, hnow, hasd, htext, hT, hsl⟩ := id hMI
  obtain ⟨w1, hw1⟩ : ∃ w, xs (i + 1) = w := ⟨_, rfl⟩
  obtain ⟨w2, hw2⟩ : ∃ w, xs (i + 2) = w := ⟨_, rfl⟩
  refine v_aload_n (pc' := 543) F dL_law_542 rfl (j := 3) rfl rfl ?_
  refine v_aload_n (pc' := 544) F dL_law_543 rfl (j := 4) rfl rfl ?_
  refine v_iload (pc' := 546) F dL_law_544  (j := 0) rfl rfl ?_
  refine v_iconst (pc' := 547) (v := nI 1) F dL_law_546 (by decide) rfl ?_
  refine v_iadd (pc' := 548) (v := nI (i + 1)) F dL_law_547 (nI_add i 1) rfl ?_
  refine w_sld (pc' := 549) (j := i + 1) F hSc (by omega) (by omega) hw1 dL_law_548 rfl ?_
  refine v_aload_n (pc' := 550) F dL_law_549 rfl (j := 4) rfl rfl ?_
  refine v_iload (pc' := 552) F dL_law_550  (j := 0) rfl rfl ?_
  refine v_iconst (pc' := 553) (v := nI 2) F dL_law_552 (by decide) rfl ?_
  refine v_iadd (pc' := 554) (v := nI (i + 2)) F dL_law_553 (nI_add i 2) rfl ?_
  refine w_sld (pc' := 555) (j := i + 2) F hSc (by omega) (by omega) hw2 dL_law_554 rfl ?_
  refine v_aload_n (pc' := 556) F dL_law_555 rfl (j := 1) rfl rfl ?_
  refine v_callSH (pc' := 559) (rt := (some .int)) (hh := [(0, 10, 13, 22)]) (mcc := 1) (msc := 6) (As := [.ref x, .int w1, .int w2, .ref out]) (st := []) F hst (fun l hst => c_L_find G z0 l hst w1 w2 hx6 ho (fun l hst => c_X6_find G z0 l hst w1 w2 hX hc hu hn hB hD hro hsc) (fun v h9 hq => by obtain ⟨j, hj, ew1, hv, hs1, f1⟩ := hq; exact ⟨⟨_, hv⟩, (LI.q hCI hMI hAP ho hs1 f1).2.2⟩) (fun E h9 hq => hq.1.1)) gL_law_L_find rfl hd_L_find (by decide) (by decide) rfl rfl (Nat.le_of_ble_eq_true rfl) (by omega) (by omega) dL_law_556 rfl (fun v9 h9 hq => ?_)
  rcases hq with ⟨k9, h1, hq1, rfl, g9, hgo, hg0, fO⟩ | ⟨E9, kc, hx1, rfl, hec⟩
  · obtain ⟨j, hj, ew1, hv, hs1, f1⟩ := hq1
    subst ew1
    obtain rfl := Value.int.inj (Option.some.inj hv)
    obtain ⟨hC1, hM1, ho1⟩ := LI.q hCI hMI hAP ho hs1 f1
    obtain ⟨hC2, hM2⟩ := LI.o hC1 hM1 ho1 fO
    obtain ⟨th2, len2, spot2, fa2, num2, frm2, may2, R2, A2, T2, hMS2, hnow2, hasd2, htext2, hT2, hsl2⟩ := id hM2
    have hS2 : slD R2 (330 * now) (Ds 0) := by have h0 := hsl2 0 (Nat.zero_le _); rwa [show (now + 9 - 0) % 9 = now by omega] at h0
    obtain ⟨_, _, _, _, _, _, hm2, -⟩ := id hMS2
    refine v_istore (pc' := 561) (i := 5) (L' := [(5, .int (nI 0)), (4, .int (nI i)), (3, .ref out), (2, .ref m), (1, .ref x), (0, .ref sb)]) F dL_law_559  (by decide) rfl rfl ?_
    refine v_aload_n (pc' := 562) F dL_law_561 rfl (j := 3) rfl rfl ?_
    refine v_aload_n (pc' := 563) F dL_law_562 rfl (j := 5) rfl rfl ?_
    refine v_iload (pc' := 565) F dL_law_563  (j := 1) rfl rfl ?_
    refine v_iconst (pc' := 566) (v := nI 1) F dL_law_565 (by decide) rfl ?_
    refine v_iadd (pc' := 567) (v := nI (i + 1)) F dL_law_566 (nI_add i 1) rfl ?_
    refine w_sld (pc' := 568) (j := i + 1) F hSc (by omega) (by omega) hw1 dL_law_567 rfl ?_
    refine v_aload_n (pc' := 569) F dL_law_568 rfl (j := 5) rfl rfl ?_
    refine v_iload (pc' := 571) F dL_law_569  (j := 1) rfl rfl ?_
    refine v_iconst (pc' := 572) (v := nI 2) F dL_law_571 (by decide) rfl ?_
    refine v_iadd (pc' := 573) (v := nI (i + 2)) F dL_law_572 (nI_add i 2) rfl ?_
    refine w_sld (pc' := 574) (j := i + 2) F hSc (by omega) (by omega) hw2 dL_law_573 rfl ?_
    refine v_callV (pc' := 577) (rt := (some .int)) (mcc := 0) (msc := 0) (As := [.int (nI j), .int w2]) (st := []) F (fun l => c_X7_find G z0 l hMS2 hnow2 w9 hS2 hj w2) gL_law_X7_find rfl hv_X7_find (by decide) (by decide) hm2 rfl rfl rfl (Nat.le_of_ble_eq_true rfl) (by omega) (by omega) dL_law_574 rfl (fun v2 h1 hqm => ?_)
    obtain ⟨rfl, hMS3, fQ⟩ := hqm
    obtain ⟨hC3, ho3⟩ := LI.m hC2 hM2 hAP hgo (sub_q m rows asd vals many way told oth lst text) fQ
    obtain ⟨ha3, ht3⟩ := mS.at hMS2 hasd2 htext2 fQ
    obtain ⟨_, _, _, _, _, _, hm3, -⟩ := id hMS3
    refine v_istore (pc' := 579) (i := 6) (L' := [(6, .int (fnd w2 (wVals ((Ds 0).2.2.2.2 j)) 0)), (5, .int (nI 0)), (4, .int (nI i)), (3, .ref out), (2, .ref m), (1, .ref x), (0, .ref sb)]) F dL_law_577  (by decide) rfl rfl ?_
    refine v_aload_n (pc' := 580) F dL_law_579 rfl (j := 4) rfl rfl ?_
    refine v_callV (pc' := 583) (rt := (some .int)) (mcc := 0) (msc := 0) (As := []) (st := []) F (fun l => c_X7_thrown G z0 l hm3) gL_law_X7_thrown rfl hv_X7_thrown (by decide) (by decide) hm3 rfl rfl rfl (Nat.le_of_ble_eq_true rfl) (by omega) (by omega) dL_law_580 rfl (fun v3 h1 hqt => ?_)
    obtain ⟨rfl, rfl⟩ := hqt
    refine v_iload (pc' := 585) F dL_law_583  (j := 1) rfl rfl ?_
    refine w_icmp_eq (tgt := 590) (pc' := 588) F (by omega) (by omega) dL_law_585 (by decide) rfl (fun _ => ?_) (fun c0 => absurd c0 (by omega))
    refine v_iload (pc' := 592) F dL_law_590  (j := 1) rfl rfl ?_
    refine w_if_ne (tgt := 607) (pc' := 595) F (by omega) dL_law_592 (by decide) rfl (fun c0 => absurd c0 (by omega)) (fun _ => ?_)
    refine v_aload_n (pc' := 596) F dL_law_595 rfl (j := 3) rfl rfl ?_
    refine v_iconst (pc' := 597) (v := nI 0) F dL_law_596 (by decide) rfl ?_
    refine w_lald (pc' := 598) (v := (fnd w2 (wVals ((Ds 0).2.2.2.2 j)) 0).toInt64) F ho3 (by omega) (by omega) hg0 dL_law_597 rfl ?_
    refine v_iload (pc' := 600) F dL_law_598  (j := 0) rfl rfl ?_
    refine v_i2l (pc' := 601) (v := (fnd w2 (wVals ((Ds 0).2.2.2.2 j)) 0).toInt64) F dL_law_600 rfl rfl ?_
    refine v_lcmp (pc' := 602) F dL_law_601 rfl ?_
    refine v_if_eq (tgt := 607) (pc' := 605) F dL_law_602 (by decide) rfl (fun _ => ?_) (fun c0 => absurd (lg_self _) c0)
    refine v_goto (tgt := 1252) F dL_law_607 (by decide) ?_
    refine v_sub (L' := [(4, .int (nI i)), (3, .ref out), (2, .ref m), (1, .ref x), (0, .ref sb)]) [2, 3, 4, 5, 6] rfl ?_
    exact K _ _ _ (by omega) (by omega) ⟨t, bl, off, cur, und, now, Ds, g9, hC3.more, ⟨_, len2, spot2, fa2, num2, frm2, may2, R2, A2, T2, hMS3, hnow2, ha3, ht3, hT2, hsl2⟩, hAP, ho3⟩
  · obtain ⟨hP9, hs1, f1⟩ := hx1
    obtain ⟨hC1, hM1, ho1⟩ := LI.q hCI hMI hAP ho hs1 f1
    obtain ⟨rfl, hno⟩ := hP9
    have hkc : kc = 1 := by rw [← hec]; decide
    subst hkc
    obtain ⟨th2, len2, spot2, fa2, num2, frm2, may2, R2, A2, T2, hMS2, hnow2, hasd2, htext2, hT2, hsl2⟩ := id hM1
    have hS2 : slD R2 (330 * now) (Ds 0) := by have h0 := hsl2 0 (Nat.zero_le _); rwa [show (now + 9 - 0) % 9 = now by omega] at h0
    obtain ⟨_, _, _, _, _, _, hm2, -⟩ := id hMS2
    refine v_istore (pc' := 561) (i := 5) (L' := [(5, .int (nI 1)), (4, .int (nI i)), (3, .ref out), (2, .ref m), (1, .ref x), (0, .ref sb)]) F dL_law_559  (by decide) rfl rfl ?_
    refine v_aload_n (pc' := 562) F dL_law_561 rfl (j := 3) rfl rfl ?_
    refine v_aload_n (pc' := 563) F dL_law_562 rfl (j := 5) rfl rfl ?_
    refine v_iload (pc' := 565) F dL_law_563  (j := 1) rfl rfl ?_
    refine v_iconst (pc' := 566) (v := nI 1) F dL_law_565 (by decide) rfl ?_
    refine v_iadd (pc' := 567) (v := nI (i + 1)) F dL_law_566 (nI_add i 1) rfl ?_
    refine w_sld (pc' := 568) (j := i + 1) F hSc (by omega) (by omega) hw1 dL_law_567 rfl ?_
    refine v_aload_n (pc' := 569) F dL_law_568 rfl (j := 5) rfl rfl ?_
    refine v_iload (pc' := 571) F dL_law_569  (j := 1) rfl rfl ?_
    refine v_iconst (pc' := 572) (v := nI 2) F dL_law_571 (by decide) rfl ?_
    refine v_iadd (pc' := 573) (v := nI (i + 2)) F dL_law_572 (nI_add i 2) rfl ?_
    refine w_sld (pc' := 574) (j := i + 2) F hSc (by omega) (by omega) hw2 dL_law_573 rfl ?_
    refine v_callV (pc' := 577) (rt := (some .int)) (mcc := 0) (msc := 0) (As := [.int w1, .int w2]) (st := []) F (fun l => o1_X7_find G z0 l hMS2 hnow2 w9 hS2 w1 w2 hno) gL_law_X7_find rfl hv_X7_find (by decide) (by decide) hm2 rfl rfl rfl (Nat.le_of_ble_eq_true rfl) (by omega) (by omega) dL_law_574 rfl (fun v5 h4 hqm => ?_)
    obtain ⟨⟨y9, rfl⟩, hMS3, fQ⟩ := hqm
    obtain ⟨hC3, ho3⟩ := LI.m hC1 hM1 hAP ho1 (sub_q m rows asd vals many way told oth lst text) fQ
    obtain ⟨ha3, ht3⟩ := mS.at hMS2 hasd2 htext2 fQ
    obtain ⟨_, _, _, _, _, _, hm3, -⟩ := id hMS3
    refine v_istore (pc' := 579) (i := 6) (L' := [(6, .int y9), (5, .int (nI 1)), (4, .int (nI i)), (3, .ref out), (2, .ref m), (1, .ref x), (0, .ref sb)]) F dL_law_577  (by decide) rfl rfl ?_
    refine v_aload_n (pc' := 580) F dL_law_579 rfl (j := 4) rfl rfl ?_
    refine v_callV (pc' := 583) (rt := (some .int)) (mcc := 0) (msc := 0) (As := []) (st := []) F (fun l => c_X7_thrown G z0 l hm3) gL_law_X7_thrown rfl hv_X7_thrown (by decide) (by decide) hm3 rfl rfl rfl (Nat.le_of_ble_eq_true rfl) (by omega) (by omega) dL_law_580 rfl (fun v6 h4 hqt => ?_)
    obtain ⟨rfl, rfl⟩ := hqt
    refine v_iload (pc' := 585) F dL_law_583  (j := 1) rfl rfl ?_
    refine w_icmp_eq (tgt := 590) (pc' := 588) F (by omega) (by omega) dL_law_585 (by decide) rfl (fun _ => ?_) (fun c0 => absurd c0 (by omega))
    refine v_iload (pc' := 592) F dL_law_590  (j := 1) rfl rfl ?_
    refine w_if_ne (tgt := 607) (pc' := 595) F (by omega) dL_law_592 (by decide) rfl (fun _ => ?_) (fun c0 => absurd c0 (by omega))
    refine v_goto (tgt := 1252) F dL_law_607 (by decide) ?_
    refine v_sub (L' := [(4, .int (nI i)), (3, .ref out), (2, .ref m), (1, .ref x), (0, .ref sb)]) [2, 3, 4, 5, 6] rfl ?_
    exact K _ _ _ (by omega) (by omega) ⟨t, bl, off, cur, und, now, Ds, g, hC3.more, ⟨_, len2, spot2, fa2, num2, frm2, may2, R2, A2, T2, hMS3, hnow2, ha3, ht3, hT2, hsl2⟩, hAP, ho3⟩
theorem hd_L_alike : yL_alike.cls ≠ "java/lang/invoke/MethodHandle" ∧ yL_alike.cls ≠ "java/lang/invoke/VarHandle" ∧ (parseMethodDescriptor yL_alike.desc).map (fun d => d.parameters.length) = some 4 := by decide +kernel
theorem hv_X7_alike : yX7_alike.cls = RX7 ∧ yX7_alike.cls ≠ "java/lang/invoke/MethodHandle" ∧ yX7_alike.cls ≠ "java/lang/invoke/VarHandle" ∧ (parseMethodDescriptor yX7_alike.desc).map (fun d => d.parameters.length) = some 2 := by decide +kernel
set_option maxHeartbeats 4000000 in
set_option maxRecDepth 100000 in
theorem op_alike {G : gG} {z0 : Nat} {X : gX} {mc ms cells slots i N sb k : Nat} {nm : String} {xs : Nat → Int32} {h : gH} {x buf rd bks oq rw orw root m rows asd vals many way told oth lst text out : Nat} {bk bv : Nat → Nat} (F : gF G z0 X cL_law 9 RL wsL_law (some .boolean) nm 14 526 mc ms) (hst : X.2.1.stackTraces = false) (hSc : gSc z0 X sb N xs) (hN : N ≤ 3072) (hiN : i + 6 ≤ N) (hcc : cells + 1173 ≤ mc) (hss : slots + 14000 ≤ ms) (hk9 : k < 60000) (hL : LI G h x buf rd bks oq rw orw root m rows asd vals many way told oth lst text out bk bv k) (K : ∀ (c9 s9 : Nat) (h' : gH), c9 ≤ cells + 1173 → s9 ≤ slots + 14000 → LI G h' x buf rd bks oq rw orw root m rows asd vals many way told oth lst text out bk bv (k + 1) → gV G z0 X c9 s9 h' 1252 [(4, .int (nI i)), (3, .ref out), (2, .ref m), (1, .ref x), (0, .ref sb)] []) : gV G z0 X cells slots h 610 [(4, .int (nI i)), (3, .ref out), (2, .ref m), (1, .ref x), (0, .ref sb)] [] := by
  obtain ⟨t, bl, off, cur, und, now, Ds, g, hCI, hMI, hAP, ho⟩ := hL
  obtain ⟨hX, ⟨hc, hu, hb5⟩, ⟨fb, hbuf, hft⟩, hRd, hsc, hro, hVr, hring, ⟨hbi, hvi⟩, hDs⟩ := id hCI
  obtain ⟨w9, hdr, ad, as, hcl, hroot⟩ := hCI.now
  have hB := hcl.1
  have hD := hcl.dat w9
  have hn := w9.2.1
  have h1n := w9.1
  have hx6 := hX.1
  obtain ⟨th, len, spot, fa, num, frm, may, R, A, T, hMS, hnow, hasd, htext, hT, hsl⟩ := id hMI
  obtain ⟨w1, hw1⟩ : ∃ w, xs (i + 1) = w := ⟨_, rfl⟩
  obtain ⟨w2, hw2⟩ : ∃ w, xs (i + 2) = w := ⟨_, rfl⟩
  refine v_aload_n (pc' := 611) F dL_law_610 rfl (j := 3) rfl rfl ?_
  refine v_aload_n (pc' := 612) F dL_law_611 rfl (j := 4) rfl rfl ?_
  refine v_iload (pc' := 614) F dL_law_612  (j := 0) rfl rfl ?_
  refine v_iconst (pc' := 615) (v := nI 1) F dL_law_614 (by decide) rfl ?_
  refine v_iadd (pc' := 616) (v := nI (i + 1)) F dL_law_615 (nI_add i 1) rfl ?_
  refine w_sld (pc' := 617) (j := i + 1) F hSc (by omega) (by omega) hw1 dL_law_616 rfl ?_
  refine v_aload_n (pc' := 618) F dL_law_617 rfl (j := 4) rfl rfl ?_
  refine v_iload (pc' := 620) F dL_law_618  (j := 0) rfl rfl ?_
  refine v_iconst (pc' := 621) (v := nI 2) F dL_law_620 (by decide) rfl ?_
  refine v_iadd (pc' := 622) (v := nI (i + 2)) F dL_law_621 (nI_add i 2) rfl ?_
  refine w_sld (pc' := 623) (j := i + 2) F hSc (by omega) (by omega) hw2 dL_law_622 rfl ?_
  refine v_aload_n (pc' := 624) F dL_law_623 rfl (j := 1) rfl rfl ?_
  refine v_callSH (pc' := 627) (rt := (some .int)) (hh := [(0, 17, 20, 22)]) (mcc := 2) (msc := 12) (As := [.ref x, .int w1, .int w2, .ref out]) (st := []) F hst (fun l hst => c_L_alike G z0 l hst w1 w2 hx6 ho (fun l hst => c_X6_alike G z0 l hst w1 w2 hX hc hu hn hB hD hro hsc) (fun v h9 hq => by obtain ⟨j, jb, hj, hjb, ew1, ew2, hv, hs1, f1⟩ := hq; exact ⟨⟨_, hv⟩, (LI.q hCI hMI hAP ho hs1 f1).2.2⟩) (fun E h9 hq => hq.1.1) (fun k h9 hq => by obtain ⟨j, jb, hj, hjb, ew1, ew2, hv, hs1, f1⟩ := hq; have e9 := Value.int.inj (Option.some.inj hv); rw [e9]; split; exact .inr (by decide); exact .inl (by decide))) gL_law_L_alike rfl hd_L_alike (by decide) (by decide) rfl rfl (Nat.le_of_ble_eq_true rfl) (by omega) (by omega) dL_law_624 rfl (fun v9 h9 hq => ?_)
  rcases hq with ⟨k9, h1, hq1, rfl, g9, hgo, hg0, fO⟩ | ⟨E9, kc, hx1, rfl, hec⟩
  · obtain ⟨j, jb, hj, hjb, ew1, ew2, hv, hs1, f1⟩ := hq1
    subst ew1
    subst ew2
    obtain rfl := Value.int.inj (Option.some.inj hv)
    obtain ⟨hC1, hM1, ho1⟩ := LI.q hCI hMI hAP ho hs1 f1
    obtain ⟨hC2, hM2⟩ := LI.o hC1 hM1 ho1 fO
    by_cases hsp : wVals ((Ds 0).2.2.2.2 j) = wVals ((Ds 0).2.2.2.2 jb)
    · skip
      rw [if_pos hsp] at hg0
      obtain ⟨th2, len2, spot2, fa2, num2, frm2, may2, R2, A2, T2, hMS2, hnow2, hasd2, htext2, hT2, hsl2⟩ := id hM2
      have hS2 : slD R2 (330 * now) (Ds 0) := by have h0 := hsl2 0 (Nat.zero_le _); rwa [show (now + 9 - 0) % 9 = now by omega] at h0
      obtain ⟨_, _, _, _, _, _, hm2, -⟩ := id hMS2
      refine v_istore (pc' := 629) (i := 5) (L' := [(5, .int (nI 0)), (4, .int (nI i)), (3, .ref out), (2, .ref m), (1, .ref x), (0, .ref sb)]) F dL_law_627  (by decide) rfl rfl ?_
      refine v_aload_n (pc' := 630) F dL_law_629 rfl (j := 3) rfl rfl ?_
      refine v_aload_n (pc' := 631) F dL_law_630 rfl (j := 5) rfl rfl ?_
      refine v_iload (pc' := 633) F dL_law_631  (j := 1) rfl rfl ?_
      refine v_iconst (pc' := 634) (v := nI 1) F dL_law_633 (by decide) rfl ?_
      refine v_iadd (pc' := 635) (v := nI (i + 1)) F dL_law_634 (nI_add i 1) rfl ?_
      refine w_sld (pc' := 636) (j := i + 1) F hSc (by omega) (by omega) hw1 dL_law_635 rfl ?_
      refine v_aload_n (pc' := 637) F dL_law_636 rfl (j := 5) rfl rfl ?_
      refine v_iload (pc' := 639) F dL_law_637  (j := 1) rfl rfl ?_
      refine v_iconst (pc' := 640) (v := nI 2) F dL_law_639 (by decide) rfl ?_
      refine v_iadd (pc' := 641) (v := nI (i + 2)) F dL_law_640 (nI_add i 2) rfl ?_
      refine w_sld (pc' := 642) (j := i + 2) F hSc (by omega) (by omega) hw2 dL_law_641 rfl ?_
      refine v_callV (pc' := 645) (rt := (some .boolean)) (mcc := 0) (msc := 0) (As := [.int (nI j), .int (nI jb)]) (st := []) F (fun l => c_X7_alike G z0 l hMS2 hnow2 w9 hS2 hj hjb) gL_law_X7_alike rfl hv_X7_alike (by decide) (by decide) hm2 rfl rfl rfl (Nat.le_of_ble_eq_true rfl) (by omega) (by omega) dL_law_642 rfl (fun v2 h1 hqm => ?_)
      rw [if_pos hsp] at hqm
      obtain ⟨rfl, hMS3, fQ⟩ := hqm
      obtain ⟨hC3, ho3⟩ := LI.m hC2 hM2 hAP hgo (sub_q m rows asd vals many way told oth lst text) fQ
      obtain ⟨ha3, ht3⟩ := mS.at hMS2 hasd2 htext2 fQ
      obtain ⟨_, _, _, _, _, _, hm3, -⟩ := id hMS3
      refine v_istore (pc' := 647) (i := 6) (L' := [(6, .int (nI 1)), (5, .int (nI 0)), (4, .int (nI i)), (3, .ref out), (2, .ref m), (1, .ref x), (0, .ref sb)]) F dL_law_645  (by decide) rfl rfl ?_
      refine v_aload_n (pc' := 648) F dL_law_647 rfl (j := 4) rfl rfl ?_
      refine v_callV (pc' := 651) (rt := (some .int)) (mcc := 0) (msc := 0) (As := []) (st := []) F (fun l => c_X7_thrown G z0 l hm3) gL_law_X7_thrown rfl hv_X7_thrown (by decide) (by decide) hm3 rfl rfl rfl (Nat.le_of_ble_eq_true rfl) (by omega) (by omega) dL_law_648 rfl (fun v3 h1 hqt => ?_)
      obtain ⟨rfl, rfl⟩ := hqt
      refine v_iload (pc' := 653) F dL_law_651  (j := 1) rfl rfl ?_
      refine w_icmp_eq (tgt := 658) (pc' := 656) F (by omega) (by omega) dL_law_653 (by decide) rfl (fun _ => ?_) (fun c0 => absurd c0 (by omega))
      refine v_iload (pc' := 660) F dL_law_658  (j := 1) rfl rfl ?_
      refine w_if_ne (tgt := 682) (pc' := 663) F (by omega) dL_law_660 (by decide) rfl (fun c0 => absurd c0 (by omega)) (fun _ => ?_)
      refine v_aload_n (pc' := 664) F dL_law_663 rfl (j := 3) rfl rfl ?_
      refine v_iconst (pc' := 665) (v := nI 0) F dL_law_664 (by decide) rfl ?_
      refine w_lald (pc' := 666) (v := (nI 1).toInt64) F ho3 (by omega) (by omega) hg0 dL_law_665 rfl ?_
      refine v_iload (pc' := 668) F dL_law_666  (j := 0) rfl rfl ?_
      refine w_if_eq (tgt := 675) (pc' := 671) F (by omega) dL_law_668 (by decide) rfl (fun c0 => absurd c0 (by omega)) (fun _ => ?_)
      refine v_lconst (pc' := 672) (v := 1) F dL_law_671 (by decide) rfl ?_
      refine v_goto (tgt := 676) F dL_law_672 (by decide) ?_
      refine v_lcmp (pc' := 677) F dL_law_676 rfl ?_
      refine v_if_eq (tgt := 682) (pc' := 680) F dL_law_677 (by decide) rfl (fun _ => ?_) (fun c0 => absurd (by decide) c0)
      refine v_goto (tgt := 1252) F dL_law_682 (by decide) ?_
      refine v_sub (L' := [(4, .int (nI i)), (3, .ref out), (2, .ref m), (1, .ref x), (0, .ref sb)]) [2, 3, 4, 5, 6] rfl ?_
      exact K _ _ _ (by omega) (by omega) ⟨t, bl, off, cur, und, now, Ds, g9, hC3.more, ⟨_, len2, spot2, fa2, num2, frm2, may2, R2, A2, T2, hMS3, hnow2, ha3, ht3, hT2, hsl2⟩, hAP, ho3⟩
    · skip
      rw [if_neg hsp] at hg0
      obtain ⟨th2, len2, spot2, fa2, num2, frm2, may2, R2, A2, T2, hMS2, hnow2, hasd2, htext2, hT2, hsl2⟩ := id hM2
      have hS2 : slD R2 (330 * now) (Ds 0) := by have h0 := hsl2 0 (Nat.zero_le _); rwa [show (now + 9 - 0) % 9 = now by omega] at h0
      obtain ⟨_, _, _, _, _, _, hm2, -⟩ := id hMS2
      refine v_istore (pc' := 629) (i := 5) (L' := [(5, .int (nI 0)), (4, .int (nI i)), (3, .ref out), (2, .ref m), (1, .ref x), (0, .ref sb)]) F dL_law_627  (by decide) rfl rfl ?_
      refine v_aload_n (pc' := 630) F dL_law_629 rfl (j := 3) rfl rfl ?_
      refine v_aload_n (pc' := 631) F dL_law_630 rfl (j := 5) rfl rfl ?_
      refine v_iload (pc' := 633) F dL_law_631  (j := 1) rfl rfl ?_
      refine v_iconst (pc' := 634) (v := nI 1) F dL_law_633 (by decide) rfl ?_
      refine v_iadd (pc' := 635) (v := nI (i + 1)) F dL_law_634 (nI_add i 1) rfl ?_
      refine w_sld (pc' := 636) (j := i + 1) F hSc (by omega) (by omega) hw1 dL_law_635 rfl ?_
      refine v_aload_n (pc' := 637) F dL_law_636 rfl (j := 5) rfl rfl ?_
      refine v_iload (pc' := 639) F dL_law_637  (j := 1) rfl rfl ?_
      refine v_iconst (pc' := 640) (v := nI 2) F dL_law_639 (by decide) rfl ?_
      refine v_iadd (pc' := 641) (v := nI (i + 2)) F dL_law_640 (nI_add i 2) rfl ?_
      refine w_sld (pc' := 642) (j := i + 2) F hSc (by omega) (by omega) hw2 dL_law_641 rfl ?_
      refine v_callV (pc' := 645) (rt := (some .boolean)) (mcc := 0) (msc := 0) (As := [.int (nI j), .int (nI jb)]) (st := []) F (fun l => c_X7_alike G z0 l hMS2 hnow2 w9 hS2 hj hjb) gL_law_X7_alike rfl hv_X7_alike (by decide) (by decide) hm2 rfl rfl rfl (Nat.le_of_ble_eq_true rfl) (by omega) (by omega) dL_law_642 rfl (fun v5 h4 hqm => ?_)
      rw [if_neg hsp] at hqm
      obtain ⟨rfl, hMS3, fQ⟩ := hqm
      obtain ⟨hC3, ho3⟩ := LI.m hC2 hM2 hAP hgo (sub_q m rows asd vals many way told oth lst text) fQ
      obtain ⟨ha3, ht3⟩ := mS.at hMS2 hasd2 htext2 fQ
      obtain ⟨_, _, _, _, _, _, hm3, -⟩ := id hMS3
      refine v_istore (pc' := 647) (i := 6) (L' := [(6, .int (nI 0)), (5, .int (nI 0)), (4, .int (nI i)), (3, .ref out), (2, .ref m), (1, .ref x), (0, .ref sb)]) F dL_law_645  (by decide) rfl rfl ?_
      refine v_aload_n (pc' := 648) F dL_law_647 rfl (j := 4) rfl rfl ?_
      refine v_callV (pc' := 651) (rt := (some .int)) (mcc := 0) (msc := 0) (As := []) (st := []) F (fun l => c_X7_thrown G z0 l hm3) gL_law_X7_thrown rfl hv_X7_thrown (by decide) (by decide) hm3 rfl rfl rfl (Nat.le_of_ble_eq_true rfl) (by omega) (by omega) dL_law_648 rfl (fun v6 h4 hqt => ?_)
      obtain ⟨rfl, rfl⟩ := hqt
      refine v_iload (pc' := 653) F dL_law_651  (j := 1) rfl rfl ?_
      refine w_icmp_eq (tgt := 658) (pc' := 656) F (by omega) (by omega) dL_law_653 (by decide) rfl (fun _ => ?_) (fun c0 => absurd c0 (by omega))
      refine v_iload (pc' := 660) F dL_law_658  (j := 1) rfl rfl ?_
      refine w_if_ne (tgt := 682) (pc' := 663) F (by omega) dL_law_660 (by decide) rfl (fun c0 => absurd c0 (by omega)) (fun _ => ?_)
      refine v_aload_n (pc' := 664) F dL_law_663 rfl (j := 3) rfl rfl ?_
      refine v_iconst (pc' := 665) (v := nI 0) F dL_law_664 (by decide) rfl ?_
      refine w_lald (pc' := 666) (v := (nI 0).toInt64) F ho3 (by omega) (by omega) hg0 dL_law_665 rfl ?_
      refine v_iload (pc' := 668) F dL_law_666  (j := 0) rfl rfl ?_
      refine w_if_eq (tgt := 675) (pc' := 671) F (by omega) dL_law_668 (by decide) rfl (fun _ => ?_) (fun c0 => absurd c0 (by omega))
      refine v_lconst (pc' := 676) (v := 0) F dL_law_675 (by decide) rfl ?_
      refine v_lcmp (pc' := 677) F dL_law_676 rfl ?_
      refine v_if_eq (tgt := 682) (pc' := 680) F dL_law_677 (by decide) rfl (fun _ => ?_) (fun c0 => absurd (by decide) c0)
      refine v_goto (tgt := 1252) F dL_law_682 (by decide) ?_
      refine v_sub (L' := [(4, .int (nI i)), (3, .ref out), (2, .ref m), (1, .ref x), (0, .ref sb)]) [2, 3, 4, 5, 6] rfl ?_
      exact K _ _ _ (by omega) (by omega) ⟨t, bl, off, cur, und, now, Ds, g9, hC3.more, ⟨_, len2, spot2, fa2, num2, frm2, may2, R2, A2, T2, hMS3, hnow2, ha3, ht3, hT2, hsl2⟩, hAP, ho3⟩
  · obtain ⟨hP9, hs1, f1⟩ := hx1
    obtain ⟨hC1, hM1, ho1⟩ := LI.q hCI hMI hAP ho hs1 f1
    obtain ⟨rfl, hno⟩ := hP9
    have hkc : kc = 1 := by rw [← hec]; decide
    subst hkc
    obtain ⟨th2, len2, spot2, fa2, num2, frm2, may2, R2, A2, T2, hMS2, hnow2, hasd2, htext2, hT2, hsl2⟩ := id hM1
    have hS2 : slD R2 (330 * now) (Ds 0) := by have h0 := hsl2 0 (Nat.zero_le _); rwa [show (now + 9 - 0) % 9 = now by omega] at h0
    obtain ⟨_, _, _, _, _, _, hm2, -⟩ := id hMS2
    refine v_istore (pc' := 629) (i := 5) (L' := [(5, .int (nI 1)), (4, .int (nI i)), (3, .ref out), (2, .ref m), (1, .ref x), (0, .ref sb)]) F dL_law_627  (by decide) rfl rfl ?_
    refine v_aload_n (pc' := 630) F dL_law_629 rfl (j := 3) rfl rfl ?_
    refine v_aload_n (pc' := 631) F dL_law_630 rfl (j := 5) rfl rfl ?_
    refine v_iload (pc' := 633) F dL_law_631  (j := 1) rfl rfl ?_
    refine v_iconst (pc' := 634) (v := nI 1) F dL_law_633 (by decide) rfl ?_
    refine v_iadd (pc' := 635) (v := nI (i + 1)) F dL_law_634 (nI_add i 1) rfl ?_
    refine w_sld (pc' := 636) (j := i + 1) F hSc (by omega) (by omega) hw1 dL_law_635 rfl ?_
    refine v_aload_n (pc' := 637) F dL_law_636 rfl (j := 5) rfl rfl ?_
    refine v_iload (pc' := 639) F dL_law_637  (j := 1) rfl rfl ?_
    refine v_iconst (pc' := 640) (v := nI 2) F dL_law_639 (by decide) rfl ?_
    refine v_iadd (pc' := 641) (v := nI (i + 2)) F dL_law_640 (nI_add i 2) rfl ?_
    refine w_sld (pc' := 642) (j := i + 2) F hSc (by omega) (by omega) hw2 dL_law_641 rfl ?_
    refine v_callV (pc' := 645) (rt := (some .boolean)) (mcc := 0) (msc := 0) (As := [.int w1, .int w2]) (st := []) F (fun l => o1_X7_alike G z0 l hMS2 hnow2 w9 hS2 w1 w2 hno) gL_law_X7_alike rfl hv_X7_alike (by decide) (by decide) hm2 rfl rfl rfl (Nat.le_of_ble_eq_true rfl) (by omega) (by omega) dL_law_642 rfl (fun v8 h7 hqm => ?_)
    obtain ⟨⟨y9, rfl⟩, hMS3, fQ⟩ := hqm
    obtain ⟨hC3, ho3⟩ := LI.m hC1 hM1 hAP ho1 (sub_q m rows asd vals many way told oth lst text) fQ
    obtain ⟨ha3, ht3⟩ := mS.at hMS2 hasd2 htext2 fQ
    obtain ⟨_, _, _, _, _, _, hm3, -⟩ := id hMS3
    refine v_istore (pc' := 647) (i := 6) (L' := [(6, .int y9), (5, .int (nI 1)), (4, .int (nI i)), (3, .ref out), (2, .ref m), (1, .ref x), (0, .ref sb)]) F dL_law_645  (by decide) rfl rfl ?_
    refine v_aload_n (pc' := 648) F dL_law_647 rfl (j := 4) rfl rfl ?_
    refine v_callV (pc' := 651) (rt := (some .int)) (mcc := 0) (msc := 0) (As := []) (st := []) F (fun l => c_X7_thrown G z0 l hm3) gL_law_X7_thrown rfl hv_X7_thrown (by decide) (by decide) hm3 rfl rfl rfl (Nat.le_of_ble_eq_true rfl) (by omega) (by omega) dL_law_648 rfl (fun v9 h7 hqt => ?_)
    obtain ⟨rfl, rfl⟩ := hqt
    refine v_iload (pc' := 653) F dL_law_651  (j := 1) rfl rfl ?_
    refine w_icmp_eq (tgt := 658) (pc' := 656) F (by omega) (by omega) dL_law_653 (by decide) rfl (fun _ => ?_) (fun c0 => absurd c0 (by omega))
    refine v_iload (pc' := 660) F dL_law_658  (j := 1) rfl rfl ?_
    refine w_if_ne (tgt := 682) (pc' := 663) F (by omega) dL_law_660 (by decide) rfl (fun _ => ?_) (fun c0 => absurd c0 (by omega))
    refine v_goto (tgt := 1252) F dL_law_682 (by decide) ?_
    refine v_sub (L' := [(4, .int (nI i)), (3, .ref out), (2, .ref m), (1, .ref x), (0, .ref sb)]) [2, 3, 4, 5, 6] rfl ?_
    exact K _ _ _ (by omega) (by omega) ⟨t, bl, off, cur, und, now, Ds, g, hC3.more, ⟨_, len2, spot2, fa2, num2, frm2, may2, R2, A2, T2, hMS3, hnow2, ha3, ht3, hT2, hsl2⟩, hAP, ho3⟩
theorem hd_L_common : yL_common.cls ≠ "java/lang/invoke/MethodHandle" ∧ yL_common.cls ≠ "java/lang/invoke/VarHandle" ∧ (parseMethodDescriptor yL_common.desc).map (fun d => d.parameters.length) = some 4 := by decide +kernel
theorem hv_X7_common : yX7_common.cls = RX7 ∧ yX7_common.cls ≠ "java/lang/invoke/MethodHandle" ∧ yX7_common.cls ≠ "java/lang/invoke/VarHandle" ∧ (parseMethodDescriptor yX7_common.desc).map (fun d => d.parameters.length) = some 2 := by decide +kernel
set_option maxHeartbeats 4000000 in
set_option maxRecDepth 100000 in
theorem op_common {G : gG} {z0 : Nat} {X : gX} {mc ms cells slots i N sb k : Nat} {nm : String} {xs : Nat → Int32} {h : gH} {x buf rd bks oq rw orw root m rows asd vals many way told oth lst text out : Nat} {bk bv : Nat → Nat} (F : gF G z0 X cL_law 9 RL wsL_law (some .boolean) nm 14 526 mc ms) (hst : X.2.1.stackTraces = false) (hSc : gSc z0 X sb N xs) (hN : N ≤ 3072) (hiN : i + 6 ≤ N) (hcc : cells + 1173 ≤ mc) (hss : slots + 14000 ≤ ms) (hk9 : k < 60000) (hL : LI G h x buf rd bks oq rw orw root m rows asd vals many way told oth lst text out bk bv k) (K : ∀ (c9 s9 : Nat) (h' : gH), c9 ≤ cells + 1173 → s9 ≤ slots + 14000 → LI G h' x buf rd bks oq rw orw root m rows asd vals many way told oth lst text out bk bv (k + 1) → gV G z0 X c9 s9 h' 1252 [(4, .int (nI i)), (3, .ref out), (2, .ref m), (1, .ref x), (0, .ref sb)] []) : gV G z0 X cells slots h 685 [(4, .int (nI i)), (3, .ref out), (2, .ref m), (1, .ref x), (0, .ref sb)] [] := by
  obtain ⟨t, bl, off, cur, und, now, Ds, g, hCI, hMI, hAP, ho⟩ := hL
  obtain ⟨hX, ⟨hc, hu, hb5⟩, ⟨fb, hbuf, hft⟩, hRd, hsc, hro, hVr, hring, ⟨hbi, hvi⟩, hDs⟩ := id hCI
  obtain ⟨w9, hdr, ad, as, hcl, hroot⟩ := hCI.now
  have hB := hcl.1
  have hD := hcl.dat w9
  have hn := w9.2.1
  have h1n := w9.1
  have hx6 := hX.1
  obtain ⟨th, len, spot, fa, num, frm, may, R, A, T, hMS, hnow, hasd, htext, hT, hsl⟩ := id hMI
  obtain ⟨w1, hw1⟩ : ∃ w, xs (i + 1) = w := ⟨_, rfl⟩
  obtain ⟨w2, hw2⟩ : ∃ w, xs (i + 2) = w := ⟨_, rfl⟩
  refine v_aload_n (pc' := 686) F dL_law_685 rfl (j := 3) rfl rfl ?_
  refine v_aload_n (pc' := 687) F dL_law_686 rfl (j := 4) rfl rfl ?_
  refine v_iload (pc' := 689) F dL_law_687  (j := 0) rfl rfl ?_
  refine v_iconst (pc' := 690) (v := nI 1) F dL_law_689 (by decide) rfl ?_
  refine v_iadd (pc' := 691) (v := nI (i + 1)) F dL_law_690 (nI_add i 1) rfl ?_
  refine w_sld (pc' := 692) (j := i + 1) F hSc (by omega) (by omega) hw1 dL_law_691 rfl ?_
  refine v_aload_n (pc' := 693) F dL_law_692 rfl (j := 4) rfl rfl ?_
  refine v_iload (pc' := 695) F dL_law_693  (j := 0) rfl rfl ?_
  refine v_iconst (pc' := 696) (v := nI 2) F dL_law_695 (by decide) rfl ?_
  refine v_iadd (pc' := 697) (v := nI (i + 2)) F dL_law_696 (nI_add i 2) rfl ?_
  refine w_sld (pc' := 698) (j := i + 2) F hSc (by omega) (by omega) hw2 dL_law_697 rfl ?_
  refine v_aload_n (pc' := 699) F dL_law_698 rfl (j := 1) rfl rfl ?_
  refine v_callSH (pc' := 702) (rt := (some .int)) (hh := [(0, 10, 13, 22)]) (mcc := 2) (msc := 12) (As := [.ref x, .int w1, .int w2, .ref out]) (st := []) F hst (fun l hst => c_L_common G z0 l hst w1 w2 hx6 ho (fun l hst => c_X6_common G z0 l hst w1 w2 hX hc hu hn hB hD hro hsc) (fun v h9 hq => by obtain ⟨j, jb, hj, hjb, ew1, ew2, hv, hs1, f1⟩ := hq; exact ⟨⟨_, hv⟩, (LI.q hCI hMI hAP ho hs1 f1).2.2⟩) (fun E h9 hq => hq.1.1)) gL_law_L_common rfl hd_L_common (by decide) (by decide) rfl rfl (Nat.le_of_ble_eq_true rfl) (by omega) (by omega) dL_law_699 rfl (fun v9 h9 hq => ?_)
  rcases hq with ⟨k9, h1, hq1, rfl, g9, hgo, hg0, fO⟩ | ⟨E9, kc, hx1, rfl, hec⟩
  · obtain ⟨j, jb, hj, hjb, ew1, ew2, hv, hs1, f1⟩ := hq1
    subst ew1
    subst ew2
    rw [br_common w9 hcl hj hjb] at hv
    obtain rfl := Value.int.inj (Option.some.inj hv)
    obtain ⟨hC1, hM1, ho1⟩ := LI.q hCI hMI hAP ho hs1 f1
    obtain ⟨hC2, hM2⟩ := LI.o hC1 hM1 ho1 fO
    obtain ⟨th2, len2, spot2, fa2, num2, frm2, may2, R2, A2, T2, hMS2, hnow2, hasd2, htext2, hT2, hsl2⟩ := id hM2
    have hS2 : slD R2 (330 * now) (Ds 0) := by have h0 := hsl2 0 (Nat.zero_le _); rwa [show (now + 9 - 0) % 9 = now by omega] at h0
    obtain ⟨_, _, _, _, _, _, hm2, -⟩ := id hMS2
    refine v_istore (pc' := 704) (i := 5) (L' := [(5, .int (nI 0)), (4, .int (nI i)), (3, .ref out), (2, .ref m), (1, .ref x), (0, .ref sb)]) F dL_law_702  (by decide) rfl rfl ?_
    refine v_aload_n (pc' := 705) F dL_law_704 rfl (j := 3) rfl rfl ?_
    refine v_aload_n (pc' := 706) F dL_law_705 rfl (j := 5) rfl rfl ?_
    refine v_iload (pc' := 708) F dL_law_706  (j := 1) rfl rfl ?_
    refine v_iconst (pc' := 709) (v := nI 1) F dL_law_708 (by decide) rfl ?_
    refine v_iadd (pc' := 710) (v := nI (i + 1)) F dL_law_709 (nI_add i 1) rfl ?_
    refine w_sld (pc' := 711) (j := i + 1) F hSc (by omega) (by omega) hw1 dL_law_710 rfl ?_
    refine v_aload_n (pc' := 712) F dL_law_711 rfl (j := 5) rfl rfl ?_
    refine v_iload (pc' := 714) F dL_law_712  (j := 1) rfl rfl ?_
    refine v_iconst (pc' := 715) (v := nI 2) F dL_law_714 (by decide) rfl ?_
    refine v_iadd (pc' := 716) (v := nI (i + 2)) F dL_law_715 (nI_add i 2) rfl ?_
    refine w_sld (pc' := 717) (j := i + 2) F hSc (by omega) (by omega) hw2 dL_law_716 rfl ?_
    refine v_callV (pc' := 720) (rt := (some .int)) (mcc := 0) (msc := 0) (As := [.int (nI j), .int (nI jb)]) (st := []) F (fun l => c_X7_common G z0 l hMS2 hnow2 w9 hS2 hj hjb) gL_law_X7_common rfl hv_X7_common (by decide) (by decide) hm2 rfl rfl rfl (Nat.le_of_ble_eq_true rfl) (by omega) (by omega) dL_law_717 rfl (fun v2 h1 hqm => ?_)
    obtain ⟨rfl, hMS3, fQ⟩ := hqm
    obtain ⟨hC3, ho3⟩ := LI.m hC2 hM2 hAP hgo (sub_q m rows asd vals many way told oth lst text) fQ
    obtain ⟨ha3, ht3⟩ := mS.at hMS2 hasd2 htext2 fQ
    obtain ⟨_, _, _, _, _, _, hm3, -⟩ := id hMS3
    refine v_istore (pc' := 722) (i := 6) (L' := [(6, .int (nI (cmF (alD (Ds 0) jb) (alD (Ds 0) j)))), (5, .int (nI 0)), (4, .int (nI i)), (3, .ref out), (2, .ref m), (1, .ref x), (0, .ref sb)]) F dL_law_720  (by decide) rfl rfl ?_
    refine v_aload_n (pc' := 723) F dL_law_722 rfl (j := 4) rfl rfl ?_
    refine v_callV (pc' := 726) (rt := (some .int)) (mcc := 0) (msc := 0) (As := []) (st := []) F (fun l => c_X7_thrown G z0 l hm3) gL_law_X7_thrown rfl hv_X7_thrown (by decide) (by decide) hm3 rfl rfl rfl (Nat.le_of_ble_eq_true rfl) (by omega) (by omega) dL_law_723 rfl (fun v3 h1 hqt => ?_)
    obtain ⟨rfl, rfl⟩ := hqt
    refine v_iload (pc' := 728) F dL_law_726  (j := 1) rfl rfl ?_
    refine w_icmp_eq (tgt := 733) (pc' := 731) F (by omega) (by omega) dL_law_728 (by decide) rfl (fun _ => ?_) (fun c0 => absurd c0 (by omega))
    refine v_iload (pc' := 735) F dL_law_733  (j := 1) rfl rfl ?_
    refine w_if_ne (tgt := 750) (pc' := 738) F (by omega) dL_law_735 (by decide) rfl (fun c0 => absurd c0 (by omega)) (fun _ => ?_)
    refine v_aload_n (pc' := 739) F dL_law_738 rfl (j := 3) rfl rfl ?_
    refine v_iconst (pc' := 740) (v := nI 0) F dL_law_739 (by decide) rfl ?_
    refine w_lald (pc' := 741) (v := (nI (cmF (alD (Ds 0) jb) (alD (Ds 0) j))).toInt64) F ho3 (by omega) (by omega) hg0 dL_law_740 rfl ?_
    refine v_iload (pc' := 743) F dL_law_741  (j := 0) rfl rfl ?_
    refine v_i2l (pc' := 744) (v := (nI (cmF (alD (Ds 0) jb) (alD (Ds 0) j))).toInt64) F dL_law_743 rfl rfl ?_
    refine v_lcmp (pc' := 745) F dL_law_744 rfl ?_
    refine v_if_eq (tgt := 750) (pc' := 748) F dL_law_745 (by decide) rfl (fun _ => ?_) (fun c0 => absurd (lg_self _) c0)
    refine v_goto (tgt := 1252) F dL_law_750 (by decide) ?_
    refine v_sub (L' := [(4, .int (nI i)), (3, .ref out), (2, .ref m), (1, .ref x), (0, .ref sb)]) [2, 3, 4, 5, 6] rfl ?_
    exact K _ _ _ (by omega) (by omega) ⟨t, bl, off, cur, und, now, Ds, g9, hC3.more, ⟨_, len2, spot2, fa2, num2, frm2, may2, R2, A2, T2, hMS3, hnow2, ha3, ht3, hT2, hsl2⟩, hAP, ho3⟩
  · obtain ⟨hP9, hs1, f1⟩ := hx1
    obtain ⟨hC1, hM1, ho1⟩ := LI.q hCI hMI hAP ho hs1 f1
    obtain ⟨rfl, hno⟩ := hP9
    have hkc : kc = 1 := by rw [← hec]; decide
    subst hkc
    obtain ⟨th2, len2, spot2, fa2, num2, frm2, may2, R2, A2, T2, hMS2, hnow2, hasd2, htext2, hT2, hsl2⟩ := id hM1
    have hS2 : slD R2 (330 * now) (Ds 0) := by have h0 := hsl2 0 (Nat.zero_le _); rwa [show (now + 9 - 0) % 9 = now by omega] at h0
    obtain ⟨_, _, _, _, _, _, hm2, -⟩ := id hMS2
    refine v_istore (pc' := 704) (i := 5) (L' := [(5, .int (nI 1)), (4, .int (nI i)), (3, .ref out), (2, .ref m), (1, .ref x), (0, .ref sb)]) F dL_law_702  (by decide) rfl rfl ?_
    refine v_aload_n (pc' := 705) F dL_law_704 rfl (j := 3) rfl rfl ?_
    refine v_aload_n (pc' := 706) F dL_law_705 rfl (j := 5) rfl rfl ?_
    refine v_iload (pc' := 708) F dL_law_706  (j := 1) rfl rfl ?_
    refine v_iconst (pc' := 709) (v := nI 1) F dL_law_708 (by decide) rfl ?_
    refine v_iadd (pc' := 710) (v := nI (i + 1)) F dL_law_709 (nI_add i 1) rfl ?_
    refine w_sld (pc' := 711) (j := i + 1) F hSc (by omega) (by omega) hw1 dL_law_710 rfl ?_
    refine v_aload_n (pc' := 712) F dL_law_711 rfl (j := 5) rfl rfl ?_
    refine v_iload (pc' := 714) F dL_law_712  (j := 1) rfl rfl ?_
    refine v_iconst (pc' := 715) (v := nI 2) F dL_law_714 (by decide) rfl ?_
    refine v_iadd (pc' := 716) (v := nI (i + 2)) F dL_law_715 (nI_add i 2) rfl ?_
    refine w_sld (pc' := 717) (j := i + 2) F hSc (by omega) (by omega) hw2 dL_law_716 rfl ?_
    refine v_callV (pc' := 720) (rt := (some .int)) (mcc := 0) (msc := 0) (As := [.int w1, .int w2]) (st := []) F (fun l => o1_X7_common G z0 l hMS2 hnow2 w9 hS2 w1 w2 hno) gL_law_X7_common rfl hv_X7_common (by decide) (by decide) hm2 rfl rfl rfl (Nat.le_of_ble_eq_true rfl) (by omega) (by omega) dL_law_717 rfl (fun v5 h4 hqm => ?_)
    obtain ⟨⟨y9, rfl⟩, hMS3, fQ⟩ := hqm
    obtain ⟨hC3, ho3⟩ := LI.m hC1 hM1 hAP ho1 (sub_q m rows asd vals many way told oth lst text) fQ
    obtain ⟨ha3, ht3⟩ := mS.at hMS2 hasd2 htext2 fQ
    obtain ⟨_, _, _, _, _, _, hm3, -⟩ := id hMS3
    refine v_istore (pc' := 722) (i := 6) (L' := [(6, .int y9), (5, .int (nI 1)), (4, .int (nI i)), (3, .ref out), (2, .ref m), (1, .ref x), (0, .ref sb)]) F dL_law_720  (by decide) rfl rfl ?_
    refine v_aload_n (pc' := 723) F dL_law_722 rfl (j := 4) rfl rfl ?_
    refine v_callV (pc' := 726) (rt := (some .int)) (mcc := 0) (msc := 0) (As := []) (st := []) F (fun l => c_X7_thrown G z0 l hm3) gL_law_X7_thrown rfl hv_X7_thrown (by decide) (by decide) hm3 rfl rfl rfl (Nat.le_of_ble_eq_true rfl) (by omega) (by omega) dL_law_723 rfl (fun v6 h4 hqt => ?_)
    obtain ⟨rfl, rfl⟩ := hqt
    refine v_iload (pc' := 728) F dL_law_726  (j := 1) rfl rfl ?_
    refine w_icmp_eq (tgt := 733) (pc' := 731) F (by omega) (by omega) dL_law_728 (by decide) rfl (fun _ => ?_) (fun c0 => absurd c0 (by omega))
    refine v_iload (pc' := 735) F dL_law_733  (j := 1) rfl rfl ?_
    refine w_if_ne (tgt := 750) (pc' := 738) F (by omega) dL_law_735 (by decide) rfl (fun _ => ?_) (fun c0 => absurd c0 (by omega))
    refine v_goto (tgt := 1252) F dL_law_750 (by decide) ?_
    refine v_sub (L' := [(4, .int (nI i)), (3, .ref out), (2, .ref m), (1, .ref x), (0, .ref sb)]) [2, 3, 4, 5, 6] rfl ?_
    exact K _ _ _ (by omega) (by omega) ⟨t, bl, off, cur, und, now, Ds, g, hC3.more, ⟨_, len2, spot2, fa2, num2, frm2, may2, R2, A2, T2, hMS3, hnow2, ha3, ht3, hT2, hsl2⟩, hAP, ho3⟩
theorem hd_L_work : yL_work.cls ≠ "java/lang/invoke/MethodHandle" ∧ yL_work.cls ≠ "java/lang/invoke/VarHandle" ∧ (parseMethodDescriptor yL_work.desc).map (fun d => d.parameters.length) = some 4 := by decide +kernel
theorem hv_X7_work : yX7_work.cls = RX7 ∧ yX7_work.cls ≠ "java/lang/invoke/MethodHandle" ∧ yX7_work.cls ≠ "java/lang/invoke/VarHandle" ∧ (parseMethodDescriptor yX7_work.desc).map (fun d => d.parameters.length) = some 2 := by decide +kernel
set_option maxHeartbeats 4000000 in
set_option maxRecDepth 100000 in
theorem op_work {G : gG} {z0 : Nat} {X : gX} {mc ms cells slots i N sb k : Nat} {nm : String} {xs : Nat → Int32} {h : gH} {x buf rd bks oq rw orw root m rows asd vals many way told oth lst text out : Nat} {bk bv : Nat → Nat} (F : gF G z0 X cL_law 9 RL wsL_law (some .boolean) nm 14 526 mc ms) (hst : X.2.1.stackTraces = false) (hSc : gSc z0 X sb N xs) (hN : N ≤ 3072) (hiN : i + 6 ≤ N) (hcc : cells + 1173 ≤ mc) (hss : slots + 14000 ≤ ms) (hk9 : k < 60000) (hL : LI G h x buf rd bks oq rw orw root m rows asd vals many way told oth lst text out bk bv k) (K : ∀ (c9 s9 : Nat) (h' : gH), c9 ≤ cells + 1173 → s9 ≤ slots + 14000 → LI G h' x buf rd bks oq rw orw root m rows asd vals many way told oth lst text out bk bv (k + 1) → gV G z0 X c9 s9 h' 1252 [(4, .int (nI i)), (3, .ref out), (2, .ref m), (1, .ref x), (0, .ref sb)] []) : gV G z0 X cells slots h 753 [(4, .int (nI i)), (3, .ref out), (2, .ref m), (1, .ref x), (0, .ref sb)] [] := by
  obtain ⟨t, bl, off, cur, und, now, Ds, g, hCI, hMI, hAP, ho⟩ := hL
  obtain ⟨hX, ⟨hc, hu, hb5⟩, ⟨fb, hbuf, hft⟩, hRd, hsc, hro, hVr, hring, ⟨hbi, hvi⟩, hDs⟩ := id hCI
  obtain ⟨w9, hdr, ad, as, hcl, hroot⟩ := hCI.now
  have hB := hcl.1
  have hD := hcl.dat w9
  have hn := w9.2.1
  have h1n := w9.1
  have hx6 := hX.1
  obtain ⟨th, len, spot, fa, num, frm, may, R, A, T, hMS, hnow, hasd, htext, hT, hsl⟩ := id hMI
  obtain ⟨w1, hw1⟩ : ∃ w, xs (i + 1) = w := ⟨_, rfl⟩
  obtain ⟨w2, hw2⟩ : ∃ w, xs (i + 2) = w := ⟨_, rfl⟩
  refine v_aload_n (pc' := 754) F dL_law_753 rfl (j := 3) rfl rfl ?_
  refine v_aload_n (pc' := 755) F dL_law_754 rfl (j := 4) rfl rfl ?_
  refine v_iload (pc' := 757) F dL_law_755  (j := 0) rfl rfl ?_
  refine v_iconst (pc' := 758) (v := nI 1) F dL_law_757 (by decide) rfl ?_
  refine v_iadd (pc' := 759) (v := nI (i + 1)) F dL_law_758 (nI_add i 1) rfl ?_
  refine w_sld (pc' := 760) (j := i + 1) F hSc (by omega) (by omega) hw1 dL_law_759 rfl ?_
  refine v_aload_n (pc' := 761) F dL_law_760 rfl (j := 4) rfl rfl ?_
  refine v_iload (pc' := 763) F dL_law_761  (j := 0) rfl rfl ?_
  refine v_iconst (pc' := 764) (v := nI 2) F dL_law_763 (by decide) rfl ?_
  refine v_iadd (pc' := 765) (v := nI (i + 2)) F dL_law_764 (nI_add i 2) rfl ?_
  refine w_sld (pc' := 766) (j := i + 2) F hSc (by omega) (by omega) hw2 dL_law_765 rfl ?_
  refine v_aload_n (pc' := 767) F dL_law_766 rfl (j := 1) rfl rfl ?_
  refine v_callSH (pc' := 770) (rt := (some .int)) (hh := [(0, 10, 13, 22), (0, 10, 17, 13)]) (mcc := 2) (msc := 12) (As := [.ref x, .int w1, .int w2, .ref out]) (st := []) F hst (fun l hst => c_L_work G z0 l hst w1 w2 hx6 ho (fun l hst => c_X6_work G z0 l hst w1 w2 hX hc hu hn hB hD hro hsc) (fun v h9 hq => by obtain ⟨j, kk, hj, hk, ew1, ew2, hv, hs1, f1⟩ := hq; exact ⟨⟨_, hv⟩, (LI.q hCI hMI hAP ho hs1 f1).2.2⟩) (fun E h9 hq => by rcases hq.1 with z | z; exact .inl z.1; exact .inr z.1)) gL_law_L_work rfl hd_L_work (by decide) (by decide) rfl rfl (Nat.le_of_ble_eq_true rfl) (by omega) (by omega) dL_law_767 rfl (fun v9 h9 hq => ?_)
  rcases hq with ⟨k9, h1, hq1, rfl, g9, hgo, hg0, fO⟩ | ⟨E9, kc, hx1, rfl, hec⟩
  · obtain ⟨j, kk, hj, hk, ew1, ew2, hv, hs1, f1⟩ := hq1
    subst ew1
    subst ew2
    obtain rfl := Value.int.inj (Option.some.inj hv)
    obtain ⟨hC1, hM1, ho1⟩ := LI.q hCI hMI hAP ho hs1 f1
    obtain ⟨hC2, hM2⟩ := LI.o hC1 hM1 ho1 fO
    obtain ⟨th2, len2, spot2, fa2, num2, frm2, may2, R2, A2, T2, hMS2, hnow2, hasd2, htext2, hT2, hsl2⟩ := id hM2
    have hS2 : slD R2 (330 * now) (Ds 0) := by have h0 := hsl2 0 (Nat.zero_le _); rwa [show (now + 9 - 0) % 9 = now by omega] at h0
    obtain ⟨_, _, _, _, _, _, hm2, -⟩ := id hMS2
    refine v_istore (pc' := 772) (i := 5) (L' := [(5, .int (nI 0)), (4, .int (nI i)), (3, .ref out), (2, .ref m), (1, .ref x), (0, .ref sb)]) F dL_law_770  (by decide) rfl rfl ?_
    refine v_aload_n (pc' := 773) F dL_law_772 rfl (j := 3) rfl rfl ?_
    refine v_aload_n (pc' := 774) F dL_law_773 rfl (j := 5) rfl rfl ?_
    refine v_iload (pc' := 776) F dL_law_774  (j := 1) rfl rfl ?_
    refine v_iconst (pc' := 777) (v := nI 1) F dL_law_776 (by decide) rfl ?_
    refine v_iadd (pc' := 778) (v := nI (i + 1)) F dL_law_777 (nI_add i 1) rfl ?_
    refine w_sld (pc' := 779) (j := i + 1) F hSc (by omega) (by omega) hw1 dL_law_778 rfl ?_
    refine v_aload_n (pc' := 780) F dL_law_779 rfl (j := 5) rfl rfl ?_
    refine v_iload (pc' := 782) F dL_law_780  (j := 1) rfl rfl ?_
    refine v_iconst (pc' := 783) (v := nI 2) F dL_law_782 (by decide) rfl ?_
    refine v_iadd (pc' := 784) (v := nI (i + 2)) F dL_law_783 (nI_add i 2) rfl ?_
    refine w_sld (pc' := 785) (j := i + 2) F hSc (by omega) (by omega) hw2 dL_law_784 rfl ?_
    refine v_callV (pc' := 788) (rt := (some .int)) (mcc := 0) (msc := 0) (As := [.int (nI j), .int (nI kk)]) (st := []) F (fun l => c_X7_work G z0 l hMS2 hnow2 w9 hS2 hj hk) gL_law_X7_work rfl hv_X7_work (by decide) (by decide) hm2 rfl rfl rfl (Nat.le_of_ble_eq_true rfl) (by omega) (by omega) dL_law_785 rfl (fun v2 h1 hqm => ?_)
    obtain ⟨rfl, hMS3, fQ⟩ := hqm
    obtain ⟨hC3, ho3⟩ := LI.m hC2 hM2 hAP hgo (sub_q m rows asd vals many way told oth lst text) fQ
    obtain ⟨ha3, ht3⟩ := mS.at hMS2 hasd2 htext2 fQ
    obtain ⟨_, _, _, _, _, _, hm3, -⟩ := id hMS3
    refine v_istore (pc' := 790) (i := 6) (L' := [(6, .int (nI (wkN ((Ds 0).2.2.2.2 j) kk))), (5, .int (nI 0)), (4, .int (nI i)), (3, .ref out), (2, .ref m), (1, .ref x), (0, .ref sb)]) F dL_law_788  (by decide) rfl rfl ?_
    refine v_aload_n (pc' := 791) F dL_law_790 rfl (j := 4) rfl rfl ?_
    refine v_callV (pc' := 794) (rt := (some .int)) (mcc := 0) (msc := 0) (As := []) (st := []) F (fun l => c_X7_thrown G z0 l hm3) gL_law_X7_thrown rfl hv_X7_thrown (by decide) (by decide) hm3 rfl rfl rfl (Nat.le_of_ble_eq_true rfl) (by omega) (by omega) dL_law_791 rfl (fun v3 h1 hqt => ?_)
    obtain ⟨rfl, rfl⟩ := hqt
    refine v_iload (pc' := 796) F dL_law_794  (j := 1) rfl rfl ?_
    refine w_icmp_eq (tgt := 801) (pc' := 799) F (by omega) (by omega) dL_law_796 (by decide) rfl (fun _ => ?_) (fun c0 => absurd c0 (by omega))
    refine v_iload (pc' := 803) F dL_law_801  (j := 1) rfl rfl ?_
    refine w_if_ne (tgt := 818) (pc' := 806) F (by omega) dL_law_803 (by decide) rfl (fun c0 => absurd c0 (by omega)) (fun _ => ?_)
    refine v_aload_n (pc' := 807) F dL_law_806 rfl (j := 3) rfl rfl ?_
    refine v_iconst (pc' := 808) (v := nI 0) F dL_law_807 (by decide) rfl ?_
    refine w_lald (pc' := 809) (v := (nI (wkN ((Ds 0).2.2.2.2 j) kk)).toInt64) F ho3 (by omega) (by omega) hg0 dL_law_808 rfl ?_
    refine v_iload (pc' := 811) F dL_law_809  (j := 0) rfl rfl ?_
    refine v_i2l (pc' := 812) (v := (nI (wkN ((Ds 0).2.2.2.2 j) kk)).toInt64) F dL_law_811 rfl rfl ?_
    refine v_lcmp (pc' := 813) F dL_law_812 rfl ?_
    refine v_if_eq (tgt := 818) (pc' := 816) F dL_law_813 (by decide) rfl (fun _ => ?_) (fun c0 => absurd (lg_self _) c0)
    refine v_goto (tgt := 1252) F dL_law_818 (by decide) ?_
    refine v_sub (L' := [(4, .int (nI i)), (3, .ref out), (2, .ref m), (1, .ref x), (0, .ref sb)]) [2, 3, 4, 5, 6] rfl ?_
    exact K _ _ _ (by omega) (by omega) ⟨t, bl, off, cur, und, now, Ds, g9, hC3.more, ⟨_, len2, spot2, fa2, num2, frm2, may2, R2, A2, T2, hMS3, hnow2, ha3, ht3, hT2, hsl2⟩, hAP, ho3⟩
  · obtain ⟨hP9, hs1, f1⟩ := hx1
    obtain ⟨hC1, hM1, ho1⟩ := LI.q hCI hMI hAP ho hs1 f1
    rcases hP9 with ⟨rfl, hno⟩ | ⟨rfl, ⟨j, hj, ew1⟩, hno⟩
    · have hkc : kc = 1 := by rw [← hec]; decide
      subst hkc
      obtain ⟨th2, len2, spot2, fa2, num2, frm2, may2, R2, A2, T2, hMS2, hnow2, hasd2, htext2, hT2, hsl2⟩ := id hM1
      have hS2 : slD R2 (330 * now) (Ds 0) := by have h0 := hsl2 0 (Nat.zero_le _); rwa [show (now + 9 - 0) % 9 = now by omega] at h0
      obtain ⟨_, _, _, _, _, _, hm2, -⟩ := id hMS2
      refine v_istore (pc' := 772) (i := 5) (L' := [(5, .int (nI 1)), (4, .int (nI i)), (3, .ref out), (2, .ref m), (1, .ref x), (0, .ref sb)]) F dL_law_770  (by decide) rfl rfl ?_
      refine v_aload_n (pc' := 773) F dL_law_772 rfl (j := 3) rfl rfl ?_
      refine v_aload_n (pc' := 774) F dL_law_773 rfl (j := 5) rfl rfl ?_
      refine v_iload (pc' := 776) F dL_law_774  (j := 1) rfl rfl ?_
      refine v_iconst (pc' := 777) (v := nI 1) F dL_law_776 (by decide) rfl ?_
      refine v_iadd (pc' := 778) (v := nI (i + 1)) F dL_law_777 (nI_add i 1) rfl ?_
      refine w_sld (pc' := 779) (j := i + 1) F hSc (by omega) (by omega) hw1 dL_law_778 rfl ?_
      refine v_aload_n (pc' := 780) F dL_law_779 rfl (j := 5) rfl rfl ?_
      refine v_iload (pc' := 782) F dL_law_780  (j := 1) rfl rfl ?_
      refine v_iconst (pc' := 783) (v := nI 2) F dL_law_782 (by decide) rfl ?_
      refine v_iadd (pc' := 784) (v := nI (i + 2)) F dL_law_783 (nI_add i 2) rfl ?_
      refine w_sld (pc' := 785) (j := i + 2) F hSc (by omega) (by omega) hw2 dL_law_784 rfl ?_
      refine v_callV (pc' := 788) (rt := (some .int)) (mcc := 0) (msc := 0) (As := [.int w1, .int w2]) (st := []) F (fun l => o1_X7_work G z0 l hMS2 hnow2 w9 hS2 w1 w2 hno) gL_law_X7_work rfl hv_X7_work (by decide) (by decide) hm2 rfl rfl rfl (Nat.le_of_ble_eq_true rfl) (by omega) (by omega) dL_law_785 rfl (fun v5 h4 hqm => ?_)
      obtain ⟨⟨y9, rfl⟩, hMS3, fQ⟩ := hqm
      obtain ⟨hC3, ho3⟩ := LI.m hC1 hM1 hAP ho1 (sub_q m rows asd vals many way told oth lst text) fQ
      obtain ⟨ha3, ht3⟩ := mS.at hMS2 hasd2 htext2 fQ
      obtain ⟨_, _, _, _, _, _, hm3, -⟩ := id hMS3
      refine v_istore (pc' := 790) (i := 6) (L' := [(6, .int y9), (5, .int (nI 1)), (4, .int (nI i)), (3, .ref out), (2, .ref m), (1, .ref x), (0, .ref sb)]) F dL_law_788  (by decide) rfl rfl ?_
      refine v_aload_n (pc' := 791) F dL_law_790 rfl (j := 4) rfl rfl ?_
      refine v_callV (pc' := 794) (rt := (some .int)) (mcc := 0) (msc := 0) (As := []) (st := []) F (fun l => c_X7_thrown G z0 l hm3) gL_law_X7_thrown rfl hv_X7_thrown (by decide) (by decide) hm3 rfl rfl rfl (Nat.le_of_ble_eq_true rfl) (by omega) (by omega) dL_law_791 rfl (fun v6 h4 hqt => ?_)
      obtain ⟨rfl, rfl⟩ := hqt
      refine v_iload (pc' := 796) F dL_law_794  (j := 1) rfl rfl ?_
      refine w_icmp_eq (tgt := 801) (pc' := 799) F (by omega) (by omega) dL_law_796 (by decide) rfl (fun _ => ?_) (fun c0 => absurd c0 (by omega))
      refine v_iload (pc' := 803) F dL_law_801  (j := 1) rfl rfl ?_
      refine w_if_ne (tgt := 818) (pc' := 806) F (by omega) dL_law_803 (by decide) rfl (fun _ => ?_) (fun c0 => absurd c0 (by omega))
      refine v_goto (tgt := 1252) F dL_law_818 (by decide) ?_
      refine v_sub (L' := [(4, .int (nI i)), (3, .ref out), (2, .ref m), (1, .ref x), (0, .ref sb)]) [2, 3, 4, 5, 6] rfl ?_
      exact K _ _ _ (by omega) (by omega) ⟨t, bl, off, cur, und, now, Ds, g, hC3.more, ⟨_, len2, spot2, fa2, num2, frm2, may2, R2, A2, T2, hMS3, hnow2, ha3, ht3, hT2, hsl2⟩, hAP, ho3⟩
    · have hkc : kc = 2 := by rw [← hec]; decide
      subst hkc
      subst ew1
      obtain ⟨th2, len2, spot2, fa2, num2, frm2, may2, R2, A2, T2, hMS2, hnow2, hasd2, htext2, hT2, hsl2⟩ := id hM1
      have hS2 : slD R2 (330 * now) (Ds 0) := by have h0 := hsl2 0 (Nat.zero_le _); rwa [show (now + 9 - 0) % 9 = now by omega] at h0
      obtain ⟨_, _, _, _, _, _, hm2, -⟩ := id hMS2
      refine v_istore (pc' := 772) (i := 5) (L' := [(5, .int (nI 2)), (4, .int (nI i)), (3, .ref out), (2, .ref m), (1, .ref x), (0, .ref sb)]) F dL_law_770  (by decide) rfl rfl ?_
      refine v_aload_n (pc' := 773) F dL_law_772 rfl (j := 3) rfl rfl ?_
      refine v_aload_n (pc' := 774) F dL_law_773 rfl (j := 5) rfl rfl ?_
      refine v_iload (pc' := 776) F dL_law_774  (j := 1) rfl rfl ?_
      refine v_iconst (pc' := 777) (v := nI 1) F dL_law_776 (by decide) rfl ?_
      refine v_iadd (pc' := 778) (v := nI (i + 1)) F dL_law_777 (nI_add i 1) rfl ?_
      refine w_sld (pc' := 779) (j := i + 1) F hSc (by omega) (by omega) hw1 dL_law_778 rfl ?_
      refine v_aload_n (pc' := 780) F dL_law_779 rfl (j := 5) rfl rfl ?_
      refine v_iload (pc' := 782) F dL_law_780  (j := 1) rfl rfl ?_
      refine v_iconst (pc' := 783) (v := nI 2) F dL_law_782 (by decide) rfl ?_
      refine v_iadd (pc' := 784) (v := nI (i + 2)) F dL_law_783 (nI_add i 2) rfl ?_
      refine w_sld (pc' := 785) (j := i + 2) F hSc (by omega) (by omega) hw2 dL_law_784 rfl ?_
      refine v_callV (pc' := 788) (rt := (some .int)) (mcc := 0) (msc := 0) (As := [.int (nI j), .int w2]) (st := []) F (fun l => o2_X7_work G z0 l hMS2 hnow2 w9 hS2 w2 hj hno) gL_law_X7_work rfl hv_X7_work (by decide) (by decide) hm2 rfl rfl rfl (Nat.le_of_ble_eq_true rfl) (by omega) (by omega) dL_law_785 rfl (fun v8 h7 hqm => ?_)
      obtain ⟨⟨y9, rfl⟩, hMS3, fQ⟩ := hqm
      obtain ⟨hC3, ho3⟩ := LI.m hC1 hM1 hAP ho1 (sub_q m rows asd vals many way told oth lst text) fQ
      obtain ⟨ha3, ht3⟩ := mS.at hMS2 hasd2 htext2 fQ
      obtain ⟨_, _, _, _, _, _, hm3, -⟩ := id hMS3
      refine v_istore (pc' := 790) (i := 6) (L' := [(6, .int y9), (5, .int (nI 2)), (4, .int (nI i)), (3, .ref out), (2, .ref m), (1, .ref x), (0, .ref sb)]) F dL_law_788  (by decide) rfl rfl ?_
      refine v_aload_n (pc' := 791) F dL_law_790 rfl (j := 4) rfl rfl ?_
      refine v_callV (pc' := 794) (rt := (some .int)) (mcc := 0) (msc := 0) (As := []) (st := []) F (fun l => c_X7_thrown G z0 l hm3) gL_law_X7_thrown rfl hv_X7_thrown (by decide) (by decide) hm3 rfl rfl rfl (Nat.le_of_ble_eq_true rfl) (by omega) (by omega) dL_law_791 rfl (fun v9 h7 hqt => ?_)
      obtain ⟨rfl, rfl⟩ := hqt
      refine v_iload (pc' := 796) F dL_law_794  (j := 1) rfl rfl ?_
      refine w_icmp_eq (tgt := 801) (pc' := 799) F (by omega) (by omega) dL_law_796 (by decide) rfl (fun _ => ?_) (fun c0 => absurd c0 (by omega))
      refine v_iload (pc' := 803) F dL_law_801  (j := 1) rfl rfl ?_
      refine w_if_ne (tgt := 818) (pc' := 806) F (by omega) dL_law_803 (by decide) rfl (fun _ => ?_) (fun c0 => absurd c0 (by omega))
      refine v_goto (tgt := 1252) F dL_law_818 (by decide) ?_
      refine v_sub (L' := [(4, .int (nI i)), (3, .ref out), (2, .ref m), (1, .ref x), (0, .ref sb)]) [2, 3, 4, 5, 6] rfl ?_
      exact K _ _ _ (by omega) (by omega) ⟨t, bl, off, cur, und, now, Ds, g, hC3.more, ⟨_, len2, spot2, fa2, num2, frm2, may2, R2, A2, T2, hMS3, hnow2, ha3, ht3, hT2, hsl2⟩, hAP, ho3⟩
theorem hd_L_idleIn : yL_idleIn.cls ≠ "java/lang/invoke/MethodHandle" ∧ yL_idleIn.cls ≠ "java/lang/invoke/VarHandle" ∧ (parseMethodDescriptor yL_idleIn.desc).map (fun d => d.parameters.length) = some 3 := by decide +kernel
theorem hv_X7_idleIn : yX7_idleIn.cls = RX7 ∧ yX7_idleIn.cls ≠ "java/lang/invoke/MethodHandle" ∧ yX7_idleIn.cls ≠ "java/lang/invoke/VarHandle" ∧ (parseMethodDescriptor yX7_idleIn.desc).map (fun d => d.parameters.length) = some 1 := by decide +kernel
set_option maxHeartbeats 4000000 in
set_option maxRecDepth 100000 in
theorem op_idleIn {G : gG} {z0 : Nat} {X : gX} {mc ms cells slots i N sb k : Nat} {nm : String} {xs : Nat → Int32} {h : gH} {x buf rd bks oq rw orw root m rows asd vals many way told oth lst text out : Nat} {bk bv : Nat → Nat} (F : gF G z0 X cL_law 9 RL wsL_law (some .boolean) nm 14 526 mc ms) (hst : X.2.1.stackTraces = false) (hSc : gSc z0 X sb N xs) (hN : N ≤ 3072) (hiN : i + 6 ≤ N) (hcc : cells + 1173 ≤ mc) (hss : slots + 14000 ≤ ms) (hk9 : k < 60000) (hL : LI G h x buf rd bks oq rw orw root m rows asd vals many way told oth lst text out bk bv k) (K : ∀ (c9 s9 : Nat) (h' : gH), c9 ≤ cells + 1173 → s9 ≤ slots + 14000 → LI G h' x buf rd bks oq rw orw root m rows asd vals many way told oth lst text out bk bv (k + 1) → gV G z0 X c9 s9 h' 1252 [(4, .int (nI i)), (3, .ref out), (2, .ref m), (1, .ref x), (0, .ref sb)] []) : gV G z0 X cells slots h 821 [(4, .int (nI i)), (3, .ref out), (2, .ref m), (1, .ref x), (0, .ref sb)] [] := by
  obtain ⟨t, bl, off, cur, und, now, Ds, g, hCI, hMI, hAP, ho⟩ := hL
  obtain ⟨hX, ⟨hc, hu, hb5⟩, ⟨fb, hbuf, hft⟩, hRd, hsc, hro, hVr, hring, ⟨hbi, hvi⟩, hDs⟩ := id hCI
  obtain ⟨w9, hdr, ad, as, hcl, hroot⟩ := hCI.now
  have hB := hcl.1
  have hD := hcl.dat w9
  have hn := w9.2.1
  have h1n := w9.1
  have hx6 := hX.1
  obtain ⟨th, len, spot, fa, num, frm, may, R, A, T, hMS, hnow, hasd, htext, hT, hsl⟩ := id hMI
  obtain ⟨w1, hw1⟩ : ∃ w, xs (i + 1) = w := ⟨_, rfl⟩
  refine v_aload_n (pc' := 822) F dL_law_821 rfl (j := 3) rfl rfl ?_
  refine v_aload_n (pc' := 823) F dL_law_822 rfl (j := 4) rfl rfl ?_
  refine v_iload (pc' := 825) F dL_law_823  (j := 0) rfl rfl ?_
  refine v_iconst (pc' := 826) (v := nI 1) F dL_law_825 (by decide) rfl ?_
  refine v_iadd (pc' := 827) (v := nI (i + 1)) F dL_law_826 (nI_add i 1) rfl ?_
  refine w_sld (pc' := 828) (j := i + 1) F hSc (by omega) (by omega) hw1 dL_law_827 rfl ?_
  refine v_aload_n (pc' := 829) F dL_law_828 rfl (j := 1) rfl rfl ?_
  refine v_callSH (pc' := 832) (rt := (some .int)) (hh := [(0, 9, 12, 22)]) (mcc := 520) (msc := 1030) (As := [.ref x, .int w1, .ref out]) (st := []) F hst (fun l hst => c_L_idleIn G z0 l hst w1 hx6 ho (fun l hst => c_X6_idleIn G z0 l hst w1 hX hc hu hn hB hD hro hsc ⟨w9.2.2.1, w9.2.2.2.1⟩) (fun v h9 hq => by obtain ⟨j, hj, ew1, hv, hs1, f1⟩ := hq; exact ⟨⟨_, hv⟩, (LI.q hCI hMI hAP ho hs1 f1).2.2⟩) (fun E h9 hq => hq.1.1)) gL_law_L_idleIn rfl hd_L_idleIn (by decide) (by decide) rfl rfl (Nat.le_of_ble_eq_true rfl) (by omega) (by omega) dL_law_829 rfl (fun v9 h9 hq => ?_)
  rcases hq with ⟨k9, h1, hq1, rfl, g9, hgo, hg0, fO⟩ | ⟨E9, kc, hx1, rfl, hec⟩
  · obtain ⟨j, hj, ew1, hv, hs1, f1⟩ := hq1
    subst ew1
    obtain rfl := Value.int.inj (Option.some.inj hv)
    obtain ⟨hC1, hM1, ho1⟩ := LI.q hCI hMI hAP ho hs1 f1
    obtain ⟨hC2, hM2⟩ := LI.o hC1 hM1 ho1 fO
    obtain ⟨th2, len2, spot2, fa2, num2, frm2, may2, R2, A2, T2, hMS2, hnow2, hasd2, htext2, hT2, hsl2⟩ := id hM2
    have hS2 : slD R2 (330 * now) (Ds 0) := by have h0 := hsl2 0 (Nat.zero_le _); rwa [show (now + 9 - 0) % 9 = now by omega] at h0
    obtain ⟨_, _, _, _, _, _, hm2, -⟩ := id hMS2
    refine v_istore (pc' := 834) (i := 5) (L' := [(5, .int (nI 0)), (4, .int (nI i)), (3, .ref out), (2, .ref m), (1, .ref x), (0, .ref sb)]) F dL_law_832  (by decide) rfl rfl ?_
    refine v_aload_n (pc' := 835) F dL_law_834 rfl (j := 3) rfl rfl ?_
    refine v_aload_n (pc' := 836) F dL_law_835 rfl (j := 5) rfl rfl ?_
    refine v_iload (pc' := 838) F dL_law_836  (j := 1) rfl rfl ?_
    refine v_iconst (pc' := 839) (v := nI 1) F dL_law_838 (by decide) rfl ?_
    refine v_iadd (pc' := 840) (v := nI (i + 1)) F dL_law_839 (nI_add i 1) rfl ?_
    refine w_sld (pc' := 841) (j := i + 1) F hSc (by omega) (by omega) hw1 dL_law_840 rfl ?_
    refine v_callV (pc' := 844) (rt := (some .int)) (mcc := 0) (msc := 0) (As := [.int (nI j)]) (st := []) F (fun l => c_X7_idleIn G z0 l hMS2 hnow2 w9 hS2 hj) gL_law_X7_idleIn rfl hv_X7_idleIn (by decide) (by decide) hm2 rfl rfl rfl (Nat.le_of_ble_eq_true rfl) (by omega) (by omega) dL_law_841 rfl (fun v2 h1 hqm => ?_)
    obtain ⟨rfl, hMS3, fQ⟩ := hqm
    obtain ⟨hC3, ho3⟩ := LI.m hC2 hM2 hAP hgo (sub_q m rows asd vals many way told oth lst text) fQ
    obtain ⟨ha3, ht3⟩ := mS.at hMS2 hasd2 htext2 fQ
    obtain ⟨_, _, _, _, _, _, hm3, -⟩ := id hMS3
    refine v_istore (pc' := 846) (i := 6) (L' := [(6, .int (idN (Ds 0).2.1 ((Ds 0).2.2.2.2 j))), (5, .int (nI 0)), (4, .int (nI i)), (3, .ref out), (2, .ref m), (1, .ref x), (0, .ref sb)]) F dL_law_844  (by decide) rfl rfl ?_
    refine v_aload_n (pc' := 847) F dL_law_846 rfl (j := 4) rfl rfl ?_
    refine v_callV (pc' := 850) (rt := (some .int)) (mcc := 0) (msc := 0) (As := []) (st := []) F (fun l => c_X7_thrown G z0 l hm3) gL_law_X7_thrown rfl hv_X7_thrown (by decide) (by decide) hm3 rfl rfl rfl (Nat.le_of_ble_eq_true rfl) (by omega) (by omega) dL_law_847 rfl (fun v3 h1 hqt => ?_)
    obtain ⟨rfl, rfl⟩ := hqt
    refine v_iload (pc' := 852) F dL_law_850  (j := 1) rfl rfl ?_
    refine w_icmp_eq (tgt := 857) (pc' := 855) F (by omega) (by omega) dL_law_852 (by decide) rfl (fun _ => ?_) (fun c0 => absurd c0 (by omega))
    refine v_iload (pc' := 859) F dL_law_857  (j := 1) rfl rfl ?_
    refine w_if_ne (tgt := 874) (pc' := 862) F (by omega) dL_law_859 (by decide) rfl (fun c0 => absurd c0 (by omega)) (fun _ => ?_)
    refine v_aload_n (pc' := 863) F dL_law_862 rfl (j := 3) rfl rfl ?_
    refine v_iconst (pc' := 864) (v := nI 0) F dL_law_863 (by decide) rfl ?_
    refine w_lald (pc' := 865) (v := (idN (Ds 0).2.1 ((Ds 0).2.2.2.2 j)).toInt64) F ho3 (by omega) (by omega) hg0 dL_law_864 rfl ?_
    refine v_iload (pc' := 867) F dL_law_865  (j := 0) rfl rfl ?_
    refine v_i2l (pc' := 868) (v := (idN (Ds 0).2.1 ((Ds 0).2.2.2.2 j)).toInt64) F dL_law_867 rfl rfl ?_
    refine v_lcmp (pc' := 869) F dL_law_868 rfl ?_
    refine v_if_eq (tgt := 874) (pc' := 872) F dL_law_869 (by decide) rfl (fun _ => ?_) (fun c0 => absurd (lg_self _) c0)
    refine v_goto (tgt := 1252) F dL_law_874 (by decide) ?_
    refine v_sub (L' := [(4, .int (nI i)), (3, .ref out), (2, .ref m), (1, .ref x), (0, .ref sb)]) [2, 3, 4, 5, 6] rfl ?_
    exact K _ _ _ (by omega) (by omega) ⟨t, bl, off, cur, und, now, Ds, g9, hC3.more, ⟨_, len2, spot2, fa2, num2, frm2, may2, R2, A2, T2, hMS3, hnow2, ha3, ht3, hT2, hsl2⟩, hAP, ho3⟩
  · obtain ⟨hP9, hs1, f1⟩ := hx1
    obtain ⟨hC1, hM1, ho1⟩ := LI.q hCI hMI hAP ho hs1 f1
    obtain ⟨rfl, hno⟩ := hP9
    have hkc : kc = 1 := by rw [← hec]; decide
    subst hkc
    obtain ⟨th2, len2, spot2, fa2, num2, frm2, may2, R2, A2, T2, hMS2, hnow2, hasd2, htext2, hT2, hsl2⟩ := id hM1
    have hS2 : slD R2 (330 * now) (Ds 0) := by have h0 := hsl2 0 (Nat.zero_le _); rwa [show (now + 9 - 0) % 9 = now by omega] at h0
    obtain ⟨_, _, _, _, _, _, hm2, -⟩ := id hMS2
    refine v_istore (pc' := 834) (i := 5) (L' := [(5, .int (nI 1)), (4, .int (nI i)), (3, .ref out), (2, .ref m), (1, .ref x), (0, .ref sb)]) F dL_law_832  (by decide) rfl rfl ?_
    refine v_aload_n (pc' := 835) F dL_law_834 rfl (j := 3) rfl rfl ?_
    refine v_aload_n (pc' := 836) F dL_law_835 rfl (j := 5) rfl rfl ?_
    refine v_iload (pc' := 838) F dL_law_836  (j := 1) rfl rfl ?_
    refine v_iconst (pc' := 839) (v := nI 1) F dL_law_838 (by decide) rfl ?_
    refine v_iadd (pc' := 840) (v := nI (i + 1)) F dL_law_839 (nI_add i 1) rfl ?_
    refine w_sld (pc' := 841) (j := i + 1) F hSc (by omega) (by omega) hw1 dL_law_840 rfl ?_
    refine v_callV (pc' := 844) (rt := (some .int)) (mcc := 0) (msc := 0) (As := [.int w1]) (st := []) F (fun l => o1_X7_idleIn G z0 l hMS2 hnow2 w9 hS2 w1 hno) gL_law_X7_idleIn rfl hv_X7_idleIn (by decide) (by decide) hm2 rfl rfl rfl (Nat.le_of_ble_eq_true rfl) (by omega) (by omega) dL_law_841 rfl (fun v5 h4 hqm => ?_)
    obtain ⟨⟨y9, rfl⟩, hMS3, fQ⟩ := hqm
    obtain ⟨hC3, ho3⟩ := LI.m hC1 hM1 hAP ho1 (sub_q m rows asd vals many way told oth lst text) fQ
    obtain ⟨ha3, ht3⟩ := mS.at hMS2 hasd2 htext2 fQ
    obtain ⟨_, _, _, _, _, _, hm3, -⟩ := id hMS3
    refine v_istore (pc' := 846) (i := 6) (L' := [(6, .int y9), (5, .int (nI 1)), (4, .int (nI i)), (3, .ref out), (2, .ref m), (1, .ref x), (0, .ref sb)]) F dL_law_844  (by decide) rfl rfl ?_
    refine v_aload_n (pc' := 847) F dL_law_846 rfl (j := 4) rfl rfl ?_
    refine v_callV (pc' := 850) (rt := (some .int)) (mcc := 0) (msc := 0) (As := []) (st := []) F (fun l => c_X7_thrown G z0 l hm3) gL_law_X7_thrown rfl hv_X7_thrown (by decide) (by decide) hm3 rfl rfl rfl (Nat.le_of_ble_eq_true rfl) (by omega) (by omega) dL_law_847 rfl (fun v6 h4 hqt => ?_)
    obtain ⟨rfl, rfl⟩ := hqt
    refine v_iload (pc' := 852) F dL_law_850  (j := 1) rfl rfl ?_
    refine w_icmp_eq (tgt := 857) (pc' := 855) F (by omega) (by omega) dL_law_852 (by decide) rfl (fun _ => ?_) (fun c0 => absurd c0 (by omega))
    refine v_iload (pc' := 859) F dL_law_857  (j := 1) rfl rfl ?_
    refine w_if_ne (tgt := 874) (pc' := 862) F (by omega) dL_law_859 (by decide) rfl (fun _ => ?_) (fun c0 => absurd c0 (by omega))
    refine v_goto (tgt := 1252) F dL_law_874 (by decide) ?_
    refine v_sub (L' := [(4, .int (nI i)), (3, .ref out), (2, .ref m), (1, .ref x), (0, .ref sb)]) [2, 3, 4, 5, 6] rfl ?_
    exact K _ _ _ (by omega) (by omega) ⟨t, bl, off, cur, und, now, Ds, g, hC3.more, ⟨_, len2, spot2, fa2, num2, frm2, may2, R2, A2, T2, hMS3, hnow2, ha3, ht3, hT2, hsl2⟩, hAP, ho3⟩
theorem hd_L_ranked : yL_ranked.cls ≠ "java/lang/invoke/MethodHandle" ∧ yL_ranked.cls ≠ "java/lang/invoke/VarHandle" ∧ (parseMethodDescriptor yL_ranked.desc).map (fun d => d.parameters.length) = some 3 := by decide +kernel
theorem hv_X7_ranked : yX7_ranked.cls = RX7 ∧ yX7_ranked.cls ≠ "java/lang/invoke/MethodHandle" ∧ yX7_ranked.cls ≠ "java/lang/invoke/VarHandle" ∧ (parseMethodDescriptor yX7_ranked.desc).map (fun d => d.parameters.length) = some 1 := by decide +kernel
set_option maxHeartbeats 4000000 in
set_option maxRecDepth 100000 in
theorem op_ranked {G : gG} {z0 : Nat} {X : gX} {mc ms cells slots i N sb k : Nat} {nm : String} {xs : Nat → Int32} {h : gH} {x buf rd bks oq rw orw root m rows asd vals many way told oth lst text out : Nat} {bk bv : Nat → Nat} (F : gF G z0 X cL_law 9 RL wsL_law (some .boolean) nm 14 526 mc ms) (hst : X.2.1.stackTraces = false) (hSc : gSc z0 X sb N xs) (hN : N ≤ 3072) (hiN : i + 6 ≤ N) (hcc : cells + 1173 ≤ mc) (hss : slots + 14000 ≤ ms) (hk9 : k < 60000) (hL : LI G h x buf rd bks oq rw orw root m rows asd vals many way told oth lst text out bk bv k) (K : ∀ (c9 s9 : Nat) (h' : gH), c9 ≤ cells + 1173 → s9 ≤ slots + 14000 → LI G h' x buf rd bks oq rw orw root m rows asd vals many way told oth lst text out bk bv (k + 1) → gV G z0 X c9 s9 h' 1252 [(4, .int (nI i)), (3, .ref out), (2, .ref m), (1, .ref x), (0, .ref sb)] []) : gV G z0 X cells slots h 890 [(4, .int (nI i)), (3, .ref out), (2, .ref m), (1, .ref x), (0, .ref sb)] [] := by
  obtain ⟨t, bl, off, cur, und, now, Ds, g, hCI, hMI, hAP, ho⟩ := hL
  obtain ⟨hX, ⟨hc, hu, hb5⟩, ⟨fb, hbuf, hft⟩, hRd, hsc, hro, hVr, hring, ⟨hbi, hvi⟩, hDs⟩ := id hCI
  obtain ⟨w9, hdr, ad, as, hcl, hroot⟩ := hCI.now
  have hB := hcl.1
  have hD := hcl.dat w9
  have hn := w9.2.1
  have h1n := w9.1
  have hx6 := hX.1
  obtain ⟨th, len, spot, fa, num, frm, may, R, A, T, hMS, hnow, hasd, htext, hT, hsl⟩ := id hMI
  obtain ⟨w1, hw1⟩ : ∃ w, xs (i + 1) = w := ⟨_, rfl⟩
  refine v_aload_n (pc' := 891) F dL_law_890 rfl (j := 3) rfl rfl ?_
  refine v_aload_n (pc' := 892) F dL_law_891 rfl (j := 4) rfl rfl ?_
  refine v_iload (pc' := 894) F dL_law_892  (j := 0) rfl rfl ?_
  refine v_iconst (pc' := 895) (v := nI 1) F dL_law_894 (by decide) rfl ?_
  refine v_iadd (pc' := 896) (v := nI (i + 1)) F dL_law_895 (nI_add i 1) rfl ?_
  refine w_sld (pc' := 897) (j := i + 1) F hSc (by omega) (by omega) hw1 dL_law_896 rfl ?_
  refine v_aload_n (pc' := 898) F dL_law_897 rfl (j := 1) rfl rfl ?_
  refine v_callSH (pc' := 901) (rt := (some .int)) (hh := [(0, 9, 12, 31)]) (mcc := 1) (msc := 6) (As := [.ref x, .int w1, .ref out]) (st := []) F hst (fun l hst => c_L_ranked G z0 l hst w1 hx6 ho (fun l hst => c_X6_ranked G z0 l hst w1 hX hc hu hn hB hD hro hsc) (fun v h9 hq => by obtain ⟨r9, hr9, hv, hs1, f1⟩ := hq; exact ⟨⟨_, hv⟩, (LI.q hCI hMI hAP ho hs1 f1).2.2⟩) (fun E h9 hq => hq.1.1)) gL_law_L_ranked rfl hd_L_ranked (by decide) (by decide) rfl rfl (Nat.le_of_ble_eq_true rfl) (by omega) (by omega) dL_law_898 rfl (fun v9 h9 hq => ?_)
  rcases hq with ⟨k9, h1, hq1, rfl, g9, hgo, hg0, fO⟩ | ⟨E9, kc, hx1, rfl, hec⟩
  · obtain ⟨r9, hr9, hv, hs1, f1⟩ := hq1
    obtain ⟨j, hj, ew1⟩ : iR w1 (Ds 0).1 := Classical.byContradiction (fun zi => by rw [rk_out zi] at hr9; cases hr9)
    subst ew1
    obtain rfl := Value.int.inj (Option.some.inj hv)
    obtain ⟨hC1, hM1, ho1⟩ := LI.q hCI hMI hAP ho hs1 f1
    obtain ⟨hC2, hM2⟩ := LI.o hC1 hM1 ho1 fO
    obtain ⟨th2, len2, spot2, fa2, num2, frm2, may2, R2, A2, T2, hMS2, hnow2, hasd2, htext2, hT2, hsl2⟩ := id hM2
    have hS2 : slD R2 (330 * now) (Ds 0) := by have h0 := hsl2 0 (Nat.zero_le _); rwa [show (now + 9 - 0) % 9 = now by omega] at h0
    obtain ⟨_, _, _, _, _, _, hm2, -⟩ := id hMS2
    refine v_istore (pc' := 903) (i := 5) (L' := [(5, .int (nI 0)), (4, .int (nI i)), (3, .ref out), (2, .ref m), (1, .ref x), (0, .ref sb)]) F dL_law_901  (by decide) rfl rfl ?_
    refine v_aload_n (pc' := 904) F dL_law_903 rfl (j := 3) rfl rfl ?_
    refine v_aload_n (pc' := 905) F dL_law_904 rfl (j := 5) rfl rfl ?_
    refine v_iload (pc' := 907) F dL_law_905  (j := 1) rfl rfl ?_
    refine v_iconst (pc' := 908) (v := nI 1) F dL_law_907 (by decide) rfl ?_
    refine v_iadd (pc' := 909) (v := nI (i + 1)) F dL_law_908 (nI_add i 1) rfl ?_
    refine w_sld (pc' := 910) (j := i + 1) F hSc (by omega) (by omega) hw1 dL_law_909 rfl ?_
    refine v_callV (pc' := 913) (rt := (some .int)) (mcc := 0) (msc := 0) (As := [.int (nI j)]) (st := []) F (fun l => c_X7_ranked G z0 l hMS2 hnow2 w9 hS2 hj) gL_law_X7_ranked rfl hv_X7_ranked (by decide) (by decide) hm2 rfl rfl rfl (Nat.le_of_ble_eq_true rfl) (by omega) (by omega) dL_law_910 rfl (fun v2 h1 hqm => ?_)
    rw [hr9] at hqm
    obtain ⟨rfl, hMS3, fQ⟩ := hqm
    obtain ⟨hC3, ho3⟩ := LI.m hC2 hM2 hAP hgo (sub_q m rows asd vals many way told oth lst text) fQ
    obtain ⟨ha3, ht3⟩ := mS.at hMS2 hasd2 htext2 fQ
    obtain ⟨_, _, _, _, _, _, hm3, -⟩ := id hMS3
    refine v_istore (pc' := 915) (i := 6) (L' := [(6, .int (nI r9)), (5, .int (nI 0)), (4, .int (nI i)), (3, .ref out), (2, .ref m), (1, .ref x), (0, .ref sb)]) F dL_law_913  (by decide) rfl rfl ?_
    refine v_aload_n (pc' := 916) F dL_law_915 rfl (j := 4) rfl rfl ?_
    refine v_callV (pc' := 919) (rt := (some .int)) (mcc := 0) (msc := 0) (As := []) (st := []) F (fun l => c_X7_thrown G z0 l hm3) gL_law_X7_thrown rfl hv_X7_thrown (by decide) (by decide) hm3 rfl rfl rfl (Nat.le_of_ble_eq_true rfl) (by omega) (by omega) dL_law_916 rfl (fun v3 h1 hqt => ?_)
    obtain ⟨rfl, rfl⟩ := hqt
    refine v_iload (pc' := 921) F dL_law_919  (j := 1) rfl rfl ?_
    refine w_icmp_eq (tgt := 926) (pc' := 924) F (by omega) (by omega) dL_law_921 (by decide) rfl (fun _ => ?_) (fun c0 => absurd c0 (by omega))
    refine v_iload (pc' := 928) F dL_law_926  (j := 1) rfl rfl ?_
    refine w_if_ne (tgt := 943) (pc' := 931) F (by omega) dL_law_928 (by decide) rfl (fun c0 => absurd c0 (by omega)) (fun _ => ?_)
    refine v_aload_n (pc' := 932) F dL_law_931 rfl (j := 3) rfl rfl ?_
    refine v_iconst (pc' := 933) (v := nI 0) F dL_law_932 (by decide) rfl ?_
    refine w_lald (pc' := 934) (v := (nI r9).toInt64) F ho3 (by omega) (by omega) hg0 dL_law_933 rfl ?_
    refine v_iload (pc' := 936) F dL_law_934  (j := 0) rfl rfl ?_
    refine v_i2l (pc' := 937) (v := (nI r9).toInt64) F dL_law_936 rfl rfl ?_
    refine v_lcmp (pc' := 938) F dL_law_937 rfl ?_
    refine v_if_eq (tgt := 943) (pc' := 941) F dL_law_938 (by decide) rfl (fun _ => ?_) (fun c0 => absurd (lg_self _) c0)
    refine v_goto (tgt := 1252) F dL_law_943 (by decide) ?_
    refine v_sub (L' := [(4, .int (nI i)), (3, .ref out), (2, .ref m), (1, .ref x), (0, .ref sb)]) [2, 3, 4, 5, 6] rfl ?_
    exact K _ _ _ (by omega) (by omega) ⟨t, bl, off, cur, und, now, Ds, g9, hC3.more, ⟨_, len2, spot2, fa2, num2, frm2, may2, R2, A2, T2, hMS3, hnow2, ha3, ht3, hT2, hsl2⟩, hAP, ho3⟩
  · obtain ⟨hP9, hs1, f1⟩ := hx1
    obtain ⟨hC1, hM1, ho1⟩ := LI.q hCI hMI hAP ho hs1 f1
    obtain ⟨rfl, hno⟩ := hP9
    have hkc : kc = 1 := by rw [← hec]; decide
    subst hkc
    have hno2 : ¬ iR w1 (Ds 0).1 := fun zi => by
      obtain ⟨j, hj, e1⟩ := zi
      obtain ⟨r9, hr9⟩ := rk_in (os := (Ds 0).2.2.2.2) hj
      rw [e1, hr9] at hno
      cases hno
    obtain ⟨th2, len2, spot2, fa2, num2, frm2, may2, R2, A2, T2, hMS2, hnow2, hasd2, htext2, hT2, hsl2⟩ := id hM1
    have hS2 : slD R2 (330 * now) (Ds 0) := by have h0 := hsl2 0 (Nat.zero_le _); rwa [show (now + 9 - 0) % 9 = now by omega] at h0
    obtain ⟨_, _, _, _, _, _, hm2, -⟩ := id hMS2
    refine v_istore (pc' := 903) (i := 5) (L' := [(5, .int (nI 1)), (4, .int (nI i)), (3, .ref out), (2, .ref m), (1, .ref x), (0, .ref sb)]) F dL_law_901  (by decide) rfl rfl ?_
    refine v_aload_n (pc' := 904) F dL_law_903 rfl (j := 3) rfl rfl ?_
    refine v_aload_n (pc' := 905) F dL_law_904 rfl (j := 5) rfl rfl ?_
    refine v_iload (pc' := 907) F dL_law_905  (j := 1) rfl rfl ?_
    refine v_iconst (pc' := 908) (v := nI 1) F dL_law_907 (by decide) rfl ?_
    refine v_iadd (pc' := 909) (v := nI (i + 1)) F dL_law_908 (nI_add i 1) rfl ?_
    refine w_sld (pc' := 910) (j := i + 1) F hSc (by omega) (by omega) hw1 dL_law_909 rfl ?_
    refine v_callV (pc' := 913) (rt := (some .int)) (mcc := 0) (msc := 0) (As := [.int w1]) (st := []) F (fun l => o1_X7_ranked G z0 l hMS2 hnow2 w9 hS2 w1 hno2) gL_law_X7_ranked rfl hv_X7_ranked (by decide) (by decide) hm2 rfl rfl rfl (Nat.le_of_ble_eq_true rfl) (by omega) (by omega) dL_law_910 rfl (fun v5 h4 hqm => ?_)
    obtain ⟨⟨y9, rfl⟩, hMS3, fQ⟩ := hqm
    obtain ⟨hC3, ho3⟩ := LI.m hC1 hM1 hAP ho1 (sub_q m rows asd vals many way told oth lst text) fQ
    obtain ⟨ha3, ht3⟩ := mS.at hMS2 hasd2 htext2 fQ
    obtain ⟨_, _, _, _, _, _, hm3, -⟩ := id hMS3
    refine v_istore (pc' := 915) (i := 6) (L' := [(6, .int y9), (5, .int (nI 1)), (4, .int (nI i)), (3, .ref out), (2, .ref m), (1, .ref x), (0, .ref sb)]) F dL_law_913  (by decide) rfl rfl ?_
    refine v_aload_n (pc' := 916) F dL_law_915 rfl (j := 4) rfl rfl ?_
    refine v_callV (pc' := 919) (rt := (some .int)) (mcc := 0) (msc := 0) (As := []) (st := []) F (fun l => c_X7_thrown G z0 l hm3) gL_law_X7_thrown rfl hv_X7_thrown (by decide) (by decide) hm3 rfl rfl rfl (Nat.le_of_ble_eq_true rfl) (by omega) (by omega) dL_law_916 rfl (fun v6 h4 hqt => ?_)
    obtain ⟨rfl, rfl⟩ := hqt
    refine v_iload (pc' := 921) F dL_law_919  (j := 1) rfl rfl ?_
    refine w_icmp_eq (tgt := 926) (pc' := 924) F (by omega) (by omega) dL_law_921 (by decide) rfl (fun _ => ?_) (fun c0 => absurd c0 (by omega))
    refine v_iload (pc' := 928) F dL_law_926  (j := 1) rfl rfl ?_
    refine w_if_ne (tgt := 943) (pc' := 931) F (by omega) dL_law_928 (by decide) rfl (fun _ => ?_) (fun c0 => absurd c0 (by omega))
    refine v_goto (tgt := 1252) F dL_law_943 (by decide) ?_
    refine v_sub (L' := [(4, .int (nI i)), (3, .ref out), (2, .ref m), (1, .ref x), (0, .ref sb)]) [2, 3, 4, 5, 6] rfl ?_
    exact K _ _ _ (by omega) (by omega) ⟨t, bl, off, cur, und, now, Ds, g, hC3.more, ⟨_, len2, spot2, fa2, num2, frm2, may2, R2, A2, T2, hMS3, hnow2, ha3, ht3, hT2, hsl2⟩, hAP, ho3⟩
