/-! THE READER READS A TEXT -/
theorem prN_push (t : Nat → Nat) (len s : Nat) (D : Dt) : D.1 ≤ prN (pPush t len s D) := by
  unfold pPush pNum
  repeat' split
  all_goals first | exact prN_ps .. | (rename_i hz; split at hz; (cases hz; exact Nat.le_refl _); split at hz <;> cases hz; exact Nat.le_refl _) | exact Nat.le_refl _ | (simp_all [prN])
theorem prN_pop (t : Nat → Nat) (len s : Nat) (D : Dt) : D.1 ≤ prN (pPop t len s D) := by
  unfold pPop
  split
  · rename_i e he
    unfold pNum at he
    split at he
    · cases he; exact Nat.le_refl _
    · split at he <;> cases he; exact Nat.le_refl _
  · split
    · rename_i e he
      unfold pNum at he
      split at he
      · cases he; exact Nat.le_refl _
      · split at he <;> cases he; exact Nat.le_refl _
    · split
      · exact Nat.le_refl _
      · split
        · exact Nat.le_refl _
        · show D.1 ≤ (dPops _ _ D).1
          rw [dPops_n]; omega
theorem prN_pace (t : Nat → Nat) (len s : Nat) (D : Dt) : prN (pPace t len s D) = D.1 := by
  unfold pPace
  split
  · rename_i e he
    unfold pNum at he
    split at he
    · cases he; rfl
    · split at he <;> cases he; rfl
  · rfl
theorem prN_st (t : Nat → Nat) (len : Nat) (may : Bool) (s : Nat) (D : Dt) : D.1 ≤ prN (pSt t len may s D) := by
  unfold pSt
  split
  · exact prN_push ..
  · split
    · exact prN_pop ..
    · split
      · rw [prN_pace]; exact Nat.le_refl _
      · exact Nat.le_refl _
theorem prN_main (t : Nat → Nat) (len : Nat) : ∀ (m : Nat) (may : Bool) (s : Nat) (D : Dt), D.1 ≤ prN (pMain t len m may s D)
  | 0, _, _, _ => Nat.le_refl _
  | m + 1, may, s, D => by
    have h1 := prN_st t len may s D
    unfold pMain
    split
    · exact Nat.le_refl _
    · split
      · rename_i e he
        rw [he] at h1
        exact h1
      · rename_i s1 D1 he
        rw [he] at h1
        change D.1 ≤ D1.1 at h1
        split
        · exact Nat.le_trans h1 (prN_main t len m false _ D1)
        · exact h1
/-- behind a text -/
def rdQ (G : gG) (rd buf b va len : Nat) (root : Nat) (r : PR) (h : gH) (v : Option Value) (h' : gH) : Prop := gfr [rd, b, va] h h' ∧ ∃ (D' : Dt) (ad' : Nat → Nat) (as' : Nat → List Nat), wfD D' ∧ clD G h' b va D' ad' as' ∧ ad' 0 = root ∧ prN r = D'.1 ∧ ∃ may9 at9 st9 kd9 nu9 : Nat, nu9 ≤ 1000 ∧ match r with
  | .inl e => v = some (.int e.1) ∧ e.1 ≠ 0 ∧ e.2.1 ≤ len ∧ h' rd = some (.inr (3, [.int (nI e.2.1), .ref buf, .int (nI len), .ref b, .int e.1, .int (nI at9), .int (nI st9), .int (nI kd9), .int (nI nu9), .int (nI may9)]))
  | .inr q => v = some (.int (nI 0)) ∧ q.2 = D' ∧ h' rd = some (.inr (3, [.int (-1), .ref buf, .int (nI len), .ref b, .int (nI 0), .int (nI at9), .int (nI st9), .int (nI kd9), .int (nI nu9), .int (nI may9)]))
theorem rdQ.trans {G : gG} {rd buf b va len root : Nat} {r : PR} {h h1 h' : gH} {v : Option Value} (f : gfr [rd, b, va] h h1) (q : rdQ G rd buf b va len root r h1 v h') : rdQ G rd buf b va len root r h v h' := ⟨gfr.t f q.1, q.2⟩
theorem k_X3_read_3 : gCl wsX3_read 3 RX3 TX3 10 := ⟨by decide +kernel, rfl⟩
theorem m_X3_read_f19 : Cond.fieldLink RX3 19 "SteadyQueues$SetupReader" "length" "I" ∈ wsX3_read := by decide +kernel
theorem m_X3_read_f26 : Cond.fieldLink RX3 26 "SteadyQueues$SetupReader" "error" "I" ∈ wsX3_read := by decide +kernel
set_option maxHeartbeats 4000000 in
set_option maxRecDepth 100000 in
theorem lpE_X3_read {G : gG} {z0 : Nat} {X : gX} {post : Option Value → gH → Prop} {mc ms cells slots i rd buf len b at9 st9 kd9 nu9 may9 : Nat} {h : gH} {o9 e9 : Int32} (F : gF G z0 X cX3_read 6 RX3 wsX3_read (some .int) "read" 8 170 mc ms) (E : gE G z0 X post mc ms) (hcc : cells ≤ mc) (hss : slots ≤ ms) (hlen : len ≤ 500) (hi : i ≤ 1000) (hr : h rd = some (.inr (3, [.int o9, .ref buf, .int (nI len), .ref b, .int e9, .int (nI at9), .int (nI st9), .int (nI kd9), .int (nI nu9), .int (nI may9)]))) (hp : post (some (.int e9)) h) : gV G z0 X cells slots h 70 [(5, .int (nI i)), (4, .int (nI 0)), (3, .ref b), (2, .int (nI len)), (1, .ref buf), (0, .ref rd)] [] := by
  refine v_iload (pc' := 72) F dX3_read_70  (j := 0) rfl rfl ?_
  refine v_aload_n (pc' := 73) F dX3_read_72 rfl (j := 5) rfl rfl ?_
  refine v_getf (pc' := 76) (v := .int (nI len)) F k_X3_read_3 hr 2 (by decide) m_X3_read_f19 rfl dX3_read_73 rfl ?_
  refine w_icmp_ge (tgt := 185) (pc' := 79) F (by omega) (by omega) dX3_read_76 (by decide) rfl (fun c0 => ?_) (fun c0 => ?_)
  · refine v_aload_n (pc' := 186) F dX3_read_185 rfl (j := 5) rfl rfl ?_
    refine v_getf (pc' := 189) (v := .int e9) F k_X3_read_3 hr 4 (by decide) m_X3_read_f26 rfl dX3_read_186 rfl ?_
    exact v_iret F E (by omega) (by omega)  dX3_read_189 hp
  · refine v_iload (pc' := 81) F dX3_read_79  (j := 1) rfl rfl ?_
    refine w_if_eq (tgt := 185) (pc' := 84) F (by omega) dX3_read_81 (by decide) rfl (fun _ => ?_) (fun c0 => absurd c0 (by omega))
    refine v_aload_n (pc' := 186) F dX3_read_185 rfl (j := 5) rfl rfl ?_
    refine v_getf (pc' := 189) (v := .int e9) F k_X3_read_3 hr 4 (by decide) m_X3_read_f26 rfl dX3_read_186 rfl ?_
    exact v_iret F E (by omega) (by omega)  dX3_read_189 hp
theorem hv_X3_pass : yX3_pass.cls = RX3 ∧ yX3_pass.cls ≠ "java/lang/invoke/MethodHandle" ∧ yX3_pass.cls ≠ "java/lang/invoke/VarHandle" ∧ (parseMethodDescriptor yX3_pass.desc).map (fun d => d.parameters.length) = some 1 := by decide +kernel
set_option maxHeartbeats 4000000 in
set_option maxRecDepth 100000 in
theorem lpS_X3_read {G : gG} {z0 : Nat} {X : gX} {l : Launch} {mc ms cells slots : Nat} {x : Int32} {va root i : Nat} {D : Dt} {r : PR} {h hA : gH} {rd buf len b : Nat} {t : Nat → Nat} {f : Nat → Int32} (F : gF G z0 X cX3_read 6 RX3 wsX3_read (some .int) "read" 8 170 mc ms) (hcc : cells ≤ mc) (hss : slots ≤ ms) (hlen : len ≤ 500) (hi : i < 600) (ht : ∀ j, j < len → f j = sb_b (t j) ∧ t j < 256) (hbuf : hA buf = some (oB G 500 f)) (hs : stQ G rd buf b va len t (-1) (nI 0) root r h (some (.int x)) hA) (KE : ∀ (h2 : gH) (e : Int32) (o : Nat) (D' : Dt) (ad' : Nat → Nat) (as' : Nat → List Nat) (may9 at9 st9 kd9 nu9 : Nat), ((r = .inl (e, o, D'.1) ∧ e ≠ 0 ∧ o ≤ len) ∨ ∃ s1, r = .inr (s1, D') ∧ kdT t len s1 ≠ 3 ∧ e = -2 ∧ o = s1 ∧ o ≤ len) → wfD D' → clD G h2 b va D' ad' as' → ad' 0 = root → nu9 ≤ 1000 → h2 rd = some (.inr (3, [.int (nI o), .ref buf, .int (nI len), .ref b, .int e, .int (nI at9), .int (nI st9), .int (nI kd9), .int (nI nu9), .int (nI may9)])) → gfr [rd, b, va] h h2 → gV G z0 X cells slots h2 70 [(5, .int (nI (i + 1))), (4, .int (nI 0)), (3, .ref b), (2, .int (nI len)), (1, .ref buf), (0, .ref rd)] []) (KO : ∀ (h2 : gH) (s1 : Nat) (D' : Dt) (ad' : Nat → Nat) (as' : Nat → List Nat), r = .inr (s1, D') → kdT t len s1 = 3 → wfD D' → clD G h2 b va D' ad' as' → ad' 0 = root → tkn h2 rd buf b len t (-1) (nI 0) 0 (nxT t len s1) → h2 buf = some (oB G 500 f) → gfr [rd, b, va] h h2 → gV G z0 X cells slots h2 70 [(5, .int (nI (i + 1))), (4, .int (nI 1)), (3, .ref b), (2, .int (nI len)), (1, .ref buf), (0, .ref rd)] []) : gV G z0 X cells slots hA 159 [(5, .int (nI i)), (4, .int x), (3, .ref b), (2, .int (nI len)), (1, .ref buf), (0, .ref rd)] [] := by
  obtain ⟨fr, D9, ad9, as9, w9, c9, hr9, hn9, hm⟩ := hs
  obtain ⟨hb, fv, hva, hfv⟩ := id c9.1
  cases r with
  | inl e =>
    obtain ⟨hx9, he, hel, may9, at9, st9, kd9, nu9, hnu, hrd⟩ := hm
    cases hx9
    refine v_iload (pc' := 161) F dX3_read_159  (j := 1) rfl rfl ?_
    refine w_if_eq (tgt := 176) (pc' := 164) F (by omega) dX3_read_161 (by decide) rfl (fun _ => ?_) (fun c0 => absurd c0 (by omega))
    refine v_iconst (pc' := 177) (v := nI 0) F dX3_read_176 (by decide) rfl ?_
    refine v_istore (pc' := 179) (i := 4) (L' := [(4, .int (nI 0)), (5, .int (nI i)), (3, .ref b), (2, .int (nI len)), (1, .ref buf), (0, .ref rd)]) F dX3_read_177  (by decide) rfl rfl ?_
    refine v_iinc (pc' := 182) (j := 1) (x := nI i) (v := nI (i + 1)) (L' := [(5, .int (nI (i + 1))), (4, .int (nI 0)), (3, .ref b), (2, .int (nI len)), (1, .ref buf), (0, .ref rd)]) F dX3_read_179 rfl (nI_add i 1) (by decide) rfl rfl ?_
    refine v_goto (tgt := 70) F dX3_read_182 (by decide) ?_
    refine v_sub (L' := [(5, .int (nI (i + 1))), (4, .int (nI 0)), (3, .ref b), (2, .int (nI len)), (1, .ref buf), (0, .ref rd)]) [0, 1, 2, 3, 4, 5] rfl ?_
    exact KE hA e.1 e.2.1 D9 ad9 as9 may9 at9 st9 kd9 nu9 (Or.inl ⟨by rw [show D9.1 = e.2.2 from hn9.symm], he, hel⟩) w9 c9 hr9 hnu hrd fr
  | inr q =>
    obtain ⟨s1, D1⟩ := q
    obtain ⟨hx9, rfl, hT⟩ := hm
    cases hx9
    obtain ⟨hbs1, nus1, hls1, h2s1, hrd⟩ := hT
    change D1.1 = D1.1 at hn9
    have hk9 := kdT_b t len s1
    change hA rd = some (.inr (3, [.int (-1), .ref buf, .int (nI len), .ref b, .int (nI 0), .int (nI (enT t len s1)), .int (nI s1), .int (nI (kdT t len s1)), .int (nI nus1), .int (nI 0)])) at hrd
    change s1 ≤ len at hbs1
    refine v_iload (pc' := 161) F dX3_read_159  (j := 1) rfl rfl ?_
    refine w_if_eq (tgt := 176) (pc' := 164) F (by omega) dX3_read_161 (by decide) rfl (fun c0 => absurd c0 (by omega)) (fun _ => ?_)
    refine v_aload_n (pc' := 165) F dX3_read_164 rfl (j := 5) rfl rfl ?_
    refine v_iconst (pc' := 166) (v := nI 3) F dX3_read_165 (by decide) rfl ?_
    refine v_callV (pc' := 169) (rt := (some .boolean)) (mcc := 0) (msc := 0) (As := [.int (nI 3)]) (st := []) F (fun l => c_X3_pass G z0 l hlen (by omega) hbuf ht hrd (enT_b t hbs1).2 (by omega) (by omega)) gX3_read_X3_pass rfl hv_X3_pass (by decide) (by decide) hrd rfl rfl rfl (Nat.le_of_ble_eq_true rfl) (by omega) (by omega) dX3_read_166 rfl (fun v2 h1 hq => ?_)
    rcases hq with ⟨k2, rfl, r2, f2⟩ | ⟨k2, rfl, r2, f2⟩
    · refine w_if_eq (tgt := 176) (pc' := 172) F (by omega) dX3_read_169 (by decide) rfl (fun c0 => absurd c0 (by omega)) (fun _ => ?_)
      refine v_iconst (pc' := 173) (v := nI 1) F dX3_read_172 (by decide) rfl ?_
      refine v_goto (tgt := 177) F dX3_read_173 (by decide) ?_
      refine v_istore (pc' := 179) (i := 4) (L' := [(4, .int (nI 1)), (5, .int (nI i)), (3, .ref b), (2, .int (nI len)), (1, .ref buf), (0, .ref rd)]) F dX3_read_177  (by decide) rfl rfl ?_
      refine v_iinc (pc' := 182) (j := 1) (x := nI i) (v := nI (i + 1)) (L' := [(5, .int (nI (i + 1))), (4, .int (nI 1)), (3, .ref b), (2, .int (nI len)), (1, .ref buf), (0, .ref rd)]) F dX3_read_179 rfl (nI_add i 1) (by decide) rfl rfl ?_
      refine v_goto (tgt := 70) F dX3_read_182 (by decide) ?_
      refine v_sub (L' := [(5, .int (nI (i + 1))), (4, .int (nI 1)), (3, .ref b), (2, .int (nI len)), (1, .ref buf), (0, .ref rd)]) [0, 1, 2, 3, 4, 5] rfl ?_
      have g3 := f2 _ _ (gnc (Ne.symm (g_neA hrd hbuf)) gn0) hbuf
      exact KO _ s1 D1 ad9 as9 rfl k2 w9 (c9.fr hrd f2) hr9 ⟨(sk_b t (enT_b t hbs1).2).2, _, nuT_b t len _ hls1, fun z => kd2 z, r2⟩ g3 (gfr.t fr (gfr.mono f2 (by intro q9 z9 m9; apply z9; simp only [List.mem_cons, List.not_mem_nil, or_false] at m9 ⊢; omega)))
    · refine w_if_eq (tgt := 176) (pc' := 172) F (by omega) dX3_read_169 (by decide) rfl (fun _ => ?_) (fun c0 => absurd c0 (by omega))
      refine v_iconst (pc' := 177) (v := nI 0) F dX3_read_176 (by decide) rfl ?_
      refine v_istore (pc' := 179) (i := 4) (L' := [(4, .int (nI 0)), (5, .int (nI i)), (3, .ref b), (2, .int (nI len)), (1, .ref buf), (0, .ref rd)]) F dX3_read_177  (by decide) rfl rfl ?_
      refine v_iinc (pc' := 182) (j := 1) (x := nI i) (v := nI (i + 1)) (L' := [(5, .int (nI (i + 1))), (4, .int (nI 0)), (3, .ref b), (2, .int (nI len)), (1, .ref buf), (0, .ref rd)]) F dX3_read_179 rfl (nI_add i 1) (by decide) rfl rfl ?_
      refine v_goto (tgt := 70) F dX3_read_182 (by decide) ?_
      refine v_sub (L' := [(5, .int (nI (i + 1))), (4, .int (nI 0)), (3, .ref b), (2, .int (nI len)), (1, .ref buf), (0, .ref rd)]) [0, 1, 2, 3, 4, 5] rfl ?_
      exact KE _ (-2) s1 D1 ad9 as9 _ _ _ _ _ (Or.inr ⟨s1, rfl, k2, rfl, rfl, hbs1⟩) w9 (c9.fr hrd f2) hr9 hls1 r2 (gfr.t fr (gfr.mono f2 (by intro q9 z9 m9; apply z9; simp only [List.mem_cons, List.not_mem_nil, or_false] at m9 ⊢; omega)))
