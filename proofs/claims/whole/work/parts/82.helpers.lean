def exC (E : String) : Nat → List String → Nat
  | _, [] => 0
  | k, e :: es => if E = e then k else exC E (k + 1) es
theorem hv_X6_load : yX6_load.cls = RX6 ∧ yX6_load.cls ≠ "java/lang/invoke/MethodHandle" ∧ yX6_load.cls ≠ "java/lang/invoke/VarHandle" ∧ (parseMethodDescriptor yX6_load.desc).map (fun d => d.parameters.length) = some 1 := by decide +kernel
theorem m_L_load_c13 : Cond.classLink RL 13 "java/lang/IllegalArgumentException" ∈ wsL_load := by decide +kernel
set_option maxHeartbeats 4000000 in
set_option maxRecDepth 100000 in
theorem c_L_load (G : gG) (z0 : Nat) (l : Launch) (hst : l.stackTraces = false) {h : gH} {x out : Nat} (a0 : Int32) {xfs : List Value} {g : Nat → Int64} {postc : Option Value → gH → Prop} {postX : String → gH → Prop} (hx : h x = some (.inr (6, xfs))) (ho : h out = some (oL G 1 g)) (hC : ∀ l : Launch, l.stackTraces = false → gCX G z0 l yX6_load wsX6_load 9 195 [.ref x, .int a0] h postc postX 700 2100) (hK : ∀ v h', postc v h' → (∃ k : Int32, v = some (.int k)) ∧ h' out = some (oL G 1 g)) (hE : ∀ E h', postX E h' → E = "java/lang/IllegalArgumentException") : gCX G z0 l yL_load wsL_load 10 218 [.ref x, .int a0, .ref out] h (fun v h' => (∃ (k : Int32) (h1 : gH), postc (some (.int k)) h1 ∧ v = some (.int (nI 0)) ∧ ∃ g' : Nat → Int64, h' out = some (oL G 1 g') ∧ g' 0 = k.toInt64 ∧ gfr [out] h1 h') ∨ (∃ (E : String) (k : Nat), postX E h' ∧ v = some (.int (nI k)) ∧ exC E 1 ["java/lang/IllegalArgumentException"] = k)) (fun _ _ => False) 700 2100 := by
  refine gCXH_of hst (cc := cL_load) (nL := 4) (ret := (some .int)) (hh := [(0, 9, 12, 13)]) (by decide) rfl (Nat.le_of_ble_eq_true rfl) ?_
  intro X F E EH hXl
  change gF G z0 X cL_load 4 RL wsL_load (some .int) "load" 10 218 _ _ at F
  show gV G z0 X 0 0 h 0 [(0, .ref x), (1, .int a0), (2, .ref out)] []
  refine v_aload_n (pc' := 1) F dL_load_0 rfl (j := 2) rfl rfl ?_
  refine v_iconst (pc' := 2) (v := nI 0) F dL_load_1 (by decide) rfl ?_
  refine v_aload_n (pc' := 3) F dL_load_2 rfl (j := 0) rfl rfl ?_
  refine v_iload_n (pc' := 4) F dL_load_3 rfl (j := 1) rfl rfl ?_
  refine v_callVH (pc' := 7) (rt := (some .int)) (mcc := 700) (msc := 2100) (As := [.int a0]) (st := [.int (nI 0), .ref out]) F EH (fun l hst => hC l hst) gL_load_X6_load rfl hv_X6_load (by decide) (by decide) hx rfl rfl rfl (Nat.le_of_ble_eq_true rfl) (by omega) (by omega) dL_load_4 rfl (fun E9 h9 q9 hq => ?_) (fun v9 h9 hq => ?_)
  · rcases hE E9 h9 hq with rfl
    refine ⟨[], [], (0, 9, 12, 13), rfl, (fun z hz => absurd hz (by simp)), by decide, by decide, by decide, m_L_load_c13, by decide, ?_⟩
    show gV G z0 X (0 + 700) (0 + 2100) h9 12 [(0, .ref x), (1, .int a0), (2, .ref out)] [.ref q9]
    refine v_astore_n (pc' := 13) (i := 3) (L' := [(3, .ref q9), (0, .ref x), (1, .int a0), (2, .ref out)]) F dL_load_12 rfl (by decide) rfl rfl ?_
    refine v_iconst (pc' := 14) (v := nI 1) F dL_load_13 (by decide) rfl ?_
    exact v_iret F E (by omega) (by omega)  dL_load_14 (Or.inr ⟨_, 1, hq, rfl, by decide⟩)
  · obtain ⟨⟨k9, rfl⟩, ho9⟩ := hK v9 h9 hq
    show gV G z0 X (0 + 700) (0 + 2100) h9 7 [(0, .ref x), (1, .int a0), (2, .ref out)] [.int k9, .int (nI 0), .ref out]
    refine v_i2l (pc' := 8) (v := (k9).toInt64) F dL_load_7 rfl rfl ?_
    refine w_last (pc' := 9) F ho9 (by omega) (by omega) dL_load_8 rfl (fun h1 a2 f3 => ?_)
    refine v_goto (tgt := 15) F dL_load_9 (by decide) ?_
    refine v_iconst (pc' := 16) (v := nI 0) F dL_load_15 (by decide) rfl ?_
    have fr4 : gfr [out] h9 h1 := f3
    exact v_iret F E (by omega) (by omega)  dL_load_16 (Or.inl ⟨k9, h9, hq, rfl, _, a2, rfl, fr4⟩)
theorem hv_X6_state : yX6_state.cls = RX6 ∧ yX6_state.cls ≠ "java/lang/invoke/MethodHandle" ∧ yX6_state.cls ≠ "java/lang/invoke/VarHandle" ∧ (parseMethodDescriptor yX6_state.desc).map (fun d => d.parameters.length) = some 1 := by decide +kernel
theorem m_L_state_c13 : Cond.classLink RL 13 "java/lang/IllegalArgumentException" ∈ wsL_state := by decide +kernel
set_option maxHeartbeats 4000000 in
set_option maxRecDepth 100000 in
theorem c_L_state (G : gG) (z0 : Nat) (l : Launch) (hst : l.stackTraces = false) {h : gH} {x out : Nat} (a0 : Int32) {xfs : List Value} {g : Nat → Int64} {postc : Option Value → gH → Prop} {postX : String → gH → Prop} (hx : h x = some (.inr (6, xfs))) (ho : h out = some (oL G 1 g)) (hC : ∀ l : Launch, l.stackTraces = false → gCX G z0 l yX6_state wsX6_state 6 90 [.ref x, .int a0] h postc postX 1 6) (hK : ∀ v h', postc v h' → (∃ k : Int32, v = some (.int k)) ∧ h' out = some (oL G 1 g)) (hE : ∀ E h', postX E h' → E = "java/lang/IllegalArgumentException") : gCX G z0 l yL_state wsL_state 7 111 [.ref x, .int a0, .ref out] h (fun v h' => (∃ (k : Int32) (h1 : gH), postc (some (.int k)) h1 ∧ v = some (.int (nI 0)) ∧ ∃ g' : Nat → Int64, h' out = some (oL G 1 g') ∧ g' 0 = k.toInt64 ∧ gfr [out] h1 h') ∨ (∃ (E : String) (k : Nat), postX E h' ∧ v = some (.int (nI k)) ∧ exC E 1 ["java/lang/IllegalArgumentException"] = k)) (fun _ _ => False) 1 6 := by
  refine gCXH_of hst (cc := cL_state) (nL := 4) (ret := (some .int)) (hh := [(0, 9, 12, 13)]) (by decide) rfl (Nat.le_of_ble_eq_true rfl) ?_
  intro X F E EH hXl
  change gF G z0 X cL_state 4 RL wsL_state (some .int) "state" 7 111 _ _ at F
  show gV G z0 X 0 0 h 0 [(0, .ref x), (1, .int a0), (2, .ref out)] []
  refine v_aload_n (pc' := 1) F dL_state_0 rfl (j := 2) rfl rfl ?_
  refine v_iconst (pc' := 2) (v := nI 0) F dL_state_1 (by decide) rfl ?_
  refine v_aload_n (pc' := 3) F dL_state_2 rfl (j := 0) rfl rfl ?_
  refine v_iload_n (pc' := 4) F dL_state_3 rfl (j := 1) rfl rfl ?_
  refine v_callVH (pc' := 7) (rt := (some .int)) (mcc := 1) (msc := 6) (As := [.int a0]) (st := [.int (nI 0), .ref out]) F EH (fun l hst => hC l hst) gL_state_X6_state rfl hv_X6_state (by decide) (by decide) hx rfl rfl rfl (Nat.le_of_ble_eq_true rfl) (by omega) (by omega) dL_state_4 rfl (fun E9 h9 q9 hq => ?_) (fun v9 h9 hq => ?_)
  · rcases hE E9 h9 hq with rfl
    refine ⟨[], [], (0, 9, 12, 13), rfl, (fun z hz => absurd hz (by simp)), by decide, by decide, by decide, m_L_state_c13, by decide, ?_⟩
    show gV G z0 X (0 + 1) (0 + 6) h9 12 [(0, .ref x), (1, .int a0), (2, .ref out)] [.ref q9]
    refine v_astore_n (pc' := 13) (i := 3) (L' := [(3, .ref q9), (0, .ref x), (1, .int a0), (2, .ref out)]) F dL_state_12 rfl (by decide) rfl rfl ?_
    refine v_iconst (pc' := 14) (v := nI 1) F dL_state_13 (by decide) rfl ?_
    exact v_iret F E (by omega) (by omega)  dL_state_14 (Or.inr ⟨_, 1, hq, rfl, by decide⟩)
  · obtain ⟨⟨k9, rfl⟩, ho9⟩ := hK v9 h9 hq
    show gV G z0 X (0 + 1) (0 + 6) h9 7 [(0, .ref x), (1, .int a0), (2, .ref out)] [.int k9, .int (nI 0), .ref out]
    refine v_i2l (pc' := 8) (v := (k9).toInt64) F dL_state_7 rfl rfl ?_
    refine w_last (pc' := 9) F ho9 (by omega) (by omega) dL_state_8 rfl (fun h1 a2 f3 => ?_)
    refine v_goto (tgt := 15) F dL_state_9 (by decide) ?_
    refine v_iconst (pc' := 16) (v := nI 0) F dL_state_15 (by decide) rfl ?_
    have fr4 : gfr [out] h9 h1 := f3
    exact v_iret F E (by omega) (by omega)  dL_state_16 (Or.inl ⟨k9, h9, hq, rfl, _, a2, rfl, fr4⟩)
theorem hv_X6_version : yX6_version.cls = RX6 ∧ yX6_version.cls ≠ "java/lang/invoke/MethodHandle" ∧ yX6_version.cls ≠ "java/lang/invoke/VarHandle" ∧ (parseMethodDescriptor yX6_version.desc).map (fun d => d.parameters.length) = some 2 := by decide +kernel
theorem m_L_version_c22 : Cond.classLink RL 22 "java/lang/IndexOutOfBoundsException" ∈ wsL_version := by decide +kernel
theorem m_L_version_c13 : Cond.classLink RL 13 "java/lang/IllegalArgumentException" ∈ wsL_version := by decide +kernel
set_option maxHeartbeats 4000000 in
set_option maxRecDepth 100000 in
theorem c_L_version (G : gG) (z0 : Nat) (l : Launch) (hst : l.stackTraces = false) {h : gH} {x out : Nat} (a0 a1 : Int32) {xfs : List Value} {g : Nat → Int64} {postc : Option Value → gH → Prop} {postX : String → gH → Prop} (hx : h x = some (.inr (6, xfs))) (ho : h out = some (oL G 1 g)) (hC : ∀ l : Launch, l.stackTraces = false → gCX G z0 l yX6_version wsX6_version 7 112 [.ref x, .int a0, .int a1] h postc postX 2 12) (hK : ∀ v h', postc v h' → (∃ k : Int32, v = some (.int k)) ∧ h' out = some (oL G 1 g)) (hE : ∀ E h', postX E h' → E = "java/lang/IndexOutOfBoundsException" ∨ E = "java/lang/IllegalArgumentException") : gCX G z0 l yL_version wsL_version 8 134 [.ref x, .int a0, .int a1, .ref out] h (fun v h' => (∃ (k : Int32) (h1 : gH), postc (some (.int k)) h1 ∧ v = some (.int (nI 0)) ∧ ∃ g' : Nat → Int64, h' out = some (oL G 1 g') ∧ g' 0 = k.toInt64 ∧ gfr [out] h1 h') ∨ (∃ (E : String) (k : Nat), postX E h' ∧ v = some (.int (nI k)) ∧ exC E 1 ["java/lang/IndexOutOfBoundsException", "java/lang/IllegalArgumentException"] = k)) (fun _ _ => False) 2 12 := by
  refine gCXH_of hst (cc := cL_version) (nL := 5) (ret := (some .int)) (hh := [(0, 10, 13, 22), (0, 10, 17, 13)]) (by decide) rfl (Nat.le_of_ble_eq_true rfl) ?_
  intro X F E EH hXl
  change gF G z0 X cL_version 5 RL wsL_version (some .int) "version" 8 134 _ _ at F
  show gV G z0 X 0 0 h 0 [(0, .ref x), (1, .int a0), (2, .int a1), (3, .ref out)] []
  refine v_aload_n (pc' := 1) F dL_version_0 rfl (j := 3) rfl rfl ?_
  refine v_iconst (pc' := 2) (v := nI 0) F dL_version_1 (by decide) rfl ?_
  refine v_aload_n (pc' := 3) F dL_version_2 rfl (j := 0) rfl rfl ?_
  refine v_iload_n (pc' := 4) F dL_version_3 rfl (j := 1) rfl rfl ?_
  refine v_iload_n (pc' := 5) F dL_version_4 rfl (j := 2) rfl rfl ?_
  refine v_callVH (pc' := 8) (rt := (some .int)) (mcc := 2) (msc := 12) (As := [.int a0, .int a1]) (st := [.int (nI 0), .ref out]) F EH (fun l hst => hC l hst) gL_version_X6_version rfl hv_X6_version (by decide) (by decide) hx rfl rfl rfl (Nat.le_of_ble_eq_true rfl) (by omega) (by omega) dL_version_5 rfl (fun E9 h9 q9 hq => ?_) (fun v9 h9 hq => ?_)
  · rcases hE E9 h9 hq with rfl | rfl
    · refine ⟨[], [(0, 10, 17, 13)], (0, 10, 13, 22), rfl, (fun z hz => absurd hz (by simp)), by decide, by decide, by decide, m_L_version_c22, by decide, ?_⟩
      show gV G z0 X (0 + 2) (0 + 12) h9 13 [(0, .ref x), (1, .int a0), (2, .int a1), (3, .ref out)] [.ref q9]
      refine v_astore (pc' := 15) (i := 4) (L' := [(4, .ref q9), (0, .ref x), (1, .int a0), (2, .int a1), (3, .ref out)]) F dL_version_13  (by decide) rfl rfl ?_
      refine v_iconst (pc' := 16) (v := nI 1) F dL_version_15 (by decide) rfl ?_
      exact v_iret F E (by omega) (by omega)  dL_version_16 (Or.inr ⟨_, 1, hq, rfl, by decide⟩)
    · refine ⟨[(0, 10, 13, 22)], [], (0, 10, 17, 13), rfl, (fun z hz => by obtain rfl := List.mem_singleton.mp hz; exact ⟨by decide, _, m_L_version_c22, by decide⟩), by decide, by decide, by decide, m_L_version_c13, by decide, ?_⟩
      show gV G z0 X (0 + 2) (0 + 12) h9 17 [(0, .ref x), (1, .int a0), (2, .int a1), (3, .ref out)] [.ref q9]
      refine v_astore (pc' := 19) (i := 4) (L' := [(4, .ref q9), (0, .ref x), (1, .int a0), (2, .int a1), (3, .ref out)]) F dL_version_17  (by decide) rfl rfl ?_
      refine v_iconst (pc' := 20) (v := nI 2) F dL_version_19 (by decide) rfl ?_
      exact v_iret F E (by omega) (by omega)  dL_version_20 (Or.inr ⟨_, 2, hq, rfl, by decide⟩)
  · obtain ⟨⟨k9, rfl⟩, ho9⟩ := hK v9 h9 hq
    show gV G z0 X (0 + 2) (0 + 12) h9 8 [(0, .ref x), (1, .int a0), (2, .int a1), (3, .ref out)] [.int k9, .int (nI 0), .ref out]
    refine v_i2l (pc' := 9) (v := (k9).toInt64) F dL_version_8 rfl rfl ?_
    refine w_last (pc' := 10) F ho9 (by omega) (by omega) dL_version_9 rfl (fun h1 a2 f3 => ?_)
    refine v_goto (tgt := 21) F dL_version_10 (by decide) ?_
    refine v_iconst (pc' := 22) (v := nI 0) F dL_version_21 (by decide) rfl ?_
    have fr4 : gfr [out] h9 h1 := f3
    exact v_iret F E (by omega) (by omega)  dL_version_22 (Or.inl ⟨k9, h9, hq, rfl, _, a2, rfl, fr4⟩)
theorem hv_X6_value : yX6_value.cls = RX6 ∧ yX6_value.cls ≠ "java/lang/invoke/MethodHandle" ∧ yX6_value.cls ≠ "java/lang/invoke/VarHandle" ∧ (parseMethodDescriptor yX6_value.desc).map (fun d => d.parameters.length) = some 3 := by decide +kernel
theorem m_L_value_c22 : Cond.classLink RL 22 "java/lang/IndexOutOfBoundsException" ∈ wsL_value := by decide +kernel
theorem m_L_value_c13 : Cond.classLink RL 13 "java/lang/IllegalArgumentException" ∈ wsL_value := by decide +kernel
set_option maxHeartbeats 4000000 in
set_option maxRecDepth 100000 in
theorem c_L_value (G : gG) (z0 : Nat) (l : Launch) (hst : l.stackTraces = false) {h : gH} {x out : Nat} (a0 a1 a2 : Int32) {xfs : List Value} {g : Nat → Int64} {postc : Option Value → gH → Prop} {postX : String → gH → Prop} (hx : h x = some (.inr (6, xfs))) (ho : h out = some (oL G 1 g)) (hC : ∀ l : Launch, l.stackTraces = false → gCX G z0 l yX6_value wsX6_value 7 112 [.ref x, .int a0, .int a1, .int a2] h postc postX 2 12) (hK : ∀ v h', postc v h' → (∃ k : Int32, v = some (.int k)) ∧ h' out = some (oL G 1 g)) (hE : ∀ E h', postX E h' → E = "java/lang/IndexOutOfBoundsException" ∨ E = "java/lang/IllegalArgumentException") : gCX G z0 l yL_value wsL_value 8 137 [.ref x, .int a0, .int a1, .int a2, .ref out] h (fun v h' => (∃ (k : Int32) (h1 : gH), postc (some (.int k)) h1 ∧ v = some (.int (nI 0)) ∧ ∃ g' : Nat → Int64, h' out = some (oL G 1 g') ∧ g' 0 = k.toInt64 ∧ gfr [out] h1 h') ∨ (∃ (E : String) (k : Nat), postX E h' ∧ v = some (.int (nI k)) ∧ exC E 1 ["java/lang/IndexOutOfBoundsException", "java/lang/IllegalArgumentException"] = k)) (fun _ _ => False) 2 12 := by
  refine gCXH_of hst (cc := cL_value) (nL := 6) (ret := (some .int)) (hh := [(0, 12, 15, 22), (0, 12, 19, 13)]) (by decide) rfl (Nat.le_of_ble_eq_true rfl) ?_
  intro X F E EH hXl
  change gF G z0 X cL_value 6 RL wsL_value (some .int) "value" 8 137 _ _ at F
  show gV G z0 X 0 0 h 0 [(0, .ref x), (1, .int a0), (2, .int a1), (3, .int a2), (4, .ref out)] []
  refine v_aload (pc' := 2) F dL_value_0  (j := 4) rfl rfl ?_
  refine v_iconst (pc' := 3) (v := nI 0) F dL_value_2 (by decide) rfl ?_
  refine v_aload_n (pc' := 4) F dL_value_3 rfl (j := 0) rfl rfl ?_
  refine v_iload_n (pc' := 5) F dL_value_4 rfl (j := 1) rfl rfl ?_
  refine v_iload_n (pc' := 6) F dL_value_5 rfl (j := 2) rfl rfl ?_
  refine v_iload_n (pc' := 7) F dL_value_6 rfl (j := 3) rfl rfl ?_
  refine v_callVH (pc' := 10) (rt := (some .int)) (mcc := 2) (msc := 12) (As := [.int a0, .int a1, .int a2]) (st := [.int (nI 0), .ref out]) F EH (fun l hst => hC l hst) gL_value_X6_value rfl hv_X6_value (by decide) (by decide) hx rfl rfl rfl (Nat.le_of_ble_eq_true rfl) (by omega) (by omega) dL_value_7 rfl (fun E9 h9 q9 hq => ?_) (fun v9 h9 hq => ?_)
  · rcases hE E9 h9 hq with rfl | rfl
    · refine ⟨[], [(0, 12, 19, 13)], (0, 12, 15, 22), rfl, (fun z hz => absurd hz (by simp)), by decide, by decide, by decide, m_L_value_c22, by decide, ?_⟩
      show gV G z0 X (0 + 2) (0 + 12) h9 15 [(0, .ref x), (1, .int a0), (2, .int a1), (3, .int a2), (4, .ref out)] [.ref q9]
      refine v_astore (pc' := 17) (i := 5) (L' := [(5, .ref q9), (0, .ref x), (1, .int a0), (2, .int a1), (3, .int a2), (4, .ref out)]) F dL_value_15  (by decide) rfl rfl ?_
      refine v_iconst (pc' := 18) (v := nI 1) F dL_value_17 (by decide) rfl ?_
      exact v_iret F E (by omega) (by omega)  dL_value_18 (Or.inr ⟨_, 1, hq, rfl, by decide⟩)
    · refine ⟨[(0, 12, 15, 22)], [], (0, 12, 19, 13), rfl, (fun z hz => by obtain rfl := List.mem_singleton.mp hz; exact ⟨by decide, _, m_L_value_c22, by decide⟩), by decide, by decide, by decide, m_L_value_c13, by decide, ?_⟩
      show gV G z0 X (0 + 2) (0 + 12) h9 19 [(0, .ref x), (1, .int a0), (2, .int a1), (3, .int a2), (4, .ref out)] [.ref q9]
      refine v_astore (pc' := 21) (i := 5) (L' := [(5, .ref q9), (0, .ref x), (1, .int a0), (2, .int a1), (3, .int a2), (4, .ref out)]) F dL_value_19  (by decide) rfl rfl ?_
      refine v_iconst (pc' := 22) (v := nI 2) F dL_value_21 (by decide) rfl ?_
      exact v_iret F E (by omega) (by omega)  dL_value_22 (Or.inr ⟨_, 2, hq, rfl, by decide⟩)
  · obtain ⟨⟨k9, rfl⟩, ho9⟩ := hK v9 h9 hq
    show gV G z0 X (0 + 2) (0 + 12) h9 10 [(0, .ref x), (1, .int a0), (2, .int a1), (3, .int a2), (4, .ref out)] [.int k9, .int (nI 0), .ref out]
    refine v_i2l (pc' := 11) (v := (k9).toInt64) F dL_value_10 rfl rfl ?_
    refine w_last (pc' := 12) F ho9 (by omega) (by omega) dL_value_11 rfl (fun h1 a2 f3 => ?_)
    refine v_goto (tgt := 23) F dL_value_12 (by decide) ?_
    refine v_iconst (pc' := 24) (v := nI 0) F dL_value_23 (by decide) rfl ?_
    have fr4 : gfr [out] h9 h1 := f3
    exact v_iret F E (by omega) (by omega)  dL_value_24 (Or.inl ⟨k9, h9, hq, rfl, _, a2, rfl, fr4⟩)
theorem hv_X6_first : yX6_first.cls = RX6 ∧ yX6_first.cls ≠ "java/lang/invoke/MethodHandle" ∧ yX6_first.cls ≠ "java/lang/invoke/VarHandle" ∧ (parseMethodDescriptor yX6_first.desc).map (fun d => d.parameters.length) = some 1 := by decide +kernel
theorem m_L_first_c22 : Cond.classLink RL 22 "java/lang/IndexOutOfBoundsException" ∈ wsL_first := by decide +kernel
theorem m_L_first_c31 : Cond.classLink RL 31 "java/util/NoSuchElementException" ∈ wsL_first := by decide +kernel
set_option maxHeartbeats 4000000 in
set_option maxRecDepth 100000 in
theorem c_L_first (G : gG) (z0 : Nat) (l : Launch) (hst : l.stackTraces = false) {h : gH} {x out : Nat} (a0 : Int32) {xfs : List Value} {g : Nat → Int64} {postc : Option Value → gH → Prop} {postX : String → gH → Prop} (hx : h x = some (.inr (6, xfs))) (ho : h out = some (oL G 1 g)) (hC : ∀ l : Launch, l.stackTraces = false → gCX G z0 l yX6_first wsX6_first 7 112 [.ref x, .int a0] h postc postX 2 12) (hK : ∀ v h', postc v h' → (∃ k : Int32, v = some (.int k)) ∧ h' out = some (oL G 1 g)) (hE : ∀ E h', postX E h' → E = "java/lang/IndexOutOfBoundsException" ∨ E = "java/util/NoSuchElementException") : gCX G z0 l yL_first wsL_first 8 134 [.ref x, .int a0, .ref out] h (fun v h' => (∃ (k : Int32) (h1 : gH), postc (some (.int k)) h1 ∧ v = some (.int (nI 0)) ∧ ∃ g' : Nat → Int64, h' out = some (oL G 1 g') ∧ g' 0 = k.toInt64 ∧ gfr [out] h1 h') ∨ (∃ (E : String) (k : Nat), postX E h' ∧ v = some (.int (nI k)) ∧ exC E 1 ["java/lang/IndexOutOfBoundsException", "java/util/NoSuchElementException"] = k)) (fun _ _ => False) 2 12 := by
  refine gCXH_of hst (cc := cL_first) (nL := 4) (ret := (some .int)) (hh := [(0, 9, 12, 22), (0, 9, 15, 31)]) (by decide) rfl (Nat.le_of_ble_eq_true rfl) ?_
  intro X F E EH hXl
  change gF G z0 X cL_first 4 RL wsL_first (some .int) "first" 8 134 _ _ at F
  show gV G z0 X 0 0 h 0 [(0, .ref x), (1, .int a0), (2, .ref out)] []
  refine v_aload_n (pc' := 1) F dL_first_0 rfl (j := 2) rfl rfl ?_
  refine v_iconst (pc' := 2) (v := nI 0) F dL_first_1 (by decide) rfl ?_
  refine v_aload_n (pc' := 3) F dL_first_2 rfl (j := 0) rfl rfl ?_
  refine v_iload_n (pc' := 4) F dL_first_3 rfl (j := 1) rfl rfl ?_
  refine v_callVH (pc' := 7) (rt := (some .int)) (mcc := 2) (msc := 12) (As := [.int a0]) (st := [.int (nI 0), .ref out]) F EH (fun l hst => hC l hst) gL_first_X6_first rfl hv_X6_first (by decide) (by decide) hx rfl rfl rfl (Nat.le_of_ble_eq_true rfl) (by omega) (by omega) dL_first_4 rfl (fun E9 h9 q9 hq => ?_) (fun v9 h9 hq => ?_)
  · rcases hE E9 h9 hq with rfl | rfl
    · refine ⟨[], [(0, 9, 15, 31)], (0, 9, 12, 22), rfl, (fun z hz => absurd hz (by simp)), by decide, by decide, by decide, m_L_first_c22, by decide, ?_⟩
      show gV G z0 X (0 + 2) (0 + 12) h9 12 [(0, .ref x), (1, .int a0), (2, .ref out)] [.ref q9]
      refine v_astore_n (pc' := 13) (i := 3) (L' := [(3, .ref q9), (0, .ref x), (1, .int a0), (2, .ref out)]) F dL_first_12 rfl (by decide) rfl rfl ?_
      refine v_iconst (pc' := 14) (v := nI 1) F dL_first_13 (by decide) rfl ?_
      exact v_iret F E (by omega) (by omega)  dL_first_14 (Or.inr ⟨_, 1, hq, rfl, by decide⟩)
    · refine ⟨[(0, 9, 12, 22)], [], (0, 9, 15, 31), rfl, (fun z hz => by obtain rfl := List.mem_singleton.mp hz; exact ⟨by decide, _, m_L_first_c22, by decide⟩), by decide, by decide, by decide, m_L_first_c31, by decide, ?_⟩
      show gV G z0 X (0 + 2) (0 + 12) h9 15 [(0, .ref x), (1, .int a0), (2, .ref out)] [.ref q9]
      refine v_astore_n (pc' := 16) (i := 3) (L' := [(3, .ref q9), (0, .ref x), (1, .int a0), (2, .ref out)]) F dL_first_15 rfl (by decide) rfl rfl ?_
      refine v_iconst (pc' := 17) (v := nI 2) F dL_first_16 (by decide) rfl ?_
      exact v_iret F E (by omega) (by omega)  dL_first_17 (Or.inr ⟨_, 2, hq, rfl, by decide⟩)
  · obtain ⟨⟨k9, rfl⟩, ho9⟩ := hK v9 h9 hq
    show gV G z0 X (0 + 2) (0 + 12) h9 7 [(0, .ref x), (1, .int a0), (2, .ref out)] [.int k9, .int (nI 0), .ref out]
    refine v_i2l (pc' := 8) (v := (k9).toInt64) F dL_first_7 rfl rfl ?_
    refine w_last (pc' := 9) F ho9 (by omega) (by omega) dL_first_8 rfl (fun h1 a2 f3 => ?_)
    refine v_goto (tgt := 18) F dL_first_9 (by decide) ?_
    refine v_iconst (pc' := 19) (v := nI 0) F dL_first_18 (by decide) rfl ?_
    have fr4 : gfr [out] h9 h1 := f3
    exact v_iret F E (by omega) (by omega)  dL_first_19 (Or.inl ⟨k9, h9, hq, rfl, _, a2, rfl, fr4⟩)
theorem hv_X6_find : yX6_find.cls = RX6 ∧ yX6_find.cls ≠ "java/lang/invoke/MethodHandle" ∧ yX6_find.cls ≠ "java/lang/invoke/VarHandle" ∧ (parseMethodDescriptor yX6_find.desc).map (fun d => d.parameters.length) = some 2 := by decide +kernel
theorem m_L_find_c22 : Cond.classLink RL 22 "java/lang/IndexOutOfBoundsException" ∈ wsL_find := by decide +kernel
set_option maxHeartbeats 4000000 in
set_option maxRecDepth 100000 in
theorem c_L_find (G : gG) (z0 : Nat) (l : Launch) (hst : l.stackTraces = false) {h : gH} {x out : Nat} (a0 a1 : Int32) {xfs : List Value} {g : Nat → Int64} {postc : Option Value → gH → Prop} {postX : String → gH → Prop} (hx : h x = some (.inr (6, xfs))) (ho : h out = some (oL G 1 g)) (hC : ∀ l : Launch, l.stackTraces = false → gCX G z0 l yX6_find wsX6_find 7 112 [.ref x, .int a0, .int a1] h postc postX 1 6) (hK : ∀ v h', postc v h' → (∃ k : Int32, v = some (.int k)) ∧ h' out = some (oL G 1 g)) (hE : ∀ E h', postX E h' → E = "java/lang/IndexOutOfBoundsException") : gCX G z0 l yL_find wsL_find 8 136 [.ref x, .int a0, .int a1, .ref out] h (fun v h' => (∃ (k : Int32) (h1 : gH), postc (some (.int k)) h1 ∧ v = some (.int (nI 0)) ∧ ∃ g' : Nat → Int64, h' out = some (oL G 1 g') ∧ g' 0 = k.toInt64 ∧ gfr [out] h1 h') ∨ (∃ (E : String) (k : Nat), postX E h' ∧ v = some (.int (nI k)) ∧ exC E 1 ["java/lang/IndexOutOfBoundsException"] = k)) (fun _ _ => False) 1 6 := by
  refine gCXH_of hst (cc := cL_find) (nL := 5) (ret := (some .int)) (hh := [(0, 10, 13, 22)]) (by decide) rfl (Nat.le_of_ble_eq_true rfl) ?_
  intro X F E EH hXl
  change gF G z0 X cL_find 5 RL wsL_find (some .int) "find" 8 136 _ _ at F
  show gV G z0 X 0 0 h 0 [(0, .ref x), (1, .int a0), (2, .int a1), (3, .ref out)] []
  refine v_aload_n (pc' := 1) F dL_find_0 rfl (j := 3) rfl rfl ?_
  refine v_iconst (pc' := 2) (v := nI 0) F dL_find_1 (by decide) rfl ?_
  refine v_aload_n (pc' := 3) F dL_find_2 rfl (j := 0) rfl rfl ?_
  refine v_iload_n (pc' := 4) F dL_find_3 rfl (j := 1) rfl rfl ?_
  refine v_iload_n (pc' := 5) F dL_find_4 rfl (j := 2) rfl rfl ?_
  refine v_callVH (pc' := 8) (rt := (some .int)) (mcc := 1) (msc := 6) (As := [.int a0, .int a1]) (st := [.int (nI 0), .ref out]) F EH (fun l hst => hC l hst) gL_find_X6_find rfl hv_X6_find (by decide) (by decide) hx rfl rfl rfl (Nat.le_of_ble_eq_true rfl) (by omega) (by omega) dL_find_5 rfl (fun E9 h9 q9 hq => ?_) (fun v9 h9 hq => ?_)
  · rcases hE E9 h9 hq with rfl
    refine ⟨[], [], (0, 10, 13, 22), rfl, (fun z hz => absurd hz (by simp)), by decide, by decide, by decide, m_L_find_c22, by decide, ?_⟩
    show gV G z0 X (0 + 1) (0 + 6) h9 13 [(0, .ref x), (1, .int a0), (2, .int a1), (3, .ref out)] [.ref q9]
    refine v_astore (pc' := 15) (i := 4) (L' := [(4, .ref q9), (0, .ref x), (1, .int a0), (2, .int a1), (3, .ref out)]) F dL_find_13  (by decide) rfl rfl ?_
    refine v_iconst (pc' := 16) (v := nI 1) F dL_find_15 (by decide) rfl ?_
    exact v_iret F E (by omega) (by omega)  dL_find_16 (Or.inr ⟨_, 1, hq, rfl, by decide⟩)
  · obtain ⟨⟨k9, rfl⟩, ho9⟩ := hK v9 h9 hq
    show gV G z0 X (0 + 1) (0 + 6) h9 8 [(0, .ref x), (1, .int a0), (2, .int a1), (3, .ref out)] [.int k9, .int (nI 0), .ref out]
    refine v_i2l (pc' := 9) (v := (k9).toInt64) F dL_find_8 rfl rfl ?_
    refine w_last (pc' := 10) F ho9 (by omega) (by omega) dL_find_9 rfl (fun h1 a2 f3 => ?_)
    refine v_goto (tgt := 17) F dL_find_10 (by decide) ?_
    refine v_iconst (pc' := 18) (v := nI 0) F dL_find_17 (by decide) rfl ?_
    have fr4 : gfr [out] h9 h1 := f3
    exact v_iret F E (by omega) (by omega)  dL_find_18 (Or.inl ⟨k9, h9, hq, rfl, _, a2, rfl, fr4⟩)
theorem hv_X6_alike : yX6_alike.cls = RX6 ∧ yX6_alike.cls ≠ "java/lang/invoke/MethodHandle" ∧ yX6_alike.cls ≠ "java/lang/invoke/VarHandle" ∧ (parseMethodDescriptor yX6_alike.desc).map (fun d => d.parameters.length) = some 2 := by decide +kernel
theorem m_L_alike_c22 : Cond.classLink RL 22 "java/lang/IndexOutOfBoundsException" ∈ wsL_alike := by decide +kernel
set_option maxHeartbeats 4000000 in
set_option maxRecDepth 100000 in
theorem c_L_alike (G : gG) (z0 : Nat) (l : Launch) (hst : l.stackTraces = false) {h : gH} {x out : Nat} (a0 a1 : Int32) {xfs : List Value} {g : Nat → Int64} {postc : Option Value → gH → Prop} {postX : String → gH → Prop} (hx : h x = some (.inr (6, xfs))) (ho : h out = some (oL G 1 g)) (hC : ∀ l : Launch, l.stackTraces = false → gCX G z0 l yX6_alike wsX6_alike 7 112 [.ref x, .int a0, .int a1] h postc postX 2 12) (hK : ∀ v h', postc v h' → (∃ k : Int32, v = some (.int k)) ∧ h' out = some (oL G 1 g)) (hE : ∀ E h', postX E h' → E = "java/lang/IndexOutOfBoundsException") (hB9 : ∀ k h', postc (some (.int k)) h' → k = 0 ∨ k = 1) : gCX G z0 l yL_alike wsL_alike 8 136 [.ref x, .int a0, .int a1, .ref out] h (fun v h' => (∃ (k : Int32) (h1 : gH), postc (some (.int k)) h1 ∧ v = some (.int (nI 0)) ∧ ∃ g' : Nat → Int64, h' out = some (oL G 1 g') ∧ g' 0 = k.toInt64 ∧ gfr [out] h1 h') ∨ (∃ (E : String) (k : Nat), postX E h' ∧ v = some (.int (nI k)) ∧ exC E 1 ["java/lang/IndexOutOfBoundsException"] = k)) (fun _ _ => False) 2 12 := by
  refine gCXH_of hst (cc := cL_alike) (nL := 5) (ret := (some .int)) (hh := [(0, 17, 20, 22)]) (by decide) rfl (Nat.le_of_ble_eq_true rfl) ?_
  intro X F E EH hXl
  change gF G z0 X cL_alike 5 RL wsL_alike (some .int) "alike" 8 136 _ _ at F
  show gV G z0 X 0 0 h 0 [(0, .ref x), (1, .int a0), (2, .int a1), (3, .ref out)] []
  refine v_aload_n (pc' := 1) F dL_alike_0 rfl (j := 3) rfl rfl ?_
  refine v_iconst (pc' := 2) (v := nI 0) F dL_alike_1 (by decide) rfl ?_
  refine v_aload_n (pc' := 3) F dL_alike_2 rfl (j := 0) rfl rfl ?_
  refine v_iload_n (pc' := 4) F dL_alike_3 rfl (j := 1) rfl rfl ?_
  refine v_iload_n (pc' := 5) F dL_alike_4 rfl (j := 2) rfl rfl ?_
  refine v_callVH (pc' := 8) (rt := (some .boolean)) (mcc := 2) (msc := 12) (As := [.int a0, .int a1]) (st := [.int (nI 0), .ref out]) F EH (fun l hst => hC l hst) gL_alike_X6_alike rfl hv_X6_alike (by decide) (by decide) hx rfl rfl rfl (Nat.le_of_ble_eq_true rfl) (by omega) (by omega) dL_alike_5 rfl (fun E9 h9 q9 hq => ?_) (fun v9 h9 hq => ?_)
  · rcases hE E9 h9 hq with rfl
    refine ⟨[], [], (0, 17, 20, 22), rfl, (fun z hz => absurd hz (by simp)), by decide, by decide, by decide, m_L_alike_c22, by decide, ?_⟩
    show gV G z0 X (0 + 2) (0 + 12) h9 20 [(0, .ref x), (1, .int a0), (2, .int a1), (3, .ref out)] [.ref q9]
    refine v_astore (pc' := 22) (i := 4) (L' := [(4, .ref q9), (0, .ref x), (1, .int a0), (2, .int a1), (3, .ref out)]) F dL_alike_20  (by decide) rfl rfl ?_
    refine v_iconst (pc' := 23) (v := nI 1) F dL_alike_22 (by decide) rfl ?_
    exact v_iret F E (by omega) (by omega)  dL_alike_23 (Or.inr ⟨_, 1, hq, rfl, by decide⟩)
  · obtain ⟨⟨k9, rfl⟩, ho9⟩ := hK v9 h9 hq
    show gV G z0 X (0 + 2) (0 + 12) h9 8 [(0, .ref x), (1, .int a0), (2, .int a1), (3, .ref out)] [.int k9, .int (nI 0), .ref out]
    refine v_if_eq (tgt := 15) (pc' := 11) F dL_alike_8 (by decide) rfl (fun c0 => ?_) (fun c0 => ?_)
    · refine v_lconst (pc' := 16) (v := 0) F dL_alike_15 (by decide) rfl ?_
      refine w_last (pc' := 17) F ho9 (by omega) (by omega) dL_alike_16 rfl (fun h1 a2 f3 => ?_)
      refine v_goto (tgt := 24) F dL_alike_17 (by decide) ?_
      refine v_iconst (pc' := 25) (v := nI 0) F dL_alike_24 (by decide) rfl ?_
      have fr4 : gfr [out] h9 h1 := f3
      exact v_iret F E (by omega) (by omega)  dL_alike_25 (Or.inl ⟨k9, h9, hq, rfl, _, a2, by rw [c0]; rfl, fr4⟩)
    · refine v_lconst (pc' := 12) (v := 1) F dL_alike_11 (by decide) rfl ?_
      refine v_goto (tgt := 16) F dL_alike_12 (by decide) ?_
      refine w_last (pc' := 17) F ho9 (by omega) (by omega) dL_alike_16 rfl (fun h5 a6 f7 => ?_)
      refine v_goto (tgt := 24) F dL_alike_17 (by decide) ?_
      refine v_iconst (pc' := 25) (v := nI 0) F dL_alike_24 (by decide) rfl ?_
      have fr8 : gfr [out] h9 h5 := f7
      exact v_iret F E (by omega) (by omega)  dL_alike_25 (Or.inl ⟨k9, h9, hq, rfl, _, a6, by rcases hB9 k9 h9 hq with z | z; exact absurd z c0; rw [z]; rfl, fr8⟩)
theorem hv_X6_common : yX6_common.cls = RX6 ∧ yX6_common.cls ≠ "java/lang/invoke/MethodHandle" ∧ yX6_common.cls ≠ "java/lang/invoke/VarHandle" ∧ (parseMethodDescriptor yX6_common.desc).map (fun d => d.parameters.length) = some 2 := by decide +kernel
theorem m_L_common_c22 : Cond.classLink RL 22 "java/lang/IndexOutOfBoundsException" ∈ wsL_common := by decide +kernel
set_option maxHeartbeats 4000000 in
set_option maxRecDepth 100000 in
theorem c_L_common (G : gG) (z0 : Nat) (l : Launch) (hst : l.stackTraces = false) {h : gH} {x out : Nat} (a0 a1 : Int32) {xfs : List Value} {g : Nat → Int64} {postc : Option Value → gH → Prop} {postX : String → gH → Prop} (hx : h x = some (.inr (6, xfs))) (ho : h out = some (oL G 1 g)) (hC : ∀ l : Launch, l.stackTraces = false → gCX G z0 l yX6_common wsX6_common 7 112 [.ref x, .int a0, .int a1] h postc postX 2 12) (hK : ∀ v h', postc v h' → (∃ k : Int32, v = some (.int k)) ∧ h' out = some (oL G 1 g)) (hE : ∀ E h', postX E h' → E = "java/lang/IndexOutOfBoundsException") : gCX G z0 l yL_common wsL_common 8 137 [.ref x, .int a0, .int a1, .ref out] h (fun v h' => (∃ (k : Int32) (h1 : gH), postc (some (.int k)) h1 ∧ v = some (.int (nI 0)) ∧ ∃ g' : Nat → Int64, h' out = some (oL G 1 g') ∧ g' 0 = k.toInt64 ∧ gfr [out] h1 h') ∨ (∃ (E : String) (k : Nat), postX E h' ∧ v = some (.int (nI k)) ∧ exC E 1 ["java/lang/IndexOutOfBoundsException"] = k)) (fun _ _ => False) 2 12 := by
  refine gCXH_of hst (cc := cL_common) (nL := 5) (ret := (some .int)) (hh := [(0, 10, 13, 22)]) (by decide) rfl (Nat.le_of_ble_eq_true rfl) ?_
  intro X F E EH hXl
  change gF G z0 X cL_common 5 RL wsL_common (some .int) "common" 8 137 _ _ at F
  show gV G z0 X 0 0 h 0 [(0, .ref x), (1, .int a0), (2, .int a1), (3, .ref out)] []
  refine v_aload_n (pc' := 1) F dL_common_0 rfl (j := 3) rfl rfl ?_
  refine v_iconst (pc' := 2) (v := nI 0) F dL_common_1 (by decide) rfl ?_
  refine v_aload_n (pc' := 3) F dL_common_2 rfl (j := 0) rfl rfl ?_
  refine v_iload_n (pc' := 4) F dL_common_3 rfl (j := 1) rfl rfl ?_
  refine v_iload_n (pc' := 5) F dL_common_4 rfl (j := 2) rfl rfl ?_
  refine v_callVH (pc' := 8) (rt := (some .int)) (mcc := 2) (msc := 12) (As := [.int a0, .int a1]) (st := [.int (nI 0), .ref out]) F EH (fun l hst => hC l hst) gL_common_X6_common rfl hv_X6_common (by decide) (by decide) hx rfl rfl rfl (Nat.le_of_ble_eq_true rfl) (by omega) (by omega) dL_common_5 rfl (fun E9 h9 q9 hq => ?_) (fun v9 h9 hq => ?_)
  · rcases hE E9 h9 hq with rfl
    refine ⟨[], [], (0, 10, 13, 22), rfl, (fun z hz => absurd hz (by simp)), by decide, by decide, by decide, m_L_common_c22, by decide, ?_⟩
    show gV G z0 X (0 + 2) (0 + 12) h9 13 [(0, .ref x), (1, .int a0), (2, .int a1), (3, .ref out)] [.ref q9]
    refine v_astore (pc' := 15) (i := 4) (L' := [(4, .ref q9), (0, .ref x), (1, .int a0), (2, .int a1), (3, .ref out)]) F dL_common_13  (by decide) rfl rfl ?_
    refine v_iconst (pc' := 16) (v := nI 1) F dL_common_15 (by decide) rfl ?_
    exact v_iret F E (by omega) (by omega)  dL_common_16 (Or.inr ⟨_, 1, hq, rfl, by decide⟩)
  · obtain ⟨⟨k9, rfl⟩, ho9⟩ := hK v9 h9 hq
    show gV G z0 X (0 + 2) (0 + 12) h9 8 [(0, .ref x), (1, .int a0), (2, .int a1), (3, .ref out)] [.int k9, .int (nI 0), .ref out]
    refine v_i2l (pc' := 9) (v := (k9).toInt64) F dL_common_8 rfl rfl ?_
    refine w_last (pc' := 10) F ho9 (by omega) (by omega) dL_common_9 rfl (fun h1 a2 f3 => ?_)
    refine v_goto (tgt := 17) F dL_common_10 (by decide) ?_
    refine v_iconst (pc' := 18) (v := nI 0) F dL_common_17 (by decide) rfl ?_
    have fr4 : gfr [out] h9 h1 := f3
    exact v_iret F E (by omega) (by omega)  dL_common_18 (Or.inl ⟨k9, h9, hq, rfl, _, a2, rfl, fr4⟩)
theorem hv_X6_work : yX6_work.cls = RX6 ∧ yX6_work.cls ≠ "java/lang/invoke/MethodHandle" ∧ yX6_work.cls ≠ "java/lang/invoke/VarHandle" ∧ (parseMethodDescriptor yX6_work.desc).map (fun d => d.parameters.length) = some 2 := by decide +kernel
theorem m_L_work_c22 : Cond.classLink RL 22 "java/lang/IndexOutOfBoundsException" ∈ wsL_work := by decide +kernel
theorem m_L_work_c13 : Cond.classLink RL 13 "java/lang/IllegalArgumentException" ∈ wsL_work := by decide +kernel
set_option maxHeartbeats 4000000 in
set_option maxRecDepth 100000 in
theorem c_L_work (G : gG) (z0 : Nat) (l : Launch) (hst : l.stackTraces = false) {h : gH} {x out : Nat} (a0 a1 : Int32) {xfs : List Value} {g : Nat → Int64} {postc : Option Value → gH → Prop} {postX : String → gH → Prop} (hx : h x = some (.inr (6, xfs))) (ho : h out = some (oL G 1 g)) (hC : ∀ l : Launch, l.stackTraces = false → gCX G z0 l yX6_work wsX6_work 7 112 [.ref x, .int a0, .int a1] h postc postX 2 12) (hK : ∀ v h', postc v h' → (∃ k : Int32, v = some (.int k)) ∧ h' out = some (oL G 1 g)) (hE : ∀ E h', postX E h' → E = "java/lang/IndexOutOfBoundsException" ∨ E = "java/lang/IllegalArgumentException") : gCX G z0 l yL_work wsL_work 8 135 [.ref x, .int a0, .int a1, .ref out] h (fun v h' => (∃ (k : Int32) (h1 : gH), postc (some (.int k)) h1 ∧ v = some (.int (nI 0)) ∧ ∃ g' : Nat → Int64, h' out = some (oL G 1 g') ∧ g' 0 = k.toInt64 ∧ gfr [out] h1 h') ∨ (∃ (E : String) (k : Nat), postX E h' ∧ v = some (.int (nI k)) ∧ exC E 1 ["java/lang/IndexOutOfBoundsException", "java/lang/IllegalArgumentException"] = k)) (fun _ _ => False) 2 12 := by
  refine gCXH_of hst (cc := cL_work) (nL := 5) (ret := (some .int)) (hh := [(0, 10, 13, 22), (0, 10, 17, 13)]) (by decide) rfl (Nat.le_of_ble_eq_true rfl) ?_
  intro X F E EH hXl
  change gF G z0 X cL_work 5 RL wsL_work (some .int) "work" 8 135 _ _ at F
  show gV G z0 X 0 0 h 0 [(0, .ref x), (1, .int a0), (2, .int a1), (3, .ref out)] []
  refine v_aload_n (pc' := 1) F dL_work_0 rfl (j := 3) rfl rfl ?_
  refine v_iconst (pc' := 2) (v := nI 0) F dL_work_1 (by decide) rfl ?_
  refine v_aload_n (pc' := 3) F dL_work_2 rfl (j := 0) rfl rfl ?_
  refine v_iload_n (pc' := 4) F dL_work_3 rfl (j := 1) rfl rfl ?_
  refine v_iload_n (pc' := 5) F dL_work_4 rfl (j := 2) rfl rfl ?_
  refine v_callVH (pc' := 8) (rt := (some .int)) (mcc := 2) (msc := 12) (As := [.int a0, .int a1]) (st := [.int (nI 0), .ref out]) F EH (fun l hst => hC l hst) gL_work_X6_work rfl hv_X6_work (by decide) (by decide) hx rfl rfl rfl (Nat.le_of_ble_eq_true rfl) (by omega) (by omega) dL_work_5 rfl (fun E9 h9 q9 hq => ?_) (fun v9 h9 hq => ?_)
  · rcases hE E9 h9 hq with rfl | rfl
    · refine ⟨[], [(0, 10, 17, 13)], (0, 10, 13, 22), rfl, (fun z hz => absurd hz (by simp)), by decide, by decide, by decide, m_L_work_c22, by decide, ?_⟩
      show gV G z0 X (0 + 2) (0 + 12) h9 13 [(0, .ref x), (1, .int a0), (2, .int a1), (3, .ref out)] [.ref q9]
      refine v_astore (pc' := 15) (i := 4) (L' := [(4, .ref q9), (0, .ref x), (1, .int a0), (2, .int a1), (3, .ref out)]) F dL_work_13  (by decide) rfl rfl ?_
      refine v_iconst (pc' := 16) (v := nI 1) F dL_work_15 (by decide) rfl ?_
      exact v_iret F E (by omega) (by omega)  dL_work_16 (Or.inr ⟨_, 1, hq, rfl, by decide⟩)
    · refine ⟨[(0, 10, 13, 22)], [], (0, 10, 17, 13), rfl, (fun z hz => by obtain rfl := List.mem_singleton.mp hz; exact ⟨by decide, _, m_L_work_c22, by decide⟩), by decide, by decide, by decide, m_L_work_c13, by decide, ?_⟩
      show gV G z0 X (0 + 2) (0 + 12) h9 17 [(0, .ref x), (1, .int a0), (2, .int a1), (3, .ref out)] [.ref q9]
      refine v_astore (pc' := 19) (i := 4) (L' := [(4, .ref q9), (0, .ref x), (1, .int a0), (2, .int a1), (3, .ref out)]) F dL_work_17  (by decide) rfl rfl ?_
      refine v_iconst (pc' := 20) (v := nI 2) F dL_work_19 (by decide) rfl ?_
      exact v_iret F E (by omega) (by omega)  dL_work_20 (Or.inr ⟨_, 2, hq, rfl, by decide⟩)
  · obtain ⟨⟨k9, rfl⟩, ho9⟩ := hK v9 h9 hq
    show gV G z0 X (0 + 2) (0 + 12) h9 8 [(0, .ref x), (1, .int a0), (2, .int a1), (3, .ref out)] [.int k9, .int (nI 0), .ref out]
    refine v_i2l (pc' := 9) (v := (k9).toInt64) F dL_work_8 rfl rfl ?_
    refine w_last (pc' := 10) F ho9 (by omega) (by omega) dL_work_9 rfl (fun h1 a2 f3 => ?_)
    refine v_goto (tgt := 21) F dL_work_10 (by decide) ?_
    refine v_iconst (pc' := 22) (v := nI 0) F dL_work_21 (by decide) rfl ?_
    have fr4 : gfr [out] h9 h1 := f3
    exact v_iret F E (by omega) (by omega)  dL_work_22 (Or.inl ⟨k9, h9, hq, rfl, _, a2, rfl, fr4⟩)
theorem hv_X6_idleIn : yX6_idleIn.cls = RX6 ∧ yX6_idleIn.cls ≠ "java/lang/invoke/MethodHandle" ∧ yX6_idleIn.cls ≠ "java/lang/invoke/VarHandle" ∧ (parseMethodDescriptor yX6_idleIn.desc).map (fun d => d.parameters.length) = some 1 := by decide +kernel
theorem m_L_idleIn_c22 : Cond.classLink RL 22 "java/lang/IndexOutOfBoundsException" ∈ wsL_idleIn := by decide +kernel
set_option maxHeartbeats 4000000 in
set_option maxRecDepth 100000 in
theorem c_L_idleIn (G : gG) (z0 : Nat) (l : Launch) (hst : l.stackTraces = false) {h : gH} {x out : Nat} (a0 : Int32) {xfs : List Value} {g : Nat → Int64} {postc : Option Value → gH → Prop} {postX : String → gH → Prop} (hx : h x = some (.inr (6, xfs))) (ho : h out = some (oL G 1 g)) (hC : ∀ l : Launch, l.stackTraces = false → gCX G z0 l yX6_idleIn wsX6_idleIn 7 112 [.ref x, .int a0] h postc postX 520 1030) (hK : ∀ v h', postc v h' → (∃ k : Int32, v = some (.int k)) ∧ h' out = some (oL G 1 g)) (hE : ∀ E h', postX E h' → E = "java/lang/IndexOutOfBoundsException") : gCX G z0 l yL_idleIn wsL_idleIn 8 137 [.ref x, .int a0, .ref out] h (fun v h' => (∃ (k : Int32) (h1 : gH), postc (some (.int k)) h1 ∧ v = some (.int (nI 0)) ∧ ∃ g' : Nat → Int64, h' out = some (oL G 1 g') ∧ g' 0 = k.toInt64 ∧ gfr [out] h1 h') ∨ (∃ (E : String) (k : Nat), postX E h' ∧ v = some (.int (nI k)) ∧ exC E 1 ["java/lang/IndexOutOfBoundsException"] = k)) (fun _ _ => False) 520 1030 := by
  refine gCXH_of hst (cc := cL_idleIn) (nL := 4) (ret := (some .int)) (hh := [(0, 9, 12, 22)]) (by decide) rfl (Nat.le_of_ble_eq_true rfl) ?_
  intro X F E EH hXl
  change gF G z0 X cL_idleIn 4 RL wsL_idleIn (some .int) "idleIn" 8 137 _ _ at F
  show gV G z0 X 0 0 h 0 [(0, .ref x), (1, .int a0), (2, .ref out)] []
  refine v_aload_n (pc' := 1) F dL_idleIn_0 rfl (j := 2) rfl rfl ?_
  refine v_iconst (pc' := 2) (v := nI 0) F dL_idleIn_1 (by decide) rfl ?_
  refine v_aload_n (pc' := 3) F dL_idleIn_2 rfl (j := 0) rfl rfl ?_
  refine v_iload_n (pc' := 4) F dL_idleIn_3 rfl (j := 1) rfl rfl ?_
  refine v_callVH (pc' := 7) (rt := (some .int)) (mcc := 520) (msc := 1030) (As := [.int a0]) (st := [.int (nI 0), .ref out]) F EH (fun l hst => hC l hst) gL_idleIn_X6_idleIn rfl hv_X6_idleIn (by decide) (by decide) hx rfl rfl rfl (Nat.le_of_ble_eq_true rfl) (by omega) (by omega) dL_idleIn_4 rfl (fun E9 h9 q9 hq => ?_) (fun v9 h9 hq => ?_)
  · rcases hE E9 h9 hq with rfl
    refine ⟨[], [], (0, 9, 12, 22), rfl, (fun z hz => absurd hz (by simp)), by decide, by decide, by decide, m_L_idleIn_c22, by decide, ?_⟩
    show gV G z0 X (0 + 520) (0 + 1030) h9 12 [(0, .ref x), (1, .int a0), (2, .ref out)] [.ref q9]
    refine v_astore_n (pc' := 13) (i := 3) (L' := [(3, .ref q9), (0, .ref x), (1, .int a0), (2, .ref out)]) F dL_idleIn_12 rfl (by decide) rfl rfl ?_
    refine v_iconst (pc' := 14) (v := nI 1) F dL_idleIn_13 (by decide) rfl ?_
    exact v_iret F E (by omega) (by omega)  dL_idleIn_14 (Or.inr ⟨_, 1, hq, rfl, by decide⟩)
  · obtain ⟨⟨k9, rfl⟩, ho9⟩ := hK v9 h9 hq
    show gV G z0 X (0 + 520) (0 + 1030) h9 7 [(0, .ref x), (1, .int a0), (2, .ref out)] [.int k9, .int (nI 0), .ref out]
    refine v_i2l (pc' := 8) (v := (k9).toInt64) F dL_idleIn_7 rfl rfl ?_
    refine w_last (pc' := 9) F ho9 (by omega) (by omega) dL_idleIn_8 rfl (fun h1 a2 f3 => ?_)
    refine v_goto (tgt := 15) F dL_idleIn_9 (by decide) ?_
    refine v_iconst (pc' := 16) (v := nI 0) F dL_idleIn_15 (by decide) rfl ?_
    have fr4 : gfr [out] h9 h1 := f3
    exact v_iret F E (by omega) (by omega)  dL_idleIn_16 (Or.inl ⟨k9, h9, hq, rfl, _, a2, rfl, fr4⟩)
theorem hv_X6_ranked : yX6_ranked.cls = RX6 ∧ yX6_ranked.cls ≠ "java/lang/invoke/MethodHandle" ∧ yX6_ranked.cls ≠ "java/lang/invoke/VarHandle" ∧ (parseMethodDescriptor yX6_ranked.desc).map (fun d => d.parameters.length) = some 1 := by decide +kernel
theorem m_L_ranked_c31 : Cond.classLink RL 31 "java/util/NoSuchElementException" ∈ wsL_ranked := by decide +kernel
set_option maxHeartbeats 4000000 in
set_option maxRecDepth 100000 in
theorem c_L_ranked (G : gG) (z0 : Nat) (l : Launch) (hst : l.stackTraces = false) {h : gH} {x out : Nat} (a0 : Int32) {xfs : List Value} {g : Nat → Int64} {postc : Option Value → gH → Prop} {postX : String → gH → Prop} (hx : h x = some (.inr (6, xfs))) (ho : h out = some (oL G 1 g)) (hC : ∀ l : Launch, l.stackTraces = false → gCX G z0 l yX6_ranked wsX6_ranked 6 90 [.ref x, .int a0] h postc postX 1 6) (hK : ∀ v h', postc v h' → (∃ k : Int32, v = some (.int k)) ∧ h' out = some (oL G 1 g)) (hE : ∀ E h', postX E h' → E = "java/util/NoSuchElementException") : gCX G z0 l yL_ranked wsL_ranked 7 113 [.ref x, .int a0, .ref out] h (fun v h' => (∃ (k : Int32) (h1 : gH), postc (some (.int k)) h1 ∧ v = some (.int (nI 0)) ∧ ∃ g' : Nat → Int64, h' out = some (oL G 1 g') ∧ g' 0 = k.toInt64 ∧ gfr [out] h1 h') ∨ (∃ (E : String) (k : Nat), postX E h' ∧ v = some (.int (nI k)) ∧ exC E 1 ["java/util/NoSuchElementException"] = k)) (fun _ _ => False) 1 6 := by
  refine gCXH_of hst (cc := cL_ranked) (nL := 4) (ret := (some .int)) (hh := [(0, 9, 12, 31)]) (by decide) rfl (Nat.le_of_ble_eq_true rfl) ?_
  intro X F E EH hXl
  change gF G z0 X cL_ranked 4 RL wsL_ranked (some .int) "ranked" 7 113 _ _ at F
  show gV G z0 X 0 0 h 0 [(0, .ref x), (1, .int a0), (2, .ref out)] []
  refine v_aload_n (pc' := 1) F dL_ranked_0 rfl (j := 2) rfl rfl ?_
  refine v_iconst (pc' := 2) (v := nI 0) F dL_ranked_1 (by decide) rfl ?_
  refine v_aload_n (pc' := 3) F dL_ranked_2 rfl (j := 0) rfl rfl ?_
  refine v_iload_n (pc' := 4) F dL_ranked_3 rfl (j := 1) rfl rfl ?_
  refine v_callVH (pc' := 7) (rt := (some .int)) (mcc := 1) (msc := 6) (As := [.int a0]) (st := [.int (nI 0), .ref out]) F EH (fun l hst => hC l hst) gL_ranked_X6_ranked rfl hv_X6_ranked (by decide) (by decide) hx rfl rfl rfl (Nat.le_of_ble_eq_true rfl) (by omega) (by omega) dL_ranked_4 rfl (fun E9 h9 q9 hq => ?_) (fun v9 h9 hq => ?_)
  · rcases hE E9 h9 hq with rfl
    refine ⟨[], [], (0, 9, 12, 31), rfl, (fun z hz => absurd hz (by simp)), by decide, by decide, by decide, m_L_ranked_c31, by decide, ?_⟩
    show gV G z0 X (0 + 1) (0 + 6) h9 12 [(0, .ref x), (1, .int a0), (2, .ref out)] [.ref q9]
    refine v_astore_n (pc' := 13) (i := 3) (L' := [(3, .ref q9), (0, .ref x), (1, .int a0), (2, .ref out)]) F dL_ranked_12 rfl (by decide) rfl rfl ?_
    refine v_iconst (pc' := 14) (v := nI 1) F dL_ranked_13 (by decide) rfl ?_
    exact v_iret F E (by omega) (by omega)  dL_ranked_14 (Or.inr ⟨_, 1, hq, rfl, by decide⟩)
  · obtain ⟨⟨k9, rfl⟩, ho9⟩ := hK v9 h9 hq
    show gV G z0 X (0 + 1) (0 + 6) h9 7 [(0, .ref x), (1, .int a0), (2, .ref out)] [.int k9, .int (nI 0), .ref out]
    refine v_i2l (pc' := 8) (v := (k9).toInt64) F dL_ranked_7 rfl rfl ?_
    refine w_last (pc' := 9) F ho9 (by omega) (by omega) dL_ranked_8 rfl (fun h1 a2 f3 => ?_)
    refine v_goto (tgt := 15) F dL_ranked_9 (by decide) ?_
    refine v_iconst (pc' := 16) (v := nI 0) F dL_ranked_15 (by decide) rfl ?_
    have fr4 : gfr [out] h9 h1 := f3
    exact v_iret F E (by omega) (by omega)  dL_ranked_16 (Or.inl ⟨k9, h9, hq, rfl, _, a2, rfl, fr4⟩)
theorem hv_X6_push : yX6_push.cls = RX6 ∧ yX6_push.cls ≠ "java/lang/invoke/MethodHandle" ∧ yX6_push.cls ≠ "java/lang/invoke/VarHandle" ∧ (parseMethodDescriptor yX6_push.desc).map (fun d => d.parameters.length) = some 2 := by decide +kernel
theorem m_L_push_c22 : Cond.classLink RL 22 "java/lang/IndexOutOfBoundsException" ∈ wsL_push := by decide +kernel
theorem m_L_push_c13 : Cond.classLink RL 13 "java/lang/IllegalArgumentException" ∈ wsL_push := by decide +kernel
theorem m_L_push_c55 : Cond.classLink RL 55 "java/lang/IllegalStateException" ∈ wsL_push := by decide +kernel
set_option maxHeartbeats 4000000 in
set_option maxRecDepth 100000 in
theorem c_L_push (G : gG) (z0 : Nat) (l : Launch) (hst : l.stackTraces = false) {h : gH} {x out : Nat} (a0 a1 : Int32) {xfs : List Value} {g : Nat → Int64} {postc : Option Value → gH → Prop} {postX : String → gH → Prop} (hx : h x = some (.inr (6, xfs))) (ho : h out = some (oL G 1 g)) (hC : ∀ l : Launch, l.stackTraces = false → gCX G z0 l yX6_push wsX6_push 7 112 [.ref x, .int a0, .int a1] h postc postX 13 45) (hK : ∀ v h', postc v h' → (∃ k : Int32, v = some (.int k)) ∧ h' out = some (oL G 1 g)) (hE : ∀ E h', postX E h' → E = "java/lang/IndexOutOfBoundsException" ∨ E = "java/lang/IllegalArgumentException" ∨ E = "java/lang/IllegalStateException") : gCX G z0 l yL_push wsL_push 8 135 [.ref x, .int a0, .int a1, .ref out] h (fun v h' => (∃ (k : Int32) (h1 : gH), postc (some (.int k)) h1 ∧ v = some (.int (nI 0)) ∧ ∃ g' : Nat → Int64, h' out = some (oL G 1 g') ∧ g' 0 = k.toInt64 ∧ gfr [out] h1 h') ∨ (∃ (E : String) (k : Nat), postX E h' ∧ v = some (.int (nI k)) ∧ exC E 1 ["java/lang/IndexOutOfBoundsException", "java/lang/IllegalArgumentException", "java/lang/IllegalStateException"] = k)) (fun _ _ => False) 13 45 := by
  refine gCXH_of hst (cc := cL_push) (nL := 5) (ret := (some .int)) (hh := [(0, 10, 13, 22), (0, 10, 17, 13), (0, 10, 21, 55)]) (by decide) rfl (Nat.le_of_ble_eq_true rfl) ?_
  intro X F E EH hXl
  change gF G z0 X cL_push 5 RL wsL_push (some .int) "push" 8 135 _ _ at F
  show gV G z0 X 0 0 h 0 [(0, .ref x), (1, .int a0), (2, .int a1), (3, .ref out)] []
  refine v_aload_n (pc' := 1) F dL_push_0 rfl (j := 3) rfl rfl ?_
  refine v_iconst (pc' := 2) (v := nI 0) F dL_push_1 (by decide) rfl ?_
  refine v_aload_n (pc' := 3) F dL_push_2 rfl (j := 0) rfl rfl ?_
  refine v_iload_n (pc' := 4) F dL_push_3 rfl (j := 1) rfl rfl ?_
  refine v_iload_n (pc' := 5) F dL_push_4 rfl (j := 2) rfl rfl ?_
  refine v_callVH (pc' := 8) (rt := (some .int)) (mcc := 13) (msc := 45) (As := [.int a0, .int a1]) (st := [.int (nI 0), .ref out]) F EH (fun l hst => hC l hst) gL_push_X6_push rfl hv_X6_push (by decide) (by decide) hx rfl rfl rfl (Nat.le_of_ble_eq_true rfl) (by omega) (by omega) dL_push_5 rfl (fun E9 h9 q9 hq => ?_) (fun v9 h9 hq => ?_)
  · rcases hE E9 h9 hq with rfl | rfl | rfl
    · refine ⟨[], [(0, 10, 17, 13), (0, 10, 21, 55)], (0, 10, 13, 22), rfl, (fun z hz => absurd hz (by simp)), by decide, by decide, by decide, m_L_push_c22, by decide, ?_⟩
      show gV G z0 X (0 + 13) (0 + 45) h9 13 [(0, .ref x), (1, .int a0), (2, .int a1), (3, .ref out)] [.ref q9]
      refine v_astore (pc' := 15) (i := 4) (L' := [(4, .ref q9), (0, .ref x), (1, .int a0), (2, .int a1), (3, .ref out)]) F dL_push_13  (by decide) rfl rfl ?_
      refine v_iconst (pc' := 16) (v := nI 1) F dL_push_15 (by decide) rfl ?_
      exact v_iret F E (by omega) (by omega)  dL_push_16 (Or.inr ⟨_, 1, hq, rfl, by decide⟩)
    · refine ⟨[(0, 10, 13, 22)], [(0, 10, 21, 55)], (0, 10, 17, 13), rfl, (fun z hz => by obtain rfl := List.mem_singleton.mp hz; exact ⟨by decide, _, m_L_push_c22, by decide⟩), by decide, by decide, by decide, m_L_push_c13, by decide, ?_⟩
      show gV G z0 X (0 + 13) (0 + 45) h9 17 [(0, .ref x), (1, .int a0), (2, .int a1), (3, .ref out)] [.ref q9]
      refine v_astore (pc' := 19) (i := 4) (L' := [(4, .ref q9), (0, .ref x), (1, .int a0), (2, .int a1), (3, .ref out)]) F dL_push_17  (by decide) rfl rfl ?_
      refine v_iconst (pc' := 20) (v := nI 2) F dL_push_19 (by decide) rfl ?_
      exact v_iret F E (by omega) (by omega)  dL_push_20 (Or.inr ⟨_, 2, hq, rfl, by decide⟩)
    · refine ⟨[(0, 10, 13, 22), (0, 10, 17, 13)], [], (0, 10, 21, 55), rfl, (fun z hz => by rcases List.mem_cons.mp hz with rfl | hz; exact ⟨by decide, _, m_L_push_c22, by decide⟩; obtain rfl := List.mem_singleton.mp hz; exact ⟨by decide, _, m_L_push_c13, by decide⟩), by decide, by decide, by decide, m_L_push_c55, by decide, ?_⟩
      show gV G z0 X (0 + 13) (0 + 45) h9 21 [(0, .ref x), (1, .int a0), (2, .int a1), (3, .ref out)] [.ref q9]
      refine v_astore (pc' := 23) (i := 4) (L' := [(4, .ref q9), (0, .ref x), (1, .int a0), (2, .int a1), (3, .ref out)]) F dL_push_21  (by decide) rfl rfl ?_
      refine v_iconst (pc' := 24) (v := nI 3) F dL_push_23 (by decide) rfl ?_
      exact v_iret F E (by omega) (by omega)  dL_push_24 (Or.inr ⟨_, 3, hq, rfl, by decide⟩)
  · obtain ⟨⟨k9, rfl⟩, ho9⟩ := hK v9 h9 hq
    show gV G z0 X (0 + 13) (0 + 45) h9 8 [(0, .ref x), (1, .int a0), (2, .int a1), (3, .ref out)] [.int k9, .int (nI 0), .ref out]
    refine v_i2l (pc' := 9) (v := (k9).toInt64) F dL_push_8 rfl rfl ?_
    refine w_last (pc' := 10) F ho9 (by omega) (by omega) dL_push_9 rfl (fun h1 a2 f3 => ?_)
    refine v_goto (tgt := 25) F dL_push_10 (by decide) ?_
    refine v_iconst (pc' := 26) (v := nI 0) F dL_push_25 (by decide) rfl ?_
    have fr4 : gfr [out] h9 h1 := f3
    exact v_iret F E (by omega) (by omega)  dL_push_26 (Or.inl ⟨k9, h9, hq, rfl, _, a2, rfl, fr4⟩)
theorem hv_X6_pop : yX6_pop.cls = RX6 ∧ yX6_pop.cls ≠ "java/lang/invoke/MethodHandle" ∧ yX6_pop.cls ≠ "java/lang/invoke/VarHandle" ∧ (parseMethodDescriptor yX6_pop.desc).map (fun d => d.parameters.length) = some 1 := by decide +kernel
theorem m_L_pop_c22 : Cond.classLink RL 22 "java/lang/IndexOutOfBoundsException" ∈ wsL_pop := by decide +kernel
theorem m_L_pop_c55 : Cond.classLink RL 55 "java/lang/IllegalStateException" ∈ wsL_pop := by decide +kernel
set_option maxHeartbeats 4000000 in
set_option maxRecDepth 100000 in
theorem c_L_pop (G : gG) (z0 : Nat) (l : Launch) (hst : l.stackTraces = false) {h : gH} {x out : Nat} (a0 : Int32) {xfs : List Value} {g : Nat → Int64} {postc : Option Value → gH → Prop} {postX : String → gH → Prop} (hx : h x = some (.inr (6, xfs))) (ho : h out = some (oL G 1 g)) (hC : ∀ l : Launch, l.stackTraces = false → gCX G z0 l yX6_pop wsX6_pop 7 112 [.ref x, .int a0] h postc postX 13 45) (hK : ∀ v h', postc v h' → (∃ k : Int32, v = some (.int k)) ∧ h' out = some (oL G 1 g)) (hE : ∀ E h', postX E h' → E = "java/lang/IndexOutOfBoundsException" ∨ E = "java/lang/IllegalStateException") : gCX G z0 l yL_pop wsL_pop 8 134 [.ref x, .int a0, .ref out] h (fun v h' => (∃ (k : Int32) (h1 : gH), postc (some (.int k)) h1 ∧ v = some (.int (nI 0)) ∧ ∃ g' : Nat → Int64, h' out = some (oL G 1 g') ∧ g' 0 = k.toInt64 ∧ gfr [out] h1 h') ∨ (∃ (E : String) (k : Nat), postX E h' ∧ v = some (.int (nI k)) ∧ exC E 1 ["java/lang/IndexOutOfBoundsException", "java/lang/IllegalStateException"] = k)) (fun _ _ => False) 13 45 := by
  refine gCXH_of hst (cc := cL_pop) (nL := 4) (ret := (some .int)) (hh := [(0, 9, 12, 22), (0, 9, 15, 55)]) (by decide) rfl (Nat.le_of_ble_eq_true rfl) ?_
  intro X F E EH hXl
  change gF G z0 X cL_pop 4 RL wsL_pop (some .int) "pop" 8 134 _ _ at F
  show gV G z0 X 0 0 h 0 [(0, .ref x), (1, .int a0), (2, .ref out)] []
  refine v_aload_n (pc' := 1) F dL_pop_0 rfl (j := 2) rfl rfl ?_
  refine v_iconst (pc' := 2) (v := nI 0) F dL_pop_1 (by decide) rfl ?_
  refine v_aload_n (pc' := 3) F dL_pop_2 rfl (j := 0) rfl rfl ?_
  refine v_iload_n (pc' := 4) F dL_pop_3 rfl (j := 1) rfl rfl ?_
  refine v_callVH (pc' := 7) (rt := (some .int)) (mcc := 13) (msc := 45) (As := [.int a0]) (st := [.int (nI 0), .ref out]) F EH (fun l hst => hC l hst) gL_pop_X6_pop rfl hv_X6_pop (by decide) (by decide) hx rfl rfl rfl (Nat.le_of_ble_eq_true rfl) (by omega) (by omega) dL_pop_4 rfl (fun E9 h9 q9 hq => ?_) (fun v9 h9 hq => ?_)
  · rcases hE E9 h9 hq with rfl | rfl
    · refine ⟨[], [(0, 9, 15, 55)], (0, 9, 12, 22), rfl, (fun z hz => absurd hz (by simp)), by decide, by decide, by decide, m_L_pop_c22, by decide, ?_⟩
      show gV G z0 X (0 + 13) (0 + 45) h9 12 [(0, .ref x), (1, .int a0), (2, .ref out)] [.ref q9]
      refine v_astore_n (pc' := 13) (i := 3) (L' := [(3, .ref q9), (0, .ref x), (1, .int a0), (2, .ref out)]) F dL_pop_12 rfl (by decide) rfl rfl ?_
      refine v_iconst (pc' := 14) (v := nI 1) F dL_pop_13 (by decide) rfl ?_
      exact v_iret F E (by omega) (by omega)  dL_pop_14 (Or.inr ⟨_, 1, hq, rfl, by decide⟩)
    · refine ⟨[(0, 9, 12, 22)], [], (0, 9, 15, 55), rfl, (fun z hz => by obtain rfl := List.mem_singleton.mp hz; exact ⟨by decide, _, m_L_pop_c22, by decide⟩), by decide, by decide, by decide, m_L_pop_c55, by decide, ?_⟩
      show gV G z0 X (0 + 13) (0 + 45) h9 15 [(0, .ref x), (1, .int a0), (2, .ref out)] [.ref q9]
      refine v_astore_n (pc' := 16) (i := 3) (L' := [(3, .ref q9), (0, .ref x), (1, .int a0), (2, .ref out)]) F dL_pop_15 rfl (by decide) rfl rfl ?_
      refine v_iconst (pc' := 17) (v := nI 2) F dL_pop_16 (by decide) rfl ?_
      exact v_iret F E (by omega) (by omega)  dL_pop_17 (Or.inr ⟨_, 2, hq, rfl, by decide⟩)
  · obtain ⟨⟨k9, rfl⟩, ho9⟩ := hK v9 h9 hq
    show gV G z0 X (0 + 13) (0 + 45) h9 7 [(0, .ref x), (1, .int a0), (2, .ref out)] [.int k9, .int (nI 0), .ref out]
    refine v_i2l (pc' := 8) (v := (k9).toInt64) F dL_pop_7 rfl rfl ?_
    refine w_last (pc' := 9) F ho9 (by omega) (by omega) dL_pop_8 rfl (fun h1 a2 f3 => ?_)
    refine v_goto (tgt := 18) F dL_pop_9 (by decide) ?_
    refine v_iconst (pc' := 19) (v := nI 0) F dL_pop_18 (by decide) rfl ?_
    have fr4 : gfr [out] h9 h1 := f3
    exact v_iret F E (by omega) (by omega)  dL_pop_19 (Or.inl ⟨k9, h9, hq, rfl, _, a2, rfl, fr4⟩)
theorem hv_X6_drop : yX6_drop.cls = RX6 ∧ yX6_drop.cls ≠ "java/lang/invoke/MethodHandle" ∧ yX6_drop.cls ≠ "java/lang/invoke/VarHandle" ∧ (parseMethodDescriptor yX6_drop.desc).map (fun d => d.parameters.length) = some 1 := by decide +kernel
theorem m_L_drop_c22 : Cond.classLink RL 22 "java/lang/IndexOutOfBoundsException" ∈ wsL_drop := by decide +kernel
theorem m_L_drop_c55 : Cond.classLink RL 55 "java/lang/IllegalStateException" ∈ wsL_drop := by decide +kernel
set_option maxHeartbeats 4000000 in
set_option maxRecDepth 100000 in
theorem c_L_drop (G : gG) (z0 : Nat) (l : Launch) (hst : l.stackTraces = false) {h : gH} {x out : Nat} (a0 : Int32) {xfs : List Value} {g : Nat → Int64} {postc : Option Value → gH → Prop} {postX : String → gH → Prop} (hx : h x = some (.inr (6, xfs))) (ho : h out = some (oL G 1 g)) (hC : ∀ l : Launch, l.stackTraces = false → gCX G z0 l yX6_drop wsX6_drop 7 112 [.ref x, .int a0] h postc postX 2 12) (hK : ∀ v h', postc v h' → (∃ k : Int32, v = some (.int k)) ∧ h' out = some (oL G 1 g)) (hE : ∀ E h', postX E h' → E = "java/lang/IndexOutOfBoundsException" ∨ E = "java/lang/IllegalStateException") : gCX G z0 l yL_drop wsL_drop 8 135 [.ref x, .int a0, .ref out] h (fun v h' => (∃ (k : Int32) (h1 : gH), postc (some (.int k)) h1 ∧ v = some (.int (nI 0)) ∧ ∃ g' : Nat → Int64, h' out = some (oL G 1 g') ∧ g' 0 = k.toInt64 ∧ gfr [out] h1 h') ∨ (∃ (E : String) (k : Nat), postX E h' ∧ v = some (.int (nI k)) ∧ exC E 1 ["java/lang/IndexOutOfBoundsException", "java/lang/IllegalStateException"] = k)) (fun _ _ => False) 2 12 := by
  refine gCXH_of hst (cc := cL_drop) (nL := 4) (ret := (some .int)) (hh := [(0, 9, 12, 22), (0, 9, 15, 55)]) (by decide) rfl (Nat.le_of_ble_eq_true rfl) ?_
  intro X F E EH hXl
  change gF G z0 X cL_drop 4 RL wsL_drop (some .int) "drop" 8 135 _ _ at F
  show gV G z0 X 0 0 h 0 [(0, .ref x), (1, .int a0), (2, .ref out)] []
  refine v_aload_n (pc' := 1) F dL_drop_0 rfl (j := 2) rfl rfl ?_
  refine v_iconst (pc' := 2) (v := nI 0) F dL_drop_1 (by decide) rfl ?_
  refine v_aload_n (pc' := 3) F dL_drop_2 rfl (j := 0) rfl rfl ?_
  refine v_iload_n (pc' := 4) F dL_drop_3 rfl (j := 1) rfl rfl ?_
  refine v_callVH (pc' := 7) (rt := (some .int)) (mcc := 2) (msc := 12) (As := [.int a0]) (st := [.int (nI 0), .ref out]) F EH (fun l hst => hC l hst) gL_drop_X6_drop rfl hv_X6_drop (by decide) (by decide) hx rfl rfl rfl (Nat.le_of_ble_eq_true rfl) (by omega) (by omega) dL_drop_4 rfl (fun E9 h9 q9 hq => ?_) (fun v9 h9 hq => ?_)
  · rcases hE E9 h9 hq with rfl | rfl
    · refine ⟨[], [(0, 9, 15, 55)], (0, 9, 12, 22), rfl, (fun z hz => absurd hz (by simp)), by decide, by decide, by decide, m_L_drop_c22, by decide, ?_⟩
      show gV G z0 X (0 + 2) (0 + 12) h9 12 [(0, .ref x), (1, .int a0), (2, .ref out)] [.ref q9]
      refine v_astore_n (pc' := 13) (i := 3) (L' := [(3, .ref q9), (0, .ref x), (1, .int a0), (2, .ref out)]) F dL_drop_12 rfl (by decide) rfl rfl ?_
      refine v_iconst (pc' := 14) (v := nI 1) F dL_drop_13 (by decide) rfl ?_
      exact v_iret F E (by omega) (by omega)  dL_drop_14 (Or.inr ⟨_, 1, hq, rfl, by decide⟩)
    · refine ⟨[(0, 9, 12, 22)], [], (0, 9, 15, 55), rfl, (fun z hz => by obtain rfl := List.mem_singleton.mp hz; exact ⟨by decide, _, m_L_drop_c22, by decide⟩), by decide, by decide, by decide, m_L_drop_c55, by decide, ?_⟩
      show gV G z0 X (0 + 2) (0 + 12) h9 15 [(0, .ref x), (1, .int a0), (2, .ref out)] [.ref q9]
      refine v_astore_n (pc' := 16) (i := 3) (L' := [(3, .ref q9), (0, .ref x), (1, .int a0), (2, .ref out)]) F dL_drop_15 rfl (by decide) rfl rfl ?_
      refine v_iconst (pc' := 17) (v := nI 2) F dL_drop_16 (by decide) rfl ?_
      exact v_iret F E (by omega) (by omega)  dL_drop_17 (Or.inr ⟨_, 2, hq, rfl, by decide⟩)
  · obtain ⟨⟨k9, rfl⟩, ho9⟩ := hK v9 h9 hq
    show gV G z0 X (0 + 2) (0 + 12) h9 7 [(0, .ref x), (1, .int a0), (2, .ref out)] [.int k9, .int (nI 0), .ref out]
    refine v_i2l (pc' := 8) (v := (k9).toInt64) F dL_drop_7 rfl rfl ?_
    refine w_last (pc' := 9) F ho9 (by omega) (by omega) dL_drop_8 rfl (fun h1 a2 f3 => ?_)
    refine v_goto (tgt := 18) F dL_drop_9 (by decide) ?_
    refine v_iconst (pc' := 19) (v := nI 0) F dL_drop_18 (by decide) rfl ?_
    have fr4 : gfr [out] h9 h1 := f3
    exact v_iret F E (by omega) (by omega)  dL_drop_19 (Or.inl ⟨k9, h9, hq, rfl, _, a2, rfl, fr4⟩)
theorem hv_X6_rule : yX6_rule.cls = RX6 ∧ yX6_rule.cls ≠ "java/lang/invoke/MethodHandle" ∧ yX6_rule.cls ≠ "java/lang/invoke/VarHandle" ∧ (parseMethodDescriptor yX6_rule.desc).map (fun d => d.parameters.length) = some 1 := by decide +kernel
theorem m_L_rule_c13 : Cond.classLink RL 13 "java/lang/IllegalArgumentException" ∈ wsL_rule := by decide +kernel
set_option maxHeartbeats 4000000 in
set_option maxRecDepth 100000 in
theorem c_L_rule (G : gG) (z0 : Nat) (l : Launch) (hst : l.stackTraces = false) {h : gH} {x out : Nat} (a0 : Int32) {xfs : List Value} {g : Nat → Int64} {postc : Option Value → gH → Prop} {postX : String → gH → Prop} (hx : h x = some (.inr (6, xfs))) (ho : h out = some (oL G 1 g)) (hC : ∀ l : Launch, l.stackTraces = false → gCX G z0 l yX6_rule wsX6_rule 6 90 [.ref x, .int a0] h postc postX 1 6) (hK : ∀ v h', postc v h' → (∃ k : Int32, v = some (.int k)) ∧ h' out = some (oL G 1 g)) (hE : ∀ E h', postX E h' → E = "java/lang/IllegalArgumentException") : gCX G z0 l yL_rule wsL_rule 7 112 [.ref x, .int a0, .ref out] h (fun v h' => (∃ (k : Int32) (h1 : gH), postc (some (.int k)) h1 ∧ v = some (.int (nI 0)) ∧ ∃ g' : Nat → Int64, h' out = some (oL G 1 g') ∧ g' 0 = k.toInt64 ∧ gfr [out] h1 h') ∨ (∃ (E : String) (k : Nat), postX E h' ∧ v = some (.int (nI k)) ∧ exC E 1 ["java/lang/IllegalArgumentException"] = k)) (fun _ _ => False) 1 6 := by
  refine gCXH_of hst (cc := cL_rule) (nL := 4) (ret := (some .int)) (hh := [(0, 9, 12, 13)]) (by decide) rfl (Nat.le_of_ble_eq_true rfl) ?_
  intro X F E EH hXl
  change gF G z0 X cL_rule 4 RL wsL_rule (some .int) "rule" 7 112 _ _ at F
  show gV G z0 X 0 0 h 0 [(0, .ref x), (1, .int a0), (2, .ref out)] []
  refine v_aload_n (pc' := 1) F dL_rule_0 rfl (j := 2) rfl rfl ?_
  refine v_iconst (pc' := 2) (v := nI 0) F dL_rule_1 (by decide) rfl ?_
  refine v_aload_n (pc' := 3) F dL_rule_2 rfl (j := 0) rfl rfl ?_
  refine v_iload_n (pc' := 4) F dL_rule_3 rfl (j := 1) rfl rfl ?_
  refine v_callVH (pc' := 7) (rt := (some .int)) (mcc := 1) (msc := 6) (As := [.int a0]) (st := [.int (nI 0), .ref out]) F EH (fun l hst => hC l hst) gL_rule_X6_rule rfl hv_X6_rule (by decide) (by decide) hx rfl rfl rfl (Nat.le_of_ble_eq_true rfl) (by omega) (by omega) dL_rule_4 rfl (fun E9 h9 q9 hq => ?_) (fun v9 h9 hq => ?_)
  · rcases hE E9 h9 hq with rfl
    refine ⟨[], [], (0, 9, 12, 13), rfl, (fun z hz => absurd hz (by simp)), by decide, by decide, by decide, m_L_rule_c13, by decide, ?_⟩
    show gV G z0 X (0 + 1) (0 + 6) h9 12 [(0, .ref x), (1, .int a0), (2, .ref out)] [.ref q9]
    refine v_astore_n (pc' := 13) (i := 3) (L' := [(3, .ref q9), (0, .ref x), (1, .int a0), (2, .ref out)]) F dL_rule_12 rfl (by decide) rfl rfl ?_
    refine v_iconst (pc' := 14) (v := nI 1) F dL_rule_13 (by decide) rfl ?_
    exact v_iret F E (by omega) (by omega)  dL_rule_14 (Or.inr ⟨_, 1, hq, rfl, by decide⟩)
  · obtain ⟨⟨k9, rfl⟩, ho9⟩ := hK v9 h9 hq
    show gV G z0 X (0 + 1) (0 + 6) h9 7 [(0, .ref x), (1, .int a0), (2, .ref out)] [.int k9, .int (nI 0), .ref out]
    refine v_i2l (pc' := 8) (v := (k9).toInt64) F dL_rule_7 rfl rfl ?_
    refine w_last (pc' := 9) F ho9 (by omega) (by omega) dL_rule_8 rfl (fun h1 a2 f3 => ?_)
    refine v_goto (tgt := 15) F dL_rule_9 (by decide) ?_
    refine v_iconst (pc' := 16) (v := nI 0) F dL_rule_15 (by decide) rfl ?_
    have fr4 : gfr [out] h9 h1 := f3
    exact v_iret F E (by omega) (by omega)  dL_rule_16 (Or.inl ⟨k9, h9, hq, rfl, _, a2, rfl, fr4⟩)
