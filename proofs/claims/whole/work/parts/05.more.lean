section GM
variable {G : gG} {z0 : Nat} {X : gX} {cc : ByteArray} {nL fr lo mc ms : Nat} {own nm : String} {Ts : List Cond} {ret : Option FieldType} {cells slots : Nat} {h : gH} {pc pc' : Nat} {L L' : List (Nat × Value)} {st : List Value}
/-- all that stood outside S stands still -/
def gfr (S : List Nat) (h h' : gH) : Prop := ∀ (q : Nat) (e : va_E), q ∉ S → h q = some e → h' q = some e
theorem gn00 {b : Nat} : b ∉ ([] : List Nat) := List.not_mem_nil
theorem gfr.rf {S : List Nat} {h : gH} : gfr S h h := fun _ _ _ q => q
theorem gfr.tr {S S' S2 : List Nat} {h h1 h2 : gH} (a : gfr S h h1) (b : gfr S' h1 h2) (hs : ∀ q, q ∉ S2 → q ∉ S ∧ q ∉ S') : gfr S2 h h2 := fun q e n k => b q e (hs q n).2 (a q e (hs q n).1 k)
theorem gfr.mono {S S2 : List Nat} {h h1 : gH} (a : gfr S h h1) (hs : ∀ q, q ∉ S2 → q ∉ S) : gfr S2 h h1 := fun q e n k => a q e (hs q n) k
theorem gfr.mono0 {S2 : List Nat} {h h1 : gH} (a : gfr [] h h1) : gfr S2 h h1 := fun q e n k => a q e gn00 k
theorem gfr.t {S : List Nat} {h h1 h2 : gH} (a : gfr S h h1) (b : gfr S h1 h2) : gfr S h h2 := fun q e n k => b q e n (a q e n k)
theorem gfr.non {S : List Nat} {h h1 : gH} {q : Nat} (a : gfr S h h1) (n : h1 q = none) (m : q ∉ S) : h q = none := by
  cases hq : h q with
  | none => rfl
  | some e => rw [a q e m hq] at n; cases n
theorem gfr.drop {S : List Nat} {h h1 : gH} {q : Nat} (n : h q = none) (a : gfr (q :: S) h h1) : gfr S h h1 := fun b e m k => a b e (fun z => (List.mem_cons.mp z).elim (fun y => by rw [y, n] at k; cases k) m) k
theorem gfr.put {h : gH} {a : Nat} {e : va_E} : gfr [a] h (gu h a e) := fun q e1 n k => by rw [gu_ne (fun z => n (by rw [z]; exact List.mem_cons_self))]; exact k
theorem gfr.new {h : gH} {a : Nat} {e : va_E} (hn : h a = none) : gfr [] h (gu h a e) := fun q e1 _ k => by rw [gu_ne (fun z => by rw [z, hn] at k; cases k)]; exact k
theorem gn0 {b : Nat} : b ∉ ([] : List Nat) := List.not_mem_nil
theorem gnc {b a : Nat} {l : List Nat} (n : b ≠ a) (m : b ∉ l) : b ∉ a :: l := fun q => (List.mem_cons.mp q).elim n m
theorem g_neC {h : gH} {a b ci cj : Nat} {fs gs : List Value} (ha : h a = some (.inr (ci, fs))) (hb : h b = some (.inr (cj, gs))) (hc : ci ≠ cj) : a ≠ b := fun q => by
  subst q
  rw [ha] at hb
  cases hb
  exact hc rfl
theorem g_neA {h : gH} {a b ci : Nat} {fs : List Value} {x : ClassId × vp_A} (ha : h a = some (.inr (ci, fs))) (hb : h b = some (.inl x)) : a ≠ b := fun q => by
  subst q
  rw [ha] at hb
  cases hb
theorem g_neN {h : gH} {a b : Nat} {e : va_E} (ha : h a = some e) (hb : h b = none) : a ≠ b := fun q => by
  subst q
  rw [ha] at hb
  cases hb
theorem w_putf (F : gF G z0 X cc nL own Ts ret nm fr lo mc ms) {ci N a index : Nat} {C : String} {T : u_T} {fs : List Value} {v : Value} {ty0 : Nat → FieldType} (hC : gCl Ts ci C T N) (hty : ∀ k, k < N → parseFieldDescriptor (T k).2.2.1 = some (ty0 k)) (hnn : ∀ a, a < N → ∀ b, b < N → a ≠ b → (T a).2.1 ≠ (T b).2.1) (ha : h a = some (.inr (ci, fs))) (k : Nat) (hk : k < N) (hlink : Cond.fieldLink own index (T k).1 (T k).2.1 (T k).2.2.1 ∈ Ts) (hfin : (T k).2.2.2 = false)  (hn : narrow (ty0 k) v = v) (hfit : fits (ty0 k) v = true) (hl : k < fs.length) (fs' : List Value) (hfs : fs.set k v = fs') (d : decode cc pc = .ok (.putfield index, 3)) (hp : pc + 3 = pc') (kk : ∀ h1 : gH, h1 a = some (.inr (ci, fs')) → gfr [a] h h1 → gV G z0 X cells slots h1 pc' L st) : gV G z0 X cells slots h pc L (v :: .ref a :: st) :=
  v_putf F hC hty hnn ha k hk hlink hfin  hn hfit hl hfs d hp (kk _ (gu_eq _ _ _) gfr.put)
theorem w_putfF (F : gF G z0 X cc nL own Ts ret nm fr lo mc ms) {ci N a index : Nat} {C : String} {T : u_T} {fs : List Value} {v : Value} {ty0 : Nat → FieldType} (hC : gCl Ts ci C T N) (hty : ∀ k, k < N → parseFieldDescriptor (T k).2.2.1 = some (ty0 k)) (hnn : ∀ a, a < N → ∀ b, b < N → a ≠ b → (T a).2.1 ≠ (T b).2.1) (ha : h a = some (.inr (ci, fs))) (k : Nat) (hk : k < N) (hlink : Cond.fieldLink own index (T k).1 (T k).2.1 (T k).2.2.1 ∈ Ts) (hfin : (T k).2.2.2 = true) (hin2 : nm = "<init>") (hdecl : (T k).1 = own) (hn : narrow (ty0 k) v = v) (hfit : fits (ty0 k) v = true) (hl : k < fs.length) (fs' : List Value) (hfs : fs.set k v = fs') (d : decode cc pc = .ok (.putfield index, 3)) (hp : pc + 3 = pc') (kk : ∀ h1 : gH, h1 a = some (.inr (ci, fs')) → gfr [a] h h1 → gV G z0 X cells slots h1 pc' L st) : gV G z0 X cells slots h pc L (v :: .ref a :: st) :=
  v_putfF F hC hty hnn ha k hk hlink hfin hin2 hdecl hn hfit hl hfs d hp (kk _ (gu_eq _ _ _) gfr.put)
theorem g_clamp {k n : Nat} (hk : k < n) (hn : n < 2147483648) : vp_in (nI k) n ∧ (nI k).toNatClampNeg = k := ⟨vp_in_nI hk hn, nI_clamp (by omega)⟩
theorem w_iald (F : gF G z0 X cc nL own Ts ret nm fr lo mc ms) {a n k : Nat} {f : Nat → Int32} (ha : h a = some (oI G n f)) (hk : k < n) (hn : n < 2147483648) {v : Int32} (hv : f k = v) (d : decode cc pc = .ok (.iaload, 1)) (hp : pc + 1 = pc') (kk : gV G z0 X cells slots h pc' L (.int v :: st)) : gV G z0 X cells slots h pc L (.int (nI k) :: .ref a :: st) := by
  subst hv
  refine v_iald F ha (g_clamp hk hn).1 d hp ?_
  rw [(g_clamp hk hn).2]
  exact kk
theorem w_bald (F : gF G z0 X cc nL own Ts ret nm fr lo mc ms) {a n k : Nat} {f : Nat → Int32} (ha : h a = some (oB G n f)) (hk : k < n) (hn : n < 2147483648) {v : Int32} (hv : f k = v) (d : decode cc pc = .ok (.baload, 1)) (hp : pc + 1 = pc') (kk : gV G z0 X cells slots h pc' L (.int v :: st)) : gV G z0 X cells slots h pc L (.int (nI k) :: .ref a :: st) := by
  subst hv
  refine v_bald F ha (g_clamp hk hn).1 d hp ?_
  rw [(g_clamp hk hn).2]
  exact kk
theorem w_lald (F : gF G z0 X cc nL own Ts ret nm fr lo mc ms) {a n k : Nat} {f : Nat → Int64} (ha : h a = some (oL G n f)) (hk : k < n) (hn : n < 2147483648) {v : Int64} (hv : f k = v) (d : decode cc pc = .ok (.laload, 1)) (hp : pc + 1 = pc') (kk : gV G z0 X cells slots h pc' L (.long v :: st)) : gV G z0 X cells slots h pc L (.int (nI k) :: .ref a :: st) := by
  subst hv
  refine v_lald F ha (g_clamp hk hn).1 d hp ?_
  rw [(g_clamp hk hn).2]
  exact kk
theorem w_qald (F : gF G z0 X cc nL own Ts ret nm fr lo mc ms) {a n k : Nat} {f : Nat → Option Nat} (ha : h a = some (oQ G n f)) (hk : k < n) (hn : n < 2147483648) {v : Option Nat} (hv : f k = v) (d : decode cc pc = .ok (.aaload, 1)) (hp : pc + 1 = pc') (kk : gV G z0 X cells slots h pc' L (va_rf v :: st)) : gV G z0 X cells slots h pc L (.int (nI k) :: .ref a :: st) := by
  subst hv
  refine v_qald F ha (g_clamp hk hn).1 d hp ?_
  rw [(g_clamp hk hn).2]
  exact kk
theorem w_vald (F : gF G z0 X cc nL own Ts ret nm fr lo mc ms) {a n k : Nat} {f : Nat → Option Nat} (ha : h a = some (oV G n f)) (hk : k < n) (hn : n < 2147483648) {v : Option Nat} (hv : f k = v) (d : decode cc pc = .ok (.aaload, 1)) (hp : pc + 1 = pc') (kk : gV G z0 X cells slots h pc' L (va_rf v :: st)) : gV G z0 X cells slots h pc L (.int (nI k) :: .ref a :: st) := by
  subst hv
  refine v_vald F ha (g_clamp hk hn).1 d hp ?_
  rw [(g_clamp hk hn).2]
  exact kk
theorem w_iast (F : gF G z0 X cc nL own Ts ret nm fr lo mc ms) {a n k : Nat} {f : Nat → Int32} {x : Int32} (ha : h a = some (oI G n f)) (hk : k < n) (hn : n < 2147483648) (d : decode cc pc = .ok (.iastore, 1)) (hp : pc + 1 = pc') (kk : ∀ h1 : gH, h1 a = some (oI G n (upd f k x)) → gfr [a] h h1 → gV G z0 X cells slots h1 pc' L st) : gV G z0 X cells slots h pc L (.int x :: .int (nI k) :: .ref a :: st) := by
  refine v_iast F ha (g_clamp hk hn).1 d hp ?_
  rw [(g_clamp hk hn).2]
  exact kk _ (gu_eq _ _ _) gfr.put
theorem w_bast (F : gF G z0 X cc nL own Ts ret nm fr lo mc ms) {a n k : Nat} {f : Nat → Int32} {x : Int32} (ha : h a = some (oB G n f)) (hk : k < n) (hn : n < 2147483648) (d : decode cc pc = .ok (.bastore, 1)) (hp : pc + 1 = pc') (kk : ∀ h1 : gH, h1 a = some (oB G n (upd f k (vp_nar .byte x))) → gfr [a] h h1 → gV G z0 X cells slots h1 pc' L st) : gV G z0 X cells slots h pc L (.int x :: .int (nI k) :: .ref a :: st) := by
  refine v_bast F ha (g_clamp hk hn).1 d hp ?_
  rw [(g_clamp hk hn).2]
  exact kk _ (gu_eq _ _ _) gfr.put
theorem w_last (F : gF G z0 X cc nL own Ts ret nm fr lo mc ms) {a n k : Nat} {f : Nat → Int64} {x : Int64} (ha : h a = some (oL G n f)) (hk : k < n) (hn : n < 2147483648) (d : decode cc pc = .ok (.lastore, 1)) (hp : pc + 1 = pc') (kk : ∀ h1 : gH, h1 a = some (oL G n (vp_updL f k x)) → gfr [a] h h1 → gV G z0 X cells slots h1 pc' L st) : gV G z0 X cells slots h pc L (.long x :: .int (nI k) :: .ref a :: st) := by
  refine v_last F ha (g_clamp hk hn).1 d hp ?_
  rw [(g_clamp hk hn).2]
  exact kk _ (gu_eq _ _ _) gfr.put
theorem w_qast (F : gF G z0 X cc nL own Ts ret nm fr lo mc ms) {a n k v : Nat} {f : Nat → Option Nat} {vs : List Value} (ha : h a = some (oQ G n f)) (hv : h v = some (.inr (0, vs))) (hk : k < n) (hn : n < 2147483648) (d : decode cc pc = .ok (.aastore, 1)) (hp : pc + 1 = pc') (kk : ∀ h1 : gH, h1 a = some (oQ G n (va_up f k (some v))) → gfr [a] h h1 → gV G z0 X cells slots h1 pc' L st) : gV G z0 X cells slots h pc L (.ref v :: .int (nI k) :: .ref a :: st) := by
  refine v_qast F ha hv (g_clamp hk hn).1 d hp ?_
  rw [(g_clamp hk hn).2]
  exact kk _ (gu_eq _ _ _) gfr.put
theorem w_vast (F : gF G z0 X cc nL own Ts ret nm fr lo mc ms) {a n k v : Nat} {f : Nat → Option Nat} {vs : List Value} (ha : h a = some (oV G n f)) (hv : h v = some (.inr (5, vs))) (hk : k < n) (hn : n < 2147483648) (d : decode cc pc = .ok (.aastore, 1)) (hp : pc + 1 = pc') (kk : ∀ h1 : gH, h1 a = some (oV G n (va_up f k (some v))) → gfr [a] h h1 → gV G z0 X cells slots h1 pc' L st) : gV G z0 X cells slots h pc L (.ref v :: .int (nI k) :: .ref a :: st) := by
  refine v_vast F ha hv (g_clamp hk hn).1 d hp ?_
  rw [(g_clamp hk hn).2]
  exact kk _ (gu_eq _ _ _) gfr.put
theorem w_new (F : gF G z0 X cc nL own Ts ret nm fr lo mc ms) {ci N index : Nat} {C : String} {T : u_T} (fs : List Value) {ty0 : Nat → FieldType} (hC : gCl Ts ci C T N) (hty : ∀ k, k < N → parseFieldDescriptor (T k).2.2.1 = some (ty0 k)) (hm1 : Cond.classLink own index C ∈ Ts) (hm2 : Cond.instantiable C N ∈ Ts) (hm3 : Cond.initialized C ∈ Ts) (hfs : ∀ j, j < N → defaultValue (ty0 j) = vp_V fs j) (hcc : cells + 1 ≤ mc) (hcs : slots + N ≤ ms) (d : decode cc pc = .ok (.new index, 3)) (hp : pc + 3 = pc') (kk : ∀ (q : Nat) (h1 : gH), h q = none → h1 q = some (.inr (ci, fs)) → gfr [] h h1 → gV G z0 X (cells + 1) (slots + N) h1 pc' L (.ref q :: st)) : gV G z0 X cells slots h pc L st :=
  v_new F hC hty hm1 hm2 hm3 hfs hcc hcs d hp (fun q hq => kk q _ hq (gu_eq _ _ _) (gfr.new hq))
theorem w_newaI (F : gF G z0 X cc nL own Ts ret nm fr lo mc ms) {N' : Nat} (hm1 : Cond.arrayClass .int ∈ Ts) (hN : N' < 65536) (hcc : cells + 1 ≤ mc) (hcs : slots + N' ≤ ms) (d : decode cc pc = .ok (.newarray .int, 2)) (hp : pc + 2 = pc') (kk : ∀ (q : Nat) (h1 : gH), h q = none → h1 q = some (oI G N' (fun _ => 0)) → gfr [] h h1 → gV G z0 X (cells + 1) (slots + N') h1 pc' L (.ref q :: st)) : gV G z0 X cells slots h pc L (.int (nI N') :: st) :=
  v_newaI F hm1 (nI_pos (by omega)) (nI_clamp (by omega)) (Nat.le_trans (Nat.mul_le_mul_left N' (show componentBytes .int ≤ 8 by decide)) (by omega)) hcc hcs d hp (fun q hq => kk q _ hq (gu_eq _ _ _) (gfr.new hq))
theorem w_newaB (F : gF G z0 X cc nL own Ts ret nm fr lo mc ms) {N' : Nat} (hm1 : Cond.arrayClass .byte ∈ Ts) (hN : N' < 65536) (hcc : cells + 1 ≤ mc) (hcs : slots + N' ≤ ms) (d : decode cc pc = .ok (.newarray .byte, 2)) (hp : pc + 2 = pc') (kk : ∀ (q : Nat) (h1 : gH), h q = none → h1 q = some (oB G N' (fun _ => 0)) → gfr [] h h1 → gV G z0 X (cells + 1) (slots + N') h1 pc' L (.ref q :: st)) : gV G z0 X cells slots h pc L (.int (nI N') :: st) :=
  v_newaB F hm1 (nI_pos (by omega)) (nI_clamp (by omega)) (Nat.le_trans (Nat.mul_le_mul_left N' (show componentBytes .byte ≤ 8 by decide)) (by omega)) hcc hcs d hp (fun q hq => kk q _ hq (gu_eq _ _ _) (gfr.new hq))
theorem w_newaL (F : gF G z0 X cc nL own Ts ret nm fr lo mc ms) {N' : Nat} (hm1 : Cond.arrayClass .long ∈ Ts) (hN : N' < 65536) (hcc : cells + 1 ≤ mc) (hcs : slots + N' ≤ ms) (d : decode cc pc = .ok (.newarray .long, 2)) (hp : pc + 2 = pc') (kk : ∀ (q : Nat) (h1 : gH), h q = none → h1 q = some (oL G N' (fun _ => 0)) → gfr [] h h1 → gV G z0 X (cells + 1) (slots + N') h1 pc' L (.ref q :: st)) : gV G z0 X cells slots h pc L (.int (nI N') :: st) :=
  v_newaL F hm1 (nI_pos (by omega)) (nI_clamp (by omega)) (Nat.le_trans (Nat.mul_le_mul_left N' (show componentBytes .long ≤ 8 by decide)) (by omega)) hcc hcs d hp (fun q hq => kk q _ hq (gu_eq _ _ _) (gfr.new hq))
theorem w_newrQ (F : gF G z0 X cc nL own Ts ret nm fr lo mc ms) {N' index : Nat} (hm1 : Cond.classLink own index RX0 ∈ Ts) (hN : N' < 65536) (hcc : cells + 1 ≤ mc) (hcs : slots + N' ≤ ms) (d : decode cc pc = .ok (.anewarray index, 3)) (hp : pc + 3 = pc') (kk : ∀ (q : Nat) (h1 : gH), h q = none → h1 q = some (oQ G N' (fun _ => none)) → gfr [] h h1 → gV G z0 X (cells + 1) (slots + N') h1 pc' L (.ref q :: st)) : gV G z0 X cells slots h pc L (.int (nI N') :: st) :=
  v_newrQ F hm1 (nI_pos (by omega)) (nI_clamp (by omega)) (by omega) hcc hcs d hp (fun q hq => kk q _ hq (gu_eq _ _ _) (gfr.new hq))
theorem w_newrV (F : gF G z0 X cc nL own Ts ret nm fr lo mc ms) {N' index : Nat} (hm1 : Cond.classLink own index RX5 ∈ Ts) (hN : N' < 65536) (hcc : cells + 1 ≤ mc) (hcs : slots + N' ≤ ms) (d : decode cc pc = .ok (.anewarray index, 3)) (hp : pc + 3 = pc') (kk : ∀ (q : Nat) (h1 : gH), h q = none → h1 q = some (oV G N' (fun _ => none)) → gfr [] h h1 → gV G z0 X (cells + 1) (slots + N') h1 pc' L (.ref q :: st)) : gV G z0 X cells slots h pc L (.int (nI N') :: st) :=
  v_newrV F hm1 (nI_pos (by omega)) (nI_clamp (by omega)) (by omega) hcc hcs d hp (fun q hq => kk q _ hq (gu_eq _ _ _) (gfr.new hq))
theorem w_alenI (F : gF G z0 X cc nL own Ts ret nm fr lo mc ms) {a n : Nat} {f : Nat → Int32} (ha : h a = some (oI G n f)) (d : decode cc pc = .ok (.arraylength, 1)) (hp : pc + 1 = pc') (kk : gV G z0 X cells slots h pc' L (.int (nI n) :: st)) : gV G z0 X cells slots h pc L (.ref a :: st) := by
  obtain ⟨p, l, e, R, s, m, args, below, meth, c, Q⟩ := X
  obtain ⟨hx, hb, hml, hown, hts, ⟨hK, hKr⟩, hz, hlk, hr, hnm, hR⟩ := F
  subst hp
  intro H locs ls hG hS hL
  obtain ⟨ws, hP, hD, hI⟩ := id hG
  obtain ⟨q0, hq⟩ := (hI _ _).mp ha
  exact va_alen hx hb hK hP q0 0 hq rfl rfl d (kk H locs ls hG hS hL)
theorem w_alenB (F : gF G z0 X cc nL own Ts ret nm fr lo mc ms) {a n : Nat} {f : Nat → Int32} (ha : h a = some (oB G n f)) (d : decode cc pc = .ok (.arraylength, 1)) (hp : pc + 1 = pc') (kk : gV G z0 X cells slots h pc' L (.int (nI n) :: st)) : gV G z0 X cells slots h pc L (.ref a :: st) := by
  obtain ⟨p, l, e, R, s, m, args, below, meth, c, Q⟩ := X
  obtain ⟨hx, hb, hml, hown, hts, ⟨hK, hKr⟩, hz, hlk, hr, hnm, hR⟩ := F
  subst hp
  intro H locs ls hG hS hL
  obtain ⟨ws, hP, hD, hI⟩ := id hG
  obtain ⟨q0, hq⟩ := (hI _ _).mp ha
  exact va_alen hx hb hK hP q0 1 hq rfl rfl d (kk H locs ls hG hS hL)
theorem w_alenL (F : gF G z0 X cc nL own Ts ret nm fr lo mc ms) {a n : Nat} {f : Nat → Int64} (ha : h a = some (oL G n f)) (d : decode cc pc = .ok (.arraylength, 1)) (hp : pc + 1 = pc') (kk : gV G z0 X cells slots h pc' L (.int (nI n) :: st)) : gV G z0 X cells slots h pc L (.ref a :: st) := by
  obtain ⟨p, l, e, R, s, m, args, below, meth, c, Q⟩ := X
  obtain ⟨hx, hb, hml, hown, hts, ⟨hK, hKr⟩, hz, hlk, hr, hnm, hR⟩ := F
  subst hp
  intro H locs ls hG hS hL
  obtain ⟨ws, hP, hD, hI⟩ := id hG
  obtain ⟨q0, hq⟩ := (hI _ _).mp ha
  exact va_alen hx hb hK hP q0 2 hq rfl rfl d (kk H locs ls hG hS hL)
theorem w_alenQ (F : gF G z0 X cc nL own Ts ret nm fr lo mc ms) {a n : Nat} {f : Nat → Option Nat} (ha : h a = some (oQ G n f)) (d : decode cc pc = .ok (.arraylength, 1)) (hp : pc + 1 = pc') (kk : gV G z0 X cells slots h pc' L (.int (nI n) :: st)) : gV G z0 X cells slots h pc L (.ref a :: st) := by
  obtain ⟨p, l, e, R, s, m, args, below, meth, c, Q⟩ := X
  obtain ⟨hx, hb, hml, hown, hts, ⟨hK, hKr⟩, hz, hlk, hr, hnm, hR⟩ := F
  subst hp
  intro H locs ls hG hS hL
  obtain ⟨ws, hP, hD, hI⟩ := id hG
  obtain ⟨q0, hq⟩ := (hI _ _).mp ha
  exact va_alen hx hb hK hP q0 3 hq rfl rfl d (kk H locs ls hG hS hL)
theorem w_alenV (F : gF G z0 X cc nL own Ts ret nm fr lo mc ms) {a n : Nat} {f : Nat → Option Nat} (ha : h a = some (oV G n f)) (d : decode cc pc = .ok (.arraylength, 1)) (hp : pc + 1 = pc') (kk : gV G z0 X cells slots h pc' L (.int (nI n) :: st)) : gV G z0 X cells slots h pc L (.ref a :: st) := by
  obtain ⟨p, l, e, R, s, m, args, below, meth, c, Q⟩ := X
  obtain ⟨hx, hb, hml, hown, hts, ⟨hK, hKr⟩, hz, hlk, hr, hnm, hR⟩ := F
  subst hp
  intro H locs ls hG hS hL
  obtain ⟨ws, hP, hD, hI⟩ := id hG
  obtain ⟨q0, hq⟩ := (hI _ _).mp ha
  exact va_alen hx hb hK hP q0 4 hq rfl rfl d (kk H locs ls hG hS hL)
theorem w_icmp_eq (F : gF G z0 X cc nL own Ts ret nm fr lo mc ms) {a b : Nat} {off : Int} {tgt : Nat} (ha : a < 2147483648) (hb : b < 2147483648) (d : decode cc pc = .ok (.if_icmp .eq off, 3)) (ht : (pc : Int) + off = (tgt : Int)) (hp : pc + 3 = pc') (kt : a = b → gV G z0 X cells slots h tgt L st) (kf : a ≠ b → gV G z0 X cells slots h pc' L st) : gV G z0 X cells slots h pc L (.int (nI b) :: .int (nI a) :: st) :=
  v_icmp_eq F d ht hp (fun q => kt ((nI_eq ha hb).mp q)) (fun q => kf (fun z => q ((nI_eq ha hb).mpr z)))
theorem w_icmp_ne (F : gF G z0 X cc nL own Ts ret nm fr lo mc ms) {a b : Nat} {off : Int} {tgt : Nat} (ha : a < 2147483648) (hb : b < 2147483648) (d : decode cc pc = .ok (.if_icmp .ne off, 3)) (ht : (pc : Int) + off = (tgt : Int)) (hp : pc + 3 = pc') (kt : a ≠ b → gV G z0 X cells slots h tgt L st) (kf : a = b → gV G z0 X cells slots h pc' L st) : gV G z0 X cells slots h pc L (.int (nI b) :: .int (nI a) :: st) :=
  v_icmp_ne F d ht hp (fun q => kt (fun z => q ((nI_eq ha hb).mpr z))) (fun q => kf ((nI_eq ha hb).mp q))
theorem w_icmp_lt (F : gF G z0 X cc nL own Ts ret nm fr lo mc ms) {a b : Nat} {off : Int} {tgt : Nat} (ha : a < 2147483648) (hb : b < 2147483648) (d : decode cc pc = .ok (.if_icmp .lt off, 3)) (ht : (pc : Int) + off = (tgt : Int)) (hp : pc + 3 = pc') (kt : a < b → gV G z0 X cells slots h tgt L st) (kf : b ≤ a → gV G z0 X cells slots h pc' L st) : gV G z0 X cells slots h pc L (.int (nI b) :: .int (nI a) :: st) :=
  v_icmp_lt F d ht hp (fun q => kt ((nI_ltI ha hb).mp q)) (fun q => kf (Nat.not_lt.mp (fun z => q ((nI_ltI ha hb).mpr z))))
theorem w_icmp_ge (F : gF G z0 X cc nL own Ts ret nm fr lo mc ms) {a b : Nat} {off : Int} {tgt : Nat} (ha : a < 2147483648) (hb : b < 2147483648) (d : decode cc pc = .ok (.if_icmp .ge off, 3)) (ht : (pc : Int) + off = (tgt : Int)) (hp : pc + 3 = pc') (kt : b ≤ a → gV G z0 X cells slots h tgt L st) (kf : a < b → gV G z0 X cells slots h pc' L st) : gV G z0 X cells slots h pc L (.int (nI b) :: .int (nI a) :: st) :=
  v_icmp_ge F d ht hp (fun q => kt ((nI_leI hb ha).mp q)) (fun q => kf (Nat.not_le.mp (fun z => q ((nI_leI hb ha).mpr z))))
theorem w_icmp_gt (F : gF G z0 X cc nL own Ts ret nm fr lo mc ms) {a b : Nat} {off : Int} {tgt : Nat} (ha : a < 2147483648) (hb : b < 2147483648) (d : decode cc pc = .ok (.if_icmp .gt off, 3)) (ht : (pc : Int) + off = (tgt : Int)) (hp : pc + 3 = pc') (kt : b < a → gV G z0 X cells slots h tgt L st) (kf : a ≤ b → gV G z0 X cells slots h pc' L st) : gV G z0 X cells slots h pc L (.int (nI b) :: .int (nI a) :: st) :=
  v_icmp_gt F d ht hp (fun q => kt ((nI_ltI hb ha).mp q)) (fun q => kf (Nat.not_lt.mp (fun z => q ((nI_ltI hb ha).mpr z))))
theorem w_icmp_le (F : gF G z0 X cc nL own Ts ret nm fr lo mc ms) {a b : Nat} {off : Int} {tgt : Nat} (ha : a < 2147483648) (hb : b < 2147483648) (d : decode cc pc = .ok (.if_icmp .le off, 3)) (ht : (pc : Int) + off = (tgt : Int)) (hp : pc + 3 = pc') (kt : a ≤ b → gV G z0 X cells slots h tgt L st) (kf : b < a → gV G z0 X cells slots h pc' L st) : gV G z0 X cells slots h pc L (.int (nI b) :: .int (nI a) :: st) :=
  v_icmp_le F d ht hp (fun q => kt ((nI_leI ha hb).mp q)) (fun q => kf (Nat.not_le.mp (fun z => q ((nI_leI ha hb).mpr z))))
theorem w_if_eq (F : gF G z0 X cc nL own Ts ret nm fr lo mc ms) {a : Nat} {off : Int} {tgt : Nat} (ha : a < 2147483648) (d : decode cc pc = .ok (.ifCond .eq off, 3)) (ht : (pc : Int) + off = (tgt : Int)) (hp : pc + 3 = pc') (kt : a = 0 → gV G z0 X cells slots h tgt L st) (kf : a ≠ 0 → gV G z0 X cells slots h pc' L st) : gV G z0 X cells slots h pc L (.int (nI a) :: st) := by
  have hb : (0 : Nat) < 2147483648 := by omega
  have z0 : (0 : Int32) = nI 0 := rfl
  refine v_if_eq F d ht hp (fun q => kt ?_) (fun q => kf ?_)
  · rw [z0] at q
    first | exact (nI_eq ha hb).mp q | exact (nI_ltI ha hb).mp q | exact (nI_leI hb ha).mp q | exact (nI_ltI hb ha).mp q | exact (nI_leI ha hb).mp q | exact fun z => q ((nI_eq ha hb).mpr z)
  · rw [z0] at q
    first | exact (nI_eq ha hb).mp q | exact Nat.not_lt.mp (fun z => q ((nI_ltI ha hb).mpr z)) | exact Nat.not_le.mp (fun z => q ((nI_leI hb ha).mpr z)) | exact Nat.not_lt.mp (fun z => q ((nI_ltI hb ha).mpr z)) | exact Nat.not_le.mp (fun z => q ((nI_leI ha hb).mpr z)) | exact fun z => q ((nI_eq ha hb).mpr z)
theorem w_if_ne (F : gF G z0 X cc nL own Ts ret nm fr lo mc ms) {a : Nat} {off : Int} {tgt : Nat} (ha : a < 2147483648) (d : decode cc pc = .ok (.ifCond .ne off, 3)) (ht : (pc : Int) + off = (tgt : Int)) (hp : pc + 3 = pc') (kt : a ≠ 0 → gV G z0 X cells slots h tgt L st) (kf : a = 0 → gV G z0 X cells slots h pc' L st) : gV G z0 X cells slots h pc L (.int (nI a) :: st) := by
  have hb : (0 : Nat) < 2147483648 := by omega
  have z0 : (0 : Int32) = nI 0 := rfl
  refine v_if_ne F d ht hp (fun q => kt ?_) (fun q => kf ?_)
  · rw [z0] at q
    first | exact (nI_eq ha hb).mp q | exact (nI_ltI ha hb).mp q | exact (nI_leI hb ha).mp q | exact (nI_ltI hb ha).mp q | exact (nI_leI ha hb).mp q | exact fun z => q ((nI_eq ha hb).mpr z)
  · rw [z0] at q
    first | exact (nI_eq ha hb).mp q | exact Nat.not_lt.mp (fun z => q ((nI_ltI ha hb).mpr z)) | exact Nat.not_le.mp (fun z => q ((nI_leI hb ha).mpr z)) | exact Nat.not_lt.mp (fun z => q ((nI_ltI hb ha).mpr z)) | exact Nat.not_le.mp (fun z => q ((nI_leI ha hb).mpr z)) | exact fun z => q ((nI_eq ha hb).mpr z)
theorem w_if_lt (F : gF G z0 X cc nL own Ts ret nm fr lo mc ms) {a : Nat} {off : Int} {tgt : Nat} (ha : a < 2147483648) (d : decode cc pc = .ok (.ifCond .lt off, 3)) (ht : (pc : Int) + off = (tgt : Int)) (hp : pc + 3 = pc') (kt : a < 0 → gV G z0 X cells slots h tgt L st) (kf : 0 ≤ a → gV G z0 X cells slots h pc' L st) : gV G z0 X cells slots h pc L (.int (nI a) :: st) := by
  have hb : (0 : Nat) < 2147483648 := by omega
  have z0 : (0 : Int32) = nI 0 := rfl
  refine v_if_lt F d ht hp (fun q => kt ?_) (fun q => kf ?_)
  · rw [z0] at q
    first | exact (nI_eq ha hb).mp q | exact (nI_ltI ha hb).mp q | exact (nI_leI hb ha).mp q | exact (nI_ltI hb ha).mp q | exact (nI_leI ha hb).mp q | exact fun z => q ((nI_eq ha hb).mpr z)
  · rw [z0] at q
    first | exact (nI_eq ha hb).mp q | exact Nat.not_lt.mp (fun z => q ((nI_ltI ha hb).mpr z)) | exact Nat.not_le.mp (fun z => q ((nI_leI hb ha).mpr z)) | exact Nat.not_lt.mp (fun z => q ((nI_ltI hb ha).mpr z)) | exact Nat.not_le.mp (fun z => q ((nI_leI ha hb).mpr z)) | exact fun z => q ((nI_eq ha hb).mpr z)
theorem w_if_ge (F : gF G z0 X cc nL own Ts ret nm fr lo mc ms) {a : Nat} {off : Int} {tgt : Nat} (ha : a < 2147483648) (d : decode cc pc = .ok (.ifCond .ge off, 3)) (ht : (pc : Int) + off = (tgt : Int)) (hp : pc + 3 = pc') (kt : 0 ≤ a → gV G z0 X cells slots h tgt L st) (kf : a < 0 → gV G z0 X cells slots h pc' L st) : gV G z0 X cells slots h pc L (.int (nI a) :: st) := by
  have hb : (0 : Nat) < 2147483648 := by omega
  have z0 : (0 : Int32) = nI 0 := rfl
  refine v_if_ge F d ht hp (fun q => kt ?_) (fun q => kf ?_)
  · rw [z0] at q
    first | exact (nI_eq ha hb).mp q | exact (nI_ltI ha hb).mp q | exact (nI_leI hb ha).mp q | exact (nI_ltI hb ha).mp q | exact (nI_leI ha hb).mp q | exact fun z => q ((nI_eq ha hb).mpr z)
  · rw [z0] at q
    first | exact (nI_eq ha hb).mp q | exact Nat.not_lt.mp (fun z => q ((nI_ltI ha hb).mpr z)) | exact Nat.not_le.mp (fun z => q ((nI_leI hb ha).mpr z)) | exact Nat.not_lt.mp (fun z => q ((nI_ltI hb ha).mpr z)) | exact Nat.not_le.mp (fun z => q ((nI_leI ha hb).mpr z)) | exact fun z => q ((nI_eq ha hb).mpr z)
theorem w_if_gt (F : gF G z0 X cc nL own Ts ret nm fr lo mc ms) {a : Nat} {off : Int} {tgt : Nat} (ha : a < 2147483648) (d : decode cc pc = .ok (.ifCond .gt off, 3)) (ht : (pc : Int) + off = (tgt : Int)) (hp : pc + 3 = pc') (kt : 0 < a → gV G z0 X cells slots h tgt L st) (kf : a ≤ 0 → gV G z0 X cells slots h pc' L st) : gV G z0 X cells slots h pc L (.int (nI a) :: st) := by
  have hb : (0 : Nat) < 2147483648 := by omega
  have z0 : (0 : Int32) = nI 0 := rfl
  refine v_if_gt F d ht hp (fun q => kt ?_) (fun q => kf ?_)
  · rw [z0] at q
    first | exact (nI_eq ha hb).mp q | exact (nI_ltI ha hb).mp q | exact (nI_leI hb ha).mp q | exact (nI_ltI hb ha).mp q | exact (nI_leI ha hb).mp q | exact fun z => q ((nI_eq ha hb).mpr z)
  · rw [z0] at q
    first | exact (nI_eq ha hb).mp q | exact Nat.not_lt.mp (fun z => q ((nI_ltI ha hb).mpr z)) | exact Nat.not_le.mp (fun z => q ((nI_leI hb ha).mpr z)) | exact Nat.not_lt.mp (fun z => q ((nI_ltI hb ha).mpr z)) | exact Nat.not_le.mp (fun z => q ((nI_leI ha hb).mpr z)) | exact fun z => q ((nI_eq ha hb).mpr z)
theorem w_if_le (F : gF G z0 X cc nL own Ts ret nm fr lo mc ms) {a : Nat} {off : Int} {tgt : Nat} (ha : a < 2147483648) (d : decode cc pc = .ok (.ifCond .le off, 3)) (ht : (pc : Int) + off = (tgt : Int)) (hp : pc + 3 = pc') (kt : a ≤ 0 → gV G z0 X cells slots h tgt L st) (kf : 0 < a → gV G z0 X cells slots h pc' L st) : gV G z0 X cells slots h pc L (.int (nI a) :: st) := by
  have hb : (0 : Nat) < 2147483648 := by omega
  have z0 : (0 : Int32) = nI 0 := rfl
  refine v_if_le F d ht hp (fun q => kt ?_) (fun q => kf ?_)
  · rw [z0] at q
    first | exact (nI_eq ha hb).mp q | exact (nI_ltI ha hb).mp q | exact (nI_leI hb ha).mp q | exact (nI_ltI hb ha).mp q | exact (nI_leI ha hb).mp q | exact fun z => q ((nI_eq ha hb).mpr z)
  · rw [z0] at q
    first | exact (nI_eq ha hb).mp q | exact Nat.not_lt.mp (fun z => q ((nI_ltI ha hb).mpr z)) | exact Nat.not_le.mp (fun z => q ((nI_leI hb ha).mpr z)) | exact Nat.not_lt.mp (fun z => q ((nI_ltI hb ha).mpr z)) | exact Nat.not_le.mp (fun z => q ((nI_leI ha hb).mpr z)) | exact fun z => q ((nI_eq ha hb).mpr z)
theorem g_eqn {x : Int32} {a b : Nat} (e : x = nI a) (h : a = b) : x = nI b := by rw [e, h]
theorem g_dec {k : Nat} (h : 0 < k) : nI k + Int32.ofInt (-1) = nI (k - 1) := sb_m1 h
theorem g_subn {a b c : Nat} (h : b ≤ a) (e : a - b = c) : nI a - nI b = nI c := by rw [pk_sub h, e]
theorem g_maxn {x y : Nat} (hx : x < 2147483648) (hy : y < 2147483648) : (if nI x < nI y then nI y else nI x) = nI (max x y) := by
  by_cases q : x < y
  · rw [if_pos ((nI_ltI hx hy).mpr q), Nat.max_eq_right (Nat.le_of_lt q)]
  · rw [if_neg (fun z => q ((nI_ltI hx hy).mp z)), Nat.max_eq_left (Nat.not_lt.mp q)]
theorem g_minn {x y : Nat} (hx : x < 2147483648) (hy : y < 2147483648) : (if nI y < nI x then nI y else nI x) = nI (min x y) := by
  by_cases q : y < x
  · rw [if_pos ((nI_ltI hy hx).mpr q), Nat.min_eq_right (Nat.le_of_lt q)]
  · rw [if_neg (fun z => q ((nI_ltI hy hx).mp z)), Nat.min_eq_left (Nat.not_lt.mp q)]
theorem gcat (r : Option Nat) : (va_rf r).category = 1 := by cases r <;> rfl
theorem gci (x : Int32) : (Value.int x).category = 1 := rfl
theorem gcr (x : Nat) : (Value.ref x).category = 1 := rfl
theorem gcn : Value.null.category = 1 := rfl
theorem gcl (x : Int64) : (Value.long x).category = 2 := rfl
theorem gvs (a : Nat) : va_rf (some a) = .ref a := rfl
theorem gvn : va_rf none = .null := rfl
theorem gnar (n : String) (r : Option Nat) : narrow (.object n) (va_rf r) = va_rf r := by cases r <;> rfl
theorem gfit (n : String) (r : Option Nat) : fits (.object n) (va_rf r) = true := by cases r <;> rfl
theorem gnarA (t : FieldType) (r : Option Nat) : narrow (.array t) (va_rf r) = va_rf r := by cases r <;> rfl
theorem gfitA (t : FieldType) (r : Option Nat) : fits (.array t) (va_rf r) = true := by cases r <;> rfl
theorem g_dv0 : ∀ j, j < 4 → defaultValue (tyX0 j) = vp_V [.null, .int (nI 0), .int (nI 0), .int (nI 0)] j := by decide +kernel
theorem g_dv1 : ∀ j, j < 2 → defaultValue (tyX1 j) = vp_V [.int (nI 0), .null] j := by decide +kernel
theorem g_dv2 : ∀ j, j < 4 → defaultValue (tyX2 j) = vp_V [.int (nI 0), .int (nI 0), .int (nI 0), .int (nI 0)] j := by decide +kernel
theorem g_dv3 : ∀ j, j < 10 → defaultValue (tyX3 j) = vp_V [.int (nI 0), .null, .int (nI 0), .null, .int (nI 0), .int (nI 0), .int (nI 0), .int (nI 0), .int (nI 0), .int (nI 0)] j := by decide +kernel
theorem g_dv4 : ∀ j, j < 6 → defaultValue (tyX4 j) = vp_V [.int (nI 0), .int (nI 0), .null, .null, .null, .null] j := by decide +kernel
theorem g_dv5 : ∀ j, j < 9 → defaultValue (tyX5 j) = vp_V [.null, .int (nI 0), .int (nI 0), .null, .null, .null, .int (nI 0), .int (nI 0), .int (nI 0)] j := by decide +kernel
theorem g_dv6 : ∀ j, j < 10 → defaultValue (tyX6 j) = vp_V [.null, .null, .null, .null, .null, .null, .int (nI 0), .int (nI 0), .int (nI 0), .int (nI 0)] j := by decide +kernel
theorem g_dv7 : ∀ j, j < 26 → defaultValue (tyX7 j) = vp_V [.int (nI 0), .null, .null, .int (nI 0), .int (nI 0), .null, .null, .int (nI 0), .int (nI 0), .int (nI 0), .int (nI 0), .int (nI 0), .null, .int (nI 0), .null, .null, .null, .null, .int (nI 0), .int (nI 0), .int (nI 0), .int (nI 0), .int (nI 0), .int (nI 0), .int (nI 0), .int (nI 0)] j := by decide +kernel
end GM
