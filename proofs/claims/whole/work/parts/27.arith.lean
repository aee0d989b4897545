/-! ROWS OF LONG AND FLOAT ARITHMETIC -/
section GV2
variable {G : gG} {z0 : Nat} {X : gX} {cc : ByteArray} {nL fr lo mc ms : Nat} {own nm : String} {Ts : List Cond} {ret : Option FieldType} {cells slots : Nat} {h : gH} {pc pc' : Nat} {L L' : List (Nat × Value)} {st : List Value}
theorem v_ldc2 (F : gF G z0 X cc nL own Ts ret nm fr lo mc ms) {index : Nat} {v : Int64} (hm : Cond.constantLong own index v ∈ Ts) (d : decode cc pc = .ok (.ldc2_w index, 3)) (hp : pc + 3 = pc') (k : gV G z0 X cells slots h pc' L (.long v :: st)) : gV G z0 X cells slots h pc L st := by
  obtain ⟨p, l, e, R, s, m, args, below, meth, c, Q⟩ := X
  obtain ⟨hx, hb, hml, hown, hts, ⟨hK, hKr⟩, hz, hlk, hr, hnm, hR⟩ := F
  subst hp
  intro H locs ls hG hS hL
  exact lv_ldc2 hx hb hown (hts _ hm) d (k H locs ls hG hS hL)
theorem v_fdiv (F : gF G z0 X cc nL own Ts ret nm fr lo mc ms) {x y : UInt32} (hne : vf_n32 (FP.fdiv x y)) (d : decode cc pc = .ok (.fdiv, 1)) (hp : pc + 1 = pc') (k : gV G z0 X cells slots h pc' L (.float (FP.fdiv x y) :: st)) : gV G z0 X cells slots h pc L (.float y :: .float x :: st) := by
  obtain ⟨p, l, e, R, s, m, args, below, meth, c, Q⟩ := X
  obtain ⟨hx, hb, hml, hown, hts, ⟨hK, hKr⟩, hz, hlk, hr, hnm, hR⟩ := F
  subst hp
  intro H locs ls hG hS hL
  exact lv_fdiv hx hb d hne (k H locs ls hG hS hL)
end GV2
theorem fd_all : ∀ b : Fin 63, ∀ a : Fin 253, vf_n32 (FP.fdiv (FP.i2f (nI a.1)) (FP.i2f (nI (b.1 + 1)))) := by unfold vf_n32; decide +kernel
theorem fd_ok {a b : Nat} (ha : a < 253) (h0 : 0 < b) (hb : b < 64) : vf_n32 (FP.fdiv (FP.i2f (nI a)) (FP.i2f (nI b))) := by
  have := fd_all ⟨b - 1, by omega⟩ ⟨a, ha⟩
  simp only at this
  rwa [show b - 1 + 1 = b by omega] at this
def mx (s : Int64) (k : Int32) : Int64 := 31 * s + k.toInt64
def mxL (s : Int64) (xs : List Int32) : Int64 := xs.foldl mx s
def lsQ (q : mQ) : Nat → Nat → List Int32
  | 0, _ => []
  | m + 1, k => qList q k ++ (-1 :: lsQ q m (k + 1))
def lsV (os : List mO) : List Int32 := wVals os ++ lsQ (qOf os).1 6 1
theorem lsQ_s (q : mQ) (m k : Nat) : lsQ q (m + 1) k = qList q k ++ (-1 :: lsQ q m (k + 1)) := rfl
theorem mxL_app (s : Int64) (xs ys : List Int32) : mxL s (xs ++ ys) = mxL (mxL s xs) ys := List.foldl_append ..
theorem mxL_cons (s : Int64) (x : Int32) (xs : List Int32) : mxL s (x :: xs) = mxL (mx s x) xs := rfl
theorem mxL_nil (s : Int64) : mxL s [] = s := rfl

