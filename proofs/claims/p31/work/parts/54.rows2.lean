section QROWS2
variable {σ : q_E} {p : Program} {l : Launch} {e : Env} {R : Room} {s : State} {m : MethodId} {args : Array Value} {below : List Frame} {meth : Method} {c : Code} {Q : State → Prop} {nL cells slots : Nat} {V : q_V} {G : q_G} {lv : List (Nat × Value)} {pc : Nat} {st : List Value} {cc : ByteArray} {own : String} {Ts : List Cond}
theorem q_ior (C : q_C σ p s m args c cc nL own Ts) {x y : Int32} (hd : decode cc pc = .ok (.ior, 1)) (kk : q_W σ p l e R s m args below meth c Q nL cells slots V G lv (pc + 1) (.int (x ||| y) :: st)) : q_W σ p l e R s m args below meth c Q nL cells slots V G lv pc (.int y :: .int x :: st) := fun H locs ls hP hS hl => lv_ior C.1 C.2.1 hd (kk H locs ls hP hS hl)
theorem q_ixor (C : q_C σ p s m args c cc nL own Ts) {x y : Int32} (hd : decode cc pc = .ok (.ixor, 1)) (kk : q_W σ p l e R s m args below meth c Q nL cells slots V G lv (pc + 1) (.int (x ^^^ y) :: st)) : q_W σ p l e R s m args below meth c Q nL cells slots V G lv pc (.int y :: .int x :: st) := fun H locs ls hP hS hl => lv_ixor C.1 C.2.1 hd (kk H locs ls hP hS hl)
theorem q_ishl (C : q_C σ p s m args c cc nL own Ts) {x y : Int32} (hd : decode cc pc = .ok (.ishl, 1)) (kk : q_W σ p l e R s m args below meth c Q nL cells slots V G lv (pc + 1) (.int (x <<< (y &&& 31)) :: st)) : q_W σ p l e R s m args below meth c Q nL cells slots V G lv pc (.int y :: .int x :: st) := fun H locs ls hP hS hl => lv_ishl C.1 C.2.1 hd (kk H locs ls hP hS hl)
theorem q_ishr (C : q_C σ p s m args c cc nL own Ts) {x y : Int32} (hd : decode cc pc = .ok (.ishr, 1)) (kk : q_W σ p l e R s m args below meth c Q nL cells slots V G lv (pc + 1) (.int (x >>> (y &&& 31)) :: st)) : q_W σ p l e R s m args below meth c Q nL cells slots V G lv pc (.int y :: .int x :: st) := fun H locs ls hP hS hl => lv_ishr C.1 C.2.1 hd (kk H locs ls hP hS hl)
theorem q_ishrN (C : q_C σ p s m args c cc nL own Ts) {a n : Nat} (hd : decode cc pc = .ok (.ishr, 1)) (ha : a < 2 ^ 31) (hn : n < 32) (kk : q_W σ p l e R s m args below meth c Q nL cells slots V G lv (pc + 1) (.int (nI (a / 2 ^ n)) :: st)) : q_W σ p l e R s m args below meth c Q nL cells slots V G lv pc (.int (nI n) :: .int (nI a) :: st) := by
  refine q_ishr C hd ?_
  rw [zb_shr ha hn]
  exact kk
theorem q_ishlN (C : q_C σ p s m args c cc nL own Ts) {a n : Nat} (hd : decode cc pc = .ok (.ishl, 1)) (hn : n < 32) (kk : q_W σ p l e R s m args below meth c Q nL cells slots V G lv (pc + 1) (.int (nI (a * 2 ^ n)) :: st)) : q_W σ p l e R s m args below meth c Q nL cells slots V G lv pc (.int (nI n) :: .int (nI a) :: st) := by
  refine q_ishl C hd ?_
  rw [zb_shl a hn]
  exact kk
theorem q_iorN (C : q_C σ p s m args c cc nL own Ts) {a b : Nat} (hd : decode cc pc = .ok (.ior, 1)) (kk : q_W σ p l e R s m args below meth c Q nL cells slots V G lv (pc + 1) (.int (nI (a ||| b)) :: st)) : q_W σ p l e R s m args below meth c Q nL cells slots V G lv pc (.int (nI b) :: .int (nI a) :: st) := by
  refine q_ior C hd ?_
  rw [zb_or]
  exact kk
theorem q_iand7N (C : q_C σ p s m args c cc nL own Ts) {a : Nat} (hd : decode cc pc = .ok (.iand, 1)) (kk : q_W σ p l e R s m args below meth c Q nL cells slots V G lv (pc + 1) (.int (nI (a % 8)) :: st)) : q_W σ p l e R s m args below meth c Q nL cells slots V G lv pc (.int (nI 7) :: .int (nI a) :: st) := by
  refine q_iand C hd ?_
  rw [zb_and7]
  exact kk
theorem q_iand3N (C : q_C σ p s m args c cc nL own Ts) {a : Nat} (hd : decode cc pc = .ok (.iand, 1)) (kk : q_W σ p l e R s m args below meth c Q nL cells slots V G lv (pc + 1) (.int (nI (a % 4)) :: st)) : q_W σ p l e R s m args below meth c Q nL cells slots V G lv pc (.int (nI 3) :: .int (nI a) :: st) := by
  refine q_iand C hd ?_
  rw [zb_and3]
  exact kk
theorem q_iand1N (C : q_C σ p s m args c cc nL own Ts) {a : Nat} (hd : decode cc pc = .ok (.iand, 1)) (kk : q_W σ p l e R s m args below meth c Q nL cells slots V G lv (pc + 1) (.int (nI (a % 2)) :: st)) : q_W σ p l e R s m args below meth c Q nL cells slots V G lv pc (.int (nI 1) :: .int (nI a) :: st) := by
  refine q_iand C hd ?_
  rw [zb_and1]
  exact kk
theorem q_iandW (C : q_C σ p s m args c cc nL own Ts) {A B : Prop} (hd : decode cc pc = .ok (.iand, 1)) (kk : q_W σ p l e R s m args below meth c Q nL cells slots V G lv (pc + 1) (.int (q_w01 (A ∧ B)) :: st)) : q_W σ p l e R s m args below meth c Q nL cells slots V G lv pc (.int (q_w01 B) :: .int (q_w01 A) :: st) := by
  refine q_iand C hd ?_
  have e : q_w01 A &&& q_w01 B = q_w01 (A ∧ B) := by
    by_cases hA : A
    · by_cases hB : B
      · rw [q_w01_y hA, q_w01_y hB, q_w01_y ⟨hA, hB⟩]; decide
      · rw [q_w01_y hA, q_w01_n hB, q_w01_n (fun z => hB z.2)]; decide
    · by_cases hB : B
      · rw [q_w01_n hA, q_w01_y hB, q_w01_n (fun z => hA z.1)]; decide
      · rw [q_w01_n hA, q_w01_n hB, q_w01_n (fun z => hA z.1)]; decide
  rw [e]
  exact kk
theorem q_w01_0 {P : Prop} : q_w01 P = 0 ↔ ¬ P := by
  by_cases h : P
  · rw [q_w01_y h]; exact ⟨fun z => absurd z (by decide), fun z => absurd h z⟩
  · rw [q_w01_n h]; exact ⟨fun _ => h, fun _ => rfl⟩
theorem q_if_eqW (C : q_C σ p s m args c cc nL own Ts) {P : Prop} {off : Int} (tgt : Nat) (hd : decode cc pc = .ok (.ifCond .eq off, 3)) (ht : (pc : Int) + off = (tgt : Int)) (kt : ¬ P → q_W σ p l e R s m args below meth c Q nL cells slots V G lv tgt st) (kf : P → q_W σ p l e R s m args below meth c Q nL cells slots V G lv (pc + 3) st) : q_W σ p l e R s m args below meth c Q nL cells slots V G lv pc (.int (q_w01 P) :: st) := q_if_eq C tgt hd ht (fun h => kt (q_w01_0.mp h)) (fun h => kf (Classical.byContradiction fun z => h (q_w01_0.mpr z)))
theorem q_if_neW (C : q_C σ p s m args c cc nL own Ts) {P : Prop} {off : Int} (tgt : Nat) (hd : decode cc pc = .ok (.ifCond .ne off, 3)) (ht : (pc : Int) + off = (tgt : Int)) (kt : P → q_W σ p l e R s m args below meth c Q nL cells slots V G lv tgt st) (kf : ¬ P → q_W σ p l e R s m args below meth c Q nL cells slots V G lv (pc + 3) st) : q_W σ p l e R s m args below meth c Q nL cells slots V G lv pc (.int (q_w01 P) :: st) := q_if_ne C tgt hd ht (fun h => kt (Classical.byContradiction fun z => h (q_w01_0.mpr z))) (fun h => kf (q_w01_0.mp h))
end QROWS2
/-! a contract that may throw, where it can't; a weaker end -/
theorem q_Mi_X {l : Launch} {y : MethodName} {ws : List Cond} {rm : Room} {σ : q_E} {As : List Value} {V : q_V} {G : q_G} {mc ms : Nat} {post post' : Int32 → q_V → q_G → Prop} {px : String → q_V → q_G → Prop} (h : q_Xi l y ws rm σ As V G post px mc ms) (hno : ∀ E V' G', ¬ px E V' G') (hp : ∀ r V' G', post r V' G' → post' r V' G') : q_Mi l y ws rm σ As V G post' mc ms := by
  intro sz
  refine MetFree.mono (h sz) (fun _ _ z => z) (fun _ _ _ _ _ z => z) (fun a s o s' _ hq => ?_)
  rcases hq with ⟨⟨⟨r, u, h1, h2, h3⟩, h4⟩, h5⟩ | ⟨q, -, E, ce, L, ⟨u, -, hB, -⟩, -⟩
  · exact ⟨⟨⟨r, u, h1, hp _ _ _ h2, h3⟩, h4⟩, h5⟩
  · exact (hno _ _ _ hB.1).elim
theorem q_Ml_X {l : Launch} {y : MethodName} {ws : List Cond} {rm : Room} {σ : q_E} {As : List Value} {V : q_V} {G : q_G} {mc ms : Nat} {post post' : Int64 → q_V → q_G → Prop} {px : String → q_V → q_G → Prop} (h : q_Xl l y ws rm σ As V G post px mc ms) (hno : ∀ E V' G', ¬ px E V' G') (hp : ∀ r V' G', post r V' G' → post' r V' G') : q_Ml l y ws rm σ As V G post' mc ms := by
  intro sz
  refine MetFree.mono (h sz) (fun _ _ z => z) (fun _ _ _ _ _ z => z) (fun a s o s' _ hq => ?_)
  rcases hq with ⟨⟨⟨r, u, h1, h2, h3⟩, h4⟩, h5⟩ | ⟨q, -, E, ce, L, ⟨u, -, hB, -⟩, -⟩
  · exact ⟨⟨⟨r, u, h1, hp _ _ _ h2, h3⟩, h4⟩, h5⟩
  · exact (hno _ _ _ hB.1).elim
theorem q_Mi_imp {l : Launch} {y : MethodName} {ws : List Cond} {rm : Room} {σ : q_E} {As : List Value} {V : q_V} {G : q_G} {mc ms : Nat} {post post' : Int32 → q_V → q_G → Prop} (h : q_Mi l y ws rm σ As V G post mc ms) (hp : ∀ r V' G', post r V' G' → post' r V' G') : q_Mi l y ws rm σ As V G post' mc ms := by
  intro sz
  refine MetFree.mono (h sz) (fun _ _ z => z) (fun _ _ _ _ _ z => z) (fun a s o s' _ hq => ?_)
  obtain ⟨⟨⟨r, u, h1, h2, h3⟩, h4⟩, h5⟩ := hq
  exact ⟨⟨⟨r, u, h1, hp _ _ _ h2, h3⟩, h4⟩, h5⟩
theorem q_xc_0 {L : List String} {k : Nat} {E : String} (h : k = 0) : ¬ q_xc L k E := fun z => by
  have := z.1
  omega
theorem z_mask (x : Int32) : ∃ a, a < 2 ^ 31 ∧ x &&& nI 2147483647 = nI a := by
  have e : x = nI x.toBitVec.toNat := by
    apply Int32.toBitVec_inj.1
    show x.toBitVec = BitVec.ofNat 32 x.toBitVec.toNat
    simp
  have e3 : nI x.toBitVec.toNat &&& nI 2147483647 = nI (x.toBitVec.toNat % 2 ^ 31) := by
    rw [zb_and, show (2147483647 : Nat) = 2 ^ 31 - 1 from rfl, Nat.and_two_pow_sub_one_eq_mod]
  rw [← e] at e3
  exact ⟨_, Nat.mod_lt _ (by decide), e3⟩
