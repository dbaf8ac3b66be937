/-! My own words over the kit's rows: a world with all that a walk keeps of it (Hw), a contract (Cti, Ctv, Ctq), its beginning (x_in*), its ends, its calls. -/
def bI (b : Bool) : Int32 := if b = true then 1 else 0
theorem bI_t : bI true = 1 := rfl
theorem bI_f : bI false = 0 := rfl
theorem bI_0 {b : Bool} (h : bI b = 0) : b = false := by cases b with
  | false => rfl
  | true => exact absurd h (by decide)
theorem bI_n {b : Bool} (h : ¬ bI b = 0) : b = true := by cases b with
  | true => rfl
  | false => exact absurd rfl h
theorem bI_nar (b : Bool) : narrow .boolean (.int (bI b)) = .int (bI b) := by cases b <;> rfl
theorem bI_fit (b : Bool) : fits .boolean (.int (bI b)) = true := by cases b <;> rfl
/-- the lowest k bits, as a number -/
def lo (k : Nat) (x : Int32) : Nat := x.toBitVec.toNat % 2 ^ k
theorem lo_lt (k : Nat) (x : Int32) : lo k x < 2 ^ k := Nat.mod_lt _ (Nat.two_pow_pos k)
theorem lo_and (k : Nat) (x m : Int32) (hm : m.toBitVec.toNat = 2 ^ k - 1) : x &&& m = nI (lo k x) := pk_and x k hm
def tN (x : Int32) : Nat := x.toNatClampNeg
theorem tN_nI {n : Nat} (h : n < 2 ^ 31) : tN (nI n) = n := nI_clamp h
/-- a number below b -/
def isN (x : Int32) (b : Nat) : Prop := x = nI (tN x) ∧ tN x < b
theorem isN_nI {n b : Nat} (h : n < b) (hb : b < 2 ^ 31) : isN (nI n) b := ⟨by rw [tN_nI (by omega)], by rw [tN_nI (by omega)]; exact h⟩
theorem isN_of {x y : Int32} {b : Nat} (h0 : ¬ x < 0) (hy : y.toInt = (b : Int)) (h : x < y) : isN x b := by
  obtain ⟨j, hj, rfl⟩ := nI_of h0
  have h1 : (nI j).toInt < y.toInt := Int32.lt_iff_toInt_lt.mp h
  rw [nI_toInt hj, hy] at h1
  exact ⟨by rw [tN_nI hj], by rw [tN_nI hj]; omega⟩
theorem isN_le {x y : Int32} {b : Nat} (h0 : ¬ x < 0) (hy : y.toInt = (b : Int)) (h : x ≤ y) : isN x (b + 1) := by
  obtain ⟨j, hj, rfl⟩ := nI_of h0
  have h1 : (nI j).toInt ≤ y.toInt := Int32.le_iff_toInt_le.mp h
  rw [nI_toInt hj, hy] at h1
  exact ⟨by rw [tN_nI hj], by rw [tN_nI hj]; omega⟩
theorem isN_nle {x y : Int32} {b : Nat} (h0 : ¬ x < 0) (hy : y.toInt = (b : Int)) (h : ¬ y ≤ x) : isN x b := by
  obtain ⟨j, hj, rfl⟩ := nI_of h0
  have h1 : ¬ y.toInt ≤ (nI j).toInt := fun q => h (Int32.le_iff_toInt_le.mpr q)
  rw [nI_toInt hj, hy] at h1
  exact ⟨by rw [tN_nI hj], by rw [tN_nI hj]; omega⟩
theorem x_add2 {x y : Int32} {a b : Nat} (hx : x = nI a) (hy : y = nI b) : x + y = nI (a + b) := by rw [hx, hy, nI_add]
theorem x_mul2 {x y : Int32} {a b : Nat} (hx : x = nI a) (hy : y = nI b) : x * y = nI (a * b) := by rw [hx, hy, pk_mul]
theorem x_sub2 {x y : Int32} {a b : Nat} (hx : x = nI a) (hy : y = nI b) (h : b ≤ a) : x - y = nI (a - b) := by rw [hx, hy, pk_sub h]
theorem x_div2 {x y : Int32} {a b : Nat} (hx : x = nI a) (hy : y = nI b) (ha : a < 2 ^ 31) (h0 : 0 < b) (hb : b < 2 ^ 31) : x / y = nI (a / b) := by rw [hx, hy, pk_div ha h0 hb]
theorem x_rem2 {x y : Int32} {a b : Nat} (hx : x = nI a) (hy : y = nI b) (ha : a < 2 ^ 31) (h0 : 0 < b) (hb : b < 2 ^ 31) : x - x / y * y = nI (a % b) := by rw [hx, hy, pk_rem ha h0 hb]
theorem cpy_0 {α : Type} (f g : Nat → α) (sp dp : Nat) : va_cpy f g sp dp 0 = g := by
  funext k
  exact pk_cpy_out (by omega)
theorem cpy_s (f g : Nat → Int32) (sp dp n : Nat) : upd (va_cpy f g sp dp n) (dp + n) (f (sp + n)) = va_cpy f g sp dp (n + 1) := by
  funext k
  by_cases h : k = dp + n
  · subst h
    rw [pk_us, pk_cpy_in (by omega) (by omega)]
    congr 1
    omega
  · rw [pk_un h]
    by_cases h2 : dp ≤ k ∧ k < dp + n
    · rw [pk_cpy_in h2.1 h2.2, pk_cpy_in h2.1 (by omega)]
    · rw [pk_cpy_out (by omega), pk_cpy_out (by omega)]
theorem cpy_s2 {f g : Nat → Int32} {sp dp n d : Nat} {v : Int32} (hd : d = dp + n) (hv : v = f (sp + n)) : upd (va_cpy f g sp dp n) d v = va_cpy f g sp dp (n + 1) := by
  rw [hd, hv, cpy_s]
theorem cpy_blk {f : Nat → Int32} {sp dp n s d c N : Nat} (hs : s = sp + n) (hd : d = dp + n) (hle : dp ≤ sp) (hN : n + c = N) : va_cpy (va_cpy f f sp dp n) (va_cpy f f sp dp n) s d c = va_cpy f f sp dp N := by
  funext k
  by_cases h1 : d ≤ k ∧ k < d + c
  · rw [pk_cpy_in h1.1 h1.2, pk_cpy_out (by omega), pk_cpy_in (by omega) (by omega)]
    congr 1
    omega
  · rw [pk_cpy_out (by omega)]
    by_cases h2 : dp ≤ k ∧ k < dp + n
    · rw [pk_cpy_in h2.1 h2.2, pk_cpy_in h2.1 (by omega)]
    · rw [pk_cpy_out (by omega), pk_cpy_out (by omega)]
theorem cpy_k {f g : Nat → Int32} {sp dp n : Nat} (hv : f (sp + n) = g (dp + n)) : va_cpy f g sp dp n = va_cpy f g sp dp (n + 1) := by
  rw [← cpy_s]
  funext k
  by_cases h : k = dp + n
  · subst h
    rw [pk_us, pk_cpy_out (by omega), hv]
  · rw [pk_un h]
/-- the same of the class's pages: 0 due, 1 sent, 2 known -/
def cnt2 (sg : Nat → Int32) : Nat → Nat
  | 0 => 0
  | n + 1 => cnt2 sg n + (if sg n = 2 then 0 else 1)
def dueG (sg : Nat → Int32) (l0 : Nat) : Nat → Nat → Int32 × Unit
  | 0, _ => ((-2), ())
  | n + 1, k => if sg ((l0 + k) % 8) = 0 then (nI ((l0 + k) % 8), ()) else dueG sg l0 n (k + 1)
def sentDue (sg : Nat → Int32) : Nat → Int32 := fun j => if sg j = 1 then 0 else sg j
theorem nle_nat {n m : Nat} (h : ¬ nI m ≤ nI n) (hn : n < 2 ^ 31) (hm : m < 2 ^ 31) : n < m := by
  have h1 : ¬ m ≤ n := fun q => h ((nI_leI hm hn).mpr q)
  omega
theorem isN_ltn {x : Int32} {n : Nat} (h0 : ¬ x < 0) (hn : n < 2 ^ 31) (h : ¬ nI n ≤ x) : isN x n := isN_nle (y := nI n) h0 (nI_toInt hn) h
theorem isN_le1 {x y : Int32} {b : Nat} (h0 : ¬ x < 1) (hy : y.toInt = (b : Int)) (h : x ≤ y) : isN x (b + 1) := isN_le (fun q => h0 (Int32.lt_iff_toInt_lt.mpr (by have := Int32.lt_iff_toInt_lt.mp q; have h1 : (1 : Int32).toInt = 1 := rfl; have h2 : (0 : Int32).toInt = 0 := rfl; omega))) hy h
theorem tab_out (n : Nat) {x : Int32} (h : ∀ k, k ≤ n → ¬ x = nI k) : x.toInt < (0 : Int) ∨ (n : Int) < x.toInt := by
  by_cases h0 : x < 0
  · exact Or.inl (Int32.lt_iff_toInt_lt.mp h0)
  · obtain ⟨j, hj, rfl⟩ := nI_of h0
    rw [nI_toInt hj]
    by_cases h1 : j ≤ n
    · exact absurd rfl (h j h1)
    · omega
theorem tab_out1 (m n : Nat) {x : Int32} (h : ∀ k, m ≤ k → k ≤ n → ¬ x = nI k) : x.toInt < (m : Int) ∨ (n : Int) < x.toInt := by
  by_cases h0 : x < 0
  · exact Or.inl (by have := Int32.lt_iff_toInt_lt.mp h0; have h2 : (0 : Int32).toInt = 0 := rfl; omega)
  · obtain ⟨j, hj, rfl⟩ := nI_of h0
    rw [nI_toInt hj]
    by_cases h1 : m ≤ j ∧ j ≤ n
    · exact absurd rfl (h j h1.1 h1.2)
    · omega
/-- how many of the first pages aren't known; the next page that is due; all that aren't known are due again -/
def cnt (pg : Nat → Int32) : Nat → Nat
  | 0 => 0
  | n + 1 => cnt pg n + (if pg n = (-2) then 0 else 1)
def dueF (pg : Nat → Int32) (l0 : Nat) : Nat → Nat → Int32 × Unit
  | 0, _ => ((-1), ())
  | n + 1, k => if pg ((l0 + k) % 8) = (-1) then (nI ((l0 + k) % 8), ()) else dueF pg l0 n (k + 1)
def again (pg : Nat → Int32) : Nat → Int32 := fun j => if pg j = (-2) then (-2) else (-1)
theorem due_natF {pg : Nat → Int32} {l0 : Nat} : ∀ (n k : Nat) (r : Int32) (u : Unit), dueF pg l0 n k = (r, u) → ¬ r < 0 → isN r 8
  | 0, k, r, u, e, h => by
    rw [dueF] at e
    cases e
    exact absurd (by decide) h
  | n + 1, k, r, u, e, h => by
    rw [dueF] at e
    by_cases h1 : pg ((l0 + k) % 8) = (-1)
    · rw [if_pos h1] at e
      cases e
      exact isN_nI (Nat.mod_lt _ (by decide)) (by decide)
    · rw [if_neg h1] at e
      exact due_natF n (k + 1) r u e h
/-- what every contract takes beside its world: two array classes are there, and the static NO_WORDS lies outside -/
def Ex (A : Nat → Prop) (U : State) (H : Heap) : Prop := va_AO "MovingGuest$Host" U ∧ va_AO "MovingGuest$Piece" U ∧ ∃ t : Nat, va_Z "MovingGuest" "NO_WORDS" "[I" (.ref t) A U H
theorem Ex.moved {A : Nat → Prop} {u U : State} {H : Heap} (hvm : u.vm.Alike U.vm) (h : Ex A u H) : Ex A U H := by
  obtain ⟨h1, h2, t, h3⟩ := h
  exact ⟨h1.moved hvm, h2.moved hvm, t, h3.moved hvm⟩
theorem Ex.kept {A : Nat → Prop} {U : State} {H H1 : Heap} (h : Ex A U H) (hq : ∀ a : Nat, a < H.size → ¬ A a → H1[a]? = H[a]?) : Ex A U H1 := by
  obtain ⟨h1, h2, t, h3⟩ := h
  exact ⟨h1, h2, t, h3.kept hq⟩
theorem Ex.narrow {A B : Nat → Prop} {U : State} {H : Heap} (h : Ex A U H) (hAB : ∀ q, B q → A q) : Ex B U H := by
  obtain ⟨h1, h2, t, h3⟩ := h
  exact ⟨h1, h2, t, h3.narrow hAB⟩
def TYS (cT : Nat → ClassId) : List (ClassId × FieldType) := [(cT 0, .int), (cT 1, .boolean), (cT 2, .object "MovingGuest$Host"), (cT 3, .object "MovingGuest$Piece")]
/-- what a walk keeps of its world -/
def Hw (D : va_G) (cl : List vw_C) (tys : List (ClassId × FieldType)) (A : Nat → Prop) (s : State) (ws : va_W) (H : Heap) (locs : List Loc) : Prop :=
  va_K D cl tys s ∧ va_P D cl ws H ∧ va_D A ws ∧ va_S A s.heap H locs ∧ (∀ q : Nat, s.heap.size ≤ q → A q) ∧ Ex A s s.heap
/-- a contract's start, and what holds behind it -/
def Pr (D : va_G) (cl : List vw_C) (tys : List (ClassId × FieldType)) (sz : Nat) (ws : va_W) (U : State) : Prop :=
  U.heap.size = sz ∧ va_P D cl ws U.heap ∧ va_K D cl tys U ∧ va_D (fun _ => True) ws ∧ Ex (va_A ws sz) U U.heap
def Wt (D : va_G) (cl : List vw_C) (tys : List (ClassId × FieldType)) (A : Nat → Prop) (ws : va_W) (t : State) : Prop :=
  va_P D cl ws t.heap ∧ va_K D cl tys t ∧ va_D A ws
def Cti {S : Type} (l : Launch) (y : MethodName) (wds : List Cond) (rm : Room) (D : va_G) (cl : List vw_C) (tys : List (ClassId × FieldType)) (av : List Value) (wc : va_W) (post : Int32 → S → Prop) (w1 : S → va_W) (mc ms : Nat) : Prop :=
  ∀ sz : Nat, Met l y wds rm (va_Pc av (Pr D cl tys sz wc)) (va_Qi post (fun u t => Wt D cl tys (va_A wc sz) (w1 u) t) (va_A wc sz)) mc ms (va_A wc sz)
def Ctv {S : Type} (l : Launch) (y : MethodName) (wds : List Cond) (rm : Room) (D : va_G) (cl : List vw_C) (tys : List (ClassId × FieldType)) (av : List Value) (wc : va_W) (post : S → Prop) (w1 : S → va_W) (mc ms : Nat) : Prop :=
  ∀ sz : Nat, Met l y wds rm (va_Pc av (Pr D cl tys sz wc)) (va_Qv post (fun u t => Wt D cl tys (va_A wc sz) (w1 u) t) (va_A wc sz)) mc ms (va_A wc sz)
def Ctq {S : Type} (l : Launch) (y : MethodName) (wds : List Cond) (rm : Room) (D : va_G) (cl : List vw_C) (tys : List (ClassId × FieldType)) (av : List Value) (wc : va_W) (post : Option Nat → S → Prop) (w1 : S → va_W) (mc ms : Nat) : Prop :=
  ∀ sz : Nat, Met l y wds rm (va_Pc av (Pr D cl tys sz wc)) (va_Qq post (fun u t => Wt D cl tys (va_A wc sz) (w1 u) t) (va_A wc sz)) mc ms (va_A wc sz)
theorem Pr.blind {D : va_G} {cl : List vw_C} {tys : List (ClassId × FieldType)} {sz : Nat} {ws : va_W} {av : List Value} : FrameBlind (va_Pc av (Pr D cl tys sz ws)) := fun a U g mk q => by
  obtain ⟨q0, q1, qP, qK, qD, qE⟩ := q
  exact ⟨q0, q1, qP, va_K.moved (u := U) (U := U.calling g mk a) (Vm.Alike.refl U.vm) qK, qD, Ex.moved (u := U) (U := U.calling g mk a) (Vm.Alike.refl U.vm) qE⟩
section XB
variable {p : Program} {l : Launch} {e : Env} {R : Room} {s : State} {m : MethodId} {args : Array Value} {below : List Frame} {meth : Method} {c : Code} {H : Heap} {locs : List Loc} {cells slots : Nat} {Q : State → Prop}
variable {pc : Nat} {ls : Array Slot} {rest : List Value} {cc : ByteArray} {nL : Nat} {Ts : List Cond} {own : String} {A : Nat → Prop} {D : va_G} {cl : List vw_C} {ws : va_W} {tys : List (ClassId × FieldType)} {a : Nat}
theorem Hw.sub {ws' : va_W} (h : Hw D cl tys A s ws H locs) (is : List Nat) (hn : va_nd is = true) (hs : is.map (fun i => ws[i]?) = ws'.map some) : Hw D cl tys A s ws' H locs := by
  refine ⟨h.1, h.2.1.sub is ?_, h.2.2.1.sub is hn hs, h.2.2.2⟩
  have e2 : is.filterMap (fun i => ws[i]?) = (is.map (fun i => ws[i]?)).filterMap id := by rw [List.filterMap_map]; rfl
  rw [e2, hs, List.filterMap_map]
  exact List.filterMap_some
theorem Hw.pr (h : Hw D cl tys A s ws H locs) : ∀ U : State, U.heap = H → s.WarmedH U.vm → Pr D cl tys H.size ws U := fun U hU hW =>
  ⟨by rw [hU], by rw [hU]; exact h.2.1, va_K.moved hW.alike h.1, h.2.2.1.weaken (fun _ _ _ _ => trivial), by
    rw [hU]
    refine Ex.moved hW.alike (Ex.narrow (h.2.2.2.2.2.kept h.2.2.2.1.2.1) (fun q hq => ?_))
    rcases hq with ⟨k, e, hk⟩ | hq
    · exact h.2.2.1.2 k _ hk
    · exact h.2.2.2.2.1 q (Nat.le_trans h.2.2.2.1.1 hq)⟩
/-- fields -/
theorem x_get (F : CallFix p m c cc nL s args Ts own) (h : Hw D cl tys A s ws H locs) {C : String} {T : u_T} {N ci index : Nat} (q0 k : Nat) {fs : List Value} {v : Value} (hin : ∀ w ∈ u_ws C T N, w ∈ Ts) (he : ws[q0]? = some (a, .inr (ci, fs))) (hc : cl[ci]? = some (C, T, N)) (hk : k < N) (hlink : Cond.fieldLink own index (T k).1 (T k).2.1 (T k).2.2.1 ∈ Ts) (hv : fs[k]? = some v) (hdg : decode cc pc = .ok (.getfield index, 3))
    (kk : W p l e R s m args below meth c H locs cells slots Q (F0 m (pc + 3) ls (v :: rest))) : W p l e R s m args below meth c H locs cells slots Q (F0 m pc ls (.ref a :: rest)) :=
  va_get F.1 F.2.1 F.2.2.2.2 hin F.2.2.2.1 h.1 h.2.1 q0 he hc k hk (F.2.2.2.2 _ hlink) (fun _ h9 => h9) hv hdg kk
theorem x_put (F : CallFix p m c cc nL s args Ts own) (h : Hw D cl tys A s ws H locs) {C : String} {T : u_T} {N ci index : Nat} (q0 k : Nat) {fs : List Value} {v : Value} {ty : FieldType} {ws' : va_W} (hin : ∀ w ∈ u_ws C T N, w ∈ Ts) (ty0 : Nat → FieldType) (hty : ∀ k, k < N → parseFieldDescriptor (T k).2.2.1 = some (ty0 k)) (hnm : ∀ a, a < N → ∀ b, b < N → a ≠ b → (T a).2.1 ≠ (T b).2.1) (he : ws[q0]? = some (a, .inr (ci, fs))) (hc : cl[ci]? = some (C, T, N)) (hk : k < N) (hlink : Cond.fieldLink own index (T k).1 (T k).2.1 (T k).2.2.1 ∈ Ts) (hfin : (T k).2.2.2 = false) (hd : parseFieldDescriptor (T k).2.2.1 = some ty) (hn : narrow ty v = v) (hfit : fits ty v = true) (hl : k < fs.length) (hdg : decode cc pc = .ok (.putfield index, 3)) (hw' : ws.set q0 (a, .inr (ci, fs.set k v)) = ws')
    (kk : ∀ (H1 : Heap) (locs1 : List Loc), Hw D cl tys A s ws' H1 locs1 → W p l e R s m args below meth c H1 locs1 cells slots Q (F0 m (pc + 3) ls rest)) : W p l e R s m args below meth c H locs cells slots Q (F0 m pc ls (v :: .ref a :: rest)) := by
  subst hw'
  exact va_put F.1 F.2.1 F.2.2.2.2 hin ty0 hty hnm F.2.2.2.1 h.1 h.2.1 h.2.2.1 h.2.2.2.1 q0 he hc k hk (F.2.2.2.2 _ hlink) (fun _ h9 => h9) hfin hd hn hfit hl hdg (fun H1 locs1 hP hD hS => kk H1 locs1 ⟨h.1, hP, hD, hS, h.2.2.2.2⟩)
theorem x_putF (F : CallFix p m c cc nL s args Ts own) (h : Hw D cl tys A s ws H locs) (hin2 : meth.name = "<init>") {C : String} {T : u_T} {N ci index : Nat} (q0 k : Nat) {fs : List Value} {v : Value} {ty : FieldType} {ws' : va_W} (hin : ∀ w ∈ u_ws C T N, w ∈ Ts) (ty0 : Nat → FieldType) (hty : ∀ k, k < N → parseFieldDescriptor (T k).2.2.1 = some (ty0 k)) (hnm : ∀ a, a < N → ∀ b, b < N → a ≠ b → (T a).2.1 ≠ (T b).2.1) (he : ws[q0]? = some (a, .inr (ci, fs))) (hc : cl[ci]? = some (C, T, N)) (hk : k < N) (hlink : Cond.fieldLink own index (T k).1 (T k).2.1 (T k).2.2.1 ∈ Ts) (hfin : (T k).2.2.2 = true) (hdecl : (T k).1 = own) (hd : parseFieldDescriptor (T k).2.2.1 = some ty) (hn : narrow ty v = v) (hfit : fits ty v = true) (hl : k < fs.length) (hdg : decode cc pc = .ok (.putfield index, 3)) (hw' : ws.set q0 (a, .inr (ci, fs.set k v)) = ws')
    (kk : ∀ (H1 : Heap) (locs1 : List Loc), Hw D cl tys A s ws' H1 locs1 → W p l e R s m args below meth c H1 locs1 cells slots Q (F0 m (pc + 3) ls rest)) : W p l e R s m args below meth c H locs cells slots Q (F0 m pc ls (v :: .ref a :: rest)) := by
  subst hw'
  exact va_putF F.1 F.2.1 F.2.2.2.2 hin ty0 hty hnm F.2.2.2.1 h.1 h.2.1 h.2.2.1 h.2.2.2.1 q0 he hc k hk (F.2.2.2.2 _ hlink) (fun _ h9 => h9) hfin hin2 hdecl hd hn hfit hl hdg (fun H1 locs1 hP hD hS => kk H1 locs1 ⟨h.1, hP, hD, hS, h.2.2.2.2⟩)
/-- arrays of ints, of booleans, of references -/
theorem x_iald (F : CallFix p m c cc nL s args Ts own) (h : Hw D cl tys A s ws H locs) (q0 t0 n0 : Nat) {cA : ClassId} {n : Nat} {f : Nat → Int32} {i : Int32} (ha : ws[q0]? = some (a, .inl (cA, n, .inl f))) (ht : tys[t0]? = some (cA, .int)) (hi : i = nI n0) (hlt : n0 < n) (hN : n < 2 ^ 31) (hdg : decode cc pc = .ok (.iaload, 1))
    (kk : W p l e R s m args below meth c H locs cells slots Q (F0 m (pc + 1) ls (.int (f n0) :: rest))) : W p l e R s m args below meth c H locs cells slots Q (F0 m pc ls (.int i :: .ref a :: rest)) := by
  subst hi
  refine va_iald F.1 F.2.1 h.1 h.2.1 q0 t0 ha ht (vp_in_nI hlt hN) hdg ?_
  rw [nI_clamp (by omega)]
  exact kk
theorem x_zald (F : CallFix p m c cc nL s args Ts own) (h : Hw D cl tys A s ws H locs) (q0 t0 n0 : Nat) {cA : ClassId} {n : Nat} {f : Nat → Int32} {i : Int32} (ha : ws[q0]? = some (a, .inl (cA, n, .inl f))) (ht : tys[t0]? = some (cA, .boolean)) (hi : i = nI n0) (hlt : n0 < n) (hN : n < 2 ^ 31) (hdg : decode cc pc = .ok (.baload, 1))
    (kk : W p l e R s m args below meth c H locs cells slots Q (F0 m (pc + 1) ls (.int (f n0) :: rest))) : W p l e R s m args below meth c H locs cells slots Q (F0 m pc ls (.int i :: .ref a :: rest)) := by
  subst hi
  refine va_zald F.1 F.2.1 h.1 h.2.1 q0 t0 ha ht (vp_in_nI hlt hN) hdg ?_
  rw [nI_clamp (by omega)]
  exact kk
theorem x_aldq (F : CallFix p m c cc nL s args Ts own) (h : Hw D cl tys A s ws H locs) (q0 t0 n0 : Nat) {cA : ClassId} {C : String} {n : Nat} {f : Nat → Option Nat} {i : Int32} (ha : ws[q0]? = some (a, .inl (cA, n, .inr (.inr (.inr (.inr f)))))) (ht : tys[t0]? = some (cA, .object C)) (hi : i = nI n0) (hlt : n0 < n) (hN : n < 2 ^ 31) (hdg : decode cc pc = .ok (.aaload, 1))
    (kk : W p l e R s m args below meth c H locs cells slots Q (F0 m (pc + 1) ls (va_rf (f n0) :: rest))) : W p l e R s m args below meth c H locs cells slots Q (F0 m pc ls (.int i :: .ref a :: rest)) := by
  subst hi
  refine va_aldq F.1 F.2.1 h.1 h.2.1 q0 t0 ha ht (vp_in_nI hlt hN) hdg ?_
  rw [nI_clamp (by omega)]
  exact kk
theorem x_iast (F : CallFix p m c cc nL s args Ts own) (h : Hw D cl tys A s ws H locs) (q0 t0 n0 : Nat) {cA : ClassId} {n : Nat} {f : Nat → Int32} {i x : Int32} {ws' : va_W} (ha : ws[q0]? = some (a, .inl (cA, n, .inl f))) (ht : tys[t0]? = some (cA, .int)) (hi : i = nI n0) (hlt : n0 < n) (hN : n < 2 ^ 31) (hdg : decode cc pc = .ok (.iastore, 1)) (hw' : ws.set q0 (a, .inl (cA, n, .inl (upd f n0 x))) = ws')
    (kk : ∀ (H1 : Heap) (locs1 : List Loc), Hw D cl tys A s ws' H1 locs1 → W p l e R s m args below meth c H1 locs1 cells slots Q (F0 m (pc + 1) ls rest)) : W p l e R s m args below meth c H locs cells slots Q (F0 m pc ls (.int x :: .int i :: .ref a :: rest)) := by
  subst hi
  subst hw'
  refine va_iast F.1 F.2.1 h.1 h.2.1 h.2.2.1 h.2.2.2.1 q0 t0 ha ht (vp_in_nI hlt hN) hdg ?_
  rw [nI_clamp (by omega)]
  exact fun H1 locs1 hP hD hS => kk H1 locs1 ⟨h.1, hP, hD, hS, h.2.2.2.2⟩
theorem x_zast (F : CallFix p m c cc nL s args Ts own) (h : Hw D cl tys A s ws H locs) (q0 t0 n0 : Nat) {cA : ClassId} {n : Nat} {f : Nat → Int32} {i x : Int32} {ws' : va_W} (ha : ws[q0]? = some (a, .inl (cA, n, .inl f))) (ht : tys[t0]? = some (cA, .boolean)) (hi : i = nI n0) (hlt : n0 < n) (hN : n < 2 ^ 31) (hx : vp_nar .boolean x = x) (hdg : decode cc pc = .ok (.bastore, 1)) (hw' : ws.set q0 (a, .inl (cA, n, .inl (upd f n0 x))) = ws')
    (kk : ∀ (H1 : Heap) (locs1 : List Loc), Hw D cl tys A s ws' H1 locs1 → W p l e R s m args below meth c H1 locs1 cells slots Q (F0 m (pc + 1) ls rest)) : W p l e R s m args below meth c H locs cells slots Q (F0 m pc ls (.int x :: .int i :: .ref a :: rest)) := by
  subst hi
  subst hw'
  refine va_zast F.1 F.2.1 h.1 h.2.1 h.2.2.1 h.2.2.2.1 q0 t0 ha ht (vp_in_nI hlt hN) hdg ?_
  rw [nI_clamp (by omega), hx]
  exact fun H1 locs1 hP hD hS => kk H1 locs1 ⟨h.1, hP, hD, hS, h.2.2.2.2⟩
theorem x_zaldB (F : CallFix p m c cc nL s args Ts own) (h : Hw D cl tys A s ws H locs) (q0 t0 n0 : Nat) {cA : ClassId} {n : Nat} {g : Nat → Bool} {i : Int32} (ha : ws[q0]? = some (a, .inl (cA, n, .inl (fun j => bI (g j))))) (ht : tys[t0]? = some (cA, .boolean)) (hi : i = nI n0) (hlt : n0 < n) (hN : n < 2 ^ 31) (hdg : decode cc pc = .ok (.baload, 1))
    (kk : W p l e R s m args below meth c H locs cells slots Q (F0 m (pc + 1) ls (.int (bI (g n0)) :: rest))) : W p l e R s m args below meth c H locs cells slots Q (F0 m pc ls (.int i :: .ref a :: rest)) :=
  x_zald F h q0 t0 n0 ha ht hi hlt hN hdg kk
theorem bI_upd (g : Nat → Bool) (n : Nat) (b : Bool) : upd (fun j => bI (g j)) n (bI b) = fun j => bI (va_up g n b j) := by
  funext j
  unfold upd va_up
  by_cases h : j = n
  · rw [if_pos h, if_pos h]
  · rw [if_neg h, if_neg h]
theorem x_zastB (F : CallFix p m c cc nL s args Ts own) (h : Hw D cl tys A s ws H locs) (q0 t0 n0 : Nat) {cA : ClassId} {n : Nat} {g : Nat → Bool} {i : Int32} {b : Bool} {ws' : va_W} (ha : ws[q0]? = some (a, .inl (cA, n, .inl (fun j => bI (g j))))) (ht : tys[t0]? = some (cA, .boolean)) (hi : i = nI n0) (hlt : n0 < n) (hN : n < 2 ^ 31) (hdg : decode cc pc = .ok (.bastore, 1)) (hw' : ws.set q0 (a, .inl (cA, n, .inl (fun j => bI (va_up g n0 b j)))) = ws')
    (kk : ∀ (H1 : Heap) (locs1 : List Loc), Hw D cl tys A s ws' H1 locs1 → W p l e R s m args below meth c H1 locs1 cells slots Q (F0 m (pc + 1) ls rest)) : W p l e R s m args below meth c H locs cells slots Q (F0 m pc ls (.int (bI b) :: .int i :: .ref a :: rest)) :=
  x_zast F h q0 t0 n0 ha ht hi hlt hN (by cases b <;> rfl) hdg (by rw [bI_upd]; exact hw') kk
theorem x_ref {x : Nat} (k : W p l e R s m args below meth c H locs cells slots Q (F0 m pc ls (.ref x :: rest))) : W p l e R s m args below meth c H locs cells slots Q (F0 m pc ls (va_rf (some x) :: rest)) := k
/-- a masked number has a name that is a natural number -/
theorem x_top {x y : Int32} (hxy : x = y) (k : W p l e R s m args below meth c H locs cells slots Q (F0 m pc ls (.int y :: rest))) : W p l e R s m args below meth c H locs cells slots Q (F0 m pc ls (.int x :: rest)) := hxy ▸ k
theorem x_new (F : CallFix p m c cc nL s args Ts own) (h : Hw D cl tys A s ws H locs) {C : String} {T : u_T} {N ci index : Nat} {fs : List Value} (hin : ∀ w ∈ u_ws C T N, w ∈ Ts) (ty : Nat → FieldType) (hty : ∀ k, k < N → parseFieldDescriptor (T k).2.2.1 = some (ty k)) (hcl : Cond.classLink own index C ∈ Ts) (hinst : Cond.instantiable C N ∈ Ts) (hini : Cond.initialized C ∈ Ts) (hc : cl[ci]? = some (C, T, N)) (hfs : ∀ j, j < N → defaultValue (ty j) = vp_V fs j) (hcells : cells + 1 ≤ R.cells) (hslots : slots + N ≤ R.slots) (hdg : decode cc pc = .ok (.new index, 3))
    (kk : ∀ (q : Nat) (H1 : Heap), Hw D cl tys A s (ws ++ [(q, .inr (ci, fs))]) H1 locs → W p l e R s m args below meth c H1 locs (cells + 1) (slots + N) Q (F0 m (pc + 3) ls (.ref q :: rest))) : W p l e R s m args below meth c H locs cells slots Q (F0 m pc ls rest) := by
  refine va_new F.1 F.2.1 F.2.2.2.2 hin ty hty F.2.2.2.1 (F.2.2.2.2 _ hcl) (F.2.2.2.2 _ hinst) (F.2.2.2.2 _ hini) h.1 h.2.1 h.2.2.1 h.2.2.2.1 h.2.2.2.2.1 hc hfs hcells hslots hdg (fun q H1 hP hD hS => ?_)
  exact kk q H1 ⟨h.1, hP, hD, hS, h.2.2.2.2⟩
theorem k_same {c1 c2 : ClassId} (hK : va_K D cl tys s) (i j : Nat) (h1 : tys[i]? = some (c1, .int)) (h2 : tys[j]? = some (c2, .int)) : c1 = c2 := by
  have e1 : s.vm.findClass ("[" ++ FieldType.int.toString) = some c1 := (hK.2 i _ h1).2
  have e2 : s.vm.findClass ("[" ++ FieldType.int.toString) = some c2 := (hK.2 j _ h2).2
  exact Option.some.inj (e1.symm.trans e2)
theorem k_sameZ {c1 c2 : ClassId} (hK : va_K D cl tys s) (i j : Nat) (h1 : tys[i]? = some (c1, .boolean)) (h2 : tys[j]? = some (c2, .boolean)) : c1 = c2 := by
  have e1 : s.vm.findClass ("[" ++ FieldType.boolean.toString) = some c1 := (hK.2 i _ h1).2
  have e2 : s.vm.findClass ("[" ++ FieldType.boolean.toString) = some c2 := (hK.2 j _ h2).2
  exact Option.some.inj (e1.symm.trans e2)
theorem k_sameQ {c1 c2 : ClassId} {C : String} (hK : va_K D cl tys s) (i j : Nat) (h1 : tys[i]? = some (c1, .object C)) (h2 : tys[j]? = some (c2, .object C)) : c1 = c2 := by
  obtain ⟨k1, d1, a1, a2, a3, e1⟩ := (hK.2 i _ h1).2
  obtain ⟨k2, d2, b1, b2, b3, e2⟩ := (hK.2 j _ h2).2
  exact Option.some.inj (e1.symm.trans e2)
theorem x_newi (F : CallFix p m c cc nL s args Ts own) (h : Hw D cl tys A s ws H locs) (t0 : Nat) {cA : ClassId} (ht : tys[t0]? = some (cA, .int)) {n : Int32} {N' : Nat} (harr : Cond.arrayClass .int ∈ Ts) (hn : ¬ n < 0) (hN : n.toNatClampNeg = N') (hbytes : N' * 4 ≤ 536870912) (hcells : cells + 1 ≤ R.cells) (hslots : slots + N' ≤ R.slots) (hdg : decode cc pc = .ok (.newarray .int, 2))
    (kk : ∀ (q : Nat) (H1 : Heap), Hw D cl tys A s (ws ++ [(q, .inl (cA, N', .inl (fun _ => 0)))]) H1 locs → W p l e R s m args below meth c H1 locs (cells + 1) (slots + N') Q (F0 m (pc + 2) ls (.ref q :: rest))) : W p l e R s m args below meth c H locs cells slots Q (F0 m pc ls (.int n :: rest)) := by
  refine va_newa (atype := .int) (ty := .int) (a0 := (N', .inl (fun _ => 0))) F.1 F.2.1 (F.2.2.2.2 _ harr) rfl h.1 h.2.1 h.2.2.1 h.2.2.2.1 h.2.2.2.2.1 (fun _ => rfl) hn hN hbytes hcells hslots hdg (fun q cB H1 hK hP hD hS => ?_)
  have hl : t0 < tys.length := (List.getElem?_eq_some_iff.mp ht).1
  obtain rfl : cA = cB := k_same hK t0 tys.length (by rw [List.getElem?_append_left hl]; exact ht) (by rw [List.getElem?_append_right (Nat.le_refl _), Nat.sub_self]; rfl)
  exact kk q H1 ⟨h.1, hP, hD, hS, h.2.2.2.2⟩
theorem x_newz (F : CallFix p m c cc nL s args Ts own) (h : Hw D cl tys A s ws H locs) (t0 : Nat) {cA : ClassId} (ht : tys[t0]? = some (cA, .boolean)) {n : Int32} {N' : Nat} (harr : Cond.arrayClass .boolean ∈ Ts) (hn : ¬ n < 0) (hN : n.toNatClampNeg = N') (hbytes : N' * 1 ≤ 536870912) (hcells : cells + 1 ≤ R.cells) (hslots : slots + N' ≤ R.slots) (hdg : decode cc pc = .ok (.newarray .boolean, 2))
    (kk : ∀ (q : Nat) (H1 : Heap), Hw D cl tys A s (ws ++ [(q, .inl (cA, N', .inl (fun j => bI ((fun _ => false) j))))]) H1 locs → W p l e R s m args below meth c H1 locs (cells + 1) (slots + N') Q (F0 m (pc + 2) ls (.ref q :: rest))) : W p l e R s m args below meth c H locs cells slots Q (F0 m pc ls (.int n :: rest)) := by
  refine va_newa (atype := .boolean) (ty := .boolean) (a0 := (N', .inl (fun _ => 0))) F.1 F.2.1 (F.2.2.2.2 _ harr) rfl h.1 h.2.1 h.2.2.1 h.2.2.2.1 h.2.2.2.2.1 (fun _ => rfl) hn hN hbytes hcells hslots hdg (fun q cB H1 hK hP hD hS => ?_)
  have hl : t0 < tys.length := (List.getElem?_eq_some_iff.mp ht).1
  obtain rfl : cA = cB := k_sameZ hK t0 tys.length (by rw [List.getElem?_append_left hl]; exact ht) (by rw [List.getElem?_append_right (Nat.le_refl _), Nat.sub_self]; rfl)
  exact kk q H1 ⟨h.1, hP, hD, hS, h.2.2.2.2⟩
theorem x_newq (F : CallFix p m c cc nL s args Ts own) (h : Hw D cl tys A s ws H locs) (t0 : Nat) {cA : ClassId} {C : String} {index : Nat} (ht : tys[t0]? = some (cA, .object C)) (hcl : Cond.classLink own index C ∈ Ts) (hover : va_AO C s) {n : Int32} {N' : Nat} (hn : ¬ n < 0) (hN : n.toNatClampNeg = N') (hbytes : N' * 4 ≤ 536870912) (hcells : cells + 1 ≤ R.cells) (hslots : slots + N' ≤ R.slots) (hdg : decode cc pc = .ok (.anewarray index, 3))
    (kk : ∀ (q : Nat) (H1 : Heap), Hw D cl tys A s (ws ++ [(q, .inl (cA, N', .inr (.inr (.inr (.inr (fun _ => none))))))]) H1 locs → W p l e R s m args below meth c H1 locs (cells + 1) (slots + N') Q (F0 m (pc + 3) ls (.ref q :: rest))) : W p l e R s m args below meth c H locs cells slots Q (F0 m pc ls (.int n :: rest)) := by
  refine va_newq F.1 F.2.1 F.2.2.2.1 (F.2.2.2.2 _ hcl) hover h.1 h.2.1 h.2.2.1 h.2.2.2.1 h.2.2.2.2.1 hn hN hbytes hcells hslots hdg (fun q cB H1 hK hP hD hS => ?_)
  have hl : t0 < tys.length := (List.getElem?_eq_some_iff.mp ht).1
  obtain rfl : cA = cB := k_sameQ hK t0 tys.length (by rw [List.getElem?_append_left hl]; exact ht) (by rw [List.getElem?_append_right (Nat.le_refl _), Nat.sub_self]; rfl)
  exact kk q H1 ⟨h.1, hP, hD, hS, h.2.2.2.2⟩
theorem x_copyi {lvs : List (Nat × Value)} (F : CallFix p m c cc nL s args Ts own) (hl : lv_has ls nL lvs) (h : Hw D cl tys A s ws H locs) (q0 q1 t0 sN dN nN : Nat) {index a0 : Nat} {cA : ClassId} {n0 n1 : Nat} {f g : Nat → Int32} {sp dp n : Int32} {ws' : va_W} (hlink : Cond.methodLink own index arraycopyName ∈ Ts) (hnat : Cond.native arraycopyName ∈ Ts) (hstat : Cond.static arraycopyName ∈ Ts) (hini : Cond.initialized "java/lang/System" ∈ Ts)
    (ha0 : ws[q0]? = some (a0, .inl (cA, n0, .inl f))) (ha1 : ws[q1]? = some (a, .inl (cA, n1, .inl g))) (ht : tys[t0]? = some (cA, .int)) (hs : sp = nI sN) (hd : dp = nI dN) (hn : n = nI nN) (b1 : sN + nN ≤ n0) (b2 : dN + nN ≤ n1) (b3 : n0 < 2 ^ 31) (b4 : n1 < 2 ^ 31) (hframes : 1 ≤ R.frames) (hlocals : (rest.map fun v => v.category).sum + (nativeFrameWords "java/lang/System" "arraycopy" 5 + 11) ≤ R.locals) (hdg : decode cc pc = .ok (.invokestatic index, 3)) (hw' : ws.set q1 (a, .inl (cA, n1, .inl (va_cpy f g sN dN nN))) = ws')
    (kk : ∀ (H1 : Heap) (locs1 : List Loc), Hw D cl tys A s ws' H1 locs1 → W p l e R s m args below meth c H1 locs1 cells slots Q (F0 m (pc + 3) ls rest)) : W p l e R s m args below meth c H locs cells slots Q (F0 m pc ls (.int n :: .int dp :: .ref a :: .int sp :: .ref a0 :: rest)) := by
  subst hs
  subst hd
  subst hn
  subst hw'
  have e1 : (nI sN).toNatClampNeg = sN := nI_clamp (by omega)
  have e2 : (nI dN).toNatClampNeg = dN := nI_clamp (by omega)
  have e3 : (nI nN).toNatClampNeg = nN := nI_clamp (by omega)
  refine va_copyi F.1 F.2.1 (F.2.2.1.trans hl.1.symm) F.2.2.2.1 (F.2.2.2.2 _ hlink) (F.2.2.2.2 _ hnat) (F.2.2.2.2 _ hstat) (F.2.2.2.2 _ hini) h.1 h.2.1 h.2.2.1 h.2.2.2.1 q0 q1 t0 t0 ha0 ha1 ht ht rfl (nI_pos (by omega)) (nI_pos (by omega)) (nI_pos (by omega)) (by rw [e1, e3]; exact b1) (by rw [e2, e3]; exact b2) (fun _ _ => rfl) hframes hlocals hdg ?_
  rw [e1, e2, e3]
  exact fun H1 locs1 hP hD hS => kk H1 locs1 ⟨h.1, hP, hD, hS, h.2.2.2.2⟩
theorem x_astq (F : CallFix p m c cc nL s args Ts own) (h : Hw D cl tys A s ws H locs) (q0 t0 qk n0 : Nat) {ci : Nat} {cA : ClassId} {C : String} {T : u_T} {N n v : Nat} {vs : List Value} {f : Nat → Option Nat} {i : Int32} {ws' : va_W} (ha : ws[q0]? = some (a, .inl (cA, n, .inr (.inr (.inr (.inr f)))))) (ht : tys[t0]? = some (cA, .object C)) (hv : ws[qk]? = some (v, .inr (ci, vs))) (hc : cl[ci]? = some (C, T, N)) (hi : i = nI n0) (hlt : n0 < n) (hN : n < 2 ^ 31) (hdg : decode cc pc = .ok (.aastore, 1)) (hw' : ws.set q0 (a, .inl (cA, n, .inr (.inr (.inr (.inr (va_up f n0 (some v))))))) = ws')
    (kk : ∀ (H1 : Heap) (locs1 : List Loc), Hw D cl tys A s ws' H1 locs1 → W p l e R s m args below meth c H1 locs1 cells slots Q (F0 m (pc + 1) ls rest)) : W p l e R s m args below meth c H locs cells slots Q (F0 m pc ls (.ref v :: .int i :: .ref a :: rest)) := by
  subst hi
  subst hw'
  refine va_astq F.1 F.2.1 h.1 h.2.1 h.2.2.1 h.2.2.2.1 q0 t0 qk ci ha ht hv hc (vp_in_nI hlt hN) hdg ?_
  rw [nI_clamp (by omega)]
  exact fun H1 locs1 hP hD hS => kk H1 locs1 ⟨h.1, hP, hD, hS, h.2.2.2.2⟩
/-- branches on a boolean -/
theorem x_ifeqB (F : CallFix p m c cc nL s args Ts own) {b : Bool} {off : Int} {tgt : Nat} (hdg : decode cc pc = .ok (.ifCond .eq off, 3)) (ht : (pc : Int) + off = (tgt : Int))
    (kt : ¬ b = true → W p l e R s m args below meth c H locs cells slots Q (F0 m tgt ls rest)) (kf : b = true → W p l e R s m args below meth c H locs cells slots Q (F0 m (pc + 3) ls rest)) : W p l e R s m args below meth c H locs cells slots Q (F0 m pc ls (.int (bI b) :: rest)) :=
  lv_if_eq F.1 F.2.1 hdg ht (fun h => kt (by rw [bI_0 h]; decide)) (fun h => kf (bI_n h))
theorem x_ifneB (F : CallFix p m c cc nL s args Ts own) {b : Bool} {off : Int} {tgt : Nat} (hdg : decode cc pc = .ok (.ifCond .ne off, 3)) (ht : (pc : Int) + off = (tgt : Int))
    (kt : b = true → W p l e R s m args below meth c H locs cells slots Q (F0 m tgt ls rest)) (kf : ¬ b = true → W p l e R s m args below meth c H locs cells slots Q (F0 m (pc + 3) ls rest)) : W p l e R s m args below meth c H locs cells slots Q (F0 m pc ls (.int (bI b) :: rest)) :=
  lv_if_ne F.1 F.2.1 hdg ht (fun h => kt (bI_n h)) (fun h => kf (by rw [bI_0 h]; decide))
end XB
section XE
variable {l : Launch} {y : MethodName} {wds wds' : List Cond} {rm : Room} {D : va_G} {cl : List vw_C} {tys : List (ClassId × FieldType)} {av : List Value} {wc : va_W} {mc ms : Nat} {cc : ByteArray} {maxL : Nat}
/-- a contract's walk begins: an int, a boolean, nothing, a reference comes back -/
theorem x_in {ret : Option FieldType} {Qc : (Nat → Prop) → Array Value → State → Outcome → State → Prop} (sz : Nat) (hy : plainName y.cls = true) (hw : wds = Cond.code y cc maxL ret :: wds') (hlen : (lg_sl av).length ≤ maxL)
    (body : ∀ (p : Program) (e : Env) (s : State) (m : MethodId) (args : Array Value) (below : List Frame) (meth : Method) (c : Code) (A : Nat → Prop) (ls : Array Slot), CallFix p m c cc maxL s args wds y.cls → meth.sig.returnType = ret → meth.locks = false → meth.name = y.name → lv_has ls maxL (lv_args 0 av) → Hw D cl tys A s wc s.heap [] →
      W p l e rm s m args below meth c s.heap [] 0 0 (MQ below (Qc A) args s mc ms A) (F0 m 0 ls [])) :
    Met l y wds rm (va_Pc av (Pr D cl tys sz wc)) (Qc (va_A wc sz)) mc ms (va_A wc sz) := by
  refine Met.ofW (cc := cc) (maxL := maxL) (ret := ret) hy hw ?_
  intro p e s m args below meth c s₁ B hml hv
  obtain ⟨rfl, hsz, hP, hK, hD0, hE⟩ := hv
  have hts := atoms_spec (ws := wds) B.pre
  have hown : s.vm.findClass y.cls = some m.cls := findClass_of_methodNamed B.named
  have hin : meth.name = y.name := (name_of_methodNamed B.named B.method).1
  subst hsz
  have hD := hD0.self (sz := s.heap.size)
  have hl := lv_entry av (n := maxL) hlen
  rw [lg_entry_eq]
  exact body p e s m _ below meth c (va_A wc s.heap.size) _ ⟨B.exec, B.bytes, hml, hown, hts⟩ B.returns B.notSynchronized hin hl ⟨hK, hP, hD, va_S.rf, fun q h => Or.inr h, hE⟩
theorem x_ini {S : Type} {post : Int32 → S → Prop} {w1 : S → va_W} (hy : plainName y.cls = true) (hw : wds = Cond.code y cc maxL (some .int) :: wds') (hlen : (lg_sl av).length ≤ maxL)
    (body : ∀ (p : Program) (e : Env) (s : State) (m : MethodId) (args : Array Value) (below : List Frame) (meth : Method) (c : Code) (A : Nat → Prop) (ls : Array Slot) (Q : State → Prop), CallFix p m c cc maxL s args wds y.cls → lv_has ls maxL (lv_args 0 av) → Hw D cl tys A s wc s.heap [] →
      (∀ (v : Int32) (u : S) (H : Heap) (locs : List Loc) (pc : Nat) (ls : Array Slot), post v u → Hw D cl tys A s (w1 u) H locs → decode cc pc = .ok (.ireturn, 1) → W p l e rm s m args below meth c H locs mc ms Q (F0 m pc ls [.int v])) →
      W p l e rm s m args below meth c s.heap [] 0 0 Q (F0 m 0 ls [])) :
    Cti l y wds rm D cl tys av wc post w1 mc ms := fun sz =>
  x_in (Qc := fun A => va_Qi post (fun u t => Wt D cl tys A (w1 u) t) A) sz hy hw hlen (fun p e s m args below meth c A ls F hr hlocks _ hl hh =>
    body p e s m args below meth c A ls _ F hl hh (fun v u H locs pc ls hp h hdg =>
      W.iret (v := v) F.1 F.2.1 hr (fun t ht hW => ⟨⟨v, u, rfl, hp, by rw [ht]; exact h.2.1, va_K.moved hW.alike h.1, h.2.2.1⟩, h.2.2.2.1.F ht⟩) h.2.2.2.1.2.2 hdg hlocks))
theorem x_inz {S : Type} {post : Int32 → S → Prop} {w1 : S → va_W} (hy : plainName y.cls = true) (hw : wds = Cond.code y cc maxL (some .boolean) :: wds') (hlen : (lg_sl av).length ≤ maxL)
    (body : ∀ (p : Program) (e : Env) (s : State) (m : MethodId) (args : Array Value) (below : List Frame) (meth : Method) (c : Code) (A : Nat → Prop) (ls : Array Slot) (Q : State → Prop), CallFix p m c cc maxL s args wds y.cls → lv_has ls maxL (lv_args 0 av) → Hw D cl tys A s wc s.heap [] →
      (∀ (v : Int32) (u : S) (H : Heap) (locs : List Loc) (pc : Nat) (ls : Array Slot), narrow .boolean (.int v) = .int v → post v u → Hw D cl tys A s (w1 u) H locs → decode cc pc = .ok (.ireturn, 1) → W p l e rm s m args below meth c H locs mc ms Q (F0 m pc ls [.int v])) →
      W p l e rm s m args below meth c s.heap [] 0 0 Q (F0 m 0 ls [])) :
    Cti l y wds rm D cl tys av wc post w1 mc ms := fun sz =>
  x_in (Qc := fun A => va_Qi post (fun u t => Wt D cl tys A (w1 u) t) A) sz hy hw hlen (fun p e s m args below meth c A ls F hr hlocks _ hl hh =>
    body p e s m args below meth c A ls _ F hl hh (fun v u H locs pc ls hn hp h hdg =>
      W.zret (v := v) F.1 F.2.1 hr hn (fun t ht hW => ⟨⟨v, u, rfl, hp, by rw [ht]; exact h.2.1, va_K.moved hW.alike h.1, h.2.2.1⟩, h.2.2.2.1.F ht⟩) h.2.2.2.1.2.2 hdg hlocks))
theorem x_inv {S : Type} {post : S → Prop} {w1 : S → va_W} (hy : plainName y.cls = true) (hw : wds = Cond.code y cc maxL none :: wds') (hlen : (lg_sl av).length ≤ maxL)
    (body : ∀ (p : Program) (e : Env) (s : State) (m : MethodId) (args : Array Value) (below : List Frame) (meth : Method) (c : Code) (A : Nat → Prop) (ls : Array Slot) (Q : State → Prop), CallFix p m c cc maxL s args wds y.cls → meth.name = y.name → lv_has ls maxL (lv_args 0 av) → Hw D cl tys A s wc s.heap [] →
      (∀ (u : S) (H : Heap) (locs : List Loc) (pc : Nat) (ls : Array Slot), post u → Hw D cl tys A s (w1 u) H locs → decode cc pc = .ok (.return_, 1) → W p l e rm s m args below meth c H locs mc ms Q (F0 m pc ls [])) →
      W p l e rm s m args below meth c s.heap [] 0 0 Q (F0 m 0 ls [])) :
    Ctv l y wds rm D cl tys av wc post w1 mc ms := fun sz =>
  x_in (Qc := fun A => va_Qv post (fun u t => Wt D cl tys A (w1 u) t) A) sz hy hw hlen (fun p e s m args below meth c A ls F hr hlocks hin hl hh =>
    body p e s m args below meth c A ls _ F hin hl hh (fun u H locs pc ls hp h hdg =>
      W.vret F.1 F.2.1 hr (fun t ht hW => ⟨⟨u, rfl, hp, by rw [ht]; exact h.2.1, va_K.moved hW.alike h.1, h.2.2.1⟩, h.2.2.2.1.F ht⟩) h.2.2.2.1.2.2 hdg hlocks))
end XE
section XC
variable {p : Program} {l : Launch} {e : Env} {R : Room} {s : State} {m : MethodId} {args : Array Value} {below : List Frame} {meth : Method} {c : Code} {H : Heap} {locs : List Loc} {cells slots : Nat} {Q : State → Prop}
variable {pc : Nat} {ls : Array Slot} {rest st0 : List Value} {cc : ByteArray} {nL : Nat} {Ts : List Cond} {own : String} {A : Nat → Prop} {D : va_G} {cl : List vw_C} {ws wc wr : va_W} {tys : List (ClassId × FieldType)} {a : Nat} {mc ms : Nat} {av : Array Value}
/-- behind a call: the rest, and what came back -/
theorem Hw.join {w1 : va_W} {H1 : Heap} {locs1 : List Loc} {t : State} (h : Hw D cl tys A s ws H locs) (isC isR : List Nat) (hC : isC.map (fun i => ws[i]?) = wc.map some) (hR : isR.map (fun i => ws[i]?) = wr.map some) (hn : va_nd isR = true) (hdis : ∀ i ∈ isR, i ∉ isC) (ht : t.heap = H1) (hB : Wt D cl tys (va_A wc H.size) w1 t) (hk : ∀ q : Nat, q < H.size → ¬ va_A wc H.size q → H1[q]? = H[q]?) (hS : va_S A s.heap H1 locs1) : Hw D cl tys A s (wr ++ w1) H1 locs1 := by
  obtain ⟨hP1, hK1, hD1⟩ := hB
  rw [ht] at hP1
  obtain ⟨hP, hD⟩ := va_join h.2.1 h.2.2.1 isC isR hC hR hn hdis hk (va_free h.2.2.1 h.2.2.2.1 h.2.2.2.2.1 isC hC) hP1 hD1
  exact ⟨h.1, hP, hD, hS, h.2.2.2.2⟩
theorem x_calli {S : Type} {post : Int32 → S → Prop} {w1 : S → va_W} (h : Hw D cl tys A s ws H locs) (isC isR : List Nat) (hC : isC.map (fun i => ws[i]?) = wc.map some) (hR : isR.map (fun i => ws[i]?) = wr.map some) (hn : va_nd isR = true) (hdis : ∀ i ∈ isR, i ∉ isC)
    (hr : va_Run p l e R s m args below meth c H locs cells slots mc ms (F0 m pc ls st0) rest (va_Qi post (fun u t => Wt D cl tys (va_A wc H.size) (w1 u) t) (va_A wc H.size) av) (va_A wc H.size))
    (kk : ∀ (r : Int32) (u : S) (H1 : Heap) (locs1 : List Loc), post r u → Hw D cl tys A s (wr ++ w1 u) H1 locs1 → W p l e R s m args below meth c H1 locs1 (cells + mc) (slots + ms) Q (F0 m (pc + 3) ls (.int r :: rest))) : W p l e R s m args below meth c H locs cells slots Q (F0 m pc ls st0) :=
  va_calli hr h.2.2.2.1 (fun q _ h9 => va_free h.2.2.1 h.2.2.2.1 h.2.2.2.2.1 isC hC q h9) (va_free h.2.2.1 h.2.2.2.1 h.2.2.2.2.1 isC hC) (fun r u t H1 locs1 ht _ hp hB _ hk hS => kk r u H1 locs1 hp (h.join isC isR hC hR hn hdis ht hB hk hS))
theorem x_callv {S : Type} {post : S → Prop} {w1 : S → va_W} (h : Hw D cl tys A s ws H locs) (isC isR : List Nat) (hC : isC.map (fun i => ws[i]?) = wc.map some) (hR : isR.map (fun i => ws[i]?) = wr.map some) (hn : va_nd isR = true) (hdis : ∀ i ∈ isR, i ∉ isC)
    (hr : va_Run p l e R s m args below meth c H locs cells slots mc ms (F0 m pc ls st0) rest (va_Qv post (fun u t => Wt D cl tys (va_A wc H.size) (w1 u) t) (va_A wc H.size) av) (va_A wc H.size))
    (kk : ∀ (u : S) (H1 : Heap) (locs1 : List Loc), post u → Hw D cl tys A s (wr ++ w1 u) H1 locs1 → W p l e R s m args below meth c H1 locs1 (cells + mc) (slots + ms) Q (F0 m (pc + 3) ls rest)) : W p l e R s m args below meth c H locs cells slots Q (F0 m pc ls st0) :=
  va_callv hr h.2.2.2.1 (fun q _ h9 => va_free h.2.2.1 h.2.2.2.1 h.2.2.2.2.1 isC hC q h9) (va_free h.2.2.1 h.2.2.2.1 h.2.2.2.2.1 isC hC) (fun u t H1 locs1 ht _ hp hB _ hk hS => kk u H1 locs1 hp (h.join isC isR hC hR hn hdis ht hB hk hS))
theorem x_callq {S : Type} {post : Option Nat → S → Prop} {w1 : S → va_W} (h : Hw D cl tys A s ws H locs) (isC isR : List Nat) (hC : isC.map (fun i => ws[i]?) = wc.map some) (hR : isR.map (fun i => ws[i]?) = wr.map some) (hn : va_nd isR = true) (hdis : ∀ i ∈ isR, i ∉ isC)
    (hr : va_Run p l e R s m args below meth c H locs cells slots mc ms (F0 m pc ls st0) rest (va_Qq post (fun u t => Wt D cl tys (va_A wc H.size) (w1 u) t) (va_A wc H.size) av) (va_A wc H.size))
    (kk : ∀ (r : Option Nat) (u : S) (H1 : Heap) (locs1 : List Loc), post r u → Hw D cl tys A s (wr ++ w1 u) H1 locs1 → W p l e R s m args below meth c H1 locs1 (cells + mc) (slots + ms) Q (F0 m (pc + 3) ls (va_rf r :: rest))) : W p l e R s m args below meth c H locs cells slots Q (F0 m pc ls st0) :=
  va_callq hr h.2.2.2.1 (fun q _ h9 => va_free h.2.2.1 h.2.2.2.1 h.2.2.2.2.1 isC hC q h9) (va_free h.2.2.1 h.2.2.2.1 h.2.2.2.2.1 isC hC) (fun r u t H1 locs1 ht _ hp hB _ hk hS => kk r u H1 locs1 hp (h.join isC isR hC hR hn hdis ht hB hk hS))
/-- a call's start -/
theorem Hw.preS {As : List Value} (h : Hw D cl tys A s ws H locs) (isC : List Nat) (hn : va_nd isC = true) (hC : isC.map (fun i => ws[i]?) = wc.map some) : PreS s H (va_Pc As (Pr D cl tys H.size wc)) As :=
  ⟨Pr.blind, fun U hU hW => ⟨rfl, (h.sub isC hn hC).pr U hU hW⟩⟩
theorem Hw.preV {As fs : List Value} {b q0 ci : Nat} {C : String} {T : u_T} {N : Nat} (h : Hw D cl tys A s ws H locs) (isC : List Nat) (hn : va_nd isC = true) (hC : isC.map (fun i => ws[i]?) = wc.map some) (he : ws[q0]? = some (b, .inr (ci, fs))) (hc : cl[ci]? = some (C, T, N)) : PreV s H C b (va_Pc (.ref b :: As) (Pr D cl tys H.size wc)) As :=
  ⟨Pr.blind, va_recv h.1 h.2.1 hc he, fun U hU hW => ⟨rfl, (h.sub isC hn hC).pr U hU hW⟩⟩
end XC
section XW
variable {p : Program} {s : State} {m : MethodId} {c : Code} {cc bytes : ByteArray} {nL maxL mc ms index : Nat} {args : Array Value} {Ts ws ws' : List Cond} {own C : String} {R rm : Room} {y : MethodName} {ret : Option FieldType}
theorem x_cw (n : Nat) (F : CallFix p m c cc nL s args Ts own) (hG : GoodIn Ts ws) (hw : ws = Cond.code y bytes maxL ret :: ws') (hrc : rm.cells = mc) (hrs : rm.slots = ms) (hini : (Cond.initialized y.cls).before args s = true) (hl : (Cond.methodLink own index y).before args s = true) (hi : (Cond.instanceMethod y).before args s = true) (hs : (Cond.selects C y y).before args s = true)
    (hd : y.cls ≠ "java/lang/invoke/MethodHandle" ∧ y.cls ≠ "java/lang/invoke/VarHandle" ∧ (parseMethodDescriptor y.desc).map (fun d => d.parameters.length) = some n) (hR : rm.frames + 1 ≤ R.frames ∧ 8 + (maxL + 11) + rm.locals ≤ R.locals) : CallW R s args own C index y bytes maxL ret ws rm mc ms n :=
  ⟨callB_of n F.2.2.2.2 hG hw hrc hrs hini hl hd hR, hi, hs⟩
theorem x_cwS (n : Nat) (F : CallFix p m c cc nL s args Ts own) (hG : GoodIn Ts ws) (hw : ws = Cond.code y bytes maxL ret :: ws') (hrc : rm.cells = mc) (hrs : rm.slots = ms) (hini : (Cond.initialized y.cls).before args s = true) (hl : (Cond.methodLink own index y).before args s = true) (hst : (Cond.static y).before args s = true)
    (hd : y.cls ≠ "java/lang/invoke/MethodHandle" ∧ y.cls ≠ "java/lang/invoke/VarHandle" ∧ (parseMethodDescriptor y.desc).map (fun d => d.parameters.length) = some n) (hR : rm.frames + 1 ≤ R.frames ∧ 8 + (maxL + 11) + rm.locals ≤ R.locals) : CallB R s args own index y bytes maxL ret ws rm mc ms n ∧ (Cond.static y).before args s = true :=
  ⟨callB_of n F.2.2.2.2 hG hw hrc hrs hini hl hd hR, hst⟩
end XW

