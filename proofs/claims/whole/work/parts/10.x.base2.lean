/-! Worlds with a pool (pieces in any number): X ++ va_pl LP f. -/
section XP
variable {p : Program} {l : Launch} {e : Env} {R : Room} {s : State} {m : MethodId} {args : Array Value} {below : List Frame} {meth : Method} {c : Code} {H : Heap} {locs : List Loc} {cells slots : Nat} {Q : State → Prop}
variable {pc : Nat} {ls : Array Slot} {rest st0 : List Value} {cc : ByteArray} {nL : Nat} {Ts : List Cond} {own : String} {A : Nat → Prop} {D : va_G} {cl : List vw_C} {X pl cx wr : va_W} {tys : List (ClassId × FieldType)} {a : Nat} {mc ms : Nat} {av : Array Value}
theorem Hw.part (h : Hw D cl tys A s (X ++ pl) H locs) (is : List Nat) (hn : va_nd is = true) (hs : is.map (fun i => X[i]?) = cx.map some) : Hw D cl tys A s (cx ++ pl) H locs :=
  ⟨h.1, h.2.1.part is hs, h.2.2.1.part is hn hs, h.2.2.2⟩
theorem Hw.swap {w1 w2 w3 : va_W} (h : Hw D cl tys A s ((w1 ++ w2) ++ w3) H locs) : Hw D cl tys A s ((w1 ++ w3) ++ w2) H locs := ⟨h.1, h.2.1.swap, h.2.2.1.swap, h.2.2.2⟩
/-- a cell goes into the pool -/
theorem Hw.pool {LP : List Nat} {f : Nat → va_E} {q : Nat} {x : va_E} (h : Hw D cl tys A s ((X ++ [(q, x)]) ++ va_pl LP f) H locs) : q ∉ LP ∧ Hw D cl tys A s (X ++ va_pl (LP ++ [q]) (va_up f q x)) H locs := by
  have h2 := h.swap
  have hq := va_pl_fresh2 h2.2.2.1
  refine ⟨hq, ?_⟩
  rw [List.append_assoc, va_pl_push hq] at h2
  exact h2
theorem Hw.joinQ {w1 : va_W} {H1 : Heap} {locs1 : List Loc} {t : State} (h : Hw D cl tys A s (X ++ pl) H locs) (isC isR : List Nat) (hC : isC.map (fun i => X[i]?) = cx.map some) (hC2 : isC.map (fun i => (X ++ pl)[i]?) = cx.map some) (hR : isR.map (fun i => X[i]?) = wr.map some) (hn : va_nd isR = true) (hdis : ∀ i ∈ isR, i ∉ isC) (ht : t.heap = H1) (hB : Wt D cl tys (va_A cx H.size) w1 t) (hk : ∀ q : Nat, q < H.size → ¬ va_A cx H.size q → H1[q]? = H[q]?) (hS : va_S A s.heap H1 locs1) : Hw D cl tys A s ((wr ++ w1) ++ pl) H1 locs1 := by
  obtain ⟨hP1, hK1, hD1⟩ := hB
  rw [ht] at hP1
  obtain ⟨hP, hD⟩ := va_joinQ h.2.1 h.2.2.1 isC isR hC hR hn hdis hk (va_free h.2.2.1 h.2.2.2.1 h.2.2.2.2.1 isC hC2) hP1 hD1
  exact ⟨h.1, hP, hD, hS, h.2.2.2.2⟩
theorem Hw.joinP {rx pl1 : va_W} {H1 : Heap} {locs1 : List Loc} {t : State} (h : Hw D cl tys A s (X ++ pl) H locs) (isC isR : List Nat) (hC : isC.map (fun i => X[i]?) = cx.map some) (hR : isR.map (fun i => X[i]?) = wr.map some) (hn : va_nd isR = true) (hdis : ∀ i ∈ isR, i ∉ isC) (ht : t.heap = H1) (hB : Wt D cl tys (va_A (cx ++ pl) H.size) (rx ++ pl1) t) (hk : ∀ q : Nat, q < H.size → ¬ va_A (cx ++ pl) H.size q → H1[q]? = H[q]?) (hS : va_S A s.heap H1 locs1) : Hw D cl tys A s ((wr ++ rx) ++ pl1) H1 locs1 := by
  obtain ⟨hP1, hK1, hD1⟩ := hB
  rw [ht] at hP1
  obtain ⟨hP, hD⟩ := va_joinP h.2.1 h.2.2.1 isC isR hC hR hn hdis hk (va_freeP h.2.2.1 h.2.2.2.1 h.2.2.2.2.1 isC hC) hP1 hD1
  exact ⟨h.1, hP, hD, hS, h.2.2.2.2⟩
theorem x_calliQ {S : Type} {post : Int32 → S → Prop} {w1 : S → va_W} (h : Hw D cl tys A s (X ++ pl) H locs) (isC isR : List Nat) (hC : isC.map (fun i => X[i]?) = cx.map some) (hC2 : isC.map (fun i => (X ++ pl)[i]?) = cx.map some) (hR : isR.map (fun i => X[i]?) = wr.map some) (hn : va_nd isR = true) (hdis : ∀ i ∈ isR, i ∉ isC)
    (hr : va_Run p l e R s m args below meth c H locs cells slots mc ms (F0 m pc ls st0) rest (va_Qi post (fun u t => Wt D cl tys (va_A cx H.size) (w1 u) t) (va_A cx H.size) av) (va_A cx H.size))
    (kk : ∀ (r : Int32) (u : S) (H1 : Heap) (locs1 : List Loc), post r u → Hw D cl tys A s ((wr ++ w1 u) ++ pl) H1 locs1 → W p l e R s m args below meth c H1 locs1 (cells + mc) (slots + ms) Q (F0 m (pc + 3) ls (.int r :: rest))) : W p l e R s m args below meth c H locs cells slots Q (F0 m pc ls st0) :=
  va_calli hr h.2.2.2.1 (fun q _ h9 => va_free h.2.2.1 h.2.2.2.1 h.2.2.2.2.1 isC hC2 q h9) (va_free h.2.2.1 h.2.2.2.1 h.2.2.2.2.1 isC hC2) (fun r u t H1 locs1 ht _ hp hB _ hk hS => kk r u H1 locs1 hp (h.joinQ isC isR hC hC2 hR hn hdis ht hB hk hS))
theorem x_callvQ {S : Type} {post : S → Prop} {w1 : S → va_W} (h : Hw D cl tys A s (X ++ pl) H locs) (isC isR : List Nat) (hC : isC.map (fun i => X[i]?) = cx.map some) (hC2 : isC.map (fun i => (X ++ pl)[i]?) = cx.map some) (hR : isR.map (fun i => X[i]?) = wr.map some) (hn : va_nd isR = true) (hdis : ∀ i ∈ isR, i ∉ isC)
    (hr : va_Run p l e R s m args below meth c H locs cells slots mc ms (F0 m pc ls st0) rest (va_Qv post (fun u t => Wt D cl tys (va_A cx H.size) (w1 u) t) (va_A cx H.size) av) (va_A cx H.size))
    (kk : ∀ (u : S) (H1 : Heap) (locs1 : List Loc), post u → Hw D cl tys A s ((wr ++ w1 u) ++ pl) H1 locs1 → W p l e R s m args below meth c H1 locs1 (cells + mc) (slots + ms) Q (F0 m (pc + 3) ls rest)) : W p l e R s m args below meth c H locs cells slots Q (F0 m pc ls st0) :=
  va_callv hr h.2.2.2.1 (fun q _ h9 => va_free h.2.2.1 h.2.2.2.1 h.2.2.2.2.1 isC hC2 q h9) (va_free h.2.2.1 h.2.2.2.1 h.2.2.2.2.1 isC hC2) (fun u t H1 locs1 ht _ hp hB _ hk hS => kk u H1 locs1 hp (h.joinQ isC isR hC hC2 hR hn hdis ht hB hk hS))
theorem x_callqQ {S : Type} {post : Option Nat → S → Prop} {w1 : S → va_W} (h : Hw D cl tys A s (X ++ pl) H locs) (isC isR : List Nat) (hC : isC.map (fun i => X[i]?) = cx.map some) (hC2 : isC.map (fun i => (X ++ pl)[i]?) = cx.map some) (hR : isR.map (fun i => X[i]?) = wr.map some) (hn : va_nd isR = true) (hdis : ∀ i ∈ isR, i ∉ isC)
    (hr : va_Run p l e R s m args below meth c H locs cells slots mc ms (F0 m pc ls st0) rest (va_Qq post (fun u t => Wt D cl tys (va_A cx H.size) (w1 u) t) (va_A cx H.size) av) (va_A cx H.size))
    (kk : ∀ (r : Option Nat) (u : S) (H1 : Heap) (locs1 : List Loc), post r u → Hw D cl tys A s ((wr ++ w1 u) ++ pl) H1 locs1 → W p l e R s m args below meth c H1 locs1 (cells + mc) (slots + ms) Q (F0 m (pc + 3) ls (va_rf r :: rest))) : W p l e R s m args below meth c H locs cells slots Q (F0 m pc ls st0) :=
  va_callq hr h.2.2.2.1 (fun q _ h9 => va_free h.2.2.1 h.2.2.2.1 h.2.2.2.2.1 isC hC2 q h9) (va_free h.2.2.1 h.2.2.2.1 h.2.2.2.2.1 isC hC2) (fun r u t H1 locs1 ht _ hp hB _ hk hS => kk r u H1 locs1 hp (h.joinQ isC isR hC hC2 hR hn hdis ht hB hk hS))
theorem x_calliP {S : Type} {post : Int32 → S → Prop} {rx pl1 : S → va_W} (h : Hw D cl tys A s (X ++ pl) H locs) (isC isR : List Nat) (hC : isC.map (fun i => X[i]?) = cx.map some) (hR : isR.map (fun i => X[i]?) = wr.map some) (hn : va_nd isR = true) (hdis : ∀ i ∈ isR, i ∉ isC)
    (hr : va_Run p l e R s m args below meth c H locs cells slots mc ms (F0 m pc ls st0) rest (va_Qi post (fun u t => Wt D cl tys (va_A (cx ++ pl) H.size) (rx u ++ pl1 u) t) (va_A (cx ++ pl) H.size) av) (va_A (cx ++ pl) H.size))
    (kk : ∀ (r : Int32) (u : S) (H1 : Heap) (locs1 : List Loc), post r u → Hw D cl tys A s ((wr ++ rx u) ++ pl1 u) H1 locs1 → W p l e R s m args below meth c H1 locs1 (cells + mc) (slots + ms) Q (F0 m (pc + 3) ls (.int r :: rest))) : W p l e R s m args below meth c H locs cells slots Q (F0 m pc ls st0) :=
  va_calli hr h.2.2.2.1 (fun q _ h9 => va_freeP h.2.2.1 h.2.2.2.1 h.2.2.2.2.1 isC hC q h9) (va_freeP h.2.2.1 h.2.2.2.1 h.2.2.2.2.1 isC hC) (fun r u t H1 locs1 ht _ hp hB _ hk hS => kk r u H1 locs1 hp (h.joinP isC isR hC hR hn hdis ht hB hk hS))
theorem x_callvP {S : Type} {post : S → Prop} {rx pl1 : S → va_W} (h : Hw D cl tys A s (X ++ pl) H locs) (isC isR : List Nat) (hC : isC.map (fun i => X[i]?) = cx.map some) (hR : isR.map (fun i => X[i]?) = wr.map some) (hn : va_nd isR = true) (hdis : ∀ i ∈ isR, i ∉ isC)
    (hr : va_Run p l e R s m args below meth c H locs cells slots mc ms (F0 m pc ls st0) rest (va_Qv post (fun u t => Wt D cl tys (va_A (cx ++ pl) H.size) (rx u ++ pl1 u) t) (va_A (cx ++ pl) H.size) av) (va_A (cx ++ pl) H.size))
    (kk : ∀ (u : S) (H1 : Heap) (locs1 : List Loc), post u → Hw D cl tys A s ((wr ++ rx u) ++ pl1 u) H1 locs1 → W p l e R s m args below meth c H1 locs1 (cells + mc) (slots + ms) Q (F0 m (pc + 3) ls rest)) : W p l e R s m args below meth c H locs cells slots Q (F0 m pc ls st0) :=
  va_callv hr h.2.2.2.1 (fun q _ h9 => va_freeP h.2.2.1 h.2.2.2.1 h.2.2.2.2.1 isC hC q h9) (va_freeP h.2.2.1 h.2.2.2.1 h.2.2.2.2.1 isC hC) (fun u t H1 locs1 ht _ hp hB _ hk hS => kk u H1 locs1 hp (h.joinP isC isR hC hR hn hdis ht hB hk hS))
theorem x_callqP {S : Type} {post : Option Nat → S → Prop} {rx pl1 : S → va_W} (h : Hw D cl tys A s (X ++ pl) H locs) (isC isR : List Nat) (hC : isC.map (fun i => X[i]?) = cx.map some) (hR : isR.map (fun i => X[i]?) = wr.map some) (hn : va_nd isR = true) (hdis : ∀ i ∈ isR, i ∉ isC)
    (hr : va_Run p l e R s m args below meth c H locs cells slots mc ms (F0 m pc ls st0) rest (va_Qq post (fun u t => Wt D cl tys (va_A (cx ++ pl) H.size) (rx u ++ pl1 u) t) (va_A (cx ++ pl) H.size) av) (va_A (cx ++ pl) H.size))
    (kk : ∀ (r : Option Nat) (u : S) (H1 : Heap) (locs1 : List Loc), post r u → Hw D cl tys A s ((wr ++ rx u) ++ pl1 u) H1 locs1 → W p l e R s m args below meth c H1 locs1 (cells + mc) (slots + ms) Q (F0 m (pc + 3) ls (va_rf r :: rest))) : W p l e R s m args below meth c H locs cells slots Q (F0 m pc ls st0) :=
  va_callq hr h.2.2.2.1 (fun q _ h9 => va_freeP h.2.2.1 h.2.2.2.1 h.2.2.2.2.1 isC hC q h9) (va_freeP h.2.2.1 h.2.2.2.1 h.2.2.2.2.1 isC hC) (fun r u t H1 locs1 ht _ hp hB _ hk hS => kk r u H1 locs1 hp (h.joinP isC isR hC hR hn hdis ht hB hk hS))
theorem Hw.preSP {As : List Value} (h : Hw D cl tys A s (X ++ pl) H locs) (isC : List Nat) (hn : va_nd isC = true) (hC : isC.map (fun i => X[i]?) = cx.map some) : PreS s H (va_Pc As (Pr D cl tys H.size (cx ++ pl))) As :=
  ⟨Pr.blind, fun U hU hW => ⟨rfl, (h.part isC hn hC).pr U hU hW⟩⟩
theorem Hw.preVP {As fs : List Value} {b q0 ci : Nat} {C : String} {T : u_T} {N : Nat} (h : Hw D cl tys A s (X ++ pl) H locs) (isC : List Nat) (hn : va_nd isC = true) (hC : isC.map (fun i => X[i]?) = cx.map some) (he : (X ++ pl)[q0]? = some (b, .inr (ci, fs))) (hc : cl[ci]? = some (C, T, N)) : PreV s H C b (va_Pc (.ref b :: As) (Pr D cl tys H.size (cx ++ pl))) As :=
  ⟨Pr.blind, va_recv h.1 h.2.1 hc he, fun U hU hW => ⟨rfl, (h.part isC hn hC).pr U hU hW⟩⟩
end XP
section XQ
variable {l : Launch} {y : MethodName} {wds wds' : List Cond} {rm : Room} {D : va_G} {cl : List vw_C} {tys : List (ClassId × FieldType)} {av : List Value} {wc : va_W} {mc ms : Nat} {cc : ByteArray} {maxL : Nat}
theorem x_inq {S : Type} {n : FieldType} {post : Option Nat → S → Prop} {w1 : S → va_W} (hy : plainName y.cls = true) (hw : wds = Cond.code y cc maxL (some n) :: wds') (hlen : (lg_sl av).length ≤ maxL) (hrt : (∃ x, n = .object x) ∨ ∃ t, n = .array t)
    (body : ∀ (p : Program) (e : Env) (s : State) (m : MethodId) (args : Array Value) (below : List Frame) (meth : Method) (c : Code) (A : Nat → Prop) (ls : Array Slot) (Q : State → Prop), CallFix p m c cc maxL s args wds y.cls → lv_has ls maxL (lv_args 0 av) → Hw D cl tys A s wc s.heap [] →
      (∀ (v : Option Nat) (u : S) (H : Heap) (locs : List Loc) (pc : Nat) (ls : Array Slot), post v u → Hw D cl tys A s (w1 u) H locs → decode cc pc = .ok (.areturn, 1) → W p l e rm s m args below meth c H locs mc ms Q (F0 m pc ls [va_rf v])) →
      W p l e rm s m args below meth c s.heap [] 0 0 Q (F0 m 0 ls [])) :
    Ctq l y wds rm D cl tys av wc post w1 mc ms := fun sz =>
  x_in (Qc := fun A => va_Qq post (fun u t => Wt D cl tys A (w1 u) t) A) sz hy hw hlen (fun p e s m args below meth c A ls F hr hlocks _ hl hh =>
    body p e s m args below meth c A ls _ F hl hh (fun v u H locs pc ls hp h hdg =>
      W.aret (v := va_rf v) F.1 F.2.1 hr hrt (by cases v with
        | none => exact Or.inl rfl
        | some a => exact Or.inr ⟨a, rfl⟩) (fun t ht hW => ⟨⟨v, u, rfl, hp, by rw [ht]; exact h.2.1, va_K.moved hW.alike h.1, h.2.2.1⟩, h.2.2.2.1.F ht⟩) h.2.2.2.1.2.2 hdg hlocks))
end XQ

