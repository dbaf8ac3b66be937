/-! THE CLAIM OUT OF ONE WALK OF THE LAW'S BODY. Your part is whole_start (and what it stands on); all else here is the same for every law, but numbers. -/
def R_law : String := "MovingGuestLaw"
def lw_P (b : Addr) (xs : List Int32) (args : Array Value) (s : State) : Prop := args = #[.ref b] ∧ s.IntsAt b xs ∧ xs.length ≤ 1536 ∧ (Jvm.Cond.and given_1 narrow_1).before args s = true
def lw_Q (_ : Array Value) (s : State) (o : Outcome) (t : State) : Prop := o = .returned (some (.int 1)) ∧ Framed s o t [] 626643 7222318
def lw_Z (below : List Frame) (a : Array Value) (s : State) : State → Prop := fun t => ∃ o, t.status = .running ∧ Ended t below o ∧ lw_Q a s o t
/-- the law's own end, with 1 on the stack, nothing written that was there before, its room as the claim has it -/
theorem lw_ret {p : Program} {l : Launch} {e : Env} {s : State} {m : MethodId} {below : List Frame} {meth : Method} {c : Code} {b : Nat} (hx : p.tables.exec = Jvm.exec) (hb : c.code = code) (hr : meth.sig.returnType = ret) (hlocks : meth.locks = false) {pc : Nat} {H : Heap} {ls : Array Slot} (hdg : decode code pc = .ok (.ireturn, 1)) : W p l e room_1 s m #[Value.ref b] below meth c H [] 626643 7222318 (lw_Z below #[Value.ref b] s) (F0 m pc ls [.int 1]) := by
  intro T hT X
  obtain ⟨fs, hret, hrun, hended, hW, hframe⟩ := X.leave (v := some (.int 1)) (hlocks := hlocks) (fun h => by rw [hr] at h; cases h)
  have hmeth' : T.vm.method? m = some meth := X.method'
  refine ⟨T.setFrames fs, ?_, .returned (some (.int 1)), hrun, hended, rfl, ⟨_, rfl⟩, hW, hframe⟩
  jvm_step X.here [X.here.top, hx, hb, hdg, hmeth', hr, ret, narrow_b1]
  (try refine ⟨rfl, ?_⟩); (try refine ⟨rfl, ?_⟩)
  first | (intro acts; rw [hret _ acts rfl rfl rfl]) | rw [hret _ _ rfl rfl rfl]
  exact Steps.refl _
/-- what holds at the law's entry: the machine, the code, the tables' words (any of lw_tbl by 'hts w (by decide +kernel)'), the script of L ints xs at the cell b, what the Statement gives of the start (any of its parts by flat_of_before) -/
def lw_At (p : Program) (s : State) (m : MethodId) (meth : Method) (c : Code) (b L : Nat) (xs : Nat → Int32) : Prop :=
  p.tables.exec = Jvm.exec ∧ c.code = code ∧ meth.sig.returnType = ret ∧ c.maxLocals = 4 ∧ s.vm.findClass R_law = some m.cls ∧ (∀ w ∈ lw_tbl, w.before #[Value.ref b] s = true) ∧ va_X b L xs s s.heap ∧ b < s.heap.size ∧ meth.locks = false ∧ (Jvm.Cond.and given_1 narrow_1).before #[Value.ref b] s = true
-- ===== YOUR PART BEGINS =====
set_option maxHeartbeats 8000000 in
set_option maxRecDepth 100000 in
/-- YOUR PART: from the entry, for every script of at most 1536 ints, the law comes to its end with true -/
theorem whole_start {p : Program} {e : Env} {s : State} {m : MethodId} {below : List Frame} {meth : Method} {c : Code} (l : Launch) {b L : Nat} {xs : Nat → Int32} (hL : L ≤ 1536) (C0 : lw_At p s m meth c b L xs) : W p l e room_1 s m #[Value.ref b] below meth c s.heap [] 0 0 (lw_Z below #[Value.ref b] s) (entryFrame m ([Value.ref b] : List Value).toArray 4) := by
  obtain ⟨hx, hb, hr, hml, hown, hts, hX, hbl, hlocks, hgv⟩ := C0
  have hAll : ∀ w ∈ wAll, w.before #[Value.ref b] s = true := fun w hw => hts w (wAll_in w hw)
  have F : CallFix p m c code 4 s #[Value.ref b] TL "MovingGuestLaw" := ⟨hx, hb, hml, hown, fun w hw => by
    rcases List.mem_cons.mp hw with rfl | hw
    · exact (hAll _ m_35)
    · exact hAll _ hw⟩
  obtain ⟨c0, i0, k0⟩ := u_known hAll in_H (hAll _ m_109)
  obtain ⟨c1, i1, k1⟩ := u_known hAll in_L (hAll _ m_95)
  obtain ⟨c2, i2, k2⟩ := u_known hAll in_A (hAll _ m_114)
  obtain ⟨c3, i3, k3⟩ := u_known hAll in_V (hAll _ m_55)
  obtain ⟨c4, i4, k4⟩ := u_known hAll in_P (hAll _ m_382)
  obtain ⟨c5, i5, k5⟩ := u_known hAll in_G (hAll _ m_46)
  obtain ⟨c6, i6, k6⟩ := u_known hAll in_M (hAll _ m_518)
  obtain ⟨d0, e0, f0, p01, p02, p03⟩ := Cond.arrayClass_spec (hAll _ m_93)
  obtain ⟨d1, e1, f1, p11, p12, p13⟩ := Cond.arrayClass_spec (hAll _ m_617)
  have o2 := hts (.arrayOver (.object "MovingGuest$Host")) (by decide +kernel)
  have o3 := hts (.arrayOver (.object "MovingGuest$Piece")) (by decide +kernel)
  obtain ⟨f2, d2, e2, p21, -, p23, p24, p25⟩ := Cond.arrayOver_spec o2
  obtain ⟨f3, d3, e3, p31, -, p33, p34, p35⟩ := Cond.arrayOver_spec o3
  obtain ⟨D, hD⟩ : ∃ D : va_G, D = ((fun k => match k with | 0 => c0 | 1 => c1 | 2 => c2 | 3 => c3 | 4 => c4 | 5 => c5 | _ => c6), (fun k => match k with | 0 => i0 | 1 => i1 | 2 => i2 | 3 => i3 | 4 => i4 | 5 => i5 | _ => i6)) := ⟨_, rfl⟩
  obtain ⟨cT, hcT⟩ : ∃ cT : Nat → ClassId, cT = (fun k => match k with | 0 => d0 | 1 => d1 | 2 => d2 | _ => d3) := ⟨_, rfl⟩
  have hK : va_K D vwCl (TYS cT) s := by
    subst hD
    subst hcT
    refine ⟨fun k q hq => ?_, fun k q hq => ?_⟩
    · match k, hq with
      | 0, hq => exact Option.some.inj (show some (R_H, T_H, 10) = some q from hq) ▸ k0
      | 1, hq => exact Option.some.inj (show some (R_L, T_L, 2) = some q from hq) ▸ k1
      | 2, hq => exact Option.some.inj (show some (R_A, T_A, 12) = some q from hq) ▸ k2
      | 3, hq => exact Option.some.inj (show some (R_V, T_V, 9) = some q from hq) ▸ k3
      | 4, hq => exact Option.some.inj (show some (R_P, T_P, 5) = some q from hq) ▸ k4
      | 5, hq => exact Option.some.inj (show some (R_G, T_G, 7) = some q from hq) ▸ k5
      | 6, hq => exact Option.some.inj (show some (R_M, T_M, 31) = some q from hq) ▸ k6
      | k + 7, hq => exact absurd (hq.symm.trans (List.getElem?_eq_none (show vwCl.length ≤ k + 7 from Nat.le_add_left 7 k))) (fun w => by cases w)
    · match k, hq with
      | 0, hq => exact Option.some.inj (show some (d0, FieldType.int) = some q from hq) ▸ ⟨fun n z => ⟨fun k h => (by cases h), e0, p02, f0, p03⟩, p01⟩
      | 1, hq => exact Option.some.inj (show some (d1, FieldType.boolean) = some q from hq) ▸ ⟨fun n z => ⟨fun k h => (by cases h), e1, p12, f1, p13⟩, p11⟩
      | 2, hq => exact Option.some.inj (show some (d2, FieldType.object "MovingGuest$Host") = some q from hq) ▸ ⟨fun n z => ⟨fun k h => (by cases h), e2, p23, f2, p24⟩, e2, f2, p23, p24, p21, p25⟩
      | 3, hq => exact Option.some.inj (show some (d3, FieldType.object "MovingGuest$Piece") = some q from hq) ▸ ⟨fun n z => ⟨fun k h => (by cases h), e3, p33, f3, p34⟩, e3, f3, p33, p34, p31, p35⟩
      | k + 4, hq => exact absurd (hq.symm.trans (List.getElem?_eq_none (show (TYS _).length ≤ k + 4 from Nat.le_add_left 4 k))) (fun w => by cases w)
  obtain ⟨t, ht⟩ : ∃ t : Nat, (Term.static "MovingGuest" "NO_WORDS" "[I").eval #[Value.ref b] s none [] s = some (.ref t) := by
    have hq : (Cond.eq (.length (.static "MovingGuest" "NO_WORDS" "[I")) (.int 0)).before #[Value.ref b] s = true := flat_of_before _ hgv _ (by decide +kernel)
    obtain ⟨t, cell, h, -⟩ := Term.length_spec (va_eqt hq)
    exact ⟨t, h⟩
  have hN : NW s := ⟨va_Nw.of rfl (hts _ (by decide +kernel)), va_Nw.of rfl (hts _ (by decide +kernel)), va_Nw.of rfl (hts _ (by decide +kernel)), va_Nw.of rfl (hts _ (by decide +kernel))⟩
  obtain ⟨A, hA⟩ : ∃ A : Nat → Prop, A = fun q => s.heap.size ≤ q := ⟨_, rfl⟩
  have hA1 : ∀ q, s.heap.size ≤ q → A q := fun q h => by rw [hA]; exact h
  have hA2 : ∀ q, A q → s.heap.size ≤ q := fun q h => by rw [hA] at h; exact h
  have hE : Ex A s s.heap := ⟨va_AO.of o2, va_AO.of o3, t, va_Zref (hts (.laysStatic "MovingGuest" "NO_WORDS" "[I") (by decide +kernel)) (hAll _ m_35) ht (fun a ha w => by have := hA2 a w; omega)⟩
  have hw : Hw D vwCl (TYS cT) A s [] s.heap [] := ⟨hK, fun k q hq => (by cases hq), ⟨fun i j p q hp => (by cases hp), fun k q hq => (by cases hq)⟩, va_S.rf, hA1, hE⟩
  have C : LC p m c s #[Value.ref b] A b L xs := ⟨F, hX, hbl, fun w => by have := hA2 b w; omega, hL⟩
  have hl := lv_entry ([.ref b]) (n := 4) (Nat.le_of_ble_eq_true rfl)
  rw [lg_entry_eq]
  generalize (lg_sl ([.ref b]) ++ List.replicate (4 - (lg_sl ([.ref b])).length) Slot.unset).toArray = ls at hl ⊢
  have hl : lv_has ls 4 [(0, .ref b)] := hl
  refine x_new (pc := 0) F hw (fun x h => List.mem_cons_of_mem _ (in_G x h)) ty_G tyok_G (List.mem_cons_of_mem _ m_45) (List.mem_cons_of_mem _ m_46) (List.mem_cons_of_mem _ m_35) (ci := 5) rfl df_G (by decide) (by decide) d_W_law_0 (fun q0 H hw => ?_)
  have hw : Hw D vwCl (TYS cT) A s [(q0, .inr (5, [.null, .null, .null, .null, .null, .int 0, .int 0]))] H [] := hw
  refine lv_dup (pc := 3) F.1 F.2.1 d_W_law_3 rfl ?_
  refine x_callv (pc := 4) (wr := []) hw [0] [] rfl rfl (by decide) (by decide) (va_runI (As := []) (rest := [.ref q0]) F (c_G_init l D cT q0 0 0 _) (cwI 0 F.2.2.2.2 (g_all y_G_init b_G_init 2 none (List.mem_cons_of_mem _ m_49)) rfl rfl rfl (F.2.2.2.2 _ (List.mem_cons_of_mem _ m_35)) (F.2.2.2.2 _ (List.mem_cons_of_mem _ m_47)) (F.2.2.2.2 _ (List.mem_cons_of_mem _ m_48)) rfl (by decide +kernel) ⟨by decide, by decide⟩) (hw.preSN hN [0] (by decide) rfl) rfl rfl hl.1 rfl (lv_room (Nat.le_of_ble_eq_true rfl)) d_W_law_4 ⟨by decide, by decide⟩) (fun u H locs _ hw => ?_)
  have hw : Hw D vwCl (TYS cT) A s [(q0, .inr (5, [.ref (u 0), .ref (u 1), .ref (u 2), .ref (u 3), .ref (u 6), .int ((-2)), .int 0])), (u 0, .inl (cT 0, 64, .inl (fun _ => 0))), (u 1, .inl (cT 0, 8, .inl (fun _ => 0))), (u 2, .inl (cT 2, 2, .inr (.inr (.inr (.inr (va_up (va_up (fun _ => none) 0 (some (u 8))) 1 (some (u 15)))))))), (u 3, .inr (3, [.ref (u 4), .ref (u 5), .int (bI false), .int (bI false), .int 0, .int 0, .int 0, .int 0, .int 0])), (u 4, .inl (cT 0, 8, .inl (fun _ => 0))), (u 5, .inl (cT 0, 8, .inl (fun _ => 0))), (u 6, .inr (1, [.ref (u 7), .int 0])), (u 7, .inl (cT 3, 8, .inr (.inr (.inr (.inr (fun _ => none)))))), (u 8, .inr (0, [.ref (u 10), .ref (u 9), .int (bI true), .int (bI false), .int (bI false), .int (bI false), .int (bI false), .int 0, .int 0, .int 0])), (u 9, .inl (cT 0, 8, .inl (fun _ => 0))), (u 10, .inr (2, [.ref (u 11), .ref (u 12), .ref (u 13), .ref (u 14), .int 0, .int 0, .int 0, .int 0, .int 0, .int (bI false), .int 0, .int 0])), (u 11, .inl (cT 0, 64, .inl (fun _ => 0))), (u 12, .inl (cT 0, 4, .inl (fun _ => 0))), (u 13, .inl (cT 0, 8, .inl (fun _ => 0))), (u 14, .inl (cT 0, 40, .inl (fun _ => 0))), (u 15, .inr (0, [.ref (u 17), .ref (u 16), .int (bI true), .int (bI false), .int (bI false), .int (bI false), .int (bI false), .int 0, .int 0, .int 0])), (u 16, .inl (cT 0, 8, .inl (fun _ => 0))), (u 17, .inr (2, [.ref (u 18), .ref (u 19), .ref (u 20), .ref (u 21), .int 0, .int 0, .int 0, .int 0, .int 0, .int (bI false), .int 0, .int 0])), (u 18, .inl (cT 0, 64, .inl (fun _ => 0))), (u 19, .inl (cT 0, 4, .inl (fun _ => 0))), (u 20, .inl (cT 0, 8, .inl (fun _ => 0))), (u 21, .inl (cT 0, 40, .inl (fun _ => 0)))] H locs := hw
  refine lv_astore_n (pc := 7) (lv' := [(1, .ref q0), (0, .ref b)]) F.1 F.2.1 d_W_law_7 rfl hl (by decide) rfl (fun ls hl => ?_)
  refine x_new (pc := 8) F hw (fun x h => List.mem_cons_of_mem _ (in_M x h)) ty_M tyok_M (List.mem_cons_of_mem _ m_517) (List.mem_cons_of_mem _ m_518) (List.mem_cons_of_mem _ m_40) (ci := 6) rfl df_M (by decide) (by decide) d_W_law_8 (fun q1 H hw => ?_)
  have hw : Hw D vwCl (TYS cT) A s ([(q0, .inr (5, [.ref (u 0), .ref (u 1), .ref (u 2), .ref (u 3), .ref (u 6), .int ((-2)), .int 0])), (u 0, .inl (cT 0, 64, .inl (fun _ => 0))), (u 1, .inl (cT 0, 8, .inl (fun _ => 0))), (u 2, .inl (cT 2, 2, .inr (.inr (.inr (.inr (va_up (va_up (fun _ => none) 0 (some (u 8))) 1 (some (u 15)))))))), (u 3, .inr (3, [.ref (u 4), .ref (u 5), .int (bI false), .int (bI false), .int 0, .int 0, .int 0, .int 0, .int 0])), (u 4, .inl (cT 0, 8, .inl (fun _ => 0))), (u 5, .inl (cT 0, 8, .inl (fun _ => 0))), (u 6, .inr (1, [.ref (u 7), .int 0])), (u 7, .inl (cT 3, 8, .inr (.inr (.inr (.inr (fun _ => none)))))), (u 8, .inr (0, [.ref (u 10), .ref (u 9), .int (bI true), .int (bI false), .int (bI false), .int (bI false), .int (bI false), .int 0, .int 0, .int 0])), (u 9, .inl (cT 0, 8, .inl (fun _ => 0))), (u 10, .inr (2, [.ref (u 11), .ref (u 12), .ref (u 13), .ref (u 14), .int 0, .int 0, .int 0, .int 0, .int 0, .int (bI false), .int 0, .int 0])), (u 11, .inl (cT 0, 64, .inl (fun _ => 0))), (u 12, .inl (cT 0, 4, .inl (fun _ => 0))), (u 13, .inl (cT 0, 8, .inl (fun _ => 0))), (u 14, .inl (cT 0, 40, .inl (fun _ => 0))), (u 15, .inr (0, [.ref (u 17), .ref (u 16), .int (bI true), .int (bI false), .int (bI false), .int (bI false), .int (bI false), .int 0, .int 0, .int 0])), (u 16, .inl (cT 0, 8, .inl (fun _ => 0))), (u 17, .inr (2, [.ref (u 18), .ref (u 19), .ref (u 20), .ref (u 21), .int 0, .int 0, .int 0, .int 0, .int 0, .int (bI false), .int 0, .int 0])), (u 18, .inl (cT 0, 64, .inl (fun _ => 0))), (u 19, .inl (cT 0, 4, .inl (fun _ => 0))), (u 20, .inl (cT 0, 8, .inl (fun _ => 0))), (u 21, .inl (cT 0, 40, .inl (fun _ => 0)))] ++ [(q1, .inr (6, [.null, .null, .null, .null, .null, .int (bI false), .null, .int 0, .int 0, .null, .null, .null, .null, .int (bI false), .int 0, .int 0, .null, .int 0, .int 0, .int 0, .int (bI false), .int (bI false), .null, .null, .null, .int 0, .null, .null, .null, .null, .null]))]) H locs := hw
  refine lv_dup (pc := 11) F.1 F.2.1 d_W_law_11 rfl ?_
  refine x_callv (pc := 12) (wr := [(q0, .inr (5, [.ref (u 0), .ref (u 1), .ref (u 2), .ref (u 3), .ref (u 6), .int ((-2)), .int 0])), (u 0, .inl (cT 0, 64, .inl (fun _ => 0))), (u 1, .inl (cT 0, 8, .inl (fun _ => 0))), (u 2, .inl (cT 2, 2, .inr (.inr (.inr (.inr (va_up (va_up (fun _ => none) 0 (some (u 8))) 1 (some (u 15)))))))), (u 3, .inr (3, [.ref (u 4), .ref (u 5), .int (bI false), .int (bI false), .int 0, .int 0, .int 0, .int 0, .int 0])), (u 4, .inl (cT 0, 8, .inl (fun _ => 0))), (u 5, .inl (cT 0, 8, .inl (fun _ => 0))), (u 6, .inr (1, [.ref (u 7), .int 0])), (u 7, .inl (cT 3, 8, .inr (.inr (.inr (.inr (fun _ => none)))))), (u 8, .inr (0, [.ref (u 10), .ref (u 9), .int (bI true), .int (bI false), .int (bI false), .int (bI false), .int (bI false), .int 0, .int 0, .int 0])), (u 9, .inl (cT 0, 8, .inl (fun _ => 0))), (u 10, .inr (2, [.ref (u 11), .ref (u 12), .ref (u 13), .ref (u 14), .int 0, .int 0, .int 0, .int 0, .int 0, .int (bI false), .int 0, .int 0])), (u 11, .inl (cT 0, 64, .inl (fun _ => 0))), (u 12, .inl (cT 0, 4, .inl (fun _ => 0))), (u 13, .inl (cT 0, 8, .inl (fun _ => 0))), (u 14, .inl (cT 0, 40, .inl (fun _ => 0))), (u 15, .inr (0, [.ref (u 17), .ref (u 16), .int (bI true), .int (bI false), .int (bI false), .int (bI false), .int (bI false), .int 0, .int 0, .int 0])), (u 16, .inl (cT 0, 8, .inl (fun _ => 0))), (u 17, .inr (2, [.ref (u 18), .ref (u 19), .ref (u 20), .ref (u 21), .int 0, .int 0, .int 0, .int 0, .int 0, .int (bI false), .int 0, .int 0])), (u 18, .inl (cT 0, 64, .inl (fun _ => 0))), (u 19, .inl (cT 0, 4, .inl (fun _ => 0))), (u 20, .inl (cT 0, 8, .inl (fun _ => 0))), (u 21, .inl (cT 0, 40, .inl (fun _ => 0)))]) hw [23] [0, 1, 2, 3, 4, 5, 6, 7, 8, 9, 10, 11, 12, 13, 14, 15, 16, 17, 18, 19, 20, 21, 22] rfl rfl (by decide) (by decide) (va_runI (As := []) (rest := [.ref q1]) F (c_M_init l D cT q1 _) (cwI 0 F.2.2.2.2 (g_all y_M_init b_M_init 1 none (List.mem_cons_of_mem _ m_521)) rfl rfl rfl (F.2.2.2.2 _ (List.mem_cons_of_mem _ m_40)) (F.2.2.2.2 _ (List.mem_cons_of_mem _ m_519)) (F.2.2.2.2 _ (List.mem_cons_of_mem _ m_520)) rfl (by decide +kernel) ⟨by decide, by decide⟩) (hw.preS [23] (by decide) rfl) rfl rfl hl.1 rfl (lv_room (Nat.le_of_ble_eq_true rfl)) d_W_law_12 ⟨by decide, by decide⟩) (fun ad H2 locs2 eq hw2 => ?_)
  try dsimp only at eq
  subst eq
  refine lv_astore_n (pc := 15) (lv' := [(2, .ref (ad 0)), (1, .ref q0), (0, .ref b)]) F.1 F.2.1 d_W_law_15 rfl hl (by decide) rfl (fun ls hl => ?_)
  refine lv_iconst (pc := 16) (v := 0) F.1 F.2.1 d_W_law_16 (by decide) ?_
  refine lv_istore_n (pc := 17) (lv' := [(3, .int 0), (2, .ref (ad 0)), (1, .ref q0), (0, .ref b)]) F.1 F.2.1 d_W_law_17 rfl hl (by decide) rfl (fun ls hl => ?_)
  have I : LI D cT A s (fun k => match k with | 0 => q0 | k + 1 => u k) (fun k i => u (8 + 7 * k + i)) ad 0 0 (fun _ _ => 0) (fun _ _ => 0) (fun _ _ => 0) (fun _ _ => 0) (fun _ _ => 0) (fun _ => 0) (fun _ => 0) (fun _ => 0) (fun _ => 0) (fun _ => 0) (fun _ => 0) (fun _ => 0) (fun _ => 0) (fun _ => 0) (fun _ => 0) (fun _ => false) (fun _ => true) (fun _ => false) (fun _ => false) (fun _ => false) (fun _ => false) (fun _ => 0) (fun _ => 0) (fun _ => 0) (fun _ => 0) (-2) 0 0 0 0 0 0 0 false false (fun _ => 0) (fun _ => 0) (fun _ => 0) (fun _ => 0) (fun _ _ => 0) (fun _ => 0) (fun _ => 0) (fun _ => 0) (fun _ => 0) (fun _ => 0) (fun _ => 0) (fun _ => 0) (fun _ => 0) (fun _ => 0) (fun _ => 0) (fun _ => 0) (fun _ => 0) (fun _ => 0) (fun _ => 0) (fun _ => 0) (fun _ => 0) (va_up (va_up (fun _ => false) 0 true) 1 true) (fun _ => false) (fun _ => false) false false false false (-2) 0 0 0 0 0 0 0 (fun _ => none) [] (fun _ => .inr (0, [])) H2 locs2 := by
    refine ⟨by decide, ?_, fun j hj => absurd hj (Nat.not_lt_zero _), ⟨rfl, rfl, rfl, rfl, Or.inl rfl⟩, fun k hk => ?_, ⟨rfl, rfl, rfl, rfl, rfl, ⟨rfl, by decide⟩, rfl, ⟨rfl, by decide⟩, ⟨rfl, by decide⟩⟩, ⟨⟨rfl, by decide⟩, ⟨rfl, by decide⟩, fun w => absurd w (by decide)⟩, ⟨rfl, rfl, rfl, rfl, fun _ => rfl, fun w => absurd w (by decide), fun w => absurd w (by decide), fun w => absurd w (by decide)⟩, fun k hk w => absurd w (by show ¬ false = true; decide), fun w => absurd w (by decide), ⟨rfl, ⟨rfl, by decide⟩, fun j hj => absurd hj (Nat.not_lt_zero j)⟩, fun k hk => ⟨⟨rfl, by show tN 0 < 64; decide⟩, ⟨rfl, by show tN 0 < 9; decide⟩, ⟨rfl, by show tN 0 < 41; decide⟩⟩, fun w => absurd w.1 (by decide)⟩
    · refine hw2.sub [0, 1, 2, 3, 4, 5, 6, 7, 8, 9, 10, 11, 12, 13, 14, 15, 16, 17, 18, 19, 20, 21, 22, 23, 24, 25, 26, 27, 28, 29, 30, 31, 32, 33, 34, 35, 36, 37, 38, 39, 40, 41, 42] (by decide) ?_
      rfl
    rcases (show k = 0 ∨ k = 1 by omega) with rfl | rfl
    · exact ⟨rfl, rfl, rfl, rfl, rfl, rfl, ⟨rfl, by decide⟩⟩
    · exact ⟨rfl, rfl, rfl, rfl, rfl, rfl, ⟨rfl, by decide⟩⟩
  have hl : lv_has ls 4 [(3, .int (nI (3 * 0))), (2, .ref (ad 0)), (1, .ref ((fun k => match k with | 0 => q0 | k + 1 => u k : Nat → Nat) 0)), (0, .ref b)] := hl
  refine law_loop (ag := fun k => match k with | 0 => q0 | k + 1 => u k) (hg := fun k i => u (8 + 7 * k + i)) (ad := ad) C (fun H locs cells slots ls hS hc hs => ?_) 600 0 0 _ _ _ _ _ _ _ _ _ _ _ _ _ _ _ _ _ _ _ _ _ _ _ _ _ _ _ _ _ _ _ _ _ _ _ _ _ _ _ _ _ _ _ _ _ _ _ _ _ _ _ _ _ _ _ _ _ _ _ _ _ _ _ _ _ _ _ _ _ _ _ _ _ _ H2 locs2 _ _ ls (by omega) (by omega) (by decide) (by decide) hl I
  refine va_forget (fun q hq => hA2 _ (hS.2.2 q hq)) ?_
  refine W.widen (k := 626643) (n := 7222318) (by omega) (by omega) ?_
  refine lv_iconst (pc := 668) (v := 1) F.1 F.2.1 d_W_law_668 (by decide) ?_
  exact lw_ret hx hb hr hlocks d_W_law_669
-- ===== YOUR PART ENDS =====
set_option maxHeartbeats 4000000 in
theorem lw_walk (l : Launch) (b : Addr) (xs : List Int32) : MetFree l x (headSpec (Jvm.Cond.code x code maxLocals ret :: tables_1) room_1) (lw_P b xs) (fun _ _ _ _ _ => True) lw_Q := by
  refine MetFree.of_bodyS (code := code) (maxLocals := maxLocals) (ret := ret) (by decide) ?_ ?_
  · intro args s m h hn
    obtain ⟨meth, c, h1, h2, h3, h4, h5, h6, -, -⟩ := Cond.code_spec hn (atoms_spec (ws := Jvm.Cond.code x code maxLocals ret :: tables_1) h _ List.mem_cons_self)
    exact ⟨meth, c, h1, h2, h3, h4, h5, h6⟩
  · intro p e s m args below meth c s₁ B hml0 hP _
    obtain ⟨rfl, hx, hbd, hgv⟩ := hP
    obtain ⟨scr, harrAt, hlist, hof, hsmall⟩ := hx
    obtain ⟨hcb, hkn, -, -⟩ := State.arrayAt?_spec harrAt
    have hown : s.vm.findClass R_law = some m.cls := findClass_of_methodNamed B.named
    have hts0 : ∀ c ∈ (Jvm.Cond.code x code maxLocals ret :: tables_1), c.before #[Value.ref b] s = true := atoms_spec (ws := Jvm.Cond.code x code maxLocals ret :: tables_1) B.pre
    have hts : ∀ w ∈ lw_tbl, w.before #[Value.ref b] s = true := k2_hts_sels lw_privs (fun w hw => hts0 w (List.mem_cons_of_mem _ hw)) lw_privs_ok
    have hml : c.maxLocals = 4 := B.maxLocals_eq (hts0 _ List.mem_cons_self)
    have X₀ : Stand p l e room_1 s m #[Value.ref b] below meth c s₁ [] 0 0 := Stand.of_body B
    have hh0 : s₁.heap = s.heap := by rw [B.state]; rfl
    have hsz : scr.slots.size = xs.length := by rw [← Array.length_toList, hlist, List.length_map]
    have hval : ∀ j : Nat, j < xs.length → scr.slots[j]? = some (.int (xs.getD j 0)) := fun j hj => by
      rw [← Array.getElem?_toList, hlist]
      simp [hj]
    have hbl : b < s.heap.size := (Array.getElem?_eq_some_iff.mp hcb).1
    have hX : va_X b xs.length (fun j => xs.getD j 0) s s.heap := ⟨scr, hcb, hof, hkn, hsz, hval⟩
    have K : W p l e room_1 s m #[Value.ref b] below meth c s₁.heap [] 0 0 (lw_Z below #[Value.ref b] s) (entryFrame m ([Value.ref b] : List Value).toArray 4) := by
      rw [hh0]
      exact whole_start l hbd ⟨B.exec, B.bytes, B.returns, hml, hown, hts, hX, hbl, B.notSynchronized, hgv⟩
    obtain ⟨t, a1, o, b1, b2, b3⟩ := K s₁ rfl X₀
    exact ⟨t, o, a1, b1, b2, b3⟩
theorem lw_pre_spec {args : Array Value} {s : State} (h : (Jvm.Cond.and given_1 narrow_1).before args s = true) (hr : rest_1_c.before args s = true) : ∃ (b : Addr) (xs : List Int32), lw_P b xs args s := by
  have hs := flat_of_before _ h
  have hq := flat_of_before _ hr
  have hc : (Cond.count 1).before args s = true := hs _ (by decide +kernel)
  have harr : (Cond.arrayOf (.arg 0) .int).before args s = true := hs _ (by decide +kernel)
  have hle : (Cond.le (.length (.arg 0)) (.int 1536)).before args s = true := hs _ (by decide +kernel)
  have hlen : (Cond.isInt (.length (.arg 0))).before args s = true := hq _ (by decide +kernel)
  have hall : (Cond.all (.arg 0) (.isInt (.elem (.arg 0) (.index 0)))).before args s = true := hq _ (by decide +kernel)
  obtain ⟨b, xs, hb, hx⟩ := State.ints_of_pre rfl harr hlen hall
  have hsm : xs.length < 2 ^ 31 := hx.choose_spec.2.2.2
  have hev : (Term.length (.arg 0)).eval args s none [] s = some (.int xs.length.toInt32) := hx.length_eval hb
  have hv := Cond.le_ints hev (show (Term.int 1536).eval args s none [] s = some (.int 1536) from rfl)
  have hd : xs.length.toInt32 ≤ 1536 := by
    simpa [Cond.before, Cond.holds, hv] using hle
  have hN : xs.length ≤ 1536 := (Int32.ofNat_le_ofNat hsm (by decide)).mp (show Int32.ofNat xs.length ≤ Int32.ofNat 1536 from hd)
  exact ⟨b, xs, Cond.one_arg hc (show args[0]? = some (.ref b) from hb), hx, hN, h⟩
theorem lw_comes (l : Launch) : Comes l x (Jvm.Cond.code x code maxLocals ret :: tables_1) room_1 (fun tb e args s => Calls_1 tb e args s ∧ rest_1 tb e args s ∧ Pre_1 tb e args s)
    (fun _ _ args s o t => lw_Q args s o t) := by
  intro p e ha hc hk s m args below hf hfit hheap happ hpre
  obtain ⟨b, xs, hP⟩ := lw_pre_spec hpre.2.2 hpre.2.1
  obtain ⟨k, o, h1, h2, h3, hQ⟩ := lw_walk l b xs p e ha hc hk s m args below hf ((Spec.applies_iff_loose hf).mp happ).1 hP trivial
  exact ⟨k, o, h1, h2, h3, hQ⟩
theorem lw_frame {s t : State} {o : Outcome} {args : Array Value} (h : Framed s o t [] 626643 7222318) :
    Framed s o t (fieldLocs frame_1_writes args s ++ arrayLocs frame_1_arrays args s ++ staticLocs frame_1_statics s) 626643 7222318 := h
theorem lw_limb (L : Cond) (hL : ∀ (args : Array Value) (s t : State), L.after args s (.returned (some (.int 1))) t = true) :
    ArmFor flags0 classFile x code maxLocals ret World_1 tables_1 room_1 Calls_1 rest_1 Pre_1
      (fun tb e a s o t => postC L tb e a s o t ∧ Framed s o t (fieldLocs frame_1_writes a s ++ arrayLocs frame_1_arrays a s ++ staticLocs frame_1_statics s) 626643 7222318) := by
  intro l _ _ _ p e ha hc hk s m args below hf hfit hheap happ hpre
  obtain ⟨k, o, h1, h2, h3, rfl, hF⟩ := lw_comes l p e ha hc hk s m args below hf hfit hheap happ hpre
  exact ⟨k, _, h1, h2, h3, hL args s _, lw_frame hF⟩
theorem i_vc : Claimed_1_1 ∧ Claimed_1_2 := ⟨lw_limb limb_1_1 (fun args s t => by simp [limb_1_1, Cond.after, Cond.holds, Cond.value]), lw_limb limb_1_2 (fun args s t => Cond.after_iff.mpr (by
  first | (rw [show limb_1_2 = Cond.eq .result (.int 1) from rfl, Cond.eq_ints (x := 1) (y := 1) rfl rfl]; simp; done) | (simp [limb_1_2, Cond.value, Term.eval]; done)))⟩
