def F_M_input (ro : Nat → Int32) (up : Nat → Bool) (ho : Nat → Bool) (st : Bool) (ow : Int32) (host : Int32) (x : Int32) : Int32 × (Nat → Int32) :=
  match F_M_isHost host with
  | (r2, _) =>
    if r2 = 0 then
      ((-1), ro)
    else
      match F_M_runs up ho st ow (tN host) with
      | (r6, _) =>
        if r6 = 0 then
          ((-2), ro)
        else
          if (nI (tN (ro (60 * tN host + 6)))) = 8 then
            ((-3), ro)
          else
            ((upd (upd ro (60 * tN host + 7 + (tN (ro (60 * tN host + 6)))) x) (60 * tN host + 6) (((upd ro (60 * tN host + 7 + (tN (ro (60 * tN host + 6)))) x) (60 * tN host + 6)) + 1)) (60 * tN host + 6), upd (upd ro (60 * tN host + 7 + (tN (ro (60 * tN host + 6)))) x) (60 * tN host + 6) (((upd ro (60 * tN host + 7 + (tN (ro (60 * tN host + 6)))) x) (60 * tN host + 6)) + 1))
set_option maxHeartbeats 4000000 in
set_option maxRecDepth 100000 in
theorem c_M_input (l : Launch) (D : va_G) (cT : Nat → ClassId) (ad : Nat → Nat) (im : Nat → Int32) (me : Nat → Int32) (ro : Nat → Int32) (up : Nat → Bool) (ho : Nat → Bool) (di : Nat → Int32) (os : Nat → Bool) (ob : Nat → Int32) (od : Nat → Int32) (on : Nat → Int32) (pg : Nat → Int32) (tm : Nat → Int32) (ts : Nat → Int32) (tr : Nat → Int32) (ki : Nat → Int32) (mo : Nat → Int32) (po : Nat → Int32) (sr : Nat → Int32) (ld : Nat → Int32) (st : Bool) (ow : Int32) (nu : Int32) (go : Bool) (la : Int32) (so : Int32) (se : Int32) (sl : Int32) (sp : Int32) (tp : Bool) (rd : Bool) (pn : Int32) (host : Int32) (x : Int32) (n0 : ∀ h, h < 2 → ho h = true → isN (ro (60 * h + 6)) 9) : Cti l y_M_input ws_M_input { frames := 1, cells := 0, slots := 0, locals := 21 } D vwCl (TYS cT) [.ref (ad 0), .int host, .int x] (MW ad cT im me ro up ho di os ob od on pg tm ts tr ki mo po sr ld st ow nu go la so se sl sp tp rd pn) (fun (rr : Int32) (uu : (Nat → Int32)) => F_M_input ro up ho st ow host x = (rr, uu)) (fun (u : (Nat → Int32)) => MW ad cT im me u up ho di os ob od on pg tm ts tr ki mo po sr ld st ow nu go la so se sl sp tp rd pn) 0 0 := by
  refine x_ini (cc := b_M_input) (maxL := 4) (by decide) rfl (Nat.le_of_ble_eq_true rfl) ?_
  intro p e s m args below meth c A ls Q F hl hw ret
  have hl : lv_has ls 4 [(0, .ref (ad 0)), (1, .int host), (2, .int x)] := hl
  refine lv_iload_n (pc := 0) F.1 F.2.1 d_M_input_0 rfl (lv_at hl 1 rfl) ?_
  refine x_calli (pc := 1) (wr := [(ad 0, .inr (6, [.ref (ad 1), .ref (ad 2), .ref (ad 3), .ref (ad 4), .ref (ad 5), .int (bI st), .ref (ad 6), .int ow, .int nu, .ref (ad 7), .ref (ad 8), .ref (ad 9), .ref (ad 10), .int (bI go), .int la, .int so, .ref (ad 11), .int se, .int sl, .int sp, .int (bI tp), .int (bI rd), .ref (ad 12), .ref (ad 13), .ref (ad 14), .int pn, .ref (ad 15), .ref (ad 16), .ref (ad 17), .ref (ad 18), .ref (ad 19)])), (ad 1, .inl (cT 0, 64, .inl im)), (ad 2, .inl (cT 0, 128, .inl me)), (ad 3, .inl (cT 0, 120, .inl ro)), (ad 4, .inl (cT 1, 2, .inl (fun j => bI (up j)))), (ad 5, .inl (cT 1, 2, .inl (fun j => bI (ho j)))), (ad 6, .inl (cT 0, 8, .inl di)), (ad 7, .inl (cT 1, 2, .inl (fun j => bI (os j)))), (ad 8, .inl (cT 0, 2, .inl ob)), (ad 9, .inl (cT 0, 2, .inl od)), (ad 10, .inl (cT 0, 2, .inl on)), (ad 11, .inl (cT 0, 8, .inl pg)), (ad 12, .inl (cT 0, 64, .inl tm)), (ad 13, .inl (cT 0, 8, .inl ts)), (ad 14, .inl (cT 0, 60, .inl tr)), (ad 15, .inl (cT 0, 9, .inl ki)), (ad 16, .inl (cT 0, 9, .inl mo)), (ad 17, .inl (cT 0, 9, .inl po)), (ad 18, .inl (cT 0, 9, .inl sr)), (ad 19, .inl (cT 0, 540, .inl ld))]) hw [] [0, 1, 2, 3, 4, 5, 6, 7, 8, 9, 10, 11, 12, 13, 14, 15, 16, 17, 18, 19] rfl rfl (by decide) (by decide) (va_runS (As := [.int host]) (rest := []) F (c_M_isHost l D cT host  _) (x_cwS 1 F (g_all y_M_isHost b_M_isHost 1 (some .boolean) (List.mem_cons_of_mem _ m_628)) rfl rfl rfl (F.2.2.2.2 _ (List.mem_cons_of_mem _ m_40)) (F.2.2.2.2 _ (List.mem_cons_of_mem _ m_626)) (F.2.2.2.2 _ (List.mem_cons_of_mem _ m_627)) (by decide +kernel) ⟨by decide, by decide⟩) (hw.preS [] (by decide) rfl) rfl rfl hl.1 rfl (lv_room (Nat.le_of_ble_eq_true rfl)) d_M_input_1 ⟨by decide, by decide⟩) (fun r2 u3 H locs e1 hw => ?_)
  have hw : Hw D vwCl (TYS cT) A s (MW ad cT im me ro up ho di os ob od on pg tm ts tr ki mo po sr ld st ow nu go la so se sl sp tp rd pn) H locs := hw
  refine lv_if_ne (pc := 4) (tgt := 9) F.1 F.2.1 d_M_input_4 rfl (fun h4 => ?_) (fun h4 => ?_)
  · have nh := isHost_nat e1 h4
    have nhb := nh.2
    refine lv_aload_n (pc := 9) F.1 F.2.1 d_M_input_9 rfl (lv_at hl 0 rfl) ?_
    refine lv_iload_n (pc := 10) F.1 F.2.1 d_M_input_10 rfl (lv_at hl 1 rfl) ?_
    refine x_top (y := nI (tN host)) nh.1 ?_
    refine x_calli (pc := 11) (wr := []) hw [0, 1, 2, 3, 4, 5, 6, 7, 8, 9, 10, 11, 12, 13, 14, 15, 16, 17, 18, 19] [] rfl rfl (by decide) (by decide) (va_runV (As := [.int (nI (tN host))]) (rest := []) F (c_M_runs l D cT ad im me ro up ho di os ob od on pg tm ts tr ki mo po sr ld st ow nu go la so se sl sp tp rd pn (tN host) (by omega) _) (x_cw (C := "MovingGuestModel") 1 F (g_all y_M_runs b_M_runs 2 (some .boolean) (List.mem_cons_of_mem _ m_635)) rfl rfl rfl (F.2.2.2.2 _ (List.mem_cons_of_mem _ m_40)) (F.2.2.2.2 _ (List.mem_cons_of_mem _ m_633)) (F.2.2.2.2 _ (List.mem_cons_of_mem _ m_634)) (F.2.2.2.2 _ (List.mem_cons_of_mem _ m_16)) (by decide +kernel) ⟨by decide, by decide⟩) (hw.preV (q0 := 0) [0, 1, 2, 3, 4, 5, 6, 7, 8, 9, 10, 11, 12, 13, 14, 15, 16, 17, 18, 19] (by decide) rfl rfl rfl) rfl rfl hl.1 rfl (lv_room (Nat.le_of_ble_eq_true rfl)) d_M_input_11 ⟨by decide, by decide⟩) (fun r6 u7 H locs e5 hw => ?_)
    refine lv_if_ne (pc := 14) (tgt := 20) F.1 F.2.1 d_M_input_14 rfl (fun h8 => ?_) (fun h8 => ?_)
    · have n1 := n0 (tN host) nhb (runs_ho e5 h8)
      have n1b := n1.2
      refine lv_bipush (pc := 20) (v := 60) F.1 F.2.1 d_M_input_20 (by decide) ?_
      refine lv_iload_n (pc := 22) F.1 F.2.1 d_M_input_22 rfl (lv_at hl 1 rfl) ?_
      refine x_top (y := nI (tN host)) nh.1 ?_
      refine lv_imul (pc := 23) F.1 F.2.1 d_M_input_23 ?_
      refine x_top (y := nI (60 * tN host)) (x_mul2 rfl rfl) ?_
      refine lv_istore_n (pc := 24) (lv' := [(3, .int (nI (60 * tN host))), (0, .ref (ad 0)), (1, .int host), (2, .int x)]) F.1 F.2.1 d_M_input_24 rfl hl (by decide) rfl (fun ls hl => ?_)
      refine lv_aload_n (pc := 25) F.1 F.2.1 d_M_input_25 rfl (lv_at hl 1 rfl) ?_
      refine x_get (pc := 26) (v := .ref (ad 3)) F hw 0 2 (fun x h => List.mem_cons_of_mem _ (in_M x h)) rfl rfl (by decide) (List.mem_cons_of_mem _ m_525) rfl d_M_input_26 ?_
      refine lv_iload_n (pc := 29) F.1 F.2.1 d_M_input_29 rfl (lv_at hl 0 rfl) ?_
      refine lv_bipush (pc := 30) (v := 6) F.1 F.2.1 d_M_input_30 (by decide) ?_
      refine lv_iadd (pc := 32) F.1 F.2.1 d_M_input_32 ?_
      refine x_top (y := nI (60 * tN host + 6)) (x_add2 rfl rfl) ?_
      refine x_iald (pc := 33) F hw 3 0 (60 * tN host + 6) rfl rfl rfl (by omega) (by decide) d_M_input_33 ?_
      refine x_top (y := nI (tN (ro (60 * tN host + 6)))) n1.1 ?_
      refine lv_bipush (pc := 34) (v := 8) F.1 F.2.1 d_M_input_34 (by decide) ?_
      refine lv_icmp_ne (pc := 36) (tgt := 42) F.1 F.2.1 d_M_input_36 rfl (fun h9 => ?_) (fun h9 => ?_)
      · have z9 : tN (ro (60 * tN host + 6)) ≠ 8 := fun q => h9 (by rw [q]; rfl)
        refine lv_aload_n (pc := 42) F.1 F.2.1 d_M_input_42 rfl (lv_at hl 1 rfl) ?_
        refine x_get (pc := 43) (v := .ref (ad 3)) F hw 0 2 (fun x h => List.mem_cons_of_mem _ (in_M x h)) rfl rfl (by decide) (List.mem_cons_of_mem _ m_525) rfl d_M_input_43 ?_
        refine lv_iload_n (pc := 46) F.1 F.2.1 d_M_input_46 rfl (lv_at hl 0 rfl) ?_
        refine lv_bipush (pc := 47) (v := 7) F.1 F.2.1 d_M_input_47 (by decide) ?_
        refine lv_iadd (pc := 49) F.1 F.2.1 d_M_input_49 ?_
        refine x_top (y := nI (60 * tN host + 7)) (x_add2 rfl rfl) ?_
        refine lv_aload_n (pc := 50) F.1 F.2.1 d_M_input_50 rfl (lv_at hl 1 rfl) ?_
        refine x_get (pc := 51) (v := .ref (ad 3)) F hw 0 2 (fun x h => List.mem_cons_of_mem _ (in_M x h)) rfl rfl (by decide) (List.mem_cons_of_mem _ m_525) rfl d_M_input_51 ?_
        refine lv_iload_n (pc := 54) F.1 F.2.1 d_M_input_54 rfl (lv_at hl 0 rfl) ?_
        refine lv_bipush (pc := 55) (v := 6) F.1 F.2.1 d_M_input_55 (by decide) ?_
        refine lv_iadd (pc := 57) F.1 F.2.1 d_M_input_57 ?_
        refine x_top (y := nI (60 * tN host + 6)) (x_add2 rfl rfl) ?_
        refine x_iald (pc := 58) F hw 3 0 (60 * tN host + 6) rfl rfl rfl (by omega) (by decide) d_M_input_58 ?_
        refine x_top (y := nI (tN (ro (60 * tN host + 6)))) n1.1 ?_
        refine lv_iadd (pc := 59) F.1 F.2.1 d_M_input_59 ?_
        refine x_top (y := nI (60 * tN host + 7 + (tN (ro (60 * tN host + 6))))) (x_add2 rfl rfl) ?_
        refine lv_iload_n (pc := 60) F.1 F.2.1 d_M_input_60 rfl (lv_at hl 3 rfl) ?_
        refine x_iast (pc := 61) (ws' := MW ad cT im me (upd ro (60 * tN host + 7 + (tN (ro (60 * tN host + 6)))) x) up ho di os ob od on pg tm ts tr ki mo po sr ld st ow nu go la so se sl sp tp rd pn) F hw 3 0 (60 * tN host + 7 + (tN (ro (60 * tN host + 6)))) rfl rfl rfl (by omega) (by decide) d_M_input_61 rfl (fun H locs hw => ?_)
        refine lv_aload_n (pc := 62) F.1 F.2.1 d_M_input_62 rfl (lv_at hl 1 rfl) ?_
        refine x_get (pc := 63) (v := .ref (ad 3)) F hw 0 2 (fun x h => List.mem_cons_of_mem _ (in_M x h)) rfl rfl (by decide) (List.mem_cons_of_mem _ m_525) rfl d_M_input_63 ?_
        refine lv_iload_n (pc := 66) F.1 F.2.1 d_M_input_66 rfl (lv_at hl 0 rfl) ?_
        refine lv_bipush (pc := 67) (v := 6) F.1 F.2.1 d_M_input_67 (by decide) ?_
        refine lv_iadd (pc := 69) F.1 F.2.1 d_M_input_69 ?_
        refine x_top (y := nI (60 * tN host + 6)) (x_add2 rfl rfl) ?_
        refine lv_dup2_11 (pc := 70) F.1 F.2.1 d_M_input_70 rfl rfl ?_
        refine x_iald (pc := 71) F hw 3 0 (60 * tN host + 6) rfl rfl rfl (by omega) (by decide) d_M_input_71 ?_
        refine lv_iconst (pc := 72) (v := 1) F.1 F.2.1 d_M_input_72 (by decide) ?_
        refine lv_iadd (pc := 73) F.1 F.2.1 d_M_input_73 ?_
        refine x_iast (pc := 74) (ws' := MW ad cT im me (upd (upd ro (60 * tN host + 7 + (tN (ro (60 * tN host + 6)))) x) (60 * tN host + 6) (((upd ro (60 * tN host + 7 + (tN (ro (60 * tN host + 6)))) x) (60 * tN host + 6)) + 1)) up ho di os ob od on pg tm ts tr ki mo po sr ld st ow nu go la so se sl sp tp rd pn) F hw 3 0 (60 * tN host + 6) rfl rfl rfl (by omega) (by decide) d_M_input_74 rfl (fun H locs hw => ?_)
        refine lv_aload_n (pc := 75) F.1 F.2.1 d_M_input_75 rfl (lv_at hl 1 rfl) ?_
        refine x_get (pc := 76) (v := .ref (ad 3)) F hw 0 2 (fun x h => List.mem_cons_of_mem _ (in_M x h)) rfl rfl (by decide) (List.mem_cons_of_mem _ m_525) rfl d_M_input_76 ?_
        refine lv_iload_n (pc := 79) F.1 F.2.1 d_M_input_79 rfl (lv_at hl 0 rfl) ?_
        refine lv_bipush (pc := 80) (v := 6) F.1 F.2.1 d_M_input_80 (by decide) ?_
        refine lv_iadd (pc := 82) F.1 F.2.1 d_M_input_82 ?_
        refine x_top (y := nI (60 * tN host + 6)) (x_add2 rfl rfl) ?_
        refine x_iald (pc := 83) F hw 3 0 (60 * tN host + 6) rfl rfl rfl (by omega) (by decide) d_M_input_83 ?_
        refine W.widen (k := 0) (n := 0) (by decide) (by decide) ?_
        exact ret ((upd (upd ro (60 * tN host + 7 + (tN (ro (60 * tN host + 6)))) x) (60 * tN host + 6) (((upd ro (60 * tN host + 7 + (tN (ro (60 * tN host + 6)))) x) (60 * tN host + 6)) + 1)) (60 * tN host + 6)) (upd (upd ro (60 * tN host + 7 + (tN (ro (60 * tN host + 6)))) x) (60 * tN host + 6) (((upd ro (60 * tN host + 7 + (tN (ro (60 * tN host + 6)))) x) (60 * tN host + 6)) + 1)) _ _ 84 _ (by unfold F_M_input <;> rw [e1] <;> (try dsimp only) <;> rw [if_neg h4] <;> rw [e5] <;> (try dsimp only) <;> rw [if_neg h8] <;> rw [if_neg h9] <;> rfl) hw d_M_input_84
      · refine lv_bipush (pc := 39) (v := (-3)) F.1 F.2.1 d_M_input_39 (by decide) ?_
        refine W.widen (k := 0) (n := 0) (by decide) (by decide) ?_
        exact ret (-3) ro _ _ 41 _ (by unfold F_M_input <;> rw [e1] <;> (try dsimp only) <;> rw [if_neg h4] <;> rw [e5] <;> (try dsimp only) <;> rw [if_neg h8] <;> rw [if_pos h9] <;> rfl) hw d_M_input_41
    · refine lv_bipush (pc := 17) (v := (-2)) F.1 F.2.1 d_M_input_17 (by decide) ?_
      refine W.widen (k := 0) (n := 0) (by decide) (by decide) ?_
      exact ret (-2) ro _ _ 19 _ (by unfold F_M_input <;> rw [e1] <;> (try dsimp only) <;> rw [if_neg h4] <;> rw [e5] <;> (try dsimp only) <;> rw [if_pos h8] <;> rfl) hw d_M_input_19
  · refine lv_iconst (pc := 7) (v := (-1)) F.1 F.2.1 d_M_input_7 (by decide) ?_
    refine W.widen (k := 0) (n := 0) (by decide) (by decide) ?_
    exact ret (-1) ro _ _ 8 _ (by unfold F_M_input <;> rw [e1] <;> (try dsimp only) <;> rw [if_pos h4] <;> rfl) hw d_M_input_8
def F_M_disk (ro : Nat → Int32) (up : Nat → Bool) (ho : Nat → Bool) (di : Nat → Int32) (os : Nat → Bool) (ob : Nat → Int32) (od : Nat → Int32) (on : Nat → Int32) (st : Bool) (nu : Int32) (host : Int32) : Int32 × (Nat → Int32) × (Nat → Int32) × (Nat → Bool) :=
  match F_M_isHost host with
  | (r2, _) =>
    if r2 = 0 then
      ((-1), (ro, di, os))
    else
      if up (tN host) = true then
        if os (tN host) = true then
          if ho (tN host) = true then
            if st = true then
              ((-2), (ro, di, os))
            else
              if (on (tN host)) = nu then
                (1, (upd ro (60 * tN host + 56) 0, upd di (tN (ob (tN host))) (od (tN host)), va_up os (tN host) false))
              else
                (0, (ro, di, va_up os (tN host) false))
          else
            if (on (tN host)) = nu then
              (1, (ro, upd di (tN (ob (tN host))) (od (tN host)), va_up os (tN host) false))
            else
              (0, (ro, di, va_up os (tN host) false))
        else
          ((-2), (ro, di, os))
      else
        ((-2), (ro, di, os))
set_option maxHeartbeats 4000000 in
set_option maxRecDepth 100000 in
theorem c_M_disk (l : Launch) (D : va_G) (cT : Nat → ClassId) (ad : Nat → Nat) (im : Nat → Int32) (me : Nat → Int32) (ro : Nat → Int32) (up : Nat → Bool) (ho : Nat → Bool) (di : Nat → Int32) (os : Nat → Bool) (ob : Nat → Int32) (od : Nat → Int32) (on : Nat → Int32) (pg : Nat → Int32) (tm : Nat → Int32) (ts : Nat → Int32) (tr : Nat → Int32) (ki : Nat → Int32) (mo : Nat → Int32) (po : Nat → Int32) (sr : Nat → Int32) (ld : Nat → Int32) (st : Bool) (ow : Int32) (nu : Int32) (go : Bool) (la : Int32) (so : Int32) (se : Int32) (sl : Int32) (sp : Int32) (tp : Bool) (rd : Bool) (pn : Int32) (host : Int32) (n0 : ∀ h, h < 2 → isN (ob h) 8) : Cti l y_M_disk ws_M_disk { frames := 1, cells := 0, slots := 0, locals := 20 } D vwCl (TYS cT) [.ref (ad 0), .int host] (MW ad cT im me ro up ho di os ob od on pg tm ts tr ki mo po sr ld st ow nu go la so se sl sp tp rd pn) (fun (rr : Int32) (uu : (Nat → Int32) × (Nat → Int32) × (Nat → Bool)) => F_M_disk ro up ho di os ob od on st nu host = (rr, uu)) (fun (u : (Nat → Int32) × (Nat → Int32) × (Nat → Bool)) => MW ad cT im me u.1 up ho u.2.1 u.2.2 ob od on pg tm ts tr ki mo po sr ld st ow nu go la so se sl sp tp rd pn) 0 0 := by
  refine x_ini (cc := b_M_disk) (maxL := 2) (by decide) rfl (Nat.le_of_ble_eq_true rfl) ?_
  intro p e s m args below meth c A ls Q F hl hw ret
  have hl : lv_has ls 2 [(0, .ref (ad 0)), (1, .int host)] := hl
  refine lv_iload_n (pc := 0) F.1 F.2.1 d_M_disk_0 rfl (lv_at hl 1 rfl) ?_
  refine x_calli (pc := 1) (wr := [(ad 0, .inr (6, [.ref (ad 1), .ref (ad 2), .ref (ad 3), .ref (ad 4), .ref (ad 5), .int (bI st), .ref (ad 6), .int ow, .int nu, .ref (ad 7), .ref (ad 8), .ref (ad 9), .ref (ad 10), .int (bI go), .int la, .int so, .ref (ad 11), .int se, .int sl, .int sp, .int (bI tp), .int (bI rd), .ref (ad 12), .ref (ad 13), .ref (ad 14), .int pn, .ref (ad 15), .ref (ad 16), .ref (ad 17), .ref (ad 18), .ref (ad 19)])), (ad 1, .inl (cT 0, 64, .inl im)), (ad 2, .inl (cT 0, 128, .inl me)), (ad 3, .inl (cT 0, 120, .inl ro)), (ad 4, .inl (cT 1, 2, .inl (fun j => bI (up j)))), (ad 5, .inl (cT 1, 2, .inl (fun j => bI (ho j)))), (ad 6, .inl (cT 0, 8, .inl di)), (ad 7, .inl (cT 1, 2, .inl (fun j => bI (os j)))), (ad 8, .inl (cT 0, 2, .inl ob)), (ad 9, .inl (cT 0, 2, .inl od)), (ad 10, .inl (cT 0, 2, .inl on)), (ad 11, .inl (cT 0, 8, .inl pg)), (ad 12, .inl (cT 0, 64, .inl tm)), (ad 13, .inl (cT 0, 8, .inl ts)), (ad 14, .inl (cT 0, 60, .inl tr)), (ad 15, .inl (cT 0, 9, .inl ki)), (ad 16, .inl (cT 0, 9, .inl mo)), (ad 17, .inl (cT 0, 9, .inl po)), (ad 18, .inl (cT 0, 9, .inl sr)), (ad 19, .inl (cT 0, 540, .inl ld))]) hw [] [0, 1, 2, 3, 4, 5, 6, 7, 8, 9, 10, 11, 12, 13, 14, 15, 16, 17, 18, 19] rfl rfl (by decide) (by decide) (va_runS (As := [.int host]) (rest := []) F (c_M_isHost l D cT host  _) (x_cwS 1 F (g_all y_M_isHost b_M_isHost 1 (some .boolean) (List.mem_cons_of_mem _ m_628)) rfl rfl rfl (F.2.2.2.2 _ (List.mem_cons_of_mem _ m_40)) (F.2.2.2.2 _ (List.mem_cons_of_mem _ m_626)) (F.2.2.2.2 _ (List.mem_cons_of_mem _ m_627)) (by decide +kernel) ⟨by decide, by decide⟩) (hw.preS [] (by decide) rfl) rfl rfl hl.1 rfl (lv_room (Nat.le_of_ble_eq_true rfl)) d_M_disk_1 ⟨by decide, by decide⟩) (fun r2 u3 H locs e1 hw => ?_)
  have hw : Hw D vwCl (TYS cT) A s (MW ad cT im me ro up ho di os ob od on pg tm ts tr ki mo po sr ld st ow nu go la so se sl sp tp rd pn) H locs := hw
  refine lv_if_ne (pc := 4) (tgt := 9) F.1 F.2.1 d_M_disk_4 rfl (fun h4 => ?_) (fun h4 => ?_)
  · have nh := isHost_nat e1 h4
    have nhb := nh.2
    refine lv_aload_n (pc := 9) F.1 F.2.1 d_M_disk_9 rfl (lv_at hl 0 rfl) ?_
    refine x_get (pc := 10) (v := .ref (ad 4)) F hw 0 3 (fun x h => List.mem_cons_of_mem _ (in_M x h)) rfl rfl (by decide) (List.mem_cons_of_mem _ m_526) rfl d_M_disk_10 ?_
    refine lv_iload_n (pc := 13) F.1 F.2.1 d_M_disk_13 rfl (lv_at hl 1 rfl) ?_
    refine x_top (y := nI (tN host)) nh.1 ?_
    refine x_zaldB (pc := 14) F hw 4 1 (tN host) rfl rfl rfl (by omega) (by decide) d_M_disk_14 ?_
    refine x_ifeqB (pc := 15) (tgt := 43) F d_M_disk_15 rfl (fun h5 => ?_) (fun h5 => ?_)
    · refine lv_bipush (pc := 43) (v := (-2)) F.1 F.2.1 d_M_disk_43 (by decide) ?_
      refine W.widen (k := 0) (n := 0) (by decide) (by decide) ?_
      exact ret (-2) (ro, di, os) _ _ 45 _ (by unfold F_M_disk <;> rw [e1] <;> (try dsimp only) <;> rw [if_neg h4] <;> rw [if_neg h5] <;> rfl) hw d_M_disk_45
    · refine lv_aload_n (pc := 18) F.1 F.2.1 d_M_disk_18 rfl (lv_at hl 0 rfl) ?_
      refine x_get (pc := 19) (v := .ref (ad 7)) F hw 0 9 (fun x h => List.mem_cons_of_mem _ (in_M x h)) rfl rfl (by decide) (List.mem_cons_of_mem _ m_532) rfl d_M_disk_19 ?_
      refine lv_iload_n (pc := 22) F.1 F.2.1 d_M_disk_22 rfl (lv_at hl 1 rfl) ?_
      refine x_top (y := nI (tN host)) nh.1 ?_
      refine x_zaldB (pc := 23) F hw 7 1 (tN host) rfl rfl rfl (by omega) (by decide) d_M_disk_23 ?_
      refine x_ifeqB (pc := 24) (tgt := 43) F d_M_disk_24 rfl (fun h6 => ?_) (fun h6 => ?_)
      · refine lv_bipush (pc := 43) (v := (-2)) F.1 F.2.1 d_M_disk_43 (by decide) ?_
        refine W.widen (k := 0) (n := 0) (by decide) (by decide) ?_
        exact ret (-2) (ro, di, os) _ _ 45 _ (by unfold F_M_disk <;> rw [e1] <;> (try dsimp only) <;> rw [if_neg h4] <;> rw [if_pos h5] <;> rw [if_neg h6] <;> rfl) hw d_M_disk_45
      · refine lv_aload_n (pc := 27) F.1 F.2.1 d_M_disk_27 rfl (lv_at hl 0 rfl) ?_
        refine x_get (pc := 28) (v := .ref (ad 5)) F hw 0 4 (fun x h => List.mem_cons_of_mem _ (in_M x h)) rfl rfl (by decide) (List.mem_cons_of_mem _ m_527) rfl d_M_disk_28 ?_
        refine lv_iload_n (pc := 31) F.1 F.2.1 d_M_disk_31 rfl (lv_at hl 1 rfl) ?_
        refine x_top (y := nI (tN host)) nh.1 ?_
        refine x_zaldB (pc := 32) F hw 5 1 (tN host) rfl rfl rfl (by omega) (by decide) d_M_disk_32 ?_
        refine x_ifeqB (pc := 33) (tgt := 46) F d_M_disk_33 rfl (fun h7 => ?_) (fun h7 => ?_)
        · have n1 := n0 (tN host) nhb
          have n1b := n1.2
          refine lv_aload_n (pc := 46) F.1 F.2.1 d_M_disk_46 rfl (lv_at hl 0 rfl) ?_
          refine x_get (pc := 47) (v := .ref (ad 7)) F hw 0 9 (fun x h => List.mem_cons_of_mem _ (in_M x h)) rfl rfl (by decide) (List.mem_cons_of_mem _ m_532) rfl d_M_disk_47 ?_
          refine lv_iload_n (pc := 50) F.1 F.2.1 d_M_disk_50 rfl (lv_at hl 1 rfl) ?_
          refine x_top (y := nI (tN host)) nh.1 ?_
          refine lv_iconst (pc := 51) (v := 0) F.1 F.2.1 d_M_disk_51 (by decide) ?_
          refine x_zastB (pc := 52) (b := false) (ws' := MW ad cT im me ro up ho di (va_up os (tN host) false) ob od on pg tm ts tr ki mo po sr ld st ow nu go la so se sl sp tp rd pn) F hw 7 1 (tN host) rfl rfl rfl (by omega) (by decide) d_M_disk_52 rfl (fun H locs hw => ?_)
          refine lv_aload_n (pc := 53) F.1 F.2.1 d_M_disk_53 rfl (lv_at hl 0 rfl) ?_
          refine x_get (pc := 54) (v := .ref (ad 10)) F hw 0 12 (fun x h => List.mem_cons_of_mem _ (in_M x h)) rfl rfl (by decide) (List.mem_cons_of_mem _ m_535) rfl d_M_disk_54 ?_
          refine lv_iload_n (pc := 57) F.1 F.2.1 d_M_disk_57 rfl (lv_at hl 1 rfl) ?_
          refine x_top (y := nI (tN host)) nh.1 ?_
          refine x_iald (pc := 58) F hw 10 0 (tN host) rfl rfl rfl (by omega) (by decide) d_M_disk_58 ?_
          refine lv_aload_n (pc := 59) F.1 F.2.1 d_M_disk_59 rfl (lv_at hl 0 rfl) ?_
          refine x_get (pc := 60) (v := .int nu) F hw 0 8 (fun x h => List.mem_cons_of_mem _ (in_M x h)) rfl rfl (by decide) (List.mem_cons_of_mem _ m_531) rfl d_M_disk_60 ?_
          refine lv_icmp_eq (pc := 63) (tgt := 68) F.1 F.2.1 d_M_disk_63 rfl (fun h8 => ?_) (fun h8 => ?_)
          · refine lv_aload_n (pc := 68) F.1 F.2.1 d_M_disk_68 rfl (lv_at hl 0 rfl) ?_
            refine x_get (pc := 69) (v := .ref (ad 6)) F hw 0 6 (fun x h => List.mem_cons_of_mem _ (in_M x h)) rfl rfl (by decide) (List.mem_cons_of_mem _ m_529) rfl d_M_disk_69 ?_
            refine lv_aload_n (pc := 72) F.1 F.2.1 d_M_disk_72 rfl (lv_at hl 0 rfl) ?_
            refine x_get (pc := 73) (v := .ref (ad 8)) F hw 0 10 (fun x h => List.mem_cons_of_mem _ (in_M x h)) rfl rfl (by decide) (List.mem_cons_of_mem _ m_533) rfl d_M_disk_73 ?_
            refine lv_iload_n (pc := 76) F.1 F.2.1 d_M_disk_76 rfl (lv_at hl 1 rfl) ?_
            refine x_top (y := nI (tN host)) nh.1 ?_
            refine x_iald (pc := 77) F hw 8 0 (tN host) rfl rfl rfl (by omega) (by decide) d_M_disk_77 ?_
            refine x_top (y := nI (tN (ob (tN host)))) n1.1 ?_
            refine lv_aload_n (pc := 78) F.1 F.2.1 d_M_disk_78 rfl (lv_at hl 0 rfl) ?_
            refine x_get (pc := 79) (v := .ref (ad 9)) F hw 0 11 (fun x h => List.mem_cons_of_mem _ (in_M x h)) rfl rfl (by decide) (List.mem_cons_of_mem _ m_534) rfl d_M_disk_79 ?_
            refine lv_iload_n (pc := 82) F.1 F.2.1 d_M_disk_82 rfl (lv_at hl 1 rfl) ?_
            refine x_top (y := nI (tN host)) nh.1 ?_
            refine x_iald (pc := 83) F hw 9 0 (tN host) rfl rfl rfl (by omega) (by decide) d_M_disk_83 ?_
            refine x_iast (pc := 84) (ws' := MW ad cT im me ro up ho (upd di (tN (ob (tN host))) (od (tN host))) (va_up os (tN host) false) ob od on pg tm ts tr ki mo po sr ld st ow nu go la so se sl sp tp rd pn) F hw 6 0 (tN (ob (tN host))) rfl rfl rfl (by omega) (by decide) d_M_disk_84 rfl (fun H locs hw => ?_)
            refine lv_aload_n (pc := 85) F.1 F.2.1 d_M_disk_85 rfl (lv_at hl 0 rfl) ?_
            refine x_get (pc := 86) (v := .ref (ad 5)) F hw 0 4 (fun x h => List.mem_cons_of_mem _ (in_M x h)) rfl rfl (by decide) (List.mem_cons_of_mem _ m_527) rfl d_M_disk_86 ?_
            refine lv_iload_n (pc := 89) F.1 F.2.1 d_M_disk_89 rfl (lv_at hl 1 rfl) ?_
            refine x_top (y := nI (tN host)) nh.1 ?_
            refine x_zaldB (pc := 90) F hw 5 1 (tN host) rfl rfl rfl (by omega) (by decide) d_M_disk_90 ?_
            refine x_ifeqB (pc := 91) (tgt := 107) F d_M_disk_91 rfl (fun h9 => ?_) (fun h9 => ?_)
            · refine lv_iconst (pc := 107) (v := 1) F.1 F.2.1 d_M_disk_107 (by decide) ?_
              refine W.widen (k := 0) (n := 0) (by decide) (by decide) ?_
              exact ret 1 (ro, upd di (tN (ob (tN host))) (od (tN host)), va_up os (tN host) false) _ _ 108 _ (by unfold F_M_disk <;> rw [e1] <;> (try dsimp only) <;> rw [if_neg h4] <;> rw [if_pos h5] <;> rw [if_pos h6] <;> rw [if_neg h7] <;> rw [if_pos h8] <;> rfl) hw d_M_disk_108
            · exact absurd h9 h7
          · refine lv_iconst (pc := 66) (v := 0) F.1 F.2.1 d_M_disk_66 (by decide) ?_
            refine W.widen (k := 0) (n := 0) (by decide) (by decide) ?_
            exact ret 0 (ro, di, va_up os (tN host) false) _ _ 67 _ (by unfold F_M_disk <;> rw [e1] <;> (try dsimp only) <;> rw [if_neg h4] <;> rw [if_pos h5] <;> rw [if_pos h6] <;> rw [if_neg h7] <;> rw [if_neg h8] <;> rfl) hw d_M_disk_67
        · refine lv_aload_n (pc := 36) F.1 F.2.1 d_M_disk_36 rfl (lv_at hl 0 rfl) ?_
          refine x_get (pc := 37) (v := .int (bI st)) F hw 0 5 (fun x h => List.mem_cons_of_mem _ (in_M x h)) rfl rfl (by decide) (List.mem_cons_of_mem _ m_528) rfl d_M_disk_37 ?_
          refine x_ifeqB (pc := 40) (tgt := 46) F d_M_disk_40 rfl (fun h10 => ?_) (fun h10 => ?_)
          · have n1 := n0 (tN host) nhb
            have n1b := n1.2
            refine lv_aload_n (pc := 46) F.1 F.2.1 d_M_disk_46 rfl (lv_at hl 0 rfl) ?_
            refine x_get (pc := 47) (v := .ref (ad 7)) F hw 0 9 (fun x h => List.mem_cons_of_mem _ (in_M x h)) rfl rfl (by decide) (List.mem_cons_of_mem _ m_532) rfl d_M_disk_47 ?_
            refine lv_iload_n (pc := 50) F.1 F.2.1 d_M_disk_50 rfl (lv_at hl 1 rfl) ?_
            refine x_top (y := nI (tN host)) nh.1 ?_
            refine lv_iconst (pc := 51) (v := 0) F.1 F.2.1 d_M_disk_51 (by decide) ?_
            refine x_zastB (pc := 52) (b := false) (ws' := MW ad cT im me ro up ho di (va_up os (tN host) false) ob od on pg tm ts tr ki mo po sr ld st ow nu go la so se sl sp tp rd pn) F hw 7 1 (tN host) rfl rfl rfl (by omega) (by decide) d_M_disk_52 rfl (fun H locs hw => ?_)
            refine lv_aload_n (pc := 53) F.1 F.2.1 d_M_disk_53 rfl (lv_at hl 0 rfl) ?_
            refine x_get (pc := 54) (v := .ref (ad 10)) F hw 0 12 (fun x h => List.mem_cons_of_mem _ (in_M x h)) rfl rfl (by decide) (List.mem_cons_of_mem _ m_535) rfl d_M_disk_54 ?_
            refine lv_iload_n (pc := 57) F.1 F.2.1 d_M_disk_57 rfl (lv_at hl 1 rfl) ?_
            refine x_top (y := nI (tN host)) nh.1 ?_
            refine x_iald (pc := 58) F hw 10 0 (tN host) rfl rfl rfl (by omega) (by decide) d_M_disk_58 ?_
            refine lv_aload_n (pc := 59) F.1 F.2.1 d_M_disk_59 rfl (lv_at hl 0 rfl) ?_
            refine x_get (pc := 60) (v := .int nu) F hw 0 8 (fun x h => List.mem_cons_of_mem _ (in_M x h)) rfl rfl (by decide) (List.mem_cons_of_mem _ m_531) rfl d_M_disk_60 ?_
            refine lv_icmp_eq (pc := 63) (tgt := 68) F.1 F.2.1 d_M_disk_63 rfl (fun h11 => ?_) (fun h11 => ?_)
            · refine lv_aload_n (pc := 68) F.1 F.2.1 d_M_disk_68 rfl (lv_at hl 0 rfl) ?_
              refine x_get (pc := 69) (v := .ref (ad 6)) F hw 0 6 (fun x h => List.mem_cons_of_mem _ (in_M x h)) rfl rfl (by decide) (List.mem_cons_of_mem _ m_529) rfl d_M_disk_69 ?_
              refine lv_aload_n (pc := 72) F.1 F.2.1 d_M_disk_72 rfl (lv_at hl 0 rfl) ?_
              refine x_get (pc := 73) (v := .ref (ad 8)) F hw 0 10 (fun x h => List.mem_cons_of_mem _ (in_M x h)) rfl rfl (by decide) (List.mem_cons_of_mem _ m_533) rfl d_M_disk_73 ?_
              refine lv_iload_n (pc := 76) F.1 F.2.1 d_M_disk_76 rfl (lv_at hl 1 rfl) ?_
              refine x_top (y := nI (tN host)) nh.1 ?_
              refine x_iald (pc := 77) F hw 8 0 (tN host) rfl rfl rfl (by omega) (by decide) d_M_disk_77 ?_
              refine x_top (y := nI (tN (ob (tN host)))) n1.1 ?_
              refine lv_aload_n (pc := 78) F.1 F.2.1 d_M_disk_78 rfl (lv_at hl 0 rfl) ?_
              refine x_get (pc := 79) (v := .ref (ad 9)) F hw 0 11 (fun x h => List.mem_cons_of_mem _ (in_M x h)) rfl rfl (by decide) (List.mem_cons_of_mem _ m_534) rfl d_M_disk_79 ?_
              refine lv_iload_n (pc := 82) F.1 F.2.1 d_M_disk_82 rfl (lv_at hl 1 rfl) ?_
              refine x_top (y := nI (tN host)) nh.1 ?_
              refine x_iald (pc := 83) F hw 9 0 (tN host) rfl rfl rfl (by omega) (by decide) d_M_disk_83 ?_
              refine x_iast (pc := 84) (ws' := MW ad cT im me ro up ho (upd di (tN (ob (tN host))) (od (tN host))) (va_up os (tN host) false) ob od on pg tm ts tr ki mo po sr ld st ow nu go la so se sl sp tp rd pn) F hw 6 0 (tN (ob (tN host))) rfl rfl rfl (by omega) (by decide) d_M_disk_84 rfl (fun H locs hw => ?_)
              refine lv_aload_n (pc := 85) F.1 F.2.1 d_M_disk_85 rfl (lv_at hl 0 rfl) ?_
              refine x_get (pc := 86) (v := .ref (ad 5)) F hw 0 4 (fun x h => List.mem_cons_of_mem _ (in_M x h)) rfl rfl (by decide) (List.mem_cons_of_mem _ m_527) rfl d_M_disk_86 ?_
              refine lv_iload_n (pc := 89) F.1 F.2.1 d_M_disk_89 rfl (lv_at hl 1 rfl) ?_
              refine x_top (y := nI (tN host)) nh.1 ?_
              refine x_zaldB (pc := 90) F hw 5 1 (tN host) rfl rfl rfl (by omega) (by decide) d_M_disk_90 ?_
              refine x_ifeqB (pc := 91) (tgt := 107) F d_M_disk_91 rfl (fun h12 => ?_) (fun h12 => ?_)
              · exact absurd h7 h12
              · refine lv_aload_n (pc := 94) F.1 F.2.1 d_M_disk_94 rfl (lv_at hl 0 rfl) ?_
                refine x_get (pc := 95) (v := .ref (ad 3)) F hw 0 2 (fun x h => List.mem_cons_of_mem _ (in_M x h)) rfl rfl (by decide) (List.mem_cons_of_mem _ m_525) rfl d_M_disk_95 ?_
                refine lv_bipush (pc := 98) (v := 60) F.1 F.2.1 d_M_disk_98 (by decide) ?_
                refine lv_iload_n (pc := 100) F.1 F.2.1 d_M_disk_100 rfl (lv_at hl 1 rfl) ?_
                refine x_top (y := nI (tN host)) nh.1 ?_
                refine lv_imul (pc := 101) F.1 F.2.1 d_M_disk_101 ?_
                refine x_top (y := nI (60 * tN host)) (x_mul2 rfl rfl) ?_
                refine lv_bipush (pc := 102) (v := 56) F.1 F.2.1 d_M_disk_102 (by decide) ?_
                refine lv_iadd (pc := 104) F.1 F.2.1 d_M_disk_104 ?_
                refine x_top (y := nI (60 * tN host + 56)) (x_add2 rfl rfl) ?_
                refine lv_iconst (pc := 105) (v := 0) F.1 F.2.1 d_M_disk_105 (by decide) ?_
                refine x_iast (pc := 106) (ws' := MW ad cT im me (upd ro (60 * tN host + 56) 0) up ho (upd di (tN (ob (tN host))) (od (tN host))) (va_up os (tN host) false) ob od on pg tm ts tr ki mo po sr ld st ow nu go la so se sl sp tp rd pn) F hw 3 0 (60 * tN host + 56) rfl rfl rfl (by omega) (by decide) d_M_disk_106 rfl (fun H locs hw => ?_)
                refine lv_iconst (pc := 107) (v := 1) F.1 F.2.1 d_M_disk_107 (by decide) ?_
                refine W.widen (k := 0) (n := 0) (by decide) (by decide) ?_
                exact ret 1 (upd ro (60 * tN host + 56) 0, upd di (tN (ob (tN host))) (od (tN host)), va_up os (tN host) false) _ _ 108 _ (by unfold F_M_disk <;> rw [e1] <;> (try dsimp only) <;> rw [if_neg h4] <;> rw [if_pos h5] <;> rw [if_pos h6] <;> rw [if_pos h7] <;> rw [if_neg h10] <;> rw [if_pos h11] <;> rfl) hw d_M_disk_108
            · refine lv_iconst (pc := 66) (v := 0) F.1 F.2.1 d_M_disk_66 (by decide) ?_
              refine W.widen (k := 0) (n := 0) (by decide) (by decide) ?_
              exact ret 0 (ro, di, va_up os (tN host) false) _ _ 67 _ (by unfold F_M_disk <;> rw [e1] <;> (try dsimp only) <;> rw [if_neg h4] <;> rw [if_pos h5] <;> rw [if_pos h6] <;> rw [if_pos h7] <;> rw [if_neg h10] <;> rw [if_neg h11] <;> rfl) hw d_M_disk_67
          · refine lv_bipush (pc := 43) (v := (-2)) F.1 F.2.1 d_M_disk_43 (by decide) ?_
            refine W.widen (k := 0) (n := 0) (by decide) (by decide) ?_
            exact ret (-2) (ro, di, os) _ _ 45 _ (by unfold F_M_disk <;> rw [e1] <;> (try dsimp only) <;> rw [if_neg h4] <;> rw [if_pos h5] <;> rw [if_pos h6] <;> rw [if_pos h7] <;> rw [if_pos h10] <;> rfl) hw d_M_disk_45
  · refine lv_iconst (pc := 7) (v := (-1)) F.1 F.2.1 d_M_disk_7 (by decide) ?_
    refine W.widen (k := 0) (n := 0) (by decide) (by decide) ?_
    exact ret (-1) (ro, di, os) _ _ 8 _ (by unfold F_M_disk <;> rw [e1] <;> (try dsimp only) <;> rw [if_pos h4] <;> rfl) hw d_M_disk_8
def F_M_move (up : Nat → Bool) (ho : Nat → Bool) (pg : Nat → Int32) (tm : Nat → Int32) (ts : Nat → Int32) (st : Bool) (ow : Int32) (go : Bool) (la : Int32) (so : Int32) (se : Int32) (sl : Int32) (sp : Int32) (tp : Bool) (rd : Bool) : Int32 × (Nat → Int32) × (Nat → Int32) × (Nat → Int32) × Bool × Int32 × Int32 × Int32 × Int32 × Int32 × Bool × Bool :=
  if go = true then
    ((-2), (pg, tm, ts, go, la, so, se, sl, sp, tp, rd))
  else
    if ow = (-2) then
      ((-2), (pg, tm, ts, go, la, so, se, sl, sp, tp, rd))
    else
      match F_M_runs up ho st ow (tN ow) with
      | (r4, _) =>
        if r4 = 0 then
          ((-2), (pg, tm, ts, go, la, so, se, sl, sp, tp, rd))
        else
          if up (1 - tN ow) = true then
            (la + 1, (va_cpy (fun _ => (-1)) pg 0 0 8, va_cpy (fun _ => 0) tm 0 0 64, va_cpy (fun _ => 0) ts 0 0 8, true, la + 1, nI (tN ow), 0, 7, 0, true, false))
          else
            ((-2), (pg, tm, ts, go, la, so, se, sl, sp, tp, rd))
set_option maxHeartbeats 4000000 in
set_option maxRecDepth 100000 in
theorem c_M_move (l : Launch) (D : va_G) (cT : Nat → ClassId) (ad : Nat → Nat) (im : Nat → Int32) (me : Nat → Int32) (ro : Nat → Int32) (up : Nat → Bool) (ho : Nat → Bool) (di : Nat → Int32) (os : Nat → Bool) (ob : Nat → Int32) (od : Nat → Int32) (on : Nat → Int32) (pg : Nat → Int32) (tm : Nat → Int32) (ts : Nat → Int32) (tr : Nat → Int32) (ki : Nat → Int32) (mo : Nat → Int32) (po : Nat → Int32) (sr : Nat → Int32) (ld : Nat → Int32) (st : Bool) (ow : Int32) (nu : Int32) (go : Bool) (la : Int32) (so : Int32) (se : Int32) (sl : Int32) (sp : Int32) (tp : Bool) (rd : Bool) (pn : Int32) (how : ow = (-2) ∨ isN ow 2) : Cti l y_M_move ws_M_move { frames := 1, cells := 0, slots := 0, locals := 21 } D vwCl (TYS cT) [.ref (ad 0)] (MW ad cT im me ro up ho di os ob od on pg tm ts tr ki mo po sr ld st ow nu go la so se sl sp tp rd pn) (fun (rr : Int32) (uu : (Nat → Int32) × (Nat → Int32) × (Nat → Int32) × Bool × Int32 × Int32 × Int32 × Int32 × Int32 × Bool × Bool) => F_M_move up ho pg tm ts st ow go la so se sl sp tp rd = (rr, uu)) (fun (u : (Nat → Int32) × (Nat → Int32) × (Nat → Int32) × Bool × Int32 × Int32 × Int32 × Int32 × Int32 × Bool × Bool) => MW ad cT im me ro up ho di os ob od on u.1 u.2.1 u.2.2.1 tr ki mo po sr ld st ow nu u.2.2.2.1 u.2.2.2.2.1 u.2.2.2.2.2.1 u.2.2.2.2.2.2.1 u.2.2.2.2.2.2.2.1 u.2.2.2.2.2.2.2.2.1 u.2.2.2.2.2.2.2.2.2.1 u.2.2.2.2.2.2.2.2.2.2 pn) 0 0 := by
  refine x_ini (cc := b_M_move) (maxL := 2) (by decide) rfl (Nat.le_of_ble_eq_true rfl) ?_
  intro p e s m args below meth c A ls Q F hl hw ret
  have hl : lv_has ls 2 [(0, .ref (ad 0))] := hl
  refine lv_aload_n (pc := 0) F.1 F.2.1 d_M_move_0 rfl (lv_at hl 0 rfl) ?_
  refine x_get (pc := 1) (v := .int (bI go)) F hw 0 13 (fun x h => List.mem_cons_of_mem _ (in_M x h)) rfl rfl (by decide) (List.mem_cons_of_mem _ m_536) rfl d_M_move_1 ?_
  refine x_ifneB (pc := 4) (tgt := 41) F d_M_move_4 rfl (fun h1 => ?_) (fun h1 => ?_)
  · refine lv_bipush (pc := 41) (v := (-2)) F.1 F.2.1 d_M_move_41 (by decide) ?_
    refine W.widen (k := 0) (n := 0) (by decide) (by decide) ?_
    exact ret (-2) (pg, tm, ts, go, la, so, se, sl, sp, tp, rd) _ _ 43 _ (by unfold F_M_move <;> rw [if_pos h1] <;> rfl) hw d_M_move_43
  · refine lv_aload_n (pc := 7) F.1 F.2.1 d_M_move_7 rfl (lv_at hl 0 rfl) ?_
    refine x_get (pc := 8) (v := .int ow) F hw 0 7 (fun x h => List.mem_cons_of_mem _ (in_M x h)) rfl rfl (by decide) (List.mem_cons_of_mem _ m_530) rfl d_M_move_8 ?_
    refine lv_bipush (pc := 11) (v := (-2)) F.1 F.2.1 d_M_move_11 (by decide) ?_
    refine lv_icmp_eq (pc := 13) (tgt := 41) F.1 F.2.1 d_M_move_13 rfl (fun h2 => ?_) (fun h2 => ?_)
    · refine lv_bipush (pc := 41) (v := (-2)) F.1 F.2.1 d_M_move_41 (by decide) ?_
      refine W.widen (k := 0) (n := 0) (by decide) (by decide) ?_
      exact ret (-2) (pg, tm, ts, go, la, so, se, sl, sp, tp, rd) _ _ 43 _ (by unfold F_M_move <;> rw [if_neg h1] <;> rw [if_pos h2] <;> rfl) hw d_M_move_43
    · have nw := how.resolve_left h2
      have nwb := nw.2
      refine lv_aload_n (pc := 16) F.1 F.2.1 d_M_move_16 rfl (lv_at hl 0 rfl) ?_
      refine lv_aload_n (pc := 17) F.1 F.2.1 d_M_move_17 rfl (lv_at hl 0 rfl) ?_
      refine x_get (pc := 18) (v := .int ow) F hw 0 7 (fun x h => List.mem_cons_of_mem _ (in_M x h)) rfl rfl (by decide) (List.mem_cons_of_mem _ m_530) rfl d_M_move_18 ?_
      refine x_top (y := nI (tN ow)) nw.1 ?_
      refine x_calli (pc := 21) (wr := []) hw [0, 1, 2, 3, 4, 5, 6, 7, 8, 9, 10, 11, 12, 13, 14, 15, 16, 17, 18, 19] [] rfl rfl (by decide) (by decide) (va_runV (As := [.int (nI (tN ow))]) (rest := []) F (c_M_runs l D cT ad im me ro up ho di os ob od on pg tm ts tr ki mo po sr ld st ow nu go la so se sl sp tp rd pn (tN ow) (by omega) _) (x_cw (C := "MovingGuestModel") 1 F (g_all y_M_runs b_M_runs 2 (some .boolean) (List.mem_cons_of_mem _ m_635)) rfl rfl rfl (F.2.2.2.2 _ (List.mem_cons_of_mem _ m_40)) (F.2.2.2.2 _ (List.mem_cons_of_mem _ m_633)) (F.2.2.2.2 _ (List.mem_cons_of_mem _ m_634)) (F.2.2.2.2 _ (List.mem_cons_of_mem _ m_16)) (by decide +kernel) ⟨by decide, by decide⟩) (hw.preV (q0 := 0) [0, 1, 2, 3, 4, 5, 6, 7, 8, 9, 10, 11, 12, 13, 14, 15, 16, 17, 18, 19] (by decide) rfl rfl rfl) rfl rfl hl.1 rfl (lv_room (Nat.le_of_ble_eq_true rfl)) d_M_move_21 ⟨by decide, by decide⟩) (fun r4 u5 H locs e3 hw => ?_)
      refine lv_if_eq (pc := 24) (tgt := 41) F.1 F.2.1 d_M_move_24 rfl (fun h6 => ?_) (fun h6 => ?_)
      · refine lv_bipush (pc := 41) (v := (-2)) F.1 F.2.1 d_M_move_41 (by decide) ?_
        refine W.widen (k := 0) (n := 0) (by decide) (by decide) ?_
        exact ret (-2) (pg, tm, ts, go, la, so, se, sl, sp, tp, rd) _ _ 43 _ (by unfold F_M_move <;> rw [if_neg h1] <;> rw [if_neg h2] <;> rw [e3] <;> (try dsimp only) <;> rw [if_pos h6] <;> rfl) hw d_M_move_43
      · refine lv_aload_n (pc := 27) F.1 F.2.1 d_M_move_27 rfl (lv_at hl 0 rfl) ?_
        refine x_get (pc := 28) (v := .ref (ad 4)) F hw 0 3 (fun x h => List.mem_cons_of_mem _ (in_M x h)) rfl rfl (by decide) (List.mem_cons_of_mem _ m_526) rfl d_M_move_28 ?_
        refine lv_iconst (pc := 31) (v := 1) F.1 F.2.1 d_M_move_31 (by decide) ?_
        refine lv_aload_n (pc := 32) F.1 F.2.1 d_M_move_32 rfl (lv_at hl 0 rfl) ?_
        refine x_get (pc := 33) (v := .int ow) F hw 0 7 (fun x h => List.mem_cons_of_mem _ (in_M x h)) rfl rfl (by decide) (List.mem_cons_of_mem _ m_530) rfl d_M_move_33 ?_
        refine x_top (y := nI (tN ow)) nw.1 ?_
        refine lv_isub (pc := 36) F.1 F.2.1 d_M_move_36 ?_
        refine x_top (y := nI (1 - tN ow)) (x_sub2 rfl rfl (by omega)) ?_
        refine x_zaldB (pc := 37) F hw 4 1 (1 - tN ow) rfl rfl rfl (by omega) (by decide) d_M_move_37 ?_
        refine x_ifneB (pc := 38) (tgt := 44) F d_M_move_38 rfl (fun h7 => ?_) (fun h7 => ?_)
        · refine lv_aload_n (pc := 44) F.1 F.2.1 d_M_move_44 rfl (lv_at hl 0 rfl) ?_
          refine lv_iconst (pc := 45) (v := 1) F.1 F.2.1 d_M_move_45 (by decide) ?_
          refine x_put (pc := 46) (v := .int (bI true)) (ty := .boolean) (ws' := MW ad cT im me ro up ho di os ob od on pg tm ts tr ki mo po sr ld st ow nu true la so se sl sp tp rd pn) F hw 0 13 (fun x h => List.mem_cons_of_mem _ (in_M x h)) ty_M tyok_M nm_M rfl rfl (by decide) (List.mem_cons_of_mem _ m_536) rfl (by decide +kernel) (bI_nar true) (bI_fit true) (Nat.le_of_ble_eq_true rfl) d_M_move_46 rfl (fun H locs hw => ?_)
          refine lv_aload_n (pc := 49) F.1 F.2.1 d_M_move_49 rfl (lv_at hl 0 rfl) ?_
          refine lv_dup (pc := 50) F.1 F.2.1 d_M_move_50 rfl ?_
          refine x_get (pc := 51) (v := .int la) F hw 0 14 (fun x h => List.mem_cons_of_mem _ (in_M x h)) rfl rfl (by decide) (List.mem_cons_of_mem _ m_537) rfl d_M_move_51 ?_
          refine lv_iconst (pc := 54) (v := 1) F.1 F.2.1 d_M_move_54 (by decide) ?_
          refine lv_iadd (pc := 55) F.1 F.2.1 d_M_move_55 ?_
          refine x_put (pc := 56) (v := .int (la + 1)) (ty := .int) (ws' := MW ad cT im me ro up ho di os ob od on pg tm ts tr ki mo po sr ld st ow nu true (la + 1) so se sl sp tp rd pn) F hw 0 14 (fun x h => List.mem_cons_of_mem _ (in_M x h)) ty_M tyok_M nm_M rfl rfl (by decide) (List.mem_cons_of_mem _ m_537) rfl (by decide +kernel) rfl rfl (Nat.le_of_ble_eq_true rfl) d_M_move_56 rfl (fun H locs hw => ?_)
          refine lv_aload_n (pc := 59) F.1 F.2.1 d_M_move_59 rfl (lv_at hl 0 rfl) ?_
          refine lv_aload_n (pc := 60) F.1 F.2.1 d_M_move_60 rfl (lv_at hl 0 rfl) ?_
          refine x_get (pc := 61) (v := .int ow) F hw 0 7 (fun x h => List.mem_cons_of_mem _ (in_M x h)) rfl rfl (by decide) (List.mem_cons_of_mem _ m_530) rfl d_M_move_61 ?_
          refine x_top (y := nI (tN ow)) nw.1 ?_
          refine x_put (pc := 64) (v := .int (nI (tN ow))) (ty := .int) (ws' := MW ad cT im me ro up ho di os ob od on pg tm ts tr ki mo po sr ld st ow nu true (la + 1) (nI (tN ow)) se sl sp tp rd pn) F hw 0 15 (fun x h => List.mem_cons_of_mem _ (in_M x h)) ty_M tyok_M nm_M rfl rfl (by decide) (List.mem_cons_of_mem _ m_538) rfl (by decide +kernel) rfl rfl (Nat.le_of_ble_eq_true rfl) d_M_move_64 rfl (fun H locs hw => ?_)
          refine lv_aload_n (pc := 67) F.1 F.2.1 d_M_move_67 rfl (lv_at hl 0 rfl) ?_
          refine lv_iconst (pc := 68) (v := 0) F.1 F.2.1 d_M_move_68 (by decide) ?_
          refine x_put (pc := 69) (v := .int 0) (ty := .int) (ws' := MW ad cT im me ro up ho di os ob od on pg tm ts tr ki mo po sr ld st ow nu true (la + 1) (nI (tN ow)) 0 sl sp tp rd pn) F hw 0 17 (fun x h => List.mem_cons_of_mem _ (in_M x h)) ty_M tyok_M nm_M rfl rfl (by decide) (List.mem_cons_of_mem _ m_540) rfl (by decide +kernel) rfl rfl (Nat.le_of_ble_eq_true rfl) d_M_move_69 rfl (fun H locs hw => ?_)
          refine lv_aload_n (pc := 72) F.1 F.2.1 d_M_move_72 rfl (lv_at hl 0 rfl) ?_
          refine lv_bipush (pc := 73) (v := 7) F.1 F.2.1 d_M_move_73 (by decide) ?_
          refine x_put (pc := 75) (v := .int 7) (ty := .int) (ws' := MW ad cT im me ro up ho di os ob od on pg tm ts tr ki mo po sr ld st ow nu true (la + 1) (nI (tN ow)) 0 7 sp tp rd pn) F hw 0 18 (fun x h => List.mem_cons_of_mem _ (in_M x h)) ty_M tyok_M nm_M rfl rfl (by decide) (List.mem_cons_of_mem _ m_541) rfl (by decide +kernel) rfl rfl (Nat.le_of_ble_eq_true rfl) d_M_move_75 rfl (fun H locs hw => ?_)
          refine lv_aload_n (pc := 78) F.1 F.2.1 d_M_move_78 rfl (lv_at hl 0 rfl) ?_
          refine lv_iconst (pc := 79) (v := 0) F.1 F.2.1 d_M_move_79 (by decide) ?_
          refine x_put (pc := 80) (v := .int 0) (ty := .int) (ws' := MW ad cT im me ro up ho di os ob od on pg tm ts tr ki mo po sr ld st ow nu true (la + 1) (nI (tN ow)) 0 7 0 tp rd pn) F hw 0 19 (fun x h => List.mem_cons_of_mem _ (in_M x h)) ty_M tyok_M nm_M rfl rfl (by decide) (List.mem_cons_of_mem _ m_542) rfl (by decide +kernel) rfl rfl (Nat.le_of_ble_eq_true rfl) d_M_move_80 rfl (fun H locs hw => ?_)
          refine lv_aload_n (pc := 83) F.1 F.2.1 d_M_move_83 rfl (lv_at hl 0 rfl) ?_
          refine lv_iconst (pc := 84) (v := 1) F.1 F.2.1 d_M_move_84 (by decide) ?_
          refine x_put (pc := 85) (v := .int (bI true)) (ty := .boolean) (ws' := MW ad cT im me ro up ho di os ob od on pg tm ts tr ki mo po sr ld st ow nu true (la + 1) (nI (tN ow)) 0 7 0 true rd pn) F hw 0 20 (fun x h => List.mem_cons_of_mem _ (in_M x h)) ty_M tyok_M nm_M rfl rfl (by decide) (List.mem_cons_of_mem _ m_543) rfl (by decide +kernel) (bI_nar true) (bI_fit true) (Nat.le_of_ble_eq_true rfl) d_M_move_85 rfl (fun H locs hw => ?_)
          refine lv_aload_n (pc := 88) F.1 F.2.1 d_M_move_88 rfl (lv_at hl 0 rfl) ?_
          refine lv_iconst (pc := 89) (v := 0) F.1 F.2.1 d_M_move_89 (by decide) ?_
          refine x_put (pc := 90) (v := .int (bI false)) (ty := .boolean) (ws' := MW ad cT im me ro up ho di os ob od on pg tm ts tr ki mo po sr ld st ow nu true (la + 1) (nI (tN ow)) 0 7 0 true false pn) F hw 0 21 (fun x h => List.mem_cons_of_mem _ (in_M x h)) ty_M tyok_M nm_M rfl rfl (by decide) (List.mem_cons_of_mem _ m_544) rfl (by decide +kernel) (bI_nar false) (bI_fit false) (Nat.le_of_ble_eq_true rfl) d_M_move_90 rfl (fun H locs hw => ?_)
          refine lv_iconst (pc := 93) (v := 0) F.1 F.2.1 d_M_move_93 (by decide) ?_
          refine lv_istore_n (pc := 94) (lv' := [(1, .int 0), (0, .ref (ad 0))]) F.1 F.2.1 d_M_move_94 rfl hl (by decide) rfl (fun ls hl => ?_)
          have loop8 : ∀ (kf : Nat) (i : Nat) (ls : Array Slot) (H : Heap) (locs : List Loc), 8 - i = kf → (i ≤ 8) → lv_has ls 2 [(1, .int (nI i)), (0, .ref (ad 0))] → Hw D vwCl (TYS cT) A s (MW ad cT im me ro up ho di os ob od on (va_cpy (fun _ => (-1)) pg 0 0 i) tm (va_cpy (fun _ => 0) ts 0 0 i) tr ki mo po sr ld st ow nu true (la + 1) (nI (tN ow)) 0 7 0 true false pn) H locs → W p l e { frames := 1, cells := 0, slots := 0, locals := 21 } s m args below meth c H locs 0 0 Q (F0 m 95 ls []) := by
            intro kf
            induction kf using Nat.strongRecOn with
            | _ kf ih8 =>
            intro i ls H locs hk hi hl hw
            refine lv_iload_n (pc := 95) F.1 F.2.1 d_M_move_95 rfl (lv_at hl 0 rfl) ?_
            refine lv_bipush (pc := 96) (v := 8) F.1 F.2.1 d_M_move_96 (by decide) ?_
            refine lv_icmp_ge (pc := 98) (tgt := 121) F.1 F.2.1 d_M_move_98 rfl (fun h9 => ?_) (fun h9 => ?_)
            · have h9 := (nI_leI (a := 8) (b := i) (by omega) (by omega)).mp h9
              obtain rfl : i = 8 := by omega
              refine lv_iconst (pc := 121) (v := 0) F.1 F.2.1 d_M_move_121 (by decide) ?_
              refine lv_istore_n (pc := 122) (lv' := [(1, .int 0), (0, .ref (ad 0))]) F.1 F.2.1 d_M_move_122 rfl hl (by decide) rfl (fun ls hl => ?_)
              have loop10 : ∀ (kf : Nat) (i : Nat) (ls : Array Slot) (H : Heap) (locs : List Loc), 64 - i = kf → (i ≤ 64) → lv_has ls 2 [(1, .int (nI i)), (0, .ref (ad 0))] → Hw D vwCl (TYS cT) A s (MW ad cT im me ro up ho di os ob od on (va_cpy (fun _ => (-1)) pg 0 0 8) (va_cpy (fun _ => 0) tm 0 0 i) (va_cpy (fun _ => 0) ts 0 0 8) tr ki mo po sr ld st ow nu true (la + 1) (nI (tN ow)) 0 7 0 true false pn) H locs → W p l e { frames := 1, cells := 0, slots := 0, locals := 21 } s m args below meth c H locs 0 0 Q (F0 m 123 ls []) := by
                intro kf
                induction kf using Nat.strongRecOn with
                | _ kf ih10 =>
                intro i ls H locs hk hi hl hw
                refine lv_iload_n (pc := 123) F.1 F.2.1 d_M_move_123 rfl (lv_at hl 0 rfl) ?_
                refine lv_bipush (pc := 124) (v := 64) F.1 F.2.1 d_M_move_124 (by decide) ?_
                refine lv_icmp_ge (pc := 126) (tgt := 142) F.1 F.2.1 d_M_move_126 rfl (fun h11 => ?_) (fun h11 => ?_)
                · have h11 := (nI_leI (a := 64) (b := i) (by omega) (by omega)).mp h11
                  obtain rfl : i = 64 := by omega
                  refine lv_aload_n (pc := 142) F.1 F.2.1 d_M_move_142 rfl (lv_at hl 1 rfl) ?_
                  refine x_get (pc := 143) (v := .int (la + 1)) F hw 0 14 (fun x h => List.mem_cons_of_mem _ (in_M x h)) rfl rfl (by decide) (List.mem_cons_of_mem _ m_537) rfl d_M_move_143 ?_
                  refine W.widen (k := 0) (n := 0) (by decide) (by decide) ?_
                  exact ret (la + 1) (va_cpy (fun _ => (-1)) pg 0 0 8, va_cpy (fun _ => 0) tm 0 0 64, va_cpy (fun _ => 0) ts 0 0 8, true, la + 1, nI (tN ow), 0, 7, 0, true, false) _ _ 146 _ (by unfold F_M_move <;> rw [if_neg h1] <;> rw [if_neg h2] <;> rw [e3] <;> (try dsimp only) <;> rw [if_neg h6] <;> rw [if_pos h7] <;> rfl) hw d_M_move_146
                · have h11 : ¬ 64 ≤ i := fun z9 => h11 ((nI_leI (a := 64) (b := i) (by omega) (by omega)).mpr z9)
                  refine lv_aload_n (pc := 129) F.1 F.2.1 d_M_move_129 rfl (lv_at hl 1 rfl) ?_
                  refine x_get (pc := 130) (v := .ref (ad 12)) F hw 0 22 (fun x h => List.mem_cons_of_mem _ (in_M x h)) rfl rfl (by decide) (List.mem_cons_of_mem _ m_545) rfl d_M_move_130 ?_
                  refine lv_iload_n (pc := 133) F.1 F.2.1 d_M_move_133 rfl (lv_at hl 0 rfl) ?_
                  refine lv_iconst (pc := 134) (v := 0) F.1 F.2.1 d_M_move_134 (by decide) ?_
                  refine x_iast (pc := 135) (ws' := MW ad cT im me ro up ho di os ob od on (va_cpy (fun _ => (-1)) pg 0 0 8) (upd (va_cpy (fun _ => 0) tm 0 0 i) i 0) (va_cpy (fun _ => 0) ts 0 0 8) tr ki mo po sr ld st ow nu true (la + 1) (nI (tN ow)) 0 7 0 true false pn) F hw 12 0 (i) rfl rfl rfl (by omega) (by decide) d_M_move_135 rfl (fun H locs hw => ?_)
                  refine lv_iinc (pc := 136) (k := 0) (v := nI (i + 1)) (lv' := [(1, .int (nI (i + 1))), (0, .ref (ad 0))]) F.1 F.2.1 d_M_move_136 hl rfl (x_add2 rfl rfl) (by decide) rfl (fun ls hl => ?_)
                  refine lv_goto (pc := 139) (tgt := 123) F.1 F.2.1 d_M_move_139 rfl ?_
                  have ec12 : upd (va_cpy (fun _ => 0) tm 0 0 i) i 0 = va_cpy (fun _ => 0) tm 0 0 (i + 1) := cpy_s2 (by omega) rfl
                  rw [ec12] at hw
                  exact ih10 _ (by omega) (i + 1) _ _ _ rfl (by omega) hl hw
              have hw := hw
              exact loop10 _ 0 _ _ _ rfl (by omega) hl (by rw [cpy_0]; exact hw)
            · have h9 : ¬ 8 ≤ i := fun z9 => h9 ((nI_leI (a := 8) (b := i) (by omega) (by omega)).mpr z9)
              refine lv_aload_n (pc := 101) F.1 F.2.1 d_M_move_101 rfl (lv_at hl 1 rfl) ?_
              refine x_get (pc := 102) (v := .ref (ad 11)) F hw 0 16 (fun x h => List.mem_cons_of_mem _ (in_M x h)) rfl rfl (by decide) (List.mem_cons_of_mem _ m_539) rfl d_M_move_102 ?_
              refine lv_iload_n (pc := 105) F.1 F.2.1 d_M_move_105 rfl (lv_at hl 0 rfl) ?_
              refine lv_iconst (pc := 106) (v := (-1)) F.1 F.2.1 d_M_move_106 (by decide) ?_
              refine x_iast (pc := 107) (ws' := MW ad cT im me ro up ho di os ob od on (upd (va_cpy (fun _ => (-1)) pg 0 0 i) i (-1)) tm (va_cpy (fun _ => 0) ts 0 0 i) tr ki mo po sr ld st ow nu true (la + 1) (nI (tN ow)) 0 7 0 true false pn) F hw 11 0 (i) rfl rfl rfl (by omega) (by decide) d_M_move_107 rfl (fun H locs hw => ?_)
              refine lv_aload_n (pc := 108) F.1 F.2.1 d_M_move_108 rfl (lv_at hl 1 rfl) ?_
              refine x_get (pc := 109) (v := .ref (ad 13)) F hw 0 23 (fun x h => List.mem_cons_of_mem _ (in_M x h)) rfl rfl (by decide) (List.mem_cons_of_mem _ m_546) rfl d_M_move_109 ?_
              refine lv_iload_n (pc := 112) F.1 F.2.1 d_M_move_112 rfl (lv_at hl 0 rfl) ?_
              refine lv_iconst (pc := 113) (v := 0) F.1 F.2.1 d_M_move_113 (by decide) ?_
              refine x_iast (pc := 114) (ws' := MW ad cT im me ro up ho di os ob od on (upd (va_cpy (fun _ => (-1)) pg 0 0 i) i (-1)) tm (upd (va_cpy (fun _ => 0) ts 0 0 i) i 0) tr ki mo po sr ld st ow nu true (la + 1) (nI (tN ow)) 0 7 0 true false pn) F hw 13 0 (i) rfl rfl rfl (by omega) (by decide) d_M_move_114 rfl (fun H locs hw => ?_)
              refine lv_iinc (pc := 115) (k := 0) (v := nI (i + 1)) (lv' := [(1, .int (nI (i + 1))), (0, .ref (ad 0))]) F.1 F.2.1 d_M_move_115 hl rfl (x_add2 rfl rfl) (by decide) rfl (fun ls hl => ?_)
              refine lv_goto (pc := 118) (tgt := 95) F.1 F.2.1 d_M_move_118 rfl ?_
              have ec13 : upd (va_cpy (fun _ => (-1)) pg 0 0 i) i (-1) = va_cpy (fun _ => (-1)) pg 0 0 (i + 1) := cpy_s2 (by omega) rfl
              rw [ec13] at hw
              have ec14 : upd (va_cpy (fun _ => 0) ts 0 0 i) i 0 = va_cpy (fun _ => 0) ts 0 0 (i + 1) := cpy_s2 (by omega) rfl
              rw [ec14] at hw
              exact ih8 _ (by omega) (i + 1) _ _ _ rfl (by omega) hl hw
          have hw := hw
          exact loop8 _ 0 _ _ _ rfl (by omega) hl (by rw [cpy_0, cpy_0]; exact hw)
        · refine lv_bipush (pc := 41) (v := (-2)) F.1 F.2.1 d_M_move_41 (by decide) ?_
          refine W.widen (k := 0) (n := 0) (by decide) (by decide) ?_
          exact ret (-2) (pg, tm, ts, go, la, so, se, sl, sp, tp, rd) _ _ 43 _ (by unfold F_M_move <;> rw [if_neg h1] <;> rw [if_neg h2] <;> rw [e3] <;> (try dsimp only) <;> rw [if_neg h6] <;> rw [if_neg h7] <;> rfl) hw d_M_move_43
def F_M_unknown (pg : Nat → Int32) : Int32 × Unit :=
  (nI (cnt pg 8), ())
set_option maxHeartbeats 4000000 in
set_option maxRecDepth 100000 in
theorem c_M_unknown (l : Launch) (D : va_G) (cT : Nat → ClassId) (ad : Nat → Nat) (im : Nat → Int32) (me : Nat → Int32) (ro : Nat → Int32) (up : Nat → Bool) (ho : Nat → Bool) (di : Nat → Int32) (os : Nat → Bool) (ob : Nat → Int32) (od : Nat → Int32) (on : Nat → Int32) (pg : Nat → Int32) (tm : Nat → Int32) (ts : Nat → Int32) (tr : Nat → Int32) (ki : Nat → Int32) (mo : Nat → Int32) (po : Nat → Int32) (sr : Nat → Int32) (ld : Nat → Int32) (st : Bool) (ow : Int32) (nu : Int32) (go : Bool) (la : Int32) (so : Int32) (se : Int32) (sl : Int32) (sp : Int32) (tp : Bool) (rd : Bool) (pn : Int32)  : Cti l y_M_unknown ws_M_unknown { frames := 0, cells := 0, slots := 0, locals := 0 } D vwCl (TYS cT) [.ref (ad 0)] (MW ad cT im me ro up ho di os ob od on pg tm ts tr ki mo po sr ld st ow nu go la so se sl sp tp rd pn) (fun (rr : Int32) (uu : Unit) => F_M_unknown pg = (rr, uu)) (fun (u : Unit) => MW ad cT im me ro up ho di os ob od on pg tm ts tr ki mo po sr ld st ow nu go la so se sl sp tp rd pn) 0 0 := by
  refine x_ini (cc := b_M_unknown) (maxL := 3) (by decide) rfl (Nat.le_of_ble_eq_true rfl) ?_
  intro p e s m args below meth c A ls Q F hl hw ret
  have hl : lv_has ls 3 [(0, .ref (ad 0))] := hl
  refine lv_iconst (pc := 0) (v := 0) F.1 F.2.1 d_M_unknown_0 (by decide) ?_
  refine lv_istore_n (pc := 1) (lv' := [(1, .int 0), (0, .ref (ad 0))]) F.1 F.2.1 d_M_unknown_1 rfl hl (by decide) rfl (fun ls hl => ?_)
  refine lv_iconst (pc := 2) (v := 0) F.1 F.2.1 d_M_unknown_2 (by decide) ?_
  refine lv_istore_n (pc := 3) (lv' := [(2, .int 0), (1, .int 0), (0, .ref (ad 0))]) F.1 F.2.1 d_M_unknown_3 rfl hl (by decide) rfl (fun ls hl => ?_)
  have loop1 : ∀ (kf : Nat) (i : Nat) (ls : Array Slot) (H : Heap) (locs : List Loc), 8 - i = kf → (i ≤ 8) → lv_has ls 3 [(2, .int (nI i)), (1, .int (nI (cnt pg i))), (0, .ref (ad 0))] → Hw D vwCl (TYS cT) A s (MW ad cT im me ro up ho di os ob od on pg tm ts tr ki mo po sr ld st ow nu go la so se sl sp tp rd pn) H locs → W p l e { frames := 0, cells := 0, slots := 0, locals := 0 } s m args below meth c H locs 0 0 Q (F0 m 4 ls []) := by
    intro kf
    induction kf using Nat.strongRecOn with
    | _ kf ih1 =>
    intro i ls H locs hk hi hl hw
    refine lv_iload_n (pc := 4) F.1 F.2.1 d_M_unknown_4 rfl (lv_at hl 0 rfl) ?_
    refine lv_bipush (pc := 5) (v := 8) F.1 F.2.1 d_M_unknown_5 (by decide) ?_
    refine lv_icmp_ge (pc := 7) (tgt := 35) F.1 F.2.1 d_M_unknown_7 rfl (fun h2 => ?_) (fun h2 => ?_)
    · have h2 := (nI_leI (a := 8) (b := i) (by omega) (by omega)).mp h2
      obtain rfl : i = 8 := by omega
      refine lv_iload_n (pc := 35) F.1 F.2.1 d_M_unknown_35 rfl (lv_at hl 1 rfl) ?_
      refine W.widen (k := 0) (n := 0) (by decide) (by decide) ?_
      exact ret (nI (cnt pg 8)) () _ _ 36 _ (by unfold F_M_unknown <;> rfl) hw d_M_unknown_36
    · have h2 : ¬ 8 ≤ i := fun z9 => h2 ((nI_leI (a := 8) (b := i) (by omega) (by omega)).mpr z9)
      refine lv_iload_n (pc := 10) F.1 F.2.1 d_M_unknown_10 rfl (lv_at hl 1 rfl) ?_
      refine lv_aload_n (pc := 11) F.1 F.2.1 d_M_unknown_11 rfl (lv_at hl 2 rfl) ?_
      refine x_get (pc := 12) (v := .ref (ad 11)) F hw 0 16 (fun x h => List.mem_cons_of_mem _ (in_M x h)) rfl rfl (by decide) (List.mem_cons_of_mem _ m_539) rfl d_M_unknown_12 ?_
      refine lv_iload_n (pc := 15) F.1 F.2.1 d_M_unknown_15 rfl (lv_at hl 0 rfl) ?_
      refine x_iald (pc := 16) F hw 11 0 (i) rfl rfl rfl (by omega) (by decide) d_M_unknown_16 ?_
      refine lv_bipush (pc := 17) (v := (-2)) F.1 F.2.1 d_M_unknown_17 (by decide) ?_
      refine lv_icmp_ne (pc := 19) (tgt := 26) F.1 F.2.1 d_M_unknown_19 rfl (fun h3 => ?_) (fun h3 => ?_)
      · refine lv_iconst (pc := 26) (v := 1) F.1 F.2.1 d_M_unknown_26 (by decide) ?_
        refine lv_iadd (pc := 27) F.1 F.2.1 d_M_unknown_27 ?_
        refine x_top (y := nI (cnt pg i + 1)) (x_add2 rfl rfl) ?_
        refine lv_istore_n (pc := 28) (lv' := [(1, .int (nI (cnt pg i + 1))), (2, .int (nI i)), (0, .ref (ad 0))]) F.1 F.2.1 d_M_unknown_28 rfl hl (by decide) rfl (fun ls hl => ?_)
        refine lv_iinc (pc := 29) (k := 1) (v := nI (i + 1)) (lv' := [(2, .int (nI (i + 1))), (1, .int (nI (cnt pg i + 1))), (0, .ref (ad 0))]) F.1 F.2.1 d_M_unknown_29 hl rfl (x_add2 rfl rfl) (by decide) rfl (fun ls hl => ?_)
        refine lv_goto (pc := 32) (tgt := 4) F.1 F.2.1 d_M_unknown_32 rfl ?_
        have ec4 : nI (cnt pg i + 1) = nI (cnt pg (i + 1)) := by simp only [cnt, if_neg h3]
        rw [ec4] at hl
        exact ih1 _ (by omega) (i + 1) _ _ _ rfl (by omega) hl hw
      · refine lv_iconst (pc := 22) (v := 0) F.1 F.2.1 d_M_unknown_22 (by decide) ?_
        refine lv_goto (pc := 23) (tgt := 27) F.1 F.2.1 d_M_unknown_23 rfl ?_
        refine lv_iadd (pc := 27) F.1 F.2.1 d_M_unknown_27 ?_
        refine x_top (y := nI (cnt pg i + 0)) (x_add2 rfl rfl) ?_
        refine lv_istore_n (pc := 28) (lv' := [(1, .int (nI (cnt pg i + 0))), (2, .int (nI i)), (0, .ref (ad 0))]) F.1 F.2.1 d_M_unknown_28 rfl hl (by decide) rfl (fun ls hl => ?_)
        refine lv_iinc (pc := 29) (k := 1) (v := nI (i + 1)) (lv' := [(2, .int (nI (i + 1))), (1, .int (nI (cnt pg i + 0))), (0, .ref (ad 0))]) F.1 F.2.1 d_M_unknown_29 hl rfl (x_add2 rfl rfl) (by decide) rfl (fun ls hl => ?_)
        refine lv_goto (pc := 32) (tgt := 4) F.1 F.2.1 d_M_unknown_32 rfl ?_
        have ec5 : nI (cnt pg i + 0) = nI (cnt pg (i + 1)) := by simp only [cnt, if_pos h3]
        rw [ec5] at hl
        exact ih1 _ (by omega) (i + 1) _ _ _ rfl (by omega) hl hw
  exact loop1 _ 0 _ _ _ rfl (by omega) hl hw
def F_M_due (pg : Nat → Int32) (sl : Int32) : Int32 × Unit :=
  dueF pg (tN sl) 8 1
set_option maxHeartbeats 4000000 in
set_option maxRecDepth 100000 in
theorem c_M_due (l : Launch) (D : va_G) (cT : Nat → ClassId) (ad : Nat → Nat) (im : Nat → Int32) (me : Nat → Int32) (ro : Nat → Int32) (up : Nat → Bool) (ho : Nat → Bool) (di : Nat → Int32) (os : Nat → Bool) (ob : Nat → Int32) (od : Nat → Int32) (on : Nat → Int32) (pg : Nat → Int32) (tm : Nat → Int32) (ts : Nat → Int32) (tr : Nat → Int32) (ki : Nat → Int32) (mo : Nat → Int32) (po : Nat → Int32) (sr : Nat → Int32) (ld : Nat → Int32) (st : Bool) (ow : Int32) (nu : Int32) (go : Bool) (la : Int32) (so : Int32) (se : Int32) (sl : Int32) (sp : Int32) (tp : Bool) (rd : Bool) (pn : Int32) (n0 : isN sl 8) : Cti l y_M_due ws_M_due { frames := 0, cells := 0, slots := 0, locals := 0 } D vwCl (TYS cT) [.ref (ad 0)] (MW ad cT im me ro up ho di os ob od on pg tm ts tr ki mo po sr ld st ow nu go la so se sl sp tp rd pn) (fun (rr : Int32) (uu : Unit) => F_M_due pg sl = (rr, uu)) (fun (u : Unit) => MW ad cT im me ro up ho di os ob od on pg tm ts tr ki mo po sr ld st ow nu go la so se sl sp tp rd pn) 0 0 := by
  refine x_ini (cc := b_M_due) (maxL := 2) (by decide) rfl (Nat.le_of_ble_eq_true rfl) ?_
  intro p e s m args below meth c A ls Q F hl hw ret
  have hl : lv_has ls 2 [(0, .ref (ad 0))] := hl
  have n0b := n0.2
  refine lv_iconst (pc := 0) (v := 1) F.1 F.2.1 d_M_due_0 (by decide) ?_
  refine lv_istore_n (pc := 1) (lv' := [(1, .int 1), (0, .ref (ad 0))]) F.1 F.2.1 d_M_due_1 rfl hl (by decide) rfl (fun ls hl => ?_)
  have loop1 : ∀ (kf : Nat) (n : Nat) (k : Nat) (ls : Array Slot) (H : Heap) (locs : List Loc), n = kf → (n + k = 9) → (F_M_due pg sl = dueF pg (tN sl) n k) → lv_has ls 2 [(1, .int (nI k)), (0, .ref (ad 0))] → Hw D vwCl (TYS cT) A s (MW ad cT im me ro up ho di os ob od on pg tm ts tr ki mo po sr ld st ow nu go la so se sl sp tp rd pn) H locs → W p l e { frames := 0, cells := 0, slots := 0, locals := 0 } s m args below meth c H locs 0 0 Q (F0 m 2 ls []) := by
    intro kf
    induction kf using Nat.strongRecOn with
    | _ kf ih1 =>
    intro n k ls H locs hk hi hF hl hw
    refine lv_iload_n (pc := 2) F.1 F.2.1 d_M_due_2 rfl (lv_at hl 0 rfl) ?_
    refine lv_bipush (pc := 3) (v := 8) F.1 F.2.1 d_M_due_3 (by decide) ?_
    refine lv_icmp_gt (pc := 5) (tgt := 42) F.1 F.2.1 d_M_due_5 rfl (fun h2 => ?_) (fun h2 => ?_)
    · have h2 := (nI_ltI (a := 8) (b := k) (by omega) (by omega)).mp h2
      obtain rfl : n = 0 := by omega
      refine lv_iconst (pc := 42) (v := (-1)) F.1 F.2.1 d_M_due_42 (by decide) ?_
      refine W.widen (k := 0) (n := 0) (by decide) (by decide) ?_
      exact ret (-1) () _ _ 43 _ (by rw [hF, dueF] <;> rfl) hw d_M_due_43
    · have h2 : ¬ 8 < k := fun z9 => h2 ((nI_ltI (a := 8) (b := k) (by omega) (by omega)).mpr z9)
      obtain ⟨n, rfl⟩ : ∃ x, n = x + 1 := ⟨n - 1, by omega⟩
      refine lv_aload_n (pc := 8) F.1 F.2.1 d_M_due_8 rfl (lv_at hl 1 rfl) ?_
      refine x_get (pc := 9) (v := .ref (ad 11)) F hw 0 16 (fun x h => List.mem_cons_of_mem _ (in_M x h)) rfl rfl (by decide) (List.mem_cons_of_mem _ m_539) rfl d_M_due_9 ?_
      refine lv_aload_n (pc := 12) F.1 F.2.1 d_M_due_12 rfl (lv_at hl 1 rfl) ?_
      refine x_get (pc := 13) (v := .int sl) F hw 0 18 (fun x h => List.mem_cons_of_mem _ (in_M x h)) rfl rfl (by decide) (List.mem_cons_of_mem _ m_541) rfl d_M_due_13 ?_
      refine x_top (y := nI (tN sl)) n0.1 ?_
      refine lv_iload_n (pc := 16) F.1 F.2.1 d_M_due_16 rfl (lv_at hl 0 rfl) ?_
      refine lv_iadd (pc := 17) F.1 F.2.1 d_M_due_17 ?_
      refine x_top (y := nI (tN sl + k)) (x_add2 rfl rfl) ?_
      refine lv_bipush (pc := 18) (v := 8) F.1 F.2.1 d_M_due_18 (by decide) ?_
      refine lv_irem (pc := 20) F.1 F.2.1 d_M_due_20 (by decide) ?_
      refine x_top (y := nI ((tN sl + k) % 8)) (x_rem2 rfl rfl (by omega) (by omega) (by omega)) ?_
      refine x_iald (pc := 21) F hw 11 0 ((tN sl + k) % 8) rfl rfl rfl (by omega) (by decide) d_M_due_21 ?_
      refine lv_iconst (pc := 22) (v := (-1)) F.1 F.2.1 d_M_due_22 (by decide) ?_
      refine lv_icmp_ne (pc := 23) (tgt := 36) F.1 F.2.1 d_M_due_23 rfl (fun h3 => ?_) (fun h3 => ?_)
      · refine lv_iinc (pc := 36) (k := 0) (v := nI (k + 1)) (lv' := [(1, .int (nI (k + 1))), (0, .ref (ad 0))]) F.1 F.2.1 d_M_due_36 hl rfl (x_add2 rfl rfl) (by decide) rfl (fun ls hl => ?_)
        refine lv_goto (pc := 39) (tgt := 2) F.1 F.2.1 d_M_due_39 rfl ?_
        exact ih1 _ (by omega) n (k + 1) _ _ _ rfl (by omega) (by rw [hF, dueF] <;> rw [if_neg h3] <;> rfl) hl hw
      · refine lv_aload_n (pc := 26) F.1 F.2.1 d_M_due_26 rfl (lv_at hl 1 rfl) ?_
        refine x_get (pc := 27) (v := .int sl) F hw 0 18 (fun x h => List.mem_cons_of_mem _ (in_M x h)) rfl rfl (by decide) (List.mem_cons_of_mem _ m_541) rfl d_M_due_27 ?_
        refine x_top (y := nI (tN sl)) n0.1 ?_
        refine lv_iload_n (pc := 30) F.1 F.2.1 d_M_due_30 rfl (lv_at hl 0 rfl) ?_
        refine lv_iadd (pc := 31) F.1 F.2.1 d_M_due_31 ?_
        refine x_top (y := nI (tN sl + k)) (x_add2 rfl rfl) ?_
        refine lv_bipush (pc := 32) (v := 8) F.1 F.2.1 d_M_due_32 (by decide) ?_
        refine lv_irem (pc := 34) F.1 F.2.1 d_M_due_34 (by decide) ?_
        refine x_top (y := nI ((tN sl + k) % 8)) (x_rem2 rfl rfl (by omega) (by omega) (by omega)) ?_
        refine W.widen (k := 0) (n := 0) (by decide) (by decide) ?_
        exact ret (nI ((tN sl + k) % 8)) () _ _ 35 _ (by rw [hF, dueF] <;> rw [if_pos h3] <;> rfl) hw d_M_due_35
  exact loop1 _ 8 1 _ _ _ rfl (by omega) (by unfold F_M_due <;> rfl) hl hw
theorem due_nat {pg : Nat → Int32} {sl r : Int32} {u : Unit} (e : F_M_due pg sl = (r, u)) (h : ¬ r < 0) : isN r 8 := due_natF 8 1 r u e h
def F_M_come (ki : Nat → Int32) (mo : Nat → Int32) (po : Nat → Int32) (sr : Nat → Int32) (pn : Int32) (x1 : Int32) (x2 : Int32) (x3 : Int32) (x4 : Int32) : Int32 × (Nat → Int32) × (Nat → Int32) × (Nat → Int32) × (Nat → Int32) × Int32 :=
  if 8 ≤ (nI (tN pn)) then
    (nI (tN pn), (upd ki (tN pn) x1, upd mo (tN pn) x2, upd po (tN pn) x3, upd sr (tN pn) x4, 8))
  else
    (nI (tN pn), (upd ki (tN pn) x1, upd mo (tN pn) x2, upd po (tN pn) x3, upd sr (tN pn) x4, nI (tN pn + 1)))
set_option maxHeartbeats 4000000 in
set_option maxRecDepth 100000 in
theorem c_M_come (l : Launch) (D : va_G) (cT : Nat → ClassId) (ad : Nat → Nat) (im : Nat → Int32) (me : Nat → Int32) (ro : Nat → Int32) (up : Nat → Bool) (ho : Nat → Bool) (di : Nat → Int32) (os : Nat → Bool) (ob : Nat → Int32) (od : Nat → Int32) (on : Nat → Int32) (pg : Nat → Int32) (tm : Nat → Int32) (ts : Nat → Int32) (tr : Nat → Int32) (ki : Nat → Int32) (mo : Nat → Int32) (po : Nat → Int32) (sr : Nat → Int32) (ld : Nat → Int32) (st : Bool) (ow : Int32) (nu : Int32) (go : Bool) (la : Int32) (so : Int32) (se : Int32) (sl : Int32) (sp : Int32) (tp : Bool) (rd : Bool) (pn : Int32) (x1 : Int32) (x2 : Int32) (x3 : Int32) (x4 : Int32) (n0 : isN pn 9) : Cti l y_M_come ws_M_come { frames := 0, cells := 0, slots := 0, locals := 0 } D vwCl (TYS cT) [.ref (ad 0), .int x1, .int x2, .int x3, .int x4] (MW ad cT im me ro up ho di os ob od on pg tm ts tr ki mo po sr ld st ow nu go la so se sl sp tp rd pn) (fun (rr : Int32) (uu : (Nat → Int32) × (Nat → Int32) × (Nat → Int32) × (Nat → Int32) × Int32) => F_M_come ki mo po sr pn x1 x2 x3 x4 = (rr, uu)) (fun (u : (Nat → Int32) × (Nat → Int32) × (Nat → Int32) × (Nat → Int32) × Int32) => MW ad cT im me ro up ho di os ob od on pg tm ts tr u.1 u.2.1 u.2.2.1 u.2.2.2.1 ld st ow nu go la so se sl sp tp rd u.2.2.2.2) 0 0 := by
  refine x_ini (cc := b_M_come) (maxL := 6) (by decide) rfl (Nat.le_of_ble_eq_true rfl) ?_
  intro p e s m args below meth c A ls Q F hl hw ret
  have hl : lv_has ls 6 [(0, .ref (ad 0)), (1, .int x1), (2, .int x2), (3, .int x3), (4, .int x4)] := hl
  have n0b := n0.2
  refine lv_aload_n (pc := 0) F.1 F.2.1 d_M_come_0 rfl (lv_at hl 0 rfl) ?_
  refine x_get (pc := 1) (v := .int pn) F hw 0 25 (fun x h => List.mem_cons_of_mem _ (in_M x h)) rfl rfl (by decide) (List.mem_cons_of_mem _ m_548) rfl d_M_come_1 ?_
  refine x_top (y := nI (tN pn)) n0.1 ?_
  refine lv_istore (pc := 4) (lv' := [(5, .int (nI (tN pn))), (0, .ref (ad 0)), (1, .int x1), (2, .int x2), (3, .int x3), (4, .int x4)]) F.1 F.2.1 d_M_come_4 hl (by decide) rfl (fun ls hl => ?_)
  refine lv_aload_n (pc := 6) F.1 F.2.1 d_M_come_6 rfl (lv_at hl 1 rfl) ?_
  refine x_get (pc := 7) (v := .ref (ad 15)) F hw 0 26 (fun x h => List.mem_cons_of_mem _ (in_M x h)) rfl rfl (by decide) (List.mem_cons_of_mem _ m_549) rfl d_M_come_7 ?_
  refine lv_iload (pc := 10) F.1 F.2.1 d_M_come_10 (lv_at hl 0 rfl) ?_
  refine lv_iload_n (pc := 12) F.1 F.2.1 d_M_come_12 rfl (lv_at hl 2 rfl) ?_
  refine x_iast (pc := 13) (ws' := MW ad cT im me ro up ho di os ob od on pg tm ts tr (upd ki (tN pn) x1) mo po sr ld st ow nu go la so se sl sp tp rd pn) F hw 15 0 (tN pn) rfl rfl rfl (by omega) (by decide) d_M_come_13 rfl (fun H locs hw => ?_)
  refine lv_aload_n (pc := 14) F.1 F.2.1 d_M_come_14 rfl (lv_at hl 1 rfl) ?_
  refine x_get (pc := 15) (v := .ref (ad 16)) F hw 0 27 (fun x h => List.mem_cons_of_mem _ (in_M x h)) rfl rfl (by decide) (List.mem_cons_of_mem _ m_550) rfl d_M_come_15 ?_
  refine lv_iload (pc := 18) F.1 F.2.1 d_M_come_18 (lv_at hl 0 rfl) ?_
  refine lv_iload_n (pc := 20) F.1 F.2.1 d_M_come_20 rfl (lv_at hl 3 rfl) ?_
  refine x_iast (pc := 21) (ws' := MW ad cT im me ro up ho di os ob od on pg tm ts tr (upd ki (tN pn) x1) (upd mo (tN pn) x2) po sr ld st ow nu go la so se sl sp tp rd pn) F hw 16 0 (tN pn) rfl rfl rfl (by omega) (by decide) d_M_come_21 rfl (fun H locs hw => ?_)
  refine lv_aload_n (pc := 22) F.1 F.2.1 d_M_come_22 rfl (lv_at hl 1 rfl) ?_
  refine x_get (pc := 23) (v := .ref (ad 17)) F hw 0 28 (fun x h => List.mem_cons_of_mem _ (in_M x h)) rfl rfl (by decide) (List.mem_cons_of_mem _ m_551) rfl d_M_come_23 ?_
  refine lv_iload (pc := 26) F.1 F.2.1 d_M_come_26 (lv_at hl 0 rfl) ?_
  refine lv_iload_n (pc := 28) F.1 F.2.1 d_M_come_28 rfl (lv_at hl 4 rfl) ?_
  refine x_iast (pc := 29) (ws' := MW ad cT im me ro up ho di os ob od on pg tm ts tr (upd ki (tN pn) x1) (upd mo (tN pn) x2) (upd po (tN pn) x3) sr ld st ow nu go la so se sl sp tp rd pn) F hw 17 0 (tN pn) rfl rfl rfl (by omega) (by decide) d_M_come_29 rfl (fun H locs hw => ?_)
  refine lv_aload_n (pc := 30) F.1 F.2.1 d_M_come_30 rfl (lv_at hl 1 rfl) ?_
  refine x_get (pc := 31) (v := .ref (ad 18)) F hw 0 29 (fun x h => List.mem_cons_of_mem _ (in_M x h)) rfl rfl (by decide) (List.mem_cons_of_mem _ m_552) rfl d_M_come_31 ?_
  refine lv_iload (pc := 34) F.1 F.2.1 d_M_come_34 (lv_at hl 0 rfl) ?_
  refine lv_iload (pc := 36) F.1 F.2.1 d_M_come_36 (lv_at hl 5 rfl) ?_
  refine x_iast (pc := 38) (ws' := MW ad cT im me ro up ho di os ob od on pg tm ts tr (upd ki (tN pn) x1) (upd mo (tN pn) x2) (upd po (tN pn) x3) (upd sr (tN pn) x4) ld st ow nu go la so se sl sp tp rd pn) F hw 18 0 (tN pn) rfl rfl rfl (by omega) (by decide) d_M_come_38 rfl (fun H locs hw => ?_)
  refine lv_aload_n (pc := 39) F.1 F.2.1 d_M_come_39 rfl (lv_at hl 1 rfl) ?_
  refine lv_aload_n (pc := 40) F.1 F.2.1 d_M_come_40 rfl (lv_at hl 1 rfl) ?_
  refine x_get (pc := 41) (v := .int pn) F hw 0 25 (fun x h => List.mem_cons_of_mem _ (in_M x h)) rfl rfl (by decide) (List.mem_cons_of_mem _ m_548) rfl d_M_come_41 ?_
  refine x_top (y := nI (tN pn)) n0.1 ?_
  refine lv_bipush (pc := 44) (v := 8) F.1 F.2.1 d_M_come_44 (by decide) ?_
  refine lv_icmp_ge (pc := 46) (tgt := 58) F.1 F.2.1 d_M_come_46 rfl (fun h1 => ?_) (fun h1 => ?_)
  · refine lv_bipush (pc := 58) (v := 8) F.1 F.2.1 d_M_come_58 (by decide) ?_
    refine x_put (pc := 60) (v := .int 8) (ty := .int) (ws' := MW ad cT im me ro up ho di os ob od on pg tm ts tr (upd ki (tN pn) x1) (upd mo (tN pn) x2) (upd po (tN pn) x3) (upd sr (tN pn) x4) ld st ow nu go la so se sl sp tp rd 8) F hw 0 25 (fun x h => List.mem_cons_of_mem _ (in_M x h)) ty_M tyok_M nm_M rfl rfl (by decide) (List.mem_cons_of_mem _ m_548) rfl (by decide +kernel) rfl rfl (Nat.le_of_ble_eq_true rfl) d_M_come_60 rfl (fun H locs hw => ?_)
    refine lv_iload (pc := 63) F.1 F.2.1 d_M_come_63 (lv_at hl 0 rfl) ?_
    refine W.widen (k := 0) (n := 0) (by decide) (by decide) ?_
    exact ret (nI (tN pn)) (upd ki (tN pn) x1, upd mo (tN pn) x2, upd po (tN pn) x3, upd sr (tN pn) x4, 8) _ _ 65 _ (by unfold F_M_come <;> rw [if_pos h1] <;> rfl) hw d_M_come_65
  · refine lv_aload_n (pc := 49) F.1 F.2.1 d_M_come_49 rfl (lv_at hl 1 rfl) ?_
    refine x_get (pc := 50) (v := .int pn) F hw 0 25 (fun x h => List.mem_cons_of_mem _ (in_M x h)) rfl rfl (by decide) (List.mem_cons_of_mem _ m_548) rfl d_M_come_50 ?_
    refine x_top (y := nI (tN pn)) n0.1 ?_
    refine lv_iconst (pc := 53) (v := 1) F.1 F.2.1 d_M_come_53 (by decide) ?_
    refine lv_iadd (pc := 54) F.1 F.2.1 d_M_come_54 ?_
    refine x_top (y := nI (tN pn + 1)) (x_add2 rfl rfl) ?_
    refine lv_goto (pc := 55) (tgt := 60) F.1 F.2.1 d_M_come_55 rfl ?_
    refine x_put (pc := 60) (v := .int (nI (tN pn + 1))) (ty := .int) (ws' := MW ad cT im me ro up ho di os ob od on pg tm ts tr (upd ki (tN pn) x1) (upd mo (tN pn) x2) (upd po (tN pn) x3) (upd sr (tN pn) x4) ld st ow nu go la so se sl sp tp rd (nI (tN pn + 1))) F hw 0 25 (fun x h => List.mem_cons_of_mem _ (in_M x h)) ty_M tyok_M nm_M rfl rfl (by decide) (List.mem_cons_of_mem _ m_548) rfl (by decide +kernel) rfl rfl (Nat.le_of_ble_eq_true rfl) d_M_come_60 rfl (fun H locs hw => ?_)
    refine lv_iload (pc := 63) F.1 F.2.1 d_M_come_63 (lv_at hl 0 rfl) ?_
    refine W.widen (k := 0) (n := 0) (by decide) (by decide) ?_
    exact ret (nI (tN pn)) (upd ki (tN pn) x1, upd mo (tN pn) x2, upd po (tN pn) x3, upd sr (tN pn) x4, nI (tN pn + 1)) _ _ 65 _ (by unfold F_M_come <;> rw [if_neg h1] <;> rfl) hw d_M_come_65
theorem come_r {ki mo po sr : Nat → Int32} {pn x1 x2 x3 x4 r : Int32} {u : (Nat → Int32) × (Nat → Int32) × (Nat → Int32) × (Nat → Int32) × Int32} (e : F_M_come ki mo po sr pn x1 x2 x3 x4 = (r, u)) : nI (tN pn) = r := by
  unfold F_M_come at e
  by_cases h : 8 ≤ nI (tN pn)
  · rw [if_pos h] at e
    cases e
    rfl
  · rw [if_neg h] at e
    cases e
    rfl
def F_M_sendPage (me : Nat → Int32) (pg : Nat → Int32) (ki : Nat → Int32) (mo : Nat → Int32) (po : Nat → Int32) (sr : Nat → Int32) (ld : Nat → Int32) (la : Int32) (so : Int32) (se : Int32) (pn : Int32) (p0 : Nat) : (Nat → Int32) × (Nat → Int32) × (Nat → Int32) × (Nat → Int32) × (Nat → Int32) × (Nat → Int32) × Int32 × Int32 × Int32 :=
  match F_M_come ki mo po sr pn 1 la (nI p0) (se + 1) with
  | (r2, kiv3, mov4, pov5, srv6, pnv7) =>
    (upd pg p0 (se + 1), kiv3, mov4, pov5, srv6, va_cpy me ld (64 * tN so + 8 * p0) (60 * tN pn) 8, se + 1, nI p0, pnv7)
set_option maxHeartbeats 4000000 in
set_option maxRecDepth 100000 in
theorem c_M_sendPage (l : Launch) (D : va_G) (cT : Nat → ClassId) (ad : Nat → Nat) (im : Nat → Int32) (me : Nat → Int32) (ro : Nat → Int32) (up : Nat → Bool) (ho : Nat → Bool) (di : Nat → Int32) (os : Nat → Bool) (ob : Nat → Int32) (od : Nat → Int32) (on : Nat → Int32) (pg : Nat → Int32) (tm : Nat → Int32) (ts : Nat → Int32) (tr : Nat → Int32) (ki : Nat → Int32) (mo : Nat → Int32) (po : Nat → Int32) (sr : Nat → Int32) (ld : Nat → Int32) (st : Bool) (ow : Int32) (nu : Int32) (go : Bool) (la : Int32) (so : Int32) (se : Int32) (sl : Int32) (sp : Int32) (tp : Bool) (rd : Bool) (pn : Int32) (p0 : Nat) (hp : p0 < 8) (nso : isN so 2) (n0 : isN pn 9) : Ctv l y_M_sendPage ws_M_sendPage { frames := 1, cells := 0, slots := 0, locals := 25 } D vwCl (TYS cT) [.ref (ad 0), .int (nI p0)] (MW ad cT im me ro up ho di os ob od on pg tm ts tr ki mo po sr ld st ow nu go la so se sl sp tp rd pn) (fun (uu : (Nat → Int32) × (Nat → Int32) × (Nat → Int32) × (Nat → Int32) × (Nat → Int32) × (Nat → Int32) × Int32 × Int32 × Int32) => F_M_sendPage me pg ki mo po sr ld la so se pn p0 = uu) (fun (u : (Nat → Int32) × (Nat → Int32) × (Nat → Int32) × (Nat → Int32) × (Nat → Int32) × (Nat → Int32) × Int32 × Int32 × Int32) => MW ad cT im me ro up ho di os ob od on u.1 tm ts tr u.2.1 u.2.2.1 u.2.2.2.1 u.2.2.2.2.1 u.2.2.2.2.2.1 st ow nu go la so u.2.2.2.2.2.2.1 u.2.2.2.2.2.2.2.1 sp tp rd u.2.2.2.2.2.2.2.2) 0 0 := by
  refine x_inv (cc := b_M_sendPage) (maxL := 4) (by decide) rfl (Nat.le_of_ble_eq_true rfl) ?_
  intro p e s m args below meth c A ls Q F hin hl hw ret
  have hl : lv_has ls 4 [(0, .ref (ad 0)), (1, .int (nI p0))] := hl
  have nsob := nso.2
  have n0b := n0.2
  refine lv_aload_n (pc := 0) F.1 F.2.1 d_M_sendPage_0 rfl (lv_at hl 0 rfl) ?_
  refine lv_dup (pc := 1) F.1 F.2.1 d_M_sendPage_1 rfl ?_
  refine x_get (pc := 2) (v := .int se) F hw 0 17 (fun x h => List.mem_cons_of_mem _ (in_M x h)) rfl rfl (by decide) (List.mem_cons_of_mem _ m_540) rfl d_M_sendPage_2 ?_
  refine lv_iconst (pc := 5) (v := 1) F.1 F.2.1 d_M_sendPage_5 (by decide) ?_
  refine lv_iadd (pc := 6) F.1 F.2.1 d_M_sendPage_6 ?_
  refine x_put (pc := 7) (v := .int (se + 1)) (ty := .int) (ws' := MW ad cT im me ro up ho di os ob od on pg tm ts tr ki mo po sr ld st ow nu go la so (se + 1) sl sp tp rd pn) F hw 0 17 (fun x h => List.mem_cons_of_mem _ (in_M x h)) ty_M tyok_M nm_M rfl rfl (by decide) (List.mem_cons_of_mem _ m_540) rfl (by decide +kernel) rfl rfl (Nat.le_of_ble_eq_true rfl) d_M_sendPage_7 rfl (fun H locs hw => ?_)
  refine lv_aload_n (pc := 10) F.1 F.2.1 d_M_sendPage_10 rfl (lv_at hl 0 rfl) ?_
  refine x_get (pc := 11) (v := .ref (ad 11)) F hw 0 16 (fun x h => List.mem_cons_of_mem _ (in_M x h)) rfl rfl (by decide) (List.mem_cons_of_mem _ m_539) rfl d_M_sendPage_11 ?_
  refine lv_iload_n (pc := 14) F.1 F.2.1 d_M_sendPage_14 rfl (lv_at hl 1 rfl) ?_
  refine lv_aload_n (pc := 15) F.1 F.2.1 d_M_sendPage_15 rfl (lv_at hl 0 rfl) ?_
  refine x_get (pc := 16) (v := .int (se + 1)) F hw 0 17 (fun x h => List.mem_cons_of_mem _ (in_M x h)) rfl rfl (by decide) (List.mem_cons_of_mem _ m_540) rfl d_M_sendPage_16 ?_
  refine x_iast (pc := 19) (ws' := MW ad cT im me ro up ho di os ob od on (upd pg p0 (se + 1)) tm ts tr ki mo po sr ld st ow nu go la so (se + 1) sl sp tp rd pn) F hw 11 0 (p0) rfl rfl rfl (by omega) (by decide) d_M_sendPage_19 rfl (fun H locs hw => ?_)
  refine lv_aload_n (pc := 20) F.1 F.2.1 d_M_sendPage_20 rfl (lv_at hl 0 rfl) ?_
  refine lv_iload_n (pc := 21) F.1 F.2.1 d_M_sendPage_21 rfl (lv_at hl 1 rfl) ?_
  refine x_put (pc := 22) (v := .int (nI p0)) (ty := .int) (ws' := MW ad cT im me ro up ho di os ob od on (upd pg p0 (se + 1)) tm ts tr ki mo po sr ld st ow nu go la so (se + 1) (nI p0) sp tp rd pn) F hw 0 18 (fun x h => List.mem_cons_of_mem _ (in_M x h)) ty_M tyok_M nm_M rfl rfl (by decide) (List.mem_cons_of_mem _ m_541) rfl (by decide +kernel) rfl rfl (Nat.le_of_ble_eq_true rfl) d_M_sendPage_22 rfl (fun H locs hw => ?_)
  refine lv_aload_n (pc := 25) F.1 F.2.1 d_M_sendPage_25 rfl (lv_at hl 0 rfl) ?_
  refine lv_iconst (pc := 26) (v := 1) F.1 F.2.1 d_M_sendPage_26 (by decide) ?_
  refine lv_aload_n (pc := 27) F.1 F.2.1 d_M_sendPage_27 rfl (lv_at hl 0 rfl) ?_
  refine x_get (pc := 28) (v := .int la) F hw 0 14 (fun x h => List.mem_cons_of_mem _ (in_M x h)) rfl rfl (by decide) (List.mem_cons_of_mem _ m_537) rfl d_M_sendPage_28 ?_
  refine lv_iload_n (pc := 31) F.1 F.2.1 d_M_sendPage_31 rfl (lv_at hl 1 rfl) ?_
  refine lv_aload_n (pc := 32) F.1 F.2.1 d_M_sendPage_32 rfl (lv_at hl 0 rfl) ?_
  refine x_get (pc := 33) (v := .int (se + 1)) F hw 0 17 (fun x h => List.mem_cons_of_mem _ (in_M x h)) rfl rfl (by decide) (List.mem_cons_of_mem _ m_540) rfl d_M_sendPage_33 ?_
  refine x_calli (pc := 36) (wr := []) hw [0, 1, 2, 3, 4, 5, 6, 7, 8, 9, 10, 11, 12, 13, 14, 15, 16, 17, 18, 19] [] rfl rfl (by decide) (by decide) (va_runV (As := [.int 1, .int la, .int (nI p0), .int (se + 1)]) (rest := []) F (c_M_come l D cT ad im me ro up ho di os ob od on (upd pg p0 (se + 1)) tm ts tr ki mo po sr ld st ow nu go la so (se + 1) (nI p0) sp tp rd pn 1 la (nI p0) (se + 1) ⟨n0.1, by omega⟩ _) (x_cw (C := "MovingGuestModel") 4 F (g_all y_M_come b_M_come 6 (some .int) (List.mem_cons_of_mem _ m_678)) rfl rfl rfl (F.2.2.2.2 _ (List.mem_cons_of_mem _ m_40)) (F.2.2.2.2 _ (List.mem_cons_of_mem _ m_676)) (F.2.2.2.2 _ (List.mem_cons_of_mem _ m_677)) (F.2.2.2.2 _ (List.mem_cons_of_mem _ m_25)) (by decide +kernel) ⟨by decide, by decide⟩) (hw.preV (q0 := 0) [0, 1, 2, 3, 4, 5, 6, 7, 8, 9, 10, 11, 12, 13, 14, 15, 16, 17, 18, 19] (by decide) rfl rfl rfl) rfl rfl hl.1 rfl (lv_room (Nat.le_of_ble_eq_true rfl)) d_M_sendPage_36 ⟨by decide, by decide⟩) (fun r2 u8 H locs e1 hw => ?_)
  obtain ⟨kiv3, mov4, pov5, srv6, pnv7⟩ := u8
  have hw : Hw D vwCl (TYS cT) A s (MW ad cT im me ro up ho di os ob od on (upd pg p0 (se + 1)) tm ts tr kiv3 mov4 pov5 srv6 ld st ow nu go la so (se + 1) (nI p0) sp tp rd pnv7) H locs := hw
  obtain rfl := come_r e1
  refine lv_istore_n (pc := 39) (lv' := [(2, .int (nI (tN pn))), (0, .ref (ad 0)), (1, .int (nI p0))]) F.1 F.2.1 d_M_sendPage_39 rfl hl (by decide) rfl (fun ls hl => ?_)
  refine lv_iconst (pc := 40) (v := 0) F.1 F.2.1 d_M_sendPage_40 (by decide) ?_
  refine lv_istore_n (pc := 41) (lv' := [(3, .int 0), (2, .int (nI (tN pn))), (0, .ref (ad 0)), (1, .int (nI p0))]) F.1 F.2.1 d_M_sendPage_41 rfl hl (by decide) rfl (fun ls hl => ?_)
  have loop9 : ∀ (kf : Nat) (i : Nat) (ls : Array Slot) (H : Heap) (locs : List Loc), 8 - i = kf → (i ≤ 8) → lv_has ls 4 [(3, .int (nI i)), (2, .int (nI (tN pn))), (0, .ref (ad 0)), (1, .int (nI p0))] → Hw D vwCl (TYS cT) A s (MW ad cT im me ro up ho di os ob od on (upd pg p0 (se + 1)) tm ts tr kiv3 mov4 pov5 srv6 (va_cpy me ld (64 * tN so + 8 * p0) (60 * tN pn) i) st ow nu go la so (se + 1) (nI p0) sp tp rd pnv7) H locs → W p l e { frames := 1, cells := 0, slots := 0, locals := 25 } s m args below meth c H locs 0 0 Q (F0 m 42 ls []) := by
    intro kf
    induction kf using Nat.strongRecOn with
    | _ kf ih9 =>
    intro i ls H locs hk hi hl hw
    refine lv_iload_n (pc := 42) F.1 F.2.1 d_M_sendPage_42 rfl (lv_at hl 0 rfl) ?_
    refine lv_bipush (pc := 43) (v := 8) F.1 F.2.1 d_M_sendPage_43 (by decide) ?_
    refine lv_icmp_ge (pc := 45) (tgt := 84) F.1 F.2.1 d_M_sendPage_45 rfl (fun h10 => ?_) (fun h10 => ?_)
    · have h10 := (nI_leI (a := 8) (b := i) (by omega) (by omega)).mp h10
      obtain rfl : i = 8 := by omega
      refine W.widen (k := 0) (n := 0) (by decide) (by decide) ?_
      exact ret (upd pg p0 (se + 1), kiv3, mov4, pov5, srv6, va_cpy me ld (64 * tN so + 8 * p0) (60 * tN pn) 8, se + 1, nI p0, pnv7) _ _ 84 _ (by unfold F_M_sendPage <;> rw [e1] <;> (try dsimp only) <;> rfl) hw d_M_sendPage_84
    · have h10 : ¬ 8 ≤ i := fun z9 => h10 ((nI_leI (a := 8) (b := i) (by omega) (by omega)).mpr z9)
      refine lv_aload_n (pc := 48) F.1 F.2.1 d_M_sendPage_48 rfl (lv_at hl 2 rfl) ?_
      refine x_get (pc := 49) (v := .ref (ad 19)) F hw 0 30 (fun x h => List.mem_cons_of_mem _ (in_M x h)) rfl rfl (by decide) (List.mem_cons_of_mem _ m_553) rfl d_M_sendPage_49 ?_
      refine lv_bipush (pc := 52) (v := 60) F.1 F.2.1 d_M_sendPage_52 (by decide) ?_
      refine lv_iload_n (pc := 54) F.1 F.2.1 d_M_sendPage_54 rfl (lv_at hl 1 rfl) ?_
      refine lv_imul (pc := 55) F.1 F.2.1 d_M_sendPage_55 ?_
      refine x_top (y := nI (60 * tN pn)) (x_mul2 rfl rfl) ?_
      refine lv_iload_n (pc := 56) F.1 F.2.1 d_M_sendPage_56 rfl (lv_at hl 0 rfl) ?_
      refine lv_iadd (pc := 57) F.1 F.2.1 d_M_sendPage_57 ?_
      refine x_top (y := nI (60 * tN pn + i)) (x_add2 rfl rfl) ?_
      refine lv_aload_n (pc := 58) F.1 F.2.1 d_M_sendPage_58 rfl (lv_at hl 2 rfl) ?_
      refine x_get (pc := 59) (v := .ref (ad 2)) F hw 0 1 (fun x h => List.mem_cons_of_mem _ (in_M x h)) rfl rfl (by decide) (List.mem_cons_of_mem _ m_524) rfl d_M_sendPage_59 ?_
      refine lv_bipush (pc := 62) (v := 64) F.1 F.2.1 d_M_sendPage_62 (by decide) ?_
      refine lv_aload_n (pc := 64) F.1 F.2.1 d_M_sendPage_64 rfl (lv_at hl 2 rfl) ?_
      refine x_get (pc := 65) (v := .int so) F hw 0 15 (fun x h => List.mem_cons_of_mem _ (in_M x h)) rfl rfl (by decide) (List.mem_cons_of_mem _ m_538) rfl d_M_sendPage_65 ?_
      refine x_top (y := nI (tN so)) nso.1 ?_
      refine lv_imul (pc := 68) F.1 F.2.1 d_M_sendPage_68 ?_
      refine x_top (y := nI (64 * tN so)) (x_mul2 rfl rfl) ?_
      refine lv_bipush (pc := 69) (v := 8) F.1 F.2.1 d_M_sendPage_69 (by decide) ?_
      refine lv_iload_n (pc := 71) F.1 F.2.1 d_M_sendPage_71 rfl (lv_at hl 3 rfl) ?_
      refine lv_imul (pc := 72) F.1 F.2.1 d_M_sendPage_72 ?_
      refine x_top (y := nI (8 * p0)) (x_mul2 rfl rfl) ?_
      refine lv_iadd (pc := 73) F.1 F.2.1 d_M_sendPage_73 ?_
      refine x_top (y := nI (64 * tN so + 8 * p0)) (x_add2 rfl rfl) ?_
      refine lv_iload_n (pc := 74) F.1 F.2.1 d_M_sendPage_74 rfl (lv_at hl 0 rfl) ?_
      refine lv_iadd (pc := 75) F.1 F.2.1 d_M_sendPage_75 ?_
      refine x_top (y := nI (64 * tN so + 8 * p0 + i)) (x_add2 rfl rfl) ?_
      refine x_iald (pc := 76) F hw 2 0 (64 * tN so + 8 * p0 + i) rfl rfl rfl (by omega) (by decide) d_M_sendPage_76 ?_
      refine x_iast (pc := 77) (ws' := MW ad cT im me ro up ho di os ob od on (upd pg p0 (se + 1)) tm ts tr kiv3 mov4 pov5 srv6 (upd (va_cpy me ld (64 * tN so + 8 * p0) (60 * tN pn) i) (60 * tN pn + i) (me (64 * tN so + 8 * p0 + i))) st ow nu go la so (se + 1) (nI p0) sp tp rd pnv7) F hw 19 0 (60 * tN pn + i) rfl rfl rfl (by omega) (by decide) d_M_sendPage_77 rfl (fun H locs hw => ?_)
      refine lv_iinc (pc := 78) (k := 0) (v := nI (i + 1)) (lv' := [(3, .int (nI (i + 1))), (2, .int (nI (tN pn))), (0, .ref (ad 0)), (1, .int (nI p0))]) F.1 F.2.1 d_M_sendPage_78 hl rfl (x_add2 rfl rfl) (by decide) rfl (fun ls hl => ?_)
      refine lv_goto (pc := 81) (tgt := 42) F.1 F.2.1 d_M_sendPage_81 rfl ?_
      have ec11 : upd (va_cpy me ld (64 * tN so + 8 * p0) (60 * tN pn) i) (60 * tN pn + i) (me (64 * tN so + 8 * p0 + i)) = va_cpy me ld (64 * tN so + 8 * p0) (60 * tN pn) (i + 1) := cpy_s2 (by omega) (congrArg me (by omega))
      rw [ec11] at hw
      exact ih9 _ (by omega) (i + 1) _ _ _ rfl (by omega) hl hw
  have hw := hw
  exact loop9 _ 0 _ _ _ rfl (by omega) hl (by rw [cpy_0]; exact hw)
def F_M_step (me : Nat → Int32) (ro : Nat → Int32) (ho : Nat → Bool) (pg : Nat → Int32) (ki : Nat → Int32) (mo : Nat → Int32) (po : Nat → Int32) (sr : Nat → Int32) (ld : Nat → Int32) (st : Bool) (go : Bool) (la : Int32) (so : Int32) (se : Int32) (sl : Int32) (sp : Int32) (pn : Int32) : Int32 × (Nat → Int32) × (Nat → Int32) × (Nat → Int32) × (Nat → Int32) × (Nat → Int32) × (Nat → Int32) × Bool × Int32 × Int32 × Int32 × Int32 :=
  if go = true then
    if ho (tN so) = true then
      if 40 ≤ sp then
        match F_M_due pg sl with
        | (r5, _) =>
          if r5 < 0 then
            if (nI (cnt pg 8)) ≤ 0 then
              if true = true then
                match F_M_come ki mo po sr pn 2 la 0 0 with
                | (r14, kiv15, mov16, pov17, srv18, pnv19) =>
                  (2, (pg, kiv15, mov16, pov17, srv18, va_cpy ro ld (60 * tN so) (60 * tN pn) 60, true, se, sl, sp + 1, pnv19))
              else
                (4, (pg, ki, mo, po, sr, ld, true, se, sl, sp + 1, pn))
            else
              (3, (va_cpy (again pg) pg 0 0 8, ki, mo, po, sr, ld, true, se, sl, sp + 1, pn))
          else
            match F_M_sendPage me pg ki mo po sr ld la so se pn (tN r5) with
            | (pgv30, kiv31, mov32, pov33, srv34, ldv35, sev36, slv37, pnv38) =>
              (1, (pgv30, kiv31, mov32, pov33, srv34, ldv35, true, sev36, slv37, sp + 1, pnv38))
      else
        if sp < 8 then
          match F_M_due pg sl with
          | (r42, _) =>
            if r42 < 0 then
              if (nI (cnt pg 8)) ≤ 0 then
                if st = true then
                  match F_M_come ki mo po sr pn 2 la 0 0 with
                  | (r51, kiv52, mov53, pov54, srv55, pnv56) =>
                    (2, (pg, kiv52, mov53, pov54, srv55, va_cpy ro ld (60 * tN so) (60 * tN pn) 60, st, se, sl, sp + 1, pnv56))
                else
                  (4, (pg, ki, mo, po, sr, ld, true, se, sl, sp + 1, pn))
              else
                (3, (va_cpy (again pg) pg 0 0 8, ki, mo, po, sr, ld, st, se, sl, sp + 1, pn))
            else
              match F_M_sendPage me pg ki mo po sr ld la so se pn (tN r42) with
              | (pgv67, kiv68, mov69, pov70, srv71, ldv72, sev73, slv74, pnv75) =>
                (1, (pgv67, kiv68, mov69, pov70, srv71, ldv72, st, sev73, slv74, sp + 1, pnv75))
        else
          if 2 < (nI (cnt pg 8)) then
            match F_M_due pg sl with
            | (r82, _) =>
              if r82 < 0 then
                if (nI (cnt pg 8)) ≤ 0 then
                  if st = true then
                    match F_M_come ki mo po sr pn 2 la 0 0 with
                    | (r91, kiv92, mov93, pov94, srv95, pnv96) =>
                      (2, (pg, kiv92, mov93, pov94, srv95, va_cpy ro ld (60 * tN so) (60 * tN pn) 60, st, se, sl, sp + 1, pnv96))
                  else
                    (4, (pg, ki, mo, po, sr, ld, true, se, sl, sp + 1, pn))
                else
                  (3, (va_cpy (again pg) pg 0 0 8, ki, mo, po, sr, ld, st, se, sl, sp + 1, pn))
              else
                match F_M_sendPage me pg ki mo po sr ld la so se pn (tN r82) with
                | (pgv107, kiv108, mov109, pov110, srv111, ldv112, sev113, slv114, pnv115) =>
                  (1, (pgv107, kiv108, mov109, pov110, srv111, ldv112, st, sev113, slv114, sp + 1, pnv115))
          else
            match F_M_due pg sl with
            | (r118, _) =>
              if r118 < 0 then
                if (nI (cnt pg 8)) ≤ 0 then
                  if true = true then
                    match F_M_come ki mo po sr pn 2 la 0 0 with
                    | (r127, kiv128, mov129, pov130, srv131, pnv132) =>
                      (2, (pg, kiv128, mov129, pov130, srv131, va_cpy ro ld (60 * tN so) (60 * tN pn) 60, true, se, sl, sp + 1, pnv132))
                  else
                    (4, (pg, ki, mo, po, sr, ld, true, se, sl, sp + 1, pn))
                else
                  (3, (va_cpy (again pg) pg 0 0 8, ki, mo, po, sr, ld, true, se, sl, sp + 1, pn))
              else
                match F_M_sendPage me pg ki mo po sr ld la so se pn (tN r118) with
                | (pgv143, kiv144, mov145, pov146, srv147, ldv148, sev149, slv150, pnv151) =>
                  (1, (pgv143, kiv144, mov145, pov146, srv147, ldv148, true, sev149, slv150, sp + 1, pnv151))
    else
      ((-2), (pg, ki, mo, po, sr, ld, st, se, sl, sp, pn))
  else
    ((-2), (pg, ki, mo, po, sr, ld, st, se, sl, sp, pn))
set_option maxHeartbeats 4000000 in
set_option maxRecDepth 100000 in
theorem c_M_step (l : Launch) (D : va_G) (cT : Nat → ClassId) (ad : Nat → Nat) (im : Nat → Int32) (me : Nat → Int32) (ro : Nat → Int32) (up : Nat → Bool) (ho : Nat → Bool) (di : Nat → Int32) (os : Nat → Bool) (ob : Nat → Int32) (od : Nat → Int32) (on : Nat → Int32) (pg : Nat → Int32) (tm : Nat → Int32) (ts : Nat → Int32) (tr : Nat → Int32) (ki : Nat → Int32) (mo : Nat → Int32) (po : Nat → Int32) (sr : Nat → Int32) (ld : Nat → Int32) (st : Bool) (ow : Int32) (nu : Int32) (go : Bool) (la : Int32) (so : Int32) (se : Int32) (sl : Int32) (sp : Int32) (tp : Bool) (rd : Bool) (pn : Int32) (nso : isN so 2) (n0 : isN pn 9) (nsl : isN sl 8) : Cti l y_M_step ws_M_step { frames := 2, cells := 0, slots := 0, locals := 48 } D vwCl (TYS cT) [.ref (ad 0)] (MW ad cT im me ro up ho di os ob od on pg tm ts tr ki mo po sr ld st ow nu go la so se sl sp tp rd pn) (fun (rr : Int32) (uu : (Nat → Int32) × (Nat → Int32) × (Nat → Int32) × (Nat → Int32) × (Nat → Int32) × (Nat → Int32) × Bool × Int32 × Int32 × Int32 × Int32) => F_M_step me ro ho pg ki mo po sr ld st go la so se sl sp pn = (rr, uu)) (fun (u : (Nat → Int32) × (Nat → Int32) × (Nat → Int32) × (Nat → Int32) × (Nat → Int32) × (Nat → Int32) × Bool × Int32 × Int32 × Int32 × Int32) => MW ad cT im me ro up ho di os ob od on u.1 tm ts tr u.2.1 u.2.2.1 u.2.2.2.1 u.2.2.2.2.1 u.2.2.2.2.2.1 u.2.2.2.2.2.2.1 ow nu go la so u.2.2.2.2.2.2.2.1 u.2.2.2.2.2.2.2.2.1 u.2.2.2.2.2.2.2.2.2.1 tp rd u.2.2.2.2.2.2.2.2.2.2) 0 0 := by
  refine x_ini (cc := b_M_step) (maxL := 4) (by decide) rfl (Nat.le_of_ble_eq_true rfl) ?_
  intro p e s m args below meth c A ls Q F hl hw ret
  have hl : lv_has ls 4 [(0, .ref (ad 0))] := hl
  have nsob := nso.2
  have n0b := n0.2
  have nslb := nsl.2
  refine lv_aload_n (pc := 0) F.1 F.2.1 d_M_step_0 rfl (lv_at hl 0 rfl) ?_
  refine x_get (pc := 1) (v := .int (bI go)) F hw 0 13 (fun x h => List.mem_cons_of_mem _ (in_M x h)) rfl rfl (by decide) (List.mem_cons_of_mem _ m_536) rfl d_M_step_1 ?_
  refine x_ifeqB (pc := 4) (tgt := 19) F d_M_step_4 rfl (fun h1 => ?_) (fun h1 => ?_)
  · refine lv_bipush (pc := 19) (v := (-2)) F.1 F.2.1 d_M_step_19 (by decide) ?_
    refine W.widen (k := 0) (n := 0) (by decide) (by decide) ?_
    exact ret (-2) (pg, ki, mo, po, sr, ld, st, se, sl, sp, pn) _ _ 21 _ (by unfold F_M_step <;> rw [if_neg h1] <;> rfl) hw d_M_step_21
  · refine lv_aload_n (pc := 7) F.1 F.2.1 d_M_step_7 rfl (lv_at hl 0 rfl) ?_
    refine x_get (pc := 8) (v := .ref (ad 5)) F hw 0 4 (fun x h => List.mem_cons_of_mem _ (in_M x h)) rfl rfl (by decide) (List.mem_cons_of_mem _ m_527) rfl d_M_step_8 ?_
    refine lv_aload_n (pc := 11) F.1 F.2.1 d_M_step_11 rfl (lv_at hl 0 rfl) ?_
    refine x_get (pc := 12) (v := .int so) F hw 0 15 (fun x h => List.mem_cons_of_mem _ (in_M x h)) rfl rfl (by decide) (List.mem_cons_of_mem _ m_538) rfl d_M_step_12 ?_
    refine x_top (y := nI (tN so)) nso.1 ?_
    refine x_zaldB (pc := 15) F hw 5 1 (tN so) rfl rfl rfl (by omega) (by decide) d_M_step_15 ?_
    refine x_ifneB (pc := 16) (tgt := 22) F d_M_step_16 rfl (fun h2 => ?_) (fun h2 => ?_)
    · refine lv_aload_n (pc := 22) F.1 F.2.1 d_M_step_22 rfl (lv_at hl 0 rfl) ?_
      refine x_get (pc := 23) (v := .int sp) F hw 0 19 (fun x h => List.mem_cons_of_mem _ (in_M x h)) rfl rfl (by decide) (List.mem_cons_of_mem _ m_542) rfl d_M_step_23 ?_
      refine lv_bipush (pc := 26) (v := 40) F.1 F.2.1 d_M_step_26 (by decide) ?_
      refine lv_icmp_ge (pc := 28) (tgt := 48) F.1 F.2.1 d_M_step_28 rfl (fun h3 => ?_) (fun h3 => ?_)
      · refine lv_aload_n (pc := 48) F.1 F.2.1 d_M_step_48 rfl (lv_at hl 0 rfl) ?_
        refine lv_iconst (pc := 49) (v := 1) F.1 F.2.1 d_M_step_49 (by decide) ?_
        refine x_put (pc := 50) (v := .int (bI true)) (ty := .boolean) (ws' := MW ad cT im me ro up ho di os ob od on pg tm ts tr ki mo po sr ld true ow nu go la so se sl sp tp rd pn) F hw 0 5 (fun x h => List.mem_cons_of_mem _ (in_M x h)) ty_M tyok_M nm_M rfl rfl (by decide) (List.mem_cons_of_mem _ m_528) rfl (by decide +kernel) (bI_nar true) (bI_fit true) (Nat.le_of_ble_eq_true rfl) d_M_step_50 rfl (fun H locs hw => ?_)
        refine lv_aload_n (pc := 53) F.1 F.2.1 d_M_step_53 rfl (lv_at hl 0 rfl) ?_
        refine lv_dup (pc := 54) F.1 F.2.1 d_M_step_54 rfl ?_
        refine x_get (pc := 55) (v := .int sp) F hw 0 19 (fun x h => List.mem_cons_of_mem _ (in_M x h)) rfl rfl (by decide) (List.mem_cons_of_mem _ m_542) rfl d_M_step_55 ?_
        refine lv_iconst (pc := 58) (v := 1) F.1 F.2.1 d_M_step_58 (by decide) ?_
        refine lv_iadd (pc := 59) F.1 F.2.1 d_M_step_59 ?_
        refine x_put (pc := 60) (v := .int (sp + 1)) (ty := .int) (ws' := MW ad cT im me ro up ho di os ob od on pg tm ts tr ki mo po sr ld true ow nu go la so se sl (sp + 1) tp rd pn) F hw 0 19 (fun x h => List.mem_cons_of_mem _ (in_M x h)) ty_M tyok_M nm_M rfl rfl (by decide) (List.mem_cons_of_mem _ m_542) rfl (by decide +kernel) rfl rfl (Nat.le_of_ble_eq_true rfl) d_M_step_60 rfl (fun H locs hw => ?_)
        refine lv_aload_n (pc := 63) F.1 F.2.1 d_M_step_63 rfl (lv_at hl 0 rfl) ?_
        refine x_calli (pc := 64) (wr := []) hw [0, 1, 2, 3, 4, 5, 6, 7, 8, 9, 10, 11, 12, 13, 14, 15, 16, 17, 18, 19] [] rfl rfl (by decide) (by decide) (va_runV (As := []) (rest := []) F (c_M_due l D cT ad im me ro up ho di os ob od on pg tm ts tr ki mo po sr ld true ow nu go la so se sl (sp + 1) tp rd pn ⟨nsl.1, by omega⟩ _) (x_cw (C := "MovingGuestModel") 0 F (g_all y_M_due b_M_due 2 (some .int) (List.mem_cons_of_mem _ m_672)) rfl rfl rfl (F.2.2.2.2 _ (List.mem_cons_of_mem _ m_40)) (F.2.2.2.2 _ (List.mem_cons_of_mem _ m_670)) (F.2.2.2.2 _ (List.mem_cons_of_mem _ m_671)) (F.2.2.2.2 _ (List.mem_cons_of_mem _ m_23)) (by decide +kernel) ⟨by decide, by decide⟩) (hw.preV (q0 := 0) [0, 1, 2, 3, 4, 5, 6, 7, 8, 9, 10, 11, 12, 13, 14, 15, 16, 17, 18, 19] (by decide) rfl rfl rfl) rfl rfl hl.1 rfl (lv_room (Nat.le_of_ble_eq_true rfl)) d_M_step_64 ⟨by decide, by decide⟩) (fun r5 u6 H locs e4 hw => ?_)
        refine lv_istore_n (pc := 67) (lv' := [(1, .int r5), (0, .ref (ad 0))]) F.1 F.2.1 d_M_step_67 rfl hl (by decide) rfl (fun ls hl => ?_)
        refine lv_iload_n (pc := 68) F.1 F.2.1 d_M_step_68 rfl (lv_at hl 0 rfl) ?_
        refine lv_if_lt (pc := 69) (tgt := 79) F.1 F.2.1 d_M_step_69 rfl (fun h7 => ?_) (fun h7 => ?_)
        · refine lv_aload_n (pc := 79) F.1 F.2.1 d_M_step_79 rfl (lv_at hl 1 rfl) ?_
          refine x_calli (pc := 80) (wr := []) hw [0, 1, 2, 3, 4, 5, 6, 7, 8, 9, 10, 11, 12, 13, 14, 15, 16, 17, 18, 19] [] rfl rfl (by decide) (by decide) (va_runV (As := []) (rest := []) F (c_M_unknown l D cT ad im me ro up ho di os ob od on pg tm ts tr ki mo po sr ld true ow nu go la so se sl (sp + 1) tp rd pn  _) (x_cw (C := "MovingGuestModel") 0 F (g_all y_M_unknown b_M_unknown 3 (some .int) (List.mem_cons_of_mem _ m_669)) rfl rfl rfl (F.2.2.2.2 _ (List.mem_cons_of_mem _ m_40)) (F.2.2.2.2 _ (List.mem_cons_of_mem _ m_667)) (F.2.2.2.2 _ (List.mem_cons_of_mem _ m_668)) (F.2.2.2.2 _ (List.mem_cons_of_mem _ m_22)) (by decide +kernel) ⟨by decide, by decide⟩) (hw.preV (q0 := 0) [0, 1, 2, 3, 4, 5, 6, 7, 8, 9, 10, 11, 12, 13, 14, 15, 16, 17, 18, 19] (by decide) rfl rfl rfl) rfl rfl hl.1 rfl (lv_room (Nat.le_of_ble_eq_true rfl)) d_M_step_80 ⟨by decide, by decide⟩) (fun r9 u10 H locs e8 hw => ?_)
          cases (show (nI (cnt pg 8), ()) = (r9, u10) from e8)
          refine lv_if_le (pc := 83) (tgt := 125) F.1 F.2.1 d_M_step_83 rfl (fun h11 => ?_) (fun h11 => ?_)
          · refine lv_aload_n (pc := 125) F.1 F.2.1 d_M_step_125 rfl (lv_at hl 1 rfl) ?_
            refine x_get (pc := 126) (v := .int (bI true)) F hw 0 5 (fun x h => List.mem_cons_of_mem _ (in_M x h)) rfl rfl (by decide) (List.mem_cons_of_mem _ m_528) rfl d_M_step_126 ?_
            refine x_ifneB (pc := 129) (tgt := 139) F d_M_step_129 rfl (fun h12 => ?_) (fun h12 => ?_)
            · refine lv_aload_n (pc := 139) F.1 F.2.1 d_M_step_139 rfl (lv_at hl 1 rfl) ?_
              refine lv_iconst (pc := 140) (v := 2) F.1 F.2.1 d_M_step_140 (by decide) ?_
              refine lv_aload_n (pc := 141) F.1 F.2.1 d_M_step_141 rfl (lv_at hl 1 rfl) ?_
              refine x_get (pc := 142) (v := .int la) F hw 0 14 (fun x h => List.mem_cons_of_mem _ (in_M x h)) rfl rfl (by decide) (List.mem_cons_of_mem _ m_537) rfl d_M_step_142 ?_
              refine lv_iconst (pc := 145) (v := 0) F.1 F.2.1 d_M_step_145 (by decide) ?_
              refine lv_iconst (pc := 146) (v := 0) F.1 F.2.1 d_M_step_146 (by decide) ?_
              refine x_calli (pc := 147) (wr := []) hw [0, 1, 2, 3, 4, 5, 6, 7, 8, 9, 10, 11, 12, 13, 14, 15, 16, 17, 18, 19] [] rfl rfl (by decide) (by decide) (va_runV (As := [.int 2, .int la, .int 0, .int 0]) (rest := []) F (c_M_come l D cT ad im me ro up ho di os ob od on pg tm ts tr ki mo po sr ld true ow nu go la so se sl (sp + 1) tp rd pn 2 la 0 0 ⟨n0.1, by omega⟩ _) (x_cw (C := "MovingGuestModel") 4 F (g_all y_M_come b_M_come 6 (some .int) (List.mem_cons_of_mem _ m_678)) rfl rfl rfl (F.2.2.2.2 _ (List.mem_cons_of_mem _ m_40)) (F.2.2.2.2 _ (List.mem_cons_of_mem _ m_676)) (F.2.2.2.2 _ (List.mem_cons_of_mem _ m_677)) (F.2.2.2.2 _ (List.mem_cons_of_mem _ m_25)) (by decide +kernel) ⟨by decide, by decide⟩) (hw.preV (q0 := 0) [0, 1, 2, 3, 4, 5, 6, 7, 8, 9, 10, 11, 12, 13, 14, 15, 16, 17, 18, 19] (by decide) rfl rfl rfl) rfl rfl hl.1 rfl (lv_room (Nat.le_of_ble_eq_true rfl)) d_M_step_147 ⟨by decide, by decide⟩) (fun r14 u20 H locs e13 hw => ?_)
              obtain ⟨kiv15, mov16, pov17, srv18, pnv19⟩ := u20
              have hw : Hw D vwCl (TYS cT) A s (MW ad cT im me ro up ho di os ob od on pg tm ts tr kiv15 mov16 pov17 srv18 ld true ow nu go la so se sl (sp + 1) tp rd pnv19) H locs := hw
              obtain rfl := come_r e13
              refine lv_istore_n (pc := 150) (lv' := [(2, .int (nI (tN pn))), (1, .int r5), (0, .ref (ad 0))]) F.1 F.2.1 d_M_step_150 rfl hl (by decide) rfl (fun ls hl => ?_)
              refine lv_iconst (pc := 151) (v := 0) F.1 F.2.1 d_M_step_151 (by decide) ?_
              refine lv_istore_n (pc := 152) (lv' := [(3, .int 0), (2, .int (nI (tN pn))), (1, .int r5), (0, .ref (ad 0))]) F.1 F.2.1 d_M_step_152 rfl hl (by decide) rfl (fun ls hl => ?_)
              have loop21 : ∀ (kf : Nat) (i : Nat) (ls : Array Slot) (H : Heap) (locs : List Loc), 60 - i = kf → (i ≤ 60) → lv_has ls 4 [(3, .int (nI i)), (2, .int (nI (tN pn))), (1, .int r5), (0, .ref (ad 0))] → Hw D vwCl (TYS cT) A s (MW ad cT im me ro up ho di os ob od on pg tm ts tr kiv15 mov16 pov17 srv18 (va_cpy ro ld (60 * tN so) (60 * tN pn) i) true ow nu go la so se sl (sp + 1) tp rd pnv19) H locs → W p l e { frames := 2, cells := 0, slots := 0, locals := 48 } s m args below meth c H locs 0 0 Q (F0 m 153 ls []) := by
                intro kf
                induction kf using Nat.strongRecOn with
                | _ kf ih21 =>
                intro i ls H locs hk hi hl hw
                refine lv_iload_n (pc := 153) F.1 F.2.1 d_M_step_153 rfl (lv_at hl 0 rfl) ?_
                refine lv_bipush (pc := 154) (v := 60) F.1 F.2.1 d_M_step_154 (by decide) ?_
                refine lv_icmp_ge (pc := 156) (tgt := 190) F.1 F.2.1 d_M_step_156 rfl (fun h22 => ?_) (fun h22 => ?_)
                · have h22 := (nI_leI (a := 60) (b := i) (by omega) (by omega)).mp h22
                  obtain rfl : i = 60 := by omega
                  refine lv_iconst (pc := 190) (v := 2) F.1 F.2.1 d_M_step_190 (by decide) ?_
                  refine W.widen (k := 0) (n := 0) (by decide) (by decide) ?_
                  exact ret 2 (pg, kiv15, mov16, pov17, srv18, va_cpy ro ld (60 * tN so) (60 * tN pn) 60, true, se, sl, sp + 1, pnv19) _ _ 191 _ (by unfold F_M_step <;> rw [if_pos h1] <;> rw [if_pos h2] <;> rw [if_pos h3] <;> rw [e4] <;> (try dsimp only) <;> rw [if_pos h7] <;> rw [if_pos h11] <;> rw [if_pos h12] <;> rw [e13] <;> (try dsimp only) <;> rfl) hw d_M_step_191
                · have h22 : ¬ 60 ≤ i := fun z9 => h22 ((nI_leI (a := 60) (b := i) (by omega) (by omega)).mpr z9)
                  refine lv_aload_n (pc := 159) F.1 F.2.1 d_M_step_159 rfl (lv_at hl 3 rfl) ?_
                  refine x_get (pc := 160) (v := .ref (ad 19)) F hw 0 30 (fun x h => List.mem_cons_of_mem _ (in_M x h)) rfl rfl (by decide) (List.mem_cons_of_mem _ m_553) rfl d_M_step_160 ?_
                  refine lv_bipush (pc := 163) (v := 60) F.1 F.2.1 d_M_step_163 (by decide) ?_
                  refine lv_iload_n (pc := 165) F.1 F.2.1 d_M_step_165 rfl (lv_at hl 1 rfl) ?_
                  refine lv_imul (pc := 166) F.1 F.2.1 d_M_step_166 ?_
                  refine x_top (y := nI (60 * tN pn)) (x_mul2 rfl rfl) ?_
                  refine lv_iload_n (pc := 167) F.1 F.2.1 d_M_step_167 rfl (lv_at hl 0 rfl) ?_
                  refine lv_iadd (pc := 168) F.1 F.2.1 d_M_step_168 ?_
                  refine x_top (y := nI (60 * tN pn + i)) (x_add2 rfl rfl) ?_
                  refine lv_aload_n (pc := 169) F.1 F.2.1 d_M_step_169 rfl (lv_at hl 3 rfl) ?_
                  refine x_get (pc := 170) (v := .ref (ad 3)) F hw 0 2 (fun x h => List.mem_cons_of_mem _ (in_M x h)) rfl rfl (by decide) (List.mem_cons_of_mem _ m_525) rfl d_M_step_170 ?_
                  refine lv_bipush (pc := 173) (v := 60) F.1 F.2.1 d_M_step_173 (by decide) ?_
                  refine lv_aload_n (pc := 175) F.1 F.2.1 d_M_step_175 rfl (lv_at hl 3 rfl) ?_
                  refine x_get (pc := 176) (v := .int so) F hw 0 15 (fun x h => List.mem_cons_of_mem _ (in_M x h)) rfl rfl (by decide) (List.mem_cons_of_mem _ m_538) rfl d_M_step_176 ?_
                  refine x_top (y := nI (tN so)) nso.1 ?_
                  refine lv_imul (pc := 179) F.1 F.2.1 d_M_step_179 ?_
                  refine x_top (y := nI (60 * tN so)) (x_mul2 rfl rfl) ?_
                  refine lv_iload_n (pc := 180) F.1 F.2.1 d_M_step_180 rfl (lv_at hl 0 rfl) ?_
                  refine lv_iadd (pc := 181) F.1 F.2.1 d_M_step_181 ?_
                  refine x_top (y := nI (60 * tN so + i)) (x_add2 rfl rfl) ?_
                  refine x_iald (pc := 182) F hw 3 0 (60 * tN so + i) rfl rfl rfl (by omega) (by decide) d_M_step_182 ?_
                  refine x_iast (pc := 183) (ws' := MW ad cT im me ro up ho di os ob od on pg tm ts tr kiv15 mov16 pov17 srv18 (upd (va_cpy ro ld (60 * tN so) (60 * tN pn) i) (60 * tN pn + i) (ro (60 * tN so + i))) true ow nu go la so se sl (sp + 1) tp rd pnv19) F hw 19 0 (60 * tN pn + i) rfl rfl rfl (by omega) (by decide) d_M_step_183 rfl (fun H locs hw => ?_)
                  refine lv_iinc (pc := 184) (k := 0) (v := nI (i + 1)) (lv' := [(3, .int (nI (i + 1))), (2, .int (nI (tN pn))), (1, .int r5), (0, .ref (ad 0))]) F.1 F.2.1 d_M_step_184 hl rfl (x_add2 rfl rfl) (by decide) rfl (fun ls hl => ?_)
                  refine lv_goto (pc := 187) (tgt := 153) F.1 F.2.1 d_M_step_187 rfl ?_
                  have ec23 : upd (va_cpy ro ld (60 * tN so) (60 * tN pn) i) (60 * tN pn + i) (ro (60 * tN so + i)) = va_cpy ro ld (60 * tN so) (60 * tN pn) (i + 1) := cpy_s2 (by omega) (congrArg ro (by omega))
                  rw [ec23] at hw
                  exact ih21 _ (by omega) (i + 1) _ _ _ rfl (by omega) hl hw
              have hw := hw
              exact loop21 _ 0 _ _ _ rfl (by omega) hl (by rw [cpy_0]; exact hw)
            · refine lv_aload_n (pc := 132) F.1 F.2.1 d_M_step_132 rfl (lv_at hl 1 rfl) ?_
              refine lv_iconst (pc := 133) (v := 1) F.1 F.2.1 d_M_step_133 (by decide) ?_
              refine x_put (pc := 134) (v := .int (bI true)) (ty := .boolean) (ws' := MW ad cT im me ro up ho di os ob od on pg tm ts tr ki mo po sr ld true ow nu go la so se sl (sp + 1) tp rd pn) F hw 0 5 (fun x h => List.mem_cons_of_mem _ (in_M x h)) ty_M tyok_M nm_M rfl rfl (by decide) (List.mem_cons_of_mem _ m_528) rfl (by decide +kernel) (bI_nar true) (bI_fit true) (Nat.le_of_ble_eq_true rfl) d_M_step_134 rfl (fun H locs hw => ?_)
              refine lv_iconst (pc := 137) (v := 4) F.1 F.2.1 d_M_step_137 (by decide) ?_
              refine W.widen (k := 0) (n := 0) (by decide) (by decide) ?_
              exact ret 4 (pg, ki, mo, po, sr, ld, true, se, sl, sp + 1, pn) _ _ 138 _ (by unfold F_M_step <;> rw [if_pos h1] <;> rw [if_pos h2] <;> rw [if_pos h3] <;> rw [e4] <;> (try dsimp only) <;> rw [if_pos h7] <;> rw [if_pos h11] <;> rw [if_neg h12] <;> rfl) hw d_M_step_138
          · refine lv_iconst (pc := 86) (v := 0) F.1 F.2.1 d_M_step_86 (by decide) ?_
            refine lv_istore_n (pc := 87) (lv' := [(2, .int 0), (1, .int r5), (0, .ref (ad 0))]) F.1 F.2.1 d_M_step_87 rfl hl (by decide) rfl (fun ls hl => ?_)
            have loop24 : ∀ (kf : Nat) (i : Nat) (ls : Array Slot) (H : Heap) (locs : List Loc), 8 - i = kf → (i ≤ 8) → lv_has ls 4 [(2, .int (nI i)), (1, .int r5), (0, .ref (ad 0))] → Hw D vwCl (TYS cT) A s (MW ad cT im me ro up ho di os ob od on (va_cpy (again pg) pg 0 0 i) tm ts tr ki mo po sr ld true ow nu go la so se sl (sp + 1) tp rd pn) H locs → W p l e { frames := 2, cells := 0, slots := 0, locals := 48 } s m args below meth c H locs 0 0 Q (F0 m 88 ls []) := by
              intro kf
              induction kf using Nat.strongRecOn with
              | _ kf ih24 =>
              intro i ls H locs hk hi hl hw
              refine lv_iload_n (pc := 88) F.1 F.2.1 d_M_step_88 rfl (lv_at hl 0 rfl) ?_
              refine lv_bipush (pc := 89) (v := 8) F.1 F.2.1 d_M_step_89 (by decide) ?_
              refine lv_icmp_ge (pc := 91) (tgt := 123) F.1 F.2.1 d_M_step_91 rfl (fun h25 => ?_) (fun h25 => ?_)
              · have h25 := (nI_leI (a := 8) (b := i) (by omega) (by omega)).mp h25
                obtain rfl : i = 8 := by omega
                refine lv_iconst (pc := 123) (v := 3) F.1 F.2.1 d_M_step_123 (by decide) ?_
                refine W.widen (k := 0) (n := 0) (by decide) (by decide) ?_
                exact ret 3 (va_cpy (again pg) pg 0 0 8, ki, mo, po, sr, ld, true, se, sl, sp + 1, pn) _ _ 124 _ (by unfold F_M_step <;> rw [if_pos h1] <;> rw [if_pos h2] <;> rw [if_pos h3] <;> rw [e4] <;> (try dsimp only) <;> rw [if_pos h7] <;> rw [if_neg h11] <;> rfl) hw d_M_step_124
              · have h25 : ¬ 8 ≤ i := fun z9 => h25 ((nI_leI (a := 8) (b := i) (by omega) (by omega)).mpr z9)
                refine lv_aload_n (pc := 94) F.1 F.2.1 d_M_step_94 rfl (lv_at hl 2 rfl) ?_
                refine x_get (pc := 95) (v := .ref (ad 11)) F hw 0 16 (fun x h => List.mem_cons_of_mem _ (in_M x h)) rfl rfl (by decide) (List.mem_cons_of_mem _ m_539) rfl d_M_step_95 ?_
                refine lv_iload_n (pc := 98) F.1 F.2.1 d_M_step_98 rfl (lv_at hl 0 rfl) ?_
                refine lv_aload_n (pc := 99) F.1 F.2.1 d_M_step_99 rfl (lv_at hl 2 rfl) ?_
                refine x_get (pc := 100) (v := .ref (ad 11)) F hw 0 16 (fun x h => List.mem_cons_of_mem _ (in_M x h)) rfl rfl (by decide) (List.mem_cons_of_mem _ m_539) rfl d_M_step_100 ?_
                refine lv_iload_n (pc := 103) F.1 F.2.1 d_M_step_103 rfl (lv_at hl 0 rfl) ?_
                refine x_iald (pc := 104) F hw 11 0 (i) rfl rfl rfl (by omega) (by decide) d_M_step_104 ?_
                refine x_top (y := pg i) (pk_cpy_out (by omega)) ?_
                refine lv_bipush (pc := 105) (v := (-2)) F.1 F.2.1 d_M_step_105 (by decide) ?_
                refine lv_icmp_ne (pc := 107) (tgt := 115) F.1 F.2.1 d_M_step_107 rfl (fun h26 => ?_) (fun h26 => ?_)
                · refine lv_iconst (pc := 115) (v := (-1)) F.1 F.2.1 d_M_step_115 (by decide) ?_
                  refine x_iast (pc := 116) (ws' := MW ad cT im me ro up ho di os ob od on (upd (va_cpy (again pg) pg 0 0 i) i (-1)) tm ts tr ki mo po sr ld true ow nu go la so se sl (sp + 1) tp rd pn) F hw 11 0 (i) rfl rfl rfl (by omega) (by decide) d_M_step_116 rfl (fun H locs hw => ?_)
                  refine lv_iinc (pc := 117) (k := 0) (v := nI (i + 1)) (lv' := [(2, .int (nI (i + 1))), (1, .int r5), (0, .ref (ad 0))]) F.1 F.2.1 d_M_step_117 hl rfl (x_add2 rfl rfl) (by decide) rfl (fun ls hl => ?_)
                  refine lv_goto (pc := 120) (tgt := 88) F.1 F.2.1 d_M_step_120 rfl ?_
                  have ec27 : upd (va_cpy (again pg) pg 0 0 i) i (-1) = va_cpy (again pg) pg 0 0 (i + 1) := cpy_s2 (by omega) (by simp only [again, Nat.zero_add, if_neg h26])
                  rw [ec27] at hw
                  exact ih24 _ (by omega) (i + 1) _ _ _ rfl (by omega) hl hw
                · refine lv_bipush (pc := 110) (v := (-2)) F.1 F.2.1 d_M_step_110 (by decide) ?_
                  refine lv_goto (pc := 112) (tgt := 116) F.1 F.2.1 d_M_step_112 rfl ?_
                  refine x_iast (pc := 116) (ws' := MW ad cT im me ro up ho di os ob od on (upd (va_cpy (again pg) pg 0 0 i) i (-2)) tm ts tr ki mo po sr ld true ow nu go la so se sl (sp + 1) tp rd pn) F hw 11 0 (i) rfl rfl rfl (by omega) (by decide) d_M_step_116 rfl (fun H locs hw => ?_)
                  refine lv_iinc (pc := 117) (k := 0) (v := nI (i + 1)) (lv' := [(2, .int (nI (i + 1))), (1, .int r5), (0, .ref (ad 0))]) F.1 F.2.1 d_M_step_117 hl rfl (x_add2 rfl rfl) (by decide) rfl (fun ls hl => ?_)
                  refine lv_goto (pc := 120) (tgt := 88) F.1 F.2.1 d_M_step_120 rfl ?_
                  have ec28 : upd (va_cpy (again pg) pg 0 0 i) i (-2) = va_cpy (again pg) pg 0 0 (i + 1) := cpy_s2 (by omega) (by simp only [again, Nat.zero_add, if_pos h26])
                  rw [ec28] at hw
                  exact ih24 _ (by omega) (i + 1) _ _ _ rfl (by omega) hl hw
            have hw := hw
            exact loop24 _ 0 _ _ _ rfl (by omega) hl (by rw [cpy_0]; exact hw)
        · have nd := due_nat e4 h7
          have ndb := nd.2
          refine lv_aload_n (pc := 72) F.1 F.2.1 d_M_step_72 rfl (lv_at hl 1 rfl) ?_
          refine lv_iload_n (pc := 73) F.1 F.2.1 d_M_step_73 rfl (lv_at hl 0 rfl) ?_
          refine x_top (y := nI (tN r5)) nd.1 ?_
          refine x_callv (pc := 74) (wr := []) hw [0, 1, 2, 3, 4, 5, 6, 7, 8, 9, 10, 11, 12, 13, 14, 15, 16, 17, 18, 19] [] rfl rfl (by decide) (by decide) (va_runV (As := [.int (nI (tN r5))]) (rest := []) F (c_M_sendPage l D cT ad im me ro up ho di os ob od on pg tm ts tr ki mo po sr ld true ow nu go la so se sl (sp + 1) tp rd pn (tN r5) (by omega) ⟨nso.1, by omega⟩ ⟨n0.1, by omega⟩ _) (x_cw (C := "MovingGuestModel") 1 F (g_all y_M_sendPage b_M_sendPage 4 none (List.mem_cons_of_mem _ m_675)) rfl rfl rfl (F.2.2.2.2 _ (List.mem_cons_of_mem _ m_40)) (F.2.2.2.2 _ (List.mem_cons_of_mem _ m_673)) (F.2.2.2.2 _ (List.mem_cons_of_mem _ m_674)) (F.2.2.2.2 _ (List.mem_cons_of_mem _ m_24)) (by decide +kernel) ⟨by decide, by decide⟩) (hw.preV (q0 := 0) [0, 1, 2, 3, 4, 5, 6, 7, 8, 9, 10, 11, 12, 13, 14, 15, 16, 17, 18, 19] (by decide) rfl rfl rfl) rfl rfl hl.1 rfl (lv_room (Nat.le_of_ble_eq_true rfl)) d_M_step_74 ⟨by decide, by decide⟩) (fun u39 H locs e29 hw => ?_)
          obtain ⟨pgv30, kiv31, mov32, pov33, srv34, ldv35, sev36, slv37, pnv38⟩ := u39
          have hw : Hw D vwCl (TYS cT) A s (MW ad cT im me ro up ho di os ob od on pgv30 tm ts tr kiv31 mov32 pov33 srv34 ldv35 true ow nu go la so sev36 slv37 (sp + 1) tp rd pnv38) H locs := hw
          refine lv_iconst (pc := 77) (v := 1) F.1 F.2.1 d_M_step_77 (by decide) ?_
          refine W.widen (k := 0) (n := 0) (by decide) (by decide) ?_
          exact ret 1 (pgv30, kiv31, mov32, pov33, srv34, ldv35, true, sev36, slv37, sp + 1, pnv38) _ _ 78 _ (by unfold F_M_step <;> rw [if_pos h1] <;> rw [if_pos h2] <;> rw [if_pos h3] <;> rw [e4] <;> (try dsimp only) <;> rw [if_neg h7] <;> rw [e29] <;> (try dsimp only) <;> rfl) hw d_M_step_78
      · refine lv_aload_n (pc := 31) F.1 F.2.1 d_M_step_31 rfl (lv_at hl 0 rfl) ?_
        refine x_get (pc := 32) (v := .int sp) F hw 0 19 (fun x h => List.mem_cons_of_mem _ (in_M x h)) rfl rfl (by decide) (List.mem_cons_of_mem _ m_542) rfl d_M_step_32 ?_
        refine lv_bipush (pc := 35) (v := 8) F.1 F.2.1 d_M_step_35 (by decide) ?_
        refine lv_icmp_lt (pc := 37) (tgt := 53) F.1 F.2.1 d_M_step_37 rfl (fun h40 => ?_) (fun h40 => ?_)
        · refine lv_aload_n (pc := 53) F.1 F.2.1 d_M_step_53 rfl (lv_at hl 0 rfl) ?_
          refine lv_dup (pc := 54) F.1 F.2.1 d_M_step_54 rfl ?_
          refine x_get (pc := 55) (v := .int sp) F hw 0 19 (fun x h => List.mem_cons_of_mem _ (in_M x h)) rfl rfl (by decide) (List.mem_cons_of_mem _ m_542) rfl d_M_step_55 ?_
          refine lv_iconst (pc := 58) (v := 1) F.1 F.2.1 d_M_step_58 (by decide) ?_
          refine lv_iadd (pc := 59) F.1 F.2.1 d_M_step_59 ?_
          refine x_put (pc := 60) (v := .int (sp + 1)) (ty := .int) (ws' := MW ad cT im me ro up ho di os ob od on pg tm ts tr ki mo po sr ld st ow nu go la so se sl (sp + 1) tp rd pn) F hw 0 19 (fun x h => List.mem_cons_of_mem _ (in_M x h)) ty_M tyok_M nm_M rfl rfl (by decide) (List.mem_cons_of_mem _ m_542) rfl (by decide +kernel) rfl rfl (Nat.le_of_ble_eq_true rfl) d_M_step_60 rfl (fun H locs hw => ?_)
          refine lv_aload_n (pc := 63) F.1 F.2.1 d_M_step_63 rfl (lv_at hl 0 rfl) ?_
          refine x_calli (pc := 64) (wr := []) hw [0, 1, 2, 3, 4, 5, 6, 7, 8, 9, 10, 11, 12, 13, 14, 15, 16, 17, 18, 19] [] rfl rfl (by decide) (by decide) (va_runV (As := []) (rest := []) F (c_M_due l D cT ad im me ro up ho di os ob od on pg tm ts tr ki mo po sr ld st ow nu go la so se sl (sp + 1) tp rd pn ⟨nsl.1, by omega⟩ _) (x_cw (C := "MovingGuestModel") 0 F (g_all y_M_due b_M_due 2 (some .int) (List.mem_cons_of_mem _ m_672)) rfl rfl rfl (F.2.2.2.2 _ (List.mem_cons_of_mem _ m_40)) (F.2.2.2.2 _ (List.mem_cons_of_mem _ m_670)) (F.2.2.2.2 _ (List.mem_cons_of_mem _ m_671)) (F.2.2.2.2 _ (List.mem_cons_of_mem _ m_23)) (by decide +kernel) ⟨by decide, by decide⟩) (hw.preV (q0 := 0) [0, 1, 2, 3, 4, 5, 6, 7, 8, 9, 10, 11, 12, 13, 14, 15, 16, 17, 18, 19] (by decide) rfl rfl rfl) rfl rfl hl.1 rfl (lv_room (Nat.le_of_ble_eq_true rfl)) d_M_step_64 ⟨by decide, by decide⟩) (fun r42 u43 H locs e41 hw => ?_)
          refine lv_istore_n (pc := 67) (lv' := [(1, .int r42), (0, .ref (ad 0))]) F.1 F.2.1 d_M_step_67 rfl hl (by decide) rfl (fun ls hl => ?_)
          refine lv_iload_n (pc := 68) F.1 F.2.1 d_M_step_68 rfl (lv_at hl 0 rfl) ?_
          refine lv_if_lt (pc := 69) (tgt := 79) F.1 F.2.1 d_M_step_69 rfl (fun h44 => ?_) (fun h44 => ?_)
          · refine lv_aload_n (pc := 79) F.1 F.2.1 d_M_step_79 rfl (lv_at hl 1 rfl) ?_
            refine x_calli (pc := 80) (wr := []) hw [0, 1, 2, 3, 4, 5, 6, 7, 8, 9, 10, 11, 12, 13, 14, 15, 16, 17, 18, 19] [] rfl rfl (by decide) (by decide) (va_runV (As := []) (rest := []) F (c_M_unknown l D cT ad im me ro up ho di os ob od on pg tm ts tr ki mo po sr ld st ow nu go la so se sl (sp + 1) tp rd pn  _) (x_cw (C := "MovingGuestModel") 0 F (g_all y_M_unknown b_M_unknown 3 (some .int) (List.mem_cons_of_mem _ m_669)) rfl rfl rfl (F.2.2.2.2 _ (List.mem_cons_of_mem _ m_40)) (F.2.2.2.2 _ (List.mem_cons_of_mem _ m_667)) (F.2.2.2.2 _ (List.mem_cons_of_mem _ m_668)) (F.2.2.2.2 _ (List.mem_cons_of_mem _ m_22)) (by decide +kernel) ⟨by decide, by decide⟩) (hw.preV (q0 := 0) [0, 1, 2, 3, 4, 5, 6, 7, 8, 9, 10, 11, 12, 13, 14, 15, 16, 17, 18, 19] (by decide) rfl rfl rfl) rfl rfl hl.1 rfl (lv_room (Nat.le_of_ble_eq_true rfl)) d_M_step_80 ⟨by decide, by decide⟩) (fun r46 u47 H locs e45 hw => ?_)
            cases (show (nI (cnt pg 8), ()) = (r46, u47) from e45)
            refine lv_if_le (pc := 83) (tgt := 125) F.1 F.2.1 d_M_step_83 rfl (fun h48 => ?_) (fun h48 => ?_)
            · refine lv_aload_n (pc := 125) F.1 F.2.1 d_M_step_125 rfl (lv_at hl 1 rfl) ?_
              refine x_get (pc := 126) (v := .int (bI st)) F hw 0 5 (fun x h => List.mem_cons_of_mem _ (in_M x h)) rfl rfl (by decide) (List.mem_cons_of_mem _ m_528) rfl d_M_step_126 ?_
              refine x_ifneB (pc := 129) (tgt := 139) F d_M_step_129 rfl (fun h49 => ?_) (fun h49 => ?_)
              · refine lv_aload_n (pc := 139) F.1 F.2.1 d_M_step_139 rfl (lv_at hl 1 rfl) ?_
                refine lv_iconst (pc := 140) (v := 2) F.1 F.2.1 d_M_step_140 (by decide) ?_
                refine lv_aload_n (pc := 141) F.1 F.2.1 d_M_step_141 rfl (lv_at hl 1 rfl) ?_
                refine x_get (pc := 142) (v := .int la) F hw 0 14 (fun x h => List.mem_cons_of_mem _ (in_M x h)) rfl rfl (by decide) (List.mem_cons_of_mem _ m_537) rfl d_M_step_142 ?_
                refine lv_iconst (pc := 145) (v := 0) F.1 F.2.1 d_M_step_145 (by decide) ?_
                refine lv_iconst (pc := 146) (v := 0) F.1 F.2.1 d_M_step_146 (by decide) ?_
                refine x_calli (pc := 147) (wr := []) hw [0, 1, 2, 3, 4, 5, 6, 7, 8, 9, 10, 11, 12, 13, 14, 15, 16, 17, 18, 19] [] rfl rfl (by decide) (by decide) (va_runV (As := [.int 2, .int la, .int 0, .int 0]) (rest := []) F (c_M_come l D cT ad im me ro up ho di os ob od on pg tm ts tr ki mo po sr ld st ow nu go la so se sl (sp + 1) tp rd pn 2 la 0 0 ⟨n0.1, by omega⟩ _) (x_cw (C := "MovingGuestModel") 4 F (g_all y_M_come b_M_come 6 (some .int) (List.mem_cons_of_mem _ m_678)) rfl rfl rfl (F.2.2.2.2 _ (List.mem_cons_of_mem _ m_40)) (F.2.2.2.2 _ (List.mem_cons_of_mem _ m_676)) (F.2.2.2.2 _ (List.mem_cons_of_mem _ m_677)) (F.2.2.2.2 _ (List.mem_cons_of_mem _ m_25)) (by decide +kernel) ⟨by decide, by decide⟩) (hw.preV (q0 := 0) [0, 1, 2, 3, 4, 5, 6, 7, 8, 9, 10, 11, 12, 13, 14, 15, 16, 17, 18, 19] (by decide) rfl rfl rfl) rfl rfl hl.1 rfl (lv_room (Nat.le_of_ble_eq_true rfl)) d_M_step_147 ⟨by decide, by decide⟩) (fun r51 u57 H locs e50 hw => ?_)
                obtain ⟨kiv52, mov53, pov54, srv55, pnv56⟩ := u57
                have hw : Hw D vwCl (TYS cT) A s (MW ad cT im me ro up ho di os ob od on pg tm ts tr kiv52 mov53 pov54 srv55 ld st ow nu go la so se sl (sp + 1) tp rd pnv56) H locs := hw
                obtain rfl := come_r e50
                refine lv_istore_n (pc := 150) (lv' := [(2, .int (nI (tN pn))), (1, .int r42), (0, .ref (ad 0))]) F.1 F.2.1 d_M_step_150 rfl hl (by decide) rfl (fun ls hl => ?_)
                refine lv_iconst (pc := 151) (v := 0) F.1 F.2.1 d_M_step_151 (by decide) ?_
                refine lv_istore_n (pc := 152) (lv' := [(3, .int 0), (2, .int (nI (tN pn))), (1, .int r42), (0, .ref (ad 0))]) F.1 F.2.1 d_M_step_152 rfl hl (by decide) rfl (fun ls hl => ?_)
                have loop58 : ∀ (kf : Nat) (i : Nat) (ls : Array Slot) (H : Heap) (locs : List Loc), 60 - i = kf → (i ≤ 60) → lv_has ls 4 [(3, .int (nI i)), (2, .int (nI (tN pn))), (1, .int r42), (0, .ref (ad 0))] → Hw D vwCl (TYS cT) A s (MW ad cT im me ro up ho di os ob od on pg tm ts tr kiv52 mov53 pov54 srv55 (va_cpy ro ld (60 * tN so) (60 * tN pn) i) st ow nu go la so se sl (sp + 1) tp rd pnv56) H locs → W p l e { frames := 2, cells := 0, slots := 0, locals := 48 } s m args below meth c H locs 0 0 Q (F0 m 153 ls []) := by
                  intro kf
                  induction kf using Nat.strongRecOn with
                  | _ kf ih58 =>
                  intro i ls H locs hk hi hl hw
                  refine lv_iload_n (pc := 153) F.1 F.2.1 d_M_step_153 rfl (lv_at hl 0 rfl) ?_
                  refine lv_bipush (pc := 154) (v := 60) F.1 F.2.1 d_M_step_154 (by decide) ?_
                  refine lv_icmp_ge (pc := 156) (tgt := 190) F.1 F.2.1 d_M_step_156 rfl (fun h59 => ?_) (fun h59 => ?_)
                  · have h59 := (nI_leI (a := 60) (b := i) (by omega) (by omega)).mp h59
                    obtain rfl : i = 60 := by omega
                    refine lv_iconst (pc := 190) (v := 2) F.1 F.2.1 d_M_step_190 (by decide) ?_
                    refine W.widen (k := 0) (n := 0) (by decide) (by decide) ?_
                    exact ret 2 (pg, kiv52, mov53, pov54, srv55, va_cpy ro ld (60 * tN so) (60 * tN pn) 60, st, se, sl, sp + 1, pnv56) _ _ 191 _ (by unfold F_M_step <;> rw [if_pos h1] <;> rw [if_pos h2] <;> rw [if_neg h3] <;> rw [if_pos h40] <;> rw [e41] <;> (try dsimp only) <;> rw [if_pos h44] <;> rw [if_pos h48] <;> rw [if_pos h49] <;> rw [e50] <;> (try dsimp only) <;> rfl) hw d_M_step_191
                  · have h59 : ¬ 60 ≤ i := fun z9 => h59 ((nI_leI (a := 60) (b := i) (by omega) (by omega)).mpr z9)
                    refine lv_aload_n (pc := 159) F.1 F.2.1 d_M_step_159 rfl (lv_at hl 3 rfl) ?_
                    refine x_get (pc := 160) (v := .ref (ad 19)) F hw 0 30 (fun x h => List.mem_cons_of_mem _ (in_M x h)) rfl rfl (by decide) (List.mem_cons_of_mem _ m_553) rfl d_M_step_160 ?_
                    refine lv_bipush (pc := 163) (v := 60) F.1 F.2.1 d_M_step_163 (by decide) ?_
                    refine lv_iload_n (pc := 165) F.1 F.2.1 d_M_step_165 rfl (lv_at hl 1 rfl) ?_
                    refine lv_imul (pc := 166) F.1 F.2.1 d_M_step_166 ?_
                    refine x_top (y := nI (60 * tN pn)) (x_mul2 rfl rfl) ?_
                    refine lv_iload_n (pc := 167) F.1 F.2.1 d_M_step_167 rfl (lv_at hl 0 rfl) ?_
                    refine lv_iadd (pc := 168) F.1 F.2.1 d_M_step_168 ?_
                    refine x_top (y := nI (60 * tN pn + i)) (x_add2 rfl rfl) ?_
                    refine lv_aload_n (pc := 169) F.1 F.2.1 d_M_step_169 rfl (lv_at hl 3 rfl) ?_
                    refine x_get (pc := 170) (v := .ref (ad 3)) F hw 0 2 (fun x h => List.mem_cons_of_mem _ (in_M x h)) rfl rfl (by decide) (List.mem_cons_of_mem _ m_525) rfl d_M_step_170 ?_
                    refine lv_bipush (pc := 173) (v := 60) F.1 F.2.1 d_M_step_173 (by decide) ?_
                    refine lv_aload_n (pc := 175) F.1 F.2.1 d_M_step_175 rfl (lv_at hl 3 rfl) ?_
                    refine x_get (pc := 176) (v := .int so) F hw 0 15 (fun x h => List.mem_cons_of_mem _ (in_M x h)) rfl rfl (by decide) (List.mem_cons_of_mem _ m_538) rfl d_M_step_176 ?_
                    refine x_top (y := nI (tN so)) nso.1 ?_
                    refine lv_imul (pc := 179) F.1 F.2.1 d_M_step_179 ?_
                    refine x_top (y := nI (60 * tN so)) (x_mul2 rfl rfl) ?_
                    refine lv_iload_n (pc := 180) F.1 F.2.1 d_M_step_180 rfl (lv_at hl 0 rfl) ?_
                    refine lv_iadd (pc := 181) F.1 F.2.1 d_M_step_181 ?_
                    refine x_top (y := nI (60 * tN so + i)) (x_add2 rfl rfl) ?_
                    refine x_iald (pc := 182) F hw 3 0 (60 * tN so + i) rfl rfl rfl (by omega) (by decide) d_M_step_182 ?_
                    refine x_iast (pc := 183) (ws' := MW ad cT im me ro up ho di os ob od on pg tm ts tr kiv52 mov53 pov54 srv55 (upd (va_cpy ro ld (60 * tN so) (60 * tN pn) i) (60 * tN pn + i) (ro (60 * tN so + i))) st ow nu go la so se sl (sp + 1) tp rd pnv56) F hw 19 0 (60 * tN pn + i) rfl rfl rfl (by omega) (by decide) d_M_step_183 rfl (fun H locs hw => ?_)
                    refine lv_iinc (pc := 184) (k := 0) (v := nI (i + 1)) (lv' := [(3, .int (nI (i + 1))), (2, .int (nI (tN pn))), (1, .int r42), (0, .ref (ad 0))]) F.1 F.2.1 d_M_step_184 hl rfl (x_add2 rfl rfl) (by decide) rfl (fun ls hl => ?_)
                    refine lv_goto (pc := 187) (tgt := 153) F.1 F.2.1 d_M_step_187 rfl ?_
                    have ec60 : upd (va_cpy ro ld (60 * tN so) (60 * tN pn) i) (60 * tN pn + i) (ro (60 * tN so + i)) = va_cpy ro ld (60 * tN so) (60 * tN pn) (i + 1) := cpy_s2 (by omega) (congrArg ro (by omega))
                    rw [ec60] at hw
                    exact ih58 _ (by omega) (i + 1) _ _ _ rfl (by omega) hl hw
                have hw := hw
                exact loop58 _ 0 _ _ _ rfl (by omega) hl (by rw [cpy_0]; exact hw)
              · refine lv_aload_n (pc := 132) F.1 F.2.1 d_M_step_132 rfl (lv_at hl 1 rfl) ?_
                refine lv_iconst (pc := 133) (v := 1) F.1 F.2.1 d_M_step_133 (by decide) ?_
                refine x_put (pc := 134) (v := .int (bI true)) (ty := .boolean) (ws' := MW ad cT im me ro up ho di os ob od on pg tm ts tr ki mo po sr ld true ow nu go la so se sl (sp + 1) tp rd pn) F hw 0 5 (fun x h => List.mem_cons_of_mem _ (in_M x h)) ty_M tyok_M nm_M rfl rfl (by decide) (List.mem_cons_of_mem _ m_528) rfl (by decide +kernel) (bI_nar true) (bI_fit true) (Nat.le_of_ble_eq_true rfl) d_M_step_134 rfl (fun H locs hw => ?_)
                refine lv_iconst (pc := 137) (v := 4) F.1 F.2.1 d_M_step_137 (by decide) ?_
                refine W.widen (k := 0) (n := 0) (by decide) (by decide) ?_
                exact ret 4 (pg, ki, mo, po, sr, ld, true, se, sl, sp + 1, pn) _ _ 138 _ (by unfold F_M_step <;> rw [if_pos h1] <;> rw [if_pos h2] <;> rw [if_neg h3] <;> rw [if_pos h40] <;> rw [e41] <;> (try dsimp only) <;> rw [if_pos h44] <;> rw [if_pos h48] <;> rw [if_neg h49] <;> rfl) hw d_M_step_138
            · refine lv_iconst (pc := 86) (v := 0) F.1 F.2.1 d_M_step_86 (by decide) ?_
              refine lv_istore_n (pc := 87) (lv' := [(2, .int 0), (1, .int r42), (0, .ref (ad 0))]) F.1 F.2.1 d_M_step_87 rfl hl (by decide) rfl (fun ls hl => ?_)
              have loop61 : ∀ (kf : Nat) (i : Nat) (ls : Array Slot) (H : Heap) (locs : List Loc), 8 - i = kf → (i ≤ 8) → lv_has ls 4 [(2, .int (nI i)), (1, .int r42), (0, .ref (ad 0))] → Hw D vwCl (TYS cT) A s (MW ad cT im me ro up ho di os ob od on (va_cpy (again pg) pg 0 0 i) tm ts tr ki mo po sr ld st ow nu go la so se sl (sp + 1) tp rd pn) H locs → W p l e { frames := 2, cells := 0, slots := 0, locals := 48 } s m args below meth c H locs 0 0 Q (F0 m 88 ls []) := by
                intro kf
                induction kf using Nat.strongRecOn with
                | _ kf ih61 =>
                intro i ls H locs hk hi hl hw
                refine lv_iload_n (pc := 88) F.1 F.2.1 d_M_step_88 rfl (lv_at hl 0 rfl) ?_
                refine lv_bipush (pc := 89) (v := 8) F.1 F.2.1 d_M_step_89 (by decide) ?_
                refine lv_icmp_ge (pc := 91) (tgt := 123) F.1 F.2.1 d_M_step_91 rfl (fun h62 => ?_) (fun h62 => ?_)
                · have h62 := (nI_leI (a := 8) (b := i) (by omega) (by omega)).mp h62
                  obtain rfl : i = 8 := by omega
                  refine lv_iconst (pc := 123) (v := 3) F.1 F.2.1 d_M_step_123 (by decide) ?_
                  refine W.widen (k := 0) (n := 0) (by decide) (by decide) ?_
                  exact ret 3 (va_cpy (again pg) pg 0 0 8, ki, mo, po, sr, ld, st, se, sl, sp + 1, pn) _ _ 124 _ (by unfold F_M_step <;> rw [if_pos h1] <;> rw [if_pos h2] <;> rw [if_neg h3] <;> rw [if_pos h40] <;> rw [e41] <;> (try dsimp only) <;> rw [if_pos h44] <;> rw [if_neg h48] <;> rfl) hw d_M_step_124
                · have h62 : ¬ 8 ≤ i := fun z9 => h62 ((nI_leI (a := 8) (b := i) (by omega) (by omega)).mpr z9)
                  refine lv_aload_n (pc := 94) F.1 F.2.1 d_M_step_94 rfl (lv_at hl 2 rfl) ?_
                  refine x_get (pc := 95) (v := .ref (ad 11)) F hw 0 16 (fun x h => List.mem_cons_of_mem _ (in_M x h)) rfl rfl (by decide) (List.mem_cons_of_mem _ m_539) rfl d_M_step_95 ?_
                  refine lv_iload_n (pc := 98) F.1 F.2.1 d_M_step_98 rfl (lv_at hl 0 rfl) ?_
                  refine lv_aload_n (pc := 99) F.1 F.2.1 d_M_step_99 rfl (lv_at hl 2 rfl) ?_
                  refine x_get (pc := 100) (v := .ref (ad 11)) F hw 0 16 (fun x h => List.mem_cons_of_mem _ (in_M x h)) rfl rfl (by decide) (List.mem_cons_of_mem _ m_539) rfl d_M_step_100 ?_
                  refine lv_iload_n (pc := 103) F.1 F.2.1 d_M_step_103 rfl (lv_at hl 0 rfl) ?_
                  refine x_iald (pc := 104) F hw 11 0 (i) rfl rfl rfl (by omega) (by decide) d_M_step_104 ?_
                  refine x_top (y := pg i) (pk_cpy_out (by omega)) ?_
                  refine lv_bipush (pc := 105) (v := (-2)) F.1 F.2.1 d_M_step_105 (by decide) ?_
                  refine lv_icmp_ne (pc := 107) (tgt := 115) F.1 F.2.1 d_M_step_107 rfl (fun h63 => ?_) (fun h63 => ?_)
                  · refine lv_iconst (pc := 115) (v := (-1)) F.1 F.2.1 d_M_step_115 (by decide) ?_
                    refine x_iast (pc := 116) (ws' := MW ad cT im me ro up ho di os ob od on (upd (va_cpy (again pg) pg 0 0 i) i (-1)) tm ts tr ki mo po sr ld st ow nu go la so se sl (sp + 1) tp rd pn) F hw 11 0 (i) rfl rfl rfl (by omega) (by decide) d_M_step_116 rfl (fun H locs hw => ?_)
                    refine lv_iinc (pc := 117) (k := 0) (v := nI (i + 1)) (lv' := [(2, .int (nI (i + 1))), (1, .int r42), (0, .ref (ad 0))]) F.1 F.2.1 d_M_step_117 hl rfl (x_add2 rfl rfl) (by decide) rfl (fun ls hl => ?_)
                    refine lv_goto (pc := 120) (tgt := 88) F.1 F.2.1 d_M_step_120 rfl ?_
                    have ec64 : upd (va_cpy (again pg) pg 0 0 i) i (-1) = va_cpy (again pg) pg 0 0 (i + 1) := cpy_s2 (by omega) (by simp only [again, Nat.zero_add, if_neg h63])
                    rw [ec64] at hw
                    exact ih61 _ (by omega) (i + 1) _ _ _ rfl (by omega) hl hw
                  · refine lv_bipush (pc := 110) (v := (-2)) F.1 F.2.1 d_M_step_110 (by decide) ?_
                    refine lv_goto (pc := 112) (tgt := 116) F.1 F.2.1 d_M_step_112 rfl ?_
                    refine x_iast (pc := 116) (ws' := MW ad cT im me ro up ho di os ob od on (upd (va_cpy (again pg) pg 0 0 i) i (-2)) tm ts tr ki mo po sr ld st ow nu go la so se sl (sp + 1) tp rd pn) F hw 11 0 (i) rfl rfl rfl (by omega) (by decide) d_M_step_116 rfl (fun H locs hw => ?_)
                    refine lv_iinc (pc := 117) (k := 0) (v := nI (i + 1)) (lv' := [(2, .int (nI (i + 1))), (1, .int r42), (0, .ref (ad 0))]) F.1 F.2.1 d_M_step_117 hl rfl (x_add2 rfl rfl) (by decide) rfl (fun ls hl => ?_)
                    refine lv_goto (pc := 120) (tgt := 88) F.1 F.2.1 d_M_step_120 rfl ?_
                    have ec65 : upd (va_cpy (again pg) pg 0 0 i) i (-2) = va_cpy (again pg) pg 0 0 (i + 1) := cpy_s2 (by omega) (by simp only [again, Nat.zero_add, if_pos h63])
                    rw [ec65] at hw
                    exact ih61 _ (by omega) (i + 1) _ _ _ rfl (by omega) hl hw
              have hw := hw
              exact loop61 _ 0 _ _ _ rfl (by omega) hl (by rw [cpy_0]; exact hw)
          · have nd := due_nat e41 h44
            have ndb := nd.2
            refine lv_aload_n (pc := 72) F.1 F.2.1 d_M_step_72 rfl (lv_at hl 1 rfl) ?_
            refine lv_iload_n (pc := 73) F.1 F.2.1 d_M_step_73 rfl (lv_at hl 0 rfl) ?_
            refine x_top (y := nI (tN r42)) nd.1 ?_
            refine x_callv (pc := 74) (wr := []) hw [0, 1, 2, 3, 4, 5, 6, 7, 8, 9, 10, 11, 12, 13, 14, 15, 16, 17, 18, 19] [] rfl rfl (by decide) (by decide) (va_runV (As := [.int (nI (tN r42))]) (rest := []) F (c_M_sendPage l D cT ad im me ro up ho di os ob od on pg tm ts tr ki mo po sr ld st ow nu go la so se sl (sp + 1) tp rd pn (tN r42) (by omega) ⟨nso.1, by omega⟩ ⟨n0.1, by omega⟩ _) (x_cw (C := "MovingGuestModel") 1 F (g_all y_M_sendPage b_M_sendPage 4 none (List.mem_cons_of_mem _ m_675)) rfl rfl rfl (F.2.2.2.2 _ (List.mem_cons_of_mem _ m_40)) (F.2.2.2.2 _ (List.mem_cons_of_mem _ m_673)) (F.2.2.2.2 _ (List.mem_cons_of_mem _ m_674)) (F.2.2.2.2 _ (List.mem_cons_of_mem _ m_24)) (by decide +kernel) ⟨by decide, by decide⟩) (hw.preV (q0 := 0) [0, 1, 2, 3, 4, 5, 6, 7, 8, 9, 10, 11, 12, 13, 14, 15, 16, 17, 18, 19] (by decide) rfl rfl rfl) rfl rfl hl.1 rfl (lv_room (Nat.le_of_ble_eq_true rfl)) d_M_step_74 ⟨by decide, by decide⟩) (fun u76 H locs e66 hw => ?_)
            obtain ⟨pgv67, kiv68, mov69, pov70, srv71, ldv72, sev73, slv74, pnv75⟩ := u76
            have hw : Hw D vwCl (TYS cT) A s (MW ad cT im me ro up ho di os ob od on pgv67 tm ts tr kiv68 mov69 pov70 srv71 ldv72 st ow nu go la so sev73 slv74 (sp + 1) tp rd pnv75) H locs := hw
            refine lv_iconst (pc := 77) (v := 1) F.1 F.2.1 d_M_step_77 (by decide) ?_
            refine W.widen (k := 0) (n := 0) (by decide) (by decide) ?_
            exact ret 1 (pgv67, kiv68, mov69, pov70, srv71, ldv72, st, sev73, slv74, sp + 1, pnv75) _ _ 78 _ (by unfold F_M_step <;> rw [if_pos h1] <;> rw [if_pos h2] <;> rw [if_neg h3] <;> rw [if_pos h40] <;> rw [e41] <;> (try dsimp only) <;> rw [if_neg h44] <;> rw [e66] <;> (try dsimp only) <;> rfl) hw d_M_step_78
        · refine lv_aload_n (pc := 40) F.1 F.2.1 d_M_step_40 rfl (lv_at hl 0 rfl) ?_
          refine x_calli (pc := 41) (wr := []) hw [0, 1, 2, 3, 4, 5, 6, 7, 8, 9, 10, 11, 12, 13, 14, 15, 16, 17, 18, 19] [] rfl rfl (by decide) (by decide) (va_runV (As := []) (rest := []) F (c_M_unknown l D cT ad im me ro up ho di os ob od on pg tm ts tr ki mo po sr ld st ow nu go la so se sl sp tp rd pn  _) (x_cw (C := "MovingGuestModel") 0 F (g_all y_M_unknown b_M_unknown 3 (some .int) (List.mem_cons_of_mem _ m_669)) rfl rfl rfl (F.2.2.2.2 _ (List.mem_cons_of_mem _ m_40)) (F.2.2.2.2 _ (List.mem_cons_of_mem _ m_667)) (F.2.2.2.2 _ (List.mem_cons_of_mem _ m_668)) (F.2.2.2.2 _ (List.mem_cons_of_mem _ m_22)) (by decide +kernel) ⟨by decide, by decide⟩) (hw.preV (q0 := 0) [0, 1, 2, 3, 4, 5, 6, 7, 8, 9, 10, 11, 12, 13, 14, 15, 16, 17, 18, 19] (by decide) rfl rfl rfl) rfl rfl hl.1 rfl (lv_room (Nat.le_of_ble_eq_true rfl)) d_M_step_41 ⟨by decide, by decide⟩) (fun r78 u79 H locs e77 hw => ?_)
          cases (show (nI (cnt pg 8), ()) = (r78, u79) from e77)
          refine lv_iconst (pc := 44) (v := 2) F.1 F.2.1 d_M_step_44 (by decide) ?_
          refine lv_icmp_gt (pc := 45) (tgt := 53) F.1 F.2.1 d_M_step_45 rfl (fun h80 => ?_) (fun h80 => ?_)
          · refine lv_aload_n (pc := 53) F.1 F.2.1 d_M_step_53 rfl (lv_at hl 0 rfl) ?_
            refine lv_dup (pc := 54) F.1 F.2.1 d_M_step_54 rfl ?_
            refine x_get (pc := 55) (v := .int sp) F hw 0 19 (fun x h => List.mem_cons_of_mem _ (in_M x h)) rfl rfl (by decide) (List.mem_cons_of_mem _ m_542) rfl d_M_step_55 ?_
            refine lv_iconst (pc := 58) (v := 1) F.1 F.2.1 d_M_step_58 (by decide) ?_
            refine lv_iadd (pc := 59) F.1 F.2.1 d_M_step_59 ?_
            refine x_put (pc := 60) (v := .int (sp + 1)) (ty := .int) (ws' := MW ad cT im me ro up ho di os ob od on pg tm ts tr ki mo po sr ld st ow nu go la so se sl (sp + 1) tp rd pn) F hw 0 19 (fun x h => List.mem_cons_of_mem _ (in_M x h)) ty_M tyok_M nm_M rfl rfl (by decide) (List.mem_cons_of_mem _ m_542) rfl (by decide +kernel) rfl rfl (Nat.le_of_ble_eq_true rfl) d_M_step_60 rfl (fun H locs hw => ?_)
            refine lv_aload_n (pc := 63) F.1 F.2.1 d_M_step_63 rfl (lv_at hl 0 rfl) ?_
            refine x_calli (pc := 64) (wr := []) hw [0, 1, 2, 3, 4, 5, 6, 7, 8, 9, 10, 11, 12, 13, 14, 15, 16, 17, 18, 19] [] rfl rfl (by decide) (by decide) (va_runV (As := []) (rest := []) F (c_M_due l D cT ad im me ro up ho di os ob od on pg tm ts tr ki mo po sr ld st ow nu go la so se sl (sp + 1) tp rd pn ⟨nsl.1, by omega⟩ _) (x_cw (C := "MovingGuestModel") 0 F (g_all y_M_due b_M_due 2 (some .int) (List.mem_cons_of_mem _ m_672)) rfl rfl rfl (F.2.2.2.2 _ (List.mem_cons_of_mem _ m_40)) (F.2.2.2.2 _ (List.mem_cons_of_mem _ m_670)) (F.2.2.2.2 _ (List.mem_cons_of_mem _ m_671)) (F.2.2.2.2 _ (List.mem_cons_of_mem _ m_23)) (by decide +kernel) ⟨by decide, by decide⟩) (hw.preV (q0 := 0) [0, 1, 2, 3, 4, 5, 6, 7, 8, 9, 10, 11, 12, 13, 14, 15, 16, 17, 18, 19] (by decide) rfl rfl rfl) rfl rfl hl.1 rfl (lv_room (Nat.le_of_ble_eq_true rfl)) d_M_step_64 ⟨by decide, by decide⟩) (fun r82 u83 H locs e81 hw => ?_)
            refine lv_istore_n (pc := 67) (lv' := [(1, .int r82), (0, .ref (ad 0))]) F.1 F.2.1 d_M_step_67 rfl hl (by decide) rfl (fun ls hl => ?_)
            refine lv_iload_n (pc := 68) F.1 F.2.1 d_M_step_68 rfl (lv_at hl 0 rfl) ?_
            refine lv_if_lt (pc := 69) (tgt := 79) F.1 F.2.1 d_M_step_69 rfl (fun h84 => ?_) (fun h84 => ?_)
            · refine lv_aload_n (pc := 79) F.1 F.2.1 d_M_step_79 rfl (lv_at hl 1 rfl) ?_
              refine x_calli (pc := 80) (wr := []) hw [0, 1, 2, 3, 4, 5, 6, 7, 8, 9, 10, 11, 12, 13, 14, 15, 16, 17, 18, 19] [] rfl rfl (by decide) (by decide) (va_runV (As := []) (rest := []) F (c_M_unknown l D cT ad im me ro up ho di os ob od on pg tm ts tr ki mo po sr ld st ow nu go la so se sl (sp + 1) tp rd pn  _) (x_cw (C := "MovingGuestModel") 0 F (g_all y_M_unknown b_M_unknown 3 (some .int) (List.mem_cons_of_mem _ m_669)) rfl rfl rfl (F.2.2.2.2 _ (List.mem_cons_of_mem _ m_40)) (F.2.2.2.2 _ (List.mem_cons_of_mem _ m_667)) (F.2.2.2.2 _ (List.mem_cons_of_mem _ m_668)) (F.2.2.2.2 _ (List.mem_cons_of_mem _ m_22)) (by decide +kernel) ⟨by decide, by decide⟩) (hw.preV (q0 := 0) [0, 1, 2, 3, 4, 5, 6, 7, 8, 9, 10, 11, 12, 13, 14, 15, 16, 17, 18, 19] (by decide) rfl rfl rfl) rfl rfl hl.1 rfl (lv_room (Nat.le_of_ble_eq_true rfl)) d_M_step_80 ⟨by decide, by decide⟩) (fun r86 u87 H locs e85 hw => ?_)
              cases (show (nI (cnt pg 8), ()) = (r86, u87) from e85)
              refine lv_if_le (pc := 83) (tgt := 125) F.1 F.2.1 d_M_step_83 rfl (fun h88 => ?_) (fun h88 => ?_)
              · refine lv_aload_n (pc := 125) F.1 F.2.1 d_M_step_125 rfl (lv_at hl 1 rfl) ?_
                refine x_get (pc := 126) (v := .int (bI st)) F hw 0 5 (fun x h => List.mem_cons_of_mem _ (in_M x h)) rfl rfl (by decide) (List.mem_cons_of_mem _ m_528) rfl d_M_step_126 ?_
                refine x_ifneB (pc := 129) (tgt := 139) F d_M_step_129 rfl (fun h89 => ?_) (fun h89 => ?_)
                · refine lv_aload_n (pc := 139) F.1 F.2.1 d_M_step_139 rfl (lv_at hl 1 rfl) ?_
                  refine lv_iconst (pc := 140) (v := 2) F.1 F.2.1 d_M_step_140 (by decide) ?_
                  refine lv_aload_n (pc := 141) F.1 F.2.1 d_M_step_141 rfl (lv_at hl 1 rfl) ?_
                  refine x_get (pc := 142) (v := .int la) F hw 0 14 (fun x h => List.mem_cons_of_mem _ (in_M x h)) rfl rfl (by decide) (List.mem_cons_of_mem _ m_537) rfl d_M_step_142 ?_
                  refine lv_iconst (pc := 145) (v := 0) F.1 F.2.1 d_M_step_145 (by decide) ?_
                  refine lv_iconst (pc := 146) (v := 0) F.1 F.2.1 d_M_step_146 (by decide) ?_
                  refine x_calli (pc := 147) (wr := []) hw [0, 1, 2, 3, 4, 5, 6, 7, 8, 9, 10, 11, 12, 13, 14, 15, 16, 17, 18, 19] [] rfl rfl (by decide) (by decide) (va_runV (As := [.int 2, .int la, .int 0, .int 0]) (rest := []) F (c_M_come l D cT ad im me ro up ho di os ob od on pg tm ts tr ki mo po sr ld st ow nu go la so se sl (sp + 1) tp rd pn 2 la 0 0 ⟨n0.1, by omega⟩ _) (x_cw (C := "MovingGuestModel") 4 F (g_all y_M_come b_M_come 6 (some .int) (List.mem_cons_of_mem _ m_678)) rfl rfl rfl (F.2.2.2.2 _ (List.mem_cons_of_mem _ m_40)) (F.2.2.2.2 _ (List.mem_cons_of_mem _ m_676)) (F.2.2.2.2 _ (List.mem_cons_of_mem _ m_677)) (F.2.2.2.2 _ (List.mem_cons_of_mem _ m_25)) (by decide +kernel) ⟨by decide, by decide⟩) (hw.preV (q0 := 0) [0, 1, 2, 3, 4, 5, 6, 7, 8, 9, 10, 11, 12, 13, 14, 15, 16, 17, 18, 19] (by decide) rfl rfl rfl) rfl rfl hl.1 rfl (lv_room (Nat.le_of_ble_eq_true rfl)) d_M_step_147 ⟨by decide, by decide⟩) (fun r91 u97 H locs e90 hw => ?_)
                  obtain ⟨kiv92, mov93, pov94, srv95, pnv96⟩ := u97
                  have hw : Hw D vwCl (TYS cT) A s (MW ad cT im me ro up ho di os ob od on pg tm ts tr kiv92 mov93 pov94 srv95 ld st ow nu go la so se sl (sp + 1) tp rd pnv96) H locs := hw
                  obtain rfl := come_r e90
                  refine lv_istore_n (pc := 150) (lv' := [(2, .int (nI (tN pn))), (1, .int r82), (0, .ref (ad 0))]) F.1 F.2.1 d_M_step_150 rfl hl (by decide) rfl (fun ls hl => ?_)
                  refine lv_iconst (pc := 151) (v := 0) F.1 F.2.1 d_M_step_151 (by decide) ?_
                  refine lv_istore_n (pc := 152) (lv' := [(3, .int 0), (2, .int (nI (tN pn))), (1, .int r82), (0, .ref (ad 0))]) F.1 F.2.1 d_M_step_152 rfl hl (by decide) rfl (fun ls hl => ?_)
                  have loop98 : ∀ (kf : Nat) (i : Nat) (ls : Array Slot) (H : Heap) (locs : List Loc), 60 - i = kf → (i ≤ 60) → lv_has ls 4 [(3, .int (nI i)), (2, .int (nI (tN pn))), (1, .int r82), (0, .ref (ad 0))] → Hw D vwCl (TYS cT) A s (MW ad cT im me ro up ho di os ob od on pg tm ts tr kiv92 mov93 pov94 srv95 (va_cpy ro ld (60 * tN so) (60 * tN pn) i) st ow nu go la so se sl (sp + 1) tp rd pnv96) H locs → W p l e { frames := 2, cells := 0, slots := 0, locals := 48 } s m args below meth c H locs 0 0 Q (F0 m 153 ls []) := by
                    intro kf
                    induction kf using Nat.strongRecOn with
                    | _ kf ih98 =>
                    intro i ls H locs hk hi hl hw
                    refine lv_iload_n (pc := 153) F.1 F.2.1 d_M_step_153 rfl (lv_at hl 0 rfl) ?_
                    refine lv_bipush (pc := 154) (v := 60) F.1 F.2.1 d_M_step_154 (by decide) ?_
                    refine lv_icmp_ge (pc := 156) (tgt := 190) F.1 F.2.1 d_M_step_156 rfl (fun h99 => ?_) (fun h99 => ?_)
                    · have h99 := (nI_leI (a := 60) (b := i) (by omega) (by omega)).mp h99
                      obtain rfl : i = 60 := by omega
                      refine lv_iconst (pc := 190) (v := 2) F.1 F.2.1 d_M_step_190 (by decide) ?_
                      refine W.widen (k := 0) (n := 0) (by decide) (by decide) ?_
                      exact ret 2 (pg, kiv92, mov93, pov94, srv95, va_cpy ro ld (60 * tN so) (60 * tN pn) 60, st, se, sl, sp + 1, pnv96) _ _ 191 _ (by unfold F_M_step <;> rw [if_pos h1] <;> rw [if_pos h2] <;> rw [if_neg h3] <;> rw [if_neg h40] <;> rw [if_pos h80] <;> rw [e81] <;> (try dsimp only) <;> rw [if_pos h84] <;> rw [if_pos h88] <;> rw [if_pos h89] <;> rw [e90] <;> (try dsimp only) <;> rfl) hw d_M_step_191
                    · have h99 : ¬ 60 ≤ i := fun z9 => h99 ((nI_leI (a := 60) (b := i) (by omega) (by omega)).mpr z9)
                      refine lv_aload_n (pc := 159) F.1 F.2.1 d_M_step_159 rfl (lv_at hl 3 rfl) ?_
                      refine x_get (pc := 160) (v := .ref (ad 19)) F hw 0 30 (fun x h => List.mem_cons_of_mem _ (in_M x h)) rfl rfl (by decide) (List.mem_cons_of_mem _ m_553) rfl d_M_step_160 ?_
                      refine lv_bipush (pc := 163) (v := 60) F.1 F.2.1 d_M_step_163 (by decide) ?_
                      refine lv_iload_n (pc := 165) F.1 F.2.1 d_M_step_165 rfl (lv_at hl 1 rfl) ?_
                      refine lv_imul (pc := 166) F.1 F.2.1 d_M_step_166 ?_
                      refine x_top (y := nI (60 * tN pn)) (x_mul2 rfl rfl) ?_
                      refine lv_iload_n (pc := 167) F.1 F.2.1 d_M_step_167 rfl (lv_at hl 0 rfl) ?_
                      refine lv_iadd (pc := 168) F.1 F.2.1 d_M_step_168 ?_
                      refine x_top (y := nI (60 * tN pn + i)) (x_add2 rfl rfl) ?_
                      refine lv_aload_n (pc := 169) F.1 F.2.1 d_M_step_169 rfl (lv_at hl 3 rfl) ?_
                      refine x_get (pc := 170) (v := .ref (ad 3)) F hw 0 2 (fun x h => List.mem_cons_of_mem _ (in_M x h)) rfl rfl (by decide) (List.mem_cons_of_mem _ m_525) rfl d_M_step_170 ?_
                      refine lv_bipush (pc := 173) (v := 60) F.1 F.2.1 d_M_step_173 (by decide) ?_
                      refine lv_aload_n (pc := 175) F.1 F.2.1 d_M_step_175 rfl (lv_at hl 3 rfl) ?_
                      refine x_get (pc := 176) (v := .int so) F hw 0 15 (fun x h => List.mem_cons_of_mem _ (in_M x h)) rfl rfl (by decide) (List.mem_cons_of_mem _ m_538) rfl d_M_step_176 ?_
                      refine x_top (y := nI (tN so)) nso.1 ?_
                      refine lv_imul (pc := 179) F.1 F.2.1 d_M_step_179 ?_
                      refine x_top (y := nI (60 * tN so)) (x_mul2 rfl rfl) ?_
                      refine lv_iload_n (pc := 180) F.1 F.2.1 d_M_step_180 rfl (lv_at hl 0 rfl) ?_
                      refine lv_iadd (pc := 181) F.1 F.2.1 d_M_step_181 ?_
                      refine x_top (y := nI (60 * tN so + i)) (x_add2 rfl rfl) ?_
                      refine x_iald (pc := 182) F hw 3 0 (60 * tN so + i) rfl rfl rfl (by omega) (by decide) d_M_step_182 ?_
                      refine x_iast (pc := 183) (ws' := MW ad cT im me ro up ho di os ob od on pg tm ts tr kiv92 mov93 pov94 srv95 (upd (va_cpy ro ld (60 * tN so) (60 * tN pn) i) (60 * tN pn + i) (ro (60 * tN so + i))) st ow nu go la so se sl (sp + 1) tp rd pnv96) F hw 19 0 (60 * tN pn + i) rfl rfl rfl (by omega) (by decide) d_M_step_183 rfl (fun H locs hw => ?_)
                      refine lv_iinc (pc := 184) (k := 0) (v := nI (i + 1)) (lv' := [(3, .int (nI (i + 1))), (2, .int (nI (tN pn))), (1, .int r82), (0, .ref (ad 0))]) F.1 F.2.1 d_M_step_184 hl rfl (x_add2 rfl rfl) (by decide) rfl (fun ls hl => ?_)
                      refine lv_goto (pc := 187) (tgt := 153) F.1 F.2.1 d_M_step_187 rfl ?_
                      have ec100 : upd (va_cpy ro ld (60 * tN so) (60 * tN pn) i) (60 * tN pn + i) (ro (60 * tN so + i)) = va_cpy ro ld (60 * tN so) (60 * tN pn) (i + 1) := cpy_s2 (by omega) (congrArg ro (by omega))
                      rw [ec100] at hw
                      exact ih98 _ (by omega) (i + 1) _ _ _ rfl (by omega) hl hw
                  have hw := hw
                  exact loop98 _ 0 _ _ _ rfl (by omega) hl (by rw [cpy_0]; exact hw)
                · refine lv_aload_n (pc := 132) F.1 F.2.1 d_M_step_132 rfl (lv_at hl 1 rfl) ?_
                  refine lv_iconst (pc := 133) (v := 1) F.1 F.2.1 d_M_step_133 (by decide) ?_
                  refine x_put (pc := 134) (v := .int (bI true)) (ty := .boolean) (ws' := MW ad cT im me ro up ho di os ob od on pg tm ts tr ki mo po sr ld true ow nu go la so se sl (sp + 1) tp rd pn) F hw 0 5 (fun x h => List.mem_cons_of_mem _ (in_M x h)) ty_M tyok_M nm_M rfl rfl (by decide) (List.mem_cons_of_mem _ m_528) rfl (by decide +kernel) (bI_nar true) (bI_fit true) (Nat.le_of_ble_eq_true rfl) d_M_step_134 rfl (fun H locs hw => ?_)
                  refine lv_iconst (pc := 137) (v := 4) F.1 F.2.1 d_M_step_137 (by decide) ?_
                  refine W.widen (k := 0) (n := 0) (by decide) (by decide) ?_
                  exact ret 4 (pg, ki, mo, po, sr, ld, true, se, sl, sp + 1, pn) _ _ 138 _ (by unfold F_M_step <;> rw [if_pos h1] <;> rw [if_pos h2] <;> rw [if_neg h3] <;> rw [if_neg h40] <;> rw [if_pos h80] <;> rw [e81] <;> (try dsimp only) <;> rw [if_pos h84] <;> rw [if_pos h88] <;> rw [if_neg h89] <;> rfl) hw d_M_step_138
              · refine lv_iconst (pc := 86) (v := 0) F.1 F.2.1 d_M_step_86 (by decide) ?_
                refine lv_istore_n (pc := 87) (lv' := [(2, .int 0), (1, .int r82), (0, .ref (ad 0))]) F.1 F.2.1 d_M_step_87 rfl hl (by decide) rfl (fun ls hl => ?_)
                have loop101 : ∀ (kf : Nat) (i : Nat) (ls : Array Slot) (H : Heap) (locs : List Loc), 8 - i = kf → (i ≤ 8) → lv_has ls 4 [(2, .int (nI i)), (1, .int r82), (0, .ref (ad 0))] → Hw D vwCl (TYS cT) A s (MW ad cT im me ro up ho di os ob od on (va_cpy (again pg) pg 0 0 i) tm ts tr ki mo po sr ld st ow nu go la so se sl (sp + 1) tp rd pn) H locs → W p l e { frames := 2, cells := 0, slots := 0, locals := 48 } s m args below meth c H locs 0 0 Q (F0 m 88 ls []) := by
                  intro kf
                  induction kf using Nat.strongRecOn with
                  | _ kf ih101 =>
                  intro i ls H locs hk hi hl hw
                  refine lv_iload_n (pc := 88) F.1 F.2.1 d_M_step_88 rfl (lv_at hl 0 rfl) ?_
                  refine lv_bipush (pc := 89) (v := 8) F.1 F.2.1 d_M_step_89 (by decide) ?_
                  refine lv_icmp_ge (pc := 91) (tgt := 123) F.1 F.2.1 d_M_step_91 rfl (fun h102 => ?_) (fun h102 => ?_)
                  · have h102 := (nI_leI (a := 8) (b := i) (by omega) (by omega)).mp h102
                    obtain rfl : i = 8 := by omega
                    refine lv_iconst (pc := 123) (v := 3) F.1 F.2.1 d_M_step_123 (by decide) ?_
                    refine W.widen (k := 0) (n := 0) (by decide) (by decide) ?_
                    exact ret 3 (va_cpy (again pg) pg 0 0 8, ki, mo, po, sr, ld, st, se, sl, sp + 1, pn) _ _ 124 _ (by unfold F_M_step <;> rw [if_pos h1] <;> rw [if_pos h2] <;> rw [if_neg h3] <;> rw [if_neg h40] <;> rw [if_pos h80] <;> rw [e81] <;> (try dsimp only) <;> rw [if_pos h84] <;> rw [if_neg h88] <;> rfl) hw d_M_step_124
                  · have h102 : ¬ 8 ≤ i := fun z9 => h102 ((nI_leI (a := 8) (b := i) (by omega) (by omega)).mpr z9)
                    refine lv_aload_n (pc := 94) F.1 F.2.1 d_M_step_94 rfl (lv_at hl 2 rfl) ?_
                    refine x_get (pc := 95) (v := .ref (ad 11)) F hw 0 16 (fun x h => List.mem_cons_of_mem _ (in_M x h)) rfl rfl (by decide) (List.mem_cons_of_mem _ m_539) rfl d_M_step_95 ?_
                    refine lv_iload_n (pc := 98) F.1 F.2.1 d_M_step_98 rfl (lv_at hl 0 rfl) ?_
                    refine lv_aload_n (pc := 99) F.1 F.2.1 d_M_step_99 rfl (lv_at hl 2 rfl) ?_
                    refine x_get (pc := 100) (v := .ref (ad 11)) F hw 0 16 (fun x h => List.mem_cons_of_mem _ (in_M x h)) rfl rfl (by decide) (List.mem_cons_of_mem _ m_539) rfl d_M_step_100 ?_
                    refine lv_iload_n (pc := 103) F.1 F.2.1 d_M_step_103 rfl (lv_at hl 0 rfl) ?_
                    refine x_iald (pc := 104) F hw 11 0 (i) rfl rfl rfl (by omega) (by decide) d_M_step_104 ?_
                    refine x_top (y := pg i) (pk_cpy_out (by omega)) ?_
                    refine lv_bipush (pc := 105) (v := (-2)) F.1 F.2.1 d_M_step_105 (by decide) ?_
                    refine lv_icmp_ne (pc := 107) (tgt := 115) F.1 F.2.1 d_M_step_107 rfl (fun h103 => ?_) (fun h103 => ?_)
                    · refine lv_iconst (pc := 115) (v := (-1)) F.1 F.2.1 d_M_step_115 (by decide) ?_
                      refine x_iast (pc := 116) (ws' := MW ad cT im me ro up ho di os ob od on (upd (va_cpy (again pg) pg 0 0 i) i (-1)) tm ts tr ki mo po sr ld st ow nu go la so se sl (sp + 1) tp rd pn) F hw 11 0 (i) rfl rfl rfl (by omega) (by decide) d_M_step_116 rfl (fun H locs hw => ?_)
                      refine lv_iinc (pc := 117) (k := 0) (v := nI (i + 1)) (lv' := [(2, .int (nI (i + 1))), (1, .int r82), (0, .ref (ad 0))]) F.1 F.2.1 d_M_step_117 hl rfl (x_add2 rfl rfl) (by decide) rfl (fun ls hl => ?_)
                      refine lv_goto (pc := 120) (tgt := 88) F.1 F.2.1 d_M_step_120 rfl ?_
                      have ec104 : upd (va_cpy (again pg) pg 0 0 i) i (-1) = va_cpy (again pg) pg 0 0 (i + 1) := cpy_s2 (by omega) (by simp only [again, Nat.zero_add, if_neg h103])
                      rw [ec104] at hw
                      exact ih101 _ (by omega) (i + 1) _ _ _ rfl (by omega) hl hw
                    · refine lv_bipush (pc := 110) (v := (-2)) F.1 F.2.1 d_M_step_110 (by decide) ?_
                      refine lv_goto (pc := 112) (tgt := 116) F.1 F.2.1 d_M_step_112 rfl ?_
                      refine x_iast (pc := 116) (ws' := MW ad cT im me ro up ho di os ob od on (upd (va_cpy (again pg) pg 0 0 i) i (-2)) tm ts tr ki mo po sr ld st ow nu go la so se sl (sp + 1) tp rd pn) F hw 11 0 (i) rfl rfl rfl (by omega) (by decide) d_M_step_116 rfl (fun H locs hw => ?_)
                      refine lv_iinc (pc := 117) (k := 0) (v := nI (i + 1)) (lv' := [(2, .int (nI (i + 1))), (1, .int r82), (0, .ref (ad 0))]) F.1 F.2.1 d_M_step_117 hl rfl (x_add2 rfl rfl) (by decide) rfl (fun ls hl => ?_)
                      refine lv_goto (pc := 120) (tgt := 88) F.1 F.2.1 d_M_step_120 rfl ?_
                      have ec105 : upd (va_cpy (again pg) pg 0 0 i) i (-2) = va_cpy (again pg) pg 0 0 (i + 1) := cpy_s2 (by omega) (by simp only [again, Nat.zero_add, if_pos h103])
                      rw [ec105] at hw
                      exact ih101 _ (by omega) (i + 1) _ _ _ rfl (by omega) hl hw
                have hw := hw
                exact loop101 _ 0 _ _ _ rfl (by omega) hl (by rw [cpy_0]; exact hw)
            · have nd := due_nat e81 h84
              have ndb := nd.2
              refine lv_aload_n (pc := 72) F.1 F.2.1 d_M_step_72 rfl (lv_at hl 1 rfl) ?_
              refine lv_iload_n (pc := 73) F.1 F.2.1 d_M_step_73 rfl (lv_at hl 0 rfl) ?_
              refine x_top (y := nI (tN r82)) nd.1 ?_
              refine x_callv (pc := 74) (wr := []) hw [0, 1, 2, 3, 4, 5, 6, 7, 8, 9, 10, 11, 12, 13, 14, 15, 16, 17, 18, 19] [] rfl rfl (by decide) (by decide) (va_runV (As := [.int (nI (tN r82))]) (rest := []) F (c_M_sendPage l D cT ad im me ro up ho di os ob od on pg tm ts tr ki mo po sr ld st ow nu go la so se sl (sp + 1) tp rd pn (tN r82) (by omega) ⟨nso.1, by omega⟩ ⟨n0.1, by omega⟩ _) (x_cw (C := "MovingGuestModel") 1 F (g_all y_M_sendPage b_M_sendPage 4 none (List.mem_cons_of_mem _ m_675)) rfl rfl rfl (F.2.2.2.2 _ (List.mem_cons_of_mem _ m_40)) (F.2.2.2.2 _ (List.mem_cons_of_mem _ m_673)) (F.2.2.2.2 _ (List.mem_cons_of_mem _ m_674)) (F.2.2.2.2 _ (List.mem_cons_of_mem _ m_24)) (by decide +kernel) ⟨by decide, by decide⟩) (hw.preV (q0 := 0) [0, 1, 2, 3, 4, 5, 6, 7, 8, 9, 10, 11, 12, 13, 14, 15, 16, 17, 18, 19] (by decide) rfl rfl rfl) rfl rfl hl.1 rfl (lv_room (Nat.le_of_ble_eq_true rfl)) d_M_step_74 ⟨by decide, by decide⟩) (fun u116 H locs e106 hw => ?_)
              obtain ⟨pgv107, kiv108, mov109, pov110, srv111, ldv112, sev113, slv114, pnv115⟩ := u116
              have hw : Hw D vwCl (TYS cT) A s (MW ad cT im me ro up ho di os ob od on pgv107 tm ts tr kiv108 mov109 pov110 srv111 ldv112 st ow nu go la so sev113 slv114 (sp + 1) tp rd pnv115) H locs := hw
              refine lv_iconst (pc := 77) (v := 1) F.1 F.2.1 d_M_step_77 (by decide) ?_
              refine W.widen (k := 0) (n := 0) (by decide) (by decide) ?_
              exact ret 1 (pgv107, kiv108, mov109, pov110, srv111, ldv112, st, sev113, slv114, sp + 1, pnv115) _ _ 78 _ (by unfold F_M_step <;> rw [if_pos h1] <;> rw [if_pos h2] <;> rw [if_neg h3] <;> rw [if_neg h40] <;> rw [if_pos h80] <;> rw [e81] <;> (try dsimp only) <;> rw [if_neg h84] <;> rw [e106] <;> (try dsimp only) <;> rfl) hw d_M_step_78
          · refine lv_aload_n (pc := 48) F.1 F.2.1 d_M_step_48 rfl (lv_at hl 0 rfl) ?_
            refine lv_iconst (pc := 49) (v := 1) F.1 F.2.1 d_M_step_49 (by decide) ?_
            refine x_put (pc := 50) (v := .int (bI true)) (ty := .boolean) (ws' := MW ad cT im me ro up ho di os ob od on pg tm ts tr ki mo po sr ld true ow nu go la so se sl sp tp rd pn) F hw 0 5 (fun x h => List.mem_cons_of_mem _ (in_M x h)) ty_M tyok_M nm_M rfl rfl (by decide) (List.mem_cons_of_mem _ m_528) rfl (by decide +kernel) (bI_nar true) (bI_fit true) (Nat.le_of_ble_eq_true rfl) d_M_step_50 rfl (fun H locs hw => ?_)
            refine lv_aload_n (pc := 53) F.1 F.2.1 d_M_step_53 rfl (lv_at hl 0 rfl) ?_
            refine lv_dup (pc := 54) F.1 F.2.1 d_M_step_54 rfl ?_
            refine x_get (pc := 55) (v := .int sp) F hw 0 19 (fun x h => List.mem_cons_of_mem _ (in_M x h)) rfl rfl (by decide) (List.mem_cons_of_mem _ m_542) rfl d_M_step_55 ?_
            refine lv_iconst (pc := 58) (v := 1) F.1 F.2.1 d_M_step_58 (by decide) ?_
            refine lv_iadd (pc := 59) F.1 F.2.1 d_M_step_59 ?_
            refine x_put (pc := 60) (v := .int (sp + 1)) (ty := .int) (ws' := MW ad cT im me ro up ho di os ob od on pg tm ts tr ki mo po sr ld true ow nu go la so se sl (sp + 1) tp rd pn) F hw 0 19 (fun x h => List.mem_cons_of_mem _ (in_M x h)) ty_M tyok_M nm_M rfl rfl (by decide) (List.mem_cons_of_mem _ m_542) rfl (by decide +kernel) rfl rfl (Nat.le_of_ble_eq_true rfl) d_M_step_60 rfl (fun H locs hw => ?_)
            refine lv_aload_n (pc := 63) F.1 F.2.1 d_M_step_63 rfl (lv_at hl 0 rfl) ?_
            refine x_calli (pc := 64) (wr := []) hw [0, 1, 2, 3, 4, 5, 6, 7, 8, 9, 10, 11, 12, 13, 14, 15, 16, 17, 18, 19] [] rfl rfl (by decide) (by decide) (va_runV (As := []) (rest := []) F (c_M_due l D cT ad im me ro up ho di os ob od on pg tm ts tr ki mo po sr ld true ow nu go la so se sl (sp + 1) tp rd pn ⟨nsl.1, by omega⟩ _) (x_cw (C := "MovingGuestModel") 0 F (g_all y_M_due b_M_due 2 (some .int) (List.mem_cons_of_mem _ m_672)) rfl rfl rfl (F.2.2.2.2 _ (List.mem_cons_of_mem _ m_40)) (F.2.2.2.2 _ (List.mem_cons_of_mem _ m_670)) (F.2.2.2.2 _ (List.mem_cons_of_mem _ m_671)) (F.2.2.2.2 _ (List.mem_cons_of_mem _ m_23)) (by decide +kernel) ⟨by decide, by decide⟩) (hw.preV (q0 := 0) [0, 1, 2, 3, 4, 5, 6, 7, 8, 9, 10, 11, 12, 13, 14, 15, 16, 17, 18, 19] (by decide) rfl rfl rfl) rfl rfl hl.1 rfl (lv_room (Nat.le_of_ble_eq_true rfl)) d_M_step_64 ⟨by decide, by decide⟩) (fun r118 u119 H locs e117 hw => ?_)
            refine lv_istore_n (pc := 67) (lv' := [(1, .int r118), (0, .ref (ad 0))]) F.1 F.2.1 d_M_step_67 rfl hl (by decide) rfl (fun ls hl => ?_)
            refine lv_iload_n (pc := 68) F.1 F.2.1 d_M_step_68 rfl (lv_at hl 0 rfl) ?_
            refine lv_if_lt (pc := 69) (tgt := 79) F.1 F.2.1 d_M_step_69 rfl (fun h120 => ?_) (fun h120 => ?_)
            · refine lv_aload_n (pc := 79) F.1 F.2.1 d_M_step_79 rfl (lv_at hl 1 rfl) ?_
              refine x_calli (pc := 80) (wr := []) hw [0, 1, 2, 3, 4, 5, 6, 7, 8, 9, 10, 11, 12, 13, 14, 15, 16, 17, 18, 19] [] rfl rfl (by decide) (by decide) (va_runV (As := []) (rest := []) F (c_M_unknown l D cT ad im me ro up ho di os ob od on pg tm ts tr ki mo po sr ld true ow nu go la so se sl (sp + 1) tp rd pn  _) (x_cw (C := "MovingGuestModel") 0 F (g_all y_M_unknown b_M_unknown 3 (some .int) (List.mem_cons_of_mem _ m_669)) rfl rfl rfl (F.2.2.2.2 _ (List.mem_cons_of_mem _ m_40)) (F.2.2.2.2 _ (List.mem_cons_of_mem _ m_667)) (F.2.2.2.2 _ (List.mem_cons_of_mem _ m_668)) (F.2.2.2.2 _ (List.mem_cons_of_mem _ m_22)) (by decide +kernel) ⟨by decide, by decide⟩) (hw.preV (q0 := 0) [0, 1, 2, 3, 4, 5, 6, 7, 8, 9, 10, 11, 12, 13, 14, 15, 16, 17, 18, 19] (by decide) rfl rfl rfl) rfl rfl hl.1 rfl (lv_room (Nat.le_of_ble_eq_true rfl)) d_M_step_80 ⟨by decide, by decide⟩) (fun r122 u123 H locs e121 hw => ?_)
              cases (show (nI (cnt pg 8), ()) = (r122, u123) from e121)
              refine lv_if_le (pc := 83) (tgt := 125) F.1 F.2.1 d_M_step_83 rfl (fun h124 => ?_) (fun h124 => ?_)
              · refine lv_aload_n (pc := 125) F.1 F.2.1 d_M_step_125 rfl (lv_at hl 1 rfl) ?_
                refine x_get (pc := 126) (v := .int (bI true)) F hw 0 5 (fun x h => List.mem_cons_of_mem _ (in_M x h)) rfl rfl (by decide) (List.mem_cons_of_mem _ m_528) rfl d_M_step_126 ?_
                refine x_ifneB (pc := 129) (tgt := 139) F d_M_step_129 rfl (fun h125 => ?_) (fun h125 => ?_)
                · refine lv_aload_n (pc := 139) F.1 F.2.1 d_M_step_139 rfl (lv_at hl 1 rfl) ?_
                  refine lv_iconst (pc := 140) (v := 2) F.1 F.2.1 d_M_step_140 (by decide) ?_
                  refine lv_aload_n (pc := 141) F.1 F.2.1 d_M_step_141 rfl (lv_at hl 1 rfl) ?_
                  refine x_get (pc := 142) (v := .int la) F hw 0 14 (fun x h => List.mem_cons_of_mem _ (in_M x h)) rfl rfl (by decide) (List.mem_cons_of_mem _ m_537) rfl d_M_step_142 ?_
                  refine lv_iconst (pc := 145) (v := 0) F.1 F.2.1 d_M_step_145 (by decide) ?_
                  refine lv_iconst (pc := 146) (v := 0) F.1 F.2.1 d_M_step_146 (by decide) ?_
                  refine x_calli (pc := 147) (wr := []) hw [0, 1, 2, 3, 4, 5, 6, 7, 8, 9, 10, 11, 12, 13, 14, 15, 16, 17, 18, 19] [] rfl rfl (by decide) (by decide) (va_runV (As := [.int 2, .int la, .int 0, .int 0]) (rest := []) F (c_M_come l D cT ad im me ro up ho di os ob od on pg tm ts tr ki mo po sr ld true ow nu go la so se sl (sp + 1) tp rd pn 2 la 0 0 ⟨n0.1, by omega⟩ _) (x_cw (C := "MovingGuestModel") 4 F (g_all y_M_come b_M_come 6 (some .int) (List.mem_cons_of_mem _ m_678)) rfl rfl rfl (F.2.2.2.2 _ (List.mem_cons_of_mem _ m_40)) (F.2.2.2.2 _ (List.mem_cons_of_mem _ m_676)) (F.2.2.2.2 _ (List.mem_cons_of_mem _ m_677)) (F.2.2.2.2 _ (List.mem_cons_of_mem _ m_25)) (by decide +kernel) ⟨by decide, by decide⟩) (hw.preV (q0 := 0) [0, 1, 2, 3, 4, 5, 6, 7, 8, 9, 10, 11, 12, 13, 14, 15, 16, 17, 18, 19] (by decide) rfl rfl rfl) rfl rfl hl.1 rfl (lv_room (Nat.le_of_ble_eq_true rfl)) d_M_step_147 ⟨by decide, by decide⟩) (fun r127 u133 H locs e126 hw => ?_)
                  obtain ⟨kiv128, mov129, pov130, srv131, pnv132⟩ := u133
                  have hw : Hw D vwCl (TYS cT) A s (MW ad cT im me ro up ho di os ob od on pg tm ts tr kiv128 mov129 pov130 srv131 ld true ow nu go la so se sl (sp + 1) tp rd pnv132) H locs := hw
                  obtain rfl := come_r e126
                  refine lv_istore_n (pc := 150) (lv' := [(2, .int (nI (tN pn))), (1, .int r118), (0, .ref (ad 0))]) F.1 F.2.1 d_M_step_150 rfl hl (by decide) rfl (fun ls hl => ?_)
                  refine lv_iconst (pc := 151) (v := 0) F.1 F.2.1 d_M_step_151 (by decide) ?_
                  refine lv_istore_n (pc := 152) (lv' := [(3, .int 0), (2, .int (nI (tN pn))), (1, .int r118), (0, .ref (ad 0))]) F.1 F.2.1 d_M_step_152 rfl hl (by decide) rfl (fun ls hl => ?_)
                  have loop134 : ∀ (kf : Nat) (i : Nat) (ls : Array Slot) (H : Heap) (locs : List Loc), 60 - i = kf → (i ≤ 60) → lv_has ls 4 [(3, .int (nI i)), (2, .int (nI (tN pn))), (1, .int r118), (0, .ref (ad 0))] → Hw D vwCl (TYS cT) A s (MW ad cT im me ro up ho di os ob od on pg tm ts tr kiv128 mov129 pov130 srv131 (va_cpy ro ld (60 * tN so) (60 * tN pn) i) true ow nu go la so se sl (sp + 1) tp rd pnv132) H locs → W p l e { frames := 2, cells := 0, slots := 0, locals := 48 } s m args below meth c H locs 0 0 Q (F0 m 153 ls []) := by
                    intro kf
                    induction kf using Nat.strongRecOn with
                    | _ kf ih134 =>
                    intro i ls H locs hk hi hl hw
                    refine lv_iload_n (pc := 153) F.1 F.2.1 d_M_step_153 rfl (lv_at hl 0 rfl) ?_
                    refine lv_bipush (pc := 154) (v := 60) F.1 F.2.1 d_M_step_154 (by decide) ?_
                    refine lv_icmp_ge (pc := 156) (tgt := 190) F.1 F.2.1 d_M_step_156 rfl (fun h135 => ?_) (fun h135 => ?_)
                    · have h135 := (nI_leI (a := 60) (b := i) (by omega) (by omega)).mp h135
                      obtain rfl : i = 60 := by omega
                      refine lv_iconst (pc := 190) (v := 2) F.1 F.2.1 d_M_step_190 (by decide) ?_
                      refine W.widen (k := 0) (n := 0) (by decide) (by decide) ?_
                      exact ret 2 (pg, kiv128, mov129, pov130, srv131, va_cpy ro ld (60 * tN so) (60 * tN pn) 60, true, se, sl, sp + 1, pnv132) _ _ 191 _ (by unfold F_M_step <;> rw [if_pos h1] <;> rw [if_pos h2] <;> rw [if_neg h3] <;> rw [if_neg h40] <;> rw [if_neg h80] <;> rw [e117] <;> (try dsimp only) <;> rw [if_pos h120] <;> rw [if_pos h124] <;> rw [if_pos h125] <;> rw [e126] <;> (try dsimp only) <;> rfl) hw d_M_step_191
                    · have h135 : ¬ 60 ≤ i := fun z9 => h135 ((nI_leI (a := 60) (b := i) (by omega) (by omega)).mpr z9)
                      refine lv_aload_n (pc := 159) F.1 F.2.1 d_M_step_159 rfl (lv_at hl 3 rfl) ?_
                      refine x_get (pc := 160) (v := .ref (ad 19)) F hw 0 30 (fun x h => List.mem_cons_of_mem _ (in_M x h)) rfl rfl (by decide) (List.mem_cons_of_mem _ m_553) rfl d_M_step_160 ?_
                      refine lv_bipush (pc := 163) (v := 60) F.1 F.2.1 d_M_step_163 (by decide) ?_
                      refine lv_iload_n (pc := 165) F.1 F.2.1 d_M_step_165 rfl (lv_at hl 1 rfl) ?_
                      refine lv_imul (pc := 166) F.1 F.2.1 d_M_step_166 ?_
                      refine x_top (y := nI (60 * tN pn)) (x_mul2 rfl rfl) ?_
                      refine lv_iload_n (pc := 167) F.1 F.2.1 d_M_step_167 rfl (lv_at hl 0 rfl) ?_
                      refine lv_iadd (pc := 168) F.1 F.2.1 d_M_step_168 ?_
                      refine x_top (y := nI (60 * tN pn + i)) (x_add2 rfl rfl) ?_
                      refine lv_aload_n (pc := 169) F.1 F.2.1 d_M_step_169 rfl (lv_at hl 3 rfl) ?_
                      refine x_get (pc := 170) (v := .ref (ad 3)) F hw 0 2 (fun x h => List.mem_cons_of_mem _ (in_M x h)) rfl rfl (by decide) (List.mem_cons_of_mem _ m_525) rfl d_M_step_170 ?_
                      refine lv_bipush (pc := 173) (v := 60) F.1 F.2.1 d_M_step_173 (by decide) ?_
                      refine lv_aload_n (pc := 175) F.1 F.2.1 d_M_step_175 rfl (lv_at hl 3 rfl) ?_
                      refine x_get (pc := 176) (v := .int so) F hw 0 15 (fun x h => List.mem_cons_of_mem _ (in_M x h)) rfl rfl (by decide) (List.mem_cons_of_mem _ m_538) rfl d_M_step_176 ?_
                      refine x_top (y := nI (tN so)) nso.1 ?_
                      refine lv_imul (pc := 179) F.1 F.2.1 d_M_step_179 ?_
                      refine x_top (y := nI (60 * tN so)) (x_mul2 rfl rfl) ?_
                      refine lv_iload_n (pc := 180) F.1 F.2.1 d_M_step_180 rfl (lv_at hl 0 rfl) ?_
                      refine lv_iadd (pc := 181) F.1 F.2.1 d_M_step_181 ?_
                      refine x_top (y := nI (60 * tN so + i)) (x_add2 rfl rfl) ?_
                      refine x_iald (pc := 182) F hw 3 0 (60 * tN so + i) rfl rfl rfl (by omega) (by decide) d_M_step_182 ?_
                      refine x_iast (pc := 183) (ws' := MW ad cT im me ro up ho di os ob od on pg tm ts tr kiv128 mov129 pov130 srv131 (upd (va_cpy ro ld (60 * tN so) (60 * tN pn) i) (60 * tN pn + i) (ro (60 * tN so + i))) true ow nu go la so se sl (sp + 1) tp rd pnv132) F hw 19 0 (60 * tN pn + i) rfl rfl rfl (by omega) (by decide) d_M_step_183 rfl (fun H locs hw => ?_)
                      refine lv_iinc (pc := 184) (k := 0) (v := nI (i + 1)) (lv' := [(3, .int (nI (i + 1))), (2, .int (nI (tN pn))), (1, .int r118), (0, .ref (ad 0))]) F.1 F.2.1 d_M_step_184 hl rfl (x_add2 rfl rfl) (by decide) rfl (fun ls hl => ?_)
                      refine lv_goto (pc := 187) (tgt := 153) F.1 F.2.1 d_M_step_187 rfl ?_
                      have ec136 : upd (va_cpy ro ld (60 * tN so) (60 * tN pn) i) (60 * tN pn + i) (ro (60 * tN so + i)) = va_cpy ro ld (60 * tN so) (60 * tN pn) (i + 1) := cpy_s2 (by omega) (congrArg ro (by omega))
                      rw [ec136] at hw
                      exact ih134 _ (by omega) (i + 1) _ _ _ rfl (by omega) hl hw
                  have hw := hw
                  exact loop134 _ 0 _ _ _ rfl (by omega) hl (by rw [cpy_0]; exact hw)
                · refine lv_aload_n (pc := 132) F.1 F.2.1 d_M_step_132 rfl (lv_at hl 1 rfl) ?_
                  refine lv_iconst (pc := 133) (v := 1) F.1 F.2.1 d_M_step_133 (by decide) ?_
                  refine x_put (pc := 134) (v := .int (bI true)) (ty := .boolean) (ws' := MW ad cT im me ro up ho di os ob od on pg tm ts tr ki mo po sr ld true ow nu go la so se sl (sp + 1) tp rd pn) F hw 0 5 (fun x h => List.mem_cons_of_mem _ (in_M x h)) ty_M tyok_M nm_M rfl rfl (by decide) (List.mem_cons_of_mem _ m_528) rfl (by decide +kernel) (bI_nar true) (bI_fit true) (Nat.le_of_ble_eq_true rfl) d_M_step_134 rfl (fun H locs hw => ?_)
                  refine lv_iconst (pc := 137) (v := 4) F.1 F.2.1 d_M_step_137 (by decide) ?_
                  refine W.widen (k := 0) (n := 0) (by decide) (by decide) ?_
                  exact ret 4 (pg, ki, mo, po, sr, ld, true, se, sl, sp + 1, pn) _ _ 138 _ (by unfold F_M_step <;> rw [if_pos h1] <;> rw [if_pos h2] <;> rw [if_neg h3] <;> rw [if_neg h40] <;> rw [if_neg h80] <;> rw [e117] <;> (try dsimp only) <;> rw [if_pos h120] <;> rw [if_pos h124] <;> rw [if_neg h125] <;> rfl) hw d_M_step_138
              · refine lv_iconst (pc := 86) (v := 0) F.1 F.2.1 d_M_step_86 (by decide) ?_
                refine lv_istore_n (pc := 87) (lv' := [(2, .int 0), (1, .int r118), (0, .ref (ad 0))]) F.1 F.2.1 d_M_step_87 rfl hl (by decide) rfl (fun ls hl => ?_)
                have loop137 : ∀ (kf : Nat) (i : Nat) (ls : Array Slot) (H : Heap) (locs : List Loc), 8 - i = kf → (i ≤ 8) → lv_has ls 4 [(2, .int (nI i)), (1, .int r118), (0, .ref (ad 0))] → Hw D vwCl (TYS cT) A s (MW ad cT im me ro up ho di os ob od on (va_cpy (again pg) pg 0 0 i) tm ts tr ki mo po sr ld true ow nu go la so se sl (sp + 1) tp rd pn) H locs → W p l e { frames := 2, cells := 0, slots := 0, locals := 48 } s m args below meth c H locs 0 0 Q (F0 m 88 ls []) := by
                  intro kf
                  induction kf using Nat.strongRecOn with
                  | _ kf ih137 =>
                  intro i ls H locs hk hi hl hw
                  refine lv_iload_n (pc := 88) F.1 F.2.1 d_M_step_88 rfl (lv_at hl 0 rfl) ?_
                  refine lv_bipush (pc := 89) (v := 8) F.1 F.2.1 d_M_step_89 (by decide) ?_
                  refine lv_icmp_ge (pc := 91) (tgt := 123) F.1 F.2.1 d_M_step_91 rfl (fun h138 => ?_) (fun h138 => ?_)
                  · have h138 := (nI_leI (a := 8) (b := i) (by omega) (by omega)).mp h138
                    obtain rfl : i = 8 := by omega
                    refine lv_iconst (pc := 123) (v := 3) F.1 F.2.1 d_M_step_123 (by decide) ?_
                    refine W.widen (k := 0) (n := 0) (by decide) (by decide) ?_
                    exact ret 3 (va_cpy (again pg) pg 0 0 8, ki, mo, po, sr, ld, true, se, sl, sp + 1, pn) _ _ 124 _ (by unfold F_M_step <;> rw [if_pos h1] <;> rw [if_pos h2] <;> rw [if_neg h3] <;> rw [if_neg h40] <;> rw [if_neg h80] <;> rw [e117] <;> (try dsimp only) <;> rw [if_pos h120] <;> rw [if_neg h124] <;> rfl) hw d_M_step_124
                  · have h138 : ¬ 8 ≤ i := fun z9 => h138 ((nI_leI (a := 8) (b := i) (by omega) (by omega)).mpr z9)
                    refine lv_aload_n (pc := 94) F.1 F.2.1 d_M_step_94 rfl (lv_at hl 2 rfl) ?_
                    refine x_get (pc := 95) (v := .ref (ad 11)) F hw 0 16 (fun x h => List.mem_cons_of_mem _ (in_M x h)) rfl rfl (by decide) (List.mem_cons_of_mem _ m_539) rfl d_M_step_95 ?_
                    refine lv_iload_n (pc := 98) F.1 F.2.1 d_M_step_98 rfl (lv_at hl 0 rfl) ?_
                    refine lv_aload_n (pc := 99) F.1 F.2.1 d_M_step_99 rfl (lv_at hl 2 rfl) ?_
                    refine x_get (pc := 100) (v := .ref (ad 11)) F hw 0 16 (fun x h => List.mem_cons_of_mem _ (in_M x h)) rfl rfl (by decide) (List.mem_cons_of_mem _ m_539) rfl d_M_step_100 ?_
                    refine lv_iload_n (pc := 103) F.1 F.2.1 d_M_step_103 rfl (lv_at hl 0 rfl) ?_
                    refine x_iald (pc := 104) F hw 11 0 (i) rfl rfl rfl (by omega) (by decide) d_M_step_104 ?_
                    refine x_top (y := pg i) (pk_cpy_out (by omega)) ?_
                    refine lv_bipush (pc := 105) (v := (-2)) F.1 F.2.1 d_M_step_105 (by decide) ?_
                    refine lv_icmp_ne (pc := 107) (tgt := 115) F.1 F.2.1 d_M_step_107 rfl (fun h139 => ?_) (fun h139 => ?_)
                    · refine lv_iconst (pc := 115) (v := (-1)) F.1 F.2.1 d_M_step_115 (by decide) ?_
                      refine x_iast (pc := 116) (ws' := MW ad cT im me ro up ho di os ob od on (upd (va_cpy (again pg) pg 0 0 i) i (-1)) tm ts tr ki mo po sr ld true ow nu go la so se sl (sp + 1) tp rd pn) F hw 11 0 (i) rfl rfl rfl (by omega) (by decide) d_M_step_116 rfl (fun H locs hw => ?_)
                      refine lv_iinc (pc := 117) (k := 0) (v := nI (i + 1)) (lv' := [(2, .int (nI (i + 1))), (1, .int r118), (0, .ref (ad 0))]) F.1 F.2.1 d_M_step_117 hl rfl (x_add2 rfl rfl) (by decide) rfl (fun ls hl => ?_)
                      refine lv_goto (pc := 120) (tgt := 88) F.1 F.2.1 d_M_step_120 rfl ?_
                      have ec140 : upd (va_cpy (again pg) pg 0 0 i) i (-1) = va_cpy (again pg) pg 0 0 (i + 1) := cpy_s2 (by omega) (by simp only [again, Nat.zero_add, if_neg h139])
                      rw [ec140] at hw
                      exact ih137 _ (by omega) (i + 1) _ _ _ rfl (by omega) hl hw
                    · refine lv_bipush (pc := 110) (v := (-2)) F.1 F.2.1 d_M_step_110 (by decide) ?_
                      refine lv_goto (pc := 112) (tgt := 116) F.1 F.2.1 d_M_step_112 rfl ?_
                      refine x_iast (pc := 116) (ws' := MW ad cT im me ro up ho di os ob od on (upd (va_cpy (again pg) pg 0 0 i) i (-2)) tm ts tr ki mo po sr ld true ow nu go la so se sl (sp + 1) tp rd pn) F hw 11 0 (i) rfl rfl rfl (by omega) (by decide) d_M_step_116 rfl (fun H locs hw => ?_)
                      refine lv_iinc (pc := 117) (k := 0) (v := nI (i + 1)) (lv' := [(2, .int (nI (i + 1))), (1, .int r118), (0, .ref (ad 0))]) F.1 F.2.1 d_M_step_117 hl rfl (x_add2 rfl rfl) (by decide) rfl (fun ls hl => ?_)
                      refine lv_goto (pc := 120) (tgt := 88) F.1 F.2.1 d_M_step_120 rfl ?_
                      have ec141 : upd (va_cpy (again pg) pg 0 0 i) i (-2) = va_cpy (again pg) pg 0 0 (i + 1) := cpy_s2 (by omega) (by simp only [again, Nat.zero_add, if_pos h139])
                      rw [ec141] at hw
                      exact ih137 _ (by omega) (i + 1) _ _ _ rfl (by omega) hl hw
                have hw := hw
                exact loop137 _ 0 _ _ _ rfl (by omega) hl (by rw [cpy_0]; exact hw)
            · have nd := due_nat e117 h120
              have ndb := nd.2
              refine lv_aload_n (pc := 72) F.1 F.2.1 d_M_step_72 rfl (lv_at hl 1 rfl) ?_
              refine lv_iload_n (pc := 73) F.1 F.2.1 d_M_step_73 rfl (lv_at hl 0 rfl) ?_
              refine x_top (y := nI (tN r118)) nd.1 ?_
              refine x_callv (pc := 74) (wr := []) hw [0, 1, 2, 3, 4, 5, 6, 7, 8, 9, 10, 11, 12, 13, 14, 15, 16, 17, 18, 19] [] rfl rfl (by decide) (by decide) (va_runV (As := [.int (nI (tN r118))]) (rest := []) F (c_M_sendPage l D cT ad im me ro up ho di os ob od on pg tm ts tr ki mo po sr ld true ow nu go la so se sl (sp + 1) tp rd pn (tN r118) (by omega) ⟨nso.1, by omega⟩ ⟨n0.1, by omega⟩ _) (x_cw (C := "MovingGuestModel") 1 F (g_all y_M_sendPage b_M_sendPage 4 none (List.mem_cons_of_mem _ m_675)) rfl rfl rfl (F.2.2.2.2 _ (List.mem_cons_of_mem _ m_40)) (F.2.2.2.2 _ (List.mem_cons_of_mem _ m_673)) (F.2.2.2.2 _ (List.mem_cons_of_mem _ m_674)) (F.2.2.2.2 _ (List.mem_cons_of_mem _ m_24)) (by decide +kernel) ⟨by decide, by decide⟩) (hw.preV (q0 := 0) [0, 1, 2, 3, 4, 5, 6, 7, 8, 9, 10, 11, 12, 13, 14, 15, 16, 17, 18, 19] (by decide) rfl rfl rfl) rfl rfl hl.1 rfl (lv_room (Nat.le_of_ble_eq_true rfl)) d_M_step_74 ⟨by decide, by decide⟩) (fun u152 H locs e142 hw => ?_)
              obtain ⟨pgv143, kiv144, mov145, pov146, srv147, ldv148, sev149, slv150, pnv151⟩ := u152
              have hw : Hw D vwCl (TYS cT) A s (MW ad cT im me ro up ho di os ob od on pgv143 tm ts tr kiv144 mov145 pov146 srv147 ldv148 true ow nu go la so sev149 slv150 (sp + 1) tp rd pnv151) H locs := hw
              refine lv_iconst (pc := 77) (v := 1) F.1 F.2.1 d_M_step_77 (by decide) ?_
              refine W.widen (k := 0) (n := 0) (by decide) (by decide) ?_
              exact ret 1 (pgv143, kiv144, mov145, pov146, srv147, ldv148, true, sev149, slv150, sp + 1, pnv151) _ _ 78 _ (by unfold F_M_step <;> rw [if_pos h1] <;> rw [if_pos h2] <;> rw [if_neg h3] <;> rw [if_neg h40] <;> rw [if_neg h80] <;> rw [e117] <;> (try dsimp only) <;> rw [if_neg h120] <;> rw [e142] <;> (try dsimp only) <;> rfl) hw d_M_step_78
    · refine lv_bipush (pc := 19) (v := (-2)) F.1 F.2.1 d_M_step_19 (by decide) ?_
      refine W.widen (k := 0) (n := 0) (by decide) (by decide) ?_
      exact ret (-2) (pg, ki, mo, po, sr, ld, st, se, sl, sp, pn) _ _ 21 _ (by unfold F_M_step <;> rw [if_pos h1] <;> rw [if_neg h2] <;> rfl) hw d_M_step_21
def F_M_handOver (me : Nat → Int32) (ro : Nat → Int32) (ho : Nat → Bool) (os : Nat → Bool) (ob : Nat → Int32) (od : Nat → Int32) (on : Nat → Int32) (tm : Nat → Int32) (tr : Nat → Int32) (nu : Int32) (so : Int32) : (Nat → Int32) × (Nat → Int32) × (Nat → Bool) × (Nat → Bool) × (Nat → Int32) × (Nat → Int32) × (Nat → Int32) × Bool × Int32 × Int32 × Bool × Bool × Bool :=
  if ((va_cpy tr ro 0 (60 * (1 - tN so)) 60) (60 * (1 - tN so) + 56)) = 1 then
    (va_cpy tm me 0 (64 * (1 - tN so)) 64, va_cpy tr ro 0 (60 * (1 - tN so)) 60, va_up (va_up ho (tN so) false) (1 - tN so) true, va_up os (1 - tN so) true, upd ob (1 - tN so) ((va_cpy tr ro 0 (60 * (1 - tN so)) 60) (60 * (1 - tN so) + 57)), upd od (1 - tN so) ((va_cpy tr ro 0 (60 * (1 - tN so)) 60) (60 * (1 - tN so) + 58)), upd on (1 - tN so) (nu + 1), false, nI (1 - tN so), nu + 1, false, false, false)
  else
    (va_cpy tm me 0 (64 * (1 - tN so)) 64, va_cpy tr ro 0 (60 * (1 - tN so)) 60, va_up (va_up ho (tN so) false) (1 - tN so) true, os, ob, od, on, false, nI (1 - tN so), nu + 1, false, false, false)
set_option maxHeartbeats 4000000 in
set_option maxRecDepth 100000 in
theorem c_M_handOver (l : Launch) (D : va_G) (cT : Nat → ClassId) (ad : Nat → Nat) (im : Nat → Int32) (me : Nat → Int32) (ro : Nat → Int32) (up : Nat → Bool) (ho : Nat → Bool) (di : Nat → Int32) (os : Nat → Bool) (ob : Nat → Int32) (od : Nat → Int32) (on : Nat → Int32) (pg : Nat → Int32) (tm : Nat → Int32) (ts : Nat → Int32) (tr : Nat → Int32) (ki : Nat → Int32) (mo : Nat → Int32) (po : Nat → Int32) (sr : Nat → Int32) (ld : Nat → Int32) (st : Bool) (ow : Int32) (nu : Int32) (go : Bool) (la : Int32) (so : Int32) (se : Int32) (sl : Int32) (sp : Int32) (tp : Bool) (rd : Bool) (pn : Int32) (nso : isN so 2) : Ctv l y_M_handOver ws_M_handOver { frames := 1, cells := 0, slots := 0, locals := 21 } D vwCl (TYS cT) [.ref (ad 0)] (MW ad cT im me ro up ho di os ob od on pg tm ts tr ki mo po sr ld st ow nu go la so se sl sp tp rd pn) (fun (uu : (Nat → Int32) × (Nat → Int32) × (Nat → Bool) × (Nat → Bool) × (Nat → Int32) × (Nat → Int32) × (Nat → Int32) × Bool × Int32 × Int32 × Bool × Bool × Bool) => F_M_handOver me ro ho os ob od on tm tr nu so = uu) (fun (u : (Nat → Int32) × (Nat → Int32) × (Nat → Bool) × (Nat → Bool) × (Nat → Int32) × (Nat → Int32) × (Nat → Int32) × Bool × Int32 × Int32 × Bool × Bool × Bool) => MW ad cT im u.1 u.2.1 up u.2.2.1 di u.2.2.2.1 u.2.2.2.2.1 u.2.2.2.2.2.1 u.2.2.2.2.2.2.1 pg tm ts tr ki mo po sr ld u.2.2.2.2.2.2.2.1 u.2.2.2.2.2.2.2.2.1 u.2.2.2.2.2.2.2.2.2.1 u.2.2.2.2.2.2.2.2.2.2.1 la so se sl sp u.2.2.2.2.2.2.2.2.2.2.2.1 u.2.2.2.2.2.2.2.2.2.2.2.2 pn) 0 0 := by
  refine x_inv (cc := b_M_handOver) (maxL := 3) (by decide) rfl (Nat.le_of_ble_eq_true rfl) ?_
  intro p e s m args below meth c A ls Q F hin hl hw ret
  have hl : lv_has ls 3 [(0, .ref (ad 0))] := hl
  have nsob := nso.2
  refine lv_iconst (pc := 0) (v := 1) F.1 F.2.1 d_M_handOver_0 (by decide) ?_
  refine lv_aload_n (pc := 1) F.1 F.2.1 d_M_handOver_1 rfl (lv_at hl 0 rfl) ?_
  refine x_get (pc := 2) (v := .int so) F hw 0 15 (fun x h => List.mem_cons_of_mem _ (in_M x h)) rfl rfl (by decide) (List.mem_cons_of_mem _ m_538) rfl d_M_handOver_2 ?_
  refine x_top (y := nI (tN so)) nso.1 ?_
  refine lv_isub (pc := 5) F.1 F.2.1 d_M_handOver_5 ?_
  refine x_top (y := nI (1 - tN so)) (x_sub2 rfl rfl (by omega)) ?_
  refine lv_istore_n (pc := 6) (lv' := [(1, .int (nI (1 - tN so))), (0, .ref (ad 0))]) F.1 F.2.1 d_M_handOver_6 rfl hl (by decide) rfl (fun ls hl => ?_)
  refine lv_aload_n (pc := 7) F.1 F.2.1 d_M_handOver_7 rfl (lv_at hl 1 rfl) ?_
  refine x_get (pc := 8) (v := .ref (ad 5)) F hw 0 4 (fun x h => List.mem_cons_of_mem _ (in_M x h)) rfl rfl (by decide) (List.mem_cons_of_mem _ m_527) rfl d_M_handOver_8 ?_
  refine lv_aload_n (pc := 11) F.1 F.2.1 d_M_handOver_11 rfl (lv_at hl 1 rfl) ?_
  refine x_get (pc := 12) (v := .int so) F hw 0 15 (fun x h => List.mem_cons_of_mem _ (in_M x h)) rfl rfl (by decide) (List.mem_cons_of_mem _ m_538) rfl d_M_handOver_12 ?_
  refine x_top (y := nI (tN so)) nso.1 ?_
  refine lv_iconst (pc := 15) (v := 0) F.1 F.2.1 d_M_handOver_15 (by decide) ?_
  refine x_zastB (pc := 16) (b := false) (ws' := MW ad cT im me ro up (va_up ho (tN so) false) di os ob od on pg tm ts tr ki mo po sr ld st ow nu go la so se sl sp tp rd pn) F hw 5 1 (tN so) rfl rfl rfl (by omega) (by decide) d_M_handOver_16 rfl (fun H locs hw => ?_)
  refine lv_aload_n (pc := 17) F.1 F.2.1 d_M_handOver_17 rfl (lv_at hl 1 rfl) ?_
  refine x_get (pc := 18) (v := .ref (ad 5)) F hw 0 4 (fun x h => List.mem_cons_of_mem _ (in_M x h)) rfl rfl (by decide) (List.mem_cons_of_mem _ m_527) rfl d_M_handOver_18 ?_
  refine lv_iload_n (pc := 21) F.1 F.2.1 d_M_handOver_21 rfl (lv_at hl 0 rfl) ?_
  refine lv_iconst (pc := 22) (v := 1) F.1 F.2.1 d_M_handOver_22 (by decide) ?_
  refine x_zastB (pc := 23) (b := true) (ws' := MW ad cT im me ro up (va_up (va_up ho (tN so) false) (1 - tN so) true) di os ob od on pg tm ts tr ki mo po sr ld st ow nu go la so se sl sp tp rd pn) F hw 5 1 (1 - tN so) rfl rfl rfl (by omega) (by decide) d_M_handOver_23 rfl (fun H locs hw => ?_)
  refine lv_iconst (pc := 24) (v := 0) F.1 F.2.1 d_M_handOver_24 (by decide) ?_
  refine lv_istore_n (pc := 25) (lv' := [(2, .int 0), (1, .int (nI (1 - tN so))), (0, .ref (ad 0))]) F.1 F.2.1 d_M_handOver_25 rfl hl (by decide) rfl (fun ls hl => ?_)
  have loop1 : ∀ (kf : Nat) (i : Nat) (ls : Array Slot) (H : Heap) (locs : List Loc), 64 - i = kf → (i ≤ 64) → lv_has ls 3 [(2, .int (nI i)), (1, .int (nI (1 - tN so))), (0, .ref (ad 0))] → Hw D vwCl (TYS cT) A s (MW ad cT im (va_cpy tm me 0 (64 * (1 - tN so)) i) ro up (va_up (va_up ho (tN so) false) (1 - tN so) true) di os ob od on pg tm ts tr ki mo po sr ld st ow nu go la so se sl sp tp rd pn) H locs → W p l e { frames := 1, cells := 0, slots := 0, locals := 21 } s m args below meth c H locs 0 0 Q (F0 m 26 ls []) := by
    intro kf
    induction kf using Nat.strongRecOn with
    | _ kf ih1 =>
    intro i ls H locs hk hi hl hw
    refine lv_iload_n (pc := 26) F.1 F.2.1 d_M_handOver_26 rfl (lv_at hl 0 rfl) ?_
    refine lv_bipush (pc := 27) (v := 64) F.1 F.2.1 d_M_handOver_27 (by decide) ?_
    refine lv_icmp_ge (pc := 29) (tgt := 55) F.1 F.2.1 d_M_handOver_29 rfl (fun h2 => ?_) (fun h2 => ?_)
    · have h2 := (nI_leI (a := 64) (b := i) (by omega) (by omega)).mp h2
      obtain rfl : i = 64 := by omega
      refine lv_iconst (pc := 55) (v := 0) F.1 F.2.1 d_M_handOver_55 (by decide) ?_
      refine lv_istore_n (pc := 56) (lv' := [(2, .int 0), (1, .int (nI (1 - tN so))), (0, .ref (ad 0))]) F.1 F.2.1 d_M_handOver_56 rfl hl (by decide) rfl (fun ls hl => ?_)
      have loop3 : ∀ (kf : Nat) (i : Nat) (ls : Array Slot) (H : Heap) (locs : List Loc), 60 - i = kf → (i ≤ 60) → lv_has ls 3 [(2, .int (nI i)), (1, .int (nI (1 - tN so))), (0, .ref (ad 0))] → Hw D vwCl (TYS cT) A s (MW ad cT im (va_cpy tm me 0 (64 * (1 - tN so)) 64) (va_cpy tr ro 0 (60 * (1 - tN so)) i) up (va_up (va_up ho (tN so) false) (1 - tN so) true) di os ob od on pg tm ts tr ki mo po sr ld st ow nu go la so se sl sp tp rd pn) H locs → W p l e { frames := 1, cells := 0, slots := 0, locals := 21 } s m args below meth c H locs 0 0 Q (F0 m 57 ls []) := by
        intro kf
        induction kf using Nat.strongRecOn with
        | _ kf ih3 =>
        intro i ls H locs hk hi hl hw
        refine lv_iload_n (pc := 57) F.1 F.2.1 d_M_handOver_57 rfl (lv_at hl 0 rfl) ?_
        refine lv_bipush (pc := 58) (v := 60) F.1 F.2.1 d_M_handOver_58 (by decide) ?_
        refine lv_icmp_ge (pc := 60) (tgt := 86) F.1 F.2.1 d_M_handOver_60 rfl (fun h4 => ?_) (fun h4 => ?_)
        · have h4 := (nI_leI (a := 60) (b := i) (by omega) (by omega)).mp h4
          obtain rfl : i = 60 := by omega
          refine lv_aload_n (pc := 86) F.1 F.2.1 d_M_handOver_86 rfl (lv_at hl 2 rfl) ?_
          refine lv_iload_n (pc := 87) F.1 F.2.1 d_M_handOver_87 rfl (lv_at hl 1 rfl) ?_
          refine x_put (pc := 88) (v := .int (nI (1 - tN so))) (ty := .int) (ws' := MW ad cT im (va_cpy tm me 0 (64 * (1 - tN so)) 64) (va_cpy tr ro 0 (60 * (1 - tN so)) 60) up (va_up (va_up ho (tN so) false) (1 - tN so) true) di os ob od on pg tm ts tr ki mo po sr ld st (nI (1 - tN so)) nu go la so se sl sp tp rd pn) F hw 0 7 (fun x h => List.mem_cons_of_mem _ (in_M x h)) ty_M tyok_M nm_M rfl rfl (by decide) (List.mem_cons_of_mem _ m_530) rfl (by decide +kernel) rfl rfl (Nat.le_of_ble_eq_true rfl) d_M_handOver_88 rfl (fun H locs hw => ?_)
          refine lv_aload_n (pc := 91) F.1 F.2.1 d_M_handOver_91 rfl (lv_at hl 2 rfl) ?_
          refine lv_dup (pc := 92) F.1 F.2.1 d_M_handOver_92 rfl ?_
          refine x_get (pc := 93) (v := .int nu) F hw 0 8 (fun x h => List.mem_cons_of_mem _ (in_M x h)) rfl rfl (by decide) (List.mem_cons_of_mem _ m_531) rfl d_M_handOver_93 ?_
          refine lv_iconst (pc := 96) (v := 1) F.1 F.2.1 d_M_handOver_96 (by decide) ?_
          refine lv_iadd (pc := 97) F.1 F.2.1 d_M_handOver_97 ?_
          refine x_put (pc := 98) (v := .int (nu + 1)) (ty := .int) (ws' := MW ad cT im (va_cpy tm me 0 (64 * (1 - tN so)) 64) (va_cpy tr ro 0 (60 * (1 - tN so)) 60) up (va_up (va_up ho (tN so) false) (1 - tN so) true) di os ob od on pg tm ts tr ki mo po sr ld st (nI (1 - tN so)) (nu + 1) go la so se sl sp tp rd pn) F hw 0 8 (fun x h => List.mem_cons_of_mem _ (in_M x h)) ty_M tyok_M nm_M rfl rfl (by decide) (List.mem_cons_of_mem _ m_531) rfl (by decide +kernel) rfl rfl (Nat.le_of_ble_eq_true rfl) d_M_handOver_98 rfl (fun H locs hw => ?_)
          refine lv_aload_n (pc := 101) F.1 F.2.1 d_M_handOver_101 rfl (lv_at hl 2 rfl) ?_
          refine x_get (pc := 102) (v := .ref (ad 3)) F hw 0 2 (fun x h => List.mem_cons_of_mem _ (in_M x h)) rfl rfl (by decide) (List.mem_cons_of_mem _ m_525) rfl d_M_handOver_102 ?_
          refine lv_bipush (pc := 105) (v := 60) F.1 F.2.1 d_M_handOver_105 (by decide) ?_
          refine lv_iload_n (pc := 107) F.1 F.2.1 d_M_handOver_107 rfl (lv_at hl 1 rfl) ?_
          refine lv_imul (pc := 108) F.1 F.2.1 d_M_handOver_108 ?_
          refine x_top (y := nI (60 * (1 - tN so))) (x_mul2 rfl rfl) ?_
          refine lv_bipush (pc := 109) (v := 56) F.1 F.2.1 d_M_handOver_109 (by decide) ?_
          refine lv_iadd (pc := 111) F.1 F.2.1 d_M_handOver_111 ?_
          refine x_top (y := nI (60 * (1 - tN so) + 56)) (x_add2 rfl rfl) ?_
          refine x_iald (pc := 112) F hw 3 0 (60 * (1 - tN so) + 56) rfl rfl rfl (by omega) (by decide) d_M_handOver_112 ?_
          refine lv_iconst (pc := 113) (v := 1) F.1 F.2.1 d_M_handOver_113 (by decide) ?_
          refine lv_icmp_ne (pc := 114) (tgt := 122) F.1 F.2.1 d_M_handOver_114 rfl (fun h5 => ?_) (fun h5 => ?_)
          · refine lv_aload_n (pc := 122) F.1 F.2.1 d_M_handOver_122 rfl (lv_at hl 2 rfl) ?_
            refine x_callv (pc := 123) (wr := []) hw [0, 1, 2, 3, 4, 5, 6, 7, 8, 9, 10, 11, 12, 13, 14, 15, 16, 17, 18, 19] [] rfl rfl (by decide) (by decide) (va_runV (As := []) (rest := []) F (c_M_end l D cT ad im (va_cpy tm me 0 (64 * (1 - tN so)) 64) (va_cpy tr ro 0 (60 * (1 - tN so)) 60) up (va_up (va_up ho (tN so) false) (1 - tN so) true) di os ob od on pg tm ts tr ki mo po sr ld st (nI (1 - tN so)) (nu + 1) go la so se sl sp tp rd pn  _) (x_cw (C := "MovingGuestModel") 0 F (g_all y_M_end b_M_end 1 none (List.mem_cons_of_mem _ m_706)) rfl rfl rfl (F.2.2.2.2 _ (List.mem_cons_of_mem _ m_40)) (F.2.2.2.2 _ (List.mem_cons_of_mem _ m_704)) (F.2.2.2.2 _ (List.mem_cons_of_mem _ m_705)) (F.2.2.2.2 _ (List.mem_cons_of_mem _ m_33)) (by decide +kernel) ⟨by decide, by decide⟩) (hw.preV (q0 := 0) [0, 1, 2, 3, 4, 5, 6, 7, 8, 9, 10, 11, 12, 13, 14, 15, 16, 17, 18, 19] (by decide) rfl rfl rfl) rfl rfl hl.1 rfl (lv_room (Nat.le_of_ble_eq_true rfl)) d_M_handOver_123 ⟨by decide, by decide⟩) (fun u11 H locs e6 hw => ?_)
            obtain ⟨stv7, gov8, tpv9, rdv10⟩ := u11
            have hw : Hw D vwCl (TYS cT) A s (MW ad cT im (va_cpy tm me 0 (64 * (1 - tN so)) 64) (va_cpy tr ro 0 (60 * (1 - tN so)) 60) up (va_up (va_up ho (tN so) false) (1 - tN so) true) di os ob od on pg tm ts tr ki mo po sr ld stv7 (nI (1 - tN so)) (nu + 1) gov8 la so se sl sp tpv9 rdv10 pn) H locs := hw
            cases (show (false, false, false, false) = (stv7, gov8, tpv9, rdv10) from e6)
            refine W.widen (k := 0) (n := 0) (by decide) (by decide) ?_
            exact ret (va_cpy tm me 0 (64 * (1 - tN so)) 64, va_cpy tr ro 0 (60 * (1 - tN so)) 60, va_up (va_up ho (tN so) false) (1 - tN so) true, os, ob, od, on, false, nI (1 - tN so), nu + 1, false, false, false) _ _ 126 _ (by unfold F_M_handOver <;> rw [if_neg h5] <;> rfl) hw d_M_handOver_126
          · refine lv_aload_n (pc := 117) F.1 F.2.1 d_M_handOver_117 rfl (lv_at hl 2 rfl) ?_
            refine lv_iload_n (pc := 118) F.1 F.2.1 d_M_handOver_118 rfl (lv_at hl 1 rfl) ?_
            refine x_callv (pc := 119) (wr := []) hw [0, 1, 2, 3, 4, 5, 6, 7, 8, 9, 10, 11, 12, 13, 14, 15, 16, 17, 18, 19] [] rfl rfl (by decide) (by decide) (va_runV (As := [.int (nI (1 - tN so))]) (rest := []) F (c_M_order l D cT ad im (va_cpy tm me 0 (64 * (1 - tN so)) 64) (va_cpy tr ro 0 (60 * (1 - tN so)) 60) up (va_up (va_up ho (tN so) false) (1 - tN so) true) di os ob od on pg tm ts tr ki mo po sr ld st (nI (1 - tN so)) (nu + 1) go la so se sl sp tp rd pn (1 - tN so) (by omega) _) (x_cw (C := "MovingGuestModel") 1 F (g_all y_M_order b_M_order 2 none (List.mem_cons_of_mem _ m_647)) rfl rfl rfl (F.2.2.2.2 _ (List.mem_cons_of_mem _ m_40)) (F.2.2.2.2 _ (List.mem_cons_of_mem _ m_645)) (F.2.2.2.2 _ (List.mem_cons_of_mem _ m_646)) (F.2.2.2.2 _ (List.mem_cons_of_mem _ m_20)) (by decide +kernel) ⟨by decide, by decide⟩) (hw.preV (q0 := 0) [0, 1, 2, 3, 4, 5, 6, 7, 8, 9, 10, 11, 12, 13, 14, 15, 16, 17, 18, 19] (by decide) rfl rfl rfl) rfl rfl hl.1 rfl (lv_room (Nat.le_of_ble_eq_true rfl)) d_M_handOver_119 ⟨by decide, by decide⟩) (fun u17 H locs e12 hw => ?_)
            obtain ⟨osv13, obv14, odv15, onv16⟩ := u17
            have hw : Hw D vwCl (TYS cT) A s (MW ad cT im (va_cpy tm me 0 (64 * (1 - tN so)) 64) (va_cpy tr ro 0 (60 * (1 - tN so)) 60) up (va_up (va_up ho (tN so) false) (1 - tN so) true) di osv13 obv14 odv15 onv16 pg tm ts tr ki mo po sr ld st (nI (1 - tN so)) (nu + 1) go la so se sl sp tp rd pn) H locs := hw
            cases (show (va_up os (1 - tN so) true, upd ob (1 - tN so) ((va_cpy tr ro 0 (60 * (1 - tN so)) 60) (60 * (1 - tN so) + 57)), upd od (1 - tN so) ((va_cpy tr ro 0 (60 * (1 - tN so)) 60) (60 * (1 - tN so) + 58)), upd on (1 - tN so) (nu + 1)) = (osv13, obv14, odv15, onv16) from e12)
            refine lv_aload_n (pc := 122) F.1 F.2.1 d_M_handOver_122 rfl (lv_at hl 2 rfl) ?_
            refine x_callv (pc := 123) (wr := []) hw [0, 1, 2, 3, 4, 5, 6, 7, 8, 9, 10, 11, 12, 13, 14, 15, 16, 17, 18, 19] [] rfl rfl (by decide) (by decide) (va_runV (As := []) (rest := []) F (c_M_end l D cT ad im (va_cpy tm me 0 (64 * (1 - tN so)) 64) (va_cpy tr ro 0 (60 * (1 - tN so)) 60) up (va_up (va_up ho (tN so) false) (1 - tN so) true) di (va_up os (1 - tN so) true) (upd ob (1 - tN so) ((va_cpy tr ro 0 (60 * (1 - tN so)) 60) (60 * (1 - tN so) + 57))) (upd od (1 - tN so) ((va_cpy tr ro 0 (60 * (1 - tN so)) 60) (60 * (1 - tN so) + 58))) (upd on (1 - tN so) (nu + 1)) pg tm ts tr ki mo po sr ld st (nI (1 - tN so)) (nu + 1) go la so se sl sp tp rd pn  _) (x_cw (C := "MovingGuestModel") 0 F (g_all y_M_end b_M_end 1 none (List.mem_cons_of_mem _ m_706)) rfl rfl rfl (F.2.2.2.2 _ (List.mem_cons_of_mem _ m_40)) (F.2.2.2.2 _ (List.mem_cons_of_mem _ m_704)) (F.2.2.2.2 _ (List.mem_cons_of_mem _ m_705)) (F.2.2.2.2 _ (List.mem_cons_of_mem _ m_33)) (by decide +kernel) ⟨by decide, by decide⟩) (hw.preV (q0 := 0) [0, 1, 2, 3, 4, 5, 6, 7, 8, 9, 10, 11, 12, 13, 14, 15, 16, 17, 18, 19] (by decide) rfl rfl rfl) rfl rfl hl.1 rfl (lv_room (Nat.le_of_ble_eq_true rfl)) d_M_handOver_123 ⟨by decide, by decide⟩) (fun u23 H locs e18 hw => ?_)
            obtain ⟨stv19, gov20, tpv21, rdv22⟩ := u23
            have hw : Hw D vwCl (TYS cT) A s (MW ad cT im (va_cpy tm me 0 (64 * (1 - tN so)) 64) (va_cpy tr ro 0 (60 * (1 - tN so)) 60) up (va_up (va_up ho (tN so) false) (1 - tN so) true) di (va_up os (1 - tN so) true) (upd ob (1 - tN so) ((va_cpy tr ro 0 (60 * (1 - tN so)) 60) (60 * (1 - tN so) + 57))) (upd od (1 - tN so) ((va_cpy tr ro 0 (60 * (1 - tN so)) 60) (60 * (1 - tN so) + 58))) (upd on (1 - tN so) (nu + 1)) pg tm ts tr ki mo po sr ld stv19 (nI (1 - tN so)) (nu + 1) gov20 la so se sl sp tpv21 rdv22 pn) H locs := hw
            cases (show (false, false, false, false) = (stv19, gov20, tpv21, rdv22) from e18)
            refine W.widen (k := 0) (n := 0) (by decide) (by decide) ?_
            exact ret (va_cpy tm me 0 (64 * (1 - tN so)) 64, va_cpy tr ro 0 (60 * (1 - tN so)) 60, va_up (va_up ho (tN so) false) (1 - tN so) true, va_up os (1 - tN so) true, upd ob (1 - tN so) ((va_cpy tr ro 0 (60 * (1 - tN so)) 60) (60 * (1 - tN so) + 57)), upd od (1 - tN so) ((va_cpy tr ro 0 (60 * (1 - tN so)) 60) (60 * (1 - tN so) + 58)), upd on (1 - tN so) (nu + 1), false, nI (1 - tN so), nu + 1, false, false, false) _ _ 126 _ (by unfold F_M_handOver <;> rw [if_pos h5] <;> rfl) hw d_M_handOver_126
        · have h4 : ¬ 60 ≤ i := fun z9 => h4 ((nI_leI (a := 60) (b := i) (by omega) (by omega)).mpr z9)
          refine lv_aload_n (pc := 63) F.1 F.2.1 d_M_handOver_63 rfl (lv_at hl 2 rfl) ?_
          refine x_get (pc := 64) (v := .ref (ad 3)) F hw 0 2 (fun x h => List.mem_cons_of_mem _ (in_M x h)) rfl rfl (by decide) (List.mem_cons_of_mem _ m_525) rfl d_M_handOver_64 ?_
          refine lv_bipush (pc := 67) (v := 60) F.1 F.2.1 d_M_handOver_67 (by decide) ?_
          refine lv_iload_n (pc := 69) F.1 F.2.1 d_M_handOver_69 rfl (lv_at hl 1 rfl) ?_
          refine lv_imul (pc := 70) F.1 F.2.1 d_M_handOver_70 ?_
          refine x_top (y := nI (60 * (1 - tN so))) (x_mul2 rfl rfl) ?_
          refine lv_iload_n (pc := 71) F.1 F.2.1 d_M_handOver_71 rfl (lv_at hl 0 rfl) ?_
          refine lv_iadd (pc := 72) F.1 F.2.1 d_M_handOver_72 ?_
          refine x_top (y := nI (60 * (1 - tN so) + i)) (x_add2 rfl rfl) ?_
          refine lv_aload_n (pc := 73) F.1 F.2.1 d_M_handOver_73 rfl (lv_at hl 2 rfl) ?_
          refine x_get (pc := 74) (v := .ref (ad 14)) F hw 0 24 (fun x h => List.mem_cons_of_mem _ (in_M x h)) rfl rfl (by decide) (List.mem_cons_of_mem _ m_547) rfl d_M_handOver_74 ?_
          refine lv_iload_n (pc := 77) F.1 F.2.1 d_M_handOver_77 rfl (lv_at hl 0 rfl) ?_
          refine x_iald (pc := 78) F hw 14 0 (i) rfl rfl rfl (by omega) (by decide) d_M_handOver_78 ?_
          refine x_iast (pc := 79) (ws' := MW ad cT im (va_cpy tm me 0 (64 * (1 - tN so)) 64) (upd (va_cpy tr ro 0 (60 * (1 - tN so)) i) (60 * (1 - tN so) + i) (tr i)) up (va_up (va_up ho (tN so) false) (1 - tN so) true) di os ob od on pg tm ts tr ki mo po sr ld st ow nu go la so se sl sp tp rd pn) F hw 3 0 (60 * (1 - tN so) + i) rfl rfl rfl (by omega) (by decide) d_M_handOver_79 rfl (fun H locs hw => ?_)
          refine lv_iinc (pc := 80) (k := 0) (v := nI (i + 1)) (lv' := [(2, .int (nI (i + 1))), (1, .int (nI (1 - tN so))), (0, .ref (ad 0))]) F.1 F.2.1 d_M_handOver_80 hl rfl (x_add2 rfl rfl) (by decide) rfl (fun ls hl => ?_)
          refine lv_goto (pc := 83) (tgt := 57) F.1 F.2.1 d_M_handOver_83 rfl ?_
          have ec24 : upd (va_cpy tr ro 0 (60 * (1 - tN so)) i) (60 * (1 - tN so) + i) (tr i) = va_cpy tr ro 0 (60 * (1 - tN so)) (i + 1) := cpy_s2 (by omega) (congrArg tr (by omega))
          rw [ec24] at hw
          exact ih3 _ (by omega) (i + 1) _ _ _ rfl (by omega) hl hw
      have hw := hw
      exact loop3 _ 0 _ _ _ rfl (by omega) hl (by rw [cpy_0]; exact hw)
    · have h2 : ¬ 64 ≤ i := fun z9 => h2 ((nI_leI (a := 64) (b := i) (by omega) (by omega)).mpr z9)
      refine lv_aload_n (pc := 32) F.1 F.2.1 d_M_handOver_32 rfl (lv_at hl 2 rfl) ?_
      refine x_get (pc := 33) (v := .ref (ad 2)) F hw 0 1 (fun x h => List.mem_cons_of_mem _ (in_M x h)) rfl rfl (by decide) (List.mem_cons_of_mem _ m_524) rfl d_M_handOver_33 ?_
      refine lv_bipush (pc := 36) (v := 64) F.1 F.2.1 d_M_handOver_36 (by decide) ?_
      refine lv_iload_n (pc := 38) F.1 F.2.1 d_M_handOver_38 rfl (lv_at hl 1 rfl) ?_
      refine lv_imul (pc := 39) F.1 F.2.1 d_M_handOver_39 ?_
      refine x_top (y := nI (64 * (1 - tN so))) (x_mul2 rfl rfl) ?_
      refine lv_iload_n (pc := 40) F.1 F.2.1 d_M_handOver_40 rfl (lv_at hl 0 rfl) ?_
      refine lv_iadd (pc := 41) F.1 F.2.1 d_M_handOver_41 ?_
      refine x_top (y := nI (64 * (1 - tN so) + i)) (x_add2 rfl rfl) ?_
      refine lv_aload_n (pc := 42) F.1 F.2.1 d_M_handOver_42 rfl (lv_at hl 2 rfl) ?_
      refine x_get (pc := 43) (v := .ref (ad 12)) F hw 0 22 (fun x h => List.mem_cons_of_mem _ (in_M x h)) rfl rfl (by decide) (List.mem_cons_of_mem _ m_545) rfl d_M_handOver_43 ?_
      refine lv_iload_n (pc := 46) F.1 F.2.1 d_M_handOver_46 rfl (lv_at hl 0 rfl) ?_
      refine x_iald (pc := 47) F hw 12 0 (i) rfl rfl rfl (by omega) (by decide) d_M_handOver_47 ?_
      refine x_iast (pc := 48) (ws' := MW ad cT im (upd (va_cpy tm me 0 (64 * (1 - tN so)) i) (64 * (1 - tN so) + i) (tm i)) ro up (va_up (va_up ho (tN so) false) (1 - tN so) true) di os ob od on pg tm ts tr ki mo po sr ld st ow nu go la so se sl sp tp rd pn) F hw 2 0 (64 * (1 - tN so) + i) rfl rfl rfl (by omega) (by decide) d_M_handOver_48 rfl (fun H locs hw => ?_)
      refine lv_iinc (pc := 49) (k := 0) (v := nI (i + 1)) (lv' := [(2, .int (nI (i + 1))), (1, .int (nI (1 - tN so))), (0, .ref (ad 0))]) F.1 F.2.1 d_M_handOver_49 hl rfl (x_add2 rfl rfl) (by decide) rfl (fun ls hl => ?_)
      refine lv_goto (pc := 52) (tgt := 26) F.1 F.2.1 d_M_handOver_52 rfl ?_
      have ec25 : upd (va_cpy tm me 0 (64 * (1 - tN so)) i) (64 * (1 - tN so) + i) (tm i) = va_cpy tm me 0 (64 * (1 - tN so)) (i + 1) := cpy_s2 (by omega) (congrArg tm (by omega))
      rw [ec25] at hw
      exact ih1 _ (by omega) (i + 1) _ _ _ rfl (by omega) hl hw
  have hw := hw
  exact loop1 _ 0 _ _ _ rfl (by omega) hl (by rw [cpy_0]; exact hw)
def F_M_isPiece (pn : Int32) (k : Int32) : Int32 × Unit :=
  if k < 0 then
    (0, ())
  else
    if (nI (tN pn)) ≤ k then
      (0, ())
    else
      (1, ())
set_option maxHeartbeats 4000000 in
set_option maxRecDepth 100000 in
theorem c_M_isPiece (l : Launch) (D : va_G) (cT : Nat → ClassId) (ad : Nat → Nat) (im : Nat → Int32) (me : Nat → Int32) (ro : Nat → Int32) (up : Nat → Bool) (ho : Nat → Bool) (di : Nat → Int32) (os : Nat → Bool) (ob : Nat → Int32) (od : Nat → Int32) (on : Nat → Int32) (pg : Nat → Int32) (tm : Nat → Int32) (ts : Nat → Int32) (tr : Nat → Int32) (ki : Nat → Int32) (mo : Nat → Int32) (po : Nat → Int32) (sr : Nat → Int32) (ld : Nat → Int32) (st : Bool) (ow : Int32) (nu : Int32) (go : Bool) (la : Int32) (so : Int32) (se : Int32) (sl : Int32) (sp : Int32) (tp : Bool) (rd : Bool) (pn : Int32) (k : Int32) (n0 : isN pn 9) : Cti l y_M_isPiece ws_M_isPiece { frames := 0, cells := 0, slots := 0, locals := 0 } D vwCl (TYS cT) [.ref (ad 0), .int k] (MW ad cT im me ro up ho di os ob od on pg tm ts tr ki mo po sr ld st ow nu go la so se sl sp tp rd pn) (fun (rr : Int32) (uu : Unit) => F_M_isPiece pn k = (rr, uu)) (fun (u : Unit) => MW ad cT im me ro up ho di os ob od on pg tm ts tr ki mo po sr ld st ow nu go la so se sl sp tp rd pn) 0 0 := by
  refine x_inz (cc := b_M_isPiece) (maxL := 2) (by decide) rfl (Nat.le_of_ble_eq_true rfl) ?_
  intro p e s m args below meth c A ls Q F hl hw ret
  have hl : lv_has ls 2 [(0, .ref (ad 0)), (1, .int k)] := hl
  have n0b := n0.2
  refine lv_iload_n (pc := 0) F.1 F.2.1 d_M_isPiece_0 rfl (lv_at hl 1 rfl) ?_
  refine lv_if_lt (pc := 1) (tgt := 16) F.1 F.2.1 d_M_isPiece_1 rfl (fun h1 => ?_) (fun h1 => ?_)
  · refine lv_iconst (pc := 16) (v := 0) F.1 F.2.1 d_M_isPiece_16 (by decide) ?_
    refine W.widen (k := 0) (n := 0) (by decide) (by decide) ?_
    exact ret 0 () _ _ 17 _ rfl (by unfold F_M_isPiece <;> rw [if_pos h1] <;> rfl) hw d_M_isPiece_17
  · refine lv_iload_n (pc := 4) F.1 F.2.1 d_M_isPiece_4 rfl (lv_at hl 1 rfl) ?_
    refine lv_aload_n (pc := 5) F.1 F.2.1 d_M_isPiece_5 rfl (lv_at hl 0 rfl) ?_
    refine x_get (pc := 6) (v := .int pn) F hw 0 25 (fun x h => List.mem_cons_of_mem _ (in_M x h)) rfl rfl (by decide) (List.mem_cons_of_mem _ m_548) rfl d_M_isPiece_6 ?_
    refine x_top (y := nI (tN pn)) n0.1 ?_
    refine lv_icmp_ge (pc := 9) (tgt := 16) F.1 F.2.1 d_M_isPiece_9 rfl (fun h2 => ?_) (fun h2 => ?_)
    · refine lv_iconst (pc := 16) (v := 0) F.1 F.2.1 d_M_isPiece_16 (by decide) ?_
      refine W.widen (k := 0) (n := 0) (by decide) (by decide) ?_
      exact ret 0 () _ _ 17 _ rfl (by unfold F_M_isPiece <;> rw [if_neg h1] <;> rw [if_pos h2] <;> rfl) hw d_M_isPiece_17
    · refine lv_iconst (pc := 12) (v := 1) F.1 F.2.1 d_M_isPiece_12 (by decide) ?_
      refine lv_goto (pc := 13) (tgt := 17) F.1 F.2.1 d_M_isPiece_13 rfl ?_
      refine W.widen (k := 0) (n := 0) (by decide) (by decide) ?_
      exact ret 1 () _ _ 17 _ rfl (by unfold F_M_isPiece <;> rw [if_neg h1] <;> rw [if_neg h2] <;> rfl) hw d_M_isPiece_17
theorem isPiece_nat {pn k r : Int32} {u : Unit} (hp : isN pn 9) (e : F_M_isPiece pn k = (r, u)) (hr : ¬ r = 0) : k = nI (tN k) ∧ tN k < tN pn := by
  unfold F_M_isPiece at e
  by_cases h0 : k < 0
  · rw [if_pos h0] at e
    cases e
    exact absurd rfl hr
  · rw [if_neg h0] at e
    by_cases h1 : nI (tN pn) ≤ k
    · rw [if_pos h1] at e
      cases e
      exact absurd rfl hr
    · exact isN_ltn h0 (by have := hp.2; omega) h1
def F_M_copy (ki : Nat → Int32) (mo : Nat → Int32) (po : Nat → Int32) (sr : Nat → Int32) (ld : Nat → Int32) (f0 : Nat) (t0 : Nat) : (Nat → Int32) × (Nat → Int32) × (Nat → Int32) × (Nat → Int32) × (Nat → Int32) :=
  (upd ki t0 (ki f0), upd mo t0 (mo f0), upd po t0 (po f0), upd sr t0 (sr f0), va_cpy ld ld (60 * f0) (60 * t0) 60)
set_option maxHeartbeats 4000000 in
set_option maxRecDepth 100000 in
theorem c_M_copy (l : Launch) (D : va_G) (cT : Nat → ClassId) (ad : Nat → Nat) (im : Nat → Int32) (me : Nat → Int32) (ro : Nat → Int32) (up : Nat → Bool) (ho : Nat → Bool) (di : Nat → Int32) (os : Nat → Bool) (ob : Nat → Int32) (od : Nat → Int32) (on : Nat → Int32) (pg : Nat → Int32) (tm : Nat → Int32) (ts : Nat → Int32) (tr : Nat → Int32) (ki : Nat → Int32) (mo : Nat → Int32) (po : Nat → Int32) (sr : Nat → Int32) (ld : Nat → Int32) (st : Bool) (ow : Int32) (nu : Int32) (go : Bool) (la : Int32) (so : Int32) (se : Int32) (sl : Int32) (sp : Int32) (tp : Bool) (rd : Bool) (pn : Int32) (f0 : Nat) (t0 : Nat) (hf : f0 < 9) (ht : t0 < 9) (hft : f0 ≠ t0) : Ctv l y_M_copy ws_M_copy { frames := 0, cells := 0, slots := 0, locals := 0 } D vwCl (TYS cT) [.ref (ad 0), .int (nI f0), .int (nI t0)] (MW ad cT im me ro up ho di os ob od on pg tm ts tr ki mo po sr ld st ow nu go la so se sl sp tp rd pn) (fun (uu : (Nat → Int32) × (Nat → Int32) × (Nat → Int32) × (Nat → Int32) × (Nat → Int32)) => F_M_copy ki mo po sr ld f0 t0 = uu) (fun (u : (Nat → Int32) × (Nat → Int32) × (Nat → Int32) × (Nat → Int32) × (Nat → Int32)) => MW ad cT im me ro up ho di os ob od on pg tm ts tr u.1 u.2.1 u.2.2.1 u.2.2.2.1 u.2.2.2.2 st ow nu go la so se sl sp tp rd pn) 0 0 := by
  refine x_inv (cc := b_M_copy) (maxL := 4) (by decide) rfl (Nat.le_of_ble_eq_true rfl) ?_
  intro p e s m args below meth c A ls Q F hin hl hw ret
  have hl : lv_has ls 4 [(0, .ref (ad 0)), (1, .int (nI f0)), (2, .int (nI t0))] := hl
  refine lv_aload_n (pc := 0) F.1 F.2.1 d_M_copy_0 rfl (lv_at hl 0 rfl) ?_
  refine x_get (pc := 1) (v := .ref (ad 15)) F hw 0 26 (fun x h => List.mem_cons_of_mem _ (in_M x h)) rfl rfl (by decide) (List.mem_cons_of_mem _ m_549) rfl d_M_copy_1 ?_
  refine lv_iload_n (pc := 4) F.1 F.2.1 d_M_copy_4 rfl (lv_at hl 2 rfl) ?_
  refine lv_aload_n (pc := 5) F.1 F.2.1 d_M_copy_5 rfl (lv_at hl 0 rfl) ?_
  refine x_get (pc := 6) (v := .ref (ad 15)) F hw 0 26 (fun x h => List.mem_cons_of_mem _ (in_M x h)) rfl rfl (by decide) (List.mem_cons_of_mem _ m_549) rfl d_M_copy_6 ?_
  refine lv_iload_n (pc := 9) F.1 F.2.1 d_M_copy_9 rfl (lv_at hl 1 rfl) ?_
  refine x_iald (pc := 10) F hw 15 0 (f0) rfl rfl rfl (by omega) (by decide) d_M_copy_10 ?_
  refine x_iast (pc := 11) (ws' := MW ad cT im me ro up ho di os ob od on pg tm ts tr (upd ki t0 (ki f0)) mo po sr ld st ow nu go la so se sl sp tp rd pn) F hw 15 0 (t0) rfl rfl rfl (by omega) (by decide) d_M_copy_11 rfl (fun H locs hw => ?_)
  refine lv_aload_n (pc := 12) F.1 F.2.1 d_M_copy_12 rfl (lv_at hl 0 rfl) ?_
  refine x_get (pc := 13) (v := .ref (ad 16)) F hw 0 27 (fun x h => List.mem_cons_of_mem _ (in_M x h)) rfl rfl (by decide) (List.mem_cons_of_mem _ m_550) rfl d_M_copy_13 ?_
  refine lv_iload_n (pc := 16) F.1 F.2.1 d_M_copy_16 rfl (lv_at hl 2 rfl) ?_
  refine lv_aload_n (pc := 17) F.1 F.2.1 d_M_copy_17 rfl (lv_at hl 0 rfl) ?_
  refine x_get (pc := 18) (v := .ref (ad 16)) F hw 0 27 (fun x h => List.mem_cons_of_mem _ (in_M x h)) rfl rfl (by decide) (List.mem_cons_of_mem _ m_550) rfl d_M_copy_18 ?_
  refine lv_iload_n (pc := 21) F.1 F.2.1 d_M_copy_21 rfl (lv_at hl 1 rfl) ?_
  refine x_iald (pc := 22) F hw 16 0 (f0) rfl rfl rfl (by omega) (by decide) d_M_copy_22 ?_
  refine x_iast (pc := 23) (ws' := MW ad cT im me ro up ho di os ob od on pg tm ts tr (upd ki t0 (ki f0)) (upd mo t0 (mo f0)) po sr ld st ow nu go la so se sl sp tp rd pn) F hw 16 0 (t0) rfl rfl rfl (by omega) (by decide) d_M_copy_23 rfl (fun H locs hw => ?_)
  refine lv_aload_n (pc := 24) F.1 F.2.1 d_M_copy_24 rfl (lv_at hl 0 rfl) ?_
  refine x_get (pc := 25) (v := .ref (ad 17)) F hw 0 28 (fun x h => List.mem_cons_of_mem _ (in_M x h)) rfl rfl (by decide) (List.mem_cons_of_mem _ m_551) rfl d_M_copy_25 ?_
  refine lv_iload_n (pc := 28) F.1 F.2.1 d_M_copy_28 rfl (lv_at hl 2 rfl) ?_
  refine lv_aload_n (pc := 29) F.1 F.2.1 d_M_copy_29 rfl (lv_at hl 0 rfl) ?_
  refine x_get (pc := 30) (v := .ref (ad 17)) F hw 0 28 (fun x h => List.mem_cons_of_mem _ (in_M x h)) rfl rfl (by decide) (List.mem_cons_of_mem _ m_551) rfl d_M_copy_30 ?_
  refine lv_iload_n (pc := 33) F.1 F.2.1 d_M_copy_33 rfl (lv_at hl 1 rfl) ?_
  refine x_iald (pc := 34) F hw 17 0 (f0) rfl rfl rfl (by omega) (by decide) d_M_copy_34 ?_
  refine x_iast (pc := 35) (ws' := MW ad cT im me ro up ho di os ob od on pg tm ts tr (upd ki t0 (ki f0)) (upd mo t0 (mo f0)) (upd po t0 (po f0)) sr ld st ow nu go la so se sl sp tp rd pn) F hw 17 0 (t0) rfl rfl rfl (by omega) (by decide) d_M_copy_35 rfl (fun H locs hw => ?_)
  refine lv_aload_n (pc := 36) F.1 F.2.1 d_M_copy_36 rfl (lv_at hl 0 rfl) ?_
  refine x_get (pc := 37) (v := .ref (ad 18)) F hw 0 29 (fun x h => List.mem_cons_of_mem _ (in_M x h)) rfl rfl (by decide) (List.mem_cons_of_mem _ m_552) rfl d_M_copy_37 ?_
  refine lv_iload_n (pc := 40) F.1 F.2.1 d_M_copy_40 rfl (lv_at hl 2 rfl) ?_
  refine lv_aload_n (pc := 41) F.1 F.2.1 d_M_copy_41 rfl (lv_at hl 0 rfl) ?_
  refine x_get (pc := 42) (v := .ref (ad 18)) F hw 0 29 (fun x h => List.mem_cons_of_mem _ (in_M x h)) rfl rfl (by decide) (List.mem_cons_of_mem _ m_552) rfl d_M_copy_42 ?_
  refine lv_iload_n (pc := 45) F.1 F.2.1 d_M_copy_45 rfl (lv_at hl 1 rfl) ?_
  refine x_iald (pc := 46) F hw 18 0 (f0) rfl rfl rfl (by omega) (by decide) d_M_copy_46 ?_
  refine x_iast (pc := 47) (ws' := MW ad cT im me ro up ho di os ob od on pg tm ts tr (upd ki t0 (ki f0)) (upd mo t0 (mo f0)) (upd po t0 (po f0)) (upd sr t0 (sr f0)) ld st ow nu go la so se sl sp tp rd pn) F hw 18 0 (t0) rfl rfl rfl (by omega) (by decide) d_M_copy_47 rfl (fun H locs hw => ?_)
  refine lv_iconst (pc := 48) (v := 0) F.1 F.2.1 d_M_copy_48 (by decide) ?_
  refine lv_istore_n (pc := 49) (lv' := [(3, .int 0), (0, .ref (ad 0)), (1, .int (nI f0)), (2, .int (nI t0))]) F.1 F.2.1 d_M_copy_49 rfl hl (by decide) rfl (fun ls hl => ?_)
  have loop1 : ∀ (kf : Nat) (i : Nat) (ls : Array Slot) (H : Heap) (locs : List Loc), 60 - i = kf → (i ≤ 60) → lv_has ls 4 [(3, .int (nI i)), (0, .ref (ad 0)), (1, .int (nI f0)), (2, .int (nI t0))] → Hw D vwCl (TYS cT) A s (MW ad cT im me ro up ho di os ob od on pg tm ts tr (upd ki t0 (ki f0)) (upd mo t0 (mo f0)) (upd po t0 (po f0)) (upd sr t0 (sr f0)) (va_cpy ld ld (60 * f0) (60 * t0) i) st ow nu go la so se sl sp tp rd pn) H locs → W p l e { frames := 0, cells := 0, slots := 0, locals := 0 } s m args below meth c H locs 0 0 Q (F0 m 50 ls []) := by
    intro kf
    induction kf using Nat.strongRecOn with
    | _ kf ih1 =>
    intro i ls H locs hk hi hl hw
    refine lv_iload_n (pc := 50) F.1 F.2.1 d_M_copy_50 rfl (lv_at hl 0 rfl) ?_
    refine lv_bipush (pc := 51) (v := 60) F.1 F.2.1 d_M_copy_51 (by decide) ?_
    refine lv_icmp_ge (pc := 53) (tgt := 84) F.1 F.2.1 d_M_copy_53 rfl (fun h2 => ?_) (fun h2 => ?_)
    · have h2 := (nI_leI (a := 60) (b := i) (by omega) (by omega)).mp h2
      obtain rfl : i = 60 := by omega
      refine W.widen (k := 0) (n := 0) (by decide) (by decide) ?_
      exact ret (upd ki t0 (ki f0), upd mo t0 (mo f0), upd po t0 (po f0), upd sr t0 (sr f0), va_cpy ld ld (60 * f0) (60 * t0) 60) _ _ 84 _ (by unfold F_M_copy <;> rfl) hw d_M_copy_84
    · have h2 : ¬ 60 ≤ i := fun z9 => h2 ((nI_leI (a := 60) (b := i) (by omega) (by omega)).mpr z9)
      refine lv_aload_n (pc := 56) F.1 F.2.1 d_M_copy_56 rfl (lv_at hl 1 rfl) ?_
      refine x_get (pc := 57) (v := .ref (ad 19)) F hw 0 30 (fun x h => List.mem_cons_of_mem _ (in_M x h)) rfl rfl (by decide) (List.mem_cons_of_mem _ m_553) rfl d_M_copy_57 ?_
      refine lv_bipush (pc := 60) (v := 60) F.1 F.2.1 d_M_copy_60 (by decide) ?_
      refine lv_iload_n (pc := 62) F.1 F.2.1 d_M_copy_62 rfl (lv_at hl 3 rfl) ?_
      refine lv_imul (pc := 63) F.1 F.2.1 d_M_copy_63 ?_
      refine x_top (y := nI (60 * t0)) (x_mul2 rfl rfl) ?_
      refine lv_iload_n (pc := 64) F.1 F.2.1 d_M_copy_64 rfl (lv_at hl 0 rfl) ?_
      refine lv_iadd (pc := 65) F.1 F.2.1 d_M_copy_65 ?_
      refine x_top (y := nI (60 * t0 + i)) (x_add2 rfl rfl) ?_
      refine lv_aload_n (pc := 66) F.1 F.2.1 d_M_copy_66 rfl (lv_at hl 1 rfl) ?_
      refine x_get (pc := 67) (v := .ref (ad 19)) F hw 0 30 (fun x h => List.mem_cons_of_mem _ (in_M x h)) rfl rfl (by decide) (List.mem_cons_of_mem _ m_553) rfl d_M_copy_67 ?_
      refine lv_bipush (pc := 70) (v := 60) F.1 F.2.1 d_M_copy_70 (by decide) ?_
      refine lv_iload_n (pc := 72) F.1 F.2.1 d_M_copy_72 rfl (lv_at hl 2 rfl) ?_
      refine lv_imul (pc := 73) F.1 F.2.1 d_M_copy_73 ?_
      refine x_top (y := nI (60 * f0)) (x_mul2 rfl rfl) ?_
      refine lv_iload_n (pc := 74) F.1 F.2.1 d_M_copy_74 rfl (lv_at hl 0 rfl) ?_
      refine lv_iadd (pc := 75) F.1 F.2.1 d_M_copy_75 ?_
      refine x_top (y := nI (60 * f0 + i)) (x_add2 rfl rfl) ?_
      refine x_iald (pc := 76) F hw 19 0 (60 * f0 + i) rfl rfl rfl (by omega) (by decide) d_M_copy_76 ?_
      refine x_top (y := ld (60 * f0 + i)) (pk_cpy_out (by omega)) ?_
      refine x_iast (pc := 77) (ws' := MW ad cT im me ro up ho di os ob od on pg tm ts tr (upd ki t0 (ki f0)) (upd mo t0 (mo f0)) (upd po t0 (po f0)) (upd sr t0 (sr f0)) (upd (va_cpy ld ld (60 * f0) (60 * t0) i) (60 * t0 + i) (ld (60 * f0 + i))) st ow nu go la so se sl sp tp rd pn) F hw 19 0 (60 * t0 + i) rfl rfl rfl (by omega) (by decide) d_M_copy_77 rfl (fun H locs hw => ?_)
      refine lv_iinc (pc := 78) (k := 0) (v := nI (i + 1)) (lv' := [(3, .int (nI (i + 1))), (0, .ref (ad 0)), (1, .int (nI f0)), (2, .int (nI t0))]) F.1 F.2.1 d_M_copy_78 hl rfl (x_add2 rfl rfl) (by decide) rfl (fun ls hl => ?_)
      refine lv_goto (pc := 81) (tgt := 50) F.1 F.2.1 d_M_copy_81 rfl ?_
      have ec3 : upd (va_cpy ld ld (60 * f0) (60 * t0) i) (60 * t0 + i) (ld (60 * f0 + i)) = va_cpy ld ld (60 * f0) (60 * t0) (i + 1) := cpy_s2 (by omega) (congrArg ld (by omega))
      rw [ec3] at hw
      exact ih1 _ (by omega) (i + 1) _ _ _ rfl (by omega) hl hw
  have hw := hw
  exact loop1 _ 0 _ _ _ rfl (by omega) hl (by rw [cpy_0]; exact hw)
def F_M_leave (ki : Nat → Int32) (mo : Nat → Int32) (po : Nat → Int32) (sr : Nat → Int32) (ld : Nat → Int32) (pn : Int32) (k0 : Nat) : (Nat → Int32) × (Nat → Int32) × (Nat → Int32) × (Nat → Int32) × (Nat → Int32) × Int32 :=
  (va_cpy (upd ki 8 (ki k0)) (upd ki 8 (ki k0)) (k0 + 1) k0 (tN pn - 1 - k0), va_cpy (upd mo 8 (mo k0)) (upd mo 8 (mo k0)) (k0 + 1) k0 (tN pn - 1 - k0), va_cpy (upd po 8 (po k0)) (upd po 8 (po k0)) (k0 + 1) k0 (tN pn - 1 - k0), va_cpy (upd sr 8 (sr k0)) (upd sr 8 (sr k0)) (k0 + 1) k0 (tN pn - 1 - k0), va_cpy (va_cpy ld ld (60 * k0) (60 * 8) 60) (va_cpy ld ld (60 * k0) (60 * 8) 60) (60 * (k0 + 1)) (60 * k0) (60 * (tN pn - 1 - k0)), nI (tN pn - 1))
set_option maxHeartbeats 4000000 in
set_option maxRecDepth 100000 in
theorem c_M_leave (l : Launch) (D : va_G) (cT : Nat → ClassId) (ad : Nat → Nat) (im : Nat → Int32) (me : Nat → Int32) (ro : Nat → Int32) (up : Nat → Bool) (ho : Nat → Bool) (di : Nat → Int32) (os : Nat → Bool) (ob : Nat → Int32) (od : Nat → Int32) (on : Nat → Int32) (pg : Nat → Int32) (tm : Nat → Int32) (ts : Nat → Int32) (tr : Nat → Int32) (ki : Nat → Int32) (mo : Nat → Int32) (po : Nat → Int32) (sr : Nat → Int32) (ld : Nat → Int32) (st : Bool) (ow : Int32) (nu : Int32) (go : Bool) (la : Int32) (so : Int32) (se : Int32) (sl : Int32) (sp : Int32) (tp : Bool) (rd : Bool) (pn : Int32) (k0 : Nat) (n0 : isN pn 9) (hk0 : k0 < tN pn) : Ctv l y_M_leave ws_M_leave { frames := 1, cells := 0, slots := 0, locals := 23 } D vwCl (TYS cT) [.ref (ad 0), .int (nI k0)] (MW ad cT im me ro up ho di os ob od on pg tm ts tr ki mo po sr ld st ow nu go la so se sl sp tp rd pn) (fun (uu : (Nat → Int32) × (Nat → Int32) × (Nat → Int32) × (Nat → Int32) × (Nat → Int32) × Int32) => F_M_leave ki mo po sr ld pn k0 = uu) (fun (u : (Nat → Int32) × (Nat → Int32) × (Nat → Int32) × (Nat → Int32) × (Nat → Int32) × Int32) => MW ad cT im me ro up ho di os ob od on pg tm ts tr u.1 u.2.1 u.2.2.1 u.2.2.2.1 u.2.2.2.2.1 st ow nu go la so se sl sp tp rd u.2.2.2.2.2) 0 0 := by
  refine x_inv (cc := b_M_leave) (maxL := 3) (by decide) rfl (Nat.le_of_ble_eq_true rfl) ?_
  intro p e s m args below meth c A ls Q F hin hl hw ret
  have hl : lv_has ls 3 [(0, .ref (ad 0)), (1, .int (nI k0))] := hl
  have n0b := n0.2
  refine lv_aload_n (pc := 0) F.1 F.2.1 d_M_leave_0 rfl (lv_at hl 0 rfl) ?_
  refine lv_iload_n (pc := 1) F.1 F.2.1 d_M_leave_1 rfl (lv_at hl 1 rfl) ?_
  refine lv_bipush (pc := 2) (v := 8) F.1 F.2.1 d_M_leave_2 (by decide) ?_
  refine x_callv (pc := 4) (wr := []) hw [0, 1, 2, 3, 4, 5, 6, 7, 8, 9, 10, 11, 12, 13, 14, 15, 16, 17, 18, 19] [] rfl rfl (by decide) (by decide) (va_runV (As := [.int (nI k0), .int 8]) (rest := []) F (c_M_copy l D cT ad im me ro up ho di os ob od on pg tm ts tr ki mo po sr ld st ow nu go la so se sl sp tp rd pn k0 8 (by omega) (by omega) (by omega) _) (x_cw (C := "MovingGuestModel") 2 F (g_all y_M_copy b_M_copy 4 none (List.mem_cons_of_mem _ m_691)) rfl rfl rfl (F.2.2.2.2 _ (List.mem_cons_of_mem _ m_40)) (F.2.2.2.2 _ (List.mem_cons_of_mem _ m_689)) (F.2.2.2.2 _ (List.mem_cons_of_mem _ m_690)) (F.2.2.2.2 _ (List.mem_cons_of_mem _ m_28)) (by decide +kernel) ⟨by decide, by decide⟩) (hw.preV (q0 := 0) [0, 1, 2, 3, 4, 5, 6, 7, 8, 9, 10, 11, 12, 13, 14, 15, 16, 17, 18, 19] (by decide) rfl rfl rfl) rfl rfl hl.1 rfl (lv_room (Nat.le_of_ble_eq_true rfl)) d_M_leave_4 ⟨by decide, by decide⟩) (fun u7 H locs e1 hw => ?_)
  obtain ⟨kiv2, mov3, pov4, srv5, ldv6⟩ := u7
  have hw : Hw D vwCl (TYS cT) A s (MW ad cT im me ro up ho di os ob od on pg tm ts tr kiv2 mov3 pov4 srv5 ldv6 st ow nu go la so se sl sp tp rd pn) H locs := hw
  cases (show (upd ki 8 (ki k0), upd mo 8 (mo k0), upd po 8 (po k0), upd sr 8 (sr k0), va_cpy ld ld (60 * k0) (60 * 8) 60) = (kiv2, mov3, pov4, srv5, ldv6) from e1)
  refine lv_iload_n (pc := 7) F.1 F.2.1 d_M_leave_7 rfl (lv_at hl 1 rfl) ?_
  refine lv_istore_n (pc := 8) (lv' := [(2, .int (nI k0)), (0, .ref (ad 0)), (1, .int (nI k0))]) F.1 F.2.1 d_M_leave_8 rfl hl (by decide) rfl (fun ls hl => ?_)
  have loop8 : ∀ (kf : Nat) (n : Nat) (ls : Array Slot) (H : Heap) (locs : List Loc), tN pn - n = kf → (k0 + n < tN pn) → lv_has ls 3 [(2, .int (nI (k0 + n))), (0, .ref (ad 0)), (1, .int (nI k0))] → Hw D vwCl (TYS cT) A s (MW ad cT im me ro up ho di os ob od on pg tm ts tr (va_cpy (upd ki 8 (ki k0)) (upd ki 8 (ki k0)) (k0 + 1) k0 n) (va_cpy (upd mo 8 (mo k0)) (upd mo 8 (mo k0)) (k0 + 1) k0 n) (va_cpy (upd po 8 (po k0)) (upd po 8 (po k0)) (k0 + 1) k0 n) (va_cpy (upd sr 8 (sr k0)) (upd sr 8 (sr k0)) (k0 + 1) k0 n) (va_cpy (va_cpy ld ld (60 * k0) (60 * 8) 60) (va_cpy ld ld (60 * k0) (60 * 8) 60) (60 * (k0 + 1)) (60 * k0) (60 * n)) st ow nu go la so se sl sp tp rd pn) H locs → W p l e { frames := 1, cells := 0, slots := 0, locals := 23 } s m args below meth c H locs 0 0 Q (F0 m 9 ls []) := by
    intro kf
    induction kf using Nat.strongRecOn with
    | _ kf ih8 =>
    intro n ls H locs hk hi hl hw
    refine lv_iload_n (pc := 9) F.1 F.2.1 d_M_leave_9 rfl (lv_at hl 0 rfl) ?_
    refine lv_iconst (pc := 10) (v := 1) F.1 F.2.1 d_M_leave_10 (by decide) ?_
    refine lv_iadd (pc := 11) F.1 F.2.1 d_M_leave_11 ?_
    refine x_top (y := nI (k0 + n + 1)) (x_add2 rfl rfl) ?_
    refine lv_aload_n (pc := 12) F.1 F.2.1 d_M_leave_12 rfl (lv_at hl 1 rfl) ?_
    refine x_get (pc := 13) (v := .int pn) F hw 0 25 (fun x h => List.mem_cons_of_mem _ (in_M x h)) rfl rfl (by decide) (List.mem_cons_of_mem _ m_548) rfl d_M_leave_13 ?_
    refine x_top (y := nI (tN pn)) n0.1 ?_
    refine lv_icmp_ge (pc := 16) (tgt := 33) F.1 F.2.1 d_M_leave_16 rfl (fun h9 => ?_) (fun h9 => ?_)
    · have h9 := (nI_leI (a := tN pn) (b := k0 + n + 1) (by omega) (by omega)).mp h9
      obtain rfl : n = tN pn - 1 - k0 := by omega
      refine lv_aload_n (pc := 33) F.1 F.2.1 d_M_leave_33 rfl (lv_at hl 1 rfl) ?_
      refine lv_dup (pc := 34) F.1 F.2.1 d_M_leave_34 rfl ?_
      refine x_get (pc := 35) (v := .int pn) F hw 0 25 (fun x h => List.mem_cons_of_mem _ (in_M x h)) rfl rfl (by decide) (List.mem_cons_of_mem _ m_548) rfl d_M_leave_35 ?_
      refine x_top (y := nI (tN pn)) n0.1 ?_
      refine lv_iconst (pc := 38) (v := 1) F.1 F.2.1 d_M_leave_38 (by decide) ?_
      refine lv_isub (pc := 39) F.1 F.2.1 d_M_leave_39 ?_
      refine x_top (y := nI (tN pn - 1)) (x_sub2 rfl rfl (by omega)) ?_
      refine x_put (pc := 40) (v := .int (nI (tN pn - 1))) (ty := .int) (ws' := MW ad cT im me ro up ho di os ob od on pg tm ts tr (va_cpy (upd ki 8 (ki k0)) (upd ki 8 (ki k0)) (k0 + 1) k0 (tN pn - 1 - k0)) (va_cpy (upd mo 8 (mo k0)) (upd mo 8 (mo k0)) (k0 + 1) k0 (tN pn - 1 - k0)) (va_cpy (upd po 8 (po k0)) (upd po 8 (po k0)) (k0 + 1) k0 (tN pn - 1 - k0)) (va_cpy (upd sr 8 (sr k0)) (upd sr 8 (sr k0)) (k0 + 1) k0 (tN pn - 1 - k0)) (va_cpy (va_cpy ld ld (60 * k0) (60 * 8) 60) (va_cpy ld ld (60 * k0) (60 * 8) 60) (60 * (k0 + 1)) (60 * k0) (60 * (tN pn - 1 - k0))) st ow nu go la so se sl sp tp rd (nI (tN pn - 1))) F hw 0 25 (fun x h => List.mem_cons_of_mem _ (in_M x h)) ty_M tyok_M nm_M rfl rfl (by decide) (List.mem_cons_of_mem _ m_548) rfl (by decide +kernel) rfl rfl (Nat.le_of_ble_eq_true rfl) d_M_leave_40 rfl (fun H locs hw => ?_)
      refine W.widen (k := 0) (n := 0) (by decide) (by decide) ?_
      exact ret (va_cpy (upd ki 8 (ki k0)) (upd ki 8 (ki k0)) (k0 + 1) k0 (tN pn - 1 - k0), va_cpy (upd mo 8 (mo k0)) (upd mo 8 (mo k0)) (k0 + 1) k0 (tN pn - 1 - k0), va_cpy (upd po 8 (po k0)) (upd po 8 (po k0)) (k0 + 1) k0 (tN pn - 1 - k0), va_cpy (upd sr 8 (sr k0)) (upd sr 8 (sr k0)) (k0 + 1) k0 (tN pn - 1 - k0), va_cpy (va_cpy ld ld (60 * k0) (60 * 8) 60) (va_cpy ld ld (60 * k0) (60 * 8) 60) (60 * (k0 + 1)) (60 * k0) (60 * (tN pn - 1 - k0)), nI (tN pn - 1)) _ _ 43 _ (by unfold F_M_leave <;> rfl) hw d_M_leave_43
    · have h9 : ¬ tN pn ≤ k0 + n + 1 := fun z9 => h9 ((nI_leI (a := tN pn) (b := k0 + n + 1) (by omega) (by omega)).mpr z9)
      refine lv_aload_n (pc := 19) F.1 F.2.1 d_M_leave_19 rfl (lv_at hl 1 rfl) ?_
      refine lv_iload_n (pc := 20) F.1 F.2.1 d_M_leave_20 rfl (lv_at hl 0 rfl) ?_
      refine lv_iconst (pc := 21) (v := 1) F.1 F.2.1 d_M_leave_21 (by decide) ?_
      refine lv_iadd (pc := 22) F.1 F.2.1 d_M_leave_22 ?_
      refine x_top (y := nI (k0 + n + 1)) (x_add2 rfl rfl) ?_
      refine lv_iload_n (pc := 23) F.1 F.2.1 d_M_leave_23 rfl (lv_at hl 0 rfl) ?_
      refine x_callv (pc := 24) (wr := []) hw [0, 1, 2, 3, 4, 5, 6, 7, 8, 9, 10, 11, 12, 13, 14, 15, 16, 17, 18, 19] [] rfl rfl (by decide) (by decide) (va_runV (As := [.int (nI (k0 + n + 1)), .int (nI (k0 + n))]) (rest := []) F (c_M_copy l D cT ad im me ro up ho di os ob od on pg tm ts tr (va_cpy (upd ki 8 (ki k0)) (upd ki 8 (ki k0)) (k0 + 1) k0 n) (va_cpy (upd mo 8 (mo k0)) (upd mo 8 (mo k0)) (k0 + 1) k0 n) (va_cpy (upd po 8 (po k0)) (upd po 8 (po k0)) (k0 + 1) k0 n) (va_cpy (upd sr 8 (sr k0)) (upd sr 8 (sr k0)) (k0 + 1) k0 n) (va_cpy (va_cpy ld ld (60 * k0) (60 * 8) 60) (va_cpy ld ld (60 * k0) (60 * 8) 60) (60 * (k0 + 1)) (60 * k0) (60 * n)) st ow nu go la so se sl sp tp rd pn (k0 + n + 1) (k0 + n) (by omega) (by omega) (by omega) _) (x_cw (C := "MovingGuestModel") 2 F (g_all y_M_copy b_M_copy 4 none (List.mem_cons_of_mem _ m_691)) rfl rfl rfl (F.2.2.2.2 _ (List.mem_cons_of_mem _ m_40)) (F.2.2.2.2 _ (List.mem_cons_of_mem _ m_689)) (F.2.2.2.2 _ (List.mem_cons_of_mem _ m_690)) (F.2.2.2.2 _ (List.mem_cons_of_mem _ m_28)) (by decide +kernel) ⟨by decide, by decide⟩) (hw.preV (q0 := 0) [0, 1, 2, 3, 4, 5, 6, 7, 8, 9, 10, 11, 12, 13, 14, 15, 16, 17, 18, 19] (by decide) rfl rfl rfl) rfl rfl hl.1 rfl (lv_room (Nat.le_of_ble_eq_true rfl)) d_M_leave_24 ⟨by decide, by decide⟩) (fun u16 H locs e10 hw => ?_)
      obtain ⟨kiv11, mov12, pov13, srv14, ldv15⟩ := u16
      have hw : Hw D vwCl (TYS cT) A s (MW ad cT im me ro up ho di os ob od on pg tm ts tr kiv11 mov12 pov13 srv14 ldv15 st ow nu go la so se sl sp tp rd pn) H locs := hw
      cases (show (upd (va_cpy (upd ki 8 (ki k0)) (upd ki 8 (ki k0)) (k0 + 1) k0 n) (k0 + n) ((va_cpy (upd ki 8 (ki k0)) (upd ki 8 (ki k0)) (k0 + 1) k0 n) (k0 + n + 1)), upd (va_cpy (upd mo 8 (mo k0)) (upd mo 8 (mo k0)) (k0 + 1) k0 n) (k0 + n) ((va_cpy (upd mo 8 (mo k0)) (upd mo 8 (mo k0)) (k0 + 1) k0 n) (k0 + n + 1)), upd (va_cpy (upd po 8 (po k0)) (upd po 8 (po k0)) (k0 + 1) k0 n) (k0 + n) ((va_cpy (upd po 8 (po k0)) (upd po 8 (po k0)) (k0 + 1) k0 n) (k0 + n + 1)), upd (va_cpy (upd sr 8 (sr k0)) (upd sr 8 (sr k0)) (k0 + 1) k0 n) (k0 + n) ((va_cpy (upd sr 8 (sr k0)) (upd sr 8 (sr k0)) (k0 + 1) k0 n) (k0 + n + 1)), va_cpy (va_cpy (va_cpy ld ld (60 * k0) (60 * 8) 60) (va_cpy ld ld (60 * k0) (60 * 8) 60) (60 * (k0 + 1)) (60 * k0) (60 * n)) (va_cpy (va_cpy ld ld (60 * k0) (60 * 8) 60) (va_cpy ld ld (60 * k0) (60 * 8) 60) (60 * (k0 + 1)) (60 * k0) (60 * n)) (60 * (k0 + n + 1)) (60 * (k0 + n)) 60) = (kiv11, mov12, pov13, srv14, ldv15) from e10)
      refine lv_iinc (pc := 27) (k := 0) (v := nI (k0 + n + 1)) (lv' := [(2, .int (nI (k0 + n + 1))), (0, .ref (ad 0)), (1, .int (nI k0))]) F.1 F.2.1 d_M_leave_27 hl rfl (x_add2 rfl rfl) (by decide) rfl (fun ls hl => ?_)
      refine lv_goto (pc := 30) (tgt := 9) F.1 F.2.1 d_M_leave_30 rfl ?_
      have ec17 : upd (va_cpy (upd ki 8 (ki k0)) (upd ki 8 (ki k0)) (k0 + 1) k0 n) (k0 + n) ((va_cpy (upd ki 8 (ki k0)) (upd ki 8 (ki k0)) (k0 + 1) k0 n) (k0 + n + 1)) = va_cpy (upd ki 8 (ki k0)) (upd ki 8 (ki k0)) (k0 + 1) k0 (n + 1) := cpy_s2 rfl ((pk_cpy_out (by omega)).trans (congrArg (upd ki 8 (ki k0)) (by omega)))
      rw [ec17] at hw
      have ec18 : upd (va_cpy (upd mo 8 (mo k0)) (upd mo 8 (mo k0)) (k0 + 1) k0 n) (k0 + n) ((va_cpy (upd mo 8 (mo k0)) (upd mo 8 (mo k0)) (k0 + 1) k0 n) (k0 + n + 1)) = va_cpy (upd mo 8 (mo k0)) (upd mo 8 (mo k0)) (k0 + 1) k0 (n + 1) := cpy_s2 rfl ((pk_cpy_out (by omega)).trans (congrArg (upd mo 8 (mo k0)) (by omega)))
      rw [ec18] at hw
      have ec19 : upd (va_cpy (upd po 8 (po k0)) (upd po 8 (po k0)) (k0 + 1) k0 n) (k0 + n) ((va_cpy (upd po 8 (po k0)) (upd po 8 (po k0)) (k0 + 1) k0 n) (k0 + n + 1)) = va_cpy (upd po 8 (po k0)) (upd po 8 (po k0)) (k0 + 1) k0 (n + 1) := cpy_s2 rfl ((pk_cpy_out (by omega)).trans (congrArg (upd po 8 (po k0)) (by omega)))
      rw [ec19] at hw
      have ec20 : upd (va_cpy (upd sr 8 (sr k0)) (upd sr 8 (sr k0)) (k0 + 1) k0 n) (k0 + n) ((va_cpy (upd sr 8 (sr k0)) (upd sr 8 (sr k0)) (k0 + 1) k0 n) (k0 + n + 1)) = va_cpy (upd sr 8 (sr k0)) (upd sr 8 (sr k0)) (k0 + 1) k0 (n + 1) := cpy_s2 rfl ((pk_cpy_out (by omega)).trans (congrArg (upd sr 8 (sr k0)) (by omega)))
      rw [ec20] at hw
      have ec21 : va_cpy (va_cpy (va_cpy ld ld (60 * k0) (60 * 8) 60) (va_cpy ld ld (60 * k0) (60 * 8) 60) (60 * (k0 + 1)) (60 * k0) (60 * n)) (va_cpy (va_cpy ld ld (60 * k0) (60 * 8) 60) (va_cpy ld ld (60 * k0) (60 * 8) 60) (60 * (k0 + 1)) (60 * k0) (60 * n)) (60 * (k0 + n + 1)) (60 * (k0 + n)) 60 = va_cpy (va_cpy ld ld (60 * k0) (60 * 8) 60) (va_cpy ld ld (60 * k0) (60 * 8) 60) (60 * (k0 + 1)) (60 * k0) (60 * (n + 1)) := cpy_blk (by omega) (by omega) (by omega) (by omega)
      rw [ec21] at hw
      have ec22 : nI (k0 + n + 1) = nI (k0 + (n + 1)) := rfl
      rw [ec22] at hl
      exact ih8 _ (by omega) (n + 1) _ _ _ rfl (by omega) hl hw
  exact loop8 _ 0 _ _ _ rfl (by omega) hl (by rw [cpy_0, cpy_0, cpy_0, cpy_0, Nat.mul_zero, cpy_0]; exact hw)
def F_M_holder (ho : Nat → Bool) : Int32 × Unit :=
  if ho 0 = true then
    (0, ())
  else
    if ho 1 = true then
      (1, ())
    else
      ((-2), ())
set_option maxHeartbeats 4000000 in
set_option maxRecDepth 100000 in
theorem c_M_holder (l : Launch) (D : va_G) (cT : Nat → ClassId) (ad : Nat → Nat) (im : Nat → Int32) (me : Nat → Int32) (ro : Nat → Int32) (up : Nat → Bool) (ho : Nat → Bool) (di : Nat → Int32) (os : Nat → Bool) (ob : Nat → Int32) (od : Nat → Int32) (on : Nat → Int32) (pg : Nat → Int32) (tm : Nat → Int32) (ts : Nat → Int32) (tr : Nat → Int32) (ki : Nat → Int32) (mo : Nat → Int32) (po : Nat → Int32) (sr : Nat → Int32) (ld : Nat → Int32) (st : Bool) (ow : Int32) (nu : Int32) (go : Bool) (la : Int32) (so : Int32) (se : Int32) (sl : Int32) (sp : Int32) (tp : Bool) (rd : Bool) (pn : Int32)  : Cti l y_M_holder ws_M_holder { frames := 0, cells := 0, slots := 0, locals := 0 } D vwCl (TYS cT) [.ref (ad 0)] (MW ad cT im me ro up ho di os ob od on pg tm ts tr ki mo po sr ld st ow nu go la so se sl sp tp rd pn) (fun (rr : Int32) (uu : Unit) => F_M_holder ho = (rr, uu)) (fun (u : Unit) => MW ad cT im me ro up ho di os ob od on pg tm ts tr ki mo po sr ld st ow nu go la so se sl sp tp rd pn) 0 0 := by
  refine x_ini (cc := b_M_holder) (maxL := 1) (by decide) rfl (Nat.le_of_ble_eq_true rfl) ?_
  intro p e s m args below meth c A ls Q F hl hw ret
  have hl : lv_has ls 1 [(0, .ref (ad 0))] := hl
  refine lv_aload_n (pc := 0) F.1 F.2.1 d_M_holder_0 rfl (lv_at hl 0 rfl) ?_
  refine x_get (pc := 1) (v := .ref (ad 5)) F hw 0 4 (fun x h => List.mem_cons_of_mem _ (in_M x h)) rfl rfl (by decide) (List.mem_cons_of_mem _ m_527) rfl d_M_holder_1 ?_
  refine lv_iconst (pc := 4) (v := 0) F.1 F.2.1 d_M_holder_4 (by decide) ?_
  refine x_zaldB (pc := 5) F hw 5 1 (0) rfl rfl rfl (by omega) (by decide) d_M_holder_5 ?_
  refine x_ifeqB (pc := 6) (tgt := 13) F d_M_holder_6 rfl (fun h1 => ?_) (fun h1 => ?_)
  · refine lv_aload_n (pc := 13) F.1 F.2.1 d_M_holder_13 rfl (lv_at hl 0 rfl) ?_
    refine x_get (pc := 14) (v := .ref (ad 5)) F hw 0 4 (fun x h => List.mem_cons_of_mem _ (in_M x h)) rfl rfl (by decide) (List.mem_cons_of_mem _ m_527) rfl d_M_holder_14 ?_
    refine lv_iconst (pc := 17) (v := 1) F.1 F.2.1 d_M_holder_17 (by decide) ?_
    refine x_zaldB (pc := 18) F hw 5 1 (1) rfl rfl rfl (by omega) (by decide) d_M_holder_18 ?_
    refine x_ifeqB (pc := 19) (tgt := 26) F d_M_holder_19 rfl (fun h2 => ?_) (fun h2 => ?_)
    · refine lv_bipush (pc := 26) (v := (-2)) F.1 F.2.1 d_M_holder_26 (by decide) ?_
      refine W.widen (k := 0) (n := 0) (by decide) (by decide) ?_
      exact ret (-2) () _ _ 28 _ (by unfold F_M_holder <;> rw [if_neg h1] <;> rw [if_neg h2] <;> rfl) hw d_M_holder_28
    · refine lv_iconst (pc := 22) (v := 1) F.1 F.2.1 d_M_holder_22 (by decide) ?_
      refine lv_goto (pc := 23) (tgt := 28) F.1 F.2.1 d_M_holder_23 rfl ?_
      refine W.widen (k := 0) (n := 0) (by decide) (by decide) ?_
      exact ret 1 () _ _ 28 _ (by unfold F_M_holder <;> rw [if_neg h1] <;> rw [if_pos h2] <;> rfl) hw d_M_holder_28
  · refine lv_iconst (pc := 9) (v := 0) F.1 F.2.1 d_M_holder_9 (by decide) ?_
    refine lv_goto (pc := 10) (tgt := 28) F.1 F.2.1 d_M_holder_10 rfl ?_
    refine W.widen (k := 0) (n := 0) (by decide) (by decide) ?_
    exact ret 0 () _ _ 28 _ (by unfold F_M_holder <;> rw [if_pos h1] <;> rfl) hw d_M_holder_28
def F_M_isUp (up : Nat → Bool) (host : Int32) : Int32 × Unit :=
  match F_M_isHost host with
  | (r2, _) =>
    if r2 = 0 then
      (0, ())
    else
      if up (tN host) = true then
        (1, ())
      else
        (0, ())
set_option maxHeartbeats 4000000 in
set_option maxRecDepth 100000 in
theorem c_M_isUp (l : Launch) (D : va_G) (cT : Nat → ClassId) (ad : Nat → Nat) (im : Nat → Int32) (me : Nat → Int32) (ro : Nat → Int32) (up : Nat → Bool) (ho : Nat → Bool) (di : Nat → Int32) (os : Nat → Bool) (ob : Nat → Int32) (od : Nat → Int32) (on : Nat → Int32) (pg : Nat → Int32) (tm : Nat → Int32) (ts : Nat → Int32) (tr : Nat → Int32) (ki : Nat → Int32) (mo : Nat → Int32) (po : Nat → Int32) (sr : Nat → Int32) (ld : Nat → Int32) (st : Bool) (ow : Int32) (nu : Int32) (go : Bool) (la : Int32) (so : Int32) (se : Int32) (sl : Int32) (sp : Int32) (tp : Bool) (rd : Bool) (pn : Int32) (host : Int32)  : Cti l y_M_isUp ws_M_isUp { frames := 1, cells := 0, slots := 0, locals := 20 } D vwCl (TYS cT) [.ref (ad 0), .int host] (MW ad cT im me ro up ho di os ob od on pg tm ts tr ki mo po sr ld st ow nu go la so se sl sp tp rd pn) (fun (rr : Int32) (uu : Unit) => F_M_isUp up host = (rr, uu)) (fun (u : Unit) => MW ad cT im me ro up ho di os ob od on pg tm ts tr ki mo po sr ld st ow nu go la so se sl sp tp rd pn) 0 0 := by
  refine x_inz (cc := b_M_isUp) (maxL := 2) (by decide) rfl (Nat.le_of_ble_eq_true rfl) ?_
  intro p e s m args below meth c A ls Q F hl hw ret
  have hl : lv_has ls 2 [(0, .ref (ad 0)), (1, .int host)] := hl
  refine lv_iload_n (pc := 0) F.1 F.2.1 d_M_isUp_0 rfl (lv_at hl 1 rfl) ?_
  refine x_calli (pc := 1) (wr := [(ad 0, .inr (6, [.ref (ad 1), .ref (ad 2), .ref (ad 3), .ref (ad 4), .ref (ad 5), .int (bI st), .ref (ad 6), .int ow, .int nu, .ref (ad 7), .ref (ad 8), .ref (ad 9), .ref (ad 10), .int (bI go), .int la, .int so, .ref (ad 11), .int se, .int sl, .int sp, .int (bI tp), .int (bI rd), .ref (ad 12), .ref (ad 13), .ref (ad 14), .int pn, .ref (ad 15), .ref (ad 16), .ref (ad 17), .ref (ad 18), .ref (ad 19)])), (ad 1, .inl (cT 0, 64, .inl im)), (ad 2, .inl (cT 0, 128, .inl me)), (ad 3, .inl (cT 0, 120, .inl ro)), (ad 4, .inl (cT 1, 2, .inl (fun j => bI (up j)))), (ad 5, .inl (cT 1, 2, .inl (fun j => bI (ho j)))), (ad 6, .inl (cT 0, 8, .inl di)), (ad 7, .inl (cT 1, 2, .inl (fun j => bI (os j)))), (ad 8, .inl (cT 0, 2, .inl ob)), (ad 9, .inl (cT 0, 2, .inl od)), (ad 10, .inl (cT 0, 2, .inl on)), (ad 11, .inl (cT 0, 8, .inl pg)), (ad 12, .inl (cT 0, 64, .inl tm)), (ad 13, .inl (cT 0, 8, .inl ts)), (ad 14, .inl (cT 0, 60, .inl tr)), (ad 15, .inl (cT 0, 9, .inl ki)), (ad 16, .inl (cT 0, 9, .inl mo)), (ad 17, .inl (cT 0, 9, .inl po)), (ad 18, .inl (cT 0, 9, .inl sr)), (ad 19, .inl (cT 0, 540, .inl ld))]) hw [] [0, 1, 2, 3, 4, 5, 6, 7, 8, 9, 10, 11, 12, 13, 14, 15, 16, 17, 18, 19] rfl rfl (by decide) (by decide) (va_runS (As := [.int host]) (rest := []) F (c_M_isHost l D cT host  _) (x_cwS 1 F (g_all y_M_isHost b_M_isHost 1 (some .boolean) (List.mem_cons_of_mem _ m_628)) rfl rfl rfl (F.2.2.2.2 _ (List.mem_cons_of_mem _ m_40)) (F.2.2.2.2 _ (List.mem_cons_of_mem _ m_626)) (F.2.2.2.2 _ (List.mem_cons_of_mem _ m_627)) (by decide +kernel) ⟨by decide, by decide⟩) (hw.preS [] (by decide) rfl) rfl rfl hl.1 rfl (lv_room (Nat.le_of_ble_eq_true rfl)) d_M_isUp_1 ⟨by decide, by decide⟩) (fun r2 u3 H locs e1 hw => ?_)
  have hw : Hw D vwCl (TYS cT) A s (MW ad cT im me ro up ho di os ob od on pg tm ts tr ki mo po sr ld st ow nu go la so se sl sp tp rd pn) H locs := hw
  refine lv_if_eq (pc := 4) (tgt := 20) F.1 F.2.1 d_M_isUp_4 rfl (fun h4 => ?_) (fun h4 => ?_)
  · refine lv_iconst (pc := 20) (v := 0) F.1 F.2.1 d_M_isUp_20 (by decide) ?_
    refine W.widen (k := 0) (n := 0) (by decide) (by decide) ?_
    exact ret 0 () _ _ 21 _ rfl (by unfold F_M_isUp <;> rw [e1] <;> (try dsimp only) <;> rw [if_pos h4] <;> rfl) hw d_M_isUp_21
  · have nh := isHost_nat e1 h4
    have nhb := nh.2
    refine lv_aload_n (pc := 7) F.1 F.2.1 d_M_isUp_7 rfl (lv_at hl 0 rfl) ?_
    refine x_get (pc := 8) (v := .ref (ad 4)) F hw 0 3 (fun x h => List.mem_cons_of_mem _ (in_M x h)) rfl rfl (by decide) (List.mem_cons_of_mem _ m_526) rfl d_M_isUp_8 ?_
    refine lv_iload_n (pc := 11) F.1 F.2.1 d_M_isUp_11 rfl (lv_at hl 1 rfl) ?_
    refine x_top (y := nI (tN host)) nh.1 ?_
    refine x_zaldB (pc := 12) F hw 4 1 (tN host) rfl rfl rfl (by omega) (by decide) d_M_isUp_12 ?_
    refine x_ifeqB (pc := 13) (tgt := 20) F d_M_isUp_13 rfl (fun h5 => ?_) (fun h5 => ?_)
    · refine lv_iconst (pc := 20) (v := 0) F.1 F.2.1 d_M_isUp_20 (by decide) ?_
      refine W.widen (k := 0) (n := 0) (by decide) (by decide) ?_
      exact ret 0 () _ _ 21 _ rfl (by unfold F_M_isUp <;> rw [e1] <;> (try dsimp only) <;> rw [if_neg h4] <;> rw [if_neg h5] <;> rfl) hw d_M_isUp_21
    · refine lv_iconst (pc := 16) (v := 1) F.1 F.2.1 d_M_isUp_16 (by decide) ?_
      refine lv_goto (pc := 17) (tgt := 21) F.1 F.2.1 d_M_isUp_17 rfl ?_
      refine W.widen (k := 0) (n := 0) (by decide) (by decide) ?_
      exact ret 1 () _ _ 21 _ rfl (by unfold F_M_isUp <;> rw [e1] <;> (try dsimp only) <;> rw [if_neg h4] <;> rw [if_pos h5] <;> rfl) hw d_M_isUp_21
def F_M_back (up : Nat → Bool) (host : Int32) : Int32 × (Nat → Bool) :=
  match F_M_isHost host with
  | (r2, _) =>
    if r2 = 0 then
      (0, up)
    else
      if up (tN host) = true then
        (0, up)
      else
        (1, va_up up (tN host) true)
set_option maxHeartbeats 4000000 in
set_option maxRecDepth 100000 in
theorem c_M_back (l : Launch) (D : va_G) (cT : Nat → ClassId) (ad : Nat → Nat) (im : Nat → Int32) (me : Nat → Int32) (ro : Nat → Int32) (up : Nat → Bool) (ho : Nat → Bool) (di : Nat → Int32) (os : Nat → Bool) (ob : Nat → Int32) (od : Nat → Int32) (on : Nat → Int32) (pg : Nat → Int32) (tm : Nat → Int32) (ts : Nat → Int32) (tr : Nat → Int32) (ki : Nat → Int32) (mo : Nat → Int32) (po : Nat → Int32) (sr : Nat → Int32) (ld : Nat → Int32) (st : Bool) (ow : Int32) (nu : Int32) (go : Bool) (la : Int32) (so : Int32) (se : Int32) (sl : Int32) (sp : Int32) (tp : Bool) (rd : Bool) (pn : Int32) (host : Int32)  : Cti l y_M_back ws_M_back { frames := 1, cells := 0, slots := 0, locals := 20 } D vwCl (TYS cT) [.ref (ad 0), .int host] (MW ad cT im me ro up ho di os ob od on pg tm ts tr ki mo po sr ld st ow nu go la so se sl sp tp rd pn) (fun (rr : Int32) (uu : (Nat → Bool)) => F_M_back up host = (rr, uu)) (fun (u : (Nat → Bool)) => MW ad cT im me ro u ho di os ob od on pg tm ts tr ki mo po sr ld st ow nu go la so se sl sp tp rd pn) 0 0 := by
  refine x_inz (cc := b_M_back) (maxL := 2) (by decide) rfl (Nat.le_of_ble_eq_true rfl) ?_
  intro p e s m args below meth c A ls Q F hl hw ret
  have hl : lv_has ls 2 [(0, .ref (ad 0)), (1, .int host)] := hl
  refine lv_iload_n (pc := 0) F.1 F.2.1 d_M_back_0 rfl (lv_at hl 1 rfl) ?_
  refine x_calli (pc := 1) (wr := [(ad 0, .inr (6, [.ref (ad 1), .ref (ad 2), .ref (ad 3), .ref (ad 4), .ref (ad 5), .int (bI st), .ref (ad 6), .int ow, .int nu, .ref (ad 7), .ref (ad 8), .ref (ad 9), .ref (ad 10), .int (bI go), .int la, .int so, .ref (ad 11), .int se, .int sl, .int sp, .int (bI tp), .int (bI rd), .ref (ad 12), .ref (ad 13), .ref (ad 14), .int pn, .ref (ad 15), .ref (ad 16), .ref (ad 17), .ref (ad 18), .ref (ad 19)])), (ad 1, .inl (cT 0, 64, .inl im)), (ad 2, .inl (cT 0, 128, .inl me)), (ad 3, .inl (cT 0, 120, .inl ro)), (ad 4, .inl (cT 1, 2, .inl (fun j => bI (up j)))), (ad 5, .inl (cT 1, 2, .inl (fun j => bI (ho j)))), (ad 6, .inl (cT 0, 8, .inl di)), (ad 7, .inl (cT 1, 2, .inl (fun j => bI (os j)))), (ad 8, .inl (cT 0, 2, .inl ob)), (ad 9, .inl (cT 0, 2, .inl od)), (ad 10, .inl (cT 0, 2, .inl on)), (ad 11, .inl (cT 0, 8, .inl pg)), (ad 12, .inl (cT 0, 64, .inl tm)), (ad 13, .inl (cT 0, 8, .inl ts)), (ad 14, .inl (cT 0, 60, .inl tr)), (ad 15, .inl (cT 0, 9, .inl ki)), (ad 16, .inl (cT 0, 9, .inl mo)), (ad 17, .inl (cT 0, 9, .inl po)), (ad 18, .inl (cT 0, 9, .inl sr)), (ad 19, .inl (cT 0, 540, .inl ld))]) hw [] [0, 1, 2, 3, 4, 5, 6, 7, 8, 9, 10, 11, 12, 13, 14, 15, 16, 17, 18, 19] rfl rfl (by decide) (by decide) (va_runS (As := [.int host]) (rest := []) F (c_M_isHost l D cT host  _) (x_cwS 1 F (g_all y_M_isHost b_M_isHost 1 (some .boolean) (List.mem_cons_of_mem _ m_628)) rfl rfl rfl (F.2.2.2.2 _ (List.mem_cons_of_mem _ m_40)) (F.2.2.2.2 _ (List.mem_cons_of_mem _ m_626)) (F.2.2.2.2 _ (List.mem_cons_of_mem _ m_627)) (by decide +kernel) ⟨by decide, by decide⟩) (hw.preS [] (by decide) rfl) rfl rfl hl.1 rfl (lv_room (Nat.le_of_ble_eq_true rfl)) d_M_back_1 ⟨by decide, by decide⟩) (fun r2 u3 H locs e1 hw => ?_)
  have hw : Hw D vwCl (TYS cT) A s (MW ad cT im me ro up ho di os ob od on pg tm ts tr ki mo po sr ld st ow nu go la so se sl sp tp rd pn) H locs := hw
  refine lv_if_eq (pc := 4) (tgt := 16) F.1 F.2.1 d_M_back_4 rfl (fun h4 => ?_) (fun h4 => ?_)
  · refine lv_iconst (pc := 16) (v := 0) F.1 F.2.1 d_M_back_16 (by decide) ?_
    refine W.widen (k := 0) (n := 0) (by decide) (by decide) ?_
    exact ret 0 up _ _ 17 _ rfl (by unfold F_M_back <;> rw [e1] <;> (try dsimp only) <;> rw [if_pos h4] <;> rfl) hw d_M_back_17
  · have nh := isHost_nat e1 h4
    have nhb := nh.2
    refine lv_aload_n (pc := 7) F.1 F.2.1 d_M_back_7 rfl (lv_at hl 0 rfl) ?_
    refine x_get (pc := 8) (v := .ref (ad 4)) F hw 0 3 (fun x h => List.mem_cons_of_mem _ (in_M x h)) rfl rfl (by decide) (List.mem_cons_of_mem _ m_526) rfl d_M_back_8 ?_
    refine lv_iload_n (pc := 11) F.1 F.2.1 d_M_back_11 rfl (lv_at hl 1 rfl) ?_
    refine x_top (y := nI (tN host)) nh.1 ?_
    refine x_zaldB (pc := 12) F hw 4 1 (tN host) rfl rfl rfl (by omega) (by decide) d_M_back_12 ?_
    refine x_ifeqB (pc := 13) (tgt := 18) F d_M_back_13 rfl (fun h5 => ?_) (fun h5 => ?_)
    · refine lv_aload_n (pc := 18) F.1 F.2.1 d_M_back_18 rfl (lv_at hl 0 rfl) ?_
      refine x_get (pc := 19) (v := .ref (ad 4)) F hw 0 3 (fun x h => List.mem_cons_of_mem _ (in_M x h)) rfl rfl (by decide) (List.mem_cons_of_mem _ m_526) rfl d_M_back_19 ?_
      refine lv_iload_n (pc := 22) F.1 F.2.1 d_M_back_22 rfl (lv_at hl 1 rfl) ?_
      refine x_top (y := nI (tN host)) nh.1 ?_
      refine lv_iconst (pc := 23) (v := 1) F.1 F.2.1 d_M_back_23 (by decide) ?_
      refine x_zastB (pc := 24) (b := true) (ws' := MW ad cT im me ro (va_up up (tN host) true) ho di os ob od on pg tm ts tr ki mo po sr ld st ow nu go la so se sl sp tp rd pn) F hw 4 1 (tN host) rfl rfl rfl (by omega) (by decide) d_M_back_24 rfl (fun H locs hw => ?_)
      refine lv_iconst (pc := 25) (v := 1) F.1 F.2.1 d_M_back_25 (by decide) ?_
      refine W.widen (k := 0) (n := 0) (by decide) (by decide) ?_
      exact ret 1 (va_up up (tN host) true) _ _ 26 _ rfl (by unfold F_M_back <;> rw [e1] <;> (try dsimp only) <;> rw [if_neg h4] <;> rw [if_neg h5] <;> rfl) hw d_M_back_26
    · refine lv_iconst (pc := 16) (v := 0) F.1 F.2.1 d_M_back_16 (by decide) ?_
      refine W.widen (k := 0) (n := 0) (by decide) (by decide) ?_
      exact ret 0 up _ _ 17 _ rfl (by unfold F_M_back <;> rw [e1] <;> (try dsimp only) <;> rw [if_neg h4] <;> rw [if_pos h5] <;> rfl) hw d_M_back_17
def F_M_block (di : Nat → Int32) (i : Int32) : Int32 × Unit :=
  if i < 0 then
    (0, ())
  else
    if 8 ≤ i then
      (0, ())
    else
      (di (tN i), ())
set_option maxHeartbeats 4000000 in
set_option maxRecDepth 100000 in
theorem c_M_block (l : Launch) (D : va_G) (cT : Nat → ClassId) (ad : Nat → Nat) (im : Nat → Int32) (me : Nat → Int32) (ro : Nat → Int32) (up : Nat → Bool) (ho : Nat → Bool) (di : Nat → Int32) (os : Nat → Bool) (ob : Nat → Int32) (od : Nat → Int32) (on : Nat → Int32) (pg : Nat → Int32) (tm : Nat → Int32) (ts : Nat → Int32) (tr : Nat → Int32) (ki : Nat → Int32) (mo : Nat → Int32) (po : Nat → Int32) (sr : Nat → Int32) (ld : Nat → Int32) (st : Bool) (ow : Int32) (nu : Int32) (go : Bool) (la : Int32) (so : Int32) (se : Int32) (sl : Int32) (sp : Int32) (tp : Bool) (rd : Bool) (pn : Int32) (i : Int32)  : Cti l y_M_block ws_M_block { frames := 0, cells := 0, slots := 0, locals := 0 } D vwCl (TYS cT) [.ref (ad 0), .int i] (MW ad cT im me ro up ho di os ob od on pg tm ts tr ki mo po sr ld st ow nu go la so se sl sp tp rd pn) (fun (rr : Int32) (uu : Unit) => F_M_block di i = (rr, uu)) (fun (u : Unit) => MW ad cT im me ro up ho di os ob od on pg tm ts tr ki mo po sr ld st ow nu go la so se sl sp tp rd pn) 0 0 := by
  refine x_ini (cc := b_M_block) (maxL := 2) (by decide) rfl (Nat.le_of_ble_eq_true rfl) ?_
  intro p e s m args below meth c A ls Q F hl hw ret
  have hl : lv_has ls 2 [(0, .ref (ad 0)), (1, .int i)] := hl
  refine lv_iload_n (pc := 0) F.1 F.2.1 d_M_block_0 rfl (lv_at hl 1 rfl) ?_
  refine lv_if_lt (pc := 1) (tgt := 19) F.1 F.2.1 d_M_block_1 rfl (fun h1 => ?_) (fun h1 => ?_)
  · refine lv_iconst (pc := 19) (v := 0) F.1 F.2.1 d_M_block_19 (by decide) ?_
    refine W.widen (k := 0) (n := 0) (by decide) (by decide) ?_
    exact ret 0 () _ _ 20 _ (by unfold F_M_block <;> rw [if_pos h1] <;> rfl) hw d_M_block_20
  · refine lv_iload_n (pc := 4) F.1 F.2.1 d_M_block_4 rfl (lv_at hl 1 rfl) ?_
    refine lv_bipush (pc := 5) (v := 8) F.1 F.2.1 d_M_block_5 (by decide) ?_
    refine lv_icmp_ge (pc := 7) (tgt := 19) F.1 F.2.1 d_M_block_7 rfl (fun h2 => ?_) (fun h2 => ?_)
    · refine lv_iconst (pc := 19) (v := 0) F.1 F.2.1 d_M_block_19 (by decide) ?_
      refine W.widen (k := 0) (n := 0) (by decide) (by decide) ?_
      exact ret 0 () _ _ 20 _ (by unfold F_M_block <;> rw [if_neg h1] <;> rw [if_pos h2] <;> rfl) hw d_M_block_20
    · have ni := isN_nle h1 (y := 8) (b := 8) rfl h2
      have nib := ni.2
      refine lv_aload_n (pc := 10) F.1 F.2.1 d_M_block_10 rfl (lv_at hl 0 rfl) ?_
      refine x_get (pc := 11) (v := .ref (ad 6)) F hw 0 6 (fun x h => List.mem_cons_of_mem _ (in_M x h)) rfl rfl (by decide) (List.mem_cons_of_mem _ m_529) rfl d_M_block_11 ?_
      refine lv_iload_n (pc := 14) F.1 F.2.1 d_M_block_14 rfl (lv_at hl 1 rfl) ?_
      refine x_top (y := nI (tN i)) ni.1 ?_
      refine x_iald (pc := 15) F hw 6 0 (tN i) rfl rfl rfl (by omega) (by decide) d_M_block_15 ?_
      refine lv_goto (pc := 16) (tgt := 20) F.1 F.2.1 d_M_block_16 rfl ?_
      refine W.widen (k := 0) (n := 0) (by decide) (by decide) ?_
      exact ret (di (tN i)) () _ _ 20 _ (by unfold F_M_block <;> rw [if_neg h1] <;> rw [if_neg h2] <;> rfl) hw d_M_block_20
def F_M_guest (ro : Nat → Int32) (ho : Nat → Bool) (host : Int32) (x : Int32) : Int32 × Unit :=
  match F_M_isHost host with
  | (r2, _) =>
    if r2 = 0 then
      (0, ())
    else
      if ho (tN host) = true then
        if x < 0 then
          (0, ())
        else
          if x ≤ 9 then
            if 6 ≤ x then
              if x = 6 then
                (ro (60 * tN host + 59), ())
              else
                if x = 7 then
                  (ro (60 * tN host + 6), ())
                else
                  if x = 8 then
                    (ro (60 * tN host + 15), ())
                  else
                    (ro (60 * tN host + 56), ())
            else
              (ro (60 * tN host + tN x), ())
          else
            (0, ())
      else
        (0, ())
set_option maxHeartbeats 4000000 in
set_option maxRecDepth 100000 in
theorem c_M_guest (l : Launch) (D : va_G) (cT : Nat → ClassId) (ad : Nat → Nat) (im : Nat → Int32) (me : Nat → Int32) (ro : Nat → Int32) (up : Nat → Bool) (ho : Nat → Bool) (di : Nat → Int32) (os : Nat → Bool) (ob : Nat → Int32) (od : Nat → Int32) (on : Nat → Int32) (pg : Nat → Int32) (tm : Nat → Int32) (ts : Nat → Int32) (tr : Nat → Int32) (ki : Nat → Int32) (mo : Nat → Int32) (po : Nat → Int32) (sr : Nat → Int32) (ld : Nat → Int32) (st : Bool) (ow : Int32) (nu : Int32) (go : Bool) (la : Int32) (so : Int32) (se : Int32) (sl : Int32) (sp : Int32) (tp : Bool) (rd : Bool) (pn : Int32) (host : Int32) (x : Int32)  : Cti l y_M_guest ws_M_guest { frames := 1, cells := 0, slots := 0, locals := 20 } D vwCl (TYS cT) [.ref (ad 0), .int host, .int x] (MW ad cT im me ro up ho di os ob od on pg tm ts tr ki mo po sr ld st ow nu go la so se sl sp tp rd pn) (fun (rr : Int32) (uu : Unit) => F_M_guest ro ho host x = (rr, uu)) (fun (u : Unit) => MW ad cT im me ro up ho di os ob od on pg tm ts tr ki mo po sr ld st ow nu go la so se sl sp tp rd pn) 0 0 := by
  refine x_ini (cc := b_M_guest) (maxL := 4) (by decide) rfl (Nat.le_of_ble_eq_true rfl) ?_
  intro p e s m args below meth c A ls Q F hl hw ret
  have hl : lv_has ls 4 [(0, .ref (ad 0)), (1, .int host), (2, .int x)] := hl
  refine lv_iload_n (pc := 0) F.1 F.2.1 d_M_guest_0 rfl (lv_at hl 1 rfl) ?_
  refine x_calli (pc := 1) (wr := [(ad 0, .inr (6, [.ref (ad 1), .ref (ad 2), .ref (ad 3), .ref (ad 4), .ref (ad 5), .int (bI st), .ref (ad 6), .int ow, .int nu, .ref (ad 7), .ref (ad 8), .ref (ad 9), .ref (ad 10), .int (bI go), .int la, .int so, .ref (ad 11), .int se, .int sl, .int sp, .int (bI tp), .int (bI rd), .ref (ad 12), .ref (ad 13), .ref (ad 14), .int pn, .ref (ad 15), .ref (ad 16), .ref (ad 17), .ref (ad 18), .ref (ad 19)])), (ad 1, .inl (cT 0, 64, .inl im)), (ad 2, .inl (cT 0, 128, .inl me)), (ad 3, .inl (cT 0, 120, .inl ro)), (ad 4, .inl (cT 1, 2, .inl (fun j => bI (up j)))), (ad 5, .inl (cT 1, 2, .inl (fun j => bI (ho j)))), (ad 6, .inl (cT 0, 8, .inl di)), (ad 7, .inl (cT 1, 2, .inl (fun j => bI (os j)))), (ad 8, .inl (cT 0, 2, .inl ob)), (ad 9, .inl (cT 0, 2, .inl od)), (ad 10, .inl (cT 0, 2, .inl on)), (ad 11, .inl (cT 0, 8, .inl pg)), (ad 12, .inl (cT 0, 64, .inl tm)), (ad 13, .inl (cT 0, 8, .inl ts)), (ad 14, .inl (cT 0, 60, .inl tr)), (ad 15, .inl (cT 0, 9, .inl ki)), (ad 16, .inl (cT 0, 9, .inl mo)), (ad 17, .inl (cT 0, 9, .inl po)), (ad 18, .inl (cT 0, 9, .inl sr)), (ad 19, .inl (cT 0, 540, .inl ld))]) hw [] [0, 1, 2, 3, 4, 5, 6, 7, 8, 9, 10, 11, 12, 13, 14, 15, 16, 17, 18, 19] rfl rfl (by decide) (by decide) (va_runS (As := [.int host]) (rest := []) F (c_M_isHost l D cT host  _) (x_cwS 1 F (g_all y_M_isHost b_M_isHost 1 (some .boolean) (List.mem_cons_of_mem _ m_628)) rfl rfl rfl (F.2.2.2.2 _ (List.mem_cons_of_mem _ m_40)) (F.2.2.2.2 _ (List.mem_cons_of_mem _ m_626)) (F.2.2.2.2 _ (List.mem_cons_of_mem _ m_627)) (by decide +kernel) ⟨by decide, by decide⟩) (hw.preS [] (by decide) rfl) rfl rfl hl.1 rfl (lv_room (Nat.le_of_ble_eq_true rfl)) d_M_guest_1 ⟨by decide, by decide⟩) (fun r2 u3 H locs e1 hw => ?_)
  have hw : Hw D vwCl (TYS cT) A s (MW ad cT im me ro up ho di os ob od on pg tm ts tr ki mo po sr ld st ow nu go la so se sl sp tp rd pn) H locs := hw
  refine lv_if_eq (pc := 4) (tgt := 26) F.1 F.2.1 d_M_guest_4 rfl (fun h4 => ?_) (fun h4 => ?_)
  · refine lv_iconst (pc := 26) (v := 0) F.1 F.2.1 d_M_guest_26 (by decide) ?_
    refine W.widen (k := 0) (n := 0) (by decide) (by decide) ?_
    exact ret 0 () _ _ 27 _ (by unfold F_M_guest <;> rw [e1] <;> (try dsimp only) <;> rw [if_pos h4] <;> rfl) hw d_M_guest_27
  · have nh := isHost_nat e1 h4
    have nhb := nh.2
    refine lv_aload_n (pc := 7) F.1 F.2.1 d_M_guest_7 rfl (lv_at hl 0 rfl) ?_
    refine x_get (pc := 8) (v := .ref (ad 5)) F hw 0 4 (fun x h => List.mem_cons_of_mem _ (in_M x h)) rfl rfl (by decide) (List.mem_cons_of_mem _ m_527) rfl d_M_guest_8 ?_
    refine lv_iload_n (pc := 11) F.1 F.2.1 d_M_guest_11 rfl (lv_at hl 1 rfl) ?_
    refine x_top (y := nI (tN host)) nh.1 ?_
    refine x_zaldB (pc := 12) F hw 5 1 (tN host) rfl rfl rfl (by omega) (by decide) d_M_guest_12 ?_
    refine x_ifeqB (pc := 13) (tgt := 26) F d_M_guest_13 rfl (fun h5 => ?_) (fun h5 => ?_)
    · refine lv_iconst (pc := 26) (v := 0) F.1 F.2.1 d_M_guest_26 (by decide) ?_
      refine W.widen (k := 0) (n := 0) (by decide) (by decide) ?_
      exact ret 0 () _ _ 27 _ (by unfold F_M_guest <;> rw [e1] <;> (try dsimp only) <;> rw [if_neg h4] <;> rw [if_neg h5] <;> rfl) hw d_M_guest_27
    · refine lv_iload_n (pc := 16) F.1 F.2.1 d_M_guest_16 rfl (lv_at hl 2 rfl) ?_
      refine lv_if_lt (pc := 17) (tgt := 26) F.1 F.2.1 d_M_guest_17 rfl (fun h6 => ?_) (fun h6 => ?_)
      · refine lv_iconst (pc := 26) (v := 0) F.1 F.2.1 d_M_guest_26 (by decide) ?_
        refine W.widen (k := 0) (n := 0) (by decide) (by decide) ?_
        exact ret 0 () _ _ 27 _ (by unfold F_M_guest <;> rw [e1] <;> (try dsimp only) <;> rw [if_neg h4] <;> rw [if_pos h5] <;> rw [if_pos h6] <;> rfl) hw d_M_guest_27
      · refine lv_iload_n (pc := 20) F.1 F.2.1 d_M_guest_20 rfl (lv_at hl 2 rfl) ?_
        refine lv_bipush (pc := 21) (v := 9) F.1 F.2.1 d_M_guest_21 (by decide) ?_
        refine lv_icmp_le (pc := 23) (tgt := 28) F.1 F.2.1 d_M_guest_23 rfl (fun h7 => ?_) (fun h7 => ?_)
        · refine lv_bipush (pc := 28) (v := 60) F.1 F.2.1 d_M_guest_28 (by decide) ?_
          refine lv_iload_n (pc := 30) F.1 F.2.1 d_M_guest_30 rfl (lv_at hl 1 rfl) ?_
          refine x_top (y := nI (tN host)) nh.1 ?_
          refine lv_imul (pc := 31) F.1 F.2.1 d_M_guest_31 ?_
          refine x_top (y := nI (60 * tN host)) (x_mul2 rfl rfl) ?_
          refine lv_istore_n (pc := 32) (lv' := [(3, .int (nI (60 * tN host))), (0, .ref (ad 0)), (1, .int host), (2, .int x)]) F.1 F.2.1 d_M_guest_32 rfl hl (by decide) rfl (fun ls hl => ?_)
          refine lv_iload_n (pc := 33) F.1 F.2.1 d_M_guest_33 rfl (lv_at hl 3 rfl) ?_
          refine lv_bipush (pc := 34) (v := 6) F.1 F.2.1 d_M_guest_34 (by decide) ?_
          refine lv_icmp_ge (pc := 36) (tgt := 50) F.1 F.2.1 d_M_guest_36 rfl (fun h8 => ?_) (fun h8 => ?_)
          · refine lv_iload_n (pc := 50) F.1 F.2.1 d_M_guest_50 rfl (lv_at hl 3 rfl) ?_
            refine lv_bipush (pc := 51) (v := 6) F.1 F.2.1 d_M_guest_51 (by decide) ?_
            refine lv_icmp_ne (pc := 53) (tgt := 68) F.1 F.2.1 d_M_guest_53 rfl (fun h9 => ?_) (fun h9 => ?_)
            · refine lv_iload_n (pc := 68) F.1 F.2.1 d_M_guest_68 rfl (lv_at hl 3 rfl) ?_
              refine lv_bipush (pc := 69) (v := 7) F.1 F.2.1 d_M_guest_69 (by decide) ?_
              refine lv_icmp_ne (pc := 71) (tgt := 86) F.1 F.2.1 d_M_guest_71 rfl (fun h10 => ?_) (fun h10 => ?_)
              · refine lv_iload_n (pc := 86) F.1 F.2.1 d_M_guest_86 rfl (lv_at hl 3 rfl) ?_
                refine lv_bipush (pc := 87) (v := 8) F.1 F.2.1 d_M_guest_87 (by decide) ?_
                refine lv_icmp_ne (pc := 89) (tgt := 104) F.1 F.2.1 d_M_guest_89 rfl (fun h11 => ?_) (fun h11 => ?_)
                · refine lv_aload_n (pc := 104) F.1 F.2.1 d_M_guest_104 rfl (lv_at hl 1 rfl) ?_
                  refine x_get (pc := 105) (v := .ref (ad 3)) F hw 0 2 (fun x h => List.mem_cons_of_mem _ (in_M x h)) rfl rfl (by decide) (List.mem_cons_of_mem _ m_525) rfl d_M_guest_105 ?_
                  refine lv_iload_n (pc := 108) F.1 F.2.1 d_M_guest_108 rfl (lv_at hl 0 rfl) ?_
                  refine lv_bipush (pc := 109) (v := 56) F.1 F.2.1 d_M_guest_109 (by decide) ?_
                  refine lv_iadd (pc := 111) F.1 F.2.1 d_M_guest_111 ?_
                  refine x_top (y := nI (60 * tN host + 56)) (x_add2 rfl rfl) ?_
                  refine x_iald (pc := 112) F hw 3 0 (60 * tN host + 56) rfl rfl rfl (by omega) (by decide) d_M_guest_112 ?_
                  refine W.widen (k := 0) (n := 0) (by decide) (by decide) ?_
                  exact ret (ro (60 * tN host + 56)) () _ _ 113 _ (by unfold F_M_guest <;> rw [e1] <;> (try dsimp only) <;> rw [if_neg h4] <;> rw [if_pos h5] <;> rw [if_neg h6] <;> rw [if_pos h7] <;> rw [if_pos h8] <;> rw [if_neg h9] <;> rw [if_neg h10] <;> rw [if_neg h11] <;> rfl) hw d_M_guest_113
                · refine lv_aload_n (pc := 92) F.1 F.2.1 d_M_guest_92 rfl (lv_at hl 1 rfl) ?_
                  refine x_get (pc := 93) (v := .ref (ad 3)) F hw 0 2 (fun x h => List.mem_cons_of_mem _ (in_M x h)) rfl rfl (by decide) (List.mem_cons_of_mem _ m_525) rfl d_M_guest_93 ?_
                  refine lv_iload_n (pc := 96) F.1 F.2.1 d_M_guest_96 rfl (lv_at hl 0 rfl) ?_
                  refine lv_bipush (pc := 97) (v := 15) F.1 F.2.1 d_M_guest_97 (by decide) ?_
                  refine lv_iadd (pc := 99) F.1 F.2.1 d_M_guest_99 ?_
                  refine x_top (y := nI (60 * tN host + 15)) (x_add2 rfl rfl) ?_
                  refine x_iald (pc := 100) F hw 3 0 (60 * tN host + 15) rfl rfl rfl (by omega) (by decide) d_M_guest_100 ?_
                  refine lv_goto (pc := 101) (tgt := 113) F.1 F.2.1 d_M_guest_101 rfl ?_
                  refine W.widen (k := 0) (n := 0) (by decide) (by decide) ?_
                  exact ret (ro (60 * tN host + 15)) () _ _ 113 _ (by unfold F_M_guest <;> rw [e1] <;> (try dsimp only) <;> rw [if_neg h4] <;> rw [if_pos h5] <;> rw [if_neg h6] <;> rw [if_pos h7] <;> rw [if_pos h8] <;> rw [if_neg h9] <;> rw [if_neg h10] <;> rw [if_pos h11] <;> rfl) hw d_M_guest_113
              · refine lv_aload_n (pc := 74) F.1 F.2.1 d_M_guest_74 rfl (lv_at hl 1 rfl) ?_
                refine x_get (pc := 75) (v := .ref (ad 3)) F hw 0 2 (fun x h => List.mem_cons_of_mem _ (in_M x h)) rfl rfl (by decide) (List.mem_cons_of_mem _ m_525) rfl d_M_guest_75 ?_
                refine lv_iload_n (pc := 78) F.1 F.2.1 d_M_guest_78 rfl (lv_at hl 0 rfl) ?_
                refine lv_bipush (pc := 79) (v := 6) F.1 F.2.1 d_M_guest_79 (by decide) ?_
                refine lv_iadd (pc := 81) F.1 F.2.1 d_M_guest_81 ?_
                refine x_top (y := nI (60 * tN host + 6)) (x_add2 rfl rfl) ?_
                refine x_iald (pc := 82) F hw 3 0 (60 * tN host + 6) rfl rfl rfl (by omega) (by decide) d_M_guest_82 ?_
                refine lv_goto (pc := 83) (tgt := 113) F.1 F.2.1 d_M_guest_83 rfl ?_
                refine W.widen (k := 0) (n := 0) (by decide) (by decide) ?_
                exact ret (ro (60 * tN host + 6)) () _ _ 113 _ (by unfold F_M_guest <;> rw [e1] <;> (try dsimp only) <;> rw [if_neg h4] <;> rw [if_pos h5] <;> rw [if_neg h6] <;> rw [if_pos h7] <;> rw [if_pos h8] <;> rw [if_neg h9] <;> rw [if_pos h10] <;> rfl) hw d_M_guest_113
            · refine lv_aload_n (pc := 56) F.1 F.2.1 d_M_guest_56 rfl (lv_at hl 1 rfl) ?_
              refine x_get (pc := 57) (v := .ref (ad 3)) F hw 0 2 (fun x h => List.mem_cons_of_mem _ (in_M x h)) rfl rfl (by decide) (List.mem_cons_of_mem _ m_525) rfl d_M_guest_57 ?_
              refine lv_iload_n (pc := 60) F.1 F.2.1 d_M_guest_60 rfl (lv_at hl 0 rfl) ?_
              refine lv_bipush (pc := 61) (v := 59) F.1 F.2.1 d_M_guest_61 (by decide) ?_
              refine lv_iadd (pc := 63) F.1 F.2.1 d_M_guest_63 ?_
              refine x_top (y := nI (60 * tN host + 59)) (x_add2 rfl rfl) ?_
              refine x_iald (pc := 64) F hw 3 0 (60 * tN host + 59) rfl rfl rfl (by omega) (by decide) d_M_guest_64 ?_
              refine lv_goto (pc := 65) (tgt := 113) F.1 F.2.1 d_M_guest_65 rfl ?_
              refine W.widen (k := 0) (n := 0) (by decide) (by decide) ?_
              exact ret (ro (60 * tN host + 59)) () _ _ 113 _ (by unfold F_M_guest <;> rw [e1] <;> (try dsimp only) <;> rw [if_neg h4] <;> rw [if_pos h5] <;> rw [if_neg h6] <;> rw [if_pos h7] <;> rw [if_pos h8] <;> rw [if_pos h9] <;> rfl) hw d_M_guest_113
          · have nx := isN_nle h6 (y := 6) (b := 6) rfl h8
            have nxb := nx.2
            refine lv_aload_n (pc := 39) F.1 F.2.1 d_M_guest_39 rfl (lv_at hl 1 rfl) ?_
            refine x_get (pc := 40) (v := .ref (ad 3)) F hw 0 2 (fun x h => List.mem_cons_of_mem _ (in_M x h)) rfl rfl (by decide) (List.mem_cons_of_mem _ m_525) rfl d_M_guest_40 ?_
            refine lv_iload_n (pc := 43) F.1 F.2.1 d_M_guest_43 rfl (lv_at hl 0 rfl) ?_
            refine lv_iload_n (pc := 44) F.1 F.2.1 d_M_guest_44 rfl (lv_at hl 3 rfl) ?_
            refine x_top (y := nI (tN x)) nx.1 ?_
            refine lv_iadd (pc := 45) F.1 F.2.1 d_M_guest_45 ?_
            refine x_top (y := nI (60 * tN host + tN x)) (x_add2 rfl rfl) ?_
            refine x_iald (pc := 46) F hw 3 0 (60 * tN host + tN x) rfl rfl rfl (by omega) (by decide) d_M_guest_46 ?_
            refine lv_goto (pc := 47) (tgt := 113) F.1 F.2.1 d_M_guest_47 rfl ?_
            refine W.widen (k := 0) (n := 0) (by decide) (by decide) ?_
            exact ret (ro (60 * tN host + tN x)) () _ _ 113 _ (by unfold F_M_guest <;> rw [e1] <;> (try dsimp only) <;> rw [if_neg h4] <;> rw [if_pos h5] <;> rw [if_neg h6] <;> rw [if_pos h7] <;> rw [if_neg h8] <;> rfl) hw d_M_guest_113
        · refine lv_iconst (pc := 26) (v := 0) F.1 F.2.1 d_M_guest_26 (by decide) ?_
          refine W.widen (k := 0) (n := 0) (by decide) (by decide) ?_
          exact ret 0 () _ _ 27 _ (by unfold F_M_guest <;> rw [e1] <;> (try dsimp only) <;> rw [if_neg h4] <;> rw [if_pos h5] <;> rw [if_neg h6] <;> rw [if_neg h7] <;> rfl) hw d_M_guest_27
def F_M_memory (me : Nat → Int32) (ho : Nat → Bool) (tm : Nat → Int32) (so : Int32) (tp : Bool) (host : Int32) (i : Int32) : Int32 × Unit :=
  match F_M_isHost host with
  | (r2, _) =>
    if r2 = 0 then
      (0, ())
    else
      if i < 0 then
        (0, ())
      else
        if i ≤ 63 then
          if ho (tN host) = true then
            (me (64 * tN host + tN i), ())
          else
            if tp = true then
              if (nI (tN host)) = so then
                (0, ())
              else
                (tm (tN i), ())
            else
              (0, ())
        else
          (0, ())
set_option maxHeartbeats 4000000 in
set_option maxRecDepth 100000 in
theorem c_M_memory (l : Launch) (D : va_G) (cT : Nat → ClassId) (ad : Nat → Nat) (im : Nat → Int32) (me : Nat → Int32) (ro : Nat → Int32) (up : Nat → Bool) (ho : Nat → Bool) (di : Nat → Int32) (os : Nat → Bool) (ob : Nat → Int32) (od : Nat → Int32) (on : Nat → Int32) (pg : Nat → Int32) (tm : Nat → Int32) (ts : Nat → Int32) (tr : Nat → Int32) (ki : Nat → Int32) (mo : Nat → Int32) (po : Nat → Int32) (sr : Nat → Int32) (ld : Nat → Int32) (st : Bool) (ow : Int32) (nu : Int32) (go : Bool) (la : Int32) (so : Int32) (se : Int32) (sl : Int32) (sp : Int32) (tp : Bool) (rd : Bool) (pn : Int32) (host : Int32) (i : Int32)  : Cti l y_M_memory ws_M_memory { frames := 1, cells := 0, slots := 0, locals := 20 } D vwCl (TYS cT) [.ref (ad 0), .int host, .int i] (MW ad cT im me ro up ho di os ob od on pg tm ts tr ki mo po sr ld st ow nu go la so se sl sp tp rd pn) (fun (rr : Int32) (uu : Unit) => F_M_memory me ho tm so tp host i = (rr, uu)) (fun (u : Unit) => MW ad cT im me ro up ho di os ob od on pg tm ts tr ki mo po sr ld st ow nu go la so se sl sp tp rd pn) 0 0 := by
  refine x_ini (cc := b_M_memory) (maxL := 3) (by decide) rfl (Nat.le_of_ble_eq_true rfl) ?_
  intro p e s m args below meth c A ls Q F hl hw ret
  have hl : lv_has ls 3 [(0, .ref (ad 0)), (1, .int host), (2, .int i)] := hl
  refine lv_iload_n (pc := 0) F.1 F.2.1 d_M_memory_0 rfl (lv_at hl 1 rfl) ?_
  refine x_calli (pc := 1) (wr := [(ad 0, .inr (6, [.ref (ad 1), .ref (ad 2), .ref (ad 3), .ref (ad 4), .ref (ad 5), .int (bI st), .ref (ad 6), .int ow, .int nu, .ref (ad 7), .ref (ad 8), .ref (ad 9), .ref (ad 10), .int (bI go), .int la, .int so, .ref (ad 11), .int se, .int sl, .int sp, .int (bI tp), .int (bI rd), .ref (ad 12), .ref (ad 13), .ref (ad 14), .int pn, .ref (ad 15), .ref (ad 16), .ref (ad 17), .ref (ad 18), .ref (ad 19)])), (ad 1, .inl (cT 0, 64, .inl im)), (ad 2, .inl (cT 0, 128, .inl me)), (ad 3, .inl (cT 0, 120, .inl ro)), (ad 4, .inl (cT 1, 2, .inl (fun j => bI (up j)))), (ad 5, .inl (cT 1, 2, .inl (fun j => bI (ho j)))), (ad 6, .inl (cT 0, 8, .inl di)), (ad 7, .inl (cT 1, 2, .inl (fun j => bI (os j)))), (ad 8, .inl (cT 0, 2, .inl ob)), (ad 9, .inl (cT 0, 2, .inl od)), (ad 10, .inl (cT 0, 2, .inl on)), (ad 11, .inl (cT 0, 8, .inl pg)), (ad 12, .inl (cT 0, 64, .inl tm)), (ad 13, .inl (cT 0, 8, .inl ts)), (ad 14, .inl (cT 0, 60, .inl tr)), (ad 15, .inl (cT 0, 9, .inl ki)), (ad 16, .inl (cT 0, 9, .inl mo)), (ad 17, .inl (cT 0, 9, .inl po)), (ad 18, .inl (cT 0, 9, .inl sr)), (ad 19, .inl (cT 0, 540, .inl ld))]) hw [] [0, 1, 2, 3, 4, 5, 6, 7, 8, 9, 10, 11, 12, 13, 14, 15, 16, 17, 18, 19] rfl rfl (by decide) (by decide) (va_runS (As := [.int host]) (rest := []) F (c_M_isHost l D cT host  _) (x_cwS 1 F (g_all y_M_isHost b_M_isHost 1 (some .boolean) (List.mem_cons_of_mem _ m_628)) rfl rfl rfl (F.2.2.2.2 _ (List.mem_cons_of_mem _ m_40)) (F.2.2.2.2 _ (List.mem_cons_of_mem _ m_626)) (F.2.2.2.2 _ (List.mem_cons_of_mem _ m_627)) (by decide +kernel) ⟨by decide, by decide⟩) (hw.preS [] (by decide) rfl) rfl rfl hl.1 rfl (lv_room (Nat.le_of_ble_eq_true rfl)) d_M_memory_1 ⟨by decide, by decide⟩) (fun r2 u3 H locs e1 hw => ?_)
  have hw : Hw D vwCl (TYS cT) A s (MW ad cT im me ro up ho di os ob od on pg tm ts tr ki mo po sr ld st ow nu go la so se sl sp tp rd pn) H locs := hw
  refine lv_if_eq (pc := 4) (tgt := 17) F.1 F.2.1 d_M_memory_4 rfl (fun h4 => ?_) (fun h4 => ?_)
  · refine lv_iconst (pc := 17) (v := 0) F.1 F.2.1 d_M_memory_17 (by decide) ?_
    refine W.widen (k := 0) (n := 0) (by decide) (by decide) ?_
    exact ret 0 () _ _ 18 _ (by unfold F_M_memory <;> rw [e1] <;> (try dsimp only) <;> rw [if_pos h4] <;> rfl) hw d_M_memory_18
  · have nh := isHost_nat e1 h4
    have nhb := nh.2
    refine lv_iload_n (pc := 7) F.1 F.2.1 d_M_memory_7 rfl (lv_at hl 2 rfl) ?_
    refine lv_if_lt (pc := 8) (tgt := 17) F.1 F.2.1 d_M_memory_8 rfl (fun h5 => ?_) (fun h5 => ?_)
    · refine lv_iconst (pc := 17) (v := 0) F.1 F.2.1 d_M_memory_17 (by decide) ?_
      refine W.widen (k := 0) (n := 0) (by decide) (by decide) ?_
      exact ret 0 () _ _ 18 _ (by unfold F_M_memory <;> rw [e1] <;> (try dsimp only) <;> rw [if_neg h4] <;> rw [if_pos h5] <;> rfl) hw d_M_memory_18
    · refine lv_iload_n (pc := 11) F.1 F.2.1 d_M_memory_11 rfl (lv_at hl 2 rfl) ?_
      refine lv_bipush (pc := 12) (v := 63) F.1 F.2.1 d_M_memory_12 (by decide) ?_
      refine lv_icmp_le (pc := 14) (tgt := 19) F.1 F.2.1 d_M_memory_14 rfl (fun h6 => ?_) (fun h6 => ?_)
      · have ni := isN_le h5 (y := 63) (b := 63) rfl h6
        have nib := ni.2
        refine lv_aload_n (pc := 19) F.1 F.2.1 d_M_memory_19 rfl (lv_at hl 0 rfl) ?_
        refine x_get (pc := 20) (v := .ref (ad 5)) F hw 0 4 (fun x h => List.mem_cons_of_mem _ (in_M x h)) rfl rfl (by decide) (List.mem_cons_of_mem _ m_527) rfl d_M_memory_20 ?_
        refine lv_iload_n (pc := 23) F.1 F.2.1 d_M_memory_23 rfl (lv_at hl 1 rfl) ?_
        refine x_top (y := nI (tN host)) nh.1 ?_
        refine x_zaldB (pc := 24) F hw 5 1 (tN host) rfl rfl rfl (by omega) (by decide) d_M_memory_24 ?_
        refine x_ifeqB (pc := 25) (tgt := 42) F d_M_memory_25 rfl (fun h7 => ?_) (fun h7 => ?_)
        · refine lv_aload_n (pc := 42) F.1 F.2.1 d_M_memory_42 rfl (lv_at hl 0 rfl) ?_
          refine x_get (pc := 43) (v := .int (bI tp)) F hw 0 20 (fun x h => List.mem_cons_of_mem _ (in_M x h)) rfl rfl (by decide) (List.mem_cons_of_mem _ m_543) rfl d_M_memory_43 ?_
          refine x_ifeqB (pc := 46) (tgt := 66) F d_M_memory_46 rfl (fun h8 => ?_) (fun h8 => ?_)
          · refine lv_iconst (pc := 66) (v := 0) F.1 F.2.1 d_M_memory_66 (by decide) ?_
            refine W.widen (k := 0) (n := 0) (by decide) (by decide) ?_
            exact ret 0 () _ _ 67 _ (by unfold F_M_memory <;> rw [e1] <;> (try dsimp only) <;> rw [if_neg h4] <;> rw [if_neg h5] <;> rw [if_pos h6] <;> rw [if_neg h7] <;> rw [if_neg h8] <;> rfl) hw d_M_memory_67
          · refine lv_iload_n (pc := 49) F.1 F.2.1 d_M_memory_49 rfl (lv_at hl 1 rfl) ?_
            refine x_top (y := nI (tN host)) nh.1 ?_
            refine lv_aload_n (pc := 50) F.1 F.2.1 d_M_memory_50 rfl (lv_at hl 0 rfl) ?_
            refine x_get (pc := 51) (v := .int so) F hw 0 15 (fun x h => List.mem_cons_of_mem _ (in_M x h)) rfl rfl (by decide) (List.mem_cons_of_mem _ m_538) rfl d_M_memory_51 ?_
            refine lv_icmp_eq (pc := 54) (tgt := 66) F.1 F.2.1 d_M_memory_54 rfl (fun h9 => ?_) (fun h9 => ?_)
            · refine lv_iconst (pc := 66) (v := 0) F.1 F.2.1 d_M_memory_66 (by decide) ?_
              refine W.widen (k := 0) (n := 0) (by decide) (by decide) ?_
              exact ret 0 () _ _ 67 _ (by unfold F_M_memory <;> rw [e1] <;> (try dsimp only) <;> rw [if_neg h4] <;> rw [if_neg h5] <;> rw [if_pos h6] <;> rw [if_neg h7] <;> rw [if_pos h8] <;> rw [if_pos h9] <;> rfl) hw d_M_memory_67
            · refine lv_aload_n (pc := 57) F.1 F.2.1 d_M_memory_57 rfl (lv_at hl 0 rfl) ?_
              refine x_get (pc := 58) (v := .ref (ad 12)) F hw 0 22 (fun x h => List.mem_cons_of_mem _ (in_M x h)) rfl rfl (by decide) (List.mem_cons_of_mem _ m_545) rfl d_M_memory_58 ?_
              refine lv_iload_n (pc := 61) F.1 F.2.1 d_M_memory_61 rfl (lv_at hl 2 rfl) ?_
              refine x_top (y := nI (tN i)) ni.1 ?_
              refine x_iald (pc := 62) F hw 12 0 (tN i) rfl rfl rfl (by omega) (by decide) d_M_memory_62 ?_
              refine lv_goto (pc := 63) (tgt := 67) F.1 F.2.1 d_M_memory_63 rfl ?_
              refine W.widen (k := 0) (n := 0) (by decide) (by decide) ?_
              exact ret (tm (tN i)) () _ _ 67 _ (by unfold F_M_memory <;> rw [e1] <;> (try dsimp only) <;> rw [if_neg h4] <;> rw [if_neg h5] <;> rw [if_pos h6] <;> rw [if_neg h7] <;> rw [if_pos h8] <;> rw [if_neg h9] <;> rfl) hw d_M_memory_67
        · refine lv_aload_n (pc := 28) F.1 F.2.1 d_M_memory_28 rfl (lv_at hl 0 rfl) ?_
          refine x_get (pc := 29) (v := .ref (ad 2)) F hw 0 1 (fun x h => List.mem_cons_of_mem _ (in_M x h)) rfl rfl (by decide) (List.mem_cons_of_mem _ m_524) rfl d_M_memory_29 ?_
          refine lv_bipush (pc := 32) (v := 64) F.1 F.2.1 d_M_memory_32 (by decide) ?_
          refine lv_iload_n (pc := 34) F.1 F.2.1 d_M_memory_34 rfl (lv_at hl 1 rfl) ?_
          refine x_top (y := nI (tN host)) nh.1 ?_
          refine lv_imul (pc := 35) F.1 F.2.1 d_M_memory_35 ?_
          refine x_top (y := nI (64 * tN host)) (x_mul2 rfl rfl) ?_
          refine lv_iload_n (pc := 36) F.1 F.2.1 d_M_memory_36 rfl (lv_at hl 2 rfl) ?_
          refine x_top (y := nI (tN i)) ni.1 ?_
          refine lv_iadd (pc := 37) F.1 F.2.1 d_M_memory_37 ?_
          refine x_top (y := nI (64 * tN host + tN i)) (x_add2 rfl rfl) ?_
          refine x_iald (pc := 38) F hw 2 0 (64 * tN host + tN i) rfl rfl rfl (by omega) (by decide) d_M_memory_38 ?_
          refine lv_goto (pc := 39) (tgt := 67) F.1 F.2.1 d_M_memory_39 rfl ?_
          refine W.widen (k := 0) (n := 0) (by decide) (by decide) ?_
          exact ret (me (64 * tN host + tN i)) () _ _ 67 _ (by unfold F_M_memory <;> rw [e1] <;> (try dsimp only) <;> rw [if_neg h4] <;> rw [if_neg h5] <;> rw [if_pos h6] <;> rw [if_pos h7] <;> rfl) hw d_M_memory_67
      · refine lv_iconst (pc := 17) (v := 0) F.1 F.2.1 d_M_memory_17 (by decide) ?_
        refine W.widen (k := 0) (n := 0) (by decide) (by decide) ?_
        exact ret 0 () _ _ 18 _ (by unfold F_M_memory <;> rw [e1] <;> (try dsimp only) <;> rw [if_neg h4] <;> rw [if_neg h5] <;> rw [if_neg h6] <;> rfl) hw d_M_memory_18
def F_M_output (ro : Nat → Int32) (ho : Nat → Bool) (host : Int32) (i : Int32) : Int32 × Unit :=
  match F_M_isHost host with
  | (r2, _) =>
    if r2 = 0 then
      (0, ())
    else
      if ho (tN host) = true then
        if i < 0 then
          (0, ())
        else
          if (nI (tN (ro (60 * tN host + 15)))) ≤ i then
            (0, ())
          else
            (ro (60 * tN host + 16 + tN i), ())
      else
        (0, ())
set_option maxHeartbeats 4000000 in
set_option maxRecDepth 100000 in
theorem c_M_output (l : Launch) (D : va_G) (cT : Nat → ClassId) (ad : Nat → Nat) (im : Nat → Int32) (me : Nat → Int32) (ro : Nat → Int32) (up : Nat → Bool) (ho : Nat → Bool) (di : Nat → Int32) (os : Nat → Bool) (ob : Nat → Int32) (od : Nat → Int32) (on : Nat → Int32) (pg : Nat → Int32) (tm : Nat → Int32) (ts : Nat → Int32) (tr : Nat → Int32) (ki : Nat → Int32) (mo : Nat → Int32) (po : Nat → Int32) (sr : Nat → Int32) (ld : Nat → Int32) (st : Bool) (ow : Int32) (nu : Int32) (go : Bool) (la : Int32) (so : Int32) (se : Int32) (sl : Int32) (sp : Int32) (tp : Bool) (rd : Bool) (pn : Int32) (host : Int32) (i : Int32) (n0 : ∀ h, h < 2 → ho h = true → isN (ro (60 * h + 15)) 41) : Cti l y_M_output ws_M_output { frames := 1, cells := 0, slots := 0, locals := 20 } D vwCl (TYS cT) [.ref (ad 0), .int host, .int i] (MW ad cT im me ro up ho di os ob od on pg tm ts tr ki mo po sr ld st ow nu go la so se sl sp tp rd pn) (fun (rr : Int32) (uu : Unit) => F_M_output ro ho host i = (rr, uu)) (fun (u : Unit) => MW ad cT im me ro up ho di os ob od on pg tm ts tr ki mo po sr ld st ow nu go la so se sl sp tp rd pn) 0 0 := by
  refine x_ini (cc := b_M_output) (maxL := 3) (by decide) rfl (Nat.le_of_ble_eq_true rfl) ?_
  intro p e s m args below meth c A ls Q F hl hw ret
  have hl : lv_has ls 3 [(0, .ref (ad 0)), (1, .int host), (2, .int i)] := hl
  refine lv_iload_n (pc := 0) F.1 F.2.1 d_M_output_0 rfl (lv_at hl 1 rfl) ?_
  refine x_calli (pc := 1) (wr := [(ad 0, .inr (6, [.ref (ad 1), .ref (ad 2), .ref (ad 3), .ref (ad 4), .ref (ad 5), .int (bI st), .ref (ad 6), .int ow, .int nu, .ref (ad 7), .ref (ad 8), .ref (ad 9), .ref (ad 10), .int (bI go), .int la, .int so, .ref (ad 11), .int se, .int sl, .int sp, .int (bI tp), .int (bI rd), .ref (ad 12), .ref (ad 13), .ref (ad 14), .int pn, .ref (ad 15), .ref (ad 16), .ref (ad 17), .ref (ad 18), .ref (ad 19)])), (ad 1, .inl (cT 0, 64, .inl im)), (ad 2, .inl (cT 0, 128, .inl me)), (ad 3, .inl (cT 0, 120, .inl ro)), (ad 4, .inl (cT 1, 2, .inl (fun j => bI (up j)))), (ad 5, .inl (cT 1, 2, .inl (fun j => bI (ho j)))), (ad 6, .inl (cT 0, 8, .inl di)), (ad 7, .inl (cT 1, 2, .inl (fun j => bI (os j)))), (ad 8, .inl (cT 0, 2, .inl ob)), (ad 9, .inl (cT 0, 2, .inl od)), (ad 10, .inl (cT 0, 2, .inl on)), (ad 11, .inl (cT 0, 8, .inl pg)), (ad 12, .inl (cT 0, 64, .inl tm)), (ad 13, .inl (cT 0, 8, .inl ts)), (ad 14, .inl (cT 0, 60, .inl tr)), (ad 15, .inl (cT 0, 9, .inl ki)), (ad 16, .inl (cT 0, 9, .inl mo)), (ad 17, .inl (cT 0, 9, .inl po)), (ad 18, .inl (cT 0, 9, .inl sr)), (ad 19, .inl (cT 0, 540, .inl ld))]) hw [] [0, 1, 2, 3, 4, 5, 6, 7, 8, 9, 10, 11, 12, 13, 14, 15, 16, 17, 18, 19] rfl rfl (by decide) (by decide) (va_runS (As := [.int host]) (rest := []) F (c_M_isHost l D cT host  _) (x_cwS 1 F (g_all y_M_isHost b_M_isHost 1 (some .boolean) (List.mem_cons_of_mem _ m_628)) rfl rfl rfl (F.2.2.2.2 _ (List.mem_cons_of_mem _ m_40)) (F.2.2.2.2 _ (List.mem_cons_of_mem _ m_626)) (F.2.2.2.2 _ (List.mem_cons_of_mem _ m_627)) (by decide +kernel) ⟨by decide, by decide⟩) (hw.preS [] (by decide) rfl) rfl rfl hl.1 rfl (lv_room (Nat.le_of_ble_eq_true rfl)) d_M_output_1 ⟨by decide, by decide⟩) (fun r2 u3 H locs e1 hw => ?_)
  have hw : Hw D vwCl (TYS cT) A s (MW ad cT im me ro up ho di os ob od on pg tm ts tr ki mo po sr ld st ow nu go la so se sl sp tp rd pn) H locs := hw
  refine lv_if_eq (pc := 4) (tgt := 53) F.1 F.2.1 d_M_output_4 rfl (fun h4 => ?_) (fun h4 => ?_)
  · refine lv_iconst (pc := 53) (v := 0) F.1 F.2.1 d_M_output_53 (by decide) ?_
    refine W.widen (k := 0) (n := 0) (by decide) (by decide) ?_
    exact ret 0 () _ _ 54 _ (by unfold F_M_output <;> rw [e1] <;> (try dsimp only) <;> rw [if_pos h4] <;> rfl) hw d_M_output_54
  · have nh := isHost_nat e1 h4
    have nhb := nh.2
    refine lv_aload_n (pc := 7) F.1 F.2.1 d_M_output_7 rfl (lv_at hl 0 rfl) ?_
    refine x_get (pc := 8) (v := .ref (ad 5)) F hw 0 4 (fun x h => List.mem_cons_of_mem _ (in_M x h)) rfl rfl (by decide) (List.mem_cons_of_mem _ m_527) rfl d_M_output_8 ?_
    refine lv_iload_n (pc := 11) F.1 F.2.1 d_M_output_11 rfl (lv_at hl 1 rfl) ?_
    refine x_top (y := nI (tN host)) nh.1 ?_
    refine x_zaldB (pc := 12) F hw 5 1 (tN host) rfl rfl rfl (by omega) (by decide) d_M_output_12 ?_
    refine x_ifeqB (pc := 13) (tgt := 53) F d_M_output_13 rfl (fun h5 => ?_) (fun h5 => ?_)
    · refine lv_iconst (pc := 53) (v := 0) F.1 F.2.1 d_M_output_53 (by decide) ?_
      refine W.widen (k := 0) (n := 0) (by decide) (by decide) ?_
      exact ret 0 () _ _ 54 _ (by unfold F_M_output <;> rw [e1] <;> (try dsimp only) <;> rw [if_neg h4] <;> rw [if_neg h5] <;> rfl) hw d_M_output_54
    · have n1 := n0 (tN host) nhb h5
      have n1b := n1.2
      refine lv_iload_n (pc := 16) F.1 F.2.1 d_M_output_16 rfl (lv_at hl 2 rfl) ?_
      refine lv_if_lt (pc := 17) (tgt := 53) F.1 F.2.1 d_M_output_17 rfl (fun h6 => ?_) (fun h6 => ?_)
      · refine lv_iconst (pc := 53) (v := 0) F.1 F.2.1 d_M_output_53 (by decide) ?_
        refine W.widen (k := 0) (n := 0) (by decide) (by decide) ?_
        exact ret 0 () _ _ 54 _ (by unfold F_M_output <;> rw [e1] <;> (try dsimp only) <;> rw [if_neg h4] <;> rw [if_pos h5] <;> rw [if_pos h6] <;> rfl) hw d_M_output_54
      · refine lv_iload_n (pc := 20) F.1 F.2.1 d_M_output_20 rfl (lv_at hl 2 rfl) ?_
        refine lv_aload_n (pc := 21) F.1 F.2.1 d_M_output_21 rfl (lv_at hl 0 rfl) ?_
        refine x_get (pc := 22) (v := .ref (ad 3)) F hw 0 2 (fun x h => List.mem_cons_of_mem _ (in_M x h)) rfl rfl (by decide) (List.mem_cons_of_mem _ m_525) rfl d_M_output_22 ?_
        refine lv_bipush (pc := 25) (v := 60) F.1 F.2.1 d_M_output_25 (by decide) ?_
        refine lv_iload_n (pc := 27) F.1 F.2.1 d_M_output_27 rfl (lv_at hl 1 rfl) ?_
        refine x_top (y := nI (tN host)) nh.1 ?_
        refine lv_imul (pc := 28) F.1 F.2.1 d_M_output_28 ?_
        refine x_top (y := nI (60 * tN host)) (x_mul2 rfl rfl) ?_
        refine lv_bipush (pc := 29) (v := 15) F.1 F.2.1 d_M_output_29 (by decide) ?_
        refine lv_iadd (pc := 31) F.1 F.2.1 d_M_output_31 ?_
        refine x_top (y := nI (60 * tN host + 15)) (x_add2 rfl rfl) ?_
        refine x_iald (pc := 32) F hw 3 0 (60 * tN host + 15) rfl rfl rfl (by omega) (by decide) d_M_output_32 ?_
        refine x_top (y := nI (tN (ro (60 * tN host + 15)))) n1.1 ?_
        refine lv_icmp_ge (pc := 33) (tgt := 53) F.1 F.2.1 d_M_output_33 rfl (fun h7 => ?_) (fun h7 => ?_)
        · refine lv_iconst (pc := 53) (v := 0) F.1 F.2.1 d_M_output_53 (by decide) ?_
          refine W.widen (k := 0) (n := 0) (by decide) (by decide) ?_
          exact ret 0 () _ _ 54 _ (by unfold F_M_output <;> rw [e1] <;> (try dsimp only) <;> rw [if_neg h4] <;> rw [if_pos h5] <;> rw [if_neg h6] <;> rw [if_pos h7] <;> rfl) hw d_M_output_54
        · have ni := isN_ltn h6 (n := tN (ro (60 * tN host + 15))) (by omega) h7
          have nib := ni.2
          refine lv_aload_n (pc := 36) F.1 F.2.1 d_M_output_36 rfl (lv_at hl 0 rfl) ?_
          refine x_get (pc := 37) (v := .ref (ad 3)) F hw 0 2 (fun x h => List.mem_cons_of_mem _ (in_M x h)) rfl rfl (by decide) (List.mem_cons_of_mem _ m_525) rfl d_M_output_37 ?_
          refine lv_bipush (pc := 40) (v := 60) F.1 F.2.1 d_M_output_40 (by decide) ?_
          refine lv_iload_n (pc := 42) F.1 F.2.1 d_M_output_42 rfl (lv_at hl 1 rfl) ?_
          refine x_top (y := nI (tN host)) nh.1 ?_
          refine lv_imul (pc := 43) F.1 F.2.1 d_M_output_43 ?_
          refine x_top (y := nI (60 * tN host)) (x_mul2 rfl rfl) ?_
          refine lv_bipush (pc := 44) (v := 16) F.1 F.2.1 d_M_output_44 (by decide) ?_
          refine lv_iadd (pc := 46) F.1 F.2.1 d_M_output_46 ?_
          refine x_top (y := nI (60 * tN host + 16)) (x_add2 rfl rfl) ?_
          refine lv_iload_n (pc := 47) F.1 F.2.1 d_M_output_47 rfl (lv_at hl 2 rfl) ?_
          refine x_top (y := nI (tN i)) ni.1 ?_
          refine lv_iadd (pc := 48) F.1 F.2.1 d_M_output_48 ?_
          refine x_top (y := nI (60 * tN host + 16 + tN i)) (x_add2 rfl rfl) ?_
          refine x_iald (pc := 49) F hw 3 0 (60 * tN host + 16 + tN i) rfl rfl rfl (by omega) (by decide) d_M_output_49 ?_
          refine lv_goto (pc := 50) (tgt := 54) F.1 F.2.1 d_M_output_50 rfl ?_
          refine W.widen (k := 0) (n := 0) (by decide) (by decide) ?_
          exact ret (ro (60 * tN host + 16 + tN i)) () _ _ 54 _ (by unfold F_M_output <;> rw [e1] <;> (try dsimp only) <;> rw [if_neg h4] <;> rw [if_pos h5] <;> rw [if_neg h6] <;> rw [if_neg h7] <;> rfl) hw d_M_output_54
def F_M_told (pg : Nat → Int32) (st : Bool) (ow : Int32) (nu : Int32) (go : Bool) (la : Int32) (so : Int32) (sp : Int32) (rd : Bool) (pn : Int32) (x : Int32) : Int32 × Unit :=
  if x = 0 then
    (ow, ())
  else
    if x = 1 then
      (nu, ())
    else
      if x = 2 then
        if go = true then
          (la, ())
        else
          (0, ())
      else
        if x = 3 then
          if go = true then
            (so, ())
          else
            ((-2), ())
        else
          if x = 4 then
            if st = true then
              (1, ())
            else
              (0, ())
          else
            if x = 5 then
              if go = true then
                (nI (cnt pg 8), ())
              else
                (0, ())
            else
              if x = 6 then
                (pn, ())
              else
                if x = 7 then
                  if rd = true then
                    (1, ())
                  else
                    (0, ())
                else
                  if x = 8 then
                    if go = true then
                      (sp, ())
                    else
                      (0, ())
                  else
                    ((-1), ())
set_option maxHeartbeats 4000000 in
set_option maxRecDepth 100000 in
theorem c_M_told (l : Launch) (D : va_G) (cT : Nat → ClassId) (ad : Nat → Nat) (im : Nat → Int32) (me : Nat → Int32) (ro : Nat → Int32) (up : Nat → Bool) (ho : Nat → Bool) (di : Nat → Int32) (os : Nat → Bool) (ob : Nat → Int32) (od : Nat → Int32) (on : Nat → Int32) (pg : Nat → Int32) (tm : Nat → Int32) (ts : Nat → Int32) (tr : Nat → Int32) (ki : Nat → Int32) (mo : Nat → Int32) (po : Nat → Int32) (sr : Nat → Int32) (ld : Nat → Int32) (st : Bool) (ow : Int32) (nu : Int32) (go : Bool) (la : Int32) (so : Int32) (se : Int32) (sl : Int32) (sp : Int32) (tp : Bool) (rd : Bool) (pn : Int32) (x : Int32)  : Cti l y_M_told ws_M_told { frames := 1, cells := 0, slots := 0, locals := 22 } D vwCl (TYS cT) [.ref (ad 0), .int x] (MW ad cT im me ro up ho di os ob od on pg tm ts tr ki mo po sr ld st ow nu go la so se sl sp tp rd pn) (fun (rr : Int32) (uu : Unit) => F_M_told pg st ow nu go la so sp rd pn x = (rr, uu)) (fun (u : Unit) => MW ad cT im me ro up ho di os ob od on pg tm ts tr ki mo po sr ld st ow nu go la so se sl sp tp rd pn) 0 0 := by
  refine x_ini (cc := b_M_told) (maxL := 2) (by decide) rfl (Nat.le_of_ble_eq_true rfl) ?_
  intro p e s m args below meth c A ls Q F hl hw ret
  have hl : lv_has ls 2 [(0, .ref (ad 0)), (1, .int x)] := hl
  refine lv_iload_n (pc := 0) F.1 F.2.1 d_M_told_0 rfl (lv_at hl 1 rfl) ?_
  by_cases h2 : x = 0
  · refine lv_tableIn (pc := 1) (tgt := 52) F.1 F.2.1 d_M_told_1 (by rw [h2]; decide) (by rw [h2]; decide) (by rw [h2]; rfl) rfl ?_
    refine lv_aload_n (pc := 52) F.1 F.2.1 d_M_told_52 rfl (lv_at hl 0 rfl) ?_
    refine x_get (pc := 53) (v := .int ow) F hw 0 7 (fun x h => List.mem_cons_of_mem _ (in_M x h)) rfl rfl (by decide) (List.mem_cons_of_mem _ m_530) rfl d_M_told_53 ?_
    refine W.widen (k := 0) (n := 0) (by decide) (by decide) ?_
    exact ret ow () _ _ 56 _ (by unfold F_M_told <;> rw [if_pos h2] <;> rfl) hw d_M_told_56
  by_cases h3 : x = 1
  · refine lv_tableIn (pc := 1) (tgt := 57) F.1 F.2.1 d_M_told_1 (by rw [h3]; decide) (by rw [h3]; decide) (by rw [h3]; rfl) rfl ?_
    refine lv_aload_n (pc := 57) F.1 F.2.1 d_M_told_57 rfl (lv_at hl 0 rfl) ?_
    refine x_get (pc := 58) (v := .int nu) F hw 0 8 (fun x h => List.mem_cons_of_mem _ (in_M x h)) rfl rfl (by decide) (List.mem_cons_of_mem _ m_531) rfl d_M_told_58 ?_
    refine W.widen (k := 0) (n := 0) (by decide) (by decide) ?_
    exact ret nu () _ _ 61 _ (by unfold F_M_told <;> rw [if_neg h2] <;> rw [if_pos h3] <;> rfl) hw d_M_told_61
  by_cases h4 : x = 2
  · refine lv_tableIn (pc := 1) (tgt := 62) F.1 F.2.1 d_M_told_1 (by rw [h4]; decide) (by rw [h4]; decide) (by rw [h4]; rfl) rfl ?_
    refine lv_aload_n (pc := 62) F.1 F.2.1 d_M_told_62 rfl (lv_at hl 0 rfl) ?_
    refine x_get (pc := 63) (v := .int (bI go)) F hw 0 13 (fun x h => List.mem_cons_of_mem _ (in_M x h)) rfl rfl (by decide) (List.mem_cons_of_mem _ m_536) rfl d_M_told_63 ?_
    refine x_ifeqB (pc := 66) (tgt := 76) F d_M_told_66 rfl (fun h5 => ?_) (fun h5 => ?_)
    · refine lv_iconst (pc := 76) (v := 0) F.1 F.2.1 d_M_told_76 (by decide) ?_
      refine W.widen (k := 0) (n := 0) (by decide) (by decide) ?_
      exact ret 0 () _ _ 77 _ (by unfold F_M_told <;> rw [if_neg h2] <;> rw [if_neg h3] <;> rw [if_pos h4] <;> rw [if_neg h5] <;> rfl) hw d_M_told_77
    · refine lv_aload_n (pc := 69) F.1 F.2.1 d_M_told_69 rfl (lv_at hl 0 rfl) ?_
      refine x_get (pc := 70) (v := .int la) F hw 0 14 (fun x h => List.mem_cons_of_mem _ (in_M x h)) rfl rfl (by decide) (List.mem_cons_of_mem _ m_537) rfl d_M_told_70 ?_
      refine lv_goto (pc := 73) (tgt := 77) F.1 F.2.1 d_M_told_73 rfl ?_
      refine W.widen (k := 0) (n := 0) (by decide) (by decide) ?_
      exact ret la () _ _ 77 _ (by unfold F_M_told <;> rw [if_neg h2] <;> rw [if_neg h3] <;> rw [if_pos h4] <;> rw [if_pos h5] <;> rfl) hw d_M_told_77
  by_cases h6 : x = 3
  · refine lv_tableIn (pc := 1) (tgt := 78) F.1 F.2.1 d_M_told_1 (by rw [h6]; decide) (by rw [h6]; decide) (by rw [h6]; rfl) rfl ?_
    refine lv_aload_n (pc := 78) F.1 F.2.1 d_M_told_78 rfl (lv_at hl 0 rfl) ?_
    refine x_get (pc := 79) (v := .int (bI go)) F hw 0 13 (fun x h => List.mem_cons_of_mem _ (in_M x h)) rfl rfl (by decide) (List.mem_cons_of_mem _ m_536) rfl d_M_told_79 ?_
    refine x_ifeqB (pc := 82) (tgt := 92) F d_M_told_82 rfl (fun h7 => ?_) (fun h7 => ?_)
    · refine lv_bipush (pc := 92) (v := (-2)) F.1 F.2.1 d_M_told_92 (by decide) ?_
      refine W.widen (k := 0) (n := 0) (by decide) (by decide) ?_
      exact ret (-2) () _ _ 94 _ (by unfold F_M_told <;> rw [if_neg h2] <;> rw [if_neg h3] <;> rw [if_neg h4] <;> rw [if_pos h6] <;> rw [if_neg h7] <;> rfl) hw d_M_told_94
    · refine lv_aload_n (pc := 85) F.1 F.2.1 d_M_told_85 rfl (lv_at hl 0 rfl) ?_
      refine x_get (pc := 86) (v := .int so) F hw 0 15 (fun x h => List.mem_cons_of_mem _ (in_M x h)) rfl rfl (by decide) (List.mem_cons_of_mem _ m_538) rfl d_M_told_86 ?_
      refine lv_goto (pc := 89) (tgt := 94) F.1 F.2.1 d_M_told_89 rfl ?_
      refine W.widen (k := 0) (n := 0) (by decide) (by decide) ?_
      exact ret so () _ _ 94 _ (by unfold F_M_told <;> rw [if_neg h2] <;> rw [if_neg h3] <;> rw [if_neg h4] <;> rw [if_pos h6] <;> rw [if_pos h7] <;> rfl) hw d_M_told_94
  by_cases h8 : x = 4
  · refine lv_tableIn (pc := 1) (tgt := 95) F.1 F.2.1 d_M_told_1 (by rw [h8]; decide) (by rw [h8]; decide) (by rw [h8]; rfl) rfl ?_
    refine lv_aload_n (pc := 95) F.1 F.2.1 d_M_told_95 rfl (lv_at hl 0 rfl) ?_
    refine x_get (pc := 96) (v := .int (bI st)) F hw 0 5 (fun x h => List.mem_cons_of_mem _ (in_M x h)) rfl rfl (by decide) (List.mem_cons_of_mem _ m_528) rfl d_M_told_96 ?_
    refine x_ifeqB (pc := 99) (tgt := 106) F d_M_told_99 rfl (fun h9 => ?_) (fun h9 => ?_)
    · refine lv_iconst (pc := 106) (v := 0) F.1 F.2.1 d_M_told_106 (by decide) ?_
      refine W.widen (k := 0) (n := 0) (by decide) (by decide) ?_
      exact ret 0 () _ _ 107 _ (by unfold F_M_told <;> rw [if_neg h2] <;> rw [if_neg h3] <;> rw [if_neg h4] <;> rw [if_neg h6] <;> rw [if_pos h8] <;> rw [if_neg h9] <;> rfl) hw d_M_told_107
    · refine lv_iconst (pc := 102) (v := 1) F.1 F.2.1 d_M_told_102 (by decide) ?_
      refine lv_goto (pc := 103) (tgt := 107) F.1 F.2.1 d_M_told_103 rfl ?_
      refine W.widen (k := 0) (n := 0) (by decide) (by decide) ?_
      exact ret 1 () _ _ 107 _ (by unfold F_M_told <;> rw [if_neg h2] <;> rw [if_neg h3] <;> rw [if_neg h4] <;> rw [if_neg h6] <;> rw [if_pos h8] <;> rw [if_pos h9] <;> rfl) hw d_M_told_107
  by_cases h10 : x = 5
  · refine lv_tableIn (pc := 1) (tgt := 108) F.1 F.2.1 d_M_told_1 (by rw [h10]; decide) (by rw [h10]; decide) (by rw [h10]; rfl) rfl ?_
    refine lv_aload_n (pc := 108) F.1 F.2.1 d_M_told_108 rfl (lv_at hl 0 rfl) ?_
    refine x_get (pc := 109) (v := .int (bI go)) F hw 0 13 (fun x h => List.mem_cons_of_mem _ (in_M x h)) rfl rfl (by decide) (List.mem_cons_of_mem _ m_536) rfl d_M_told_109 ?_
    refine x_ifeqB (pc := 112) (tgt := 122) F d_M_told_112 rfl (fun h11 => ?_) (fun h11 => ?_)
    · refine lv_iconst (pc := 122) (v := 0) F.1 F.2.1 d_M_told_122 (by decide) ?_
      refine W.widen (k := 0) (n := 0) (by decide) (by decide) ?_
      exact ret 0 () _ _ 123 _ (by unfold F_M_told <;> rw [if_neg h2] <;> rw [if_neg h3] <;> rw [if_neg h4] <;> rw [if_neg h6] <;> rw [if_neg h8] <;> rw [if_pos h10] <;> rw [if_neg h11] <;> rfl) hw d_M_told_123
    · refine lv_aload_n (pc := 115) F.1 F.2.1 d_M_told_115 rfl (lv_at hl 0 rfl) ?_
      refine x_calli (pc := 116) (wr := []) hw [0, 1, 2, 3, 4, 5, 6, 7, 8, 9, 10, 11, 12, 13, 14, 15, 16, 17, 18, 19] [] rfl rfl (by decide) (by decide) (va_runV (As := []) (rest := []) F (c_M_unknown l D cT ad im me ro up ho di os ob od on pg tm ts tr ki mo po sr ld st ow nu go la so se sl sp tp rd pn  _) (x_cw (C := "MovingGuestModel") 0 F (g_all y_M_unknown b_M_unknown 3 (some .int) (List.mem_cons_of_mem _ m_669)) rfl rfl rfl (F.2.2.2.2 _ (List.mem_cons_of_mem _ m_40)) (F.2.2.2.2 _ (List.mem_cons_of_mem _ m_667)) (F.2.2.2.2 _ (List.mem_cons_of_mem _ m_668)) (F.2.2.2.2 _ (List.mem_cons_of_mem _ m_22)) (by decide +kernel) ⟨by decide, by decide⟩) (hw.preV (q0 := 0) [0, 1, 2, 3, 4, 5, 6, 7, 8, 9, 10, 11, 12, 13, 14, 15, 16, 17, 18, 19] (by decide) rfl rfl rfl) rfl rfl hl.1 rfl (lv_room (Nat.le_of_ble_eq_true rfl)) d_M_told_116 ⟨by decide, by decide⟩) (fun r13 u14 H locs e12 hw => ?_)
      cases (show (nI (cnt pg 8), ()) = (r13, u14) from e12)
      refine lv_goto (pc := 119) (tgt := 123) F.1 F.2.1 d_M_told_119 rfl ?_
      refine W.widen (k := 0) (n := 0) (by decide) (by decide) ?_
      exact ret (nI (cnt pg 8)) () _ _ 123 _ (by unfold F_M_told <;> rw [if_neg h2] <;> rw [if_neg h3] <;> rw [if_neg h4] <;> rw [if_neg h6] <;> rw [if_neg h8] <;> rw [if_pos h10] <;> rw [if_pos h11] <;> rfl) hw d_M_told_123
  by_cases h15 : x = 6
  · refine lv_tableIn (pc := 1) (tgt := 124) F.1 F.2.1 d_M_told_1 (by rw [h15]; decide) (by rw [h15]; decide) (by rw [h15]; rfl) rfl ?_
    refine lv_aload_n (pc := 124) F.1 F.2.1 d_M_told_124 rfl (lv_at hl 0 rfl) ?_
    refine x_get (pc := 125) (v := .int pn) F hw 0 25 (fun x h => List.mem_cons_of_mem _ (in_M x h)) rfl rfl (by decide) (List.mem_cons_of_mem _ m_548) rfl d_M_told_125 ?_
    refine W.widen (k := 0) (n := 0) (by decide) (by decide) ?_
    exact ret pn () _ _ 128 _ (by unfold F_M_told <;> rw [if_neg h2] <;> rw [if_neg h3] <;> rw [if_neg h4] <;> rw [if_neg h6] <;> rw [if_neg h8] <;> rw [if_neg h10] <;> rw [if_pos h15] <;> rfl) hw d_M_told_128
  by_cases h16 : x = 7
  · refine lv_tableIn (pc := 1) (tgt := 129) F.1 F.2.1 d_M_told_1 (by rw [h16]; decide) (by rw [h16]; decide) (by rw [h16]; rfl) rfl ?_
    refine lv_aload_n (pc := 129) F.1 F.2.1 d_M_told_129 rfl (lv_at hl 0 rfl) ?_
    refine x_get (pc := 130) (v := .int (bI rd)) F hw 0 21 (fun x h => List.mem_cons_of_mem _ (in_M x h)) rfl rfl (by decide) (List.mem_cons_of_mem _ m_544) rfl d_M_told_130 ?_
    refine x_ifeqB (pc := 133) (tgt := 140) F d_M_told_133 rfl (fun h17 => ?_) (fun h17 => ?_)
    · refine lv_iconst (pc := 140) (v := 0) F.1 F.2.1 d_M_told_140 (by decide) ?_
      refine W.widen (k := 0) (n := 0) (by decide) (by decide) ?_
      exact ret 0 () _ _ 141 _ (by unfold F_M_told <;> rw [if_neg h2] <;> rw [if_neg h3] <;> rw [if_neg h4] <;> rw [if_neg h6] <;> rw [if_neg h8] <;> rw [if_neg h10] <;> rw [if_neg h15] <;> rw [if_pos h16] <;> rw [if_neg h17] <;> rfl) hw d_M_told_141
    · refine lv_iconst (pc := 136) (v := 1) F.1 F.2.1 d_M_told_136 (by decide) ?_
      refine lv_goto (pc := 137) (tgt := 141) F.1 F.2.1 d_M_told_137 rfl ?_
      refine W.widen (k := 0) (n := 0) (by decide) (by decide) ?_
      exact ret 1 () _ _ 141 _ (by unfold F_M_told <;> rw [if_neg h2] <;> rw [if_neg h3] <;> rw [if_neg h4] <;> rw [if_neg h6] <;> rw [if_neg h8] <;> rw [if_neg h10] <;> rw [if_neg h15] <;> rw [if_pos h16] <;> rw [if_pos h17] <;> rfl) hw d_M_told_141
  by_cases h18 : x = 8
  · refine lv_tableIn (pc := 1) (tgt := 142) F.1 F.2.1 d_M_told_1 (by rw [h18]; decide) (by rw [h18]; decide) (by rw [h18]; rfl) rfl ?_
    refine lv_aload_n (pc := 142) F.1 F.2.1 d_M_told_142 rfl (lv_at hl 0 rfl) ?_
    refine x_get (pc := 143) (v := .int (bI go)) F hw 0 13 (fun x h => List.mem_cons_of_mem _ (in_M x h)) rfl rfl (by decide) (List.mem_cons_of_mem _ m_536) rfl d_M_told_143 ?_
    refine x_ifeqB (pc := 146) (tgt := 156) F d_M_told_146 rfl (fun h19 => ?_) (fun h19 => ?_)
    · refine lv_iconst (pc := 156) (v := 0) F.1 F.2.1 d_M_told_156 (by decide) ?_
      refine W.widen (k := 0) (n := 0) (by decide) (by decide) ?_
      exact ret 0 () _ _ 157 _ (by unfold F_M_told <;> rw [if_neg h2] <;> rw [if_neg h3] <;> rw [if_neg h4] <;> rw [if_neg h6] <;> rw [if_neg h8] <;> rw [if_neg h10] <;> rw [if_neg h15] <;> rw [if_neg h16] <;> rw [if_pos h18] <;> rw [if_neg h19] <;> rfl) hw d_M_told_157
    · refine lv_aload_n (pc := 149) F.1 F.2.1 d_M_told_149 rfl (lv_at hl 0 rfl) ?_
      refine x_get (pc := 150) (v := .int sp) F hw 0 19 (fun x h => List.mem_cons_of_mem _ (in_M x h)) rfl rfl (by decide) (List.mem_cons_of_mem _ m_542) rfl d_M_told_150 ?_
      refine lv_goto (pc := 153) (tgt := 157) F.1 F.2.1 d_M_told_153 rfl ?_
      refine W.widen (k := 0) (n := 0) (by decide) (by decide) ?_
      exact ret sp () _ _ 157 _ (by unfold F_M_told <;> rw [if_neg h2] <;> rw [if_neg h3] <;> rw [if_neg h4] <;> rw [if_neg h6] <;> rw [if_neg h8] <;> rw [if_neg h10] <;> rw [if_neg h15] <;> rw [if_neg h16] <;> rw [if_pos h18] <;> rw [if_pos h19] <;> rfl) hw d_M_told_157
  refine lv_tableOut (pc := 1) (tgt := 158) F.1 F.2.1 d_M_told_1 (tab_out 8 (fun k hk => by rcases (show k = 0 ∨ k = 1 ∨ k = 2 ∨ k = 3 ∨ k = 4 ∨ k = 5 ∨ k = 6 ∨ k = 7 ∨ k = 8 by omega) with rfl | rfl | rfl | rfl | rfl | rfl | rfl | rfl | rfl; exact h2; exact h3; exact h4; exact h6; exact h8; exact h10; exact h15; exact h16; exact h18)) rfl ?_
  refine lv_iconst (pc := 158) (v := (-1)) F.1 F.2.1 d_M_told_158 (by decide) ?_
  refine W.widen (k := 0) (n := 0) (by decide) (by decide) ?_
  exact ret (-1) () _ _ 159 _ (by unfold F_M_told <;> rw [if_neg h2] <;> rw [if_neg h3] <;> rw [if_neg h4] <;> rw [if_neg h6] <;> rw [if_neg h8] <;> rw [if_neg h10] <;> rw [if_neg h15] <;> rw [if_neg h16] <;> rw [if_neg h18] <;> rfl) hw d_M_told_159
def F_M_piece (ki : Nat → Int32) (mo : Nat → Int32) (po : Nat → Int32) (sr : Nat → Int32) (pn : Int32) (k : Int32) (x : Int32) : Int32 × Unit :=
  match F_M_isPiece pn k with
  | (r2, _) =>
    if r2 = 0 then
      ((-1), ())
    else
      if x < 0 then
        ((-1), ())
      else
        if x ≤ 3 then
          if x = 0 then
            (ki (tN k), ())
          else
            if x = 1 then
              (mo (tN k), ())
            else
              if x = 2 then
                (po (tN k), ())
              else
                (sr (tN k), ())
        else
          ((-1), ())
set_option maxHeartbeats 4000000 in
set_option maxRecDepth 100000 in
theorem c_M_piece (l : Launch) (D : va_G) (cT : Nat → ClassId) (ad : Nat → Nat) (im : Nat → Int32) (me : Nat → Int32) (ro : Nat → Int32) (up : Nat → Bool) (ho : Nat → Bool) (di : Nat → Int32) (os : Nat → Bool) (ob : Nat → Int32) (od : Nat → Int32) (on : Nat → Int32) (pg : Nat → Int32) (tm : Nat → Int32) (ts : Nat → Int32) (tr : Nat → Int32) (ki : Nat → Int32) (mo : Nat → Int32) (po : Nat → Int32) (sr : Nat → Int32) (ld : Nat → Int32) (st : Bool) (ow : Int32) (nu : Int32) (go : Bool) (la : Int32) (so : Int32) (se : Int32) (sl : Int32) (sp : Int32) (tp : Bool) (rd : Bool) (pn : Int32) (k : Int32) (x : Int32) (n0 : isN pn 9) : Cti l y_M_piece ws_M_piece { frames := 1, cells := 0, slots := 0, locals := 21 } D vwCl (TYS cT) [.ref (ad 0), .int k, .int x] (MW ad cT im me ro up ho di os ob od on pg tm ts tr ki mo po sr ld st ow nu go la so se sl sp tp rd pn) (fun (rr : Int32) (uu : Unit) => F_M_piece ki mo po sr pn k x = (rr, uu)) (fun (u : Unit) => MW ad cT im me ro up ho di os ob od on pg tm ts tr ki mo po sr ld st ow nu go la so se sl sp tp rd pn) 0 0 := by
  refine x_ini (cc := b_M_piece) (maxL := 3) (by decide) rfl (Nat.le_of_ble_eq_true rfl) ?_
  intro p e s m args below meth c A ls Q F hl hw ret
  have hl : lv_has ls 3 [(0, .ref (ad 0)), (1, .int k), (2, .int x)] := hl
  have n0b := n0.2
  refine lv_aload_n (pc := 0) F.1 F.2.1 d_M_piece_0 rfl (lv_at hl 0 rfl) ?_
  refine lv_iload_n (pc := 1) F.1 F.2.1 d_M_piece_1 rfl (lv_at hl 1 rfl) ?_
  refine x_calli (pc := 2) (wr := []) hw [0, 1, 2, 3, 4, 5, 6, 7, 8, 9, 10, 11, 12, 13, 14, 15, 16, 17, 18, 19] [] rfl rfl (by decide) (by decide) (va_runV (As := [.int k]) (rest := []) F (c_M_isPiece l D cT ad im me ro up ho di os ob od on pg tm ts tr ki mo po sr ld st ow nu go la so se sl sp tp rd pn k ⟨n0.1, by omega⟩ _) (x_cw (C := "MovingGuestModel") 1 F (g_all y_M_isPiece b_M_isPiece 2 (some .boolean) (List.mem_cons_of_mem _ m_685)) rfl rfl rfl (F.2.2.2.2 _ (List.mem_cons_of_mem _ m_40)) (F.2.2.2.2 _ (List.mem_cons_of_mem _ m_683)) (F.2.2.2.2 _ (List.mem_cons_of_mem _ m_684)) (F.2.2.2.2 _ (List.mem_cons_of_mem _ m_26)) (by decide +kernel) ⟨by decide, by decide⟩) (hw.preV (q0 := 0) [0, 1, 2, 3, 4, 5, 6, 7, 8, 9, 10, 11, 12, 13, 14, 15, 16, 17, 18, 19] (by decide) rfl rfl rfl) rfl rfl hl.1 rfl (lv_room (Nat.le_of_ble_eq_true rfl)) d_M_piece_2 ⟨by decide, by decide⟩) (fun r2 u3 H locs e1 hw => ?_)
  refine lv_if_eq (pc := 5) (tgt := 17) F.1 F.2.1 d_M_piece_5 rfl (fun h4 => ?_) (fun h4 => ?_)
  · refine lv_iconst (pc := 17) (v := (-1)) F.1 F.2.1 d_M_piece_17 (by decide) ?_
    refine W.widen (k := 0) (n := 0) (by decide) (by decide) ?_
    exact ret (-1) () _ _ 18 _ (by unfold F_M_piece <;> rw [e1] <;> (try dsimp only) <;> rw [if_pos h4] <;> rfl) hw d_M_piece_18
  · have nk := isPiece_nat n0 e1 h4
    have nkb := nk.2
    refine lv_iload_n (pc := 8) F.1 F.2.1 d_M_piece_8 rfl (lv_at hl 2 rfl) ?_
    refine lv_if_lt (pc := 9) (tgt := 17) F.1 F.2.1 d_M_piece_9 rfl (fun h5 => ?_) (fun h5 => ?_)
    · refine lv_iconst (pc := 17) (v := (-1)) F.1 F.2.1 d_M_piece_17 (by decide) ?_
      refine W.widen (k := 0) (n := 0) (by decide) (by decide) ?_
      exact ret (-1) () _ _ 18 _ (by unfold F_M_piece <;> rw [e1] <;> (try dsimp only) <;> rw [if_neg h4] <;> rw [if_pos h5] <;> rfl) hw d_M_piece_18
    · refine lv_iload_n (pc := 12) F.1 F.2.1 d_M_piece_12 rfl (lv_at hl 2 rfl) ?_
      refine lv_iconst (pc := 13) (v := 3) F.1 F.2.1 d_M_piece_13 (by decide) ?_
      refine lv_icmp_le (pc := 14) (tgt := 19) F.1 F.2.1 d_M_piece_14 rfl (fun h6 => ?_) (fun h6 => ?_)
      · refine lv_iload_n (pc := 19) F.1 F.2.1 d_M_piece_19 rfl (lv_at hl 2 rfl) ?_
        refine lv_if_ne (pc := 20) (tgt := 32) F.1 F.2.1 d_M_piece_20 rfl (fun h7 => ?_) (fun h7 => ?_)
        · refine lv_iload_n (pc := 32) F.1 F.2.1 d_M_piece_32 rfl (lv_at hl 2 rfl) ?_
          refine lv_iconst (pc := 33) (v := 1) F.1 F.2.1 d_M_piece_33 (by decide) ?_
          refine lv_icmp_ne (pc := 34) (tgt := 46) F.1 F.2.1 d_M_piece_34 rfl (fun h8 => ?_) (fun h8 => ?_)
          · refine lv_iload_n (pc := 46) F.1 F.2.1 d_M_piece_46 rfl (lv_at hl 2 rfl) ?_
            refine lv_iconst (pc := 47) (v := 2) F.1 F.2.1 d_M_piece_47 (by decide) ?_
            refine lv_icmp_ne (pc := 48) (tgt := 60) F.1 F.2.1 d_M_piece_48 rfl (fun h9 => ?_) (fun h9 => ?_)
            · refine lv_aload_n (pc := 60) F.1 F.2.1 d_M_piece_60 rfl (lv_at hl 0 rfl) ?_
              refine x_get (pc := 61) (v := .ref (ad 18)) F hw 0 29 (fun x h => List.mem_cons_of_mem _ (in_M x h)) rfl rfl (by decide) (List.mem_cons_of_mem _ m_552) rfl d_M_piece_61 ?_
              refine lv_iload_n (pc := 64) F.1 F.2.1 d_M_piece_64 rfl (lv_at hl 1 rfl) ?_
              refine x_top (y := nI (tN k)) nk.1 ?_
              refine x_iald (pc := 65) F hw 18 0 (tN k) rfl rfl rfl (by omega) (by decide) d_M_piece_65 ?_
              refine W.widen (k := 0) (n := 0) (by decide) (by decide) ?_
              exact ret (sr (tN k)) () _ _ 66 _ (by unfold F_M_piece <;> rw [e1] <;> (try dsimp only) <;> rw [if_neg h4] <;> rw [if_neg h5] <;> rw [if_pos h6] <;> rw [if_neg h7] <;> rw [if_neg h8] <;> rw [if_neg h9] <;> rfl) hw d_M_piece_66
            · refine lv_aload_n (pc := 51) F.1 F.2.1 d_M_piece_51 rfl (lv_at hl 0 rfl) ?_
              refine x_get (pc := 52) (v := .ref (ad 17)) F hw 0 28 (fun x h => List.mem_cons_of_mem _ (in_M x h)) rfl rfl (by decide) (List.mem_cons_of_mem _ m_551) rfl d_M_piece_52 ?_
              refine lv_iload_n (pc := 55) F.1 F.2.1 d_M_piece_55 rfl (lv_at hl 1 rfl) ?_
              refine x_top (y := nI (tN k)) nk.1 ?_
              refine x_iald (pc := 56) F hw 17 0 (tN k) rfl rfl rfl (by omega) (by decide) d_M_piece_56 ?_
              refine lv_goto (pc := 57) (tgt := 66) F.1 F.2.1 d_M_piece_57 rfl ?_
              refine W.widen (k := 0) (n := 0) (by decide) (by decide) ?_
              exact ret (po (tN k)) () _ _ 66 _ (by unfold F_M_piece <;> rw [e1] <;> (try dsimp only) <;> rw [if_neg h4] <;> rw [if_neg h5] <;> rw [if_pos h6] <;> rw [if_neg h7] <;> rw [if_neg h8] <;> rw [if_pos h9] <;> rfl) hw d_M_piece_66
          · refine lv_aload_n (pc := 37) F.1 F.2.1 d_M_piece_37 rfl (lv_at hl 0 rfl) ?_
            refine x_get (pc := 38) (v := .ref (ad 16)) F hw 0 27 (fun x h => List.mem_cons_of_mem _ (in_M x h)) rfl rfl (by decide) (List.mem_cons_of_mem _ m_550) rfl d_M_piece_38 ?_
            refine lv_iload_n (pc := 41) F.1 F.2.1 d_M_piece_41 rfl (lv_at hl 1 rfl) ?_
            refine x_top (y := nI (tN k)) nk.1 ?_
            refine x_iald (pc := 42) F hw 16 0 (tN k) rfl rfl rfl (by omega) (by decide) d_M_piece_42 ?_
            refine lv_goto (pc := 43) (tgt := 66) F.1 F.2.1 d_M_piece_43 rfl ?_
            refine W.widen (k := 0) (n := 0) (by decide) (by decide) ?_
            exact ret (mo (tN k)) () _ _ 66 _ (by unfold F_M_piece <;> rw [e1] <;> (try dsimp only) <;> rw [if_neg h4] <;> rw [if_neg h5] <;> rw [if_pos h6] <;> rw [if_neg h7] <;> rw [if_pos h8] <;> rfl) hw d_M_piece_66
        · refine lv_aload_n (pc := 23) F.1 F.2.1 d_M_piece_23 rfl (lv_at hl 0 rfl) ?_
          refine x_get (pc := 24) (v := .ref (ad 15)) F hw 0 26 (fun x h => List.mem_cons_of_mem _ (in_M x h)) rfl rfl (by decide) (List.mem_cons_of_mem _ m_549) rfl d_M_piece_24 ?_
          refine lv_iload_n (pc := 27) F.1 F.2.1 d_M_piece_27 rfl (lv_at hl 1 rfl) ?_
          refine x_top (y := nI (tN k)) nk.1 ?_
          refine x_iald (pc := 28) F hw 15 0 (tN k) rfl rfl rfl (by omega) (by decide) d_M_piece_28 ?_
          refine lv_goto (pc := 29) (tgt := 66) F.1 F.2.1 d_M_piece_29 rfl ?_
          refine W.widen (k := 0) (n := 0) (by decide) (by decide) ?_
          exact ret (ki (tN k)) () _ _ 66 _ (by unfold F_M_piece <;> rw [e1] <;> (try dsimp only) <;> rw [if_neg h4] <;> rw [if_neg h5] <;> rw [if_pos h6] <;> rw [if_pos h7] <;> rfl) hw d_M_piece_66
      · refine lv_iconst (pc := 17) (v := (-1)) F.1 F.2.1 d_M_piece_17 (by decide) ?_
        refine W.widen (k := 0) (n := 0) (by decide) (by decide) ?_
        exact ret (-1) () _ _ 18 _ (by unfold F_M_piece <;> rw [e1] <;> (try dsimp only) <;> rw [if_neg h4] <;> rw [if_neg h5] <;> rw [if_neg h6] <;> rfl) hw d_M_piece_18
def F_M_lose (ki : Nat → Int32) (mo : Nat → Int32) (po : Nat → Int32) (sr : Nat → Int32) (ld : Nat → Int32) (pn : Int32) (k : Int32) : Int32 × (Nat → Int32) × (Nat → Int32) × (Nat → Int32) × (Nat → Int32) × (Nat → Int32) × Int32 :=
  match F_M_isPiece pn k with
  | (r2, _) =>
    if r2 = 0 then
      ((-1), (ki, mo, po, sr, ld, pn))
    else
      (ki (tN k), (va_cpy (upd ki 8 (ki (tN k))) (upd ki 8 (ki (tN k))) (tN k + 1) (tN k) (tN pn - 1 - tN k), va_cpy (upd mo 8 (mo (tN k))) (upd mo 8 (mo (tN k))) (tN k + 1) (tN k) (tN pn - 1 - tN k), va_cpy (upd po 8 (po (tN k))) (upd po 8 (po (tN k))) (tN k + 1) (tN k) (tN pn - 1 - tN k), va_cpy (upd sr 8 (sr (tN k))) (upd sr 8 (sr (tN k))) (tN k + 1) (tN k) (tN pn - 1 - tN k), va_cpy (va_cpy ld ld (60 * tN k) (60 * 8) 60) (va_cpy ld ld (60 * tN k) (60 * 8) 60) (60 * (tN k + 1)) (60 * tN k) (60 * (tN pn - 1 - tN k)), nI (tN pn - 1)))
set_option maxHeartbeats 4000000 in
set_option maxRecDepth 100000 in
theorem c_M_lose (l : Launch) (D : va_G) (cT : Nat → ClassId) (ad : Nat → Nat) (im : Nat → Int32) (me : Nat → Int32) (ro : Nat → Int32) (up : Nat → Bool) (ho : Nat → Bool) (di : Nat → Int32) (os : Nat → Bool) (ob : Nat → Int32) (od : Nat → Int32) (on : Nat → Int32) (pg : Nat → Int32) (tm : Nat → Int32) (ts : Nat → Int32) (tr : Nat → Int32) (ki : Nat → Int32) (mo : Nat → Int32) (po : Nat → Int32) (sr : Nat → Int32) (ld : Nat → Int32) (st : Bool) (ow : Int32) (nu : Int32) (go : Bool) (la : Int32) (so : Int32) (se : Int32) (sl : Int32) (sp : Int32) (tp : Bool) (rd : Bool) (pn : Int32) (k : Int32) (n0 : isN pn 9) : Cti l y_M_lose ws_M_lose { frames := 2, cells := 0, slots := 0, locals := 45 } D vwCl (TYS cT) [.ref (ad 0), .int k] (MW ad cT im me ro up ho di os ob od on pg tm ts tr ki mo po sr ld st ow nu go la so se sl sp tp rd pn) (fun (rr : Int32) (uu : (Nat → Int32) × (Nat → Int32) × (Nat → Int32) × (Nat → Int32) × (Nat → Int32) × Int32) => F_M_lose ki mo po sr ld pn k = (rr, uu)) (fun (u : (Nat → Int32) × (Nat → Int32) × (Nat → Int32) × (Nat → Int32) × (Nat → Int32) × Int32) => MW ad cT im me ro up ho di os ob od on pg tm ts tr u.1 u.2.1 u.2.2.1 u.2.2.2.1 u.2.2.2.2.1 st ow nu go la so se sl sp tp rd u.2.2.2.2.2) 0 0 := by
  refine x_ini (cc := b_M_lose) (maxL := 3) (by decide) rfl (Nat.le_of_ble_eq_true rfl) ?_
  intro p e s m args below meth c A ls Q F hl hw ret
  have hl : lv_has ls 3 [(0, .ref (ad 0)), (1, .int k)] := hl
  have n0b := n0.2
  refine lv_aload_n (pc := 0) F.1 F.2.1 d_M_lose_0 rfl (lv_at hl 0 rfl) ?_
  refine lv_iload_n (pc := 1) F.1 F.2.1 d_M_lose_1 rfl (lv_at hl 1 rfl) ?_
  refine x_calli (pc := 2) (wr := []) hw [0, 1, 2, 3, 4, 5, 6, 7, 8, 9, 10, 11, 12, 13, 14, 15, 16, 17, 18, 19] [] rfl rfl (by decide) (by decide) (va_runV (As := [.int k]) (rest := []) F (c_M_isPiece l D cT ad im me ro up ho di os ob od on pg tm ts tr ki mo po sr ld st ow nu go la so se sl sp tp rd pn k ⟨n0.1, by omega⟩ _) (x_cw (C := "MovingGuestModel") 1 F (g_all y_M_isPiece b_M_isPiece 2 (some .boolean) (List.mem_cons_of_mem _ m_685)) rfl rfl rfl (F.2.2.2.2 _ (List.mem_cons_of_mem _ m_40)) (F.2.2.2.2 _ (List.mem_cons_of_mem _ m_683)) (F.2.2.2.2 _ (List.mem_cons_of_mem _ m_684)) (F.2.2.2.2 _ (List.mem_cons_of_mem _ m_26)) (by decide +kernel) ⟨by decide, by decide⟩) (hw.preV (q0 := 0) [0, 1, 2, 3, 4, 5, 6, 7, 8, 9, 10, 11, 12, 13, 14, 15, 16, 17, 18, 19] (by decide) rfl rfl rfl) rfl rfl hl.1 rfl (lv_room (Nat.le_of_ble_eq_true rfl)) d_M_lose_2 ⟨by decide, by decide⟩) (fun r2 u3 H locs e1 hw => ?_)
  refine lv_if_ne (pc := 5) (tgt := 10) F.1 F.2.1 d_M_lose_5 rfl (fun h4 => ?_) (fun h4 => ?_)
  · have nk := isPiece_nat n0 e1 h4
    have nkb := nk.2
    refine lv_aload_n (pc := 10) F.1 F.2.1 d_M_lose_10 rfl (lv_at hl 0 rfl) ?_
    refine x_get (pc := 11) (v := .ref (ad 15)) F hw 0 26 (fun x h => List.mem_cons_of_mem _ (in_M x h)) rfl rfl (by decide) (List.mem_cons_of_mem _ m_549) rfl d_M_lose_11 ?_
    refine lv_iload_n (pc := 14) F.1 F.2.1 d_M_lose_14 rfl (lv_at hl 1 rfl) ?_
    refine x_top (y := nI (tN k)) nk.1 ?_
    refine x_iald (pc := 15) F hw 15 0 (tN k) rfl rfl rfl (by omega) (by decide) d_M_lose_15 ?_
    refine lv_istore_n (pc := 16) (lv' := [(2, .int (ki (tN k))), (0, .ref (ad 0)), (1, .int k)]) F.1 F.2.1 d_M_lose_16 rfl hl (by decide) rfl (fun ls hl => ?_)
    refine lv_aload_n (pc := 17) F.1 F.2.1 d_M_lose_17 rfl (lv_at hl 1 rfl) ?_
    refine lv_iload_n (pc := 18) F.1 F.2.1 d_M_lose_18 rfl (lv_at hl 2 rfl) ?_
    refine x_top (y := nI (tN k)) nk.1 ?_
    refine x_callv (pc := 19) (wr := []) hw [0, 1, 2, 3, 4, 5, 6, 7, 8, 9, 10, 11, 12, 13, 14, 15, 16, 17, 18, 19] [] rfl rfl (by decide) (by decide) (va_runV (As := [.int (nI (tN k))]) (rest := []) F (c_M_leave l D cT ad im me ro up ho di os ob od on pg tm ts tr ki mo po sr ld st ow nu go la so se sl sp tp rd pn (tN k) ⟨n0.1, by omega⟩ (by omega) _) (x_cw (C := "MovingGuestModel") 1 F (g_all y_M_leave b_M_leave 3 none (List.mem_cons_of_mem _ m_688)) rfl rfl rfl (F.2.2.2.2 _ (List.mem_cons_of_mem _ m_40)) (F.2.2.2.2 _ (List.mem_cons_of_mem _ m_686)) (F.2.2.2.2 _ (List.mem_cons_of_mem _ m_687)) (F.2.2.2.2 _ (List.mem_cons_of_mem _ m_27)) (by decide +kernel) ⟨by decide, by decide⟩) (hw.preV (q0 := 0) [0, 1, 2, 3, 4, 5, 6, 7, 8, 9, 10, 11, 12, 13, 14, 15, 16, 17, 18, 19] (by decide) rfl rfl rfl) rfl rfl hl.1 rfl (lv_room (Nat.le_of_ble_eq_true rfl)) d_M_lose_19 ⟨by decide, by decide⟩) (fun u12 H locs e5 hw => ?_)
    obtain ⟨kiv6, mov7, pov8, srv9, ldv10, pnv11⟩ := u12
    have hw : Hw D vwCl (TYS cT) A s (MW ad cT im me ro up ho di os ob od on pg tm ts tr kiv6 mov7 pov8 srv9 ldv10 st ow nu go la so se sl sp tp rd pnv11) H locs := hw
    cases (show (va_cpy (upd ki 8 (ki (tN k))) (upd ki 8 (ki (tN k))) (tN k + 1) (tN k) (tN pn - 1 - tN k), va_cpy (upd mo 8 (mo (tN k))) (upd mo 8 (mo (tN k))) (tN k + 1) (tN k) (tN pn - 1 - tN k), va_cpy (upd po 8 (po (tN k))) (upd po 8 (po (tN k))) (tN k + 1) (tN k) (tN pn - 1 - tN k), va_cpy (upd sr 8 (sr (tN k))) (upd sr 8 (sr (tN k))) (tN k + 1) (tN k) (tN pn - 1 - tN k), va_cpy (va_cpy ld ld (60 * tN k) (60 * 8) 60) (va_cpy ld ld (60 * tN k) (60 * 8) 60) (60 * (tN k + 1)) (60 * tN k) (60 * (tN pn - 1 - tN k)), nI (tN pn - 1)) = (kiv6, mov7, pov8, srv9, ldv10, pnv11) from e5)
    refine lv_iload_n (pc := 22) F.1 F.2.1 d_M_lose_22 rfl (lv_at hl 0 rfl) ?_
    refine W.widen (k := 0) (n := 0) (by decide) (by decide) ?_
    exact ret (ki (tN k)) (va_cpy (upd ki 8 (ki (tN k))) (upd ki 8 (ki (tN k))) (tN k + 1) (tN k) (tN pn - 1 - tN k), va_cpy (upd mo 8 (mo (tN k))) (upd mo 8 (mo (tN k))) (tN k + 1) (tN k) (tN pn - 1 - tN k), va_cpy (upd po 8 (po (tN k))) (upd po 8 (po (tN k))) (tN k + 1) (tN k) (tN pn - 1 - tN k), va_cpy (upd sr 8 (sr (tN k))) (upd sr 8 (sr (tN k))) (tN k + 1) (tN k) (tN pn - 1 - tN k), va_cpy (va_cpy ld ld (60 * tN k) (60 * 8) 60) (va_cpy ld ld (60 * tN k) (60 * 8) 60) (60 * (tN k + 1)) (60 * tN k) (60 * (tN pn - 1 - tN k)), nI (tN pn - 1)) _ _ 23 _ (by unfold F_M_lose <;> rw [e1] <;> (try dsimp only) <;> rw [if_neg h4] <;> rfl) hw d_M_lose_23
  · refine lv_iconst (pc := 8) (v := (-1)) F.1 F.2.1 d_M_lose_8 (by decide) ?_
    refine W.widen (k := 0) (n := 0) (by decide) (by decide) ?_
    exact ret (-1) (ki, mo, po, sr, ld, pn) _ _ 9 _ (by unfold F_M_lose <;> rw [e1] <;> (try dsimp only) <;> rw [if_pos h4] <;> rfl) hw d_M_lose_9
def F_M_twice (ki : Nat → Int32) (mo : Nat → Int32) (po : Nat → Int32) (sr : Nat → Int32) (ld : Nat → Int32) (pn : Int32) (k : Int32) : Int32 × (Nat → Int32) × (Nat → Int32) × (Nat → Int32) × (Nat → Int32) × (Nat → Int32) × Int32 :=
  match F_M_isPiece pn k with
  | (r2, _) =>
    if r2 = 0 then
      ((-1), (ki, mo, po, sr, ld, pn))
    else
      if (nI (tN pn)) = 8 then
        ((-3), (ki, mo, po, sr, ld, pn))
      else
        (nI (tN pn + 1), (upd ki (tN pn) (ki (tN k)), upd mo (tN pn) (mo (tN k)), upd po (tN pn) (po (tN k)), upd sr (tN pn) (sr (tN k)), va_cpy ld ld (60 * tN k) (60 * tN pn) 60, nI (tN pn + 1)))
set_option maxHeartbeats 4000000 in
set_option maxRecDepth 100000 in
theorem c_M_twice (l : Launch) (D : va_G) (cT : Nat → ClassId) (ad : Nat → Nat) (im : Nat → Int32) (me : Nat → Int32) (ro : Nat → Int32) (up : Nat → Bool) (ho : Nat → Bool) (di : Nat → Int32) (os : Nat → Bool) (ob : Nat → Int32) (od : Nat → Int32) (on : Nat → Int32) (pg : Nat → Int32) (tm : Nat → Int32) (ts : Nat → Int32) (tr : Nat → Int32) (ki : Nat → Int32) (mo : Nat → Int32) (po : Nat → Int32) (sr : Nat → Int32) (ld : Nat → Int32) (st : Bool) (ow : Int32) (nu : Int32) (go : Bool) (la : Int32) (so : Int32) (se : Int32) (sl : Int32) (sp : Int32) (tp : Bool) (rd : Bool) (pn : Int32) (k : Int32) (n0 : isN pn 9) : Cti l y_M_twice ws_M_twice { frames := 1, cells := 0, slots := 0, locals := 23 } D vwCl (TYS cT) [.ref (ad 0), .int k] (MW ad cT im me ro up ho di os ob od on pg tm ts tr ki mo po sr ld st ow nu go la so se sl sp tp rd pn) (fun (rr : Int32) (uu : (Nat → Int32) × (Nat → Int32) × (Nat → Int32) × (Nat → Int32) × (Nat → Int32) × Int32) => F_M_twice ki mo po sr ld pn k = (rr, uu)) (fun (u : (Nat → Int32) × (Nat → Int32) × (Nat → Int32) × (Nat → Int32) × (Nat → Int32) × Int32) => MW ad cT im me ro up ho di os ob od on pg tm ts tr u.1 u.2.1 u.2.2.1 u.2.2.2.1 u.2.2.2.2.1 st ow nu go la so se sl sp tp rd u.2.2.2.2.2) 0 0 := by
  refine x_ini (cc := b_M_twice) (maxL := 2) (by decide) rfl (Nat.le_of_ble_eq_true rfl) ?_
  intro p e s m args below meth c A ls Q F hl hw ret
  have hl : lv_has ls 2 [(0, .ref (ad 0)), (1, .int k)] := hl
  have n0b := n0.2
  refine lv_aload_n (pc := 0) F.1 F.2.1 d_M_twice_0 rfl (lv_at hl 0 rfl) ?_
  refine lv_iload_n (pc := 1) F.1 F.2.1 d_M_twice_1 rfl (lv_at hl 1 rfl) ?_
  refine x_calli (pc := 2) (wr := []) hw [0, 1, 2, 3, 4, 5, 6, 7, 8, 9, 10, 11, 12, 13, 14, 15, 16, 17, 18, 19] [] rfl rfl (by decide) (by decide) (va_runV (As := [.int k]) (rest := []) F (c_M_isPiece l D cT ad im me ro up ho di os ob od on pg tm ts tr ki mo po sr ld st ow nu go la so se sl sp tp rd pn k ⟨n0.1, by omega⟩ _) (x_cw (C := "MovingGuestModel") 1 F (g_all y_M_isPiece b_M_isPiece 2 (some .boolean) (List.mem_cons_of_mem _ m_685)) rfl rfl rfl (F.2.2.2.2 _ (List.mem_cons_of_mem _ m_40)) (F.2.2.2.2 _ (List.mem_cons_of_mem _ m_683)) (F.2.2.2.2 _ (List.mem_cons_of_mem _ m_684)) (F.2.2.2.2 _ (List.mem_cons_of_mem _ m_26)) (by decide +kernel) ⟨by decide, by decide⟩) (hw.preV (q0 := 0) [0, 1, 2, 3, 4, 5, 6, 7, 8, 9, 10, 11, 12, 13, 14, 15, 16, 17, 18, 19] (by decide) rfl rfl rfl) rfl rfl hl.1 rfl (lv_room (Nat.le_of_ble_eq_true rfl)) d_M_twice_2 ⟨by decide, by decide⟩) (fun r2 u3 H locs e1 hw => ?_)
  refine lv_if_ne (pc := 5) (tgt := 10) F.1 F.2.1 d_M_twice_5 rfl (fun h4 => ?_) (fun h4 => ?_)
  · have nk := isPiece_nat n0 e1 h4
    have nkb := nk.2
    refine lv_aload_n (pc := 10) F.1 F.2.1 d_M_twice_10 rfl (lv_at hl 0 rfl) ?_
    refine x_get (pc := 11) (v := .int pn) F hw 0 25 (fun x h => List.mem_cons_of_mem _ (in_M x h)) rfl rfl (by decide) (List.mem_cons_of_mem _ m_548) rfl d_M_twice_11 ?_
    refine x_top (y := nI (tN pn)) n0.1 ?_
    refine lv_bipush (pc := 14) (v := 8) F.1 F.2.1 d_M_twice_14 (by decide) ?_
    refine lv_icmp_ne (pc := 16) (tgt := 22) F.1 F.2.1 d_M_twice_16 rfl (fun h5 => ?_) (fun h5 => ?_)
    · have z9 : tN pn ≠ 8 := fun q => h5 (by rw [q]; rfl)
      refine lv_aload_n (pc := 22) F.1 F.2.1 d_M_twice_22 rfl (lv_at hl 0 rfl) ?_
      refine lv_iload_n (pc := 23) F.1 F.2.1 d_M_twice_23 rfl (lv_at hl 1 rfl) ?_
      refine x_top (y := nI (tN k)) nk.1 ?_
      refine lv_aload_n (pc := 24) F.1 F.2.1 d_M_twice_24 rfl (lv_at hl 0 rfl) ?_
      refine x_get (pc := 25) (v := .int pn) F hw 0 25 (fun x h => List.mem_cons_of_mem _ (in_M x h)) rfl rfl (by decide) (List.mem_cons_of_mem _ m_548) rfl d_M_twice_25 ?_
      refine x_top (y := nI (tN pn)) n0.1 ?_
      refine x_callv (pc := 28) (wr := []) hw [0, 1, 2, 3, 4, 5, 6, 7, 8, 9, 10, 11, 12, 13, 14, 15, 16, 17, 18, 19] [] rfl rfl (by decide) (by decide) (va_runV (As := [.int (nI (tN k)), .int (nI (tN pn))]) (rest := []) F (c_M_copy l D cT ad im me ro up ho di os ob od on pg tm ts tr ki mo po sr ld st ow nu go la so se sl sp tp rd pn (tN k) (tN pn) (by omega) (by omega) (by omega) _) (x_cw (C := "MovingGuestModel") 2 F (g_all y_M_copy b_M_copy 4 none (List.mem_cons_of_mem _ m_691)) rfl rfl rfl (F.2.2.2.2 _ (List.mem_cons_of_mem _ m_40)) (F.2.2.2.2 _ (List.mem_cons_of_mem _ m_689)) (F.2.2.2.2 _ (List.mem_cons_of_mem _ m_690)) (F.2.2.2.2 _ (List.mem_cons_of_mem _ m_28)) (by decide +kernel) ⟨by decide, by decide⟩) (hw.preV (q0 := 0) [0, 1, 2, 3, 4, 5, 6, 7, 8, 9, 10, 11, 12, 13, 14, 15, 16, 17, 18, 19] (by decide) rfl rfl rfl) rfl rfl hl.1 rfl (lv_room (Nat.le_of_ble_eq_true rfl)) d_M_twice_28 ⟨by decide, by decide⟩) (fun u12 H locs e6 hw => ?_)
      obtain ⟨kiv7, mov8, pov9, srv10, ldv11⟩ := u12
      have hw : Hw D vwCl (TYS cT) A s (MW ad cT im me ro up ho di os ob od on pg tm ts tr kiv7 mov8 pov9 srv10 ldv11 st ow nu go la so se sl sp tp rd pn) H locs := hw
      cases (show (upd ki (tN pn) (ki (tN k)), upd mo (tN pn) (mo (tN k)), upd po (tN pn) (po (tN k)), upd sr (tN pn) (sr (tN k)), va_cpy ld ld (60 * tN k) (60 * tN pn) 60) = (kiv7, mov8, pov9, srv10, ldv11) from e6)
      refine lv_aload_n (pc := 31) F.1 F.2.1 d_M_twice_31 rfl (lv_at hl 0 rfl) ?_
      refine lv_dup (pc := 32) F.1 F.2.1 d_M_twice_32 rfl ?_
      refine x_get (pc := 33) (v := .int pn) F hw 0 25 (fun x h => List.mem_cons_of_mem _ (in_M x h)) rfl rfl (by decide) (List.mem_cons_of_mem _ m_548) rfl d_M_twice_33 ?_
      refine x_top (y := nI (tN pn)) n0.1 ?_
      refine lv_iconst (pc := 36) (v := 1) F.1 F.2.1 d_M_twice_36 (by decide) ?_
      refine lv_iadd (pc := 37) F.1 F.2.1 d_M_twice_37 ?_
      refine x_top (y := nI (tN pn + 1)) (x_add2 rfl rfl) ?_
      refine x_put (pc := 38) (v := .int (nI (tN pn + 1))) (ty := .int) (ws' := MW ad cT im me ro up ho di os ob od on pg tm ts tr (upd ki (tN pn) (ki (tN k))) (upd mo (tN pn) (mo (tN k))) (upd po (tN pn) (po (tN k))) (upd sr (tN pn) (sr (tN k))) (va_cpy ld ld (60 * tN k) (60 * tN pn) 60) st ow nu go la so se sl sp tp rd (nI (tN pn + 1))) F hw 0 25 (fun x h => List.mem_cons_of_mem _ (in_M x h)) ty_M tyok_M nm_M rfl rfl (by decide) (List.mem_cons_of_mem _ m_548) rfl (by decide +kernel) rfl rfl (Nat.le_of_ble_eq_true rfl) d_M_twice_38 rfl (fun H locs hw => ?_)
      refine lv_aload_n (pc := 41) F.1 F.2.1 d_M_twice_41 rfl (lv_at hl 0 rfl) ?_
      refine x_get (pc := 42) (v := .int (nI (tN pn + 1))) F hw 0 25 (fun x h => List.mem_cons_of_mem _ (in_M x h)) rfl rfl (by decide) (List.mem_cons_of_mem _ m_548) rfl d_M_twice_42 ?_
      refine W.widen (k := 0) (n := 0) (by decide) (by decide) ?_
      exact ret (nI (tN pn + 1)) (upd ki (tN pn) (ki (tN k)), upd mo (tN pn) (mo (tN k)), upd po (tN pn) (po (tN k)), upd sr (tN pn) (sr (tN k)), va_cpy ld ld (60 * tN k) (60 * tN pn) 60, nI (tN pn + 1)) _ _ 45 _ (by unfold F_M_twice <;> rw [e1] <;> (try dsimp only) <;> rw [if_neg h4] <;> rw [if_neg h5] <;> rfl) hw d_M_twice_45
    · refine lv_bipush (pc := 19) (v := (-3)) F.1 F.2.1 d_M_twice_19 (by decide) ?_
      refine W.widen (k := 0) (n := 0) (by decide) (by decide) ?_
      exact ret (-3) (ki, mo, po, sr, ld, pn) _ _ 21 _ (by unfold F_M_twice <;> rw [e1] <;> (try dsimp only) <;> rw [if_neg h4] <;> rw [if_pos h5] <;> rfl) hw d_M_twice_21
  · refine lv_iconst (pc := 8) (v := (-1)) F.1 F.2.1 d_M_twice_8 (by decide) ?_
    refine W.widen (k := 0) (n := 0) (by decide) (by decide) ?_
    exact ret (-1) (ki, mo, po, sr, ld, pn) _ _ 9 _ (by unfold F_M_twice <;> rw [e1] <;> (try dsimp only) <;> rw [if_pos h4] <;> rfl) hw d_M_twice_9
def F_M_pageArrives (tm : Nat → Int32) (ts : Nat → Int32) (ki : Nat → Int32) (mo : Nat → Int32) (po : Nat → Int32) (sr : Nat → Int32) (ld : Nat → Int32) (la : Int32) (tp : Bool) (pn : Int32) (mv : Int32) (p0 : Nat) (x : Int32) : (Nat → Int32) × (Nat → Int32) × (Nat → Int32) × (Nat → Int32) × (Nat → Int32) × (Nat → Int32) × Int32 :=
  if tp = true then
    if mv = la then
      if x ≤ (ts p0) then
        match F_M_come ki mo po sr pn 3 mv (nI p0) x with
        | (r5, kiv6, mov7, pov8, srv9, pnv10) =>
          (tm, ts, kiv6, mov7, pov8, srv9, pnv10)
      else
        match F_M_come ki mo po sr pn 3 mv (nI p0) x with
        | (r15, kiv16, mov17, pov18, srv19, pnv20) =>
          (va_cpy ld tm 480 (8 * p0) 8, upd ts p0 x, kiv16, mov17, pov18, srv19, pnv20)
    else
      (tm, ts, ki, mo, po, sr, pn)
  else
    (tm, ts, ki, mo, po, sr, pn)
set_option maxHeartbeats 4000000 in
set_option maxRecDepth 100000 in
theorem c_M_pageArrives (l : Launch) (D : va_G) (cT : Nat → ClassId) (ad : Nat → Nat) (im : Nat → Int32) (me : Nat → Int32) (ro : Nat → Int32) (up : Nat → Bool) (ho : Nat → Bool) (di : Nat → Int32) (os : Nat → Bool) (ob : Nat → Int32) (od : Nat → Int32) (on : Nat → Int32) (pg : Nat → Int32) (tm : Nat → Int32) (ts : Nat → Int32) (tr : Nat → Int32) (ki : Nat → Int32) (mo : Nat → Int32) (po : Nat → Int32) (sr : Nat → Int32) (ld : Nat → Int32) (st : Bool) (ow : Int32) (nu : Int32) (go : Bool) (la : Int32) (so : Int32) (se : Int32) (sl : Int32) (sp : Int32) (tp : Bool) (rd : Bool) (pn : Int32) (mv : Int32) (p0 : Nat) (x : Int32) (hp : p0 < 8) (n0 : isN pn 9) : Ctv l y_M_pageArrives ws_M_pageArrives { frames := 1, cells := 0, slots := 0, locals := 25 } D vwCl (TYS cT) [.ref (ad 0), .int mv, .int (nI p0), .int x] (MW ad cT im me ro up ho di os ob od on pg tm ts tr ki mo po sr ld st ow nu go la so se sl sp tp rd pn) (fun (uu : (Nat → Int32) × (Nat → Int32) × (Nat → Int32) × (Nat → Int32) × (Nat → Int32) × (Nat → Int32) × Int32) => F_M_pageArrives tm ts ki mo po sr ld la tp pn mv p0 x = uu) (fun (u : (Nat → Int32) × (Nat → Int32) × (Nat → Int32) × (Nat → Int32) × (Nat → Int32) × (Nat → Int32) × Int32) => MW ad cT im me ro up ho di os ob od on pg u.1 u.2.1 tr u.2.2.1 u.2.2.2.1 u.2.2.2.2.1 u.2.2.2.2.2.1 ld st ow nu go la so se sl sp tp rd u.2.2.2.2.2.2) 0 0 := by
  refine x_inv (cc := b_M_pageArrives) (maxL := 5) (by decide) rfl (Nat.le_of_ble_eq_true rfl) ?_
  intro p e s m args below meth c A ls Q F hin hl hw ret
  have hl : lv_has ls 5 [(0, .ref (ad 0)), (1, .int mv), (2, .int (nI p0)), (3, .int x)] := hl
  have n0b := n0.2
  refine lv_aload_n (pc := 0) F.1 F.2.1 d_M_pageArrives_0 rfl (lv_at hl 0 rfl) ?_
  refine x_get (pc := 1) (v := .int (bI tp)) F hw 0 20 (fun x h => List.mem_cons_of_mem _ (in_M x h)) rfl rfl (by decide) (List.mem_cons_of_mem _ m_543) rfl d_M_pageArrives_1 ?_
  refine x_ifeqB (pc := 4) (tgt := 15) F d_M_pageArrives_4 rfl (fun h1 => ?_) (fun h1 => ?_)
  · refine W.widen (k := 0) (n := 0) (by decide) (by decide) ?_
    exact ret (tm, ts, ki, mo, po, sr, pn) _ _ 15 _ (by unfold F_M_pageArrives <;> rw [if_neg h1] <;> rfl) hw d_M_pageArrives_15
  · refine lv_iload_n (pc := 7) F.1 F.2.1 d_M_pageArrives_7 rfl (lv_at hl 1 rfl) ?_
    refine lv_aload_n (pc := 8) F.1 F.2.1 d_M_pageArrives_8 rfl (lv_at hl 0 rfl) ?_
    refine x_get (pc := 9) (v := .int la) F hw 0 14 (fun x h => List.mem_cons_of_mem _ (in_M x h)) rfl rfl (by decide) (List.mem_cons_of_mem _ m_537) rfl d_M_pageArrives_9 ?_
    refine lv_icmp_eq (pc := 12) (tgt := 16) F.1 F.2.1 d_M_pageArrives_12 rfl (fun h2 => ?_) (fun h2 => ?_)
    · refine lv_iload_n (pc := 16) F.1 F.2.1 d_M_pageArrives_16 rfl (lv_at hl 3 rfl) ?_
      refine lv_aload_n (pc := 17) F.1 F.2.1 d_M_pageArrives_17 rfl (lv_at hl 0 rfl) ?_
      refine x_get (pc := 18) (v := .ref (ad 13)) F hw 0 23 (fun x h => List.mem_cons_of_mem _ (in_M x h)) rfl rfl (by decide) (List.mem_cons_of_mem _ m_546) rfl d_M_pageArrives_18 ?_
      refine lv_iload_n (pc := 21) F.1 F.2.1 d_M_pageArrives_21 rfl (lv_at hl 2 rfl) ?_
      refine x_iald (pc := 22) F hw 13 0 (p0) rfl rfl rfl (by omega) (by decide) d_M_pageArrives_22 ?_
      refine lv_icmp_le (pc := 23) (tgt := 72) F.1 F.2.1 d_M_pageArrives_23 rfl (fun h3 => ?_) (fun h3 => ?_)
      · refine lv_aload_n (pc := 72) F.1 F.2.1 d_M_pageArrives_72 rfl (lv_at hl 0 rfl) ?_
        refine lv_iconst (pc := 73) (v := 3) F.1 F.2.1 d_M_pageArrives_73 (by decide) ?_
        refine lv_iload_n (pc := 74) F.1 F.2.1 d_M_pageArrives_74 rfl (lv_at hl 1 rfl) ?_
        refine lv_iload_n (pc := 75) F.1 F.2.1 d_M_pageArrives_75 rfl (lv_at hl 2 rfl) ?_
        refine lv_iload_n (pc := 76) F.1 F.2.1 d_M_pageArrives_76 rfl (lv_at hl 3 rfl) ?_
        refine x_calli (pc := 77) (wr := []) hw [0, 1, 2, 3, 4, 5, 6, 7, 8, 9, 10, 11, 12, 13, 14, 15, 16, 17, 18, 19] [] rfl rfl (by decide) (by decide) (va_runV (As := [.int 3, .int mv, .int (nI p0), .int x]) (rest := []) F (c_M_come l D cT ad im me ro up ho di os ob od on pg tm ts tr ki mo po sr ld st ow nu go la so se sl sp tp rd pn 3 mv (nI p0) x ⟨n0.1, by omega⟩ _) (x_cw (C := "MovingGuestModel") 4 F (g_all y_M_come b_M_come 6 (some .int) (List.mem_cons_of_mem _ m_678)) rfl rfl rfl (F.2.2.2.2 _ (List.mem_cons_of_mem _ m_40)) (F.2.2.2.2 _ (List.mem_cons_of_mem _ m_676)) (F.2.2.2.2 _ (List.mem_cons_of_mem _ m_677)) (F.2.2.2.2 _ (List.mem_cons_of_mem _ m_25)) (by decide +kernel) ⟨by decide, by decide⟩) (hw.preV (q0 := 0) [0, 1, 2, 3, 4, 5, 6, 7, 8, 9, 10, 11, 12, 13, 14, 15, 16, 17, 18, 19] (by decide) rfl rfl rfl) rfl rfl hl.1 rfl (lv_room (Nat.le_of_ble_eq_true rfl)) d_M_pageArrives_77 ⟨by decide, by decide⟩) (fun r5 u11 H locs e4 hw => ?_)
        obtain ⟨kiv6, mov7, pov8, srv9, pnv10⟩ := u11
        have hw : Hw D vwCl (TYS cT) A s (MW ad cT im me ro up ho di os ob od on pg tm ts tr kiv6 mov7 pov8 srv9 ld st ow nu go la so se sl sp tp rd pnv10) H locs := hw
        refine lv_pop (pc := 80) F.1 F.2.1 d_M_pageArrives_80 rfl ?_
        refine W.widen (k := 0) (n := 0) (by decide) (by decide) ?_
        exact ret (tm, ts, kiv6, mov7, pov8, srv9, pnv10) _ _ 81 _ (by unfold F_M_pageArrives <;> rw [if_pos h1] <;> rw [if_pos h2] <;> rw [if_pos h3] <;> rw [e4] <;> (try dsimp only) <;> rfl) hw d_M_pageArrives_81
      · refine lv_aload_n (pc := 26) F.1 F.2.1 d_M_pageArrives_26 rfl (lv_at hl 0 rfl) ?_
        refine x_get (pc := 27) (v := .ref (ad 13)) F hw 0 23 (fun x h => List.mem_cons_of_mem _ (in_M x h)) rfl rfl (by decide) (List.mem_cons_of_mem _ m_546) rfl d_M_pageArrives_27 ?_
        refine lv_iload_n (pc := 30) F.1 F.2.1 d_M_pageArrives_30 rfl (lv_at hl 2 rfl) ?_
        refine lv_iload_n (pc := 31) F.1 F.2.1 d_M_pageArrives_31 rfl (lv_at hl 3 rfl) ?_
        refine x_iast (pc := 32) (ws' := MW ad cT im me ro up ho di os ob od on pg tm (upd ts p0 x) tr ki mo po sr ld st ow nu go la so se sl sp tp rd pn) F hw 13 0 (p0) rfl rfl rfl (by omega) (by decide) d_M_pageArrives_32 rfl (fun H locs hw => ?_)
        refine lv_iconst (pc := 33) (v := 0) F.1 F.2.1 d_M_pageArrives_33 (by decide) ?_
        refine lv_istore (pc := 34) (lv' := [(4, .int 0), (0, .ref (ad 0)), (1, .int mv), (2, .int (nI p0)), (3, .int x)]) F.1 F.2.1 d_M_pageArrives_34 hl (by decide) rfl (fun ls hl => ?_)
        have loop12 : ∀ (kf : Nat) (i : Nat) (ls : Array Slot) (H : Heap) (locs : List Loc), 8 - i = kf → (i ≤ 8) → lv_has ls 5 [(4, .int (nI i)), (0, .ref (ad 0)), (1, .int mv), (2, .int (nI p0)), (3, .int x)] → Hw D vwCl (TYS cT) A s (MW ad cT im me ro up ho di os ob od on pg (va_cpy ld tm 480 (8 * p0) i) (upd ts p0 x) tr ki mo po sr ld st ow nu go la so se sl sp tp rd pn) H locs → W p l e { frames := 1, cells := 0, slots := 0, locals := 25 } s m args below meth c H locs 0 0 Q (F0 m 36 ls []) := by
          intro kf
          induction kf using Nat.strongRecOn with
          | _ kf ih12 =>
          intro i ls H locs hk hi hl hw
          refine lv_iload (pc := 36) F.1 F.2.1 d_M_pageArrives_36 (lv_at hl 0 rfl) ?_
          refine lv_bipush (pc := 38) (v := 8) F.1 F.2.1 d_M_pageArrives_38 (by decide) ?_
          refine lv_icmp_ge (pc := 40) (tgt := 72) F.1 F.2.1 d_M_pageArrives_40 rfl (fun h13 => ?_) (fun h13 => ?_)
          · have h13 := (nI_leI (a := 8) (b := i) (by omega) (by omega)).mp h13
            obtain rfl : i = 8 := by omega
            refine lv_aload_n (pc := 72) F.1 F.2.1 d_M_pageArrives_72 rfl (lv_at hl 1 rfl) ?_
            refine lv_iconst (pc := 73) (v := 3) F.1 F.2.1 d_M_pageArrives_73 (by decide) ?_
            refine lv_iload_n (pc := 74) F.1 F.2.1 d_M_pageArrives_74 rfl (lv_at hl 2 rfl) ?_
            refine lv_iload_n (pc := 75) F.1 F.2.1 d_M_pageArrives_75 rfl (lv_at hl 3 rfl) ?_
            refine lv_iload_n (pc := 76) F.1 F.2.1 d_M_pageArrives_76 rfl (lv_at hl 4 rfl) ?_
            refine x_calli (pc := 77) (wr := []) hw [0, 1, 2, 3, 4, 5, 6, 7, 8, 9, 10, 11, 12, 13, 14, 15, 16, 17, 18, 19] [] rfl rfl (by decide) (by decide) (va_runV (As := [.int 3, .int mv, .int (nI p0), .int x]) (rest := []) F (c_M_come l D cT ad im me ro up ho di os ob od on pg (va_cpy ld tm 480 (8 * p0) 8) (upd ts p0 x) tr ki mo po sr ld st ow nu go la so se sl sp tp rd pn 3 mv (nI p0) x ⟨n0.1, by omega⟩ _) (x_cw (C := "MovingGuestModel") 4 F (g_all y_M_come b_M_come 6 (some .int) (List.mem_cons_of_mem _ m_678)) rfl rfl rfl (F.2.2.2.2 _ (List.mem_cons_of_mem _ m_40)) (F.2.2.2.2 _ (List.mem_cons_of_mem _ m_676)) (F.2.2.2.2 _ (List.mem_cons_of_mem _ m_677)) (F.2.2.2.2 _ (List.mem_cons_of_mem _ m_25)) (by decide +kernel) ⟨by decide, by decide⟩) (hw.preV (q0 := 0) [0, 1, 2, 3, 4, 5, 6, 7, 8, 9, 10, 11, 12, 13, 14, 15, 16, 17, 18, 19] (by decide) rfl rfl rfl) rfl rfl hl.1 rfl (lv_room (Nat.le_of_ble_eq_true rfl)) d_M_pageArrives_77 ⟨by decide, by decide⟩) (fun r15 u21 H locs e14 hw => ?_)
            obtain ⟨kiv16, mov17, pov18, srv19, pnv20⟩ := u21
            have hw : Hw D vwCl (TYS cT) A s (MW ad cT im me ro up ho di os ob od on pg (va_cpy ld tm 480 (8 * p0) 8) (upd ts p0 x) tr kiv16 mov17 pov18 srv19 ld st ow nu go la so se sl sp tp rd pnv20) H locs := hw
            refine lv_pop (pc := 80) F.1 F.2.1 d_M_pageArrives_80 rfl ?_
            refine W.widen (k := 0) (n := 0) (by decide) (by decide) ?_
            exact ret (va_cpy ld tm 480 (8 * p0) 8, upd ts p0 x, kiv16, mov17, pov18, srv19, pnv20) _ _ 81 _ (by unfold F_M_pageArrives <;> rw [if_pos h1] <;> rw [if_pos h2] <;> rw [if_neg h3] <;> rw [e14] <;> (try dsimp only) <;> rfl) hw d_M_pageArrives_81
          · have h13 : ¬ 8 ≤ i := fun z9 => h13 ((nI_leI (a := 8) (b := i) (by omega) (by omega)).mpr z9)
            refine lv_aload_n (pc := 43) F.1 F.2.1 d_M_pageArrives_43 rfl (lv_at hl 1 rfl) ?_
            refine x_get (pc := 44) (v := .ref (ad 12)) F hw 0 22 (fun x h => List.mem_cons_of_mem _ (in_M x h)) rfl rfl (by decide) (List.mem_cons_of_mem _ m_545) rfl d_M_pageArrives_44 ?_
            refine lv_bipush (pc := 47) (v := 8) F.1 F.2.1 d_M_pageArrives_47 (by decide) ?_
            refine lv_iload_n (pc := 49) F.1 F.2.1 d_M_pageArrives_49 rfl (lv_at hl 3 rfl) ?_
            refine lv_imul (pc := 50) F.1 F.2.1 d_M_pageArrives_50 ?_
            refine x_top (y := nI (8 * p0)) (x_mul2 rfl rfl) ?_
            refine lv_iload (pc := 51) F.1 F.2.1 d_M_pageArrives_51 (lv_at hl 0 rfl) ?_
            refine lv_iadd (pc := 53) F.1 F.2.1 d_M_pageArrives_53 ?_
            refine x_top (y := nI (8 * p0 + i)) (x_add2 rfl rfl) ?_
            refine lv_aload_n (pc := 54) F.1 F.2.1 d_M_pageArrives_54 rfl (lv_at hl 1 rfl) ?_
            refine x_get (pc := 55) (v := .ref (ad 19)) F hw 0 30 (fun x h => List.mem_cons_of_mem _ (in_M x h)) rfl rfl (by decide) (List.mem_cons_of_mem _ m_553) rfl d_M_pageArrives_55 ?_
            refine lv_sipush (pc := 58) (v := 480) F.1 F.2.1 d_M_pageArrives_58 (by decide) ?_
            refine lv_iload (pc := 61) F.1 F.2.1 d_M_pageArrives_61 (lv_at hl 0 rfl) ?_
            refine lv_iadd (pc := 63) F.1 F.2.1 d_M_pageArrives_63 ?_
            refine x_top (y := nI (480 + i)) (x_add2 rfl rfl) ?_
            refine x_iald (pc := 64) F hw 19 0 (480 + i) rfl rfl rfl (by omega) (by decide) d_M_pageArrives_64 ?_
            refine x_iast (pc := 65) (ws' := MW ad cT im me ro up ho di os ob od on pg (upd (va_cpy ld tm 480 (8 * p0) i) (8 * p0 + i) (ld (480 + i))) (upd ts p0 x) tr ki mo po sr ld st ow nu go la so se sl sp tp rd pn) F hw 12 0 (8 * p0 + i) rfl rfl rfl (by omega) (by decide) d_M_pageArrives_65 rfl (fun H locs hw => ?_)
            refine lv_iinc (pc := 66) (k := 0) (v := nI (i + 1)) (lv' := [(4, .int (nI (i + 1))), (0, .ref (ad 0)), (1, .int mv), (2, .int (nI p0)), (3, .int x)]) F.1 F.2.1 d_M_pageArrives_66 hl rfl (x_add2 rfl rfl) (by decide) rfl (fun ls hl => ?_)
            refine lv_goto (pc := 69) (tgt := 36) F.1 F.2.1 d_M_pageArrives_69 rfl ?_
            have ec22 : upd (va_cpy ld tm 480 (8 * p0) i) (8 * p0 + i) (ld (480 + i)) = va_cpy ld tm 480 (8 * p0) (i + 1) := cpy_s2 (by omega) (congrArg ld (by omega))
            rw [ec22] at hw
            exact ih12 _ (by omega) (i + 1) _ _ _ rfl (by omega) hl hw
        have hw := hw
        exact loop12 _ 0 _ _ _ rfl (by omega) hl (by rw [cpy_0]; exact hw)
    · refine W.widen (k := 0) (n := 0) (by decide) (by decide) ?_
      exact ret (tm, ts, ki, mo, po, sr, pn) _ _ 15 _ (by unfold F_M_pageArrives <;> rw [if_pos h1] <;> rw [if_neg h2] <;> rfl) hw d_M_pageArrives_15
def F_M_stateArrives (tr : Nat → Int32) (ki : Nat → Int32) (mo : Nat → Int32) (po : Nat → Int32) (sr : Nat → Int32) (ld : Nat → Int32) (la : Int32) (tp : Bool) (rd : Bool) (pn : Int32) (mv : Int32) : (Nat → Int32) × (Nat → Int32) × (Nat → Int32) × (Nat → Int32) × (Nat → Int32) × Bool × Int32 :=
  if tp = true then
    if mv = la then
      if rd = true then
        match F_M_come ki mo po sr pn 4 mv 0 0 with
        | (r6, kiv7, mov8, pov9, srv10, pnv11) =>
          (tr, kiv7, mov8, pov9, srv10, true, pnv11)
      else
        match F_M_come ki mo po sr pn 4 mv 0 0 with
        | (r16, kiv17, mov18, pov19, srv20, pnv21) =>
          (va_cpy ld tr 480 0 60, kiv17, mov18, pov19, srv20, true, pnv21)
    else
      (tr, ki, mo, po, sr, rd, pn)
  else
    (tr, ki, mo, po, sr, rd, pn)
set_option maxHeartbeats 4000000 in
set_option maxRecDepth 100000 in
theorem c_M_stateArrives (l : Launch) (D : va_G) (cT : Nat → ClassId) (ad : Nat → Nat) (im : Nat → Int32) (me : Nat → Int32) (ro : Nat → Int32) (up : Nat → Bool) (ho : Nat → Bool) (di : Nat → Int32) (os : Nat → Bool) (ob : Nat → Int32) (od : Nat → Int32) (on : Nat → Int32) (pg : Nat → Int32) (tm : Nat → Int32) (ts : Nat → Int32) (tr : Nat → Int32) (ki : Nat → Int32) (mo : Nat → Int32) (po : Nat → Int32) (sr : Nat → Int32) (ld : Nat → Int32) (st : Bool) (ow : Int32) (nu : Int32) (go : Bool) (la : Int32) (so : Int32) (se : Int32) (sl : Int32) (sp : Int32) (tp : Bool) (rd : Bool) (pn : Int32) (mv : Int32) (n0 : isN pn 9) : Ctv l y_M_stateArrives ws_M_stateArrives { frames := 1, cells := 0, slots := 0, locals := 25 } D vwCl (TYS cT) [.ref (ad 0), .int mv] (MW ad cT im me ro up ho di os ob od on pg tm ts tr ki mo po sr ld st ow nu go la so se sl sp tp rd pn) (fun (uu : (Nat → Int32) × (Nat → Int32) × (Nat → Int32) × (Nat → Int32) × (Nat → Int32) × Bool × Int32) => F_M_stateArrives tr ki mo po sr ld la tp rd pn mv = uu) (fun (u : (Nat → Int32) × (Nat → Int32) × (Nat → Int32) × (Nat → Int32) × (Nat → Int32) × Bool × Int32) => MW ad cT im me ro up ho di os ob od on pg tm ts u.1 u.2.1 u.2.2.1 u.2.2.2.1 u.2.2.2.2.1 ld st ow nu go la so se sl sp tp u.2.2.2.2.2.1 u.2.2.2.2.2.2) 0 0 := by
  refine x_inv (cc := b_M_stateArrives) (maxL := 3) (by decide) rfl (Nat.le_of_ble_eq_true rfl) ?_
  intro p e s m args below meth c A ls Q F hin hl hw ret
  have hl : lv_has ls 3 [(0, .ref (ad 0)), (1, .int mv)] := hl
  have n0b := n0.2
  refine lv_aload_n (pc := 0) F.1 F.2.1 d_M_stateArrives_0 rfl (lv_at hl 0 rfl) ?_
  refine x_get (pc := 1) (v := .int (bI tp)) F hw 0 20 (fun x h => List.mem_cons_of_mem _ (in_M x h)) rfl rfl (by decide) (List.mem_cons_of_mem _ m_543) rfl d_M_stateArrives_1 ?_
  refine x_ifeqB (pc := 4) (tgt := 15) F d_M_stateArrives_4 rfl (fun h1 => ?_) (fun h1 => ?_)
  · refine W.widen (k := 0) (n := 0) (by decide) (by decide) ?_
    exact ret (tr, ki, mo, po, sr, rd, pn) _ _ 15 _ (by unfold F_M_stateArrives <;> rw [if_neg h1] <;> rfl) hw d_M_stateArrives_15
  · refine lv_iload_n (pc := 7) F.1 F.2.1 d_M_stateArrives_7 rfl (lv_at hl 1 rfl) ?_
    refine lv_aload_n (pc := 8) F.1 F.2.1 d_M_stateArrives_8 rfl (lv_at hl 0 rfl) ?_
    refine x_get (pc := 9) (v := .int la) F hw 0 14 (fun x h => List.mem_cons_of_mem _ (in_M x h)) rfl rfl (by decide) (List.mem_cons_of_mem _ m_537) rfl d_M_stateArrives_9 ?_
    refine lv_icmp_eq (pc := 12) (tgt := 16) F.1 F.2.1 d_M_stateArrives_12 rfl (fun h2 => ?_) (fun h2 => ?_)
    · by_cases h3 : rd = true
      · refine lv_iconst (pc := 16) (v := 0) F.1 F.2.1 d_M_stateArrives_16 (by decide) ?_
        refine lv_istore_n (pc := 17) (lv' := [(2, .int 0), (0, .ref (ad 0)), (1, .int mv)]) F.1 F.2.1 d_M_stateArrives_17 rfl hl (by decide) rfl (fun ls hl => ?_)
        refine lv_iload_n (pc := 18) F.1 F.2.1 d_M_stateArrives_18 rfl (lv_at hl 0 rfl) ?_
        refine lv_bipush (pc := 19) (v := 60) F.1 F.2.1 d_M_stateArrives_19 (by decide) ?_
        refine lv_icmp_ge (pc := 21) (tgt := 53) F.1 F.2.1 d_M_stateArrives_21 rfl (fun h => absurd h (by decide)) (fun _ => ?_)
        refine lv_aload_n (pc := 24) F.1 F.2.1 d_M_stateArrives_24 rfl (lv_at hl 1 rfl) ?_
        refine x_get (pc := 25) (v := .int (bI rd)) F hw 0 21 (fun x h => List.mem_cons_of_mem _ (in_M x h)) rfl rfl (by decide) (List.mem_cons_of_mem _ m_544) rfl d_M_stateArrives_25 ?_
        refine x_ifneB (pc := 28) (tgt := 53) F d_M_stateArrives_28 rfl (fun h4 => ?_) (fun h4 => ?_)
        · refine lv_aload_n (pc := 53) F.1 F.2.1 d_M_stateArrives_53 rfl (lv_at hl 1 rfl) ?_
          refine lv_iconst (pc := 54) (v := 1) F.1 F.2.1 d_M_stateArrives_54 (by decide) ?_
          refine x_put (pc := 55) (v := .int (bI true)) (ty := .boolean) (ws' := MW ad cT im me ro up ho di os ob od on pg tm ts tr ki mo po sr ld st ow nu go la so se sl sp tp true pn) F hw 0 21 (fun x h => List.mem_cons_of_mem _ (in_M x h)) ty_M tyok_M nm_M rfl rfl (by decide) (List.mem_cons_of_mem _ m_544) rfl (by decide +kernel) (bI_nar true) (bI_fit true) (Nat.le_of_ble_eq_true rfl) d_M_stateArrives_55 rfl (fun H locs hw => ?_)
          refine lv_aload_n (pc := 58) F.1 F.2.1 d_M_stateArrives_58 rfl (lv_at hl 1 rfl) ?_
          refine lv_iconst (pc := 59) (v := 4) F.1 F.2.1 d_M_stateArrives_59 (by decide) ?_
          refine lv_iload_n (pc := 60) F.1 F.2.1 d_M_stateArrives_60 rfl (lv_at hl 2 rfl) ?_
          refine lv_iconst (pc := 61) (v := 0) F.1 F.2.1 d_M_stateArrives_61 (by decide) ?_
          refine lv_iconst (pc := 62) (v := 0) F.1 F.2.1 d_M_stateArrives_62 (by decide) ?_
          refine x_calli (pc := 63) (wr := []) hw [0, 1, 2, 3, 4, 5, 6, 7, 8, 9, 10, 11, 12, 13, 14, 15, 16, 17, 18, 19] [] rfl rfl (by decide) (by decide) (va_runV (As := [.int 4, .int mv, .int 0, .int 0]) (rest := []) F (c_M_come l D cT ad im me ro up ho di os ob od on pg tm ts tr ki mo po sr ld st ow nu go la so se sl sp tp true pn 4 mv 0 0 ⟨n0.1, by omega⟩ _) (x_cw (C := "MovingGuestModel") 4 F (g_all y_M_come b_M_come 6 (some .int) (List.mem_cons_of_mem _ m_678)) rfl rfl rfl (F.2.2.2.2 _ (List.mem_cons_of_mem _ m_40)) (F.2.2.2.2 _ (List.mem_cons_of_mem _ m_676)) (F.2.2.2.2 _ (List.mem_cons_of_mem _ m_677)) (F.2.2.2.2 _ (List.mem_cons_of_mem _ m_25)) (by decide +kernel) ⟨by decide, by decide⟩) (hw.preV (q0 := 0) [0, 1, 2, 3, 4, 5, 6, 7, 8, 9, 10, 11, 12, 13, 14, 15, 16, 17, 18, 19] (by decide) rfl rfl rfl) rfl rfl hl.1 rfl (lv_room (Nat.le_of_ble_eq_true rfl)) d_M_stateArrives_63 ⟨by decide, by decide⟩) (fun r6 u12 H locs e5 hw => ?_)
          obtain ⟨kiv7, mov8, pov9, srv10, pnv11⟩ := u12
          have hw : Hw D vwCl (TYS cT) A s (MW ad cT im me ro up ho di os ob od on pg tm ts tr kiv7 mov8 pov9 srv10 ld st ow nu go la so se sl sp tp true pnv11) H locs := hw
          refine lv_pop (pc := 66) F.1 F.2.1 d_M_stateArrives_66 rfl ?_
          refine W.widen (k := 0) (n := 0) (by decide) (by decide) ?_
          exact ret (tr, kiv7, mov8, pov9, srv10, true, pnv11) _ _ 67 _ (by unfold F_M_stateArrives <;> rw [if_pos h1] <;> rw [if_pos h2] <;> rw [if_pos h3] <;> rw [e5] <;> (try dsimp only) <;> rfl) hw d_M_stateArrives_67
        · exact absurd h3 h4
      · refine lv_iconst (pc := 16) (v := 0) F.1 F.2.1 d_M_stateArrives_16 (by decide) ?_
        refine lv_istore_n (pc := 17) (lv' := [(2, .int 0), (0, .ref (ad 0)), (1, .int mv)]) F.1 F.2.1 d_M_stateArrives_17 rfl hl (by decide) rfl (fun ls hl => ?_)
        have loop13 : ∀ (kf : Nat) (i : Nat) (ls : Array Slot) (H : Heap) (locs : List Loc), 60 - i = kf → (i ≤ 60) → lv_has ls 3 [(2, .int (nI i)), (0, .ref (ad 0)), (1, .int mv)] → Hw D vwCl (TYS cT) A s (MW ad cT im me ro up ho di os ob od on pg tm ts (va_cpy ld tr 480 0 i) ki mo po sr ld st ow nu go la so se sl sp tp rd pn) H locs → W p l e { frames := 1, cells := 0, slots := 0, locals := 25 } s m args below meth c H locs 0 0 Q (F0 m 18 ls []) := by
          intro kf
          induction kf using Nat.strongRecOn with
          | _ kf ih13 =>
          intro i ls H locs hk hi hl hw
          refine lv_iload_n (pc := 18) F.1 F.2.1 d_M_stateArrives_18 rfl (lv_at hl 0 rfl) ?_
          refine lv_bipush (pc := 19) (v := 60) F.1 F.2.1 d_M_stateArrives_19 (by decide) ?_
          refine lv_icmp_ge (pc := 21) (tgt := 53) F.1 F.2.1 d_M_stateArrives_21 rfl (fun h14 => ?_) (fun h14 => ?_)
          · have h14 := (nI_leI (a := 60) (b := i) (by omega) (by omega)).mp h14
            obtain rfl : i = 60 := by omega
            refine lv_aload_n (pc := 53) F.1 F.2.1 d_M_stateArrives_53 rfl (lv_at hl 1 rfl) ?_
            refine lv_iconst (pc := 54) (v := 1) F.1 F.2.1 d_M_stateArrives_54 (by decide) ?_
            refine x_put (pc := 55) (v := .int (bI true)) (ty := .boolean) (ws' := MW ad cT im me ro up ho di os ob od on pg tm ts (va_cpy ld tr 480 0 60) ki mo po sr ld st ow nu go la so se sl sp tp true pn) F hw 0 21 (fun x h => List.mem_cons_of_mem _ (in_M x h)) ty_M tyok_M nm_M rfl rfl (by decide) (List.mem_cons_of_mem _ m_544) rfl (by decide +kernel) (bI_nar true) (bI_fit true) (Nat.le_of_ble_eq_true rfl) d_M_stateArrives_55 rfl (fun H locs hw => ?_)
            refine lv_aload_n (pc := 58) F.1 F.2.1 d_M_stateArrives_58 rfl (lv_at hl 1 rfl) ?_
            refine lv_iconst (pc := 59) (v := 4) F.1 F.2.1 d_M_stateArrives_59 (by decide) ?_
            refine lv_iload_n (pc := 60) F.1 F.2.1 d_M_stateArrives_60 rfl (lv_at hl 2 rfl) ?_
            refine lv_iconst (pc := 61) (v := 0) F.1 F.2.1 d_M_stateArrives_61 (by decide) ?_
            refine lv_iconst (pc := 62) (v := 0) F.1 F.2.1 d_M_stateArrives_62 (by decide) ?_
            refine x_calli (pc := 63) (wr := []) hw [0, 1, 2, 3, 4, 5, 6, 7, 8, 9, 10, 11, 12, 13, 14, 15, 16, 17, 18, 19] [] rfl rfl (by decide) (by decide) (va_runV (As := [.int 4, .int mv, .int 0, .int 0]) (rest := []) F (c_M_come l D cT ad im me ro up ho di os ob od on pg tm ts (va_cpy ld tr 480 0 60) ki mo po sr ld st ow nu go la so se sl sp tp true pn 4 mv 0 0 ⟨n0.1, by omega⟩ _) (x_cw (C := "MovingGuestModel") 4 F (g_all y_M_come b_M_come 6 (some .int) (List.mem_cons_of_mem _ m_678)) rfl rfl rfl (F.2.2.2.2 _ (List.mem_cons_of_mem _ m_40)) (F.2.2.2.2 _ (List.mem_cons_of_mem _ m_676)) (F.2.2.2.2 _ (List.mem_cons_of_mem _ m_677)) (F.2.2.2.2 _ (List.mem_cons_of_mem _ m_25)) (by decide +kernel) ⟨by decide, by decide⟩) (hw.preV (q0 := 0) [0, 1, 2, 3, 4, 5, 6, 7, 8, 9, 10, 11, 12, 13, 14, 15, 16, 17, 18, 19] (by decide) rfl rfl rfl) rfl rfl hl.1 rfl (lv_room (Nat.le_of_ble_eq_true rfl)) d_M_stateArrives_63 ⟨by decide, by decide⟩) (fun r16 u22 H locs e15 hw => ?_)
            obtain ⟨kiv17, mov18, pov19, srv20, pnv21⟩ := u22
            have hw : Hw D vwCl (TYS cT) A s (MW ad cT im me ro up ho di os ob od on pg tm ts (va_cpy ld tr 480 0 60) kiv17 mov18 pov19 srv20 ld st ow nu go la so se sl sp tp true pnv21) H locs := hw
            refine lv_pop (pc := 66) F.1 F.2.1 d_M_stateArrives_66 rfl ?_
            refine W.widen (k := 0) (n := 0) (by decide) (by decide) ?_
            exact ret (va_cpy ld tr 480 0 60, kiv17, mov18, pov19, srv20, true, pnv21) _ _ 67 _ (by unfold F_M_stateArrives <;> rw [if_pos h1] <;> rw [if_pos h2] <;> rw [if_neg h3] <;> rw [e15] <;> (try dsimp only) <;> rfl) hw d_M_stateArrives_67
          · have h14 : ¬ 60 ≤ i := fun z9 => h14 ((nI_leI (a := 60) (b := i) (by omega) (by omega)).mpr z9)
            refine lv_aload_n (pc := 24) F.1 F.2.1 d_M_stateArrives_24 rfl (lv_at hl 1 rfl) ?_
            refine x_get (pc := 25) (v := .int (bI rd)) F hw 0 21 (fun x h => List.mem_cons_of_mem _ (in_M x h)) rfl rfl (by decide) (List.mem_cons_of_mem _ m_544) rfl d_M_stateArrives_25 ?_
            refine x_ifneB (pc := 28) (tgt := 53) F d_M_stateArrives_28 rfl (fun h23 => ?_) (fun h23 => ?_)
            · exact absurd h23 h3
            · refine lv_aload_n (pc := 31) F.1 F.2.1 d_M_stateArrives_31 rfl (lv_at hl 1 rfl) ?_
              refine x_get (pc := 32) (v := .ref (ad 14)) F hw 0 24 (fun x h => List.mem_cons_of_mem _ (in_M x h)) rfl rfl (by decide) (List.mem_cons_of_mem _ m_547) rfl d_M_stateArrives_32 ?_
              refine lv_iload_n (pc := 35) F.1 F.2.1 d_M_stateArrives_35 rfl (lv_at hl 0 rfl) ?_
              refine lv_aload_n (pc := 36) F.1 F.2.1 d_M_stateArrives_36 rfl (lv_at hl 1 rfl) ?_
              refine x_get (pc := 37) (v := .ref (ad 19)) F hw 0 30 (fun x h => List.mem_cons_of_mem _ (in_M x h)) rfl rfl (by decide) (List.mem_cons_of_mem _ m_553) rfl d_M_stateArrives_37 ?_
              refine lv_sipush (pc := 40) (v := 480) F.1 F.2.1 d_M_stateArrives_40 (by decide) ?_
              refine lv_iload_n (pc := 43) F.1 F.2.1 d_M_stateArrives_43 rfl (lv_at hl 0 rfl) ?_
              refine lv_iadd (pc := 44) F.1 F.2.1 d_M_stateArrives_44 ?_
              refine x_top (y := nI (480 + i)) (x_add2 rfl rfl) ?_
              refine x_iald (pc := 45) F hw 19 0 (480 + i) rfl rfl rfl (by omega) (by decide) d_M_stateArrives_45 ?_
              refine x_iast (pc := 46) (ws' := MW ad cT im me ro up ho di os ob od on pg tm ts (upd (va_cpy ld tr 480 0 i) i (ld (480 + i))) ki mo po sr ld st ow nu go la so se sl sp tp rd pn) F hw 14 0 (i) rfl rfl rfl (by omega) (by decide) d_M_stateArrives_46 rfl (fun H locs hw => ?_)
              refine lv_iinc (pc := 47) (k := 0) (v := nI (i + 1)) (lv' := [(2, .int (nI (i + 1))), (0, .ref (ad 0)), (1, .int mv)]) F.1 F.2.1 d_M_stateArrives_47 hl rfl (x_add2 rfl rfl) (by decide) rfl (fun ls hl => ?_)
              refine lv_goto (pc := 50) (tgt := 18) F.1 F.2.1 d_M_stateArrives_50 rfl ?_
              have ec24 : upd (va_cpy ld tr 480 0 i) i (ld (480 + i)) = va_cpy ld tr 480 0 (i + 1) := cpy_s2 (by omega) (congrArg ld (by omega))
              rw [ec24] at hw
              exact ih13 _ (by omega) (i + 1) _ _ _ rfl (by omega) hl hw
        have hw := hw
        exact loop13 _ 0 _ _ _ rfl (by omega) hl (by rw [cpy_0]; exact hw)
    · refine W.widen (k := 0) (n := 0) (by decide) (by decide) ?_
      exact ret (tr, ki, mo, po, sr, rd, pn) _ _ 15 _ (by unfold F_M_stateArrives <;> rw [if_pos h1] <;> rw [if_neg h2] <;> rfl) hw d_M_stateArrives_15
def F_M_arrive (me : Nat → Int32) (ro : Nat → Int32) (ho : Nat → Bool) (os : Nat → Bool) (ob : Nat → Int32) (od : Nat → Int32) (on : Nat → Int32) (pg : Nat → Int32) (tm : Nat → Int32) (ts : Nat → Int32) (tr : Nat → Int32) (ki : Nat → Int32) (mo : Nat → Int32) (po : Nat → Int32) (sr : Nat → Int32) (ld : Nat → Int32) (st : Bool) (ow : Int32) (nu : Int32) (go : Bool) (la : Int32) (so : Int32) (tp : Bool) (rd : Bool) (pn : Int32) : (Nat → Int32) × (Nat → Int32) × (Nat → Bool) × (Nat → Bool) × (Nat → Int32) × (Nat → Int32) × (Nat → Int32) × (Nat → Int32) × (Nat → Int32) × (Nat → Int32) × (Nat → Int32) × (Nat → Int32) × (Nat → Int32) × (Nat → Int32) × (Nat → Int32) × Bool × Int32 × Int32 × Bool × Bool × Bool × Int32 :=
  if go = true then
    if (mo 8) = la then
      if ho (tN so) = true then
        if (ki 8) = 1 then
          match F_M_pageArrives tm ts ki mo po sr ld la tp pn (mo 8) (tN (po 8)) (sr 8) with
          | (tmv97, tsv98, kiv99, mov100, pov101, srv102, pnv103) =>
            (me, ro, ho, os, ob, od, on, pg, tmv97, tsv98, tr, kiv99, mov100, pov101, srv102, st, ow, nu, go, tp, rd, pnv103)
        else
          if (ki 8) = 2 then
            match F_M_stateArrives tr ki mo po sr ld la tp rd pn (mo 8) with
            | (trv88, kiv89, mov90, pov91, srv92, rdv93, pnv94) =>
              (me, ro, ho, os, ob, od, on, pg, tm, ts, trv88, kiv89, mov90, pov91, srv92, st, ow, nu, go, tp, rdv93, pnv94)
          else
            if (ki 8) = 3 then
              if (pg (tN (po 8))) = (sr 8) then
                (me, ro, ho, os, ob, od, on, upd pg (tN (po 8)) (-2), tm, ts, tr, ki, mo, po, sr, st, ow, nu, go, tp, rd, pn)
              else
                (me, ro, ho, os, ob, od, on, pg, tm, ts, tr, ki, mo, po, sr, st, ow, nu, go, tp, rd, pn)
            else
              if rd = true then
                match F_M_handOver me ro ho os ob od on tm tr nu so with
                | (mev72, rov73, hov74, osv75, obv76, odv77, onv78, stv79, owv80, nuv81, gov82, tpv83, rdv84) =>
                  (mev72, rov73, hov74, osv75, obv76, odv77, onv78, pg, tm, ts, tr, ki, mo, po, sr, stv79, owv80, nuv81, gov82, tpv83, rdv84, pn)
              else
                (me, ro, ho, os, ob, od, on, pg, tm, ts, tr, ki, mo, po, sr, st, ow, nu, go, tp, rd, pn)
      else
        if (ki 8) = 1 then
          match F_M_pageArrives tm ts ki mo po sr ld la tp pn (mo 8) (tN (po 8)) (sr 8) with
          | (tmv59, tsv60, kiv61, mov62, pov63, srv64, pnv65) =>
            (me, ro, ho, os, ob, od, on, pg, tmv59, tsv60, tr, kiv61, mov62, pov63, srv64, st, ow, nu, go, tp, rd, pnv65)
        else
          if (ki 8) = 2 then
            match F_M_stateArrives tr ki mo po sr ld la tp rd pn (mo 8) with
            | (trv50, kiv51, mov52, pov53, srv54, rdv55, pnv56) =>
              (me, ro, ho, os, ob, od, on, pg, tm, ts, trv50, kiv51, mov52, pov53, srv54, st, ow, nu, go, tp, rdv55, pnv56)
          else
            if (ki 8) = 3 then
              (me, ro, ho, os, ob, od, on, pg, tm, ts, tr, ki, mo, po, sr, st, ow, nu, go, tp, rd, pn)
            else
              (me, ro, ho, os, ob, od, on, pg, tm, ts, tr, ki, mo, po, sr, st, ow, nu, go, tp, rd, pn)
    else
      if (ki 8) = 1 then
        match F_M_pageArrives tm ts ki mo po sr ld la tp pn (mo 8) (tN (po 8)) (sr 8) with
        | (tmv37, tsv38, kiv39, mov40, pov41, srv42, pnv43) =>
          (me, ro, ho, os, ob, od, on, pg, tmv37, tsv38, tr, kiv39, mov40, pov41, srv42, st, ow, nu, go, tp, rd, pnv43)
      else
        if (ki 8) = 2 then
          match F_M_stateArrives tr ki mo po sr ld la tp rd pn (mo 8) with
          | (trv28, kiv29, mov30, pov31, srv32, rdv33, pnv34) =>
            (me, ro, ho, os, ob, od, on, pg, tm, ts, trv28, kiv29, mov30, pov31, srv32, st, ow, nu, go, tp, rdv33, pnv34)
        else
          if (ki 8) = 3 then
            (me, ro, ho, os, ob, od, on, pg, tm, ts, tr, ki, mo, po, sr, st, ow, nu, go, tp, rd, pn)
          else
            (me, ro, ho, os, ob, od, on, pg, tm, ts, tr, ki, mo, po, sr, st, ow, nu, go, tp, rd, pn)
  else
    if (ki 8) = 1 then
      match F_M_pageArrives tm ts ki mo po sr ld la tp pn (mo 8) (tN (po 8)) (sr 8) with
      | (tmv15, tsv16, kiv17, mov18, pov19, srv20, pnv21) =>
        (me, ro, ho, os, ob, od, on, pg, tmv15, tsv16, tr, kiv17, mov18, pov19, srv20, st, ow, nu, go, tp, rd, pnv21)
    else
      if (ki 8) = 2 then
        match F_M_stateArrives tr ki mo po sr ld la tp rd pn (mo 8) with
        | (trv6, kiv7, mov8, pov9, srv10, rdv11, pnv12) =>
          (me, ro, ho, os, ob, od, on, pg, tm, ts, trv6, kiv7, mov8, pov9, srv10, st, ow, nu, go, tp, rdv11, pnv12)
      else
        if (ki 8) = 3 then
          (me, ro, ho, os, ob, od, on, pg, tm, ts, tr, ki, mo, po, sr, st, ow, nu, go, tp, rd, pn)
        else
          (me, ro, ho, os, ob, od, on, pg, tm, ts, tr, ki, mo, po, sr, st, ow, nu, go, tp, rd, pn)
set_option maxHeartbeats 4000000 in
set_option maxRecDepth 100000 in
theorem c_M_arrive (l : Launch) (D : va_G) (cT : Nat → ClassId) (ad : Nat → Nat) (im : Nat → Int32) (me : Nat → Int32) (ro : Nat → Int32) (up : Nat → Bool) (ho : Nat → Bool) (di : Nat → Int32) (os : Nat → Bool) (ob : Nat → Int32) (od : Nat → Int32) (on : Nat → Int32) (pg : Nat → Int32) (tm : Nat → Int32) (ts : Nat → Int32) (tr : Nat → Int32) (ki : Nat → Int32) (mo : Nat → Int32) (po : Nat → Int32) (sr : Nat → Int32) (ld : Nat → Int32) (st : Bool) (ow : Int32) (nu : Int32) (go : Bool) (la : Int32) (so : Int32) (se : Int32) (sl : Int32) (sp : Int32) (tp : Bool) (rd : Bool) (pn : Int32) (nso : isN so 2) (n0 : isN pn 9) (np : isN (po 8) 8) : Ctv l y_M_arrive ws_M_arrive { frames := 2, cells := 0, slots := 0, locals := 49 } D vwCl (TYS cT) [.ref (ad 0)] (MW ad cT im me ro up ho di os ob od on pg tm ts tr ki mo po sr ld st ow nu go la so se sl sp tp rd pn) (fun (uu : (Nat → Int32) × (Nat → Int32) × (Nat → Bool) × (Nat → Bool) × (Nat → Int32) × (Nat → Int32) × (Nat → Int32) × (Nat → Int32) × (Nat → Int32) × (Nat → Int32) × (Nat → Int32) × (Nat → Int32) × (Nat → Int32) × (Nat → Int32) × (Nat → Int32) × Bool × Int32 × Int32 × Bool × Bool × Bool × Int32) => F_M_arrive me ro ho os ob od on pg tm ts tr ki mo po sr ld st ow nu go la so tp rd pn = uu) (fun (u : (Nat → Int32) × (Nat → Int32) × (Nat → Bool) × (Nat → Bool) × (Nat → Int32) × (Nat → Int32) × (Nat → Int32) × (Nat → Int32) × (Nat → Int32) × (Nat → Int32) × (Nat → Int32) × (Nat → Int32) × (Nat → Int32) × (Nat → Int32) × (Nat → Int32) × Bool × Int32 × Int32 × Bool × Bool × Bool × Int32) => MW ad cT im u.1 u.2.1 up u.2.2.1 di u.2.2.2.1 u.2.2.2.2.1 u.2.2.2.2.2.1 u.2.2.2.2.2.2.1 u.2.2.2.2.2.2.2.1 u.2.2.2.2.2.2.2.2.1 u.2.2.2.2.2.2.2.2.2.1 u.2.2.2.2.2.2.2.2.2.2.1 u.2.2.2.2.2.2.2.2.2.2.2.1 u.2.2.2.2.2.2.2.2.2.2.2.2.1 u.2.2.2.2.2.2.2.2.2.2.2.2.2.1 u.2.2.2.2.2.2.2.2.2.2.2.2.2.2.1 ld u.2.2.2.2.2.2.2.2.2.2.2.2.2.2.2.1 u.2.2.2.2.2.2.2.2.2.2.2.2.2.2.2.2.1 u.2.2.2.2.2.2.2.2.2.2.2.2.2.2.2.2.2.1 u.2.2.2.2.2.2.2.2.2.2.2.2.2.2.2.2.2.2.1 la so se sl sp u.2.2.2.2.2.2.2.2.2.2.2.2.2.2.2.2.2.2.2.1 u.2.2.2.2.2.2.2.2.2.2.2.2.2.2.2.2.2.2.2.2.1 u.2.2.2.2.2.2.2.2.2.2.2.2.2.2.2.2.2.2.2.2.2) 0 0 := by
  refine x_inv (cc := b_M_arrive) (maxL := 4) (by decide) rfl (Nat.le_of_ble_eq_true rfl) ?_
  intro p e s m args below meth c A ls Q F hin hl hw ret
  have hl : lv_has ls 4 [(0, .ref (ad 0))] := hl
  have nsob := nso.2
  have n0b := n0.2
  have npb := np.2
  refine lv_aload_n (pc := 0) F.1 F.2.1 d_M_arrive_0 rfl (lv_at hl 0 rfl) ?_
  refine x_get (pc := 1) (v := .ref (ad 16)) F hw 0 27 (fun x h => List.mem_cons_of_mem _ (in_M x h)) rfl rfl (by decide) (List.mem_cons_of_mem _ m_550) rfl d_M_arrive_1 ?_
  refine lv_bipush (pc := 4) (v := 8) F.1 F.2.1 d_M_arrive_4 (by decide) ?_
  refine x_iald (pc := 6) F hw 16 0 (8) rfl rfl rfl (by omega) (by decide) d_M_arrive_6 ?_
  refine lv_istore_n (pc := 7) (lv' := [(1, .int (mo 8)), (0, .ref (ad 0))]) F.1 F.2.1 d_M_arrive_7 rfl hl (by decide) rfl (fun ls hl => ?_)
  refine lv_aload_n (pc := 8) F.1 F.2.1 d_M_arrive_8 rfl (lv_at hl 1 rfl) ?_
  refine x_get (pc := 9) (v := .int (bI go)) F hw 0 13 (fun x h => List.mem_cons_of_mem _ (in_M x h)) rfl rfl (by decide) (List.mem_cons_of_mem _ m_536) rfl d_M_arrive_9 ?_
  refine x_ifeqB (pc := 12) (tgt := 39) F d_M_arrive_12 rfl (fun h1 => ?_) (fun h1 => ?_)
  · refine lv_iconst (pc := 39) (v := 0) F.1 F.2.1 d_M_arrive_39 (by decide) ?_
    refine lv_istore_n (pc := 40) (lv' := [(2, .int 0), (1, .int (mo 8)), (0, .ref (ad 0))]) F.1 F.2.1 d_M_arrive_40 rfl hl (by decide) rfl (fun ls hl => ?_)
    refine lv_aload_n (pc := 41) F.1 F.2.1 d_M_arrive_41 rfl (lv_at hl 2 rfl) ?_
    refine x_get (pc := 42) (v := .ref (ad 15)) F hw 0 26 (fun x h => List.mem_cons_of_mem _ (in_M x h)) rfl rfl (by decide) (List.mem_cons_of_mem _ m_549) rfl d_M_arrive_42 ?_
    refine lv_bipush (pc := 45) (v := 8) F.1 F.2.1 d_M_arrive_45 (by decide) ?_
    refine x_iald (pc := 47) F hw 15 0 (8) rfl rfl rfl (by omega) (by decide) d_M_arrive_47 ?_
    refine lv_iconst (pc := 48) (v := 1) F.1 F.2.1 d_M_arrive_48 (by decide) ?_
    refine lv_icmp_ne (pc := 49) (tgt := 74) F.1 F.2.1 d_M_arrive_49 rfl (fun h2 => ?_) (fun h2 => ?_)
    · refine lv_aload_n (pc := 74) F.1 F.2.1 d_M_arrive_74 rfl (lv_at hl 2 rfl) ?_
      refine x_get (pc := 75) (v := .ref (ad 15)) F hw 0 26 (fun x h => List.mem_cons_of_mem _ (in_M x h)) rfl rfl (by decide) (List.mem_cons_of_mem _ m_549) rfl d_M_arrive_75 ?_
      refine lv_bipush (pc := 78) (v := 8) F.1 F.2.1 d_M_arrive_78 (by decide) ?_
      refine x_iald (pc := 80) F hw 15 0 (8) rfl rfl rfl (by omega) (by decide) d_M_arrive_80 ?_
      refine lv_iconst (pc := 81) (v := 2) F.1 F.2.1 d_M_arrive_81 (by decide) ?_
      refine lv_icmp_ne (pc := 82) (tgt := 93) F.1 F.2.1 d_M_arrive_82 rfl (fun h3 => ?_) (fun h3 => ?_)
      · refine lv_aload_n (pc := 93) F.1 F.2.1 d_M_arrive_93 rfl (lv_at hl 2 rfl) ?_
        refine x_get (pc := 94) (v := .ref (ad 15)) F hw 0 26 (fun x h => List.mem_cons_of_mem _ (in_M x h)) rfl rfl (by decide) (List.mem_cons_of_mem _ m_549) rfl d_M_arrive_94 ?_
        refine lv_bipush (pc := 97) (v := 8) F.1 F.2.1 d_M_arrive_97 (by decide) ?_
        refine x_iald (pc := 99) F hw 15 0 (8) rfl rfl rfl (by omega) (by decide) d_M_arrive_99 ?_
        refine lv_iconst (pc := 100) (v := 3) F.1 F.2.1 d_M_arrive_100 (by decide) ?_
        refine lv_icmp_ne (pc := 101) (tgt := 143) F.1 F.2.1 d_M_arrive_101 rfl (fun h4 => ?_) (fun h4 => ?_)
        · refine lv_iload_n (pc := 143) F.1 F.2.1 d_M_arrive_143 rfl (lv_at hl 0 rfl) ?_
          refine lv_if_eq (pc := 144) (tgt := 158) F.1 F.2.1 d_M_arrive_144 rfl (fun _ => ?_) (fun h => absurd h (by decide))
          refine W.widen (k := 0) (n := 0) (by decide) (by decide) ?_
          exact ret (me, ro, ho, os, ob, od, on, pg, tm, ts, tr, ki, mo, po, sr, st, ow, nu, go, tp, rd, pn) _ _ 158 _ (by unfold F_M_arrive <;> rw [if_neg h1] <;> rw [if_neg h2] <;> rw [if_neg h3] <;> rw [if_neg h4] <;> rfl) hw d_M_arrive_158
        · refine lv_aload_n (pc := 104) F.1 F.2.1 d_M_arrive_104 rfl (lv_at hl 2 rfl) ?_
          refine x_get (pc := 105) (v := .ref (ad 17)) F hw 0 28 (fun x h => List.mem_cons_of_mem _ (in_M x h)) rfl rfl (by decide) (List.mem_cons_of_mem _ m_551) rfl d_M_arrive_105 ?_
          refine lv_bipush (pc := 108) (v := 8) F.1 F.2.1 d_M_arrive_108 (by decide) ?_
          refine x_iald (pc := 110) F hw 17 0 (8) rfl rfl rfl (by omega) (by decide) d_M_arrive_110 ?_
          refine x_top (y := nI (tN (po 8))) np.1 ?_
          refine lv_istore_n (pc := 111) (lv' := [(3, .int (nI (tN (po 8)))), (2, .int 0), (1, .int (mo 8)), (0, .ref (ad 0))]) F.1 F.2.1 d_M_arrive_111 rfl hl (by decide) rfl (fun ls hl => ?_)
          refine lv_iload_n (pc := 112) F.1 F.2.1 d_M_arrive_112 rfl (lv_at hl 1 rfl) ?_
          refine lv_if_eq (pc := 113) (tgt := 140) F.1 F.2.1 d_M_arrive_113 rfl (fun _ => ?_) (fun h => absurd h (by decide))
          refine lv_goto (pc := 140) (tgt := 158) F.1 F.2.1 d_M_arrive_140 rfl ?_
          refine W.widen (k := 0) (n := 0) (by decide) (by decide) ?_
          exact ret (me, ro, ho, os, ob, od, on, pg, tm, ts, tr, ki, mo, po, sr, st, ow, nu, go, tp, rd, pn) _ _ 158 _ (by unfold F_M_arrive <;> rw [if_neg h1] <;> rw [if_neg h2] <;> rw [if_neg h3] <;> rw [if_pos h4] <;> rfl) hw d_M_arrive_158
      · refine lv_aload_n (pc := 85) F.1 F.2.1 d_M_arrive_85 rfl (lv_at hl 2 rfl) ?_
        refine lv_iload_n (pc := 86) F.1 F.2.1 d_M_arrive_86 rfl (lv_at hl 1 rfl) ?_
        refine x_callv (pc := 87) (wr := []) hw [0, 1, 2, 3, 4, 5, 6, 7, 8, 9, 10, 11, 12, 13, 14, 15, 16, 17, 18, 19] [] rfl rfl (by decide) (by decide) (va_runV (As := [.int (mo 8)]) (rest := []) F (c_M_stateArrives l D cT ad im me ro up ho di os ob od on pg tm ts tr ki mo po sr ld st ow nu go la so se sl sp tp rd pn (mo 8) ⟨n0.1, by omega⟩ _) (x_cw (C := "MovingGuestModel") 1 F (g_all y_M_stateArrives b_M_stateArrives 3 none (List.mem_cons_of_mem _ m_700)) rfl rfl rfl (F.2.2.2.2 _ (List.mem_cons_of_mem _ m_40)) (F.2.2.2.2 _ (List.mem_cons_of_mem _ m_698)) (F.2.2.2.2 _ (List.mem_cons_of_mem _ m_699)) (F.2.2.2.2 _ (List.mem_cons_of_mem _ m_31)) (by decide +kernel) ⟨by decide, by decide⟩) (hw.preV (q0 := 0) [0, 1, 2, 3, 4, 5, 6, 7, 8, 9, 10, 11, 12, 13, 14, 15, 16, 17, 18, 19] (by decide) rfl rfl rfl) rfl rfl hl.1 rfl (lv_room (Nat.le_of_ble_eq_true rfl)) d_M_arrive_87 ⟨by decide, by decide⟩) (fun u13 H locs e5 hw => ?_)
        obtain ⟨trv6, kiv7, mov8, pov9, srv10, rdv11, pnv12⟩ := u13
        have hw : Hw D vwCl (TYS cT) A s (MW ad cT im me ro up ho di os ob od on pg tm ts trv6 kiv7 mov8 pov9 srv10 ld st ow nu go la so se sl sp tp rdv11 pnv12) H locs := hw
        refine lv_goto (pc := 90) (tgt := 158) F.1 F.2.1 d_M_arrive_90 rfl ?_
        refine W.widen (k := 0) (n := 0) (by decide) (by decide) ?_
        exact ret (me, ro, ho, os, ob, od, on, pg, tm, ts, trv6, kiv7, mov8, pov9, srv10, st, ow, nu, go, tp, rdv11, pnv12) _ _ 158 _ (by unfold F_M_arrive <;> rw [if_neg h1] <;> rw [if_neg h2] <;> rw [if_pos h3] <;> rw [e5] <;> (try dsimp only) <;> rfl) hw d_M_arrive_158
    · refine lv_aload_n (pc := 52) F.1 F.2.1 d_M_arrive_52 rfl (lv_at hl 2 rfl) ?_
      refine lv_iload_n (pc := 53) F.1 F.2.1 d_M_arrive_53 rfl (lv_at hl 1 rfl) ?_
      refine lv_aload_n (pc := 54) F.1 F.2.1 d_M_arrive_54 rfl (lv_at hl 2 rfl) ?_
      refine x_get (pc := 55) (v := .ref (ad 17)) F hw 0 28 (fun x h => List.mem_cons_of_mem _ (in_M x h)) rfl rfl (by decide) (List.mem_cons_of_mem _ m_551) rfl d_M_arrive_55 ?_
      refine lv_bipush (pc := 58) (v := 8) F.1 F.2.1 d_M_arrive_58 (by decide) ?_
      refine x_iald (pc := 60) F hw 17 0 (8) rfl rfl rfl (by omega) (by decide) d_M_arrive_60 ?_
      refine x_top (y := nI (tN (po 8))) np.1 ?_
      refine lv_aload_n (pc := 61) F.1 F.2.1 d_M_arrive_61 rfl (lv_at hl 2 rfl) ?_
      refine x_get (pc := 62) (v := .ref (ad 18)) F hw 0 29 (fun x h => List.mem_cons_of_mem _ (in_M x h)) rfl rfl (by decide) (List.mem_cons_of_mem _ m_552) rfl d_M_arrive_62 ?_
      refine lv_bipush (pc := 65) (v := 8) F.1 F.2.1 d_M_arrive_65 (by decide) ?_
      refine x_iald (pc := 67) F hw 18 0 (8) rfl rfl rfl (by omega) (by decide) d_M_arrive_67 ?_
      refine x_callv (pc := 68) (wr := []) hw [0, 1, 2, 3, 4, 5, 6, 7, 8, 9, 10, 11, 12, 13, 14, 15, 16, 17, 18, 19] [] rfl rfl (by decide) (by decide) (va_runV (As := [.int (mo 8), .int (nI (tN (po 8))), .int (sr 8)]) (rest := []) F (c_M_pageArrives l D cT ad im me ro up ho di os ob od on pg tm ts tr ki mo po sr ld st ow nu go la so se sl sp tp rd pn (mo 8) (tN (po 8)) (sr 8) (by omega) ⟨n0.1, by omega⟩ _) (x_cw (C := "MovingGuestModel") 3 F (g_all y_M_pageArrives b_M_pageArrives 5 none (List.mem_cons_of_mem _ m_697)) rfl rfl rfl (F.2.2.2.2 _ (List.mem_cons_of_mem _ m_40)) (F.2.2.2.2 _ (List.mem_cons_of_mem _ m_695)) (F.2.2.2.2 _ (List.mem_cons_of_mem _ m_696)) (F.2.2.2.2 _ (List.mem_cons_of_mem _ m_30)) (by decide +kernel) ⟨by decide, by decide⟩) (hw.preV (q0 := 0) [0, 1, 2, 3, 4, 5, 6, 7, 8, 9, 10, 11, 12, 13, 14, 15, 16, 17, 18, 19] (by decide) rfl rfl rfl) rfl rfl hl.1 rfl (lv_room (Nat.le_of_ble_eq_true rfl)) d_M_arrive_68 ⟨by decide, by decide⟩) (fun u22 H locs e14 hw => ?_)
      obtain ⟨tmv15, tsv16, kiv17, mov18, pov19, srv20, pnv21⟩ := u22
      have hw : Hw D vwCl (TYS cT) A s (MW ad cT im me ro up ho di os ob od on pg tmv15 tsv16 tr kiv17 mov18 pov19 srv20 ld st ow nu go la so se sl sp tp rd pnv21) H locs := hw
      refine lv_goto (pc := 71) (tgt := 158) F.1 F.2.1 d_M_arrive_71 rfl ?_
      refine W.widen (k := 0) (n := 0) (by decide) (by decide) ?_
      exact ret (me, ro, ho, os, ob, od, on, pg, tmv15, tsv16, tr, kiv17, mov18, pov19, srv20, st, ow, nu, go, tp, rd, pnv21) _ _ 158 _ (by unfold F_M_arrive <;> rw [if_neg h1] <;> rw [if_pos h2] <;> rw [e14] <;> (try dsimp only) <;> rfl) hw d_M_arrive_158
  · refine lv_iload_n (pc := 15) F.1 F.2.1 d_M_arrive_15 rfl (lv_at hl 0 rfl) ?_
    refine lv_aload_n (pc := 16) F.1 F.2.1 d_M_arrive_16 rfl (lv_at hl 1 rfl) ?_
    refine x_get (pc := 17) (v := .int la) F hw 0 14 (fun x h => List.mem_cons_of_mem _ (in_M x h)) rfl rfl (by decide) (List.mem_cons_of_mem _ m_537) rfl d_M_arrive_17 ?_
    refine lv_icmp_ne (pc := 20) (tgt := 39) F.1 F.2.1 d_M_arrive_20 rfl (fun h23 => ?_) (fun h23 => ?_)
    · refine lv_iconst (pc := 39) (v := 0) F.1 F.2.1 d_M_arrive_39 (by decide) ?_
      refine lv_istore_n (pc := 40) (lv' := [(2, .int 0), (1, .int (mo 8)), (0, .ref (ad 0))]) F.1 F.2.1 d_M_arrive_40 rfl hl (by decide) rfl (fun ls hl => ?_)
      refine lv_aload_n (pc := 41) F.1 F.2.1 d_M_arrive_41 rfl (lv_at hl 2 rfl) ?_
      refine x_get (pc := 42) (v := .ref (ad 15)) F hw 0 26 (fun x h => List.mem_cons_of_mem _ (in_M x h)) rfl rfl (by decide) (List.mem_cons_of_mem _ m_549) rfl d_M_arrive_42 ?_
      refine lv_bipush (pc := 45) (v := 8) F.1 F.2.1 d_M_arrive_45 (by decide) ?_
      refine x_iald (pc := 47) F hw 15 0 (8) rfl rfl rfl (by omega) (by decide) d_M_arrive_47 ?_
      refine lv_iconst (pc := 48) (v := 1) F.1 F.2.1 d_M_arrive_48 (by decide) ?_
      refine lv_icmp_ne (pc := 49) (tgt := 74) F.1 F.2.1 d_M_arrive_49 rfl (fun h24 => ?_) (fun h24 => ?_)
      · refine lv_aload_n (pc := 74) F.1 F.2.1 d_M_arrive_74 rfl (lv_at hl 2 rfl) ?_
        refine x_get (pc := 75) (v := .ref (ad 15)) F hw 0 26 (fun x h => List.mem_cons_of_mem _ (in_M x h)) rfl rfl (by decide) (List.mem_cons_of_mem _ m_549) rfl d_M_arrive_75 ?_
        refine lv_bipush (pc := 78) (v := 8) F.1 F.2.1 d_M_arrive_78 (by decide) ?_
        refine x_iald (pc := 80) F hw 15 0 (8) rfl rfl rfl (by omega) (by decide) d_M_arrive_80 ?_
        refine lv_iconst (pc := 81) (v := 2) F.1 F.2.1 d_M_arrive_81 (by decide) ?_
        refine lv_icmp_ne (pc := 82) (tgt := 93) F.1 F.2.1 d_M_arrive_82 rfl (fun h25 => ?_) (fun h25 => ?_)
        · refine lv_aload_n (pc := 93) F.1 F.2.1 d_M_arrive_93 rfl (lv_at hl 2 rfl) ?_
          refine x_get (pc := 94) (v := .ref (ad 15)) F hw 0 26 (fun x h => List.mem_cons_of_mem _ (in_M x h)) rfl rfl (by decide) (List.mem_cons_of_mem _ m_549) rfl d_M_arrive_94 ?_
          refine lv_bipush (pc := 97) (v := 8) F.1 F.2.1 d_M_arrive_97 (by decide) ?_
          refine x_iald (pc := 99) F hw 15 0 (8) rfl rfl rfl (by omega) (by decide) d_M_arrive_99 ?_
          refine lv_iconst (pc := 100) (v := 3) F.1 F.2.1 d_M_arrive_100 (by decide) ?_
          refine lv_icmp_ne (pc := 101) (tgt := 143) F.1 F.2.1 d_M_arrive_101 rfl (fun h26 => ?_) (fun h26 => ?_)
          · refine lv_iload_n (pc := 143) F.1 F.2.1 d_M_arrive_143 rfl (lv_at hl 0 rfl) ?_
            refine lv_if_eq (pc := 144) (tgt := 158) F.1 F.2.1 d_M_arrive_144 rfl (fun _ => ?_) (fun h => absurd h (by decide))
            refine W.widen (k := 0) (n := 0) (by decide) (by decide) ?_
            exact ret (me, ro, ho, os, ob, od, on, pg, tm, ts, tr, ki, mo, po, sr, st, ow, nu, go, tp, rd, pn) _ _ 158 _ (by unfold F_M_arrive <;> rw [if_pos h1] <;> rw [if_neg h23] <;> rw [if_neg h24] <;> rw [if_neg h25] <;> rw [if_neg h26] <;> rfl) hw d_M_arrive_158
          · refine lv_aload_n (pc := 104) F.1 F.2.1 d_M_arrive_104 rfl (lv_at hl 2 rfl) ?_
            refine x_get (pc := 105) (v := .ref (ad 17)) F hw 0 28 (fun x h => List.mem_cons_of_mem _ (in_M x h)) rfl rfl (by decide) (List.mem_cons_of_mem _ m_551) rfl d_M_arrive_105 ?_
            refine lv_bipush (pc := 108) (v := 8) F.1 F.2.1 d_M_arrive_108 (by decide) ?_
            refine x_iald (pc := 110) F hw 17 0 (8) rfl rfl rfl (by omega) (by decide) d_M_arrive_110 ?_
            refine x_top (y := nI (tN (po 8))) np.1 ?_
            refine lv_istore_n (pc := 111) (lv' := [(3, .int (nI (tN (po 8)))), (2, .int 0), (1, .int (mo 8)), (0, .ref (ad 0))]) F.1 F.2.1 d_M_arrive_111 rfl hl (by decide) rfl (fun ls hl => ?_)
            refine lv_iload_n (pc := 112) F.1 F.2.1 d_M_arrive_112 rfl (lv_at hl 1 rfl) ?_
            refine lv_if_eq (pc := 113) (tgt := 140) F.1 F.2.1 d_M_arrive_113 rfl (fun _ => ?_) (fun h => absurd h (by decide))
            refine lv_goto (pc := 140) (tgt := 158) F.1 F.2.1 d_M_arrive_140 rfl ?_
            refine W.widen (k := 0) (n := 0) (by decide) (by decide) ?_
            exact ret (me, ro, ho, os, ob, od, on, pg, tm, ts, tr, ki, mo, po, sr, st, ow, nu, go, tp, rd, pn) _ _ 158 _ (by unfold F_M_arrive <;> rw [if_pos h1] <;> rw [if_neg h23] <;> rw [if_neg h24] <;> rw [if_neg h25] <;> rw [if_pos h26] <;> rfl) hw d_M_arrive_158
        · refine lv_aload_n (pc := 85) F.1 F.2.1 d_M_arrive_85 rfl (lv_at hl 2 rfl) ?_
          refine lv_iload_n (pc := 86) F.1 F.2.1 d_M_arrive_86 rfl (lv_at hl 1 rfl) ?_
          refine x_callv (pc := 87) (wr := []) hw [0, 1, 2, 3, 4, 5, 6, 7, 8, 9, 10, 11, 12, 13, 14, 15, 16, 17, 18, 19] [] rfl rfl (by decide) (by decide) (va_runV (As := [.int (mo 8)]) (rest := []) F (c_M_stateArrives l D cT ad im me ro up ho di os ob od on pg tm ts tr ki mo po sr ld st ow nu go la so se sl sp tp rd pn (mo 8) ⟨n0.1, by omega⟩ _) (x_cw (C := "MovingGuestModel") 1 F (g_all y_M_stateArrives b_M_stateArrives 3 none (List.mem_cons_of_mem _ m_700)) rfl rfl rfl (F.2.2.2.2 _ (List.mem_cons_of_mem _ m_40)) (F.2.2.2.2 _ (List.mem_cons_of_mem _ m_698)) (F.2.2.2.2 _ (List.mem_cons_of_mem _ m_699)) (F.2.2.2.2 _ (List.mem_cons_of_mem _ m_31)) (by decide +kernel) ⟨by decide, by decide⟩) (hw.preV (q0 := 0) [0, 1, 2, 3, 4, 5, 6, 7, 8, 9, 10, 11, 12, 13, 14, 15, 16, 17, 18, 19] (by decide) rfl rfl rfl) rfl rfl hl.1 rfl (lv_room (Nat.le_of_ble_eq_true rfl)) d_M_arrive_87 ⟨by decide, by decide⟩) (fun u35 H locs e27 hw => ?_)
          obtain ⟨trv28, kiv29, mov30, pov31, srv32, rdv33, pnv34⟩ := u35
          have hw : Hw D vwCl (TYS cT) A s (MW ad cT im me ro up ho di os ob od on pg tm ts trv28 kiv29 mov30 pov31 srv32 ld st ow nu go la so se sl sp tp rdv33 pnv34) H locs := hw
          refine lv_goto (pc := 90) (tgt := 158) F.1 F.2.1 d_M_arrive_90 rfl ?_
          refine W.widen (k := 0) (n := 0) (by decide) (by decide) ?_
          exact ret (me, ro, ho, os, ob, od, on, pg, tm, ts, trv28, kiv29, mov30, pov31, srv32, st, ow, nu, go, tp, rdv33, pnv34) _ _ 158 _ (by unfold F_M_arrive <;> rw [if_pos h1] <;> rw [if_neg h23] <;> rw [if_neg h24] <;> rw [if_pos h25] <;> rw [e27] <;> (try dsimp only) <;> rfl) hw d_M_arrive_158
      · refine lv_aload_n (pc := 52) F.1 F.2.1 d_M_arrive_52 rfl (lv_at hl 2 rfl) ?_
        refine lv_iload_n (pc := 53) F.1 F.2.1 d_M_arrive_53 rfl (lv_at hl 1 rfl) ?_
        refine lv_aload_n (pc := 54) F.1 F.2.1 d_M_arrive_54 rfl (lv_at hl 2 rfl) ?_
        refine x_get (pc := 55) (v := .ref (ad 17)) F hw 0 28 (fun x h => List.mem_cons_of_mem _ (in_M x h)) rfl rfl (by decide) (List.mem_cons_of_mem _ m_551) rfl d_M_arrive_55 ?_
        refine lv_bipush (pc := 58) (v := 8) F.1 F.2.1 d_M_arrive_58 (by decide) ?_
        refine x_iald (pc := 60) F hw 17 0 (8) rfl rfl rfl (by omega) (by decide) d_M_arrive_60 ?_
        refine x_top (y := nI (tN (po 8))) np.1 ?_
        refine lv_aload_n (pc := 61) F.1 F.2.1 d_M_arrive_61 rfl (lv_at hl 2 rfl) ?_
        refine x_get (pc := 62) (v := .ref (ad 18)) F hw 0 29 (fun x h => List.mem_cons_of_mem _ (in_M x h)) rfl rfl (by decide) (List.mem_cons_of_mem _ m_552) rfl d_M_arrive_62 ?_
        refine lv_bipush (pc := 65) (v := 8) F.1 F.2.1 d_M_arrive_65 (by decide) ?_
        refine x_iald (pc := 67) F hw 18 0 (8) rfl rfl rfl (by omega) (by decide) d_M_arrive_67 ?_
        refine x_callv (pc := 68) (wr := []) hw [0, 1, 2, 3, 4, 5, 6, 7, 8, 9, 10, 11, 12, 13, 14, 15, 16, 17, 18, 19] [] rfl rfl (by decide) (by decide) (va_runV (As := [.int (mo 8), .int (nI (tN (po 8))), .int (sr 8)]) (rest := []) F (c_M_pageArrives l D cT ad im me ro up ho di os ob od on pg tm ts tr ki mo po sr ld st ow nu go la so se sl sp tp rd pn (mo 8) (tN (po 8)) (sr 8) (by omega) ⟨n0.1, by omega⟩ _) (x_cw (C := "MovingGuestModel") 3 F (g_all y_M_pageArrives b_M_pageArrives 5 none (List.mem_cons_of_mem _ m_697)) rfl rfl rfl (F.2.2.2.2 _ (List.mem_cons_of_mem _ m_40)) (F.2.2.2.2 _ (List.mem_cons_of_mem _ m_695)) (F.2.2.2.2 _ (List.mem_cons_of_mem _ m_696)) (F.2.2.2.2 _ (List.mem_cons_of_mem _ m_30)) (by decide +kernel) ⟨by decide, by decide⟩) (hw.preV (q0 := 0) [0, 1, 2, 3, 4, 5, 6, 7, 8, 9, 10, 11, 12, 13, 14, 15, 16, 17, 18, 19] (by decide) rfl rfl rfl) rfl rfl hl.1 rfl (lv_room (Nat.le_of_ble_eq_true rfl)) d_M_arrive_68 ⟨by decide, by decide⟩) (fun u44 H locs e36 hw => ?_)
        obtain ⟨tmv37, tsv38, kiv39, mov40, pov41, srv42, pnv43⟩ := u44
        have hw : Hw D vwCl (TYS cT) A s (MW ad cT im me ro up ho di os ob od on pg tmv37 tsv38 tr kiv39 mov40 pov41 srv42 ld st ow nu go la so se sl sp tp rd pnv43) H locs := hw
        refine lv_goto (pc := 71) (tgt := 158) F.1 F.2.1 d_M_arrive_71 rfl ?_
        refine W.widen (k := 0) (n := 0) (by decide) (by decide) ?_
        exact ret (me, ro, ho, os, ob, od, on, pg, tmv37, tsv38, tr, kiv39, mov40, pov41, srv42, st, ow, nu, go, tp, rd, pnv43) _ _ 158 _ (by unfold F_M_arrive <;> rw [if_pos h1] <;> rw [if_neg h23] <;> rw [if_pos h24] <;> rw [e36] <;> (try dsimp only) <;> rfl) hw d_M_arrive_158
    · refine lv_aload_n (pc := 23) F.1 F.2.1 d_M_arrive_23 rfl (lv_at hl 1 rfl) ?_
      refine x_get (pc := 24) (v := .ref (ad 5)) F hw 0 4 (fun x h => List.mem_cons_of_mem _ (in_M x h)) rfl rfl (by decide) (List.mem_cons_of_mem _ m_527) rfl d_M_arrive_24 ?_
      refine lv_aload_n (pc := 27) F.1 F.2.1 d_M_arrive_27 rfl (lv_at hl 1 rfl) ?_
      refine x_get (pc := 28) (v := .int so) F hw 0 15 (fun x h => List.mem_cons_of_mem _ (in_M x h)) rfl rfl (by decide) (List.mem_cons_of_mem _ m_538) rfl d_M_arrive_28 ?_
      refine x_top (y := nI (tN so)) nso.1 ?_
      refine x_zaldB (pc := 31) F hw 5 1 (tN so) rfl rfl rfl (by omega) (by decide) d_M_arrive_31 ?_
      refine x_ifeqB (pc := 32) (tgt := 39) F d_M_arrive_32 rfl (fun h45 => ?_) (fun h45 => ?_)
      · refine lv_iconst (pc := 39) (v := 0) F.1 F.2.1 d_M_arrive_39 (by decide) ?_
        refine lv_istore_n (pc := 40) (lv' := [(2, .int 0), (1, .int (mo 8)), (0, .ref (ad 0))]) F.1 F.2.1 d_M_arrive_40 rfl hl (by decide) rfl (fun ls hl => ?_)
        refine lv_aload_n (pc := 41) F.1 F.2.1 d_M_arrive_41 rfl (lv_at hl 2 rfl) ?_
        refine x_get (pc := 42) (v := .ref (ad 15)) F hw 0 26 (fun x h => List.mem_cons_of_mem _ (in_M x h)) rfl rfl (by decide) (List.mem_cons_of_mem _ m_549) rfl d_M_arrive_42 ?_
        refine lv_bipush (pc := 45) (v := 8) F.1 F.2.1 d_M_arrive_45 (by decide) ?_
        refine x_iald (pc := 47) F hw 15 0 (8) rfl rfl rfl (by omega) (by decide) d_M_arrive_47 ?_
        refine lv_iconst (pc := 48) (v := 1) F.1 F.2.1 d_M_arrive_48 (by decide) ?_
        refine lv_icmp_ne (pc := 49) (tgt := 74) F.1 F.2.1 d_M_arrive_49 rfl (fun h46 => ?_) (fun h46 => ?_)
        · refine lv_aload_n (pc := 74) F.1 F.2.1 d_M_arrive_74 rfl (lv_at hl 2 rfl) ?_
          refine x_get (pc := 75) (v := .ref (ad 15)) F hw 0 26 (fun x h => List.mem_cons_of_mem _ (in_M x h)) rfl rfl (by decide) (List.mem_cons_of_mem _ m_549) rfl d_M_arrive_75 ?_
          refine lv_bipush (pc := 78) (v := 8) F.1 F.2.1 d_M_arrive_78 (by decide) ?_
          refine x_iald (pc := 80) F hw 15 0 (8) rfl rfl rfl (by omega) (by decide) d_M_arrive_80 ?_
          refine lv_iconst (pc := 81) (v := 2) F.1 F.2.1 d_M_arrive_81 (by decide) ?_
          refine lv_icmp_ne (pc := 82) (tgt := 93) F.1 F.2.1 d_M_arrive_82 rfl (fun h47 => ?_) (fun h47 => ?_)
          · refine lv_aload_n (pc := 93) F.1 F.2.1 d_M_arrive_93 rfl (lv_at hl 2 rfl) ?_
            refine x_get (pc := 94) (v := .ref (ad 15)) F hw 0 26 (fun x h => List.mem_cons_of_mem _ (in_M x h)) rfl rfl (by decide) (List.mem_cons_of_mem _ m_549) rfl d_M_arrive_94 ?_
            refine lv_bipush (pc := 97) (v := 8) F.1 F.2.1 d_M_arrive_97 (by decide) ?_
            refine x_iald (pc := 99) F hw 15 0 (8) rfl rfl rfl (by omega) (by decide) d_M_arrive_99 ?_
            refine lv_iconst (pc := 100) (v := 3) F.1 F.2.1 d_M_arrive_100 (by decide) ?_
            refine lv_icmp_ne (pc := 101) (tgt := 143) F.1 F.2.1 d_M_arrive_101 rfl (fun h48 => ?_) (fun h48 => ?_)
            · refine lv_iload_n (pc := 143) F.1 F.2.1 d_M_arrive_143 rfl (lv_at hl 0 rfl) ?_
              refine lv_if_eq (pc := 144) (tgt := 158) F.1 F.2.1 d_M_arrive_144 rfl (fun _ => ?_) (fun h => absurd h (by decide))
              refine W.widen (k := 0) (n := 0) (by decide) (by decide) ?_
              exact ret (me, ro, ho, os, ob, od, on, pg, tm, ts, tr, ki, mo, po, sr, st, ow, nu, go, tp, rd, pn) _ _ 158 _ (by unfold F_M_arrive <;> rw [if_pos h1] <;> rw [if_pos h23] <;> rw [if_neg h45] <;> rw [if_neg h46] <;> rw [if_neg h47] <;> rw [if_neg h48] <;> rfl) hw d_M_arrive_158
            · refine lv_aload_n (pc := 104) F.1 F.2.1 d_M_arrive_104 rfl (lv_at hl 2 rfl) ?_
              refine x_get (pc := 105) (v := .ref (ad 17)) F hw 0 28 (fun x h => List.mem_cons_of_mem _ (in_M x h)) rfl rfl (by decide) (List.mem_cons_of_mem _ m_551) rfl d_M_arrive_105 ?_
              refine lv_bipush (pc := 108) (v := 8) F.1 F.2.1 d_M_arrive_108 (by decide) ?_
              refine x_iald (pc := 110) F hw 17 0 (8) rfl rfl rfl (by omega) (by decide) d_M_arrive_110 ?_
              refine x_top (y := nI (tN (po 8))) np.1 ?_
              refine lv_istore_n (pc := 111) (lv' := [(3, .int (nI (tN (po 8)))), (2, .int 0), (1, .int (mo 8)), (0, .ref (ad 0))]) F.1 F.2.1 d_M_arrive_111 rfl hl (by decide) rfl (fun ls hl => ?_)
              refine lv_iload_n (pc := 112) F.1 F.2.1 d_M_arrive_112 rfl (lv_at hl 1 rfl) ?_
              refine lv_if_eq (pc := 113) (tgt := 140) F.1 F.2.1 d_M_arrive_113 rfl (fun _ => ?_) (fun h => absurd h (by decide))
              refine lv_goto (pc := 140) (tgt := 158) F.1 F.2.1 d_M_arrive_140 rfl ?_
              refine W.widen (k := 0) (n := 0) (by decide) (by decide) ?_
              exact ret (me, ro, ho, os, ob, od, on, pg, tm, ts, tr, ki, mo, po, sr, st, ow, nu, go, tp, rd, pn) _ _ 158 _ (by unfold F_M_arrive <;> rw [if_pos h1] <;> rw [if_pos h23] <;> rw [if_neg h45] <;> rw [if_neg h46] <;> rw [if_neg h47] <;> rw [if_pos h48] <;> rfl) hw d_M_arrive_158
          · refine lv_aload_n (pc := 85) F.1 F.2.1 d_M_arrive_85 rfl (lv_at hl 2 rfl) ?_
            refine lv_iload_n (pc := 86) F.1 F.2.1 d_M_arrive_86 rfl (lv_at hl 1 rfl) ?_
            refine x_callv (pc := 87) (wr := []) hw [0, 1, 2, 3, 4, 5, 6, 7, 8, 9, 10, 11, 12, 13, 14, 15, 16, 17, 18, 19] [] rfl rfl (by decide) (by decide) (va_runV (As := [.int (mo 8)]) (rest := []) F (c_M_stateArrives l D cT ad im me ro up ho di os ob od on pg tm ts tr ki mo po sr ld st ow nu go la so se sl sp tp rd pn (mo 8) ⟨n0.1, by omega⟩ _) (x_cw (C := "MovingGuestModel") 1 F (g_all y_M_stateArrives b_M_stateArrives 3 none (List.mem_cons_of_mem _ m_700)) rfl rfl rfl (F.2.2.2.2 _ (List.mem_cons_of_mem _ m_40)) (F.2.2.2.2 _ (List.mem_cons_of_mem _ m_698)) (F.2.2.2.2 _ (List.mem_cons_of_mem _ m_699)) (F.2.2.2.2 _ (List.mem_cons_of_mem _ m_31)) (by decide +kernel) ⟨by decide, by decide⟩) (hw.preV (q0 := 0) [0, 1, 2, 3, 4, 5, 6, 7, 8, 9, 10, 11, 12, 13, 14, 15, 16, 17, 18, 19] (by decide) rfl rfl rfl) rfl rfl hl.1 rfl (lv_room (Nat.le_of_ble_eq_true rfl)) d_M_arrive_87 ⟨by decide, by decide⟩) (fun u57 H locs e49 hw => ?_)
            obtain ⟨trv50, kiv51, mov52, pov53, srv54, rdv55, pnv56⟩ := u57
            have hw : Hw D vwCl (TYS cT) A s (MW ad cT im me ro up ho di os ob od on pg tm ts trv50 kiv51 mov52 pov53 srv54 ld st ow nu go la so se sl sp tp rdv55 pnv56) H locs := hw
            refine lv_goto (pc := 90) (tgt := 158) F.1 F.2.1 d_M_arrive_90 rfl ?_
            refine W.widen (k := 0) (n := 0) (by decide) (by decide) ?_
            exact ret (me, ro, ho, os, ob, od, on, pg, tm, ts, trv50, kiv51, mov52, pov53, srv54, st, ow, nu, go, tp, rdv55, pnv56) _ _ 158 _ (by unfold F_M_arrive <;> rw [if_pos h1] <;> rw [if_pos h23] <;> rw [if_neg h45] <;> rw [if_neg h46] <;> rw [if_pos h47] <;> rw [e49] <;> (try dsimp only) <;> rfl) hw d_M_arrive_158
        · refine lv_aload_n (pc := 52) F.1 F.2.1 d_M_arrive_52 rfl (lv_at hl 2 rfl) ?_
          refine lv_iload_n (pc := 53) F.1 F.2.1 d_M_arrive_53 rfl (lv_at hl 1 rfl) ?_
          refine lv_aload_n (pc := 54) F.1 F.2.1 d_M_arrive_54 rfl (lv_at hl 2 rfl) ?_
          refine x_get (pc := 55) (v := .ref (ad 17)) F hw 0 28 (fun x h => List.mem_cons_of_mem _ (in_M x h)) rfl rfl (by decide) (List.mem_cons_of_mem _ m_551) rfl d_M_arrive_55 ?_
          refine lv_bipush (pc := 58) (v := 8) F.1 F.2.1 d_M_arrive_58 (by decide) ?_
          refine x_iald (pc := 60) F hw 17 0 (8) rfl rfl rfl (by omega) (by decide) d_M_arrive_60 ?_
          refine x_top (y := nI (tN (po 8))) np.1 ?_
          refine lv_aload_n (pc := 61) F.1 F.2.1 d_M_arrive_61 rfl (lv_at hl 2 rfl) ?_
          refine x_get (pc := 62) (v := .ref (ad 18)) F hw 0 29 (fun x h => List.mem_cons_of_mem _ (in_M x h)) rfl rfl (by decide) (List.mem_cons_of_mem _ m_552) rfl d_M_arrive_62 ?_
          refine lv_bipush (pc := 65) (v := 8) F.1 F.2.1 d_M_arrive_65 (by decide) ?_
          refine x_iald (pc := 67) F hw 18 0 (8) rfl rfl rfl (by omega) (by decide) d_M_arrive_67 ?_
          refine x_callv (pc := 68) (wr := []) hw [0, 1, 2, 3, 4, 5, 6, 7, 8, 9, 10, 11, 12, 13, 14, 15, 16, 17, 18, 19] [] rfl rfl (by decide) (by decide) (va_runV (As := [.int (mo 8), .int (nI (tN (po 8))), .int (sr 8)]) (rest := []) F (c_M_pageArrives l D cT ad im me ro up ho di os ob od on pg tm ts tr ki mo po sr ld st ow nu go la so se sl sp tp rd pn (mo 8) (tN (po 8)) (sr 8) (by omega) ⟨n0.1, by omega⟩ _) (x_cw (C := "MovingGuestModel") 3 F (g_all y_M_pageArrives b_M_pageArrives 5 none (List.mem_cons_of_mem _ m_697)) rfl rfl rfl (F.2.2.2.2 _ (List.mem_cons_of_mem _ m_40)) (F.2.2.2.2 _ (List.mem_cons_of_mem _ m_695)) (F.2.2.2.2 _ (List.mem_cons_of_mem _ m_696)) (F.2.2.2.2 _ (List.mem_cons_of_mem _ m_30)) (by decide +kernel) ⟨by decide, by decide⟩) (hw.preV (q0 := 0) [0, 1, 2, 3, 4, 5, 6, 7, 8, 9, 10, 11, 12, 13, 14, 15, 16, 17, 18, 19] (by decide) rfl rfl rfl) rfl rfl hl.1 rfl (lv_room (Nat.le_of_ble_eq_true rfl)) d_M_arrive_68 ⟨by decide, by decide⟩) (fun u66 H locs e58 hw => ?_)
          obtain ⟨tmv59, tsv60, kiv61, mov62, pov63, srv64, pnv65⟩ := u66
          have hw : Hw D vwCl (TYS cT) A s (MW ad cT im me ro up ho di os ob od on pg tmv59 tsv60 tr kiv61 mov62 pov63 srv64 ld st ow nu go la so se sl sp tp rd pnv65) H locs := hw
          refine lv_goto (pc := 71) (tgt := 158) F.1 F.2.1 d_M_arrive_71 rfl ?_
          refine W.widen (k := 0) (n := 0) (by decide) (by decide) ?_
          exact ret (me, ro, ho, os, ob, od, on, pg, tmv59, tsv60, tr, kiv61, mov62, pov63, srv64, st, ow, nu, go, tp, rd, pnv65) _ _ 158 _ (by unfold F_M_arrive <;> rw [if_pos h1] <;> rw [if_pos h23] <;> rw [if_neg h45] <;> rw [if_pos h46] <;> rw [e58] <;> (try dsimp only) <;> rfl) hw d_M_arrive_158
      · refine lv_iconst (pc := 35) (v := 1) F.1 F.2.1 d_M_arrive_35 (by decide) ?_
        refine lv_goto (pc := 36) (tgt := 40) F.1 F.2.1 d_M_arrive_36 rfl ?_
        refine lv_istore_n (pc := 40) (lv' := [(2, .int 1), (1, .int (mo 8)), (0, .ref (ad 0))]) F.1 F.2.1 d_M_arrive_40 rfl hl (by decide) rfl (fun ls hl => ?_)
        refine lv_aload_n (pc := 41) F.1 F.2.1 d_M_arrive_41 rfl (lv_at hl 2 rfl) ?_
        refine x_get (pc := 42) (v := .ref (ad 15)) F hw 0 26 (fun x h => List.mem_cons_of_mem _ (in_M x h)) rfl rfl (by decide) (List.mem_cons_of_mem _ m_549) rfl d_M_arrive_42 ?_
        refine lv_bipush (pc := 45) (v := 8) F.1 F.2.1 d_M_arrive_45 (by decide) ?_
        refine x_iald (pc := 47) F hw 15 0 (8) rfl rfl rfl (by omega) (by decide) d_M_arrive_47 ?_
        refine lv_iconst (pc := 48) (v := 1) F.1 F.2.1 d_M_arrive_48 (by decide) ?_
        refine lv_icmp_ne (pc := 49) (tgt := 74) F.1 F.2.1 d_M_arrive_49 rfl (fun h67 => ?_) (fun h67 => ?_)
        · refine lv_aload_n (pc := 74) F.1 F.2.1 d_M_arrive_74 rfl (lv_at hl 2 rfl) ?_
          refine x_get (pc := 75) (v := .ref (ad 15)) F hw 0 26 (fun x h => List.mem_cons_of_mem _ (in_M x h)) rfl rfl (by decide) (List.mem_cons_of_mem _ m_549) rfl d_M_arrive_75 ?_
          refine lv_bipush (pc := 78) (v := 8) F.1 F.2.1 d_M_arrive_78 (by decide) ?_
          refine x_iald (pc := 80) F hw 15 0 (8) rfl rfl rfl (by omega) (by decide) d_M_arrive_80 ?_
          refine lv_iconst (pc := 81) (v := 2) F.1 F.2.1 d_M_arrive_81 (by decide) ?_
          refine lv_icmp_ne (pc := 82) (tgt := 93) F.1 F.2.1 d_M_arrive_82 rfl (fun h68 => ?_) (fun h68 => ?_)
          · refine lv_aload_n (pc := 93) F.1 F.2.1 d_M_arrive_93 rfl (lv_at hl 2 rfl) ?_
            refine x_get (pc := 94) (v := .ref (ad 15)) F hw 0 26 (fun x h => List.mem_cons_of_mem _ (in_M x h)) rfl rfl (by decide) (List.mem_cons_of_mem _ m_549) rfl d_M_arrive_94 ?_
            refine lv_bipush (pc := 97) (v := 8) F.1 F.2.1 d_M_arrive_97 (by decide) ?_
            refine x_iald (pc := 99) F hw 15 0 (8) rfl rfl rfl (by omega) (by decide) d_M_arrive_99 ?_
            refine lv_iconst (pc := 100) (v := 3) F.1 F.2.1 d_M_arrive_100 (by decide) ?_
            refine lv_icmp_ne (pc := 101) (tgt := 143) F.1 F.2.1 d_M_arrive_101 rfl (fun h69 => ?_) (fun h69 => ?_)
            · refine lv_iload_n (pc := 143) F.1 F.2.1 d_M_arrive_143 rfl (lv_at hl 0 rfl) ?_
              refine lv_if_eq (pc := 144) (tgt := 158) F.1 F.2.1 d_M_arrive_144 rfl (fun h => absurd h (by decide)) (fun _ => ?_)
              refine lv_aload_n (pc := 147) F.1 F.2.1 d_M_arrive_147 rfl (lv_at hl 2 rfl) ?_
              refine x_get (pc := 148) (v := .int (bI rd)) F hw 0 21 (fun x h => List.mem_cons_of_mem _ (in_M x h)) rfl rfl (by decide) (List.mem_cons_of_mem _ m_544) rfl d_M_arrive_148 ?_
              refine x_ifeqB (pc := 151) (tgt := 158) F d_M_arrive_151 rfl (fun h70 => ?_) (fun h70 => ?_)
              · refine W.widen (k := 0) (n := 0) (by decide) (by decide) ?_
                exact ret (me, ro, ho, os, ob, od, on, pg, tm, ts, tr, ki, mo, po, sr, st, ow, nu, go, tp, rd, pn) _ _ 158 _ (by unfold F_M_arrive <;> rw [if_pos h1] <;> rw [if_pos h23] <;> rw [if_pos h45] <;> rw [if_neg h67] <;> rw [if_neg h68] <;> rw [if_neg h69] <;> rw [if_neg h70] <;> rfl) hw d_M_arrive_158
              · refine lv_aload_n (pc := 154) F.1 F.2.1 d_M_arrive_154 rfl (lv_at hl 2 rfl) ?_
                refine x_callv (pc := 155) (wr := []) hw [0, 1, 2, 3, 4, 5, 6, 7, 8, 9, 10, 11, 12, 13, 14, 15, 16, 17, 18, 19] [] rfl rfl (by decide) (by decide) (va_runV (As := []) (rest := []) F (c_M_handOver l D cT ad im me ro up ho di os ob od on pg tm ts tr ki mo po sr ld st ow nu go la so se sl sp tp rd pn ⟨nso.1, by omega⟩ _) (x_cw (C := "MovingGuestModel") 0 F (g_all y_M_handOver b_M_handOver 3 none (List.mem_cons_of_mem _ m_703)) rfl rfl rfl (F.2.2.2.2 _ (List.mem_cons_of_mem _ m_40)) (F.2.2.2.2 _ (List.mem_cons_of_mem _ m_701)) (F.2.2.2.2 _ (List.mem_cons_of_mem _ m_702)) (F.2.2.2.2 _ (List.mem_cons_of_mem _ m_32)) (by decide +kernel) ⟨by decide, by decide⟩) (hw.preV (q0 := 0) [0, 1, 2, 3, 4, 5, 6, 7, 8, 9, 10, 11, 12, 13, 14, 15, 16, 17, 18, 19] (by decide) rfl rfl rfl) rfl rfl hl.1 rfl (lv_room (Nat.le_of_ble_eq_true rfl)) d_M_arrive_155 ⟨by decide, by decide⟩) (fun u85 H locs e71 hw => ?_)
                obtain ⟨mev72, rov73, hov74, osv75, obv76, odv77, onv78, stv79, owv80, nuv81, gov82, tpv83, rdv84⟩ := u85
                have hw : Hw D vwCl (TYS cT) A s (MW ad cT im mev72 rov73 up hov74 di osv75 obv76 odv77 onv78 pg tm ts tr ki mo po sr ld stv79 owv80 nuv81 gov82 la so se sl sp tpv83 rdv84 pn) H locs := hw
                refine W.widen (k := 0) (n := 0) (by decide) (by decide) ?_
                exact ret (mev72, rov73, hov74, osv75, obv76, odv77, onv78, pg, tm, ts, tr, ki, mo, po, sr, stv79, owv80, nuv81, gov82, tpv83, rdv84, pn) _ _ 158 _ (by unfold F_M_arrive <;> rw [if_pos h1] <;> rw [if_pos h23] <;> rw [if_pos h45] <;> rw [if_neg h67] <;> rw [if_neg h68] <;> rw [if_neg h69] <;> rw [if_pos h70] <;> rw [e71] <;> (try dsimp only) <;> rfl) hw d_M_arrive_158
            · refine lv_aload_n (pc := 104) F.1 F.2.1 d_M_arrive_104 rfl (lv_at hl 2 rfl) ?_
              refine x_get (pc := 105) (v := .ref (ad 17)) F hw 0 28 (fun x h => List.mem_cons_of_mem _ (in_M x h)) rfl rfl (by decide) (List.mem_cons_of_mem _ m_551) rfl d_M_arrive_105 ?_
              refine lv_bipush (pc := 108) (v := 8) F.1 F.2.1 d_M_arrive_108 (by decide) ?_
              refine x_iald (pc := 110) F hw 17 0 (8) rfl rfl rfl (by omega) (by decide) d_M_arrive_110 ?_
              refine x_top (y := nI (tN (po 8))) np.1 ?_
              refine lv_istore_n (pc := 111) (lv' := [(3, .int (nI (tN (po 8)))), (2, .int 1), (1, .int (mo 8)), (0, .ref (ad 0))]) F.1 F.2.1 d_M_arrive_111 rfl hl (by decide) rfl (fun ls hl => ?_)
              refine lv_iload_n (pc := 112) F.1 F.2.1 d_M_arrive_112 rfl (lv_at hl 1 rfl) ?_
              refine lv_if_eq (pc := 113) (tgt := 140) F.1 F.2.1 d_M_arrive_113 rfl (fun h => absurd h (by decide)) (fun _ => ?_)
              refine lv_aload_n (pc := 116) F.1 F.2.1 d_M_arrive_116 rfl (lv_at hl 3 rfl) ?_
              refine x_get (pc := 117) (v := .ref (ad 11)) F hw 0 16 (fun x h => List.mem_cons_of_mem _ (in_M x h)) rfl rfl (by decide) (List.mem_cons_of_mem _ m_539) rfl d_M_arrive_117 ?_
              refine lv_iload_n (pc := 120) F.1 F.2.1 d_M_arrive_120 rfl (lv_at hl 0 rfl) ?_
              refine x_iald (pc := 121) F hw 11 0 (tN (po 8)) rfl rfl rfl (by omega) (by decide) d_M_arrive_121 ?_
              refine lv_aload_n (pc := 122) F.1 F.2.1 d_M_arrive_122 rfl (lv_at hl 3 rfl) ?_
              refine x_get (pc := 123) (v := .ref (ad 18)) F hw 0 29 (fun x h => List.mem_cons_of_mem _ (in_M x h)) rfl rfl (by decide) (List.mem_cons_of_mem _ m_552) rfl d_M_arrive_123 ?_
              refine lv_bipush (pc := 126) (v := 8) F.1 F.2.1 d_M_arrive_126 (by decide) ?_
              refine x_iald (pc := 128) F hw 18 0 (8) rfl rfl rfl (by omega) (by decide) d_M_arrive_128 ?_
              refine lv_icmp_ne (pc := 129) (tgt := 140) F.1 F.2.1 d_M_arrive_129 rfl (fun h86 => ?_) (fun h86 => ?_)
              · refine lv_goto (pc := 140) (tgt := 158) F.1 F.2.1 d_M_arrive_140 rfl ?_
                refine W.widen (k := 0) (n := 0) (by decide) (by decide) ?_
                exact ret (me, ro, ho, os, ob, od, on, pg, tm, ts, tr, ki, mo, po, sr, st, ow, nu, go, tp, rd, pn) _ _ 158 _ (by unfold F_M_arrive <;> rw [if_pos h1] <;> rw [if_pos h23] <;> rw [if_pos h45] <;> rw [if_neg h67] <;> rw [if_neg h68] <;> rw [if_pos h69] <;> rw [if_neg h86] <;> rfl) hw d_M_arrive_158
              · refine lv_aload_n (pc := 132) F.1 F.2.1 d_M_arrive_132 rfl (lv_at hl 3 rfl) ?_
                refine x_get (pc := 133) (v := .ref (ad 11)) F hw 0 16 (fun x h => List.mem_cons_of_mem _ (in_M x h)) rfl rfl (by decide) (List.mem_cons_of_mem _ m_539) rfl d_M_arrive_133 ?_
                refine lv_iload_n (pc := 136) F.1 F.2.1 d_M_arrive_136 rfl (lv_at hl 0 rfl) ?_
                refine lv_bipush (pc := 137) (v := (-2)) F.1 F.2.1 d_M_arrive_137 (by decide) ?_
                refine x_iast (pc := 139) (ws' := MW ad cT im me ro up ho di os ob od on (upd pg (tN (po 8)) (-2)) tm ts tr ki mo po sr ld st ow nu go la so se sl sp tp rd pn) F hw 11 0 (tN (po 8)) rfl rfl rfl (by omega) (by decide) d_M_arrive_139 rfl (fun H locs hw => ?_)
                refine lv_goto (pc := 140) (tgt := 158) F.1 F.2.1 d_M_arrive_140 rfl ?_
                refine W.widen (k := 0) (n := 0) (by decide) (by decide) ?_
                exact ret (me, ro, ho, os, ob, od, on, upd pg (tN (po 8)) (-2), tm, ts, tr, ki, mo, po, sr, st, ow, nu, go, tp, rd, pn) _ _ 158 _ (by unfold F_M_arrive <;> rw [if_pos h1] <;> rw [if_pos h23] <;> rw [if_pos h45] <;> rw [if_neg h67] <;> rw [if_neg h68] <;> rw [if_pos h69] <;> rw [if_pos h86] <;> rfl) hw d_M_arrive_158
          · refine lv_aload_n (pc := 85) F.1 F.2.1 d_M_arrive_85 rfl (lv_at hl 2 rfl) ?_
            refine lv_iload_n (pc := 86) F.1 F.2.1 d_M_arrive_86 rfl (lv_at hl 1 rfl) ?_
            refine x_callv (pc := 87) (wr := []) hw [0, 1, 2, 3, 4, 5, 6, 7, 8, 9, 10, 11, 12, 13, 14, 15, 16, 17, 18, 19] [] rfl rfl (by decide) (by decide) (va_runV (As := [.int (mo 8)]) (rest := []) F (c_M_stateArrives l D cT ad im me ro up ho di os ob od on pg tm ts tr ki mo po sr ld st ow nu go la so se sl sp tp rd pn (mo 8) ⟨n0.1, by omega⟩ _) (x_cw (C := "MovingGuestModel") 1 F (g_all y_M_stateArrives b_M_stateArrives 3 none (List.mem_cons_of_mem _ m_700)) rfl rfl rfl (F.2.2.2.2 _ (List.mem_cons_of_mem _ m_40)) (F.2.2.2.2 _ (List.mem_cons_of_mem _ m_698)) (F.2.2.2.2 _ (List.mem_cons_of_mem _ m_699)) (F.2.2.2.2 _ (List.mem_cons_of_mem _ m_31)) (by decide +kernel) ⟨by decide, by decide⟩) (hw.preV (q0 := 0) [0, 1, 2, 3, 4, 5, 6, 7, 8, 9, 10, 11, 12, 13, 14, 15, 16, 17, 18, 19] (by decide) rfl rfl rfl) rfl rfl hl.1 rfl (lv_room (Nat.le_of_ble_eq_true rfl)) d_M_arrive_87 ⟨by decide, by decide⟩) (fun u95 H locs e87 hw => ?_)
            obtain ⟨trv88, kiv89, mov90, pov91, srv92, rdv93, pnv94⟩ := u95
            have hw : Hw D vwCl (TYS cT) A s (MW ad cT im me ro up ho di os ob od on pg tm ts trv88 kiv89 mov90 pov91 srv92 ld st ow nu go la so se sl sp tp rdv93 pnv94) H locs := hw
            refine lv_goto (pc := 90) (tgt := 158) F.1 F.2.1 d_M_arrive_90 rfl ?_
            refine W.widen (k := 0) (n := 0) (by decide) (by decide) ?_
            exact ret (me, ro, ho, os, ob, od, on, pg, tm, ts, trv88, kiv89, mov90, pov91, srv92, st, ow, nu, go, tp, rdv93, pnv94) _ _ 158 _ (by unfold F_M_arrive <;> rw [if_pos h1] <;> rw [if_pos h23] <;> rw [if_pos h45] <;> rw [if_neg h67] <;> rw [if_pos h68] <;> rw [e87] <;> (try dsimp only) <;> rfl) hw d_M_arrive_158
        · refine lv_aload_n (pc := 52) F.1 F.2.1 d_M_arrive_52 rfl (lv_at hl 2 rfl) ?_
          refine lv_iload_n (pc := 53) F.1 F.2.1 d_M_arrive_53 rfl (lv_at hl 1 rfl) ?_
          refine lv_aload_n (pc := 54) F.1 F.2.1 d_M_arrive_54 rfl (lv_at hl 2 rfl) ?_
          refine x_get (pc := 55) (v := .ref (ad 17)) F hw 0 28 (fun x h => List.mem_cons_of_mem _ (in_M x h)) rfl rfl (by decide) (List.mem_cons_of_mem _ m_551) rfl d_M_arrive_55 ?_
          refine lv_bipush (pc := 58) (v := 8) F.1 F.2.1 d_M_arrive_58 (by decide) ?_
          refine x_iald (pc := 60) F hw 17 0 (8) rfl rfl rfl (by omega) (by decide) d_M_arrive_60 ?_
          refine x_top (y := nI (tN (po 8))) np.1 ?_
          refine lv_aload_n (pc := 61) F.1 F.2.1 d_M_arrive_61 rfl (lv_at hl 2 rfl) ?_
          refine x_get (pc := 62) (v := .ref (ad 18)) F hw 0 29 (fun x h => List.mem_cons_of_mem _ (in_M x h)) rfl rfl (by decide) (List.mem_cons_of_mem _ m_552) rfl d_M_arrive_62 ?_
          refine lv_bipush (pc := 65) (v := 8) F.1 F.2.1 d_M_arrive_65 (by decide) ?_
          refine x_iald (pc := 67) F hw 18 0 (8) rfl rfl rfl (by omega) (by decide) d_M_arrive_67 ?_
          refine x_callv (pc := 68) (wr := []) hw [0, 1, 2, 3, 4, 5, 6, 7, 8, 9, 10, 11, 12, 13, 14, 15, 16, 17, 18, 19] [] rfl rfl (by decide) (by decide) (va_runV (As := [.int (mo 8), .int (nI (tN (po 8))), .int (sr 8)]) (rest := []) F (c_M_pageArrives l D cT ad im me ro up ho di os ob od on pg tm ts tr ki mo po sr ld st ow nu go la so se sl sp tp rd pn (mo 8) (tN (po 8)) (sr 8) (by omega) ⟨n0.1, by omega⟩ _) (x_cw (C := "MovingGuestModel") 3 F (g_all y_M_pageArrives b_M_pageArrives 5 none (List.mem_cons_of_mem _ m_697)) rfl rfl rfl (F.2.2.2.2 _ (List.mem_cons_of_mem _ m_40)) (F.2.2.2.2 _ (List.mem_cons_of_mem _ m_695)) (F.2.2.2.2 _ (List.mem_cons_of_mem _ m_696)) (F.2.2.2.2 _ (List.mem_cons_of_mem _ m_30)) (by decide +kernel) ⟨by decide, by decide⟩) (hw.preV (q0 := 0) [0, 1, 2, 3, 4, 5, 6, 7, 8, 9, 10, 11, 12, 13, 14, 15, 16, 17, 18, 19] (by decide) rfl rfl rfl) rfl rfl hl.1 rfl (lv_room (Nat.le_of_ble_eq_true rfl)) d_M_arrive_68 ⟨by decide, by decide⟩) (fun u104 H locs e96 hw => ?_)
          obtain ⟨tmv97, tsv98, kiv99, mov100, pov101, srv102, pnv103⟩ := u104
          have hw : Hw D vwCl (TYS cT) A s (MW ad cT im me ro up ho di os ob od on pg tmv97 tsv98 tr kiv99 mov100 pov101 srv102 ld st ow nu go la so se sl sp tp rd pnv103) H locs := hw
          refine lv_goto (pc := 71) (tgt := 158) F.1 F.2.1 d_M_arrive_71 rfl ?_
          refine W.widen (k := 0) (n := 0) (by decide) (by decide) ?_
          exact ret (me, ro, ho, os, ob, od, on, pg, tmv97, tsv98, tr, kiv99, mov100, pov101, srv102, st, ow, nu, go, tp, rd, pnv103) _ _ 158 _ (by unfold F_M_arrive <;> rw [if_pos h1] <;> rw [if_pos h23] <;> rw [if_pos h45] <;> rw [if_pos h67] <;> rw [e96] <;> (try dsimp only) <;> rfl) hw d_M_arrive_158
def F_M_deliver (me : Nat → Int32) (ro : Nat → Int32) (ho : Nat → Bool) (os : Nat → Bool) (ob : Nat → Int32) (od : Nat → Int32) (on : Nat → Int32) (pg : Nat → Int32) (tm : Nat → Int32) (ts : Nat → Int32) (tr : Nat → Int32) (ki : Nat → Int32) (mo : Nat → Int32) (po : Nat → Int32) (sr : Nat → Int32) (ld : Nat → Int32) (st : Bool) (ow : Int32) (nu : Int32) (go : Bool) (la : Int32) (so : Int32) (tp : Bool) (rd : Bool) (pn : Int32) (k : Int32) : Int32 × (Nat → Int32) × (Nat → Int32) × (Nat → Bool) × (Nat → Bool) × (Nat → Int32) × (Nat → Int32) × (Nat → Int32) × (Nat → Int32) × (Nat → Int32) × (Nat → Int32) × (Nat → Int32) × (Nat → Int32) × (Nat → Int32) × (Nat → Int32) × (Nat → Int32) × (Nat → Int32) × Bool × Int32 × Int32 × Bool × Bool × Bool × Int32 :=
  match F_M_isPiece pn k with
  | (r2, _) =>
    if r2 = 0 then
      ((-1), (me, ro, ho, os, ob, od, on, pg, tm, ts, tr, ki, mo, po, sr, ld, st, ow, nu, go, tp, rd, pn))
    else
      match F_M_arrive me ro ho os ob od on pg tm ts tr (va_cpy (upd ki 8 (ki (tN k))) (upd ki 8 (ki (tN k))) (tN k + 1) (tN k) (tN pn - 1 - tN k)) (va_cpy (upd mo 8 (mo (tN k))) (upd mo 8 (mo (tN k))) (tN k + 1) (tN k) (tN pn - 1 - tN k)) (va_cpy (upd po 8 (po (tN k))) (upd po 8 (po (tN k))) (tN k + 1) (tN k) (tN pn - 1 - tN k)) (va_cpy (upd sr 8 (sr (tN k))) (upd sr 8 (sr (tN k))) (tN k + 1) (tN k) (tN pn - 1 - tN k)) (va_cpy (va_cpy ld ld (60 * tN k) (60 * 8) 60) (va_cpy ld ld (60 * tN k) (60 * 8) 60) (60 * (tN k + 1)) (60 * tN k) (60 * (tN pn - 1 - tN k))) st ow nu go la so tp rd (nI (tN pn - 1)) with
      | (mev14, rov15, hov16, osv17, obv18, odv19, onv20, pgv21, tmv22, tsv23, trv24, kiv25, mov26, pov27, srv28, stv29, owv30, nuv31, gov32, tpv33, rdv34, pnv35) =>
        (ki (tN k), (mev14, rov15, hov16, osv17, obv18, odv19, onv20, pgv21, tmv22, tsv23, trv24, kiv25, mov26, pov27, srv28, va_cpy (va_cpy ld ld (60 * tN k) (60 * 8) 60) (va_cpy ld ld (60 * tN k) (60 * 8) 60) (60 * (tN k + 1)) (60 * tN k) (60 * (tN pn - 1 - tN k)), stv29, owv30, nuv31, gov32, tpv33, rdv34, pnv35))
set_option maxHeartbeats 4000000 in
set_option maxRecDepth 100000 in
theorem c_M_deliver (l : Launch) (D : va_G) (cT : Nat → ClassId) (ad : Nat → Nat) (im : Nat → Int32) (me : Nat → Int32) (ro : Nat → Int32) (up : Nat → Bool) (ho : Nat → Bool) (di : Nat → Int32) (os : Nat → Bool) (ob : Nat → Int32) (od : Nat → Int32) (on : Nat → Int32) (pg : Nat → Int32) (tm : Nat → Int32) (ts : Nat → Int32) (tr : Nat → Int32) (ki : Nat → Int32) (mo : Nat → Int32) (po : Nat → Int32) (sr : Nat → Int32) (ld : Nat → Int32) (st : Bool) (ow : Int32) (nu : Int32) (go : Bool) (la : Int32) (so : Int32) (se : Int32) (sl : Int32) (sp : Int32) (tp : Bool) (rd : Bool) (pn : Int32) (k : Int32) (n0 : isN pn 9) (nso : isN so 2) (np : ∀ k, k < tN pn → isN (po k) 8) : Cti l y_M_deliver ws_M_deliver { frames := 3, cells := 0, slots := 0, locals := 72 } D vwCl (TYS cT) [.ref (ad 0), .int k] (MW ad cT im me ro up ho di os ob od on pg tm ts tr ki mo po sr ld st ow nu go la so se sl sp tp rd pn) (fun (rr : Int32) (uu : (Nat → Int32) × (Nat → Int32) × (Nat → Bool) × (Nat → Bool) × (Nat → Int32) × (Nat → Int32) × (Nat → Int32) × (Nat → Int32) × (Nat → Int32) × (Nat → Int32) × (Nat → Int32) × (Nat → Int32) × (Nat → Int32) × (Nat → Int32) × (Nat → Int32) × (Nat → Int32) × Bool × Int32 × Int32 × Bool × Bool × Bool × Int32) => F_M_deliver me ro ho os ob od on pg tm ts tr ki mo po sr ld st ow nu go la so tp rd pn k = (rr, uu)) (fun (u : (Nat → Int32) × (Nat → Int32) × (Nat → Bool) × (Nat → Bool) × (Nat → Int32) × (Nat → Int32) × (Nat → Int32) × (Nat → Int32) × (Nat → Int32) × (Nat → Int32) × (Nat → Int32) × (Nat → Int32) × (Nat → Int32) × (Nat → Int32) × (Nat → Int32) × (Nat → Int32) × Bool × Int32 × Int32 × Bool × Bool × Bool × Int32) => MW ad cT im u.1 u.2.1 up u.2.2.1 di u.2.2.2.1 u.2.2.2.2.1 u.2.2.2.2.2.1 u.2.2.2.2.2.2.1 u.2.2.2.2.2.2.2.1 u.2.2.2.2.2.2.2.2.1 u.2.2.2.2.2.2.2.2.2.1 u.2.2.2.2.2.2.2.2.2.2.1 u.2.2.2.2.2.2.2.2.2.2.2.1 u.2.2.2.2.2.2.2.2.2.2.2.2.1 u.2.2.2.2.2.2.2.2.2.2.2.2.2.1 u.2.2.2.2.2.2.2.2.2.2.2.2.2.2.1 u.2.2.2.2.2.2.2.2.2.2.2.2.2.2.2.1 u.2.2.2.2.2.2.2.2.2.2.2.2.2.2.2.2.1 u.2.2.2.2.2.2.2.2.2.2.2.2.2.2.2.2.2.1 u.2.2.2.2.2.2.2.2.2.2.2.2.2.2.2.2.2.2.1 u.2.2.2.2.2.2.2.2.2.2.2.2.2.2.2.2.2.2.2.1 la so se sl sp u.2.2.2.2.2.2.2.2.2.2.2.2.2.2.2.2.2.2.2.2.1 u.2.2.2.2.2.2.2.2.2.2.2.2.2.2.2.2.2.2.2.2.2.1 u.2.2.2.2.2.2.2.2.2.2.2.2.2.2.2.2.2.2.2.2.2.2) 0 0 := by
  refine x_ini (cc := b_M_deliver) (maxL := 3) (by decide) rfl (Nat.le_of_ble_eq_true rfl) ?_
  intro p e s m args below meth c A ls Q F hl hw ret
  have hl : lv_has ls 3 [(0, .ref (ad 0)), (1, .int k)] := hl
  have n0b := n0.2
  have nsob := nso.2
  refine lv_aload_n (pc := 0) F.1 F.2.1 d_M_deliver_0 rfl (lv_at hl 0 rfl) ?_
  refine lv_iload_n (pc := 1) F.1 F.2.1 d_M_deliver_1 rfl (lv_at hl 1 rfl) ?_
  refine x_calli (pc := 2) (wr := []) hw [0, 1, 2, 3, 4, 5, 6, 7, 8, 9, 10, 11, 12, 13, 14, 15, 16, 17, 18, 19] [] rfl rfl (by decide) (by decide) (va_runV (As := [.int k]) (rest := []) F (c_M_isPiece l D cT ad im me ro up ho di os ob od on pg tm ts tr ki mo po sr ld st ow nu go la so se sl sp tp rd pn k ⟨n0.1, by omega⟩ _) (x_cw (C := "MovingGuestModel") 1 F (g_all y_M_isPiece b_M_isPiece 2 (some .boolean) (List.mem_cons_of_mem _ m_685)) rfl rfl rfl (F.2.2.2.2 _ (List.mem_cons_of_mem _ m_40)) (F.2.2.2.2 _ (List.mem_cons_of_mem _ m_683)) (F.2.2.2.2 _ (List.mem_cons_of_mem _ m_684)) (F.2.2.2.2 _ (List.mem_cons_of_mem _ m_26)) (by decide +kernel) ⟨by decide, by decide⟩) (hw.preV (q0 := 0) [0, 1, 2, 3, 4, 5, 6, 7, 8, 9, 10, 11, 12, 13, 14, 15, 16, 17, 18, 19] (by decide) rfl rfl rfl) rfl rfl hl.1 rfl (lv_room (Nat.le_of_ble_eq_true rfl)) d_M_deliver_2 ⟨by decide, by decide⟩) (fun r2 u3 H locs e1 hw => ?_)
  refine lv_if_ne (pc := 5) (tgt := 10) F.1 F.2.1 d_M_deliver_5 rfl (fun h4 => ?_) (fun h4 => ?_)
  · have nk := isPiece_nat n0 e1 h4
    have nkb := nk.2
    refine lv_aload_n (pc := 10) F.1 F.2.1 d_M_deliver_10 rfl (lv_at hl 0 rfl) ?_
    refine x_get (pc := 11) (v := .ref (ad 15)) F hw 0 26 (fun x h => List.mem_cons_of_mem _ (in_M x h)) rfl rfl (by decide) (List.mem_cons_of_mem _ m_549) rfl d_M_deliver_11 ?_
    refine lv_iload_n (pc := 14) F.1 F.2.1 d_M_deliver_14 rfl (lv_at hl 1 rfl) ?_
    refine x_top (y := nI (tN k)) nk.1 ?_
    refine x_iald (pc := 15) F hw 15 0 (tN k) rfl rfl rfl (by omega) (by decide) d_M_deliver_15 ?_
    refine lv_istore_n (pc := 16) (lv' := [(2, .int (ki (tN k))), (0, .ref (ad 0)), (1, .int k)]) F.1 F.2.1 d_M_deliver_16 rfl hl (by decide) rfl (fun ls hl => ?_)
    refine lv_aload_n (pc := 17) F.1 F.2.1 d_M_deliver_17 rfl (lv_at hl 1 rfl) ?_
    refine lv_iload_n (pc := 18) F.1 F.2.1 d_M_deliver_18 rfl (lv_at hl 2 rfl) ?_
    refine x_top (y := nI (tN k)) nk.1 ?_
    refine x_callv (pc := 19) (wr := []) hw [0, 1, 2, 3, 4, 5, 6, 7, 8, 9, 10, 11, 12, 13, 14, 15, 16, 17, 18, 19] [] rfl rfl (by decide) (by decide) (va_runV (As := [.int (nI (tN k))]) (rest := []) F (c_M_leave l D cT ad im me ro up ho di os ob od on pg tm ts tr ki mo po sr ld st ow nu go la so se sl sp tp rd pn (tN k) ⟨n0.1, by omega⟩ (by omega) _) (x_cw (C := "MovingGuestModel") 1 F (g_all y_M_leave b_M_leave 3 none (List.mem_cons_of_mem _ m_688)) rfl rfl rfl (F.2.2.2.2 _ (List.mem_cons_of_mem _ m_40)) (F.2.2.2.2 _ (List.mem_cons_of_mem _ m_686)) (F.2.2.2.2 _ (List.mem_cons_of_mem _ m_687)) (F.2.2.2.2 _ (List.mem_cons_of_mem _ m_27)) (by decide +kernel) ⟨by decide, by decide⟩) (hw.preV (q0 := 0) [0, 1, 2, 3, 4, 5, 6, 7, 8, 9, 10, 11, 12, 13, 14, 15, 16, 17, 18, 19] (by decide) rfl rfl rfl) rfl rfl hl.1 rfl (lv_room (Nat.le_of_ble_eq_true rfl)) d_M_deliver_19 ⟨by decide, by decide⟩) (fun u12 H locs e5 hw => ?_)
    obtain ⟨kiv6, mov7, pov8, srv9, ldv10, pnv11⟩ := u12
    have hw : Hw D vwCl (TYS cT) A s (MW ad cT im me ro up ho di os ob od on pg tm ts tr kiv6 mov7 pov8 srv9 ldv10 st ow nu go la so se sl sp tp rd pnv11) H locs := hw
    cases (show (va_cpy (upd ki 8 (ki (tN k))) (upd ki 8 (ki (tN k))) (tN k + 1) (tN k) (tN pn - 1 - tN k), va_cpy (upd mo 8 (mo (tN k))) (upd mo 8 (mo (tN k))) (tN k + 1) (tN k) (tN pn - 1 - tN k), va_cpy (upd po 8 (po (tN k))) (upd po 8 (po (tN k))) (tN k + 1) (tN k) (tN pn - 1 - tN k), va_cpy (upd sr 8 (sr (tN k))) (upd sr 8 (sr (tN k))) (tN k + 1) (tN k) (tN pn - 1 - tN k), va_cpy (va_cpy ld ld (60 * tN k) (60 * 8) 60) (va_cpy ld ld (60 * tN k) (60 * 8) 60) (60 * (tN k + 1)) (60 * tN k) (60 * (tN pn - 1 - tN k)), nI (tN pn - 1)) = (kiv6, mov7, pov8, srv9, ldv10, pnv11) from e5)
    refine lv_aload_n (pc := 22) F.1 F.2.1 d_M_deliver_22 rfl (lv_at hl 1 rfl) ?_
    refine x_callv (pc := 23) (wr := []) hw [0, 1, 2, 3, 4, 5, 6, 7, 8, 9, 10, 11, 12, 13, 14, 15, 16, 17, 18, 19] [] rfl rfl (by decide) (by decide) (va_runV (As := []) (rest := []) F (c_M_arrive l D cT ad im me ro up ho di os ob od on pg tm ts tr (va_cpy (upd ki 8 (ki (tN k))) (upd ki 8 (ki (tN k))) (tN k + 1) (tN k) (tN pn - 1 - tN k)) (va_cpy (upd mo 8 (mo (tN k))) (upd mo 8 (mo (tN k))) (tN k + 1) (tN k) (tN pn - 1 - tN k)) (va_cpy (upd po 8 (po (tN k))) (upd po 8 (po (tN k))) (tN k + 1) (tN k) (tN pn - 1 - tN k)) (va_cpy (upd sr 8 (sr (tN k))) (upd sr 8 (sr (tN k))) (tN k + 1) (tN k) (tN pn - 1 - tN k)) (va_cpy (va_cpy ld ld (60 * tN k) (60 * 8) 60) (va_cpy ld ld (60 * tN k) (60 * 8) 60) (60 * (tN k + 1)) (60 * tN k) (60 * (tN pn - 1 - tN k))) st ow nu go la so se sl sp tp rd (nI (tN pn - 1)) ⟨nso.1, by omega⟩ (isN_nI (by omega) (by decide)) (by rw [pk_cpy_out (by omega), pk_us]; exact np _ nkb) _) (x_cw (C := "MovingGuestModel") 0 F (g_all y_M_arrive b_M_arrive 4 none (List.mem_cons_of_mem _ m_694)) rfl rfl rfl (F.2.2.2.2 _ (List.mem_cons_of_mem _ m_40)) (F.2.2.2.2 _ (List.mem_cons_of_mem _ m_692)) (F.2.2.2.2 _ (List.mem_cons_of_mem _ m_693)) (F.2.2.2.2 _ (List.mem_cons_of_mem _ m_29)) (by decide +kernel) ⟨by decide, by decide⟩) (hw.preV (q0 := 0) [0, 1, 2, 3, 4, 5, 6, 7, 8, 9, 10, 11, 12, 13, 14, 15, 16, 17, 18, 19] (by decide) rfl rfl rfl) rfl rfl hl.1 rfl (lv_room (Nat.le_of_ble_eq_true rfl)) d_M_deliver_23 ⟨by decide, by decide⟩) (fun u36 H locs e13 hw => ?_)
    obtain ⟨mev14, rov15, hov16, osv17, obv18, odv19, onv20, pgv21, tmv22, tsv23, trv24, kiv25, mov26, pov27, srv28, stv29, owv30, nuv31, gov32, tpv33, rdv34, pnv35⟩ := u36
    have hw : Hw D vwCl (TYS cT) A s (MW ad cT im mev14 rov15 up hov16 di osv17 obv18 odv19 onv20 pgv21 tmv22 tsv23 trv24 kiv25 mov26 pov27 srv28 (va_cpy (va_cpy ld ld (60 * tN k) (60 * 8) 60) (va_cpy ld ld (60 * tN k) (60 * 8) 60) (60 * (tN k + 1)) (60 * tN k) (60 * (tN pn - 1 - tN k))) stv29 owv30 nuv31 gov32 la so se sl sp tpv33 rdv34 pnv35) H locs := hw
    refine lv_iload_n (pc := 26) F.1 F.2.1 d_M_deliver_26 rfl (lv_at hl 0 rfl) ?_
    refine W.widen (k := 0) (n := 0) (by decide) (by decide) ?_
    exact ret (ki (tN k)) (mev14, rov15, hov16, osv17, obv18, odv19, onv20, pgv21, tmv22, tsv23, trv24, kiv25, mov26, pov27, srv28, va_cpy (va_cpy ld ld (60 * tN k) (60 * 8) 60) (va_cpy ld ld (60 * tN k) (60 * 8) 60) (60 * (tN k + 1)) (60 * tN k) (60 * (tN pn - 1 - tN k)), stv29, owv30, nuv31, gov32, tpv33, rdv34, pnv35) _ _ 27 _ (by unfold F_M_deliver <;> rw [e1] <;> (try dsimp only) <;> rw [if_neg h4] <;> rw [e13] <;> (try dsimp only) <;> rfl) hw d_M_deliver_27
  · refine lv_iconst (pc := 8) (v := (-1)) F.1 F.2.1 d_M_deliver_8 (by decide) ?_
    refine W.widen (k := 0) (n := 0) (by decide) (by decide) ?_
    exact ret (-1) (me, ro, ho, os, ob, od, on, pg, tm, ts, tr, ki, mo, po, sr, ld, st, ow, nu, go, tp, rd, pn) _ _ 9 _ (by unfold F_M_deliver <;> rw [e1] <;> (try dsimp only) <;> rw [if_pos h4] <;> rfl) hw d_M_deliver_9
def F_M_abort (ro : Nat → Int32) (ho : Nat → Bool) (os : Nat → Bool) (ob : Nat → Int32) (od : Nat → Int32) (on : Nat → Int32) (st : Bool) (nu : Int32) (go : Bool) (so : Int32) (tp : Bool) (rd : Bool) : Int32 × (Nat → Bool) × (Nat → Int32) × (Nat → Int32) × (Nat → Int32) × Bool × Int32 × Bool × Bool × Bool :=
  if go = true then
    if ho (tN so) = true then
      if (ro (60 * tN so + 56)) = 1 then
        (1, (va_up os (tN so) true, upd ob (tN so) (ro (60 * tN so + 57)), upd od (tN so) (ro (60 * tN so + 58)), upd on (tN so) (nu + 1), false, nu + 1, false, false, false))
      else
        (1, (os, ob, od, on, false, nu + 1, false, false, false))
    else
      (1, (os, ob, od, on, false, nu, false, false, false))
  else
    (0, (os, ob, od, on, st, nu, go, tp, rd))
set_option maxHeartbeats 4000000 in
set_option maxRecDepth 100000 in
theorem c_M_abort (l : Launch) (D : va_G) (cT : Nat → ClassId) (ad : Nat → Nat) (im : Nat → Int32) (me : Nat → Int32) (ro : Nat → Int32) (up : Nat → Bool) (ho : Nat → Bool) (di : Nat → Int32) (os : Nat → Bool) (ob : Nat → Int32) (od : Nat → Int32) (on : Nat → Int32) (pg : Nat → Int32) (tm : Nat → Int32) (ts : Nat → Int32) (tr : Nat → Int32) (ki : Nat → Int32) (mo : Nat → Int32) (po : Nat → Int32) (sr : Nat → Int32) (ld : Nat → Int32) (st : Bool) (ow : Int32) (nu : Int32) (go : Bool) (la : Int32) (so : Int32) (se : Int32) (sl : Int32) (sp : Int32) (tp : Bool) (rd : Bool) (pn : Int32) (nso : isN so 2) : Cti l y_M_abort ws_M_abort { frames := 1, cells := 0, slots := 0, locals := 21 } D vwCl (TYS cT) [.ref (ad 0)] (MW ad cT im me ro up ho di os ob od on pg tm ts tr ki mo po sr ld st ow nu go la so se sl sp tp rd pn) (fun (rr : Int32) (uu : (Nat → Bool) × (Nat → Int32) × (Nat → Int32) × (Nat → Int32) × Bool × Int32 × Bool × Bool × Bool) => F_M_abort ro ho os ob od on st nu go so tp rd = (rr, uu)) (fun (u : (Nat → Bool) × (Nat → Int32) × (Nat → Int32) × (Nat → Int32) × Bool × Int32 × Bool × Bool × Bool) => MW ad cT im me ro up ho di u.1 u.2.1 u.2.2.1 u.2.2.2.1 pg tm ts tr ki mo po sr ld u.2.2.2.2.1 ow u.2.2.2.2.2.1 u.2.2.2.2.2.2.1 la so se sl sp u.2.2.2.2.2.2.2.1 u.2.2.2.2.2.2.2.2 pn) 0 0 := by
  refine x_inz (cc := b_M_abort) (maxL := 2) (by decide) rfl (Nat.le_of_ble_eq_true rfl) ?_
  intro p e s m args below meth c A ls Q F hl hw ret
  have hl : lv_has ls 2 [(0, .ref (ad 0))] := hl
  have nsob := nso.2
  refine lv_aload_n (pc := 0) F.1 F.2.1 d_M_abort_0 rfl (lv_at hl 0 rfl) ?_
  refine x_get (pc := 1) (v := .int (bI go)) F hw 0 13 (fun x h => List.mem_cons_of_mem _ (in_M x h)) rfl rfl (by decide) (List.mem_cons_of_mem _ m_536) rfl d_M_abort_1 ?_
  refine x_ifneB (pc := 4) (tgt := 9) F d_M_abort_4 rfl (fun h1 => ?_) (fun h1 => ?_)
  · refine lv_aload_n (pc := 9) F.1 F.2.1 d_M_abort_9 rfl (lv_at hl 0 rfl) ?_
    refine x_get (pc := 10) (v := .int so) F hw 0 15 (fun x h => List.mem_cons_of_mem _ (in_M x h)) rfl rfl (by decide) (List.mem_cons_of_mem _ m_538) rfl d_M_abort_10 ?_
    refine x_top (y := nI (tN so)) nso.1 ?_
    refine lv_istore_n (pc := 13) (lv' := [(1, .int (nI (tN so))), (0, .ref (ad 0))]) F.1 F.2.1 d_M_abort_13 rfl hl (by decide) rfl (fun ls hl => ?_)
    refine lv_aload_n (pc := 14) F.1 F.2.1 d_M_abort_14 rfl (lv_at hl 1 rfl) ?_
    refine x_callv (pc := 15) (wr := []) hw [0, 1, 2, 3, 4, 5, 6, 7, 8, 9, 10, 11, 12, 13, 14, 15, 16, 17, 18, 19] [] rfl rfl (by decide) (by decide) (va_runV (As := []) (rest := []) F (c_M_end l D cT ad im me ro up ho di os ob od on pg tm ts tr ki mo po sr ld st ow nu go la so se sl sp tp rd pn  _) (x_cw (C := "MovingGuestModel") 0 F (g_all y_M_end b_M_end 1 none (List.mem_cons_of_mem _ m_706)) rfl rfl rfl (F.2.2.2.2 _ (List.mem_cons_of_mem _ m_40)) (F.2.2.2.2 _ (List.mem_cons_of_mem _ m_704)) (F.2.2.2.2 _ (List.mem_cons_of_mem _ m_705)) (F.2.2.2.2 _ (List.mem_cons_of_mem _ m_33)) (by decide +kernel) ⟨by decide, by decide⟩) (hw.preV (q0 := 0) [0, 1, 2, 3, 4, 5, 6, 7, 8, 9, 10, 11, 12, 13, 14, 15, 16, 17, 18, 19] (by decide) rfl rfl rfl) rfl rfl hl.1 rfl (lv_room (Nat.le_of_ble_eq_true rfl)) d_M_abort_15 ⟨by decide, by decide⟩) (fun u7 H locs e2 hw => ?_)
    obtain ⟨stv3, gov4, tpv5, rdv6⟩ := u7
    have hw : Hw D vwCl (TYS cT) A s (MW ad cT im me ro up ho di os ob od on pg tm ts tr ki mo po sr ld stv3 ow nu gov4 la so se sl sp tpv5 rdv6 pn) H locs := hw
    cases (show (false, false, false, false) = (stv3, gov4, tpv5, rdv6) from e2)
    refine lv_aload_n (pc := 18) F.1 F.2.1 d_M_abort_18 rfl (lv_at hl 1 rfl) ?_
    refine x_get (pc := 19) (v := .ref (ad 5)) F hw 0 4 (fun x h => List.mem_cons_of_mem _ (in_M x h)) rfl rfl (by decide) (List.mem_cons_of_mem _ m_527) rfl d_M_abort_19 ?_
    refine lv_iload_n (pc := 22) F.1 F.2.1 d_M_abort_22 rfl (lv_at hl 0 rfl) ?_
    refine x_zaldB (pc := 23) F hw 5 1 (tN so) rfl rfl rfl (by omega) (by decide) d_M_abort_23 ?_
    refine x_ifeqB (pc := 24) (tgt := 58) F d_M_abort_24 rfl (fun h8 => ?_) (fun h8 => ?_)
    · refine lv_iconst (pc := 58) (v := 1) F.1 F.2.1 d_M_abort_58 (by decide) ?_
      refine W.widen (k := 0) (n := 0) (by decide) (by decide) ?_
      exact ret 1 (os, ob, od, on, false, nu, false, false, false) _ _ 59 _ rfl (by unfold F_M_abort <;> rw [if_pos h1] <;> rw [if_neg h8] <;> rfl) hw d_M_abort_59
    · refine lv_aload_n (pc := 27) F.1 F.2.1 d_M_abort_27 rfl (lv_at hl 1 rfl) ?_
      refine lv_dup (pc := 28) F.1 F.2.1 d_M_abort_28 rfl ?_
      refine x_get (pc := 29) (v := .int nu) F hw 0 8 (fun x h => List.mem_cons_of_mem _ (in_M x h)) rfl rfl (by decide) (List.mem_cons_of_mem _ m_531) rfl d_M_abort_29 ?_
      refine lv_iconst (pc := 32) (v := 1) F.1 F.2.1 d_M_abort_32 (by decide) ?_
      refine lv_iadd (pc := 33) F.1 F.2.1 d_M_abort_33 ?_
      refine x_put (pc := 34) (v := .int (nu + 1)) (ty := .int) (ws' := MW ad cT im me ro up ho di os ob od on pg tm ts tr ki mo po sr ld false ow (nu + 1) false la so se sl sp false false pn) F hw 0 8 (fun x h => List.mem_cons_of_mem _ (in_M x h)) ty_M tyok_M nm_M rfl rfl (by decide) (List.mem_cons_of_mem _ m_531) rfl (by decide +kernel) rfl rfl (Nat.le_of_ble_eq_true rfl) d_M_abort_34 rfl (fun H locs hw => ?_)
      refine lv_aload_n (pc := 37) F.1 F.2.1 d_M_abort_37 rfl (lv_at hl 1 rfl) ?_
      refine x_get (pc := 38) (v := .ref (ad 3)) F hw 0 2 (fun x h => List.mem_cons_of_mem _ (in_M x h)) rfl rfl (by decide) (List.mem_cons_of_mem _ m_525) rfl d_M_abort_38 ?_
      refine lv_bipush (pc := 41) (v := 60) F.1 F.2.1 d_M_abort_41 (by decide) ?_
      refine lv_iload_n (pc := 43) F.1 F.2.1 d_M_abort_43 rfl (lv_at hl 0 rfl) ?_
      refine lv_imul (pc := 44) F.1 F.2.1 d_M_abort_44 ?_
      refine x_top (y := nI (60 * tN so)) (x_mul2 rfl rfl) ?_
      refine lv_bipush (pc := 45) (v := 56) F.1 F.2.1 d_M_abort_45 (by decide) ?_
      refine lv_iadd (pc := 47) F.1 F.2.1 d_M_abort_47 ?_
      refine x_top (y := nI (60 * tN so + 56)) (x_add2 rfl rfl) ?_
      refine x_iald (pc := 48) F hw 3 0 (60 * tN so + 56) rfl rfl rfl (by omega) (by decide) d_M_abort_48 ?_
      refine lv_iconst (pc := 49) (v := 1) F.1 F.2.1 d_M_abort_49 (by decide) ?_
      refine lv_icmp_ne (pc := 50) (tgt := 58) F.1 F.2.1 d_M_abort_50 rfl (fun h9 => ?_) (fun h9 => ?_)
      · refine lv_iconst (pc := 58) (v := 1) F.1 F.2.1 d_M_abort_58 (by decide) ?_
        refine W.widen (k := 0) (n := 0) (by decide) (by decide) ?_
        exact ret 1 (os, ob, od, on, false, nu + 1, false, false, false) _ _ 59 _ rfl (by unfold F_M_abort <;> rw [if_pos h1] <;> rw [if_pos h8] <;> rw [if_neg h9] <;> rfl) hw d_M_abort_59
      · refine lv_aload_n (pc := 53) F.1 F.2.1 d_M_abort_53 rfl (lv_at hl 1 rfl) ?_
        refine lv_iload_n (pc := 54) F.1 F.2.1 d_M_abort_54 rfl (lv_at hl 0 rfl) ?_
        refine x_callv (pc := 55) (wr := []) hw [0, 1, 2, 3, 4, 5, 6, 7, 8, 9, 10, 11, 12, 13, 14, 15, 16, 17, 18, 19] [] rfl rfl (by decide) (by decide) (va_runV (As := [.int (nI (tN so))]) (rest := []) F (c_M_order l D cT ad im me ro up ho di os ob od on pg tm ts tr ki mo po sr ld false ow (nu + 1) false la so se sl sp false false pn (tN so) (by omega) _) (x_cw (C := "MovingGuestModel") 1 F (g_all y_M_order b_M_order 2 none (List.mem_cons_of_mem _ m_647)) rfl rfl rfl (F.2.2.2.2 _ (List.mem_cons_of_mem _ m_40)) (F.2.2.2.2 _ (List.mem_cons_of_mem _ m_645)) (F.2.2.2.2 _ (List.mem_cons_of_mem _ m_646)) (F.2.2.2.2 _ (List.mem_cons_of_mem _ m_20)) (by decide +kernel) ⟨by decide, by decide⟩) (hw.preV (q0 := 0) [0, 1, 2, 3, 4, 5, 6, 7, 8, 9, 10, 11, 12, 13, 14, 15, 16, 17, 18, 19] (by decide) rfl rfl rfl) rfl rfl hl.1 rfl (lv_room (Nat.le_of_ble_eq_true rfl)) d_M_abort_55 ⟨by decide, by decide⟩) (fun u15 H locs e10 hw => ?_)
        obtain ⟨osv11, obv12, odv13, onv14⟩ := u15
        have hw : Hw D vwCl (TYS cT) A s (MW ad cT im me ro up ho di osv11 obv12 odv13 onv14 pg tm ts tr ki mo po sr ld false ow (nu + 1) false la so se sl sp false false pn) H locs := hw
        cases (show (va_up os (tN so) true, upd ob (tN so) (ro (60 * tN so + 57)), upd od (tN so) (ro (60 * tN so + 58)), upd on (tN so) (nu + 1)) = (osv11, obv12, odv13, onv14) from e10)
        refine lv_iconst (pc := 58) (v := 1) F.1 F.2.1 d_M_abort_58 (by decide) ?_
        refine W.widen (k := 0) (n := 0) (by decide) (by decide) ?_
        exact ret 1 (va_up os (tN so) true, upd ob (tN so) (ro (60 * tN so + 57)), upd od (tN so) (ro (60 * tN so + 58)), upd on (tN so) (nu + 1), false, nu + 1, false, false, false) _ _ 59 _ rfl (by unfold F_M_abort <;> rw [if_pos h1] <;> rw [if_pos h8] <;> rw [if_pos h9] <;> rfl) hw d_M_abort_59
  · refine lv_iconst (pc := 7) (v := 0) F.1 F.2.1 d_M_abort_7 (by decide) ?_
    refine W.widen (k := 0) (n := 0) (by decide) (by decide) ?_
    exact ret 0 (os, ob, od, on, st, nu, go, tp, rd) _ _ 8 _ rfl (by unfold F_M_abort <;> rw [if_neg h1] <;> rfl) hw d_M_abort_8
def F_M_crash (up : Nat → Bool) (ho : Nat → Bool) (os : Nat → Bool) (st : Bool) (go : Bool) (so : Int32) (tp : Bool) (rd : Bool) (host : Int32) : Int32 × (Nat → Bool) × (Nat → Bool) × (Nat → Bool) × Bool × Bool × Bool × Bool :=
  match F_M_isHost host with
  | (r2, _) =>
    if r2 = 0 then
      (0, (up, ho, os, st, go, tp, rd))
    else
      if up (tN host) = true then
        if go = true then
          if (nI (tN host)) = (nI (tN so)) then
            if (va_up ho (tN host) false) (tN so) = true then
              (1, (va_up up (tN host) false, va_up ho (tN host) false, va_up os (tN host) false, st, go, tp, rd))
            else
              if rd = true then
                (1, (va_up up (tN host) false, va_up ho (tN host) false, va_up os (tN host) false, st, go, tp, rd))
              else
                (1, (va_up up (tN host) false, va_up ho (tN host) false, va_up os (tN host) false, false, false, false, false))
          else
            if (va_up ho (tN host) false) (tN so) = true then
              (1, (va_up up (tN host) false, va_up ho (tN host) false, va_up os (tN host) false, st, go, false, false))
            else
              if false = true then
                (1, (va_up up (tN host) false, va_up ho (tN host) false, va_up os (tN host) false, st, go, false, false))
              else
                (1, (va_up up (tN host) false, va_up ho (tN host) false, va_up os (tN host) false, false, false, false, false))
        else
          (1, (va_up up (tN host) false, va_up ho (tN host) false, va_up os (tN host) false, st, go, tp, rd))
      else
        (0, (up, ho, os, st, go, tp, rd))
set_option maxHeartbeats 4000000 in
set_option maxRecDepth 100000 in
theorem c_M_crash (l : Launch) (D : va_G) (cT : Nat → ClassId) (ad : Nat → Nat) (im : Nat → Int32) (me : Nat → Int32) (ro : Nat → Int32) (up : Nat → Bool) (ho : Nat → Bool) (di : Nat → Int32) (os : Nat → Bool) (ob : Nat → Int32) (od : Nat → Int32) (on : Nat → Int32) (pg : Nat → Int32) (tm : Nat → Int32) (ts : Nat → Int32) (tr : Nat → Int32) (ki : Nat → Int32) (mo : Nat → Int32) (po : Nat → Int32) (sr : Nat → Int32) (ld : Nat → Int32) (st : Bool) (ow : Int32) (nu : Int32) (go : Bool) (la : Int32) (so : Int32) (se : Int32) (sl : Int32) (sp : Int32) (tp : Bool) (rd : Bool) (pn : Int32) (host : Int32) (nso : isN so 2) : Cti l y_M_crash ws_M_crash { frames := 1, cells := 0, slots := 0, locals := 20 } D vwCl (TYS cT) [.ref (ad 0), .int host] (MW ad cT im me ro up ho di os ob od on pg tm ts tr ki mo po sr ld st ow nu go la so se sl sp tp rd pn) (fun (rr : Int32) (uu : (Nat → Bool) × (Nat → Bool) × (Nat → Bool) × Bool × Bool × Bool × Bool) => F_M_crash up ho os st go so tp rd host = (rr, uu)) (fun (u : (Nat → Bool) × (Nat → Bool) × (Nat → Bool) × Bool × Bool × Bool × Bool) => MW ad cT im me ro u.1 u.2.1 di u.2.2.1 ob od on pg tm ts tr ki mo po sr ld u.2.2.2.1 ow nu u.2.2.2.2.1 la so se sl sp u.2.2.2.2.2.1 u.2.2.2.2.2.2 pn) 0 0 := by
  refine x_inz (cc := b_M_crash) (maxL := 2) (by decide) rfl (Nat.le_of_ble_eq_true rfl) ?_
  intro p e s m args below meth c A ls Q F hl hw ret
  have hl : lv_has ls 2 [(0, .ref (ad 0)), (1, .int host)] := hl
  have nsob := nso.2
  refine lv_iload_n (pc := 0) F.1 F.2.1 d_M_crash_0 rfl (lv_at hl 1 rfl) ?_
  refine x_calli (pc := 1) (wr := [(ad 0, .inr (6, [.ref (ad 1), .ref (ad 2), .ref (ad 3), .ref (ad 4), .ref (ad 5), .int (bI st), .ref (ad 6), .int ow, .int nu, .ref (ad 7), .ref (ad 8), .ref (ad 9), .ref (ad 10), .int (bI go), .int la, .int so, .ref (ad 11), .int se, .int sl, .int sp, .int (bI tp), .int (bI rd), .ref (ad 12), .ref (ad 13), .ref (ad 14), .int pn, .ref (ad 15), .ref (ad 16), .ref (ad 17), .ref (ad 18), .ref (ad 19)])), (ad 1, .inl (cT 0, 64, .inl im)), (ad 2, .inl (cT 0, 128, .inl me)), (ad 3, .inl (cT 0, 120, .inl ro)), (ad 4, .inl (cT 1, 2, .inl (fun j => bI (up j)))), (ad 5, .inl (cT 1, 2, .inl (fun j => bI (ho j)))), (ad 6, .inl (cT 0, 8, .inl di)), (ad 7, .inl (cT 1, 2, .inl (fun j => bI (os j)))), (ad 8, .inl (cT 0, 2, .inl ob)), (ad 9, .inl (cT 0, 2, .inl od)), (ad 10, .inl (cT 0, 2, .inl on)), (ad 11, .inl (cT 0, 8, .inl pg)), (ad 12, .inl (cT 0, 64, .inl tm)), (ad 13, .inl (cT 0, 8, .inl ts)), (ad 14, .inl (cT 0, 60, .inl tr)), (ad 15, .inl (cT 0, 9, .inl ki)), (ad 16, .inl (cT 0, 9, .inl mo)), (ad 17, .inl (cT 0, 9, .inl po)), (ad 18, .inl (cT 0, 9, .inl sr)), (ad 19, .inl (cT 0, 540, .inl ld))]) hw [] [0, 1, 2, 3, 4, 5, 6, 7, 8, 9, 10, 11, 12, 13, 14, 15, 16, 17, 18, 19] rfl rfl (by decide) (by decide) (va_runS (As := [.int host]) (rest := []) F (c_M_isHost l D cT host  _) (x_cwS 1 F (g_all y_M_isHost b_M_isHost 1 (some .boolean) (List.mem_cons_of_mem _ m_628)) rfl rfl rfl (F.2.2.2.2 _ (List.mem_cons_of_mem _ m_40)) (F.2.2.2.2 _ (List.mem_cons_of_mem _ m_626)) (F.2.2.2.2 _ (List.mem_cons_of_mem _ m_627)) (by decide +kernel) ⟨by decide, by decide⟩) (hw.preS [] (by decide) rfl) rfl rfl hl.1 rfl (lv_room (Nat.le_of_ble_eq_true rfl)) d_M_crash_1 ⟨by decide, by decide⟩) (fun r2 u3 H locs e1 hw => ?_)
  have hw : Hw D vwCl (TYS cT) A s (MW ad cT im me ro up ho di os ob od on pg tm ts tr ki mo po sr ld st ow nu go la so se sl sp tp rd pn) H locs := hw
  refine lv_if_eq (pc := 4) (tgt := 16) F.1 F.2.1 d_M_crash_4 rfl (fun h4 => ?_) (fun h4 => ?_)
  · refine lv_iconst (pc := 16) (v := 0) F.1 F.2.1 d_M_crash_16 (by decide) ?_
    refine W.widen (k := 0) (n := 0) (by decide) (by decide) ?_
    exact ret 0 (up, ho, os, st, go, tp, rd) _ _ 17 _ rfl (by unfold F_M_crash <;> rw [e1] <;> (try dsimp only) <;> rw [if_pos h4] <;> rfl) hw d_M_crash_17
  · have nh := isHost_nat e1 h4
    have nhb := nh.2
    refine lv_aload_n (pc := 7) F.1 F.2.1 d_M_crash_7 rfl (lv_at hl 0 rfl) ?_
    refine x_get (pc := 8) (v := .ref (ad 4)) F hw 0 3 (fun x h => List.mem_cons_of_mem _ (in_M x h)) rfl rfl (by decide) (List.mem_cons_of_mem _ m_526) rfl d_M_crash_8 ?_
    refine lv_iload_n (pc := 11) F.1 F.2.1 d_M_crash_11 rfl (lv_at hl 1 rfl) ?_
    refine x_top (y := nI (tN host)) nh.1 ?_
    refine x_zaldB (pc := 12) F hw 4 1 (tN host) rfl rfl rfl (by omega) (by decide) d_M_crash_12 ?_
    refine x_ifneB (pc := 13) (tgt := 18) F d_M_crash_13 rfl (fun h5 => ?_) (fun h5 => ?_)
    · refine lv_aload_n (pc := 18) F.1 F.2.1 d_M_crash_18 rfl (lv_at hl 0 rfl) ?_
      refine x_get (pc := 19) (v := .ref (ad 4)) F hw 0 3 (fun x h => List.mem_cons_of_mem _ (in_M x h)) rfl rfl (by decide) (List.mem_cons_of_mem _ m_526) rfl d_M_crash_19 ?_
      refine lv_iload_n (pc := 22) F.1 F.2.1 d_M_crash_22 rfl (lv_at hl 1 rfl) ?_
      refine x_top (y := nI (tN host)) nh.1 ?_
      refine lv_iconst (pc := 23) (v := 0) F.1 F.2.1 d_M_crash_23 (by decide) ?_
      refine x_zastB (pc := 24) (b := false) (ws' := MW ad cT im me ro (va_up up (tN host) false) ho di os ob od on pg tm ts tr ki mo po sr ld st ow nu go la so se sl sp tp rd pn) F hw 4 1 (tN host) rfl rfl rfl (by omega) (by decide) d_M_crash_24 rfl (fun H locs hw => ?_)
      refine lv_aload_n (pc := 25) F.1 F.2.1 d_M_crash_25 rfl (lv_at hl 0 rfl) ?_
      refine x_get (pc := 26) (v := .ref (ad 5)) F hw 0 4 (fun x h => List.mem_cons_of_mem _ (in_M x h)) rfl rfl (by decide) (List.mem_cons_of_mem _ m_527) rfl d_M_crash_26 ?_
      refine lv_iload_n (pc := 29) F.1 F.2.1 d_M_crash_29 rfl (lv_at hl 1 rfl) ?_
      refine x_top (y := nI (tN host)) nh.1 ?_
      refine lv_iconst (pc := 30) (v := 0) F.1 F.2.1 d_M_crash_30 (by decide) ?_
      refine x_zastB (pc := 31) (b := false) (ws' := MW ad cT im me ro (va_up up (tN host) false) (va_up ho (tN host) false) di os ob od on pg tm ts tr ki mo po sr ld st ow nu go la so se sl sp tp rd pn) F hw 5 1 (tN host) rfl rfl rfl (by omega) (by decide) d_M_crash_31 rfl (fun H locs hw => ?_)
      refine lv_aload_n (pc := 32) F.1 F.2.1 d_M_crash_32 rfl (lv_at hl 0 rfl) ?_
      refine x_get (pc := 33) (v := .ref (ad 7)) F hw 0 9 (fun x h => List.mem_cons_of_mem _ (in_M x h)) rfl rfl (by decide) (List.mem_cons_of_mem _ m_532) rfl d_M_crash_33 ?_
      refine lv_iload_n (pc := 36) F.1 F.2.1 d_M_crash_36 rfl (lv_at hl 1 rfl) ?_
      refine x_top (y := nI (tN host)) nh.1 ?_
      refine lv_iconst (pc := 37) (v := 0) F.1 F.2.1 d_M_crash_37 (by decide) ?_
      refine x_zastB (pc := 38) (b := false) (ws' := MW ad cT im me ro (va_up up (tN host) false) (va_up ho (tN host) false) di (va_up os (tN host) false) ob od on pg tm ts tr ki mo po sr ld st ow nu go la so se sl sp tp rd pn) F hw 7 1 (tN host) rfl rfl rfl (by omega) (by decide) d_M_crash_38 rfl (fun H locs hw => ?_)
      refine lv_aload_n (pc := 39) F.1 F.2.1 d_M_crash_39 rfl (lv_at hl 0 rfl) ?_
      refine x_get (pc := 40) (v := .int (bI go)) F hw 0 13 (fun x h => List.mem_cons_of_mem _ (in_M x h)) rfl rfl (by decide) (List.mem_cons_of_mem _ m_536) rfl d_M_crash_40 ?_
      refine x_ifeqB (pc := 43) (tgt := 64) F d_M_crash_43 rfl (fun h6 => ?_) (fun h6 => ?_)
      · refine lv_aload_n (pc := 64) F.1 F.2.1 d_M_crash_64 rfl (lv_at hl 0 rfl) ?_
        refine x_get (pc := 65) (v := .int (bI go)) F hw 0 13 (fun x h => List.mem_cons_of_mem _ (in_M x h)) rfl rfl (by decide) (List.mem_cons_of_mem _ m_536) rfl d_M_crash_65 ?_
        refine x_ifeqB (pc := 68) (tgt := 94) F d_M_crash_68 rfl (fun h7 => ?_) (fun h7 => ?_)
        · refine lv_iconst (pc := 94) (v := 1) F.1 F.2.1 d_M_crash_94 (by decide) ?_
          refine W.widen (k := 0) (n := 0) (by decide) (by decide) ?_
          exact ret 1 (va_up up (tN host) false, va_up ho (tN host) false, va_up os (tN host) false, st, go, tp, rd) _ _ 95 _ rfl (by unfold F_M_crash <;> rw [e1] <;> (try dsimp only) <;> rw [if_neg h4] <;> rw [if_pos h5] <;> rw [if_neg h6] <;> rfl) hw d_M_crash_95
        · exact absurd h7 h6
      · refine lv_iload_n (pc := 46) F.1 F.2.1 d_M_crash_46 rfl (lv_at hl 1 rfl) ?_
        refine x_top (y := nI (tN host)) nh.1 ?_
        refine lv_aload_n (pc := 47) F.1 F.2.1 d_M_crash_47 rfl (lv_at hl 0 rfl) ?_
        refine x_get (pc := 48) (v := .int so) F hw 0 15 (fun x h => List.mem_cons_of_mem _ (in_M x h)) rfl rfl (by decide) (List.mem_cons_of_mem _ m_538) rfl d_M_crash_48 ?_
        refine x_top (y := nI (tN so)) nso.1 ?_
        refine lv_icmp_eq (pc := 51) (tgt := 64) F.1 F.2.1 d_M_crash_51 rfl (fun h8 => ?_) (fun h8 => ?_)
        · refine lv_aload_n (pc := 64) F.1 F.2.1 d_M_crash_64 rfl (lv_at hl 0 rfl) ?_
          refine x_get (pc := 65) (v := .int (bI go)) F hw 0 13 (fun x h => List.mem_cons_of_mem _ (in_M x h)) rfl rfl (by decide) (List.mem_cons_of_mem _ m_536) rfl d_M_crash_65 ?_
          refine x_ifeqB (pc := 68) (tgt := 94) F d_M_crash_68 rfl (fun h9 => ?_) (fun h9 => ?_)
          · exact absurd h6 h9
          · refine lv_aload_n (pc := 71) F.1 F.2.1 d_M_crash_71 rfl (lv_at hl 0 rfl) ?_
            refine x_get (pc := 72) (v := .ref (ad 5)) F hw 0 4 (fun x h => List.mem_cons_of_mem _ (in_M x h)) rfl rfl (by decide) (List.mem_cons_of_mem _ m_527) rfl d_M_crash_72 ?_
            refine lv_aload_n (pc := 75) F.1 F.2.1 d_M_crash_75 rfl (lv_at hl 0 rfl) ?_
            refine x_get (pc := 76) (v := .int so) F hw 0 15 (fun x h => List.mem_cons_of_mem _ (in_M x h)) rfl rfl (by decide) (List.mem_cons_of_mem _ m_538) rfl d_M_crash_76 ?_
            refine x_top (y := nI (tN so)) nso.1 ?_
            refine x_zaldB (pc := 79) F hw 5 1 (tN so) rfl rfl rfl (by omega) (by decide) d_M_crash_79 ?_
            refine x_ifneB (pc := 80) (tgt := 94) F d_M_crash_80 rfl (fun h10 => ?_) (fun h10 => ?_)
            · refine lv_iconst (pc := 94) (v := 1) F.1 F.2.1 d_M_crash_94 (by decide) ?_
              refine W.widen (k := 0) (n := 0) (by decide) (by decide) ?_
              exact ret 1 (va_up up (tN host) false, va_up ho (tN host) false, va_up os (tN host) false, st, go, tp, rd) _ _ 95 _ rfl (by unfold F_M_crash <;> rw [e1] <;> (try dsimp only) <;> rw [if_neg h4] <;> rw [if_pos h5] <;> rw [if_pos h6] <;> rw [if_pos h8] <;> rw [if_pos h10] <;> rfl) hw d_M_crash_95
            · refine lv_aload_n (pc := 83) F.1 F.2.1 d_M_crash_83 rfl (lv_at hl 0 rfl) ?_
              refine x_get (pc := 84) (v := .int (bI rd)) F hw 0 21 (fun x h => List.mem_cons_of_mem _ (in_M x h)) rfl rfl (by decide) (List.mem_cons_of_mem _ m_544) rfl d_M_crash_84 ?_
              refine x_ifneB (pc := 87) (tgt := 94) F d_M_crash_87 rfl (fun h11 => ?_) (fun h11 => ?_)
              · refine lv_iconst (pc := 94) (v := 1) F.1 F.2.1 d_M_crash_94 (by decide) ?_
                refine W.widen (k := 0) (n := 0) (by decide) (by decide) ?_
                exact ret 1 (va_up up (tN host) false, va_up ho (tN host) false, va_up os (tN host) false, st, go, tp, rd) _ _ 95 _ rfl (by unfold F_M_crash <;> rw [e1] <;> (try dsimp only) <;> rw [if_neg h4] <;> rw [if_pos h5] <;> rw [if_pos h6] <;> rw [if_pos h8] <;> rw [if_neg h10] <;> rw [if_pos h11] <;> rfl) hw d_M_crash_95
              · refine lv_aload_n (pc := 90) F.1 F.2.1 d_M_crash_90 rfl (lv_at hl 0 rfl) ?_
                refine x_callv (pc := 91) (wr := []) hw [0, 1, 2, 3, 4, 5, 6, 7, 8, 9, 10, 11, 12, 13, 14, 15, 16, 17, 18, 19] [] rfl rfl (by decide) (by decide) (va_runV (As := []) (rest := []) F (c_M_end l D cT ad im me ro (va_up up (tN host) false) (va_up ho (tN host) false) di (va_up os (tN host) false) ob od on pg tm ts tr ki mo po sr ld st ow nu go la so se sl sp tp rd pn  _) (x_cw (C := "MovingGuestModel") 0 F (g_all y_M_end b_M_end 1 none (List.mem_cons_of_mem _ m_706)) rfl rfl rfl (F.2.2.2.2 _ (List.mem_cons_of_mem _ m_40)) (F.2.2.2.2 _ (List.mem_cons_of_mem _ m_704)) (F.2.2.2.2 _ (List.mem_cons_of_mem _ m_705)) (F.2.2.2.2 _ (List.mem_cons_of_mem _ m_33)) (by decide +kernel) ⟨by decide, by decide⟩) (hw.preV (q0 := 0) [0, 1, 2, 3, 4, 5, 6, 7, 8, 9, 10, 11, 12, 13, 14, 15, 16, 17, 18, 19] (by decide) rfl rfl rfl) rfl rfl hl.1 rfl (lv_room (Nat.le_of_ble_eq_true rfl)) d_M_crash_91 ⟨by decide, by decide⟩) (fun u17 H locs e12 hw => ?_)
                obtain ⟨stv13, gov14, tpv15, rdv16⟩ := u17
                have hw : Hw D vwCl (TYS cT) A s (MW ad cT im me ro (va_up up (tN host) false) (va_up ho (tN host) false) di (va_up os (tN host) false) ob od on pg tm ts tr ki mo po sr ld stv13 ow nu gov14 la so se sl sp tpv15 rdv16 pn) H locs := hw
                cases (show (false, false, false, false) = (stv13, gov14, tpv15, rdv16) from e12)
                refine lv_iconst (pc := 94) (v := 1) F.1 F.2.1 d_M_crash_94 (by decide) ?_
                refine W.widen (k := 0) (n := 0) (by decide) (by decide) ?_
                exact ret 1 (va_up up (tN host) false, va_up ho (tN host) false, va_up os (tN host) false, false, false, false, false) _ _ 95 _ rfl (by unfold F_M_crash <;> rw [e1] <;> (try dsimp only) <;> rw [if_neg h4] <;> rw [if_pos h5] <;> rw [if_pos h6] <;> rw [if_pos h8] <;> rw [if_neg h10] <;> rw [if_neg h11] <;> rfl) hw d_M_crash_95
        · refine lv_aload_n (pc := 54) F.1 F.2.1 d_M_crash_54 rfl (lv_at hl 0 rfl) ?_
          refine lv_iconst (pc := 55) (v := 0) F.1 F.2.1 d_M_crash_55 (by decide) ?_
          refine x_put (pc := 56) (v := .int (bI false)) (ty := .boolean) (ws' := MW ad cT im me ro (va_up up (tN host) false) (va_up ho (tN host) false) di (va_up os (tN host) false) ob od on pg tm ts tr ki mo po sr ld st ow nu go la so se sl sp false rd pn) F hw 0 20 (fun x h => List.mem_cons_of_mem _ (in_M x h)) ty_M tyok_M nm_M rfl rfl (by decide) (List.mem_cons_of_mem _ m_543) rfl (by decide +kernel) (bI_nar false) (bI_fit false) (Nat.le_of_ble_eq_true rfl) d_M_crash_56 rfl (fun H locs hw => ?_)
          refine lv_aload_n (pc := 59) F.1 F.2.1 d_M_crash_59 rfl (lv_at hl 0 rfl) ?_
          refine lv_iconst (pc := 60) (v := 0) F.1 F.2.1 d_M_crash_60 (by decide) ?_
          refine x_put (pc := 61) (v := .int (bI false)) (ty := .boolean) (ws' := MW ad cT im me ro (va_up up (tN host) false) (va_up ho (tN host) false) di (va_up os (tN host) false) ob od on pg tm ts tr ki mo po sr ld st ow nu go la so se sl sp false false pn) F hw 0 21 (fun x h => List.mem_cons_of_mem _ (in_M x h)) ty_M tyok_M nm_M rfl rfl (by decide) (List.mem_cons_of_mem _ m_544) rfl (by decide +kernel) (bI_nar false) (bI_fit false) (Nat.le_of_ble_eq_true rfl) d_M_crash_61 rfl (fun H locs hw => ?_)
          refine lv_aload_n (pc := 64) F.1 F.2.1 d_M_crash_64 rfl (lv_at hl 0 rfl) ?_
          refine x_get (pc := 65) (v := .int (bI go)) F hw 0 13 (fun x h => List.mem_cons_of_mem _ (in_M x h)) rfl rfl (by decide) (List.mem_cons_of_mem _ m_536) rfl d_M_crash_65 ?_
          refine x_ifeqB (pc := 68) (tgt := 94) F d_M_crash_68 rfl (fun h18 => ?_) (fun h18 => ?_)
          · exact absurd h6 h18
          · refine lv_aload_n (pc := 71) F.1 F.2.1 d_M_crash_71 rfl (lv_at hl 0 rfl) ?_
            refine x_get (pc := 72) (v := .ref (ad 5)) F hw 0 4 (fun x h => List.mem_cons_of_mem _ (in_M x h)) rfl rfl (by decide) (List.mem_cons_of_mem _ m_527) rfl d_M_crash_72 ?_
            refine lv_aload_n (pc := 75) F.1 F.2.1 d_M_crash_75 rfl (lv_at hl 0 rfl) ?_
            refine x_get (pc := 76) (v := .int so) F hw 0 15 (fun x h => List.mem_cons_of_mem _ (in_M x h)) rfl rfl (by decide) (List.mem_cons_of_mem _ m_538) rfl d_M_crash_76 ?_
            refine x_top (y := nI (tN so)) nso.1 ?_
            refine x_zaldB (pc := 79) F hw 5 1 (tN so) rfl rfl rfl (by omega) (by decide) d_M_crash_79 ?_
            refine x_ifneB (pc := 80) (tgt := 94) F d_M_crash_80 rfl (fun h19 => ?_) (fun h19 => ?_)
            · refine lv_iconst (pc := 94) (v := 1) F.1 F.2.1 d_M_crash_94 (by decide) ?_
              refine W.widen (k := 0) (n := 0) (by decide) (by decide) ?_
              exact ret 1 (va_up up (tN host) false, va_up ho (tN host) false, va_up os (tN host) false, st, go, false, false) _ _ 95 _ rfl (by unfold F_M_crash <;> rw [e1] <;> (try dsimp only) <;> rw [if_neg h4] <;> rw [if_pos h5] <;> rw [if_pos h6] <;> rw [if_neg h8] <;> rw [if_pos h19] <;> rfl) hw d_M_crash_95
            · refine lv_aload_n (pc := 83) F.1 F.2.1 d_M_crash_83 rfl (lv_at hl 0 rfl) ?_
              refine x_get (pc := 84) (v := .int (bI false)) F hw 0 21 (fun x h => List.mem_cons_of_mem _ (in_M x h)) rfl rfl (by decide) (List.mem_cons_of_mem _ m_544) rfl d_M_crash_84 ?_
              refine x_ifneB (pc := 87) (tgt := 94) F d_M_crash_87 rfl (fun h20 => ?_) (fun h20 => ?_)
              · refine lv_iconst (pc := 94) (v := 1) F.1 F.2.1 d_M_crash_94 (by decide) ?_
                refine W.widen (k := 0) (n := 0) (by decide) (by decide) ?_
                exact ret 1 (va_up up (tN host) false, va_up ho (tN host) false, va_up os (tN host) false, st, go, false, false) _ _ 95 _ rfl (by unfold F_M_crash <;> rw [e1] <;> (try dsimp only) <;> rw [if_neg h4] <;> rw [if_pos h5] <;> rw [if_pos h6] <;> rw [if_neg h8] <;> rw [if_neg h19] <;> rw [if_pos h20] <;> rfl) hw d_M_crash_95
              · refine lv_aload_n (pc := 90) F.1 F.2.1 d_M_crash_90 rfl (lv_at hl 0 rfl) ?_
                refine x_callv (pc := 91) (wr := []) hw [0, 1, 2, 3, 4, 5, 6, 7, 8, 9, 10, 11, 12, 13, 14, 15, 16, 17, 18, 19] [] rfl rfl (by decide) (by decide) (va_runV (As := []) (rest := []) F (c_M_end l D cT ad im me ro (va_up up (tN host) false) (va_up ho (tN host) false) di (va_up os (tN host) false) ob od on pg tm ts tr ki mo po sr ld st ow nu go la so se sl sp false false pn  _) (x_cw (C := "MovingGuestModel") 0 F (g_all y_M_end b_M_end 1 none (List.mem_cons_of_mem _ m_706)) rfl rfl rfl (F.2.2.2.2 _ (List.mem_cons_of_mem _ m_40)) (F.2.2.2.2 _ (List.mem_cons_of_mem _ m_704)) (F.2.2.2.2 _ (List.mem_cons_of_mem _ m_705)) (F.2.2.2.2 _ (List.mem_cons_of_mem _ m_33)) (by decide +kernel) ⟨by decide, by decide⟩) (hw.preV (q0 := 0) [0, 1, 2, 3, 4, 5, 6, 7, 8, 9, 10, 11, 12, 13, 14, 15, 16, 17, 18, 19] (by decide) rfl rfl rfl) rfl rfl hl.1 rfl (lv_room (Nat.le_of_ble_eq_true rfl)) d_M_crash_91 ⟨by decide, by decide⟩) (fun u26 H locs e21 hw => ?_)
                obtain ⟨stv22, gov23, tpv24, rdv25⟩ := u26
                have hw : Hw D vwCl (TYS cT) A s (MW ad cT im me ro (va_up up (tN host) false) (va_up ho (tN host) false) di (va_up os (tN host) false) ob od on pg tm ts tr ki mo po sr ld stv22 ow nu gov23 la so se sl sp tpv24 rdv25 pn) H locs := hw
                cases (show (false, false, false, false) = (stv22, gov23, tpv24, rdv25) from e21)
                refine lv_iconst (pc := 94) (v := 1) F.1 F.2.1 d_M_crash_94 (by decide) ?_
                refine W.widen (k := 0) (n := 0) (by decide) (by decide) ?_
                exact ret 1 (va_up up (tN host) false, va_up ho (tN host) false, va_up os (tN host) false, false, false, false, false) _ _ 95 _ rfl (by unfold F_M_crash <;> rw [e1] <;> (try dsimp only) <;> rw [if_neg h4] <;> rw [if_pos h5] <;> rw [if_pos h6] <;> rw [if_neg h8] <;> rw [if_neg h19] <;> rw [if_neg h20] <;> rfl) hw d_M_crash_95
    · refine lv_iconst (pc := 16) (v := 0) F.1 F.2.1 d_M_crash_16 (by decide) ?_
      refine W.widen (k := 0) (n := 0) (by decide) (by decide) ?_
      exact ret 0 (up, ho, os, st, go, tp, rd) _ _ 17 _ rfl (by unfold F_M_crash <;> rw [e1] <;> (try dsimp only) <;> rw [if_neg h4] <;> rw [if_neg h5] <;> rfl) hw d_M_crash_17
def F_M_takeOver (me : Nat → Int32) (ro : Nat → Int32) (ho : Nat → Bool) (os : Nat → Bool) (ob : Nat → Int32) (od : Nat → Int32) (on : Nat → Int32) (tm : Nat → Int32) (tr : Nat → Int32) (st : Bool) (ow : Int32) (nu : Int32) (go : Bool) (so : Int32) (tp : Bool) (rd : Bool) : Int32 × (Nat → Int32) × (Nat → Int32) × (Nat → Bool) × (Nat → Bool) × (Nat → Int32) × (Nat → Int32) × (Nat → Int32) × Bool × Int32 × Int32 × Bool × Bool × Bool :=
  if go = true then
    if ho (tN so) = true then
      (0, (me, ro, ho, os, ob, od, on, st, ow, nu, go, tp, rd))
    else
      if rd = true then
        match F_M_handOver me ro ho os ob od on tm tr nu so with
        | (mev5, rov6, hov7, osv8, obv9, odv10, onv11, stv12, owv13, nuv14, gov15, tpv16, rdv17) =>
          (1, (mev5, rov6, hov7, osv8, obv9, odv10, onv11, stv12, owv13, nuv14, gov15, tpv16, rdv17))
      else
        (0, (me, ro, ho, os, ob, od, on, st, ow, nu, go, tp, rd))
  else
    (0, (me, ro, ho, os, ob, od, on, st, ow, nu, go, tp, rd))
set_option maxHeartbeats 4000000 in
set_option maxRecDepth 100000 in
theorem c_M_takeOver (l : Launch) (D : va_G) (cT : Nat → ClassId) (ad : Nat → Nat) (im : Nat → Int32) (me : Nat → Int32) (ro : Nat → Int32) (up : Nat → Bool) (ho : Nat → Bool) (di : Nat → Int32) (os : Nat → Bool) (ob : Nat → Int32) (od : Nat → Int32) (on : Nat → Int32) (pg : Nat → Int32) (tm : Nat → Int32) (ts : Nat → Int32) (tr : Nat → Int32) (ki : Nat → Int32) (mo : Nat → Int32) (po : Nat → Int32) (sr : Nat → Int32) (ld : Nat → Int32) (st : Bool) (ow : Int32) (nu : Int32) (go : Bool) (la : Int32) (so : Int32) (se : Int32) (sl : Int32) (sp : Int32) (tp : Bool) (rd : Bool) (pn : Int32) (nso : isN so 2) : Cti l y_M_takeOver ws_M_takeOver { frames := 2, cells := 0, slots := 0, locals := 43 } D vwCl (TYS cT) [.ref (ad 0)] (MW ad cT im me ro up ho di os ob od on pg tm ts tr ki mo po sr ld st ow nu go la so se sl sp tp rd pn) (fun (rr : Int32) (uu : (Nat → Int32) × (Nat → Int32) × (Nat → Bool) × (Nat → Bool) × (Nat → Int32) × (Nat → Int32) × (Nat → Int32) × Bool × Int32 × Int32 × Bool × Bool × Bool) => F_M_takeOver me ro ho os ob od on tm tr st ow nu go so tp rd = (rr, uu)) (fun (u : (Nat → Int32) × (Nat → Int32) × (Nat → Bool) × (Nat → Bool) × (Nat → Int32) × (Nat → Int32) × (Nat → Int32) × Bool × Int32 × Int32 × Bool × Bool × Bool) => MW ad cT im u.1 u.2.1 up u.2.2.1 di u.2.2.2.1 u.2.2.2.2.1 u.2.2.2.2.2.1 u.2.2.2.2.2.2.1 pg tm ts tr ki mo po sr ld u.2.2.2.2.2.2.2.1 u.2.2.2.2.2.2.2.2.1 u.2.2.2.2.2.2.2.2.2.1 u.2.2.2.2.2.2.2.2.2.2.1 la so se sl sp u.2.2.2.2.2.2.2.2.2.2.2.1 u.2.2.2.2.2.2.2.2.2.2.2.2 pn) 0 0 := by
  refine x_inz (cc := b_M_takeOver) (maxL := 1) (by decide) rfl (Nat.le_of_ble_eq_true rfl) ?_
  intro p e s m args below meth c A ls Q F hl hw ret
  have hl : lv_has ls 1 [(0, .ref (ad 0))] := hl
  have nsob := nso.2
  refine lv_aload_n (pc := 0) F.1 F.2.1 d_M_takeOver_0 rfl (lv_at hl 0 rfl) ?_
  refine x_get (pc := 1) (v := .int (bI go)) F hw 0 13 (fun x h => List.mem_cons_of_mem _ (in_M x h)) rfl rfl (by decide) (List.mem_cons_of_mem _ m_536) rfl d_M_takeOver_1 ?_
  refine x_ifeqB (pc := 4) (tgt := 26) F d_M_takeOver_4 rfl (fun h1 => ?_) (fun h1 => ?_)
  · refine lv_iconst (pc := 26) (v := 0) F.1 F.2.1 d_M_takeOver_26 (by decide) ?_
    refine W.widen (k := 0) (n := 0) (by decide) (by decide) ?_
    exact ret 0 (me, ro, ho, os, ob, od, on, st, ow, nu, go, tp, rd) _ _ 27 _ rfl (by unfold F_M_takeOver <;> rw [if_neg h1] <;> rfl) hw d_M_takeOver_27
  · refine lv_aload_n (pc := 7) F.1 F.2.1 d_M_takeOver_7 rfl (lv_at hl 0 rfl) ?_
    refine x_get (pc := 8) (v := .ref (ad 5)) F hw 0 4 (fun x h => List.mem_cons_of_mem _ (in_M x h)) rfl rfl (by decide) (List.mem_cons_of_mem _ m_527) rfl d_M_takeOver_8 ?_
    refine lv_aload_n (pc := 11) F.1 F.2.1 d_M_takeOver_11 rfl (lv_at hl 0 rfl) ?_
    refine x_get (pc := 12) (v := .int so) F hw 0 15 (fun x h => List.mem_cons_of_mem _ (in_M x h)) rfl rfl (by decide) (List.mem_cons_of_mem _ m_538) rfl d_M_takeOver_12 ?_
    refine x_top (y := nI (tN so)) nso.1 ?_
    refine x_zaldB (pc := 15) F hw 5 1 (tN so) rfl rfl rfl (by omega) (by decide) d_M_takeOver_15 ?_
    refine x_ifneB (pc := 16) (tgt := 26) F d_M_takeOver_16 rfl (fun h2 => ?_) (fun h2 => ?_)
    · refine lv_iconst (pc := 26) (v := 0) F.1 F.2.1 d_M_takeOver_26 (by decide) ?_
      refine W.widen (k := 0) (n := 0) (by decide) (by decide) ?_
      exact ret 0 (me, ro, ho, os, ob, od, on, st, ow, nu, go, tp, rd) _ _ 27 _ rfl (by unfold F_M_takeOver <;> rw [if_pos h1] <;> rw [if_pos h2] <;> rfl) hw d_M_takeOver_27
    · refine lv_aload_n (pc := 19) F.1 F.2.1 d_M_takeOver_19 rfl (lv_at hl 0 rfl) ?_
      refine x_get (pc := 20) (v := .int (bI rd)) F hw 0 21 (fun x h => List.mem_cons_of_mem _ (in_M x h)) rfl rfl (by decide) (List.mem_cons_of_mem _ m_544) rfl d_M_takeOver_20 ?_
      refine x_ifneB (pc := 23) (tgt := 28) F d_M_takeOver_23 rfl (fun h3 => ?_) (fun h3 => ?_)
      · refine lv_aload_n (pc := 28) F.1 F.2.1 d_M_takeOver_28 rfl (lv_at hl 0 rfl) ?_
        refine x_callv (pc := 29) (wr := []) hw [0, 1, 2, 3, 4, 5, 6, 7, 8, 9, 10, 11, 12, 13, 14, 15, 16, 17, 18, 19] [] rfl rfl (by decide) (by decide) (va_runV (As := []) (rest := []) F (c_M_handOver l D cT ad im me ro up ho di os ob od on pg tm ts tr ki mo po sr ld st ow nu go la so se sl sp tp rd pn ⟨nso.1, by omega⟩ _) (x_cw (C := "MovingGuestModel") 0 F (g_all y_M_handOver b_M_handOver 3 none (List.mem_cons_of_mem _ m_703)) rfl rfl rfl (F.2.2.2.2 _ (List.mem_cons_of_mem _ m_40)) (F.2.2.2.2 _ (List.mem_cons_of_mem _ m_701)) (F.2.2.2.2 _ (List.mem_cons_of_mem _ m_702)) (F.2.2.2.2 _ (List.mem_cons_of_mem _ m_32)) (by decide +kernel) ⟨by decide, by decide⟩) (hw.preV (q0 := 0) [0, 1, 2, 3, 4, 5, 6, 7, 8, 9, 10, 11, 12, 13, 14, 15, 16, 17, 18, 19] (by decide) rfl rfl rfl) rfl rfl hl.1 rfl (lv_room (Nat.le_of_ble_eq_true rfl)) d_M_takeOver_29 ⟨by decide, by decide⟩) (fun u18 H locs e4 hw => ?_)
        obtain ⟨mev5, rov6, hov7, osv8, obv9, odv10, onv11, stv12, owv13, nuv14, gov15, tpv16, rdv17⟩ := u18
        have hw : Hw D vwCl (TYS cT) A s (MW ad cT im mev5 rov6 up hov7 di osv8 obv9 odv10 onv11 pg tm ts tr ki mo po sr ld stv12 owv13 nuv14 gov15 la so se sl sp tpv16 rdv17 pn) H locs := hw
        refine lv_iconst (pc := 32) (v := 1) F.1 F.2.1 d_M_takeOver_32 (by decide) ?_
        refine W.widen (k := 0) (n := 0) (by decide) (by decide) ?_
        exact ret 1 (mev5, rov6, hov7, osv8, obv9, odv10, onv11, stv12, owv13, nuv14, gov15, tpv16, rdv17) _ _ 33 _ rfl (by unfold F_M_takeOver <;> rw [if_pos h1] <;> rw [if_neg h2] <;> rw [if_pos h3] <;> rw [e4] <;> (try dsimp only) <;> rfl) hw d_M_takeOver_33
      · refine lv_iconst (pc := 26) (v := 0) F.1 F.2.1 d_M_takeOver_26 (by decide) ?_
        refine W.widen (k := 0) (n := 0) (by decide) (by decide) ?_
        exact ret 0 (me, ro, ho, os, ob, od, on, st, ow, nu, go, tp, rd) _ _ 27 _ rfl (by unfold F_M_takeOver <;> rw [if_pos h1] <;> rw [if_neg h2] <;> rw [if_neg h3] <;> rfl) hw d_M_takeOver_27
theorem tick_4 (ro : Nat → Int32) (r0 : Nat) : F_M_tick ro r0 (r0 + 4) = ro (r0 + 4) ∨ F_M_tick ro r0 (r0 + 4) = nI 56 := by
  unfold F_M_tick
  by_cases h1 : ro (r0 + 5) = 0
  · rw [if_pos h1]
    exact Or.inl rfl
  · rw [if_neg h1]
    by_cases h2 : upd ro (r0 + 5) (ro (r0 + 5) - 1) (r0 + 5) ≤ 0
    · rw [if_pos h2, pk_us]
      exact Or.inr rfl
    · rw [if_neg h2, pk_un (by omega)]
      exact Or.inl rfl
theorem tick_15 (ro : Nat → Int32) (r0 : Nat) : F_M_tick ro r0 (r0 + 15) = ro (r0 + 15) := by
  unfold F_M_tick
  by_cases h1 : ro (r0 + 5) = 0
  · rw [if_pos h1]
  · rw [if_neg h1]
    by_cases h2 : upd ro (r0 + 5) (ro (r0 + 5) - 1) (r0 + 5) ≤ 0
    · rw [if_pos h2, pk_un (by omega), pk_un (by omega), pk_un (by omega)]
    · rw [if_neg h2, pk_un (by omega)]
theorem taken_15 {ro ro2 : Nat → Int32} {r0 : Nat} {r : Int32} (e : F_M_taken ro r0 = (r, ro2)) : ro2 (r0 + 15) = ro (r0 + 15) := by
  unfold F_M_taken at e
  by_cases h1 : ro (r0 + 6) = 0
  · rw [if_pos h1] at e
    cases e
    rfl
  · rw [if_neg h1] at e
    cases e
    rw [pk_un (by omega), pk_cpy_out (by omega)]
set_option maxHeartbeats 4000000 in
set_option maxRecDepth 100000 in
theorem ins_inv {me : Nat → Int32} {ro : Nat → Int32} {di : Nat → Int32} {os : Nat → Bool} {ob : Nat → Int32} {od : Nat → Int32} {on : Nat → Int32} {pg : Nat → Int32} {nu : Int32} {go : Bool} {so : Int32} {h0 : Nat} {v : Int32} {mev : Nat → Int32} {rov : Nat → Int32} {pgv : Nat → Int32} {osv : Nat → Bool} {obv : Nat → Int32} {odv : Nat → Int32} {onv : Nat → Int32} {r : Int32} (n2 : isN (ro (60 * h0 + 4)) 64) (n3 : isN (ro (60 * h0 + 15)) 41) (hh : h0 < 2) (e : F_M_instruct me ro di os ob od on pg nu go so h0 v = (r, mev, rov, pgv, osv, obv, odv, onv)) : isN (rov (60 * h0 + 4)) 64 ∧ isN (rov (60 * h0 + 15)) 41 := by
  have n3b := n3.2
  have w0 : lo 2 (v >>> (4 &&& 31)) < 4 := lo_lt 2 _
  have w1 : lo 2 (v >>> (6 &&& 31)) < 4 := lo_lt 2 _
  unfold F_M_instruct at e
  by_cases k1 : (nI (lo 4 v)) = 0
  · rw [if_pos k1] at e
    have er : ro = rov := congrArg (fun z => z.2.2.1) e
    rw [← er]
    exact ⟨n2, n3⟩
  · rw [if_neg k1] at e
    by_cases k2 : 13 < (nI (lo 4 v))
    · rw [if_pos k2] at e
      have er : ro = rov := congrArg (fun z => z.2.2.1) e
      rw [← er]
      exact ⟨n2, n3⟩
    · rw [if_neg k2] at e
      by_cases k3 : (nI (lo 4 v)) = 11
      · rw [if_pos k3] at e
        by_cases k4 : (ro (60 * h0 + 56)) = 1
        · rw [if_pos k4] at e
          have er : ro = rov := congrArg (fun z => z.2.2.1) e
          rw [← er]
          exact ⟨n2, n3⟩
        · rw [if_neg k4] at e
          have er : (F_M_tick (upd (upd (upd (upd (upd ro (60 * h0 + 56) 1) (60 * h0 + 57) (nI (lo 3 (nI (lo 6 (v >>> (8 &&& 31))))))) (60 * h0 + 58) ((upd (upd ro (60 * h0 + 56) 1) (60 * h0 + 57) (nI (lo 3 (nI (lo 6 (v >>> (8 &&& 31))))))) (60 * h0 + (lo 2 (v >>> (4 &&& 31)))))) (60 * h0 + 59) (((upd (upd (upd ro (60 * h0 + 56) 1) (60 * h0 + 57) (nI (lo 3 (nI (lo 6 (v >>> (8 &&& 31))))))) (60 * h0 + 58) ((upd (upd ro (60 * h0 + 56) 1) (60 * h0 + 57) (nI (lo 3 (nI (lo 6 (v >>> (8 &&& 31))))))) (60 * h0 + (lo 2 (v >>> (4 &&& 31)))))) (60 * h0 + 59)) + 1)) (60 * h0 + 4) (nI (lo 6 (((upd (upd (upd (upd ro (60 * h0 + 56) 1) (60 * h0 + 57) (nI (lo 3 (nI (lo 6 (v >>> (8 &&& 31))))))) (60 * h0 + 58) ((upd (upd ro (60 * h0 + 56) 1) (60 * h0 + 57) (nI (lo 3 (nI (lo 6 (v >>> (8 &&& 31))))))) (60 * h0 + (lo 2 (v >>> (4 &&& 31)))))) (60 * h0 + 59) (((upd (upd (upd ro (60 * h0 + 56) 1) (60 * h0 + 57) (nI (lo 3 (nI (lo 6 (v >>> (8 &&& 31))))))) (60 * h0 + 58) ((upd (upd ro (60 * h0 + 56) 1) (60 * h0 + 57) (nI (lo 3 (nI (lo 6 (v >>> (8 &&& 31))))))) (60 * h0 + (lo 2 (v >>> (4 &&& 31)))))) (60 * h0 + 59)) + 1)) (60 * h0 + 4)) + 1)))) (60 * h0)) = rov := congrArg (fun z => z.2.2.1) e
          rw [← er]
          refine ⟨?_, ?_⟩
          · rcases tick_4 _ (60 * h0) with z | z
            · rw [z, pk_us]
              exact isN_nI (lo_lt 6 _) (by decide)
            · rw [z]
              exact isN_nI (n := 56) (by decide) (by decide)
          · rw [tick_15]
            repeat rw [pk_un (by omega)]
            exact n3
      · rw [if_neg k3] at e
        by_cases k5 : (nI (lo 4 v)) = 12
        · rw [if_pos k5] at e
          by_cases k6 : (ro (60 * h0 + 56)) = 1
          · rw [if_pos k6] at e
            have er : ro = rov := congrArg (fun z => z.2.2.1) e
            rw [← er]
            exact ⟨n2, n3⟩
          · rw [if_neg k6] at e
            have er : (F_M_tick (upd (upd (upd ro (60 * h0 + (lo 2 (v >>> (4 &&& 31)))) (di (lo 3 (nI (lo 6 (v >>> (8 &&& 31))))))) (60 * h0 + 59) (((upd ro (60 * h0 + (lo 2 (v >>> (4 &&& 31)))) (di (lo 3 (nI (lo 6 (v >>> (8 &&& 31))))))) (60 * h0 + 59)) + 1)) (60 * h0 + 4) (nI (lo 6 (((upd (upd ro (60 * h0 + (lo 2 (v >>> (4 &&& 31)))) (di (lo 3 (nI (lo 6 (v >>> (8 &&& 31))))))) (60 * h0 + 59) (((upd ro (60 * h0 + (lo 2 (v >>> (4 &&& 31)))) (di (lo 3 (nI (lo 6 (v >>> (8 &&& 31))))))) (60 * h0 + 59)) + 1)) (60 * h0 + 4)) + 1)))) (60 * h0)) = rov := congrArg (fun z => z.2.2.1) e
            rw [← er]
            refine ⟨?_, ?_⟩
            · rcases tick_4 _ (60 * h0) with z | z
              · rw [z, pk_us]
                exact isN_nI (lo_lt 6 _) (by decide)
              · rw [z]
                exact isN_nI (n := 56) (by decide) (by decide)
            · rw [tick_15]
              repeat rw [pk_un (by omega)]
              exact n3
        · rw [if_neg k5] at e
          by_cases k7 : (nI (lo 4 v)) = 7
          · rw [if_pos k7] at e
            have er : (F_M_tick (upd (upd ro (60 * h0 + 59) ((ro (60 * h0 + 59)) + 1)) (60 * h0 + 4) (nI (lo 6 (v >>> (8 &&& 31))))) (60 * h0)) = rov := congrArg (fun z => z.2.2.1) e
            rw [← er]
            refine ⟨?_, ?_⟩
            · rcases tick_4 _ (60 * h0) with z | z
              · rw [z, pk_us]
                exact isN_nI (lo_lt 6 _) (by decide)
              · rw [z]
                exact isN_nI (n := 56) (by decide) (by decide)
            · rw [tick_15]
              repeat rw [pk_un (by omega)]
              exact n3
          · rw [if_neg k7] at e
            by_cases k8 : (nI (lo 4 v)) = 8
            · rw [if_pos k8] at e
              by_cases k9 : (ro (60 * h0 + (lo 2 (v >>> (4 &&& 31))))) = 0
              · rw [if_pos k9] at e
                have er : (F_M_tick (upd (upd ro (60 * h0 + 59) ((ro (60 * h0 + 59)) + 1)) (60 * h0 + 4) (nI (lo 6 (v >>> (8 &&& 31))))) (60 * h0)) = rov := congrArg (fun z => z.2.2.1) e
                rw [← er]
                refine ⟨?_, ?_⟩
                · rcases tick_4 _ (60 * h0) with z | z
                  · rw [z, pk_us]
                    exact isN_nI (lo_lt 6 _) (by decide)
                  · rw [z]
                    exact isN_nI (n := 56) (by decide) (by decide)
                · rw [tick_15]
                  repeat rw [pk_un (by omega)]
                  exact n3
              · rw [if_neg k9] at e
                have er : (F_M_tick (upd (upd ro (60 * h0 + 59) ((ro (60 * h0 + 59)) + 1)) (60 * h0 + 4) (nI (lo 6 (((upd ro (60 * h0 + 59) ((ro (60 * h0 + 59)) + 1)) (60 * h0 + 4)) + 1)))) (60 * h0)) = rov := congrArg (fun z => z.2.2.1) e
                rw [← er]
                refine ⟨?_, ?_⟩
                · rcases tick_4 _ (60 * h0) with z | z
                  · rw [z, pk_us]
                    exact isN_nI (lo_lt 6 _) (by decide)
                  · rw [z]
                    exact isN_nI (n := 56) (by decide) (by decide)
                · rw [tick_15]
                  repeat rw [pk_un (by omega)]
                  exact n3
            · rw [if_neg k8] at e
              by_cases k10 : (nI (lo 4 v)) = 1
              · rw [if_pos k10] at e
                have er : (F_M_tick (upd (upd (upd ro (60 * h0 + (lo 2 (v >>> (4 &&& 31)))) (v >>> (16 &&& 31))) (60 * h0 + 59) (((upd ro (60 * h0 + (lo 2 (v >>> (4 &&& 31)))) (v >>> (16 &&& 31))) (60 * h0 + 59)) + 1)) (60 * h0 + 4) (nI (lo 6 (((upd (upd ro (60 * h0 + (lo 2 (v >>> (4 &&& 31)))) (v >>> (16 &&& 31))) (60 * h0 + 59) (((upd ro (60 * h0 + (lo 2 (v >>> (4 &&& 31)))) (v >>> (16 &&& 31))) (60 * h0 + 59)) + 1)) (60 * h0 + 4)) + 1)))) (60 * h0)) = rov := congrArg (fun z => z.2.2.1) e
                rw [← er]
                refine ⟨?_, ?_⟩
                · rcases tick_4 _ (60 * h0) with z | z
                  · rw [z, pk_us]
                    exact isN_nI (lo_lt 6 _) (by decide)
                  · rw [z]
                    exact isN_nI (n := 56) (by decide) (by decide)
                · rw [tick_15]
                  repeat rw [pk_un (by omega)]
                  exact n3
              · rw [if_neg k10] at e
                by_cases k11 : (nI (lo 4 v)) = 2
                · rw [if_pos k11] at e
                  have er : (F_M_tick (upd (upd (upd ro (60 * h0 + (lo 2 (v >>> (4 &&& 31)))) ((ro (60 * h0 + (lo 2 (v >>> (4 &&& 31))))) + (ro (60 * h0 + (lo 2 (v >>> (6 &&& 31))))))) (60 * h0 + 59) (((upd ro (60 * h0 + (lo 2 (v >>> (4 &&& 31)))) ((ro (60 * h0 + (lo 2 (v >>> (4 &&& 31))))) + (ro (60 * h0 + (lo 2 (v >>> (6 &&& 31))))))) (60 * h0 + 59)) + 1)) (60 * h0 + 4) (nI (lo 6 (((upd (upd ro (60 * h0 + (lo 2 (v >>> (4 &&& 31)))) ((ro (60 * h0 + (lo 2 (v >>> (4 &&& 31))))) + (ro (60 * h0 + (lo 2 (v >>> (6 &&& 31))))))) (60 * h0 + 59) (((upd ro (60 * h0 + (lo 2 (v >>> (4 &&& 31)))) ((ro (60 * h0 + (lo 2 (v >>> (4 &&& 31))))) + (ro (60 * h0 + (lo 2 (v >>> (6 &&& 31))))))) (60 * h0 + 59)) + 1)) (60 * h0 + 4)) + 1)))) (60 * h0)) = rov := congrArg (fun z => z.2.2.1) e
                  rw [← er]
                  refine ⟨?_, ?_⟩
                  · rcases tick_4 _ (60 * h0) with z | z
                    · rw [z, pk_us]
                      exact isN_nI (lo_lt 6 _) (by decide)
                    · rw [z]
                      exact isN_nI (n := 56) (by decide) (by decide)
                  · rw [tick_15]
                    repeat rw [pk_un (by omega)]
                    exact n3
                · rw [if_neg k11] at e
                  by_cases k12 : (nI (lo 4 v)) = 3
                  · rw [if_pos k12] at e
                    have er : (F_M_tick (upd (upd (upd ro (60 * h0 + (lo 2 (v >>> (4 &&& 31)))) ((ro (60 * h0 + (lo 2 (v >>> (4 &&& 31))))) - (ro (60 * h0 + (lo 2 (v >>> (6 &&& 31))))))) (60 * h0 + 59) (((upd ro (60 * h0 + (lo 2 (v >>> (4 &&& 31)))) ((ro (60 * h0 + (lo 2 (v >>> (4 &&& 31))))) - (ro (60 * h0 + (lo 2 (v >>> (6 &&& 31))))))) (60 * h0 + 59)) + 1)) (60 * h0 + 4) (nI (lo 6 (((upd (upd ro (60 * h0 + (lo 2 (v >>> (4 &&& 31)))) ((ro (60 * h0 + (lo 2 (v >>> (4 &&& 31))))) - (ro (60 * h0 + (lo 2 (v >>> (6 &&& 31))))))) (60 * h0 + 59) (((upd ro (60 * h0 + (lo 2 (v >>> (4 &&& 31)))) ((ro (60 * h0 + (lo 2 (v >>> (4 &&& 31))))) - (ro (60 * h0 + (lo 2 (v >>> (6 &&& 31))))))) (60 * h0 + 59)) + 1)) (60 * h0 + 4)) + 1)))) (60 * h0)) = rov := congrArg (fun z => z.2.2.1) e
                    rw [← er]
                    refine ⟨?_, ?_⟩
                    · rcases tick_4 _ (60 * h0) with z | z
                      · rw [z, pk_us]
                        exact isN_nI (lo_lt 6 _) (by decide)
                      · rw [z]
                        exact isN_nI (n := 56) (by decide) (by decide)
                    · rw [tick_15]
                      repeat rw [pk_un (by omega)]
                      exact n3
                  · rw [if_neg k12] at e
                    by_cases k13 : (nI (lo 4 v)) = 4
                    · rw [if_pos k13] at e
                      have er : (F_M_tick (upd (upd (upd ro (60 * h0 + (lo 2 (v >>> (4 &&& 31)))) ((ro (60 * h0 + (lo 2 (v >>> (4 &&& 31))))) * (ro (60 * h0 + (lo 2 (v >>> (6 &&& 31))))))) (60 * h0 + 59) (((upd ro (60 * h0 + (lo 2 (v >>> (4 &&& 31)))) ((ro (60 * h0 + (lo 2 (v >>> (4 &&& 31))))) * (ro (60 * h0 + (lo 2 (v >>> (6 &&& 31))))))) (60 * h0 + 59)) + 1)) (60 * h0 + 4) (nI (lo 6 (((upd (upd ro (60 * h0 + (lo 2 (v >>> (4 &&& 31)))) ((ro (60 * h0 + (lo 2 (v >>> (4 &&& 31))))) * (ro (60 * h0 + (lo 2 (v >>> (6 &&& 31))))))) (60 * h0 + 59) (((upd ro (60 * h0 + (lo 2 (v >>> (4 &&& 31)))) ((ro (60 * h0 + (lo 2 (v >>> (4 &&& 31))))) * (ro (60 * h0 + (lo 2 (v >>> (6 &&& 31))))))) (60 * h0 + 59)) + 1)) (60 * h0 + 4)) + 1)))) (60 * h0)) = rov := congrArg (fun z => z.2.2.1) e
                      rw [← er]
                      refine ⟨?_, ?_⟩
                      · rcases tick_4 _ (60 * h0) with z | z
                        · rw [z, pk_us]
                          exact isN_nI (lo_lt 6 _) (by decide)
                        · rw [z]
                          exact isN_nI (n := 56) (by decide) (by decide)
                      · rw [tick_15]
                        repeat rw [pk_un (by omega)]
                        exact n3
                    · rw [if_neg k13] at e
                      by_cases k14 : (nI (lo 4 v)) = 5
                      · rw [if_pos k14] at e
                        have er : (F_M_tick (upd (upd (upd ro (60 * h0 + (lo 2 (v >>> (4 &&& 31)))) (me (64 * h0 + (lo 6 ((ro (60 * h0 + (lo 2 (v >>> (6 &&& 31))))) + (nI (lo 6 (v >>> (8 &&& 31))))))))) (60 * h0 + 59) (((upd ro (60 * h0 + (lo 2 (v >>> (4 &&& 31)))) (me (64 * h0 + (lo 6 ((ro (60 * h0 + (lo 2 (v >>> (6 &&& 31))))) + (nI (lo 6 (v >>> (8 &&& 31))))))))) (60 * h0 + 59)) + 1)) (60 * h0 + 4) (nI (lo 6 (((upd (upd ro (60 * h0 + (lo 2 (v >>> (4 &&& 31)))) (me (64 * h0 + (lo 6 ((ro (60 * h0 + (lo 2 (v >>> (6 &&& 31))))) + (nI (lo 6 (v >>> (8 &&& 31))))))))) (60 * h0 + 59) (((upd ro (60 * h0 + (lo 2 (v >>> (4 &&& 31)))) (me (64 * h0 + (lo 6 ((ro (60 * h0 + (lo 2 (v >>> (6 &&& 31))))) + (nI (lo 6 (v >>> (8 &&& 31))))))))) (60 * h0 + 59)) + 1)) (60 * h0 + 4)) + 1)))) (60 * h0)) = rov := congrArg (fun z => z.2.2.1) e
                        rw [← er]
                        refine ⟨?_, ?_⟩
                        · rcases tick_4 _ (60 * h0) with z | z
                          · rw [z, pk_us]
                            exact isN_nI (lo_lt 6 _) (by decide)
                          · rw [z]
                            exact isN_nI (n := 56) (by decide) (by decide)
                        · rw [tick_15]
                          repeat rw [pk_un (by omega)]
                          exact n3
                      · rw [if_neg k14] at e
                        by_cases k15 : (nI (lo 4 v)) = 6
                        · rw [if_pos k15] at e
                          rcases k16 : F_M_written me pg go so h0 (lo 6 ((ro (60 * h0 + (lo 2 (v >>> (6 &&& 31))))) + (nI (lo 6 (v >>> (8 &&& 31)))))) (ro (60 * h0 + (lo 2 (v >>> (4 &&& 31))))) with ⟨mev92, pgv93⟩
                          rw [k16] at e
                          (try dsimp only at e)
                          have er : (F_M_tick (upd (upd ro (60 * h0 + 59) ((ro (60 * h0 + 59)) + 1)) (60 * h0 + 4) (nI (lo 6 (((upd ro (60 * h0 + 59) ((ro (60 * h0 + 59)) + 1)) (60 * h0 + 4)) + 1)))) (60 * h0)) = rov := congrArg (fun z => z.2.2.1) e
                          rw [← er]
                          refine ⟨?_, ?_⟩
                          · rcases tick_4 _ (60 * h0) with z | z
                            · rw [z, pk_us]
                              exact isN_nI (lo_lt 6 _) (by decide)
                            · rw [z]
                              exact isN_nI (n := 56) (by decide) (by decide)
                          · rw [tick_15]
                            repeat rw [pk_un (by omega)]
                            exact n3
                        · rw [if_neg k15] at e
                          by_cases k17 : (nI (lo 4 v)) = 9
                          · rw [if_pos k17] at e
                            by_cases k18 : 40 ≤ (nI (tN (ro (60 * h0 + 15))))
                            · rw [if_pos k18] at e
                              have er : (F_M_tick (upd (upd ro (60 * h0 + 59) ((ro (60 * h0 + 59)) + 1)) (60 * h0 + 4) (nI (lo 6 (((upd ro (60 * h0 + 59) ((ro (60 * h0 + 59)) + 1)) (60 * h0 + 4)) + 1)))) (60 * h0)) = rov := congrArg (fun z => z.2.2.1) e
                              rw [← er]
                              refine ⟨?_, ?_⟩
                              · rcases tick_4 _ (60 * h0) with z | z
                                · rw [z, pk_us]
                                  exact isN_nI (lo_lt 6 _) (by decide)
                                · rw [z]
                                  exact isN_nI (n := 56) (by decide) (by decide)
                              · rw [tick_15]
                                repeat rw [pk_un (by omega)]
                                exact n3
                            · rw [if_neg k18] at e
                              have er : (F_M_tick (upd (upd (upd (upd ro (60 * h0 + 16 + (tN (ro (60 * h0 + 15)))) (ro (60 * h0 + (lo 2 (v >>> (4 &&& 31)))))) (60 * h0 + 15) (((upd ro (60 * h0 + 16 + (tN (ro (60 * h0 + 15)))) (ro (60 * h0 + (lo 2 (v >>> (4 &&& 31)))))) (60 * h0 + 15)) + 1)) (60 * h0 + 59) (((upd (upd ro (60 * h0 + 16 + (tN (ro (60 * h0 + 15)))) (ro (60 * h0 + (lo 2 (v >>> (4 &&& 31)))))) (60 * h0 + 15) (((upd ro (60 * h0 + 16 + (tN (ro (60 * h0 + 15)))) (ro (60 * h0 + (lo 2 (v >>> (4 &&& 31)))))) (60 * h0 + 15)) + 1)) (60 * h0 + 59)) + 1)) (60 * h0 + 4) (nI (lo 6 (((upd (upd (upd ro (60 * h0 + 16 + (tN (ro (60 * h0 + 15)))) (ro (60 * h0 + (lo 2 (v >>> (4 &&& 31)))))) (60 * h0 + 15) (((upd ro (60 * h0 + 16 + (tN (ro (60 * h0 + 15)))) (ro (60 * h0 + (lo 2 (v >>> (4 &&& 31)))))) (60 * h0 + 15)) + 1)) (60 * h0 + 59) (((upd (upd ro (60 * h0 + 16 + (tN (ro (60 * h0 + 15)))) (ro (60 * h0 + (lo 2 (v >>> (4 &&& 31)))))) (60 * h0 + 15) (((upd ro (60 * h0 + 16 + (tN (ro (60 * h0 + 15)))) (ro (60 * h0 + (lo 2 (v >>> (4 &&& 31)))))) (60 * h0 + 15)) + 1)) (60 * h0 + 59)) + 1)) (60 * h0 + 4)) + 1)))) (60 * h0)) = rov := congrArg (fun z => z.2.2.1) e
                              rw [← er]
                              refine ⟨?_, ?_⟩
                              · rcases tick_4 _ (60 * h0) with z | z
                                · rw [z, pk_us]
                                  exact isN_nI (lo_lt 6 _) (by decide)
                                · rw [z]
                                  exact isN_nI (n := 56) (by decide) (by decide)
                              · rw [tick_15]
                                have z9 := nle_nat (m := 40) k18 (by omega) (by omega)
                                rw [pk_un (by omega), pk_un (by omega), pk_us, pk_un (by omega), n3.1, nI_1]
                                exact isN_nI (by omega) (by decide)
                          · rw [if_neg k17] at e
                            by_cases k19 : (nI (lo 4 v)) = 10
                            · rw [if_pos k19] at e
                              rcases k20 : F_M_taken ro (60 * h0) with ⟨r67, rov68⟩
                              rw [k20] at e
                              (try dsimp only at e)
                              have er : (F_M_tick (upd (upd (upd rov68 (60 * h0 + (lo 2 (v >>> (4 &&& 31)))) r67) (60 * h0 + 59) (((upd rov68 (60 * h0 + (lo 2 (v >>> (4 &&& 31)))) r67) (60 * h0 + 59)) + 1)) (60 * h0 + 4) (nI (lo 6 (((upd (upd rov68 (60 * h0 + (lo 2 (v >>> (4 &&& 31)))) r67) (60 * h0 + 59) (((upd rov68 (60 * h0 + (lo 2 (v >>> (4 &&& 31)))) r67) (60 * h0 + 59)) + 1)) (60 * h0 + 4)) + 1)))) (60 * h0)) = rov := congrArg (fun z => z.2.2.1) e
                              rw [← er]
                              refine ⟨?_, ?_⟩
                              · rcases tick_4 _ (60 * h0) with z | z
                                · rw [z, pk_us]
                                  exact isN_nI (lo_lt 6 _) (by decide)
                                · rw [z]
                                  exact isN_nI (n := 56) (by decide) (by decide)
                              · rw [tick_15]
                                repeat rw [pk_un (by omega)]
                                rw [taken_15 k20]
                                exact n3
                            · rw [if_neg k19] at e
                              by_cases k21 : (nI (lo 4 v)) = 13
                              · rw [if_pos k21] at e
                                have er : (F_M_tick (upd (upd (upd ro (60 * h0 + 5) (nI (lo 8 (ro (60 * h0 + (lo 2 (v >>> (4 &&& 31))))) + 1))) (60 * h0 + 59) (((upd ro (60 * h0 + 5) (nI (lo 8 (ro (60 * h0 + (lo 2 (v >>> (4 &&& 31))))) + 1))) (60 * h0 + 59)) + 1)) (60 * h0 + 4) (nI (lo 6 (((upd (upd ro (60 * h0 + 5) (nI (lo 8 (ro (60 * h0 + (lo 2 (v >>> (4 &&& 31))))) + 1))) (60 * h0 + 59) (((upd ro (60 * h0 + 5) (nI (lo 8 (ro (60 * h0 + (lo 2 (v >>> (4 &&& 31))))) + 1))) (60 * h0 + 59)) + 1)) (60 * h0 + 4)) + 1)))) (60 * h0)) = rov := congrArg (fun z => z.2.2.1) e
                                rw [← er]
                                refine ⟨?_, ?_⟩
                                · rcases tick_4 _ (60 * h0) with z | z
                                  · rw [z, pk_us]
                                    exact isN_nI (lo_lt 6 _) (by decide)
                                  · rw [z]
                                    exact isN_nI (n := 56) (by decide) (by decide)
                                · rw [tick_15]
                                  repeat rw [pk_un (by omega)]
                                  exact n3
                              · rw [if_neg k21] at e
                                have er : (F_M_tick (upd (upd ro (60 * h0 + 59) ((ro (60 * h0 + 59)) + 1)) (60 * h0 + 4) (nI (lo 6 (((upd ro (60 * h0 + 59) ((ro (60 * h0 + 59)) + 1)) (60 * h0 + 4)) + 1)))) (60 * h0)) = rov := congrArg (fun z => z.2.2.1) e
                                rw [← er]
                                refine ⟨?_, ?_⟩
                                · rcases tick_4 _ (60 * h0) with z | z
                                  · rw [z, pk_us]
                                    exact isN_nI (lo_lt 6 _) (by decide)
                                  · rw [z]
                                    exact isN_nI (n := 56) (by decide) (by decide)
                                · rw [tick_15]
                                  repeat rw [pk_un (by omega)]
                                  exact n3
/-- the instructions of a run, one after the other -/
def runF (di : Nat → Int32) (nu : Int32) (go : Bool) (so : Int32) (h0 : Nat) : Nat → Nat → (Nat → Int32) → (Nat → Int32) → (Nat → Int32) → (Nat → Bool) → (Nat → Int32) → (Nat → Int32) → (Nat → Int32) → Int32 × (Nat → Int32) × (Nat → Int32) × (Nat → Int32) × (Nat → Bool) × (Nat → Int32) × (Nat → Int32) × (Nat → Int32)
  | 0, dn, me, ro, pg, os, ob, od, on => (nI dn, (me, ro, pg, os, ob, od, on))
  | f + 1, dn, me, ro, pg, os, ob, od, on =>
    match F_M_instruct me ro di os ob od on pg nu go so h0 (me (64 * h0 + tN (ro (60 * h0 + 4)))) with
    | (r, mev, rov, pgv, osv, obv, odv, onv) => if r = 0 then (nI dn, (mev, rov, pgv, osv, obv, odv, onv)) else runF di nu go so h0 f (dn + 1) mev rov pgv osv obv odv onv
def F_M_run (me : Nat → Int32) (ro : Nat → Int32) (up : Nat → Bool) (ho : Nat → Bool) (di : Nat → Int32) (os : Nat → Bool) (ob : Nat → Int32) (od : Nat → Int32) (on : Nat → Int32) (pg : Nat → Int32) (st : Bool) (ow : Int32) (nu : Int32) (go : Bool) (so : Int32) (host : Int32) (n : Int32) : Int32 × (Nat → Int32) × (Nat → Int32) × (Nat → Int32) × (Nat → Bool) × (Nat → Int32) × (Nat → Int32) × (Nat → Int32) :=
  match F_M_isHost host with
  | (r2, _) =>
    if r2 = 0 then
      ((-1), (me, ro, pg, os, ob, od, on))
    else
      if n < 1 then
        ((-1), (me, ro, pg, os, ob, od, on))
      else
        if n ≤ 100 then
          match F_M_runs up ho st ow (tN host) with
          | (r8, _) =>
            if r8 = 0 then
              ((-2), (me, ro, pg, os, ob, od, on))
            else
              runF di nu go so (tN host) (tN n) 0 me ro pg os ob od on
        else
          ((-1), (me, ro, pg, os, ob, od, on))
set_option maxHeartbeats 4000000 in
set_option maxRecDepth 100000 in
theorem c_M_run (l : Launch) (D : va_G) (cT : Nat → ClassId) (ad : Nat → Nat) (im : Nat → Int32) (me : Nat → Int32) (ro : Nat → Int32) (up : Nat → Bool) (ho : Nat → Bool) (di : Nat → Int32) (os : Nat → Bool) (ob : Nat → Int32) (od : Nat → Int32) (on : Nat → Int32) (pg : Nat → Int32) (tm : Nat → Int32) (ts : Nat → Int32) (tr : Nat → Int32) (ki : Nat → Int32) (mo : Nat → Int32) (po : Nat → Int32) (sr : Nat → Int32) (ld : Nat → Int32) (st : Bool) (ow : Int32) (nu : Int32) (go : Bool) (la : Int32) (so : Int32) (se : Int32) (sl : Int32) (sp : Int32) (tp : Bool) (rd : Bool) (pn : Int32) (host : Int32) (n : Int32) (n0 : ∀ h, h < 2 → ho h = true → isN (ro (60 * h + 4)) 64) (n1 : ∀ h, h < 2 → ho h = true → isN (ro (60 * h + 15)) 41) : Cti l y_M_run ws_M_run { frames := 2, cells := 0, slots := 0, locals := 52 } D vwCl (TYS cT) [.ref (ad 0), .int host, .int n] (MW ad cT im me ro up ho di os ob od on pg tm ts tr ki mo po sr ld st ow nu go la so se sl sp tp rd pn) (fun (rr : Int32) (uu : (Nat → Int32) × (Nat → Int32) × (Nat → Int32) × (Nat → Bool) × (Nat → Int32) × (Nat → Int32) × (Nat → Int32)) => F_M_run me ro up ho di os ob od on pg st ow nu go so host n = (rr, uu)) (fun (u : (Nat → Int32) × (Nat → Int32) × (Nat → Int32) × (Nat → Bool) × (Nat → Int32) × (Nat → Int32) × (Nat → Int32)) => MW ad cT im u.1 u.2.1 up ho di u.2.2.2.1 u.2.2.2.2.1 u.2.2.2.2.2.1 u.2.2.2.2.2.2 u.2.2.1 tm ts tr ki mo po sr ld st ow nu go la so se sl sp tp rd pn) 0 0 := by
  refine x_ini (cc := b_M_run) (maxL := 4) (by decide) rfl (Nat.le_of_ble_eq_true rfl) ?_
  intro p e s m args below meth c A ls Q F hl hw ret
  have hl : lv_has ls 4 [(0, .ref (ad 0)), (1, .int host), (2, .int n)] := hl
  refine lv_iload_n (pc := 0) F.1 F.2.1 d_M_run_0 rfl (lv_at hl 1 rfl) ?_
  refine x_calli (pc := 1) (wr := [(ad 0, .inr (6, [.ref (ad 1), .ref (ad 2), .ref (ad 3), .ref (ad 4), .ref (ad 5), .int (bI st), .ref (ad 6), .int ow, .int nu, .ref (ad 7), .ref (ad 8), .ref (ad 9), .ref (ad 10), .int (bI go), .int la, .int so, .ref (ad 11), .int se, .int sl, .int sp, .int (bI tp), .int (bI rd), .ref (ad 12), .ref (ad 13), .ref (ad 14), .int pn, .ref (ad 15), .ref (ad 16), .ref (ad 17), .ref (ad 18), .ref (ad 19)])), (ad 1, .inl (cT 0, 64, .inl im)), (ad 2, .inl (cT 0, 128, .inl me)), (ad 3, .inl (cT 0, 120, .inl ro)), (ad 4, .inl (cT 1, 2, .inl (fun j => bI (up j)))), (ad 5, .inl (cT 1, 2, .inl (fun j => bI (ho j)))), (ad 6, .inl (cT 0, 8, .inl di)), (ad 7, .inl (cT 1, 2, .inl (fun j => bI (os j)))), (ad 8, .inl (cT 0, 2, .inl ob)), (ad 9, .inl (cT 0, 2, .inl od)), (ad 10, .inl (cT 0, 2, .inl on)), (ad 11, .inl (cT 0, 8, .inl pg)), (ad 12, .inl (cT 0, 64, .inl tm)), (ad 13, .inl (cT 0, 8, .inl ts)), (ad 14, .inl (cT 0, 60, .inl tr)), (ad 15, .inl (cT 0, 9, .inl ki)), (ad 16, .inl (cT 0, 9, .inl mo)), (ad 17, .inl (cT 0, 9, .inl po)), (ad 18, .inl (cT 0, 9, .inl sr)), (ad 19, .inl (cT 0, 540, .inl ld))]) hw [] [0, 1, 2, 3, 4, 5, 6, 7, 8, 9, 10, 11, 12, 13, 14, 15, 16, 17, 18, 19] rfl rfl (by decide) (by decide) (va_runS (As := [.int host]) (rest := []) F (c_M_isHost l D cT host  _) (x_cwS 1 F (g_all y_M_isHost b_M_isHost 1 (some .boolean) (List.mem_cons_of_mem _ m_628)) rfl rfl rfl (F.2.2.2.2 _ (List.mem_cons_of_mem _ m_40)) (F.2.2.2.2 _ (List.mem_cons_of_mem _ m_626)) (F.2.2.2.2 _ (List.mem_cons_of_mem _ m_627)) (by decide +kernel) ⟨by decide, by decide⟩) (hw.preS [] (by decide) rfl) rfl rfl hl.1 rfl (lv_room (Nat.le_of_ble_eq_true rfl)) d_M_run_1 ⟨by decide, by decide⟩) (fun r2 u3 H locs e1 hw => ?_)
  have hw : Hw D vwCl (TYS cT) A s (MW ad cT im me ro up ho di os ob od on pg tm ts tr ki mo po sr ld st ow nu go la so se sl sp tp rd pn) H locs := hw
  refine lv_if_eq (pc := 4) (tgt := 18) F.1 F.2.1 d_M_run_4 rfl (fun h4 => ?_) (fun h4 => ?_)
  · refine lv_iconst (pc := 18) (v := (-1)) F.1 F.2.1 d_M_run_18 (by decide) ?_
    refine W.widen (k := 0) (n := 0) (by decide) (by decide) ?_
    exact ret (-1) (me, ro, pg, os, ob, od, on) _ _ 19 _ (by unfold F_M_run <;> rw [e1] <;> (try dsimp only) <;> rw [if_pos h4] <;> rfl) hw d_M_run_19
  · have nh := isHost_nat e1 h4
    have nhb := nh.2
    refine lv_iload_n (pc := 7) F.1 F.2.1 d_M_run_7 rfl (lv_at hl 2 rfl) ?_
    refine lv_iconst (pc := 8) (v := 1) F.1 F.2.1 d_M_run_8 (by decide) ?_
    refine lv_icmp_lt (pc := 9) (tgt := 18) F.1 F.2.1 d_M_run_9 rfl (fun h5 => ?_) (fun h5 => ?_)
    · refine lv_iconst (pc := 18) (v := (-1)) F.1 F.2.1 d_M_run_18 (by decide) ?_
      refine W.widen (k := 0) (n := 0) (by decide) (by decide) ?_
      exact ret (-1) (me, ro, pg, os, ob, od, on) _ _ 19 _ (by unfold F_M_run <;> rw [e1] <;> (try dsimp only) <;> rw [if_neg h4] <;> rw [if_pos h5] <;> rfl) hw d_M_run_19
    · refine lv_iload_n (pc := 12) F.1 F.2.1 d_M_run_12 rfl (lv_at hl 2 rfl) ?_
      refine lv_bipush (pc := 13) (v := 100) F.1 F.2.1 d_M_run_13 (by decide) ?_
      refine lv_icmp_le (pc := 15) (tgt := 20) F.1 F.2.1 d_M_run_15 rfl (fun h6 => ?_) (fun h6 => ?_)
      · have nn := isN_le1 h5 (y := 100) (b := 100) rfl h6
        have nnb := nn.2
        refine lv_aload_n (pc := 20) F.1 F.2.1 d_M_run_20 rfl (lv_at hl 0 rfl) ?_
        refine lv_iload_n (pc := 21) F.1 F.2.1 d_M_run_21 rfl (lv_at hl 1 rfl) ?_
        refine x_top (y := nI (tN host)) nh.1 ?_
        refine x_calli (pc := 22) (wr := []) hw [0, 1, 2, 3, 4, 5, 6, 7, 8, 9, 10, 11, 12, 13, 14, 15, 16, 17, 18, 19] [] rfl rfl (by decide) (by decide) (va_runV (As := [.int (nI (tN host))]) (rest := []) F (c_M_runs l D cT ad im me ro up ho di os ob od on pg tm ts tr ki mo po sr ld st ow nu go la so se sl sp tp rd pn (tN host) (by omega) _) (x_cw (C := "MovingGuestModel") 1 F (g_all y_M_runs b_M_runs 2 (some .boolean) (List.mem_cons_of_mem _ m_635)) rfl rfl rfl (F.2.2.2.2 _ (List.mem_cons_of_mem _ m_40)) (F.2.2.2.2 _ (List.mem_cons_of_mem _ m_633)) (F.2.2.2.2 _ (List.mem_cons_of_mem _ m_634)) (F.2.2.2.2 _ (List.mem_cons_of_mem _ m_16)) (by decide +kernel) ⟨by decide, by decide⟩) (hw.preV (q0 := 0) [0, 1, 2, 3, 4, 5, 6, 7, 8, 9, 10, 11, 12, 13, 14, 15, 16, 17, 18, 19] (by decide) rfl rfl rfl) rfl rfl hl.1 rfl (lv_room (Nat.le_of_ble_eq_true rfl)) d_M_run_22 ⟨by decide, by decide⟩) (fun r8 u9 H locs e7 hw => ?_)
        refine lv_if_ne (pc := 25) (tgt := 31) F.1 F.2.1 d_M_run_25 rfl (fun h10 => ?_) (fun h10 => ?_)
        · have hho := runs_ho e7 h10
          have n2 := n0 _ nhb hho
          have n3 := n1 _ nhb hho
          refine lv_iconst (pc := 31) (v := 0) F.1 F.2.1 d_M_run_31 (by decide) ?_
          refine lv_istore_n (pc := 32) (lv' := [(3, .int 0), (0, .ref (ad 0)), (1, .int host), (2, .int n)]) F.1 F.2.1 d_M_run_32 rfl hl (by decide) rfl (fun ls hl => ?_)
          have loop11 : ∀ (kf : Nat) (f : Nat) (dn : Nat) (meL : Nat → Int32) (roL : Nat → Int32) (pgL : Nat → Int32) (osL : Nat → Bool) (obL : Nat → Int32) (odL : Nat → Int32) (onL : Nat → Int32) (ls : Array Slot) (H : Heap) (locs : List Loc), f = kf → (f + dn = tN n) → (isN (roL (60 * tN host + 4)) 64) → (isN (roL (60 * tN host + 15)) 41) → (F_M_run me ro up ho di os ob od on pg st ow nu go so host n = runF di nu go so (tN host) f dn meL roL pgL osL obL odL onL) → lv_has ls 4 [(3, .int (nI dn)), (0, .ref (ad 0)), (1, .int host), (2, .int n)] → Hw D vwCl (TYS cT) A s (MW ad cT im meL roL up ho di osL obL odL onL pgL tm ts tr ki mo po sr ld st ow nu go la so se sl sp tp rd pn) H locs → W p l e { frames := 2, cells := 0, slots := 0, locals := 52 } s m args below meth c H locs 0 0 Q (F0 m 33 ls []) := by
            intro kf
            induction kf using Nat.strongRecOn with
            | _ kf ih11 =>
            intro f dn meL roL pgL osL obL odL onL ls H locs hk hi n2 n3 hF hl hw
            refine lv_iload_n (pc := 33) F.1 F.2.1 d_M_run_33 rfl (lv_at hl 0 rfl) ?_
            refine lv_iload_n (pc := 34) F.1 F.2.1 d_M_run_34 rfl (lv_at hl 3 rfl) ?_
            refine x_top (y := nI (tN n)) nn.1 ?_
            refine lv_icmp_ge (pc := 35) (tgt := 52) F.1 F.2.1 d_M_run_35 rfl (fun h12 => ?_) (fun h12 => ?_)
            · have h12 := (nI_leI (a := tN n) (b := dn) (by omega) (by omega)).mp h12
              obtain rfl : f = 0 := by omega
              refine lv_iload_n (pc := 52) F.1 F.2.1 d_M_run_52 rfl (lv_at hl 0 rfl) ?_
              refine W.widen (k := 0) (n := 0) (by decide) (by decide) ?_
              exact ret (nI dn) (meL, roL, pgL, osL, obL, odL, onL) _ _ 53 _ (by rw [hF, runF] <;> rfl) hw d_M_run_53
            · have h12 : ¬ tN n ≤ dn := fun z9 => h12 ((nI_leI (a := tN n) (b := dn) (by omega) (by omega)).mpr z9)
              obtain ⟨f, rfl⟩ : ∃ x, f = x + 1 := ⟨f - 1, by omega⟩
              refine lv_aload_n (pc := 38) F.1 F.2.1 d_M_run_38 rfl (lv_at hl 1 rfl) ?_
              refine lv_iload_n (pc := 39) F.1 F.2.1 d_M_run_39 rfl (lv_at hl 2 rfl) ?_
              refine x_top (y := nI (tN host)) nh.1 ?_
              refine x_calli (pc := 40) (wr := []) hw [0, 1, 2, 3, 4, 5, 6, 7, 8, 9, 10, 11, 12, 13, 14, 15, 16, 17, 18, 19] [] rfl rfl (by decide) (by decide) (va_runV (As := [.int (nI (tN host))]) (rest := []) F (c_M_instruct l D cT ad im meL roL up ho di osL obL odL onL pgL tm ts tr ki mo po sr ld st ow nu go la so se sl sp tp rd pn (tN host) (meL (64 * tN host + tN (roL (60 * tN host + 4)))) (by omega) n2 n3 rfl _) (x_cw (C := "MovingGuestModel") 1 F (g_all y_M_instruct b_M_instruct 10 (some .boolean) (List.mem_cons_of_mem _ m_638)) rfl rfl rfl (F.2.2.2.2 _ (List.mem_cons_of_mem _ m_40)) (F.2.2.2.2 _ (List.mem_cons_of_mem _ m_636)) (F.2.2.2.2 _ (List.mem_cons_of_mem _ m_637)) (F.2.2.2.2 _ (List.mem_cons_of_mem _ m_17)) (by decide +kernel) ⟨by decide, by decide⟩) (hw.preV (q0 := 0) [0, 1, 2, 3, 4, 5, 6, 7, 8, 9, 10, 11, 12, 13, 14, 15, 16, 17, 18, 19] (by decide) rfl rfl rfl) rfl rfl hl.1 rfl (lv_room (Nat.le_of_ble_eq_true rfl)) d_M_run_40 ⟨by decide, by decide⟩) (fun r14 u22 H locs e13 hw => ?_)
              obtain ⟨mev15, rov16, pgv17, osv18, obv19, odv20, onv21⟩ := u22
              have hw : Hw D vwCl (TYS cT) A s (MW ad cT im mev15 rov16 up ho di osv18 obv19 odv20 onv21 pgv17 tm ts tr ki mo po sr ld st ow nu go la so se sl sp tp rd pn) H locs := hw
              refine lv_if_eq (pc := 43) (tgt := 52) F.1 F.2.1 d_M_run_43 rfl (fun h23 => ?_) (fun h23 => ?_)
              · refine lv_iload_n (pc := 52) F.1 F.2.1 d_M_run_52 rfl (lv_at hl 0 rfl) ?_
                refine W.widen (k := 0) (n := 0) (by decide) (by decide) ?_
                exact ret (nI dn) (mev15, rov16, pgv17, osv18, obv19, odv20, onv21) _ _ 53 _ (by rw [hF, runF] <;> rw [e13] <;> (try dsimp only) <;> rw [if_pos h23] <;> rfl) hw d_M_run_53
              · refine lv_iinc (pc := 46) (k := 0) (v := nI (dn + 1)) (lv' := [(3, .int (nI (dn + 1))), (0, .ref (ad 0)), (1, .int host), (2, .int n)]) F.1 F.2.1 d_M_run_46 hl rfl (x_add2 rfl rfl) (by decide) rfl (fun ls hl => ?_)
                refine lv_goto (pc := 49) (tgt := 33) F.1 F.2.1 d_M_run_49 rfl ?_
                exact ih11 _ (by omega) f (dn + 1) mev15 rov16 pgv17 osv18 obv19 odv20 onv21 _ _ _ rfl (by omega) (ins_inv n2 n3 nhb e13).1 (ins_inv n2 n3 nhb e13).2 (by rw [hF, runF] <;> rw [e13] <;> (try dsimp only) <;> rw [if_neg h23] <;> rfl) hl hw
          exact loop11 _ (tN n) 0 me ro pg os ob od on _ _ _ rfl (by omega) n2 n3 (by unfold F_M_run <;> rw [e1] <;> (try dsimp only) <;> rw [if_neg h4] <;> rw [if_neg h5] <;> rw [if_pos h6] <;> rw [e7] <;> (try dsimp only) <;> rw [if_neg h10] <;> rfl) hl hw
        · refine lv_bipush (pc := 28) (v := (-2)) F.1 F.2.1 d_M_run_28 (by decide) ?_
          refine W.widen (k := 0) (n := 0) (by decide) (by decide) ?_
          exact ret (-2) (me, ro, pg, os, ob, od, on) _ _ 30 _ (by unfold F_M_run <;> rw [e1] <;> (try dsimp only) <;> rw [if_neg h4] <;> rw [if_neg h5] <;> rw [if_pos h6] <;> rw [e7] <;> (try dsimp only) <;> rw [if_pos h10] <;> rfl) hw d_M_run_30
      · refine lv_iconst (pc := 18) (v := (-1)) F.1 F.2.1 d_M_run_18 (by decide) ?_
        refine W.widen (k := 0) (n := 0) (by decide) (by decide) ?_
        exact ret (-1) (me, ro, pg, os, ob, od, on) _ _ 19 _ (by unfold F_M_run <;> rw [e1] <;> (try dsimp only) <;> rw [if_neg h4] <;> rw [if_neg h5] <;> rw [if_neg h6] <;> rfl) hw d_M_run_19
