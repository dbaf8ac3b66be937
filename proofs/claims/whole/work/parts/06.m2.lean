def F_M_instruct (me : Nat → Int32) (ro : Nat → Int32) (di : Nat → Int32) (os : Nat → Bool) (ob : Nat → Int32) (od : Nat → Int32) (on : Nat → Int32) (pg : Nat → Int32) (nu : Int32) (go : Bool) (so : Int32) (h0 : Nat) (v : Int32) : Int32 × (Nat → Int32) × (Nat → Int32) × (Nat → Int32) × (Nat → Bool) × (Nat → Int32) × (Nat → Int32) × (Nat → Int32) :=
  if (nI (lo 4 v)) = 0 then
    (0, (me, ro, pg, os, ob, od, on))
  else
    if 13 < (nI (lo 4 v)) then
      (0, (me, ro, pg, os, ob, od, on))
    else
      if (nI (lo 4 v)) = 11 then
        if (ro (60 * h0 + 56)) = 1 then
          (0, (me, ro, pg, os, ob, od, on))
        else
          let rov31 := F_M_tick (upd (upd (upd (upd (upd ro (60 * h0 + 56) 1) (60 * h0 + 57) (nI (lo 3 (nI (lo 6 (v >>> (8 &&& 31))))))) (60 * h0 + 58) ((upd (upd ro (60 * h0 + 56) 1) (60 * h0 + 57) (nI (lo 3 (nI (lo 6 (v >>> (8 &&& 31))))))) (60 * h0 + (lo 2 (v >>> (4 &&& 31)))))) (60 * h0 + 59) (((upd (upd (upd ro (60 * h0 + 56) 1) (60 * h0 + 57) (nI (lo 3 (nI (lo 6 (v >>> (8 &&& 31))))))) (60 * h0 + 58) ((upd (upd ro (60 * h0 + 56) 1) (60 * h0 + 57) (nI (lo 3 (nI (lo 6 (v >>> (8 &&& 31))))))) (60 * h0 + (lo 2 (v >>> (4 &&& 31)))))) (60 * h0 + 59)) + 1)) (60 * h0 + 4) (nI (lo 6 (((upd (upd (upd (upd ro (60 * h0 + 56) 1) (60 * h0 + 57) (nI (lo 3 (nI (lo 6 (v >>> (8 &&& 31))))))) (60 * h0 + 58) ((upd (upd ro (60 * h0 + 56) 1) (60 * h0 + 57) (nI (lo 3 (nI (lo 6 (v >>> (8 &&& 31))))))) (60 * h0 + (lo 2 (v >>> (4 &&& 31)))))) (60 * h0 + 59) (((upd (upd (upd ro (60 * h0 + 56) 1) (60 * h0 + 57) (nI (lo 3 (nI (lo 6 (v >>> (8 &&& 31))))))) (60 * h0 + 58) ((upd (upd ro (60 * h0 + 56) 1) (60 * h0 + 57) (nI (lo 3 (nI (lo 6 (v >>> (8 &&& 31))))))) (60 * h0 + (lo 2 (v >>> (4 &&& 31)))))) (60 * h0 + 59)) + 1)) (60 * h0 + 4)) + 1)))) (60 * h0)
          (1, (me, rov31, pg, va_up os h0 true, upd ob h0 ((upd (upd (upd ro (60 * h0 + 56) 1) (60 * h0 + 57) (nI (lo 3 (nI (lo 6 (v >>> (8 &&& 31))))))) (60 * h0 + 58) ((upd (upd ro (60 * h0 + 56) 1) (60 * h0 + 57) (nI (lo 3 (nI (lo 6 (v >>> (8 &&& 31))))))) (60 * h0 + (lo 2 (v >>> (4 &&& 31)))))) (60 * h0 + 57)), upd od h0 ((upd (upd (upd ro (60 * h0 + 56) 1) (60 * h0 + 57) (nI (lo 3 (nI (lo 6 (v >>> (8 &&& 31))))))) (60 * h0 + 58) ((upd (upd ro (60 * h0 + 56) 1) (60 * h0 + 57) (nI (lo 3 (nI (lo 6 (v >>> (8 &&& 31))))))) (60 * h0 + (lo 2 (v >>> (4 &&& 31)))))) (60 * h0 + 58)), upd on h0 nu))
      else
        if (nI (lo 4 v)) = 12 then
          if (ro (60 * h0 + 56)) = 1 then
            (0, (me, ro, pg, os, ob, od, on))
          else
            let rov204 := F_M_tick (upd (upd (upd ro (60 * h0 + (lo 2 (v >>> (4 &&& 31)))) (di (lo 3 (nI (lo 6 (v >>> (8 &&& 31))))))) (60 * h0 + 59) (((upd ro (60 * h0 + (lo 2 (v >>> (4 &&& 31)))) (di (lo 3 (nI (lo 6 (v >>> (8 &&& 31))))))) (60 * h0 + 59)) + 1)) (60 * h0 + 4) (nI (lo 6 (((upd (upd ro (60 * h0 + (lo 2 (v >>> (4 &&& 31)))) (di (lo 3 (nI (lo 6 (v >>> (8 &&& 31))))))) (60 * h0 + 59) (((upd ro (60 * h0 + (lo 2 (v >>> (4 &&& 31)))) (di (lo 3 (nI (lo 6 (v >>> (8 &&& 31))))))) (60 * h0 + 59)) + 1)) (60 * h0 + 4)) + 1)))) (60 * h0)
            (1, (me, rov204, pg, os, ob, od, on))
        else
          if (nI (lo 4 v)) = 7 then
            let rov46 := F_M_tick (upd (upd ro (60 * h0 + 59) ((ro (60 * h0 + 59)) + 1)) (60 * h0 + 4) (nI (lo 6 (v >>> (8 &&& 31))))) (60 * h0)
            (1, (me, rov46, pg, os, ob, od, on))
          else
            if (nI (lo 4 v)) = 8 then
              if (ro (60 * h0 + (lo 2 (v >>> (4 &&& 31))))) = 0 then
                let rov186 := F_M_tick (upd (upd ro (60 * h0 + 59) ((ro (60 * h0 + 59)) + 1)) (60 * h0 + 4) (nI (lo 6 (v >>> (8 &&& 31))))) (60 * h0)
                (1, (me, rov186, pg, os, ob, od, on))
              else
                let rov173 := F_M_tick (upd (upd ro (60 * h0 + 59) ((ro (60 * h0 + 59)) + 1)) (60 * h0 + 4) (nI (lo 6 (((upd ro (60 * h0 + 59) ((ro (60 * h0 + 59)) + 1)) (60 * h0 + 4)) + 1)))) (60 * h0)
                (1, (me, rov173, pg, os, ob, od, on))
            else
              if (nI (lo 4 v)) = 1 then
                let rov158 := F_M_tick (upd (upd (upd ro (60 * h0 + (lo 2 (v >>> (4 &&& 31)))) (v >>> (16 &&& 31))) (60 * h0 + 59) (((upd ro (60 * h0 + (lo 2 (v >>> (4 &&& 31)))) (v >>> (16 &&& 31))) (60 * h0 + 59)) + 1)) (60 * h0 + 4) (nI (lo 6 (((upd (upd ro (60 * h0 + (lo 2 (v >>> (4 &&& 31)))) (v >>> (16 &&& 31))) (60 * h0 + 59) (((upd ro (60 * h0 + (lo 2 (v >>> (4 &&& 31)))) (v >>> (16 &&& 31))) (60 * h0 + 59)) + 1)) (60 * h0 + 4)) + 1)))) (60 * h0)
                (1, (me, rov158, pg, os, ob, od, on))
              else
                if (nI (lo 4 v)) = 2 then
                  let rov145 := F_M_tick (upd (upd (upd ro (60 * h0 + (lo 2 (v >>> (4 &&& 31)))) ((ro (60 * h0 + (lo 2 (v >>> (4 &&& 31))))) + (ro (60 * h0 + (lo 2 (v >>> (6 &&& 31))))))) (60 * h0 + 59) (((upd ro (60 * h0 + (lo 2 (v >>> (4 &&& 31)))) ((ro (60 * h0 + (lo 2 (v >>> (4 &&& 31))))) + (ro (60 * h0 + (lo 2 (v >>> (6 &&& 31))))))) (60 * h0 + 59)) + 1)) (60 * h0 + 4) (nI (lo 6 (((upd (upd ro (60 * h0 + (lo 2 (v >>> (4 &&& 31)))) ((ro (60 * h0 + (lo 2 (v >>> (4 &&& 31))))) + (ro (60 * h0 + (lo 2 (v >>> (6 &&& 31))))))) (60 * h0 + 59) (((upd ro (60 * h0 + (lo 2 (v >>> (4 &&& 31)))) ((ro (60 * h0 + (lo 2 (v >>> (4 &&& 31))))) + (ro (60 * h0 + (lo 2 (v >>> (6 &&& 31))))))) (60 * h0 + 59)) + 1)) (60 * h0 + 4)) + 1)))) (60 * h0)
                  (1, (me, rov145, pg, os, ob, od, on))
                else
                  if (nI (lo 4 v)) = 3 then
                    let rov133 := F_M_tick (upd (upd (upd ro (60 * h0 + (lo 2 (v >>> (4 &&& 31)))) ((ro (60 * h0 + (lo 2 (v >>> (4 &&& 31))))) - (ro (60 * h0 + (lo 2 (v >>> (6 &&& 31))))))) (60 * h0 + 59) (((upd ro (60 * h0 + (lo 2 (v >>> (4 &&& 31)))) ((ro (60 * h0 + (lo 2 (v >>> (4 &&& 31))))) - (ro (60 * h0 + (lo 2 (v >>> (6 &&& 31))))))) (60 * h0 + 59)) + 1)) (60 * h0 + 4) (nI (lo 6 (((upd (upd ro (60 * h0 + (lo 2 (v >>> (4 &&& 31)))) ((ro (60 * h0 + (lo 2 (v >>> (4 &&& 31))))) - (ro (60 * h0 + (lo 2 (v >>> (6 &&& 31))))))) (60 * h0 + 59) (((upd ro (60 * h0 + (lo 2 (v >>> (4 &&& 31)))) ((ro (60 * h0 + (lo 2 (v >>> (4 &&& 31))))) - (ro (60 * h0 + (lo 2 (v >>> (6 &&& 31))))))) (60 * h0 + 59)) + 1)) (60 * h0 + 4)) + 1)))) (60 * h0)
                    (1, (me, rov133, pg, os, ob, od, on))
                  else
                    if (nI (lo 4 v)) = 4 then
                      let rov122 := F_M_tick (upd (upd (upd ro (60 * h0 + (lo 2 (v >>> (4 &&& 31)))) ((ro (60 * h0 + (lo 2 (v >>> (4 &&& 31))))) * (ro (60 * h0 + (lo 2 (v >>> (6 &&& 31))))))) (60 * h0 + 59) (((upd ro (60 * h0 + (lo 2 (v >>> (4 &&& 31)))) ((ro (60 * h0 + (lo 2 (v >>> (4 &&& 31))))) * (ro (60 * h0 + (lo 2 (v >>> (6 &&& 31))))))) (60 * h0 + 59)) + 1)) (60 * h0 + 4) (nI (lo 6 (((upd (upd ro (60 * h0 + (lo 2 (v >>> (4 &&& 31)))) ((ro (60 * h0 + (lo 2 (v >>> (4 &&& 31))))) * (ro (60 * h0 + (lo 2 (v >>> (6 &&& 31))))))) (60 * h0 + 59) (((upd ro (60 * h0 + (lo 2 (v >>> (4 &&& 31)))) ((ro (60 * h0 + (lo 2 (v >>> (4 &&& 31))))) * (ro (60 * h0 + (lo 2 (v >>> (6 &&& 31))))))) (60 * h0 + 59)) + 1)) (60 * h0 + 4)) + 1)))) (60 * h0)
                      (1, (me, rov122, pg, os, ob, od, on))
                    else
                      if (nI (lo 4 v)) = 5 then
                        let rov112 := F_M_tick (upd (upd (upd ro (60 * h0 + (lo 2 (v >>> (4 &&& 31)))) (me (64 * h0 + (lo 6 ((ro (60 * h0 + (lo 2 (v >>> (6 &&& 31))))) + (nI (lo 6 (v >>> (8 &&& 31))))))))) (60 * h0 + 59) (((upd ro (60 * h0 + (lo 2 (v >>> (4 &&& 31)))) (me (64 * h0 + (lo 6 ((ro (60 * h0 + (lo 2 (v >>> (6 &&& 31))))) + (nI (lo 6 (v >>> (8 &&& 31))))))))) (60 * h0 + 59)) + 1)) (60 * h0 + 4) (nI (lo 6 (((upd (upd ro (60 * h0 + (lo 2 (v >>> (4 &&& 31)))) (me (64 * h0 + (lo 6 ((ro (60 * h0 + (lo 2 (v >>> (6 &&& 31))))) + (nI (lo 6 (v >>> (8 &&& 31))))))))) (60 * h0 + 59) (((upd ro (60 * h0 + (lo 2 (v >>> (4 &&& 31)))) (me (64 * h0 + (lo 6 ((ro (60 * h0 + (lo 2 (v >>> (6 &&& 31))))) + (nI (lo 6 (v >>> (8 &&& 31))))))))) (60 * h0 + 59)) + 1)) (60 * h0 + 4)) + 1)))) (60 * h0)
                        (1, (me, rov112, pg, os, ob, od, on))
                      else
                        if (nI (lo 4 v)) = 6 then
                          match F_M_written me pg go so h0 (lo 6 ((ro (60 * h0 + (lo 2 (v >>> (6 &&& 31))))) + (nI (lo 6 (v >>> (8 &&& 31)))))) (ro (60 * h0 + (lo 2 (v >>> (4 &&& 31))))) with
                          | (mev92, pgv93) =>
                            let rov102 := F_M_tick (upd (upd ro (60 * h0 + 59) ((ro (60 * h0 + 59)) + 1)) (60 * h0 + 4) (nI (lo 6 (((upd ro (60 * h0 + 59) ((ro (60 * h0 + 59)) + 1)) (60 * h0 + 4)) + 1)))) (60 * h0)
                            (1, (mev92, rov102, pgv93, os, ob, od, on))
                        else
                          if (nI (lo 4 v)) = 9 then
                            if 40 ≤ (nI (tN (ro (60 * h0 + 15)))) then
                              let rov82 := F_M_tick (upd (upd ro (60 * h0 + 59) ((ro (60 * h0 + 59)) + 1)) (60 * h0 + 4) (nI (lo 6 (((upd ro (60 * h0 + 59) ((ro (60 * h0 + 59)) + 1)) (60 * h0 + 4)) + 1)))) (60 * h0)
                              (1, (me, rov82, pg, os, ob, od, on))
                            else
                              let rov89 := F_M_tick (upd (upd (upd (upd ro (60 * h0 + 16 + (tN (ro (60 * h0 + 15)))) (ro (60 * h0 + (lo 2 (v >>> (4 &&& 31)))))) (60 * h0 + 15) (((upd ro (60 * h0 + 16 + (tN (ro (60 * h0 + 15)))) (ro (60 * h0 + (lo 2 (v >>> (4 &&& 31)))))) (60 * h0 + 15)) + 1)) (60 * h0 + 59) (((upd (upd ro (60 * h0 + 16 + (tN (ro (60 * h0 + 15)))) (ro (60 * h0 + (lo 2 (v >>> (4 &&& 31)))))) (60 * h0 + 15) (((upd ro (60 * h0 + 16 + (tN (ro (60 * h0 + 15)))) (ro (60 * h0 + (lo 2 (v >>> (4 &&& 31)))))) (60 * h0 + 15)) + 1)) (60 * h0 + 59)) + 1)) (60 * h0 + 4) (nI (lo 6 (((upd (upd (upd ro (60 * h0 + 16 + (tN (ro (60 * h0 + 15)))) (ro (60 * h0 + (lo 2 (v >>> (4 &&& 31)))))) (60 * h0 + 15) (((upd ro (60 * h0 + 16 + (tN (ro (60 * h0 + 15)))) (ro (60 * h0 + (lo 2 (v >>> (4 &&& 31)))))) (60 * h0 + 15)) + 1)) (60 * h0 + 59) (((upd (upd ro (60 * h0 + 16 + (tN (ro (60 * h0 + 15)))) (ro (60 * h0 + (lo 2 (v >>> (4 &&& 31)))))) (60 * h0 + 15) (((upd ro (60 * h0 + 16 + (tN (ro (60 * h0 + 15)))) (ro (60 * h0 + (lo 2 (v >>> (4 &&& 31)))))) (60 * h0 + 15)) + 1)) (60 * h0 + 59)) + 1)) (60 * h0 + 4)) + 1)))) (60 * h0)
                              (1, (me, rov89, pg, os, ob, od, on))
                          else
                            if (nI (lo 4 v)) = 10 then
                              match F_M_taken ro (60 * h0) with
                              | (r67, rov68) =>
                                let rov74 := F_M_tick (upd (upd (upd rov68 (60 * h0 + (lo 2 (v >>> (4 &&& 31)))) r67) (60 * h0 + 59) (((upd rov68 (60 * h0 + (lo 2 (v >>> (4 &&& 31)))) r67) (60 * h0 + 59)) + 1)) (60 * h0 + 4) (nI (lo 6 (((upd (upd rov68 (60 * h0 + (lo 2 (v >>> (4 &&& 31)))) r67) (60 * h0 + 59) (((upd rov68 (60 * h0 + (lo 2 (v >>> (4 &&& 31)))) r67) (60 * h0 + 59)) + 1)) (60 * h0 + 4)) + 1)))) (60 * h0)
                                (1, (me, rov74, pg, os, ob, od, on))
                            else
                              if (nI (lo 4 v)) = 13 then
                                let rov65 := F_M_tick (upd (upd (upd ro (60 * h0 + 5) (nI (lo 8 (ro (60 * h0 + (lo 2 (v >>> (4 &&& 31))))) + 1))) (60 * h0 + 59) (((upd ro (60 * h0 + 5) (nI (lo 8 (ro (60 * h0 + (lo 2 (v >>> (4 &&& 31))))) + 1))) (60 * h0 + 59)) + 1)) (60 * h0 + 4) (nI (lo 6 (((upd (upd ro (60 * h0 + 5) (nI (lo 8 (ro (60 * h0 + (lo 2 (v >>> (4 &&& 31))))) + 1))) (60 * h0 + 59) (((upd ro (60 * h0 + 5) (nI (lo 8 (ro (60 * h0 + (lo 2 (v >>> (4 &&& 31))))) + 1))) (60 * h0 + 59)) + 1)) (60 * h0 + 4)) + 1)))) (60 * h0)
                                (1, (me, rov65, pg, os, ob, od, on))
                              else
                                let rov61 := F_M_tick (upd (upd ro (60 * h0 + 59) ((ro (60 * h0 + 59)) + 1)) (60 * h0 + 4) (nI (lo 6 (((upd ro (60 * h0 + 59) ((ro (60 * h0 + 59)) + 1)) (60 * h0 + 4)) + 1)))) (60 * h0)
                                (1, (me, rov61, pg, os, ob, od, on))
set_option maxHeartbeats 4000000 in
set_option maxRecDepth 100000 in
theorem c_M_instruct (l : Launch) (D : va_G) (cT : Nat → ClassId) (ad : Nat → Nat) (im : Nat → Int32) (me : Nat → Int32) (ro : Nat → Int32) (up : Nat → Bool) (ho : Nat → Bool) (di : Nat → Int32) (os : Nat → Bool) (ob : Nat → Int32) (od : Nat → Int32) (on : Nat → Int32) (pg : Nat → Int32) (tm : Nat → Int32) (ts : Nat → Int32) (tr : Nat → Int32) (ki : Nat → Int32) (mo : Nat → Int32) (po : Nat → Int32) (sr : Nat → Int32) (ld : Nat → Int32) (st : Bool) (ow : Int32) (nu : Int32) (go : Bool) (la : Int32) (so : Int32) (se : Int32) (sl : Int32) (sp : Int32) (tp : Bool) (rd : Bool) (pn : Int32) (h0 : Nat) (v : Int32) (hh : h0 < 2) (n0 : isN (ro (60 * h0 + 4)) 64) (n1 : isN (ro (60 * h0 + 15)) 41) (hv : me (64 * h0 + tN (ro (60 * h0 + 4))) = v) : Cti l y_M_instruct ws_M_instruct { frames := 1, cells := 0, slots := 0, locals := 23 } D vwCl (TYS cT) [.ref (ad 0), .int (nI h0)] (MW ad cT im me ro up ho di os ob od on pg tm ts tr ki mo po sr ld st ow nu go la so se sl sp tp rd pn) (fun (rr : Int32) (uu : (Nat → Int32) × (Nat → Int32) × (Nat → Int32) × (Nat → Bool) × (Nat → Int32) × (Nat → Int32) × (Nat → Int32)) => F_M_instruct me ro di os ob od on pg nu go so h0 v = (rr, uu)) (fun (u : (Nat → Int32) × (Nat → Int32) × (Nat → Int32) × (Nat → Bool) × (Nat → Int32) × (Nat → Int32) × (Nat → Int32)) => MW ad cT im u.1 u.2.1 up ho di u.2.2.2.1 u.2.2.2.2.1 u.2.2.2.2.2.1 u.2.2.2.2.2.2 u.2.2.1 tm ts tr ki mo po sr ld st ow nu go la so se sl sp tp rd pn) 0 0 := by
  refine x_inz (cc := b_M_instruct) (maxL := 10) (by decide) rfl (Nat.le_of_ble_eq_true rfl) ?_
  intro p e s m args below meth c A ls Q F hl hw ret
  have hl : lv_has ls 10 [(0, .ref (ad 0)), (1, .int (nI h0))] := hl
  have n0b := n0.2
  have n1b := n1.2
  refine lv_bipush (pc := 0) (v := 60) F.1 F.2.1 d_M_instruct_0 (by decide) ?_
  refine lv_iload_n (pc := 2) F.1 F.2.1 d_M_instruct_2 rfl (lv_at hl 1 rfl) ?_
  refine lv_imul (pc := 3) F.1 F.2.1 d_M_instruct_3 ?_
  refine x_top (y := nI (60 * h0)) (x_mul2 rfl rfl) ?_
  refine lv_istore_n (pc := 4) (lv' := [(2, .int (nI (60 * h0))), (0, .ref (ad 0)), (1, .int (nI h0))]) F.1 F.2.1 d_M_instruct_4 rfl hl (by decide) rfl (fun ls hl => ?_)
  refine lv_aload_n (pc := 5) F.1 F.2.1 d_M_instruct_5 rfl (lv_at hl 1 rfl) ?_
  refine x_get (pc := 6) (v := .ref (ad 2)) F hw 0 1 (fun x h => List.mem_cons_of_mem _ (in_M x h)) rfl rfl (by decide) (List.mem_cons_of_mem _ m_524) rfl d_M_instruct_6 ?_
  refine lv_bipush (pc := 9) (v := 64) F.1 F.2.1 d_M_instruct_9 (by decide) ?_
  refine lv_iload_n (pc := 11) F.1 F.2.1 d_M_instruct_11 rfl (lv_at hl 2 rfl) ?_
  refine lv_imul (pc := 12) F.1 F.2.1 d_M_instruct_12 ?_
  refine x_top (y := nI (64 * h0)) (x_mul2 rfl rfl) ?_
  refine lv_aload_n (pc := 13) F.1 F.2.1 d_M_instruct_13 rfl (lv_at hl 1 rfl) ?_
  refine x_get (pc := 14) (v := .ref (ad 3)) F hw 0 2 (fun x h => List.mem_cons_of_mem _ (in_M x h)) rfl rfl (by decide) (List.mem_cons_of_mem _ m_525) rfl d_M_instruct_14 ?_
  refine lv_iload_n (pc := 17) F.1 F.2.1 d_M_instruct_17 rfl (lv_at hl 0 rfl) ?_
  refine lv_iconst (pc := 18) (v := 4) F.1 F.2.1 d_M_instruct_18 (by decide) ?_
  refine lv_iadd (pc := 19) F.1 F.2.1 d_M_instruct_19 ?_
  refine x_top (y := nI (60 * h0 + 4)) (x_add2 rfl rfl) ?_
  refine x_iald (pc := 20) F hw 3 0 (60 * h0 + 4) rfl rfl rfl (by omega) (by decide) d_M_instruct_20 ?_
  refine x_top (y := nI (tN (ro (60 * h0 + 4)))) n0.1 ?_
  refine lv_iadd (pc := 21) F.1 F.2.1 d_M_instruct_21 ?_
  refine x_top (y := nI (64 * h0 + (tN (ro (60 * h0 + 4))))) (x_add2 rfl rfl) ?_
  refine x_iald (pc := 22) F hw 2 0 (64 * h0 + (tN (ro (60 * h0 + 4)))) rfl rfl rfl (by omega) (by decide) d_M_instruct_22 ?_
  refine x_top (y := v) (hv) ?_
  refine lv_istore_n (pc := 23) (lv' := [(3, .int v), (2, .int (nI (60 * h0))), (0, .ref (ad 0)), (1, .int (nI h0))]) F.1 F.2.1 d_M_instruct_23 rfl hl (by decide) rfl (fun ls hl => ?_)
  refine lv_iload_n (pc := 24) F.1 F.2.1 d_M_instruct_24 rfl (lv_at hl 0 rfl) ?_
  refine lv_bipush (pc := 25) (v := 15) F.1 F.2.1 d_M_instruct_25 (by decide) ?_
  refine lv_iand (pc := 27) F.1 F.2.1 d_M_instruct_27 ?_
  refine x_top (y := nI (lo 4 v)) (lo_and 4 _ _ (by decide)) ?_
  have b1 : lo 4 v < 16 := lo_lt 4 _
  refine lv_istore (pc := 28) (lv' := [(4, .int (nI (lo 4 v))), (3, .int v), (2, .int (nI (60 * h0))), (0, .ref (ad 0)), (1, .int (nI h0))]) F.1 F.2.1 d_M_instruct_28 hl (by decide) rfl (fun ls hl => ?_)
  refine lv_iload_n (pc := 30) F.1 F.2.1 d_M_instruct_30 rfl (lv_at hl 2 rfl) ?_
  refine lv_iload_n (pc := 31) F.1 F.2.1 d_M_instruct_31 rfl (lv_at hl 1 rfl) ?_
  refine lv_iconst (pc := 32) (v := 4) F.1 F.2.1 d_M_instruct_32 (by decide) ?_
  refine lv_ishr (pc := 33) F.1 F.2.1 d_M_instruct_33 ?_
  refine lv_iconst (pc := 34) (v := 3) F.1 F.2.1 d_M_instruct_34 (by decide) ?_
  refine lv_iand (pc := 35) F.1 F.2.1 d_M_instruct_35 ?_
  refine x_top (y := nI (lo 2 (v >>> (4 &&& 31)))) (lo_and 2 _ _ (by decide)) ?_
  have b2 : lo 2 (v >>> (4 &&& 31)) < 4 := lo_lt 2 _
  refine lv_iadd (pc := 36) F.1 F.2.1 d_M_instruct_36 ?_
  refine x_top (y := nI (60 * h0 + (lo 2 (v >>> (4 &&& 31))))) (x_add2 rfl rfl) ?_
  refine lv_istore (pc := 37) (lv' := [(5, .int (nI (60 * h0 + (lo 2 (v >>> (4 &&& 31)))))), (4, .int (nI (lo 4 v))), (3, .int v), (2, .int (nI (60 * h0))), (0, .ref (ad 0)), (1, .int (nI h0))]) F.1 F.2.1 d_M_instruct_37 hl (by decide) rfl (fun ls hl => ?_)
  refine lv_aload_n (pc := 39) F.1 F.2.1 d_M_instruct_39 rfl (lv_at hl 4 rfl) ?_
  refine x_get (pc := 40) (v := .ref (ad 3)) F hw 0 2 (fun x h => List.mem_cons_of_mem _ (in_M x h)) rfl rfl (by decide) (List.mem_cons_of_mem _ m_525) rfl d_M_instruct_40 ?_
  refine lv_iload_n (pc := 43) F.1 F.2.1 d_M_instruct_43 rfl (lv_at hl 3 rfl) ?_
  refine lv_iload_n (pc := 44) F.1 F.2.1 d_M_instruct_44 rfl (lv_at hl 2 rfl) ?_
  refine lv_bipush (pc := 45) (v := 6) F.1 F.2.1 d_M_instruct_45 (by decide) ?_
  refine lv_ishr (pc := 47) F.1 F.2.1 d_M_instruct_47 ?_
  refine lv_iconst (pc := 48) (v := 3) F.1 F.2.1 d_M_instruct_48 (by decide) ?_
  refine lv_iand (pc := 49) F.1 F.2.1 d_M_instruct_49 ?_
  refine x_top (y := nI (lo 2 (v >>> (6 &&& 31)))) (lo_and 2 _ _ (by decide)) ?_
  have b3 : lo 2 (v >>> (6 &&& 31)) < 4 := lo_lt 2 _
  refine lv_iadd (pc := 50) F.1 F.2.1 d_M_instruct_50 ?_
  refine x_top (y := nI (60 * h0 + (lo 2 (v >>> (6 &&& 31))))) (x_add2 rfl rfl) ?_
  refine x_iald (pc := 51) F hw 3 0 (60 * h0 + (lo 2 (v >>> (6 &&& 31)))) rfl rfl rfl (by omega) (by decide) d_M_instruct_51 ?_
  refine lv_istore (pc := 52) (lv' := [(6, .int (ro (60 * h0 + (lo 2 (v >>> (6 &&& 31)))))), (5, .int (nI (60 * h0 + (lo 2 (v >>> (4 &&& 31)))))), (4, .int (nI (lo 4 v))), (3, .int v), (2, .int (nI (60 * h0))), (0, .ref (ad 0)), (1, .int (nI h0))]) F.1 F.2.1 d_M_instruct_52 hl (by decide) rfl (fun ls hl => ?_)
  refine lv_iload_n (pc := 54) F.1 F.2.1 d_M_instruct_54 rfl (lv_at hl 3 rfl) ?_
  refine lv_bipush (pc := 55) (v := 8) F.1 F.2.1 d_M_instruct_55 (by decide) ?_
  refine lv_ishr (pc := 57) F.1 F.2.1 d_M_instruct_57 ?_
  refine lv_bipush (pc := 58) (v := 63) F.1 F.2.1 d_M_instruct_58 (by decide) ?_
  refine lv_iand (pc := 60) F.1 F.2.1 d_M_instruct_60 ?_
  refine x_top (y := nI (lo 6 (v >>> (8 &&& 31)))) (lo_and 6 _ _ (by decide)) ?_
  have b4 : lo 6 (v >>> (8 &&& 31)) < 64 := lo_lt 6 _
  refine lv_istore (pc := 61) (lv' := [(7, .int (nI (lo 6 (v >>> (8 &&& 31))))), (6, .int (ro (60 * h0 + (lo 2 (v >>> (6 &&& 31)))))), (5, .int (nI (60 * h0 + (lo 2 (v >>> (4 &&& 31)))))), (4, .int (nI (lo 4 v))), (3, .int v), (2, .int (nI (60 * h0))), (0, .ref (ad 0)), (1, .int (nI h0))]) F.1 F.2.1 d_M_instruct_61 hl (by decide) rfl (fun ls hl => ?_)
  refine lv_iload (pc := 63) F.1 F.2.1 d_M_instruct_63 (lv_at hl 3 rfl) ?_
  refine lv_if_eq (pc := 65) (tgt := 102) F.1 F.2.1 d_M_instruct_65 rfl (fun h5 => ?_) (fun h5 => ?_)
  · refine lv_iconst (pc := 102) (v := 1) F.1 F.2.1 d_M_instruct_102 (by decide) ?_
    refine lv_goto (pc := 103) (tgt := 107) F.1 F.2.1 d_M_instruct_103 rfl ?_
    refine lv_istore (pc := 107) (lv' := [(8, .int 1), (7, .int (nI (lo 6 (v >>> (8 &&& 31))))), (6, .int (ro (60 * h0 + (lo 2 (v >>> (6 &&& 31)))))), (5, .int (nI (60 * h0 + (lo 2 (v >>> (4 &&& 31)))))), (4, .int (nI (lo 4 v))), (3, .int v), (2, .int (nI (60 * h0))), (0, .ref (ad 0)), (1, .int (nI h0))]) F.1 F.2.1 d_M_instruct_107 hl (by decide) rfl (fun ls hl => ?_)
    refine lv_iload (pc := 109) F.1 F.2.1 d_M_instruct_109 (lv_at hl 0 rfl) ?_
    refine lv_if_eq (pc := 111) (tgt := 116) F.1 F.2.1 d_M_instruct_111 rfl (fun h => absurd h (by decide)) (fun _ => ?_)
    refine lv_iconst (pc := 114) (v := 0) F.1 F.2.1 d_M_instruct_114 (by decide) ?_
    refine W.widen (k := 0) (n := 0) (by decide) (by decide) ?_
    exact ret 0 (me, ro, pg, os, ob, od, on) _ _ 115 _ rfl (by unfold F_M_instruct <;> rw [if_pos h5] <;> rfl) hw d_M_instruct_115
  · refine lv_iload (pc := 68) F.1 F.2.1 d_M_instruct_68 (lv_at hl 3 rfl) ?_
    refine lv_bipush (pc := 70) (v := 13) F.1 F.2.1 d_M_instruct_70 (by decide) ?_
    refine lv_icmp_gt (pc := 72) (tgt := 102) F.1 F.2.1 d_M_instruct_72 rfl (fun h6 => ?_) (fun h6 => ?_)
    · refine lv_iconst (pc := 102) (v := 1) F.1 F.2.1 d_M_instruct_102 (by decide) ?_
      refine lv_goto (pc := 103) (tgt := 107) F.1 F.2.1 d_M_instruct_103 rfl ?_
      refine lv_istore (pc := 107) (lv' := [(8, .int 1), (7, .int (nI (lo 6 (v >>> (8 &&& 31))))), (6, .int (ro (60 * h0 + (lo 2 (v >>> (6 &&& 31)))))), (5, .int (nI (60 * h0 + (lo 2 (v >>> (4 &&& 31)))))), (4, .int (nI (lo 4 v))), (3, .int v), (2, .int (nI (60 * h0))), (0, .ref (ad 0)), (1, .int (nI h0))]) F.1 F.2.1 d_M_instruct_107 hl (by decide) rfl (fun ls hl => ?_)
      refine lv_iload (pc := 109) F.1 F.2.1 d_M_instruct_109 (lv_at hl 0 rfl) ?_
      refine lv_if_eq (pc := 111) (tgt := 116) F.1 F.2.1 d_M_instruct_111 rfl (fun h => absurd h (by decide)) (fun _ => ?_)
      refine lv_iconst (pc := 114) (v := 0) F.1 F.2.1 d_M_instruct_114 (by decide) ?_
      refine W.widen (k := 0) (n := 0) (by decide) (by decide) ?_
      exact ret 0 (me, ro, pg, os, ob, od, on) _ _ 115 _ rfl (by unfold F_M_instruct <;> rw [if_neg h5] <;> rw [if_pos h6] <;> rfl) hw d_M_instruct_115
    · refine lv_iload (pc := 75) F.1 F.2.1 d_M_instruct_75 (lv_at hl 3 rfl) ?_
      refine lv_bipush (pc := 77) (v := 11) F.1 F.2.1 d_M_instruct_77 (by decide) ?_
      refine lv_icmp_eq (pc := 79) (tgt := 89) F.1 F.2.1 d_M_instruct_79 rfl (fun h7 => ?_) (fun h7 => ?_)
      · refine lv_aload_n (pc := 89) F.1 F.2.1 d_M_instruct_89 rfl (lv_at hl 6 rfl) ?_
        refine x_get (pc := 90) (v := .ref (ad 3)) F hw 0 2 (fun x h => List.mem_cons_of_mem _ (in_M x h)) rfl rfl (by decide) (List.mem_cons_of_mem _ m_525) rfl d_M_instruct_90 ?_
        refine lv_iload_n (pc := 93) F.1 F.2.1 d_M_instruct_93 rfl (lv_at hl 5 rfl) ?_
        refine lv_bipush (pc := 94) (v := 56) F.1 F.2.1 d_M_instruct_94 (by decide) ?_
        refine lv_iadd (pc := 96) F.1 F.2.1 d_M_instruct_96 ?_
        refine x_top (y := nI (60 * h0 + 56)) (x_add2 rfl rfl) ?_
        refine x_iald (pc := 97) F hw 3 0 (60 * h0 + 56) rfl rfl rfl (by omega) (by decide) d_M_instruct_97 ?_
        refine lv_iconst (pc := 98) (v := 1) F.1 F.2.1 d_M_instruct_98 (by decide) ?_
        refine lv_icmp_ne (pc := 99) (tgt := 106) F.1 F.2.1 d_M_instruct_99 rfl (fun h8 => ?_) (fun h8 => ?_)
        · refine lv_iconst (pc := 106) (v := 0) F.1 F.2.1 d_M_instruct_106 (by decide) ?_
          refine lv_istore (pc := 107) (lv' := [(8, .int 0), (7, .int (nI (lo 6 (v >>> (8 &&& 31))))), (6, .int (ro (60 * h0 + (lo 2 (v >>> (6 &&& 31)))))), (5, .int (nI (60 * h0 + (lo 2 (v >>> (4 &&& 31)))))), (4, .int (nI (lo 4 v))), (3, .int v), (2, .int (nI (60 * h0))), (0, .ref (ad 0)), (1, .int (nI h0))]) F.1 F.2.1 d_M_instruct_107 hl (by decide) rfl (fun ls hl => ?_)
          refine lv_iload (pc := 109) F.1 F.2.1 d_M_instruct_109 (lv_at hl 0 rfl) ?_
          refine lv_if_eq (pc := 111) (tgt := 116) F.1 F.2.1 d_M_instruct_111 rfl (fun _ => ?_) (fun h => absurd h (by decide))
          refine lv_iload (pc := 116) F.1 F.2.1 d_M_instruct_116 (lv_at hl 4 rfl) ?_
          refine lv_bipush (pc := 118) (v := 7) F.1 F.2.1 d_M_instruct_118 (by decide) ?_
          refine lv_icmp_eq (pc := 120) (tgt := 140) F.1 F.2.1 d_M_instruct_120 rfl (fun h9 => (by rw [h7] at h9; exact absurd h9 (by decide))) (fun _ => ?_)
          refine lv_iload (pc := 123) F.1 F.2.1 d_M_instruct_123 (lv_at hl 4 rfl) ?_
          refine lv_bipush (pc := 125) (v := 8) F.1 F.2.1 d_M_instruct_125 (by decide) ?_
          refine lv_icmp_ne (pc := 127) (tgt := 144) F.1 F.2.1 d_M_instruct_127 rfl (fun _ => ?_) (fun h10 => (by rw [h7] at h10; exact absurd h10 (by decide)))
          refine lv_iconst (pc := 144) (v := 0) F.1 F.2.1 d_M_instruct_144 (by decide) ?_
          refine lv_istore (pc := 145) (lv' := [(9, .int 0), (8, .int 0), (7, .int (nI (lo 6 (v >>> (8 &&& 31))))), (6, .int (ro (60 * h0 + (lo 2 (v >>> (6 &&& 31)))))), (5, .int (nI (60 * h0 + (lo 2 (v >>> (4 &&& 31)))))), (4, .int (nI (lo 4 v))), (3, .int v), (2, .int (nI (60 * h0))), (0, .ref (ad 0)), (1, .int (nI h0))]) F.1 F.2.1 d_M_instruct_145 hl (by decide) rfl (fun ls hl => ?_)
          refine lv_iload (pc := 147) F.1 F.2.1 d_M_instruct_147 (lv_at hl 5 rfl) ?_
          refine lv_iconst (pc := 149) (v := 1) F.1 F.2.1 d_M_instruct_149 (by decide) ?_
          refine lv_icmp_ne (pc := 150) (tgt := 164) F.1 F.2.1 d_M_instruct_150 rfl (fun _ => ?_) (fun h11 => (by rw [h7] at h11; exact absurd h11 (by decide)))
          refine lv_iload (pc := 164) F.1 F.2.1 d_M_instruct_164 (lv_at hl 5 rfl) ?_
          refine lv_iconst (pc := 166) (v := 2) F.1 F.2.1 d_M_instruct_166 (by decide) ?_
          refine lv_icmp_ne (pc := 167) (tgt := 187) F.1 F.2.1 d_M_instruct_167 rfl (fun _ => ?_) (fun h12 => (by rw [h7] at h12; exact absurd h12 (by decide)))
          refine lv_iload (pc := 187) F.1 F.2.1 d_M_instruct_187 (lv_at hl 5 rfl) ?_
          refine lv_iconst (pc := 189) (v := 3) F.1 F.2.1 d_M_instruct_189 (by decide) ?_
          refine lv_icmp_ne (pc := 190) (tgt := 210) F.1 F.2.1 d_M_instruct_190 rfl (fun _ => ?_) (fun h13 => (by rw [h7] at h13; exact absurd h13 (by decide)))
          refine lv_iload (pc := 210) F.1 F.2.1 d_M_instruct_210 (lv_at hl 5 rfl) ?_
          refine lv_iconst (pc := 212) (v := 4) F.1 F.2.1 d_M_instruct_212 (by decide) ?_
          refine lv_icmp_ne (pc := 213) (tgt := 233) F.1 F.2.1 d_M_instruct_213 rfl (fun _ => ?_) (fun h14 => (by rw [h7] at h14; exact absurd h14 (by decide)))
          refine lv_iload (pc := 233) F.1 F.2.1 d_M_instruct_233 (lv_at hl 5 rfl) ?_
          refine lv_iconst (pc := 235) (v := 5) F.1 F.2.1 d_M_instruct_235 (by decide) ?_
          refine lv_icmp_ne (pc := 236) (tgt := 264) F.1 F.2.1 d_M_instruct_236 rfl (fun _ => ?_) (fun h15 => (by rw [h7] at h15; exact absurd h15 (by decide)))
          refine lv_iload (pc := 264) F.1 F.2.1 d_M_instruct_264 (lv_at hl 5 rfl) ?_
          refine lv_bipush (pc := 266) (v := 6) F.1 F.2.1 d_M_instruct_266 (by decide) ?_
          refine lv_icmp_ne (pc := 268) (tgt := 291) F.1 F.2.1 d_M_instruct_268 rfl (fun _ => ?_) (fun h16 => (by rw [h7] at h16; exact absurd h16 (by decide)))
          refine lv_iload (pc := 291) F.1 F.2.1 d_M_instruct_291 (lv_at hl 5 rfl) ?_
          refine lv_bipush (pc := 293) (v := 9) F.1 F.2.1 d_M_instruct_293 (by decide) ?_
          refine lv_icmp_ne (pc := 295) (tgt := 351) F.1 F.2.1 d_M_instruct_295 rfl (fun _ => ?_) (fun h17 => (by rw [h7] at h17; exact absurd h17 (by decide)))
          refine lv_iload (pc := 351) F.1 F.2.1 d_M_instruct_351 (lv_at hl 5 rfl) ?_
          refine lv_bipush (pc := 353) (v := 10) F.1 F.2.1 d_M_instruct_353 (by decide) ?_
          refine lv_icmp_ne (pc := 355) (tgt := 370) F.1 F.2.1 d_M_instruct_355 rfl (fun _ => ?_) (fun h18 => (by rw [h7] at h18; exact absurd h18 (by decide)))
          refine lv_iload (pc := 370) F.1 F.2.1 d_M_instruct_370 (lv_at hl 5 rfl) ?_
          refine lv_bipush (pc := 372) (v := 11) F.1 F.2.1 d_M_instruct_372 (by decide) ?_
          refine lv_icmp_ne (pc := 374) (tgt := 422) F.1 F.2.1 d_M_instruct_374 rfl (fun h19 => (by rw [h7] at h19; exact absurd h19 (by decide))) (fun _ => ?_)
          refine lv_aload_n (pc := 377) F.1 F.2.1 d_M_instruct_377 rfl (lv_at hl 8 rfl) ?_
          refine x_get (pc := 378) (v := .ref (ad 3)) F hw 0 2 (fun x h => List.mem_cons_of_mem _ (in_M x h)) rfl rfl (by decide) (List.mem_cons_of_mem _ m_525) rfl d_M_instruct_378 ?_
          refine lv_iload_n (pc := 381) F.1 F.2.1 d_M_instruct_381 rfl (lv_at hl 7 rfl) ?_
          refine lv_bipush (pc := 382) (v := 56) F.1 F.2.1 d_M_instruct_382 (by decide) ?_
          refine lv_iadd (pc := 384) F.1 F.2.1 d_M_instruct_384 ?_
          refine x_top (y := nI (60 * h0 + 56)) (x_add2 rfl rfl) ?_
          refine lv_iconst (pc := 385) (v := 1) F.1 F.2.1 d_M_instruct_385 (by decide) ?_
          refine x_iast (pc := 386) (ws' := MW ad cT im me (upd ro (60 * h0 + 56) 1) up ho di os ob od on pg tm ts tr ki mo po sr ld st ow nu go la so se sl sp tp rd pn) F hw 3 0 (60 * h0 + 56) rfl rfl rfl (by omega) (by decide) d_M_instruct_386 rfl (fun H locs hw => ?_)
          refine lv_aload_n (pc := 387) F.1 F.2.1 d_M_instruct_387 rfl (lv_at hl 8 rfl) ?_
          refine x_get (pc := 388) (v := .ref (ad 3)) F hw 0 2 (fun x h => List.mem_cons_of_mem _ (in_M x h)) rfl rfl (by decide) (List.mem_cons_of_mem _ m_525) rfl d_M_instruct_388 ?_
          refine lv_iload_n (pc := 391) F.1 F.2.1 d_M_instruct_391 rfl (lv_at hl 7 rfl) ?_
          refine lv_bipush (pc := 392) (v := 57) F.1 F.2.1 d_M_instruct_392 (by decide) ?_
          refine lv_iadd (pc := 394) F.1 F.2.1 d_M_instruct_394 ?_
          refine x_top (y := nI (60 * h0 + 57)) (x_add2 rfl rfl) ?_
          refine lv_iload (pc := 395) F.1 F.2.1 d_M_instruct_395 (lv_at hl 2 rfl) ?_
          refine lv_bipush (pc := 397) (v := 7) F.1 F.2.1 d_M_instruct_397 (by decide) ?_
          refine lv_iand (pc := 399) F.1 F.2.1 d_M_instruct_399 ?_
          refine x_top (y := nI (lo 3 (nI (lo 6 (v >>> (8 &&& 31)))))) (lo_and 3 _ _ (by decide)) ?_
          have b20 : lo 3 (nI (lo 6 (v >>> (8 &&& 31)))) < 8 := lo_lt 3 _
          refine x_iast (pc := 400) (ws' := MW ad cT im me (upd (upd ro (60 * h0 + 56) 1) (60 * h0 + 57) (nI (lo 3 (nI (lo 6 (v >>> (8 &&& 31))))))) up ho di os ob od on pg tm ts tr ki mo po sr ld st ow nu go la so se sl sp tp rd pn) F hw 3 0 (60 * h0 + 57) rfl rfl rfl (by omega) (by decide) d_M_instruct_400 rfl (fun H locs hw => ?_)
          refine lv_aload_n (pc := 401) F.1 F.2.1 d_M_instruct_401 rfl (lv_at hl 8 rfl) ?_
          refine x_get (pc := 402) (v := .ref (ad 3)) F hw 0 2 (fun x h => List.mem_cons_of_mem _ (in_M x h)) rfl rfl (by decide) (List.mem_cons_of_mem _ m_525) rfl d_M_instruct_402 ?_
          refine lv_iload_n (pc := 405) F.1 F.2.1 d_M_instruct_405 rfl (lv_at hl 7 rfl) ?_
          refine lv_bipush (pc := 406) (v := 58) F.1 F.2.1 d_M_instruct_406 (by decide) ?_
          refine lv_iadd (pc := 408) F.1 F.2.1 d_M_instruct_408 ?_
          refine x_top (y := nI (60 * h0 + 58)) (x_add2 rfl rfl) ?_
          refine lv_aload_n (pc := 409) F.1 F.2.1 d_M_instruct_409 rfl (lv_at hl 8 rfl) ?_
          refine x_get (pc := 410) (v := .ref (ad 3)) F hw 0 2 (fun x h => List.mem_cons_of_mem _ (in_M x h)) rfl rfl (by decide) (List.mem_cons_of_mem _ m_525) rfl d_M_instruct_410 ?_
          refine lv_iload (pc := 413) F.1 F.2.1 d_M_instruct_413 (lv_at hl 4 rfl) ?_
          refine x_iald (pc := 415) F hw 3 0 (60 * h0 + (lo 2 (v >>> (4 &&& 31)))) rfl rfl rfl (by omega) (by decide) d_M_instruct_415 ?_
          refine x_iast (pc := 416) (ws' := MW ad cT im me (upd (upd (upd ro (60 * h0 + 56) 1) (60 * h0 + 57) (nI (lo 3 (nI (lo 6 (v >>> (8 &&& 31))))))) (60 * h0 + 58) ((upd (upd ro (60 * h0 + 56) 1) (60 * h0 + 57) (nI (lo 3 (nI (lo 6 (v >>> (8 &&& 31))))))) (60 * h0 + (lo 2 (v >>> (4 &&& 31)))))) up ho di os ob od on pg tm ts tr ki mo po sr ld st ow nu go la so se sl sp tp rd pn) F hw 3 0 (60 * h0 + 58) rfl rfl rfl (by omega) (by decide) d_M_instruct_416 rfl (fun H locs hw => ?_)
          refine lv_aload_n (pc := 417) F.1 F.2.1 d_M_instruct_417 rfl (lv_at hl 8 rfl) ?_
          refine lv_iload_n (pc := 418) F.1 F.2.1 d_M_instruct_418 rfl (lv_at hl 9 rfl) ?_
          refine x_callv (pc := 419) (wr := []) hw [0, 1, 2, 3, 4, 5, 6, 7, 8, 9, 10, 11, 12, 13, 14, 15, 16, 17, 18, 19] [] rfl rfl (by decide) (by decide) (va_runV (As := [.int (nI h0)]) (rest := []) F (c_M_order l D cT ad im me (upd (upd (upd ro (60 * h0 + 56) 1) (60 * h0 + 57) (nI (lo 3 (nI (lo 6 (v >>> (8 &&& 31))))))) (60 * h0 + 58) ((upd (upd ro (60 * h0 + 56) 1) (60 * h0 + 57) (nI (lo 3 (nI (lo 6 (v >>> (8 &&& 31))))))) (60 * h0 + (lo 2 (v >>> (4 &&& 31)))))) up ho di os ob od on pg tm ts tr ki mo po sr ld st ow nu go la so se sl sp tp rd pn h0 (by omega) _) (x_cw (C := "MovingGuestModel") 1 F (g_all y_M_order b_M_order 2 none (List.mem_cons_of_mem _ m_647)) rfl rfl rfl (F.2.2.2.2 _ (List.mem_cons_of_mem _ m_40)) (F.2.2.2.2 _ (List.mem_cons_of_mem _ m_645)) (F.2.2.2.2 _ (List.mem_cons_of_mem _ m_646)) (F.2.2.2.2 _ (List.mem_cons_of_mem _ m_20)) (by decide +kernel) ⟨by decide, by decide⟩) (hw.preV (q0 := 0) [0, 1, 2, 3, 4, 5, 6, 7, 8, 9, 10, 11, 12, 13, 14, 15, 16, 17, 18, 19] (by decide) rfl rfl rfl) rfl rfl hl.1 rfl (lv_room (Nat.le_of_ble_eq_true rfl)) d_M_instruct_419 ⟨by decide, by decide⟩) (fun u26 H locs e21 hw => ?_)
          obtain ⟨osv22, obv23, odv24, onv25⟩ := u26
          have hw : Hw D vwCl (TYS cT) A s (MW ad cT im me (upd (upd (upd ro (60 * h0 + 56) 1) (60 * h0 + 57) (nI (lo 3 (nI (lo 6 (v >>> (8 &&& 31))))))) (60 * h0 + 58) ((upd (upd ro (60 * h0 + 56) 1) (60 * h0 + 57) (nI (lo 3 (nI (lo 6 (v >>> (8 &&& 31))))))) (60 * h0 + (lo 2 (v >>> (4 &&& 31)))))) up ho di osv22 obv23 odv24 onv25 pg tm ts tr ki mo po sr ld st ow nu go la so se sl sp tp rd pn) H locs := hw
          cases (show (va_up os h0 true, upd ob h0 ((upd (upd (upd ro (60 * h0 + 56) 1) (60 * h0 + 57) (nI (lo 3 (nI (lo 6 (v >>> (8 &&& 31))))))) (60 * h0 + 58) ((upd (upd ro (60 * h0 + 56) 1) (60 * h0 + 57) (nI (lo 3 (nI (lo 6 (v >>> (8 &&& 31))))))) (60 * h0 + (lo 2 (v >>> (4 &&& 31)))))) (60 * h0 + 57)), upd od h0 ((upd (upd (upd ro (60 * h0 + 56) 1) (60 * h0 + 57) (nI (lo 3 (nI (lo 6 (v >>> (8 &&& 31))))))) (60 * h0 + 58) ((upd (upd ro (60 * h0 + 56) 1) (60 * h0 + 57) (nI (lo 3 (nI (lo 6 (v >>> (8 &&& 31))))))) (60 * h0 + (lo 2 (v >>> (4 &&& 31)))))) (60 * h0 + 58)), upd on h0 nu) = (osv22, obv23, odv24, onv25) from e21)
          refine lv_iload (pc := 422) F.1 F.2.1 d_M_instruct_422 (lv_at hl 5 rfl) ?_
          refine lv_bipush (pc := 424) (v := 12) F.1 F.2.1 d_M_instruct_424 (by decide) ?_
          refine lv_icmp_ne (pc := 426) (tgt := 446) F.1 F.2.1 d_M_instruct_426 rfl (fun _ => ?_) (fun h27 => (by rw [h7] at h27; exact absurd h27 (by decide)))
          refine lv_iload (pc := 446) F.1 F.2.1 d_M_instruct_446 (lv_at hl 5 rfl) ?_
          refine lv_bipush (pc := 448) (v := 13) F.1 F.2.1 d_M_instruct_448 (by decide) ?_
          refine lv_icmp_ne (pc := 450) (tgt := 474) F.1 F.2.1 d_M_instruct_450 rfl (fun _ => ?_) (fun h28 => (by rw [h7] at h28; exact absurd h28 (by decide)))
          refine lv_aload_n (pc := 474) F.1 F.2.1 d_M_instruct_474 rfl (lv_at hl 8 rfl) ?_
          refine x_get (pc := 475) (v := .ref (ad 3)) F hw 0 2 (fun x h => List.mem_cons_of_mem _ (in_M x h)) rfl rfl (by decide) (List.mem_cons_of_mem _ m_525) rfl d_M_instruct_475 ?_
          refine lv_iload_n (pc := 478) F.1 F.2.1 d_M_instruct_478 rfl (lv_at hl 7 rfl) ?_
          refine lv_bipush (pc := 479) (v := 59) F.1 F.2.1 d_M_instruct_479 (by decide) ?_
          refine lv_iadd (pc := 481) F.1 F.2.1 d_M_instruct_481 ?_
          refine x_top (y := nI (60 * h0 + 59)) (x_add2 rfl rfl) ?_
          refine lv_dup2_11 (pc := 482) F.1 F.2.1 d_M_instruct_482 rfl rfl ?_
          refine x_iald (pc := 483) F hw 3 0 (60 * h0 + 59) rfl rfl rfl (by omega) (by decide) d_M_instruct_483 ?_
          refine lv_iconst (pc := 484) (v := 1) F.1 F.2.1 d_M_instruct_484 (by decide) ?_
          refine lv_iadd (pc := 485) F.1 F.2.1 d_M_instruct_485 ?_
          refine x_iast (pc := 486) (ws' := MW ad cT im me (upd (upd (upd (upd ro (60 * h0 + 56) 1) (60 * h0 + 57) (nI (lo 3 (nI (lo 6 (v >>> (8 &&& 31))))))) (60 * h0 + 58) ((upd (upd ro (60 * h0 + 56) 1) (60 * h0 + 57) (nI (lo 3 (nI (lo 6 (v >>> (8 &&& 31))))))) (60 * h0 + (lo 2 (v >>> (4 &&& 31)))))) (60 * h0 + 59) (((upd (upd (upd ro (60 * h0 + 56) 1) (60 * h0 + 57) (nI (lo 3 (nI (lo 6 (v >>> (8 &&& 31))))))) (60 * h0 + 58) ((upd (upd ro (60 * h0 + 56) 1) (60 * h0 + 57) (nI (lo 3 (nI (lo 6 (v >>> (8 &&& 31))))))) (60 * h0 + (lo 2 (v >>> (4 &&& 31)))))) (60 * h0 + 59)) + 1)) up ho di (va_up os h0 true) (upd ob h0 ((upd (upd (upd ro (60 * h0 + 56) 1) (60 * h0 + 57) (nI (lo 3 (nI (lo 6 (v >>> (8 &&& 31))))))) (60 * h0 + 58) ((upd (upd ro (60 * h0 + 56) 1) (60 * h0 + 57) (nI (lo 3 (nI (lo 6 (v >>> (8 &&& 31))))))) (60 * h0 + (lo 2 (v >>> (4 &&& 31)))))) (60 * h0 + 57))) (upd od h0 ((upd (upd (upd ro (60 * h0 + 56) 1) (60 * h0 + 57) (nI (lo 3 (nI (lo 6 (v >>> (8 &&& 31))))))) (60 * h0 + 58) ((upd (upd ro (60 * h0 + 56) 1) (60 * h0 + 57) (nI (lo 3 (nI (lo 6 (v >>> (8 &&& 31))))))) (60 * h0 + (lo 2 (v >>> (4 &&& 31)))))) (60 * h0 + 58))) (upd on h0 nu) pg tm ts tr ki mo po sr ld st ow nu go la so se sl sp tp rd pn) F hw 3 0 (60 * h0 + 59) rfl rfl rfl (by omega) (by decide) d_M_instruct_486 rfl (fun H locs hw => ?_)
          refine lv_aload_n (pc := 487) F.1 F.2.1 d_M_instruct_487 rfl (lv_at hl 8 rfl) ?_
          refine x_get (pc := 488) (v := .ref (ad 3)) F hw 0 2 (fun x h => List.mem_cons_of_mem _ (in_M x h)) rfl rfl (by decide) (List.mem_cons_of_mem _ m_525) rfl d_M_instruct_488 ?_
          refine lv_iload_n (pc := 491) F.1 F.2.1 d_M_instruct_491 rfl (lv_at hl 7 rfl) ?_
          refine lv_iconst (pc := 492) (v := 4) F.1 F.2.1 d_M_instruct_492 (by decide) ?_
          refine lv_iadd (pc := 493) F.1 F.2.1 d_M_instruct_493 ?_
          refine x_top (y := nI (60 * h0 + 4)) (x_add2 rfl rfl) ?_
          refine lv_iload (pc := 494) F.1 F.2.1 d_M_instruct_494 (lv_at hl 0 rfl) ?_
          refine lv_if_eq (pc := 496) (tgt := 504) F.1 F.2.1 d_M_instruct_496 rfl (fun _ => ?_) (fun h => absurd h (by decide))
          refine lv_aload_n (pc := 504) F.1 F.2.1 d_M_instruct_504 rfl (lv_at hl 8 rfl) ?_
          refine x_get (pc := 505) (v := .ref (ad 3)) F hw 0 2 (fun x h => List.mem_cons_of_mem _ (in_M x h)) rfl rfl (by decide) (List.mem_cons_of_mem _ m_525) rfl d_M_instruct_505 ?_
          refine lv_iload_n (pc := 508) F.1 F.2.1 d_M_instruct_508 rfl (lv_at hl 7 rfl) ?_
          refine lv_iconst (pc := 509) (v := 4) F.1 F.2.1 d_M_instruct_509 (by decide) ?_
          refine lv_iadd (pc := 510) F.1 F.2.1 d_M_instruct_510 ?_
          refine x_top (y := nI (60 * h0 + 4)) (x_add2 rfl rfl) ?_
          refine x_iald (pc := 511) F hw 3 0 (60 * h0 + 4) rfl rfl rfl (by omega) (by decide) d_M_instruct_511 ?_
          refine lv_iconst (pc := 512) (v := 1) F.1 F.2.1 d_M_instruct_512 (by decide) ?_
          refine lv_iadd (pc := 513) F.1 F.2.1 d_M_instruct_513 ?_
          refine lv_bipush (pc := 514) (v := 63) F.1 F.2.1 d_M_instruct_514 (by decide) ?_
          refine lv_iand (pc := 516) F.1 F.2.1 d_M_instruct_516 ?_
          refine x_top (y := nI (lo 6 (((upd (upd (upd (upd ro (60 * h0 + 56) 1) (60 * h0 + 57) (nI (lo 3 (nI (lo 6 (v >>> (8 &&& 31))))))) (60 * h0 + 58) ((upd (upd ro (60 * h0 + 56) 1) (60 * h0 + 57) (nI (lo 3 (nI (lo 6 (v >>> (8 &&& 31))))))) (60 * h0 + (lo 2 (v >>> (4 &&& 31)))))) (60 * h0 + 59) (((upd (upd (upd ro (60 * h0 + 56) 1) (60 * h0 + 57) (nI (lo 3 (nI (lo 6 (v >>> (8 &&& 31))))))) (60 * h0 + 58) ((upd (upd ro (60 * h0 + 56) 1) (60 * h0 + 57) (nI (lo 3 (nI (lo 6 (v >>> (8 &&& 31))))))) (60 * h0 + (lo 2 (v >>> (4 &&& 31)))))) (60 * h0 + 59)) + 1)) (60 * h0 + 4)) + 1))) (lo_and 6 _ _ (by decide)) ?_
          have b29 : lo 6 (((upd (upd (upd (upd ro (60 * h0 + 56) 1) (60 * h0 + 57) (nI (lo 3 (nI (lo 6 (v >>> (8 &&& 31))))))) (60 * h0 + 58) ((upd (upd ro (60 * h0 + 56) 1) (60 * h0 + 57) (nI (lo 3 (nI (lo 6 (v >>> (8 &&& 31))))))) (60 * h0 + (lo 2 (v >>> (4 &&& 31)))))) (60 * h0 + 59) (((upd (upd (upd ro (60 * h0 + 56) 1) (60 * h0 + 57) (nI (lo 3 (nI (lo 6 (v >>> (8 &&& 31))))))) (60 * h0 + 58) ((upd (upd ro (60 * h0 + 56) 1) (60 * h0 + 57) (nI (lo 3 (nI (lo 6 (v >>> (8 &&& 31))))))) (60 * h0 + (lo 2 (v >>> (4 &&& 31)))))) (60 * h0 + 59)) + 1)) (60 * h0 + 4)) + 1) < 64 := lo_lt 6 _
          refine x_iast (pc := 517) (ws' := MW ad cT im me (upd (upd (upd (upd (upd ro (60 * h0 + 56) 1) (60 * h0 + 57) (nI (lo 3 (nI (lo 6 (v >>> (8 &&& 31))))))) (60 * h0 + 58) ((upd (upd ro (60 * h0 + 56) 1) (60 * h0 + 57) (nI (lo 3 (nI (lo 6 (v >>> (8 &&& 31))))))) (60 * h0 + (lo 2 (v >>> (4 &&& 31)))))) (60 * h0 + 59) (((upd (upd (upd ro (60 * h0 + 56) 1) (60 * h0 + 57) (nI (lo 3 (nI (lo 6 (v >>> (8 &&& 31))))))) (60 * h0 + 58) ((upd (upd ro (60 * h0 + 56) 1) (60 * h0 + 57) (nI (lo 3 (nI (lo 6 (v >>> (8 &&& 31))))))) (60 * h0 + (lo 2 (v >>> (4 &&& 31)))))) (60 * h0 + 59)) + 1)) (60 * h0 + 4) (nI (lo 6 (((upd (upd (upd (upd ro (60 * h0 + 56) 1) (60 * h0 + 57) (nI (lo 3 (nI (lo 6 (v >>> (8 &&& 31))))))) (60 * h0 + 58) ((upd (upd ro (60 * h0 + 56) 1) (60 * h0 + 57) (nI (lo 3 (nI (lo 6 (v >>> (8 &&& 31))))))) (60 * h0 + (lo 2 (v >>> (4 &&& 31)))))) (60 * h0 + 59) (((upd (upd (upd ro (60 * h0 + 56) 1) (60 * h0 + 57) (nI (lo 3 (nI (lo 6 (v >>> (8 &&& 31))))))) (60 * h0 + 58) ((upd (upd ro (60 * h0 + 56) 1) (60 * h0 + 57) (nI (lo 3 (nI (lo 6 (v >>> (8 &&& 31))))))) (60 * h0 + (lo 2 (v >>> (4 &&& 31)))))) (60 * h0 + 59)) + 1)) (60 * h0 + 4)) + 1)))) up ho di (va_up os h0 true) (upd ob h0 ((upd (upd (upd ro (60 * h0 + 56) 1) (60 * h0 + 57) (nI (lo 3 (nI (lo 6 (v >>> (8 &&& 31))))))) (60 * h0 + 58) ((upd (upd ro (60 * h0 + 56) 1) (60 * h0 + 57) (nI (lo 3 (nI (lo 6 (v >>> (8 &&& 31))))))) (60 * h0 + (lo 2 (v >>> (4 &&& 31)))))) (60 * h0 + 57))) (upd od h0 ((upd (upd (upd ro (60 * h0 + 56) 1) (60 * h0 + 57) (nI (lo 3 (nI (lo 6 (v >>> (8 &&& 31))))))) (60 * h0 + 58) ((upd (upd ro (60 * h0 + 56) 1) (60 * h0 + 57) (nI (lo 3 (nI (lo 6 (v >>> (8 &&& 31))))))) (60 * h0 + (lo 2 (v >>> (4 &&& 31)))))) (60 * h0 + 58))) (upd on h0 nu) pg tm ts tr ki mo po sr ld st ow nu go la so se sl sp tp rd pn) F hw 3 0 (60 * h0 + 4) rfl rfl rfl (by omega) (by decide) d_M_instruct_517 rfl (fun H locs hw => ?_)
          refine lv_aload_n (pc := 518) F.1 F.2.1 d_M_instruct_518 rfl (lv_at hl 8 rfl) ?_
          refine lv_iload_n (pc := 519) F.1 F.2.1 d_M_instruct_519 rfl (lv_at hl 7 rfl) ?_
          refine x_callv (pc := 520) (wr := []) hw [0, 1, 2, 3, 4, 5, 6, 7, 8, 9, 10, 11, 12, 13, 14, 15, 16, 17, 18, 19] [] rfl rfl (by decide) (by decide) (va_runV (As := [.int (nI (60 * h0))]) (rest := []) F (c_M_tick l D cT ad im me (upd (upd (upd (upd (upd ro (60 * h0 + 56) 1) (60 * h0 + 57) (nI (lo 3 (nI (lo 6 (v >>> (8 &&& 31))))))) (60 * h0 + 58) ((upd (upd ro (60 * h0 + 56) 1) (60 * h0 + 57) (nI (lo 3 (nI (lo 6 (v >>> (8 &&& 31))))))) (60 * h0 + (lo 2 (v >>> (4 &&& 31)))))) (60 * h0 + 59) (((upd (upd (upd ro (60 * h0 + 56) 1) (60 * h0 + 57) (nI (lo 3 (nI (lo 6 (v >>> (8 &&& 31))))))) (60 * h0 + 58) ((upd (upd ro (60 * h0 + 56) 1) (60 * h0 + 57) (nI (lo 3 (nI (lo 6 (v >>> (8 &&& 31))))))) (60 * h0 + (lo 2 (v >>> (4 &&& 31)))))) (60 * h0 + 59)) + 1)) (60 * h0 + 4) (nI (lo 6 (((upd (upd (upd (upd ro (60 * h0 + 56) 1) (60 * h0 + 57) (nI (lo 3 (nI (lo 6 (v >>> (8 &&& 31))))))) (60 * h0 + 58) ((upd (upd ro (60 * h0 + 56) 1) (60 * h0 + 57) (nI (lo 3 (nI (lo 6 (v >>> (8 &&& 31))))))) (60 * h0 + (lo 2 (v >>> (4 &&& 31)))))) (60 * h0 + 59) (((upd (upd (upd ro (60 * h0 + 56) 1) (60 * h0 + 57) (nI (lo 3 (nI (lo 6 (v >>> (8 &&& 31))))))) (60 * h0 + 58) ((upd (upd ro (60 * h0 + 56) 1) (60 * h0 + 57) (nI (lo 3 (nI (lo 6 (v >>> (8 &&& 31))))))) (60 * h0 + (lo 2 (v >>> (4 &&& 31)))))) (60 * h0 + 59)) + 1)) (60 * h0 + 4)) + 1)))) up ho di (va_up os h0 true) (upd ob h0 ((upd (upd (upd ro (60 * h0 + 56) 1) (60 * h0 + 57) (nI (lo 3 (nI (lo 6 (v >>> (8 &&& 31))))))) (60 * h0 + 58) ((upd (upd ro (60 * h0 + 56) 1) (60 * h0 + 57) (nI (lo 3 (nI (lo 6 (v >>> (8 &&& 31))))))) (60 * h0 + (lo 2 (v >>> (4 &&& 31)))))) (60 * h0 + 57))) (upd od h0 ((upd (upd (upd ro (60 * h0 + 56) 1) (60 * h0 + 57) (nI (lo 3 (nI (lo 6 (v >>> (8 &&& 31))))))) (60 * h0 + 58) ((upd (upd ro (60 * h0 + 56) 1) (60 * h0 + 57) (nI (lo 3 (nI (lo 6 (v >>> (8 &&& 31))))))) (60 * h0 + (lo 2 (v >>> (4 &&& 31)))))) (60 * h0 + 58))) (upd on h0 nu) pg tm ts tr ki mo po sr ld st ow nu go la so se sl sp tp rd pn (60 * h0) (by omega) _) (x_cw (C := "MovingGuestModel") 1 F (g_all y_M_tick b_M_tick 2 none (List.mem_cons_of_mem _ m_650)) rfl rfl rfl (F.2.2.2.2 _ (List.mem_cons_of_mem _ m_40)) (F.2.2.2.2 _ (List.mem_cons_of_mem _ m_648)) (F.2.2.2.2 _ (List.mem_cons_of_mem _ m_649)) (F.2.2.2.2 _ (List.mem_cons_of_mem _ m_21)) (by decide +kernel) ⟨by decide, by decide⟩) (hw.preV (q0 := 0) [0, 1, 2, 3, 4, 5, 6, 7, 8, 9, 10, 11, 12, 13, 14, 15, 16, 17, 18, 19] (by decide) rfl rfl rfl) rfl rfl hl.1 rfl (lv_room (Nat.le_of_ble_eq_true rfl)) d_M_instruct_520 ⟨by decide, by decide⟩) (fun rov31 H locs e30 hw => ?_)
          have hw : Hw D vwCl (TYS cT) A s (MW ad cT im me rov31 up ho di (va_up os h0 true) (upd ob h0 ((upd (upd (upd ro (60 * h0 + 56) 1) (60 * h0 + 57) (nI (lo 3 (nI (lo 6 (v >>> (8 &&& 31))))))) (60 * h0 + 58) ((upd (upd ro (60 * h0 + 56) 1) (60 * h0 + 57) (nI (lo 3 (nI (lo 6 (v >>> (8 &&& 31))))))) (60 * h0 + (lo 2 (v >>> (4 &&& 31)))))) (60 * h0 + 57))) (upd od h0 ((upd (upd (upd ro (60 * h0 + 56) 1) (60 * h0 + 57) (nI (lo 3 (nI (lo 6 (v >>> (8 &&& 31))))))) (60 * h0 + 58) ((upd (upd ro (60 * h0 + 56) 1) (60 * h0 + 57) (nI (lo 3 (nI (lo 6 (v >>> (8 &&& 31))))))) (60 * h0 + (lo 2 (v >>> (4 &&& 31)))))) (60 * h0 + 58))) (upd on h0 nu) pg tm ts tr ki mo po sr ld st ow nu go la so se sl sp tp rd pn) H locs := hw
          refine lv_iconst (pc := 523) (v := 1) F.1 F.2.1 d_M_instruct_523 (by decide) ?_
          refine W.widen (k := 0) (n := 0) (by decide) (by decide) ?_
          exact ret 1 (me, rov31, pg, va_up os h0 true, upd ob h0 ((upd (upd (upd ro (60 * h0 + 56) 1) (60 * h0 + 57) (nI (lo 3 (nI (lo 6 (v >>> (8 &&& 31))))))) (60 * h0 + 58) ((upd (upd ro (60 * h0 + 56) 1) (60 * h0 + 57) (nI (lo 3 (nI (lo 6 (v >>> (8 &&& 31))))))) (60 * h0 + (lo 2 (v >>> (4 &&& 31)))))) (60 * h0 + 57)), upd od h0 ((upd (upd (upd ro (60 * h0 + 56) 1) (60 * h0 + 57) (nI (lo 3 (nI (lo 6 (v >>> (8 &&& 31))))))) (60 * h0 + 58) ((upd (upd ro (60 * h0 + 56) 1) (60 * h0 + 57) (nI (lo 3 (nI (lo 6 (v >>> (8 &&& 31))))))) (60 * h0 + (lo 2 (v >>> (4 &&& 31)))))) (60 * h0 + 58)), upd on h0 nu) _ _ 524 _ rfl (by unfold F_M_instruct <;> rw [if_neg h5] <;> rw [if_neg h6] <;> rw [if_pos h7] <;> rw [if_neg h8] <;> rw [e30] <;> (try dsimp only) <;> rfl) hw d_M_instruct_524
        · refine lv_iconst (pc := 102) (v := 1) F.1 F.2.1 d_M_instruct_102 (by decide) ?_
          refine lv_goto (pc := 103) (tgt := 107) F.1 F.2.1 d_M_instruct_103 rfl ?_
          refine lv_istore (pc := 107) (lv' := [(8, .int 1), (7, .int (nI (lo 6 (v >>> (8 &&& 31))))), (6, .int (ro (60 * h0 + (lo 2 (v >>> (6 &&& 31)))))), (5, .int (nI (60 * h0 + (lo 2 (v >>> (4 &&& 31)))))), (4, .int (nI (lo 4 v))), (3, .int v), (2, .int (nI (60 * h0))), (0, .ref (ad 0)), (1, .int (nI h0))]) F.1 F.2.1 d_M_instruct_107 hl (by decide) rfl (fun ls hl => ?_)
          refine lv_iload (pc := 109) F.1 F.2.1 d_M_instruct_109 (lv_at hl 0 rfl) ?_
          refine lv_if_eq (pc := 111) (tgt := 116) F.1 F.2.1 d_M_instruct_111 rfl (fun h => absurd h (by decide)) (fun _ => ?_)
          refine lv_iconst (pc := 114) (v := 0) F.1 F.2.1 d_M_instruct_114 (by decide) ?_
          refine W.widen (k := 0) (n := 0) (by decide) (by decide) ?_
          exact ret 0 (me, ro, pg, os, ob, od, on) _ _ 115 _ rfl (by unfold F_M_instruct <;> rw [if_neg h5] <;> rw [if_neg h6] <;> rw [if_pos h7] <;> rw [if_pos h8] <;> rfl) hw d_M_instruct_115
      · refine lv_iload (pc := 82) F.1 F.2.1 d_M_instruct_82 (lv_at hl 3 rfl) ?_
        refine lv_bipush (pc := 84) (v := 12) F.1 F.2.1 d_M_instruct_84 (by decide) ?_
        refine lv_icmp_ne (pc := 86) (tgt := 106) F.1 F.2.1 d_M_instruct_86 rfl (fun h32 => ?_) (fun h32 => ?_)
        · refine lv_iconst (pc := 106) (v := 0) F.1 F.2.1 d_M_instruct_106 (by decide) ?_
          refine lv_istore (pc := 107) (lv' := [(8, .int 0), (7, .int (nI (lo 6 (v >>> (8 &&& 31))))), (6, .int (ro (60 * h0 + (lo 2 (v >>> (6 &&& 31)))))), (5, .int (nI (60 * h0 + (lo 2 (v >>> (4 &&& 31)))))), (4, .int (nI (lo 4 v))), (3, .int v), (2, .int (nI (60 * h0))), (0, .ref (ad 0)), (1, .int (nI h0))]) F.1 F.2.1 d_M_instruct_107 hl (by decide) rfl (fun ls hl => ?_)
          refine lv_iload (pc := 109) F.1 F.2.1 d_M_instruct_109 (lv_at hl 0 rfl) ?_
          refine lv_if_eq (pc := 111) (tgt := 116) F.1 F.2.1 d_M_instruct_111 rfl (fun _ => ?_) (fun h => absurd h (by decide))
          refine lv_iload (pc := 116) F.1 F.2.1 d_M_instruct_116 (lv_at hl 4 rfl) ?_
          refine lv_bipush (pc := 118) (v := 7) F.1 F.2.1 d_M_instruct_118 (by decide) ?_
          refine lv_icmp_eq (pc := 120) (tgt := 140) F.1 F.2.1 d_M_instruct_120 rfl (fun h33 => ?_) (fun h33 => ?_)
          · refine lv_iconst (pc := 140) (v := 1) F.1 F.2.1 d_M_instruct_140 (by decide) ?_
            refine lv_goto (pc := 141) (tgt := 145) F.1 F.2.1 d_M_instruct_141 rfl ?_
            refine lv_istore (pc := 145) (lv' := [(9, .int 1), (8, .int 0), (7, .int (nI (lo 6 (v >>> (8 &&& 31))))), (6, .int (ro (60 * h0 + (lo 2 (v >>> (6 &&& 31)))))), (5, .int (nI (60 * h0 + (lo 2 (v >>> (4 &&& 31)))))), (4, .int (nI (lo 4 v))), (3, .int v), (2, .int (nI (60 * h0))), (0, .ref (ad 0)), (1, .int (nI h0))]) F.1 F.2.1 d_M_instruct_145 hl (by decide) rfl (fun ls hl => ?_)
            refine lv_iload (pc := 147) F.1 F.2.1 d_M_instruct_147 (lv_at hl 5 rfl) ?_
            refine lv_iconst (pc := 149) (v := 1) F.1 F.2.1 d_M_instruct_149 (by decide) ?_
            refine lv_icmp_ne (pc := 150) (tgt := 164) F.1 F.2.1 d_M_instruct_150 rfl (fun _ => ?_) (fun h34 => (by rw [h33] at h34; exact absurd h34 (by decide)))
            refine lv_iload (pc := 164) F.1 F.2.1 d_M_instruct_164 (lv_at hl 5 rfl) ?_
            refine lv_iconst (pc := 166) (v := 2) F.1 F.2.1 d_M_instruct_166 (by decide) ?_
            refine lv_icmp_ne (pc := 167) (tgt := 187) F.1 F.2.1 d_M_instruct_167 rfl (fun _ => ?_) (fun h35 => (by rw [h33] at h35; exact absurd h35 (by decide)))
            refine lv_iload (pc := 187) F.1 F.2.1 d_M_instruct_187 (lv_at hl 5 rfl) ?_
            refine lv_iconst (pc := 189) (v := 3) F.1 F.2.1 d_M_instruct_189 (by decide) ?_
            refine lv_icmp_ne (pc := 190) (tgt := 210) F.1 F.2.1 d_M_instruct_190 rfl (fun _ => ?_) (fun h36 => (by rw [h33] at h36; exact absurd h36 (by decide)))
            refine lv_iload (pc := 210) F.1 F.2.1 d_M_instruct_210 (lv_at hl 5 rfl) ?_
            refine lv_iconst (pc := 212) (v := 4) F.1 F.2.1 d_M_instruct_212 (by decide) ?_
            refine lv_icmp_ne (pc := 213) (tgt := 233) F.1 F.2.1 d_M_instruct_213 rfl (fun _ => ?_) (fun h37 => (by rw [h33] at h37; exact absurd h37 (by decide)))
            refine lv_iload (pc := 233) F.1 F.2.1 d_M_instruct_233 (lv_at hl 5 rfl) ?_
            refine lv_iconst (pc := 235) (v := 5) F.1 F.2.1 d_M_instruct_235 (by decide) ?_
            refine lv_icmp_ne (pc := 236) (tgt := 264) F.1 F.2.1 d_M_instruct_236 rfl (fun _ => ?_) (fun h38 => (by rw [h33] at h38; exact absurd h38 (by decide)))
            refine lv_iload (pc := 264) F.1 F.2.1 d_M_instruct_264 (lv_at hl 5 rfl) ?_
            refine lv_bipush (pc := 266) (v := 6) F.1 F.2.1 d_M_instruct_266 (by decide) ?_
            refine lv_icmp_ne (pc := 268) (tgt := 291) F.1 F.2.1 d_M_instruct_268 rfl (fun _ => ?_) (fun h39 => (by rw [h33] at h39; exact absurd h39 (by decide)))
            refine lv_iload (pc := 291) F.1 F.2.1 d_M_instruct_291 (lv_at hl 5 rfl) ?_
            refine lv_bipush (pc := 293) (v := 9) F.1 F.2.1 d_M_instruct_293 (by decide) ?_
            refine lv_icmp_ne (pc := 295) (tgt := 351) F.1 F.2.1 d_M_instruct_295 rfl (fun _ => ?_) (fun h40 => (by rw [h33] at h40; exact absurd h40 (by decide)))
            refine lv_iload (pc := 351) F.1 F.2.1 d_M_instruct_351 (lv_at hl 5 rfl) ?_
            refine lv_bipush (pc := 353) (v := 10) F.1 F.2.1 d_M_instruct_353 (by decide) ?_
            refine lv_icmp_ne (pc := 355) (tgt := 370) F.1 F.2.1 d_M_instruct_355 rfl (fun _ => ?_) (fun h41 => (by rw [h33] at h41; exact absurd h41 (by decide)))
            refine lv_iload (pc := 370) F.1 F.2.1 d_M_instruct_370 (lv_at hl 5 rfl) ?_
            refine lv_bipush (pc := 372) (v := 11) F.1 F.2.1 d_M_instruct_372 (by decide) ?_
            refine lv_icmp_ne (pc := 374) (tgt := 422) F.1 F.2.1 d_M_instruct_374 rfl (fun _ => ?_) (fun h42 => (by rw [h33] at h42; exact absurd h42 (by decide)))
            refine lv_iload (pc := 422) F.1 F.2.1 d_M_instruct_422 (lv_at hl 5 rfl) ?_
            refine lv_bipush (pc := 424) (v := 12) F.1 F.2.1 d_M_instruct_424 (by decide) ?_
            refine lv_icmp_ne (pc := 426) (tgt := 446) F.1 F.2.1 d_M_instruct_426 rfl (fun _ => ?_) (fun h43 => (by rw [h33] at h43; exact absurd h43 (by decide)))
            refine lv_iload (pc := 446) F.1 F.2.1 d_M_instruct_446 (lv_at hl 5 rfl) ?_
            refine lv_bipush (pc := 448) (v := 13) F.1 F.2.1 d_M_instruct_448 (by decide) ?_
            refine lv_icmp_ne (pc := 450) (tgt := 474) F.1 F.2.1 d_M_instruct_450 rfl (fun _ => ?_) (fun h44 => (by rw [h33] at h44; exact absurd h44 (by decide)))
            refine lv_aload_n (pc := 474) F.1 F.2.1 d_M_instruct_474 rfl (lv_at hl 8 rfl) ?_
            refine x_get (pc := 475) (v := .ref (ad 3)) F hw 0 2 (fun x h => List.mem_cons_of_mem _ (in_M x h)) rfl rfl (by decide) (List.mem_cons_of_mem _ m_525) rfl d_M_instruct_475 ?_
            refine lv_iload_n (pc := 478) F.1 F.2.1 d_M_instruct_478 rfl (lv_at hl 7 rfl) ?_
            refine lv_bipush (pc := 479) (v := 59) F.1 F.2.1 d_M_instruct_479 (by decide) ?_
            refine lv_iadd (pc := 481) F.1 F.2.1 d_M_instruct_481 ?_
            refine x_top (y := nI (60 * h0 + 59)) (x_add2 rfl rfl) ?_
            refine lv_dup2_11 (pc := 482) F.1 F.2.1 d_M_instruct_482 rfl rfl ?_
            refine x_iald (pc := 483) F hw 3 0 (60 * h0 + 59) rfl rfl rfl (by omega) (by decide) d_M_instruct_483 ?_
            refine lv_iconst (pc := 484) (v := 1) F.1 F.2.1 d_M_instruct_484 (by decide) ?_
            refine lv_iadd (pc := 485) F.1 F.2.1 d_M_instruct_485 ?_
            refine x_iast (pc := 486) (ws' := MW ad cT im me (upd ro (60 * h0 + 59) ((ro (60 * h0 + 59)) + 1)) up ho di os ob od on pg tm ts tr ki mo po sr ld st ow nu go la so se sl sp tp rd pn) F hw 3 0 (60 * h0 + 59) rfl rfl rfl (by omega) (by decide) d_M_instruct_486 rfl (fun H locs hw => ?_)
            refine lv_aload_n (pc := 487) F.1 F.2.1 d_M_instruct_487 rfl (lv_at hl 8 rfl) ?_
            refine x_get (pc := 488) (v := .ref (ad 3)) F hw 0 2 (fun x h => List.mem_cons_of_mem _ (in_M x h)) rfl rfl (by decide) (List.mem_cons_of_mem _ m_525) rfl d_M_instruct_488 ?_
            refine lv_iload_n (pc := 491) F.1 F.2.1 d_M_instruct_491 rfl (lv_at hl 7 rfl) ?_
            refine lv_iconst (pc := 492) (v := 4) F.1 F.2.1 d_M_instruct_492 (by decide) ?_
            refine lv_iadd (pc := 493) F.1 F.2.1 d_M_instruct_493 ?_
            refine x_top (y := nI (60 * h0 + 4)) (x_add2 rfl rfl) ?_
            refine lv_iload (pc := 494) F.1 F.2.1 d_M_instruct_494 (lv_at hl 0 rfl) ?_
            refine lv_if_eq (pc := 496) (tgt := 504) F.1 F.2.1 d_M_instruct_496 rfl (fun h => absurd h (by decide)) (fun _ => ?_)
            refine lv_iload (pc := 499) F.1 F.2.1 d_M_instruct_499 (lv_at hl 2 rfl) ?_
            refine lv_goto (pc := 501) (tgt := 517) F.1 F.2.1 d_M_instruct_501 rfl ?_
            refine x_iast (pc := 517) (ws' := MW ad cT im me (upd (upd ro (60 * h0 + 59) ((ro (60 * h0 + 59)) + 1)) (60 * h0 + 4) (nI (lo 6 (v >>> (8 &&& 31))))) up ho di os ob od on pg tm ts tr ki mo po sr ld st ow nu go la so se sl sp tp rd pn) F hw 3 0 (60 * h0 + 4) rfl rfl rfl (by omega) (by decide) d_M_instruct_517 rfl (fun H locs hw => ?_)
            refine lv_aload_n (pc := 518) F.1 F.2.1 d_M_instruct_518 rfl (lv_at hl 8 rfl) ?_
            refine lv_iload_n (pc := 519) F.1 F.2.1 d_M_instruct_519 rfl (lv_at hl 7 rfl) ?_
            refine x_callv (pc := 520) (wr := []) hw [0, 1, 2, 3, 4, 5, 6, 7, 8, 9, 10, 11, 12, 13, 14, 15, 16, 17, 18, 19] [] rfl rfl (by decide) (by decide) (va_runV (As := [.int (nI (60 * h0))]) (rest := []) F (c_M_tick l D cT ad im me (upd (upd ro (60 * h0 + 59) ((ro (60 * h0 + 59)) + 1)) (60 * h0 + 4) (nI (lo 6 (v >>> (8 &&& 31))))) up ho di os ob od on pg tm ts tr ki mo po sr ld st ow nu go la so se sl sp tp rd pn (60 * h0) (by omega) _) (x_cw (C := "MovingGuestModel") 1 F (g_all y_M_tick b_M_tick 2 none (List.mem_cons_of_mem _ m_650)) rfl rfl rfl (F.2.2.2.2 _ (List.mem_cons_of_mem _ m_40)) (F.2.2.2.2 _ (List.mem_cons_of_mem _ m_648)) (F.2.2.2.2 _ (List.mem_cons_of_mem _ m_649)) (F.2.2.2.2 _ (List.mem_cons_of_mem _ m_21)) (by decide +kernel) ⟨by decide, by decide⟩) (hw.preV (q0 := 0) [0, 1, 2, 3, 4, 5, 6, 7, 8, 9, 10, 11, 12, 13, 14, 15, 16, 17, 18, 19] (by decide) rfl rfl rfl) rfl rfl hl.1 rfl (lv_room (Nat.le_of_ble_eq_true rfl)) d_M_instruct_520 ⟨by decide, by decide⟩) (fun rov46 H locs e45 hw => ?_)
            have hw : Hw D vwCl (TYS cT) A s (MW ad cT im me rov46 up ho di os ob od on pg tm ts tr ki mo po sr ld st ow nu go la so se sl sp tp rd pn) H locs := hw
            refine lv_iconst (pc := 523) (v := 1) F.1 F.2.1 d_M_instruct_523 (by decide) ?_
            refine W.widen (k := 0) (n := 0) (by decide) (by decide) ?_
            exact ret 1 (me, rov46, pg, os, ob, od, on) _ _ 524 _ rfl (by unfold F_M_instruct <;> rw [if_neg h5] <;> rw [if_neg h6] <;> rw [if_neg h7] <;> rw [if_neg h32] <;> rw [if_pos h33] <;> rw [e45] <;> (try dsimp only) <;> rfl) hw d_M_instruct_524
          · refine lv_iload (pc := 123) F.1 F.2.1 d_M_instruct_123 (lv_at hl 4 rfl) ?_
            refine lv_bipush (pc := 125) (v := 8) F.1 F.2.1 d_M_instruct_125 (by decide) ?_
            refine lv_icmp_ne (pc := 127) (tgt := 144) F.1 F.2.1 d_M_instruct_127 rfl (fun h47 => ?_) (fun h47 => ?_)
            · refine lv_iconst (pc := 144) (v := 0) F.1 F.2.1 d_M_instruct_144 (by decide) ?_
              refine lv_istore (pc := 145) (lv' := [(9, .int 0), (8, .int 0), (7, .int (nI (lo 6 (v >>> (8 &&& 31))))), (6, .int (ro (60 * h0 + (lo 2 (v >>> (6 &&& 31)))))), (5, .int (nI (60 * h0 + (lo 2 (v >>> (4 &&& 31)))))), (4, .int (nI (lo 4 v))), (3, .int v), (2, .int (nI (60 * h0))), (0, .ref (ad 0)), (1, .int (nI h0))]) F.1 F.2.1 d_M_instruct_145 hl (by decide) rfl (fun ls hl => ?_)
              refine lv_iload (pc := 147) F.1 F.2.1 d_M_instruct_147 (lv_at hl 5 rfl) ?_
              refine lv_iconst (pc := 149) (v := 1) F.1 F.2.1 d_M_instruct_149 (by decide) ?_
              refine lv_icmp_ne (pc := 150) (tgt := 164) F.1 F.2.1 d_M_instruct_150 rfl (fun h48 => ?_) (fun h48 => ?_)
              · refine lv_iload (pc := 164) F.1 F.2.1 d_M_instruct_164 (lv_at hl 5 rfl) ?_
                refine lv_iconst (pc := 166) (v := 2) F.1 F.2.1 d_M_instruct_166 (by decide) ?_
                refine lv_icmp_ne (pc := 167) (tgt := 187) F.1 F.2.1 d_M_instruct_167 rfl (fun h49 => ?_) (fun h49 => ?_)
                · refine lv_iload (pc := 187) F.1 F.2.1 d_M_instruct_187 (lv_at hl 5 rfl) ?_
                  refine lv_iconst (pc := 189) (v := 3) F.1 F.2.1 d_M_instruct_189 (by decide) ?_
                  refine lv_icmp_ne (pc := 190) (tgt := 210) F.1 F.2.1 d_M_instruct_190 rfl (fun h50 => ?_) (fun h50 => ?_)
                  · refine lv_iload (pc := 210) F.1 F.2.1 d_M_instruct_210 (lv_at hl 5 rfl) ?_
                    refine lv_iconst (pc := 212) (v := 4) F.1 F.2.1 d_M_instruct_212 (by decide) ?_
                    refine lv_icmp_ne (pc := 213) (tgt := 233) F.1 F.2.1 d_M_instruct_213 rfl (fun h51 => ?_) (fun h51 => ?_)
                    · refine lv_iload (pc := 233) F.1 F.2.1 d_M_instruct_233 (lv_at hl 5 rfl) ?_
                      refine lv_iconst (pc := 235) (v := 5) F.1 F.2.1 d_M_instruct_235 (by decide) ?_
                      refine lv_icmp_ne (pc := 236) (tgt := 264) F.1 F.2.1 d_M_instruct_236 rfl (fun h52 => ?_) (fun h52 => ?_)
                      · refine lv_iload (pc := 264) F.1 F.2.1 d_M_instruct_264 (lv_at hl 5 rfl) ?_
                        refine lv_bipush (pc := 266) (v := 6) F.1 F.2.1 d_M_instruct_266 (by decide) ?_
                        refine lv_icmp_ne (pc := 268) (tgt := 291) F.1 F.2.1 d_M_instruct_268 rfl (fun h53 => ?_) (fun h53 => ?_)
                        · refine lv_iload (pc := 291) F.1 F.2.1 d_M_instruct_291 (lv_at hl 5 rfl) ?_
                          refine lv_bipush (pc := 293) (v := 9) F.1 F.2.1 d_M_instruct_293 (by decide) ?_
                          refine lv_icmp_ne (pc := 295) (tgt := 351) F.1 F.2.1 d_M_instruct_295 rfl (fun h54 => ?_) (fun h54 => ?_)
                          · refine lv_iload (pc := 351) F.1 F.2.1 d_M_instruct_351 (lv_at hl 5 rfl) ?_
                            refine lv_bipush (pc := 353) (v := 10) F.1 F.2.1 d_M_instruct_353 (by decide) ?_
                            refine lv_icmp_ne (pc := 355) (tgt := 370) F.1 F.2.1 d_M_instruct_355 rfl (fun h55 => ?_) (fun h55 => ?_)
                            · refine lv_iload (pc := 370) F.1 F.2.1 d_M_instruct_370 (lv_at hl 5 rfl) ?_
                              refine lv_bipush (pc := 372) (v := 11) F.1 F.2.1 d_M_instruct_372 (by decide) ?_
                              refine lv_icmp_ne (pc := 374) (tgt := 422) F.1 F.2.1 d_M_instruct_374 rfl (fun h56 => ?_) (fun h56 => ?_)
                              · refine lv_iload (pc := 422) F.1 F.2.1 d_M_instruct_422 (lv_at hl 5 rfl) ?_
                                refine lv_bipush (pc := 424) (v := 12) F.1 F.2.1 d_M_instruct_424 (by decide) ?_
                                refine lv_icmp_ne (pc := 426) (tgt := 446) F.1 F.2.1 d_M_instruct_426 rfl (fun h57 => ?_) (fun h57 => ?_)
                                · refine lv_iload (pc := 446) F.1 F.2.1 d_M_instruct_446 (lv_at hl 5 rfl) ?_
                                  refine lv_bipush (pc := 448) (v := 13) F.1 F.2.1 d_M_instruct_448 (by decide) ?_
                                  refine lv_icmp_ne (pc := 450) (tgt := 474) F.1 F.2.1 d_M_instruct_450 rfl (fun h58 => ?_) (fun h58 => ?_)
                                  · refine lv_aload_n (pc := 474) F.1 F.2.1 d_M_instruct_474 rfl (lv_at hl 8 rfl) ?_
                                    refine x_get (pc := 475) (v := .ref (ad 3)) F hw 0 2 (fun x h => List.mem_cons_of_mem _ (in_M x h)) rfl rfl (by decide) (List.mem_cons_of_mem _ m_525) rfl d_M_instruct_475 ?_
                                    refine lv_iload_n (pc := 478) F.1 F.2.1 d_M_instruct_478 rfl (lv_at hl 7 rfl) ?_
                                    refine lv_bipush (pc := 479) (v := 59) F.1 F.2.1 d_M_instruct_479 (by decide) ?_
                                    refine lv_iadd (pc := 481) F.1 F.2.1 d_M_instruct_481 ?_
                                    refine x_top (y := nI (60 * h0 + 59)) (x_add2 rfl rfl) ?_
                                    refine lv_dup2_11 (pc := 482) F.1 F.2.1 d_M_instruct_482 rfl rfl ?_
                                    refine x_iald (pc := 483) F hw 3 0 (60 * h0 + 59) rfl rfl rfl (by omega) (by decide) d_M_instruct_483 ?_
                                    refine lv_iconst (pc := 484) (v := 1) F.1 F.2.1 d_M_instruct_484 (by decide) ?_
                                    refine lv_iadd (pc := 485) F.1 F.2.1 d_M_instruct_485 ?_
                                    refine x_iast (pc := 486) (ws' := MW ad cT im me (upd ro (60 * h0 + 59) ((ro (60 * h0 + 59)) + 1)) up ho di os ob od on pg tm ts tr ki mo po sr ld st ow nu go la so se sl sp tp rd pn) F hw 3 0 (60 * h0 + 59) rfl rfl rfl (by omega) (by decide) d_M_instruct_486 rfl (fun H locs hw => ?_)
                                    refine lv_aload_n (pc := 487) F.1 F.2.1 d_M_instruct_487 rfl (lv_at hl 8 rfl) ?_
                                    refine x_get (pc := 488) (v := .ref (ad 3)) F hw 0 2 (fun x h => List.mem_cons_of_mem _ (in_M x h)) rfl rfl (by decide) (List.mem_cons_of_mem _ m_525) rfl d_M_instruct_488 ?_
                                    refine lv_iload_n (pc := 491) F.1 F.2.1 d_M_instruct_491 rfl (lv_at hl 7 rfl) ?_
                                    refine lv_iconst (pc := 492) (v := 4) F.1 F.2.1 d_M_instruct_492 (by decide) ?_
                                    refine lv_iadd (pc := 493) F.1 F.2.1 d_M_instruct_493 ?_
                                    refine x_top (y := nI (60 * h0 + 4)) (x_add2 rfl rfl) ?_
                                    refine lv_iload (pc := 494) F.1 F.2.1 d_M_instruct_494 (lv_at hl 0 rfl) ?_
                                    refine lv_if_eq (pc := 496) (tgt := 504) F.1 F.2.1 d_M_instruct_496 rfl (fun _ => ?_) (fun h => absurd h (by decide))
                                    refine lv_aload_n (pc := 504) F.1 F.2.1 d_M_instruct_504 rfl (lv_at hl 8 rfl) ?_
                                    refine x_get (pc := 505) (v := .ref (ad 3)) F hw 0 2 (fun x h => List.mem_cons_of_mem _ (in_M x h)) rfl rfl (by decide) (List.mem_cons_of_mem _ m_525) rfl d_M_instruct_505 ?_
                                    refine lv_iload_n (pc := 508) F.1 F.2.1 d_M_instruct_508 rfl (lv_at hl 7 rfl) ?_
                                    refine lv_iconst (pc := 509) (v := 4) F.1 F.2.1 d_M_instruct_509 (by decide) ?_
                                    refine lv_iadd (pc := 510) F.1 F.2.1 d_M_instruct_510 ?_
                                    refine x_top (y := nI (60 * h0 + 4)) (x_add2 rfl rfl) ?_
                                    refine x_iald (pc := 511) F hw 3 0 (60 * h0 + 4) rfl rfl rfl (by omega) (by decide) d_M_instruct_511 ?_
                                    refine lv_iconst (pc := 512) (v := 1) F.1 F.2.1 d_M_instruct_512 (by decide) ?_
                                    refine lv_iadd (pc := 513) F.1 F.2.1 d_M_instruct_513 ?_
                                    refine lv_bipush (pc := 514) (v := 63) F.1 F.2.1 d_M_instruct_514 (by decide) ?_
                                    refine lv_iand (pc := 516) F.1 F.2.1 d_M_instruct_516 ?_
                                    refine x_top (y := nI (lo 6 (((upd ro (60 * h0 + 59) ((ro (60 * h0 + 59)) + 1)) (60 * h0 + 4)) + 1))) (lo_and 6 _ _ (by decide)) ?_
                                    have b59 : lo 6 (((upd ro (60 * h0 + 59) ((ro (60 * h0 + 59)) + 1)) (60 * h0 + 4)) + 1) < 64 := lo_lt 6 _
                                    refine x_iast (pc := 517) (ws' := MW ad cT im me (upd (upd ro (60 * h0 + 59) ((ro (60 * h0 + 59)) + 1)) (60 * h0 + 4) (nI (lo 6 (((upd ro (60 * h0 + 59) ((ro (60 * h0 + 59)) + 1)) (60 * h0 + 4)) + 1)))) up ho di os ob od on pg tm ts tr ki mo po sr ld st ow nu go la so se sl sp tp rd pn) F hw 3 0 (60 * h0 + 4) rfl rfl rfl (by omega) (by decide) d_M_instruct_517 rfl (fun H locs hw => ?_)
                                    refine lv_aload_n (pc := 518) F.1 F.2.1 d_M_instruct_518 rfl (lv_at hl 8 rfl) ?_
                                    refine lv_iload_n (pc := 519) F.1 F.2.1 d_M_instruct_519 rfl (lv_at hl 7 rfl) ?_
                                    refine x_callv (pc := 520) (wr := []) hw [0, 1, 2, 3, 4, 5, 6, 7, 8, 9, 10, 11, 12, 13, 14, 15, 16, 17, 18, 19] [] rfl rfl (by decide) (by decide) (va_runV (As := [.int (nI (60 * h0))]) (rest := []) F (c_M_tick l D cT ad im me (upd (upd ro (60 * h0 + 59) ((ro (60 * h0 + 59)) + 1)) (60 * h0 + 4) (nI (lo 6 (((upd ro (60 * h0 + 59) ((ro (60 * h0 + 59)) + 1)) (60 * h0 + 4)) + 1)))) up ho di os ob od on pg tm ts tr ki mo po sr ld st ow nu go la so se sl sp tp rd pn (60 * h0) (by omega) _) (x_cw (C := "MovingGuestModel") 1 F (g_all y_M_tick b_M_tick 2 none (List.mem_cons_of_mem _ m_650)) rfl rfl rfl (F.2.2.2.2 _ (List.mem_cons_of_mem _ m_40)) (F.2.2.2.2 _ (List.mem_cons_of_mem _ m_648)) (F.2.2.2.2 _ (List.mem_cons_of_mem _ m_649)) (F.2.2.2.2 _ (List.mem_cons_of_mem _ m_21)) (by decide +kernel) ⟨by decide, by decide⟩) (hw.preV (q0 := 0) [0, 1, 2, 3, 4, 5, 6, 7, 8, 9, 10, 11, 12, 13, 14, 15, 16, 17, 18, 19] (by decide) rfl rfl rfl) rfl rfl hl.1 rfl (lv_room (Nat.le_of_ble_eq_true rfl)) d_M_instruct_520 ⟨by decide, by decide⟩) (fun rov61 H locs e60 hw => ?_)
                                    have hw : Hw D vwCl (TYS cT) A s (MW ad cT im me rov61 up ho di os ob od on pg tm ts tr ki mo po sr ld st ow nu go la so se sl sp tp rd pn) H locs := hw
                                    refine lv_iconst (pc := 523) (v := 1) F.1 F.2.1 d_M_instruct_523 (by decide) ?_
                                    refine W.widen (k := 0) (n := 0) (by decide) (by decide) ?_
                                    exact ret 1 (me, rov61, pg, os, ob, od, on) _ _ 524 _ rfl (by unfold F_M_instruct <;> rw [if_neg h5] <;> rw [if_neg h6] <;> rw [if_neg h7] <;> rw [if_neg h32] <;> rw [if_neg h33] <;> rw [if_neg h47] <;> rw [if_neg h48] <;> rw [if_neg h49] <;> rw [if_neg h50] <;> rw [if_neg h51] <;> rw [if_neg h52] <;> rw [if_neg h53] <;> rw [if_neg h54] <;> rw [if_neg h55] <;> rw [if_neg h58] <;> rw [e60] <;> (try dsimp only) <;> rfl) hw d_M_instruct_524
                                  · refine lv_aload_n (pc := 453) F.1 F.2.1 d_M_instruct_453 rfl (lv_at hl 8 rfl) ?_
                                    refine x_get (pc := 454) (v := .ref (ad 3)) F hw 0 2 (fun x h => List.mem_cons_of_mem _ (in_M x h)) rfl rfl (by decide) (List.mem_cons_of_mem _ m_525) rfl d_M_instruct_454 ?_
                                    refine lv_iload_n (pc := 457) F.1 F.2.1 d_M_instruct_457 rfl (lv_at hl 7 rfl) ?_
                                    refine lv_iconst (pc := 458) (v := 5) F.1 F.2.1 d_M_instruct_458 (by decide) ?_
                                    refine lv_iadd (pc := 459) F.1 F.2.1 d_M_instruct_459 ?_
                                    refine x_top (y := nI (60 * h0 + 5)) (x_add2 rfl rfl) ?_
                                    refine lv_aload_n (pc := 460) F.1 F.2.1 d_M_instruct_460 rfl (lv_at hl 8 rfl) ?_
                                    refine x_get (pc := 461) (v := .ref (ad 3)) F hw 0 2 (fun x h => List.mem_cons_of_mem _ (in_M x h)) rfl rfl (by decide) (List.mem_cons_of_mem _ m_525) rfl d_M_instruct_461 ?_
                                    refine lv_iload (pc := 464) F.1 F.2.1 d_M_instruct_464 (lv_at hl 4 rfl) ?_
                                    refine x_iald (pc := 466) F hw 3 0 (60 * h0 + (lo 2 (v >>> (4 &&& 31)))) rfl rfl rfl (by omega) (by decide) d_M_instruct_466 ?_
                                    refine lv_sipush (pc := 467) (v := 255) F.1 F.2.1 d_M_instruct_467 (by decide) ?_
                                    refine lv_iand (pc := 470) F.1 F.2.1 d_M_instruct_470 ?_
                                    refine x_top (y := nI (lo 8 (ro (60 * h0 + (lo 2 (v >>> (4 &&& 31))))))) (lo_and 8 _ _ (by decide)) ?_
                                    have b62 : lo 8 (ro (60 * h0 + (lo 2 (v >>> (4 &&& 31))))) < 256 := lo_lt 8 _
                                    refine lv_iconst (pc := 471) (v := 1) F.1 F.2.1 d_M_instruct_471 (by decide) ?_
                                    refine lv_iadd (pc := 472) F.1 F.2.1 d_M_instruct_472 ?_
                                    refine x_top (y := nI (lo 8 (ro (60 * h0 + (lo 2 (v >>> (4 &&& 31))))) + 1)) (x_add2 rfl rfl) ?_
                                    refine x_iast (pc := 473) (ws' := MW ad cT im me (upd ro (60 * h0 + 5) (nI (lo 8 (ro (60 * h0 + (lo 2 (v >>> (4 &&& 31))))) + 1))) up ho di os ob od on pg tm ts tr ki mo po sr ld st ow nu go la so se sl sp tp rd pn) F hw 3 0 (60 * h0 + 5) rfl rfl rfl (by omega) (by decide) d_M_instruct_473 rfl (fun H locs hw => ?_)
                                    refine lv_aload_n (pc := 474) F.1 F.2.1 d_M_instruct_474 rfl (lv_at hl 8 rfl) ?_
                                    refine x_get (pc := 475) (v := .ref (ad 3)) F hw 0 2 (fun x h => List.mem_cons_of_mem _ (in_M x h)) rfl rfl (by decide) (List.mem_cons_of_mem _ m_525) rfl d_M_instruct_475 ?_
                                    refine lv_iload_n (pc := 478) F.1 F.2.1 d_M_instruct_478 rfl (lv_at hl 7 rfl) ?_
                                    refine lv_bipush (pc := 479) (v := 59) F.1 F.2.1 d_M_instruct_479 (by decide) ?_
                                    refine lv_iadd (pc := 481) F.1 F.2.1 d_M_instruct_481 ?_
                                    refine x_top (y := nI (60 * h0 + 59)) (x_add2 rfl rfl) ?_
                                    refine lv_dup2_11 (pc := 482) F.1 F.2.1 d_M_instruct_482 rfl rfl ?_
                                    refine x_iald (pc := 483) F hw 3 0 (60 * h0 + 59) rfl rfl rfl (by omega) (by decide) d_M_instruct_483 ?_
                                    refine lv_iconst (pc := 484) (v := 1) F.1 F.2.1 d_M_instruct_484 (by decide) ?_
                                    refine lv_iadd (pc := 485) F.1 F.2.1 d_M_instruct_485 ?_
                                    refine x_iast (pc := 486) (ws' := MW ad cT im me (upd (upd ro (60 * h0 + 5) (nI (lo 8 (ro (60 * h0 + (lo 2 (v >>> (4 &&& 31))))) + 1))) (60 * h0 + 59) (((upd ro (60 * h0 + 5) (nI (lo 8 (ro (60 * h0 + (lo 2 (v >>> (4 &&& 31))))) + 1))) (60 * h0 + 59)) + 1)) up ho di os ob od on pg tm ts tr ki mo po sr ld st ow nu go la so se sl sp tp rd pn) F hw 3 0 (60 * h0 + 59) rfl rfl rfl (by omega) (by decide) d_M_instruct_486 rfl (fun H locs hw => ?_)
                                    refine lv_aload_n (pc := 487) F.1 F.2.1 d_M_instruct_487 rfl (lv_at hl 8 rfl) ?_
                                    refine x_get (pc := 488) (v := .ref (ad 3)) F hw 0 2 (fun x h => List.mem_cons_of_mem _ (in_M x h)) rfl rfl (by decide) (List.mem_cons_of_mem _ m_525) rfl d_M_instruct_488 ?_
                                    refine lv_iload_n (pc := 491) F.1 F.2.1 d_M_instruct_491 rfl (lv_at hl 7 rfl) ?_
                                    refine lv_iconst (pc := 492) (v := 4) F.1 F.2.1 d_M_instruct_492 (by decide) ?_
                                    refine lv_iadd (pc := 493) F.1 F.2.1 d_M_instruct_493 ?_
                                    refine x_top (y := nI (60 * h0 + 4)) (x_add2 rfl rfl) ?_
                                    refine lv_iload (pc := 494) F.1 F.2.1 d_M_instruct_494 (lv_at hl 0 rfl) ?_
                                    refine lv_if_eq (pc := 496) (tgt := 504) F.1 F.2.1 d_M_instruct_496 rfl (fun _ => ?_) (fun h => absurd h (by decide))
                                    refine lv_aload_n (pc := 504) F.1 F.2.1 d_M_instruct_504 rfl (lv_at hl 8 rfl) ?_
                                    refine x_get (pc := 505) (v := .ref (ad 3)) F hw 0 2 (fun x h => List.mem_cons_of_mem _ (in_M x h)) rfl rfl (by decide) (List.mem_cons_of_mem _ m_525) rfl d_M_instruct_505 ?_
                                    refine lv_iload_n (pc := 508) F.1 F.2.1 d_M_instruct_508 rfl (lv_at hl 7 rfl) ?_
                                    refine lv_iconst (pc := 509) (v := 4) F.1 F.2.1 d_M_instruct_509 (by decide) ?_
                                    refine lv_iadd (pc := 510) F.1 F.2.1 d_M_instruct_510 ?_
                                    refine x_top (y := nI (60 * h0 + 4)) (x_add2 rfl rfl) ?_
                                    refine x_iald (pc := 511) F hw 3 0 (60 * h0 + 4) rfl rfl rfl (by omega) (by decide) d_M_instruct_511 ?_
                                    refine lv_iconst (pc := 512) (v := 1) F.1 F.2.1 d_M_instruct_512 (by decide) ?_
                                    refine lv_iadd (pc := 513) F.1 F.2.1 d_M_instruct_513 ?_
                                    refine lv_bipush (pc := 514) (v := 63) F.1 F.2.1 d_M_instruct_514 (by decide) ?_
                                    refine lv_iand (pc := 516) F.1 F.2.1 d_M_instruct_516 ?_
                                    refine x_top (y := nI (lo 6 (((upd (upd ro (60 * h0 + 5) (nI (lo 8 (ro (60 * h0 + (lo 2 (v >>> (4 &&& 31))))) + 1))) (60 * h0 + 59) (((upd ro (60 * h0 + 5) (nI (lo 8 (ro (60 * h0 + (lo 2 (v >>> (4 &&& 31))))) + 1))) (60 * h0 + 59)) + 1)) (60 * h0 + 4)) + 1))) (lo_and 6 _ _ (by decide)) ?_
                                    have b63 : lo 6 (((upd (upd ro (60 * h0 + 5) (nI (lo 8 (ro (60 * h0 + (lo 2 (v >>> (4 &&& 31))))) + 1))) (60 * h0 + 59) (((upd ro (60 * h0 + 5) (nI (lo 8 (ro (60 * h0 + (lo 2 (v >>> (4 &&& 31))))) + 1))) (60 * h0 + 59)) + 1)) (60 * h0 + 4)) + 1) < 64 := lo_lt 6 _
                                    refine x_iast (pc := 517) (ws' := MW ad cT im me (upd (upd (upd ro (60 * h0 + 5) (nI (lo 8 (ro (60 * h0 + (lo 2 (v >>> (4 &&& 31))))) + 1))) (60 * h0 + 59) (((upd ro (60 * h0 + 5) (nI (lo 8 (ro (60 * h0 + (lo 2 (v >>> (4 &&& 31))))) + 1))) (60 * h0 + 59)) + 1)) (60 * h0 + 4) (nI (lo 6 (((upd (upd ro (60 * h0 + 5) (nI (lo 8 (ro (60 * h0 + (lo 2 (v >>> (4 &&& 31))))) + 1))) (60 * h0 + 59) (((upd ro (60 * h0 + 5) (nI (lo 8 (ro (60 * h0 + (lo 2 (v >>> (4 &&& 31))))) + 1))) (60 * h0 + 59)) + 1)) (60 * h0 + 4)) + 1)))) up ho di os ob od on pg tm ts tr ki mo po sr ld st ow nu go la so se sl sp tp rd pn) F hw 3 0 (60 * h0 + 4) rfl rfl rfl (by omega) (by decide) d_M_instruct_517 rfl (fun H locs hw => ?_)
                                    refine lv_aload_n (pc := 518) F.1 F.2.1 d_M_instruct_518 rfl (lv_at hl 8 rfl) ?_
                                    refine lv_iload_n (pc := 519) F.1 F.2.1 d_M_instruct_519 rfl (lv_at hl 7 rfl) ?_
                                    refine x_callv (pc := 520) (wr := []) hw [0, 1, 2, 3, 4, 5, 6, 7, 8, 9, 10, 11, 12, 13, 14, 15, 16, 17, 18, 19] [] rfl rfl (by decide) (by decide) (va_runV (As := [.int (nI (60 * h0))]) (rest := []) F (c_M_tick l D cT ad im me (upd (upd (upd ro (60 * h0 + 5) (nI (lo 8 (ro (60 * h0 + (lo 2 (v >>> (4 &&& 31))))) + 1))) (60 * h0 + 59) (((upd ro (60 * h0 + 5) (nI (lo 8 (ro (60 * h0 + (lo 2 (v >>> (4 &&& 31))))) + 1))) (60 * h0 + 59)) + 1)) (60 * h0 + 4) (nI (lo 6 (((upd (upd ro (60 * h0 + 5) (nI (lo 8 (ro (60 * h0 + (lo 2 (v >>> (4 &&& 31))))) + 1))) (60 * h0 + 59) (((upd ro (60 * h0 + 5) (nI (lo 8 (ro (60 * h0 + (lo 2 (v >>> (4 &&& 31))))) + 1))) (60 * h0 + 59)) + 1)) (60 * h0 + 4)) + 1)))) up ho di os ob od on pg tm ts tr ki mo po sr ld st ow nu go la so se sl sp tp rd pn (60 * h0) (by omega) _) (x_cw (C := "MovingGuestModel") 1 F (g_all y_M_tick b_M_tick 2 none (List.mem_cons_of_mem _ m_650)) rfl rfl rfl (F.2.2.2.2 _ (List.mem_cons_of_mem _ m_40)) (F.2.2.2.2 _ (List.mem_cons_of_mem _ m_648)) (F.2.2.2.2 _ (List.mem_cons_of_mem _ m_649)) (F.2.2.2.2 _ (List.mem_cons_of_mem _ m_21)) (by decide +kernel) ⟨by decide, by decide⟩) (hw.preV (q0 := 0) [0, 1, 2, 3, 4, 5, 6, 7, 8, 9, 10, 11, 12, 13, 14, 15, 16, 17, 18, 19] (by decide) rfl rfl rfl) rfl rfl hl.1 rfl (lv_room (Nat.le_of_ble_eq_true rfl)) d_M_instruct_520 ⟨by decide, by decide⟩) (fun rov65 H locs e64 hw => ?_)
                                    have hw : Hw D vwCl (TYS cT) A s (MW ad cT im me rov65 up ho di os ob od on pg tm ts tr ki mo po sr ld st ow nu go la so se sl sp tp rd pn) H locs := hw
                                    refine lv_iconst (pc := 523) (v := 1) F.1 F.2.1 d_M_instruct_523 (by decide) ?_
                                    refine W.widen (k := 0) (n := 0) (by decide) (by decide) ?_
                                    exact ret 1 (me, rov65, pg, os, ob, od, on) _ _ 524 _ rfl (by unfold F_M_instruct <;> rw [if_neg h5] <;> rw [if_neg h6] <;> rw [if_neg h7] <;> rw [if_neg h32] <;> rw [if_neg h33] <;> rw [if_neg h47] <;> rw [if_neg h48] <;> rw [if_neg h49] <;> rw [if_neg h50] <;> rw [if_neg h51] <;> rw [if_neg h52] <;> rw [if_neg h53] <;> rw [if_neg h54] <;> rw [if_neg h55] <;> rw [if_pos h58] <;> rw [e64] <;> (try dsimp only) <;> rfl) hw d_M_instruct_524
                                · exact absurd h57 h32
                              · exact absurd h56 h7
                            · refine lv_aload_n (pc := 358) F.1 F.2.1 d_M_instruct_358 rfl (lv_at hl 8 rfl) ?_
                              refine x_get (pc := 359) (v := .ref (ad 3)) F hw 0 2 (fun x h => List.mem_cons_of_mem _ (in_M x h)) rfl rfl (by decide) (List.mem_cons_of_mem _ m_525) rfl d_M_instruct_359 ?_
                              refine lv_iload (pc := 362) F.1 F.2.1 d_M_instruct_362 (lv_at hl 4 rfl) ?_
                              refine lv_aload_n (pc := 364) F.1 F.2.1 d_M_instruct_364 rfl (lv_at hl 8 rfl) ?_
                              refine lv_iload_n (pc := 365) F.1 F.2.1 d_M_instruct_365 rfl (lv_at hl 7 rfl) ?_
                              refine x_calli (pc := 366) (wr := []) hw [0, 1, 2, 3, 4, 5, 6, 7, 8, 9, 10, 11, 12, 13, 14, 15, 16, 17, 18, 19] [] rfl rfl (by decide) (by decide) (va_runV (As := [.int (nI (60 * h0))]) (rest := [.int (nI (60 * h0 + (lo 2 (v >>> (4 &&& 31))))), .ref (ad 3)]) F (c_M_taken l D cT ad im me ro up ho di os ob od on pg tm ts tr ki mo po sr ld st ow nu go la so se sl sp tp rd pn (60 * h0) (by omega) _) (x_cw (C := "MovingGuestModel") 1 F (g_all y_M_taken b_M_taken 4 (some .int) (List.mem_cons_of_mem _ m_644)) rfl rfl rfl (F.2.2.2.2 _ (List.mem_cons_of_mem _ m_40)) (F.2.2.2.2 _ (List.mem_cons_of_mem _ m_642)) (F.2.2.2.2 _ (List.mem_cons_of_mem _ m_643)) (F.2.2.2.2 _ (List.mem_cons_of_mem _ m_19)) (by decide +kernel) ⟨by decide, by decide⟩) (hw.preV (q0 := 0) [0, 1, 2, 3, 4, 5, 6, 7, 8, 9, 10, 11, 12, 13, 14, 15, 16, 17, 18, 19] (by decide) rfl rfl rfl) rfl rfl hl.1 rfl (lv_room (Nat.le_of_ble_eq_true rfl)) d_M_instruct_366 ⟨by decide, by decide⟩) (fun r67 rov68 H locs e66 hw => ?_)
                              have hw : Hw D vwCl (TYS cT) A s (MW ad cT im me rov68 up ho di os ob od on pg tm ts tr ki mo po sr ld st ow nu go la so se sl sp tp rd pn) H locs := hw
                              refine x_iast (pc := 369) (ws' := MW ad cT im me (upd rov68 (60 * h0 + (lo 2 (v >>> (4 &&& 31)))) r67) up ho di os ob od on pg tm ts tr ki mo po sr ld st ow nu go la so se sl sp tp rd pn) F hw 3 0 (60 * h0 + (lo 2 (v >>> (4 &&& 31)))) rfl rfl rfl (by omega) (by decide) d_M_instruct_369 rfl (fun H locs hw => ?_)
                              refine lv_iload (pc := 370) F.1 F.2.1 d_M_instruct_370 (lv_at hl 5 rfl) ?_
                              refine lv_bipush (pc := 372) (v := 11) F.1 F.2.1 d_M_instruct_372 (by decide) ?_
                              refine lv_icmp_ne (pc := 374) (tgt := 422) F.1 F.2.1 d_M_instruct_374 rfl (fun _ => ?_) (fun h69 => (by rw [h55] at h69; exact absurd h69 (by decide)))
                              refine lv_iload (pc := 422) F.1 F.2.1 d_M_instruct_422 (lv_at hl 5 rfl) ?_
                              refine lv_bipush (pc := 424) (v := 12) F.1 F.2.1 d_M_instruct_424 (by decide) ?_
                              refine lv_icmp_ne (pc := 426) (tgt := 446) F.1 F.2.1 d_M_instruct_426 rfl (fun _ => ?_) (fun h70 => (by rw [h55] at h70; exact absurd h70 (by decide)))
                              refine lv_iload (pc := 446) F.1 F.2.1 d_M_instruct_446 (lv_at hl 5 rfl) ?_
                              refine lv_bipush (pc := 448) (v := 13) F.1 F.2.1 d_M_instruct_448 (by decide) ?_
                              refine lv_icmp_ne (pc := 450) (tgt := 474) F.1 F.2.1 d_M_instruct_450 rfl (fun _ => ?_) (fun h71 => (by rw [h55] at h71; exact absurd h71 (by decide)))
                              refine lv_aload_n (pc := 474) F.1 F.2.1 d_M_instruct_474 rfl (lv_at hl 8 rfl) ?_
                              refine x_get (pc := 475) (v := .ref (ad 3)) F hw 0 2 (fun x h => List.mem_cons_of_mem _ (in_M x h)) rfl rfl (by decide) (List.mem_cons_of_mem _ m_525) rfl d_M_instruct_475 ?_
                              refine lv_iload_n (pc := 478) F.1 F.2.1 d_M_instruct_478 rfl (lv_at hl 7 rfl) ?_
                              refine lv_bipush (pc := 479) (v := 59) F.1 F.2.1 d_M_instruct_479 (by decide) ?_
                              refine lv_iadd (pc := 481) F.1 F.2.1 d_M_instruct_481 ?_
                              refine x_top (y := nI (60 * h0 + 59)) (x_add2 rfl rfl) ?_
                              refine lv_dup2_11 (pc := 482) F.1 F.2.1 d_M_instruct_482 rfl rfl ?_
                              refine x_iald (pc := 483) F hw 3 0 (60 * h0 + 59) rfl rfl rfl (by omega) (by decide) d_M_instruct_483 ?_
                              refine lv_iconst (pc := 484) (v := 1) F.1 F.2.1 d_M_instruct_484 (by decide) ?_
                              refine lv_iadd (pc := 485) F.1 F.2.1 d_M_instruct_485 ?_
                              refine x_iast (pc := 486) (ws' := MW ad cT im me (upd (upd rov68 (60 * h0 + (lo 2 (v >>> (4 &&& 31)))) r67) (60 * h0 + 59) (((upd rov68 (60 * h0 + (lo 2 (v >>> (4 &&& 31)))) r67) (60 * h0 + 59)) + 1)) up ho di os ob od on pg tm ts tr ki mo po sr ld st ow nu go la so se sl sp tp rd pn) F hw 3 0 (60 * h0 + 59) rfl rfl rfl (by omega) (by decide) d_M_instruct_486 rfl (fun H locs hw => ?_)
                              refine lv_aload_n (pc := 487) F.1 F.2.1 d_M_instruct_487 rfl (lv_at hl 8 rfl) ?_
                              refine x_get (pc := 488) (v := .ref (ad 3)) F hw 0 2 (fun x h => List.mem_cons_of_mem _ (in_M x h)) rfl rfl (by decide) (List.mem_cons_of_mem _ m_525) rfl d_M_instruct_488 ?_
                              refine lv_iload_n (pc := 491) F.1 F.2.1 d_M_instruct_491 rfl (lv_at hl 7 rfl) ?_
                              refine lv_iconst (pc := 492) (v := 4) F.1 F.2.1 d_M_instruct_492 (by decide) ?_
                              refine lv_iadd (pc := 493) F.1 F.2.1 d_M_instruct_493 ?_
                              refine x_top (y := nI (60 * h0 + 4)) (x_add2 rfl rfl) ?_
                              refine lv_iload (pc := 494) F.1 F.2.1 d_M_instruct_494 (lv_at hl 0 rfl) ?_
                              refine lv_if_eq (pc := 496) (tgt := 504) F.1 F.2.1 d_M_instruct_496 rfl (fun _ => ?_) (fun h => absurd h (by decide))
                              refine lv_aload_n (pc := 504) F.1 F.2.1 d_M_instruct_504 rfl (lv_at hl 8 rfl) ?_
                              refine x_get (pc := 505) (v := .ref (ad 3)) F hw 0 2 (fun x h => List.mem_cons_of_mem _ (in_M x h)) rfl rfl (by decide) (List.mem_cons_of_mem _ m_525) rfl d_M_instruct_505 ?_
                              refine lv_iload_n (pc := 508) F.1 F.2.1 d_M_instruct_508 rfl (lv_at hl 7 rfl) ?_
                              refine lv_iconst (pc := 509) (v := 4) F.1 F.2.1 d_M_instruct_509 (by decide) ?_
                              refine lv_iadd (pc := 510) F.1 F.2.1 d_M_instruct_510 ?_
                              refine x_top (y := nI (60 * h0 + 4)) (x_add2 rfl rfl) ?_
                              refine x_iald (pc := 511) F hw 3 0 (60 * h0 + 4) rfl rfl rfl (by omega) (by decide) d_M_instruct_511 ?_
                              refine lv_iconst (pc := 512) (v := 1) F.1 F.2.1 d_M_instruct_512 (by decide) ?_
                              refine lv_iadd (pc := 513) F.1 F.2.1 d_M_instruct_513 ?_
                              refine lv_bipush (pc := 514) (v := 63) F.1 F.2.1 d_M_instruct_514 (by decide) ?_
                              refine lv_iand (pc := 516) F.1 F.2.1 d_M_instruct_516 ?_
                              refine x_top (y := nI (lo 6 (((upd (upd rov68 (60 * h0 + (lo 2 (v >>> (4 &&& 31)))) r67) (60 * h0 + 59) (((upd rov68 (60 * h0 + (lo 2 (v >>> (4 &&& 31)))) r67) (60 * h0 + 59)) + 1)) (60 * h0 + 4)) + 1))) (lo_and 6 _ _ (by decide)) ?_
                              have b72 : lo 6 (((upd (upd rov68 (60 * h0 + (lo 2 (v >>> (4 &&& 31)))) r67) (60 * h0 + 59) (((upd rov68 (60 * h0 + (lo 2 (v >>> (4 &&& 31)))) r67) (60 * h0 + 59)) + 1)) (60 * h0 + 4)) + 1) < 64 := lo_lt 6 _
                              refine x_iast (pc := 517) (ws' := MW ad cT im me (upd (upd (upd rov68 (60 * h0 + (lo 2 (v >>> (4 &&& 31)))) r67) (60 * h0 + 59) (((upd rov68 (60 * h0 + (lo 2 (v >>> (4 &&& 31)))) r67) (60 * h0 + 59)) + 1)) (60 * h0 + 4) (nI (lo 6 (((upd (upd rov68 (60 * h0 + (lo 2 (v >>> (4 &&& 31)))) r67) (60 * h0 + 59) (((upd rov68 (60 * h0 + (lo 2 (v >>> (4 &&& 31)))) r67) (60 * h0 + 59)) + 1)) (60 * h0 + 4)) + 1)))) up ho di os ob od on pg tm ts tr ki mo po sr ld st ow nu go la so se sl sp tp rd pn) F hw 3 0 (60 * h0 + 4) rfl rfl rfl (by omega) (by decide) d_M_instruct_517 rfl (fun H locs hw => ?_)
                              refine lv_aload_n (pc := 518) F.1 F.2.1 d_M_instruct_518 rfl (lv_at hl 8 rfl) ?_
                              refine lv_iload_n (pc := 519) F.1 F.2.1 d_M_instruct_519 rfl (lv_at hl 7 rfl) ?_
                              refine x_callv (pc := 520) (wr := []) hw [0, 1, 2, 3, 4, 5, 6, 7, 8, 9, 10, 11, 12, 13, 14, 15, 16, 17, 18, 19] [] rfl rfl (by decide) (by decide) (va_runV (As := [.int (nI (60 * h0))]) (rest := []) F (c_M_tick l D cT ad im me (upd (upd (upd rov68 (60 * h0 + (lo 2 (v >>> (4 &&& 31)))) r67) (60 * h0 + 59) (((upd rov68 (60 * h0 + (lo 2 (v >>> (4 &&& 31)))) r67) (60 * h0 + 59)) + 1)) (60 * h0 + 4) (nI (lo 6 (((upd (upd rov68 (60 * h0 + (lo 2 (v >>> (4 &&& 31)))) r67) (60 * h0 + 59) (((upd rov68 (60 * h0 + (lo 2 (v >>> (4 &&& 31)))) r67) (60 * h0 + 59)) + 1)) (60 * h0 + 4)) + 1)))) up ho di os ob od on pg tm ts tr ki mo po sr ld st ow nu go la so se sl sp tp rd pn (60 * h0) (by omega) _) (x_cw (C := "MovingGuestModel") 1 F (g_all y_M_tick b_M_tick 2 none (List.mem_cons_of_mem _ m_650)) rfl rfl rfl (F.2.2.2.2 _ (List.mem_cons_of_mem _ m_40)) (F.2.2.2.2 _ (List.mem_cons_of_mem _ m_648)) (F.2.2.2.2 _ (List.mem_cons_of_mem _ m_649)) (F.2.2.2.2 _ (List.mem_cons_of_mem _ m_21)) (by decide +kernel) ⟨by decide, by decide⟩) (hw.preV (q0 := 0) [0, 1, 2, 3, 4, 5, 6, 7, 8, 9, 10, 11, 12, 13, 14, 15, 16, 17, 18, 19] (by decide) rfl rfl rfl) rfl rfl hl.1 rfl (lv_room (Nat.le_of_ble_eq_true rfl)) d_M_instruct_520 ⟨by decide, by decide⟩) (fun rov74 H locs e73 hw => ?_)
                              have hw : Hw D vwCl (TYS cT) A s (MW ad cT im me rov74 up ho di os ob od on pg tm ts tr ki mo po sr ld st ow nu go la so se sl sp tp rd pn) H locs := hw
                              refine lv_iconst (pc := 523) (v := 1) F.1 F.2.1 d_M_instruct_523 (by decide) ?_
                              refine W.widen (k := 0) (n := 0) (by decide) (by decide) ?_
                              exact ret 1 (me, rov74, pg, os, ob, od, on) _ _ 524 _ rfl (by unfold F_M_instruct <;> rw [if_neg h5] <;> rw [if_neg h6] <;> rw [if_neg h7] <;> rw [if_neg h32] <;> rw [if_neg h33] <;> rw [if_neg h47] <;> rw [if_neg h48] <;> rw [if_neg h49] <;> rw [if_neg h50] <;> rw [if_neg h51] <;> rw [if_neg h52] <;> rw [if_neg h53] <;> rw [if_neg h54] <;> rw [if_pos h55] <;> rw [e66] <;> (try dsimp only) <;> rw [e73] <;> (try dsimp only) <;> rfl) hw d_M_instruct_524
                          · refine lv_aload_n (pc := 298) F.1 F.2.1 d_M_instruct_298 rfl (lv_at hl 8 rfl) ?_
                            refine x_get (pc := 299) (v := .ref (ad 3)) F hw 0 2 (fun x h => List.mem_cons_of_mem _ (in_M x h)) rfl rfl (by decide) (List.mem_cons_of_mem _ m_525) rfl d_M_instruct_299 ?_
                            refine lv_iload_n (pc := 302) F.1 F.2.1 d_M_instruct_302 rfl (lv_at hl 7 rfl) ?_
                            refine lv_bipush (pc := 303) (v := 15) F.1 F.2.1 d_M_instruct_303 (by decide) ?_
                            refine lv_iadd (pc := 305) F.1 F.2.1 d_M_instruct_305 ?_
                            refine x_top (y := nI (60 * h0 + 15)) (x_add2 rfl rfl) ?_
                            refine x_iald (pc := 306) F hw 3 0 (60 * h0 + 15) rfl rfl rfl (by omega) (by decide) d_M_instruct_306 ?_
                            refine x_top (y := nI (tN (ro (60 * h0 + 15)))) n1.1 ?_
                            refine lv_bipush (pc := 307) (v := 40) F.1 F.2.1 d_M_instruct_307 (by decide) ?_
                            refine lv_icmp_ge (pc := 309) (tgt := 351) F.1 F.2.1 d_M_instruct_309 rfl (fun h75 => ?_) (fun h75 => ?_)
                            · refine lv_iload (pc := 351) F.1 F.2.1 d_M_instruct_351 (lv_at hl 5 rfl) ?_
                              refine lv_bipush (pc := 353) (v := 10) F.1 F.2.1 d_M_instruct_353 (by decide) ?_
                              refine lv_icmp_ne (pc := 355) (tgt := 370) F.1 F.2.1 d_M_instruct_355 rfl (fun _ => ?_) (fun h76 => (by rw [h54] at h76; exact absurd h76 (by decide)))
                              refine lv_iload (pc := 370) F.1 F.2.1 d_M_instruct_370 (lv_at hl 5 rfl) ?_
                              refine lv_bipush (pc := 372) (v := 11) F.1 F.2.1 d_M_instruct_372 (by decide) ?_
                              refine lv_icmp_ne (pc := 374) (tgt := 422) F.1 F.2.1 d_M_instruct_374 rfl (fun _ => ?_) (fun h77 => (by rw [h54] at h77; exact absurd h77 (by decide)))
                              refine lv_iload (pc := 422) F.1 F.2.1 d_M_instruct_422 (lv_at hl 5 rfl) ?_
                              refine lv_bipush (pc := 424) (v := 12) F.1 F.2.1 d_M_instruct_424 (by decide) ?_
                              refine lv_icmp_ne (pc := 426) (tgt := 446) F.1 F.2.1 d_M_instruct_426 rfl (fun _ => ?_) (fun h78 => (by rw [h54] at h78; exact absurd h78 (by decide)))
                              refine lv_iload (pc := 446) F.1 F.2.1 d_M_instruct_446 (lv_at hl 5 rfl) ?_
                              refine lv_bipush (pc := 448) (v := 13) F.1 F.2.1 d_M_instruct_448 (by decide) ?_
                              refine lv_icmp_ne (pc := 450) (tgt := 474) F.1 F.2.1 d_M_instruct_450 rfl (fun _ => ?_) (fun h79 => (by rw [h54] at h79; exact absurd h79 (by decide)))
                              refine lv_aload_n (pc := 474) F.1 F.2.1 d_M_instruct_474 rfl (lv_at hl 8 rfl) ?_
                              refine x_get (pc := 475) (v := .ref (ad 3)) F hw 0 2 (fun x h => List.mem_cons_of_mem _ (in_M x h)) rfl rfl (by decide) (List.mem_cons_of_mem _ m_525) rfl d_M_instruct_475 ?_
                              refine lv_iload_n (pc := 478) F.1 F.2.1 d_M_instruct_478 rfl (lv_at hl 7 rfl) ?_
                              refine lv_bipush (pc := 479) (v := 59) F.1 F.2.1 d_M_instruct_479 (by decide) ?_
                              refine lv_iadd (pc := 481) F.1 F.2.1 d_M_instruct_481 ?_
                              refine x_top (y := nI (60 * h0 + 59)) (x_add2 rfl rfl) ?_
                              refine lv_dup2_11 (pc := 482) F.1 F.2.1 d_M_instruct_482 rfl rfl ?_
                              refine x_iald (pc := 483) F hw 3 0 (60 * h0 + 59) rfl rfl rfl (by omega) (by decide) d_M_instruct_483 ?_
                              refine lv_iconst (pc := 484) (v := 1) F.1 F.2.1 d_M_instruct_484 (by decide) ?_
                              refine lv_iadd (pc := 485) F.1 F.2.1 d_M_instruct_485 ?_
                              refine x_iast (pc := 486) (ws' := MW ad cT im me (upd ro (60 * h0 + 59) ((ro (60 * h0 + 59)) + 1)) up ho di os ob od on pg tm ts tr ki mo po sr ld st ow nu go la so se sl sp tp rd pn) F hw 3 0 (60 * h0 + 59) rfl rfl rfl (by omega) (by decide) d_M_instruct_486 rfl (fun H locs hw => ?_)
                              refine lv_aload_n (pc := 487) F.1 F.2.1 d_M_instruct_487 rfl (lv_at hl 8 rfl) ?_
                              refine x_get (pc := 488) (v := .ref (ad 3)) F hw 0 2 (fun x h => List.mem_cons_of_mem _ (in_M x h)) rfl rfl (by decide) (List.mem_cons_of_mem _ m_525) rfl d_M_instruct_488 ?_
                              refine lv_iload_n (pc := 491) F.1 F.2.1 d_M_instruct_491 rfl (lv_at hl 7 rfl) ?_
                              refine lv_iconst (pc := 492) (v := 4) F.1 F.2.1 d_M_instruct_492 (by decide) ?_
                              refine lv_iadd (pc := 493) F.1 F.2.1 d_M_instruct_493 ?_
                              refine x_top (y := nI (60 * h0 + 4)) (x_add2 rfl rfl) ?_
                              refine lv_iload (pc := 494) F.1 F.2.1 d_M_instruct_494 (lv_at hl 0 rfl) ?_
                              refine lv_if_eq (pc := 496) (tgt := 504) F.1 F.2.1 d_M_instruct_496 rfl (fun _ => ?_) (fun h => absurd h (by decide))
                              refine lv_aload_n (pc := 504) F.1 F.2.1 d_M_instruct_504 rfl (lv_at hl 8 rfl) ?_
                              refine x_get (pc := 505) (v := .ref (ad 3)) F hw 0 2 (fun x h => List.mem_cons_of_mem _ (in_M x h)) rfl rfl (by decide) (List.mem_cons_of_mem _ m_525) rfl d_M_instruct_505 ?_
                              refine lv_iload_n (pc := 508) F.1 F.2.1 d_M_instruct_508 rfl (lv_at hl 7 rfl) ?_
                              refine lv_iconst (pc := 509) (v := 4) F.1 F.2.1 d_M_instruct_509 (by decide) ?_
                              refine lv_iadd (pc := 510) F.1 F.2.1 d_M_instruct_510 ?_
                              refine x_top (y := nI (60 * h0 + 4)) (x_add2 rfl rfl) ?_
                              refine x_iald (pc := 511) F hw 3 0 (60 * h0 + 4) rfl rfl rfl (by omega) (by decide) d_M_instruct_511 ?_
                              refine lv_iconst (pc := 512) (v := 1) F.1 F.2.1 d_M_instruct_512 (by decide) ?_
                              refine lv_iadd (pc := 513) F.1 F.2.1 d_M_instruct_513 ?_
                              refine lv_bipush (pc := 514) (v := 63) F.1 F.2.1 d_M_instruct_514 (by decide) ?_
                              refine lv_iand (pc := 516) F.1 F.2.1 d_M_instruct_516 ?_
                              refine x_top (y := nI (lo 6 (((upd ro (60 * h0 + 59) ((ro (60 * h0 + 59)) + 1)) (60 * h0 + 4)) + 1))) (lo_and 6 _ _ (by decide)) ?_
                              have b80 : lo 6 (((upd ro (60 * h0 + 59) ((ro (60 * h0 + 59)) + 1)) (60 * h0 + 4)) + 1) < 64 := lo_lt 6 _
                              refine x_iast (pc := 517) (ws' := MW ad cT im me (upd (upd ro (60 * h0 + 59) ((ro (60 * h0 + 59)) + 1)) (60 * h0 + 4) (nI (lo 6 (((upd ro (60 * h0 + 59) ((ro (60 * h0 + 59)) + 1)) (60 * h0 + 4)) + 1)))) up ho di os ob od on pg tm ts tr ki mo po sr ld st ow nu go la so se sl sp tp rd pn) F hw 3 0 (60 * h0 + 4) rfl rfl rfl (by omega) (by decide) d_M_instruct_517 rfl (fun H locs hw => ?_)
                              refine lv_aload_n (pc := 518) F.1 F.2.1 d_M_instruct_518 rfl (lv_at hl 8 rfl) ?_
                              refine lv_iload_n (pc := 519) F.1 F.2.1 d_M_instruct_519 rfl (lv_at hl 7 rfl) ?_
                              refine x_callv (pc := 520) (wr := []) hw [0, 1, 2, 3, 4, 5, 6, 7, 8, 9, 10, 11, 12, 13, 14, 15, 16, 17, 18, 19] [] rfl rfl (by decide) (by decide) (va_runV (As := [.int (nI (60 * h0))]) (rest := []) F (c_M_tick l D cT ad im me (upd (upd ro (60 * h0 + 59) ((ro (60 * h0 + 59)) + 1)) (60 * h0 + 4) (nI (lo 6 (((upd ro (60 * h0 + 59) ((ro (60 * h0 + 59)) + 1)) (60 * h0 + 4)) + 1)))) up ho di os ob od on pg tm ts tr ki mo po sr ld st ow nu go la so se sl sp tp rd pn (60 * h0) (by omega) _) (x_cw (C := "MovingGuestModel") 1 F (g_all y_M_tick b_M_tick 2 none (List.mem_cons_of_mem _ m_650)) rfl rfl rfl (F.2.2.2.2 _ (List.mem_cons_of_mem _ m_40)) (F.2.2.2.2 _ (List.mem_cons_of_mem _ m_648)) (F.2.2.2.2 _ (List.mem_cons_of_mem _ m_649)) (F.2.2.2.2 _ (List.mem_cons_of_mem _ m_21)) (by decide +kernel) ⟨by decide, by decide⟩) (hw.preV (q0 := 0) [0, 1, 2, 3, 4, 5, 6, 7, 8, 9, 10, 11, 12, 13, 14, 15, 16, 17, 18, 19] (by decide) rfl rfl rfl) rfl rfl hl.1 rfl (lv_room (Nat.le_of_ble_eq_true rfl)) d_M_instruct_520 ⟨by decide, by decide⟩) (fun rov82 H locs e81 hw => ?_)
                              have hw : Hw D vwCl (TYS cT) A s (MW ad cT im me rov82 up ho di os ob od on pg tm ts tr ki mo po sr ld st ow nu go la so se sl sp tp rd pn) H locs := hw
                              refine lv_iconst (pc := 523) (v := 1) F.1 F.2.1 d_M_instruct_523 (by decide) ?_
                              refine W.widen (k := 0) (n := 0) (by decide) (by decide) ?_
                              exact ret 1 (me, rov82, pg, os, ob, od, on) _ _ 524 _ rfl (by unfold F_M_instruct <;> rw [if_neg h5] <;> rw [if_neg h6] <;> rw [if_neg h7] <;> rw [if_neg h32] <;> rw [if_neg h33] <;> rw [if_neg h47] <;> rw [if_neg h48] <;> rw [if_neg h49] <;> rw [if_neg h50] <;> rw [if_neg h51] <;> rw [if_neg h52] <;> rw [if_neg h53] <;> rw [if_pos h54] <;> rw [if_pos h75] <;> rw [e81] <;> (try dsimp only) <;> rfl) hw d_M_instruct_524
                            · have z9 := nle_nat (m := 40) h75 (by omega) (by omega)
                              refine lv_aload_n (pc := 312) F.1 F.2.1 d_M_instruct_312 rfl (lv_at hl 8 rfl) ?_
                              refine x_get (pc := 313) (v := .ref (ad 3)) F hw 0 2 (fun x h => List.mem_cons_of_mem _ (in_M x h)) rfl rfl (by decide) (List.mem_cons_of_mem _ m_525) rfl d_M_instruct_313 ?_
                              refine lv_iload_n (pc := 316) F.1 F.2.1 d_M_instruct_316 rfl (lv_at hl 7 rfl) ?_
                              refine lv_bipush (pc := 317) (v := 16) F.1 F.2.1 d_M_instruct_317 (by decide) ?_
                              refine lv_iadd (pc := 319) F.1 F.2.1 d_M_instruct_319 ?_
                              refine x_top (y := nI (60 * h0 + 16)) (x_add2 rfl rfl) ?_
                              refine lv_aload_n (pc := 320) F.1 F.2.1 d_M_instruct_320 rfl (lv_at hl 8 rfl) ?_
                              refine x_get (pc := 321) (v := .ref (ad 3)) F hw 0 2 (fun x h => List.mem_cons_of_mem _ (in_M x h)) rfl rfl (by decide) (List.mem_cons_of_mem _ m_525) rfl d_M_instruct_321 ?_
                              refine lv_iload_n (pc := 324) F.1 F.2.1 d_M_instruct_324 rfl (lv_at hl 7 rfl) ?_
                              refine lv_bipush (pc := 325) (v := 15) F.1 F.2.1 d_M_instruct_325 (by decide) ?_
                              refine lv_iadd (pc := 327) F.1 F.2.1 d_M_instruct_327 ?_
                              refine x_top (y := nI (60 * h0 + 15)) (x_add2 rfl rfl) ?_
                              refine x_iald (pc := 328) F hw 3 0 (60 * h0 + 15) rfl rfl rfl (by omega) (by decide) d_M_instruct_328 ?_
                              refine x_top (y := nI (tN (ro (60 * h0 + 15)))) n1.1 ?_
                              refine lv_iadd (pc := 329) F.1 F.2.1 d_M_instruct_329 ?_
                              refine x_top (y := nI (60 * h0 + 16 + (tN (ro (60 * h0 + 15))))) (x_add2 rfl rfl) ?_
                              refine lv_aload_n (pc := 330) F.1 F.2.1 d_M_instruct_330 rfl (lv_at hl 8 rfl) ?_
                              refine x_get (pc := 331) (v := .ref (ad 3)) F hw 0 2 (fun x h => List.mem_cons_of_mem _ (in_M x h)) rfl rfl (by decide) (List.mem_cons_of_mem _ m_525) rfl d_M_instruct_331 ?_
                              refine lv_iload (pc := 334) F.1 F.2.1 d_M_instruct_334 (lv_at hl 4 rfl) ?_
                              refine x_iald (pc := 336) F hw 3 0 (60 * h0 + (lo 2 (v >>> (4 &&& 31)))) rfl rfl rfl (by omega) (by decide) d_M_instruct_336 ?_
                              refine x_iast (pc := 337) (ws' := MW ad cT im me (upd ro (60 * h0 + 16 + (tN (ro (60 * h0 + 15)))) (ro (60 * h0 + (lo 2 (v >>> (4 &&& 31)))))) up ho di os ob od on pg tm ts tr ki mo po sr ld st ow nu go la so se sl sp tp rd pn) F hw 3 0 (60 * h0 + 16 + (tN (ro (60 * h0 + 15)))) rfl rfl rfl (by omega) (by decide) d_M_instruct_337 rfl (fun H locs hw => ?_)
                              refine lv_aload_n (pc := 338) F.1 F.2.1 d_M_instruct_338 rfl (lv_at hl 8 rfl) ?_
                              refine x_get (pc := 339) (v := .ref (ad 3)) F hw 0 2 (fun x h => List.mem_cons_of_mem _ (in_M x h)) rfl rfl (by decide) (List.mem_cons_of_mem _ m_525) rfl d_M_instruct_339 ?_
                              refine lv_iload_n (pc := 342) F.1 F.2.1 d_M_instruct_342 rfl (lv_at hl 7 rfl) ?_
                              refine lv_bipush (pc := 343) (v := 15) F.1 F.2.1 d_M_instruct_343 (by decide) ?_
                              refine lv_iadd (pc := 345) F.1 F.2.1 d_M_instruct_345 ?_
                              refine x_top (y := nI (60 * h0 + 15)) (x_add2 rfl rfl) ?_
                              refine lv_dup2_11 (pc := 346) F.1 F.2.1 d_M_instruct_346 rfl rfl ?_
                              refine x_iald (pc := 347) F hw 3 0 (60 * h0 + 15) rfl rfl rfl (by omega) (by decide) d_M_instruct_347 ?_
                              refine lv_iconst (pc := 348) (v := 1) F.1 F.2.1 d_M_instruct_348 (by decide) ?_
                              refine lv_iadd (pc := 349) F.1 F.2.1 d_M_instruct_349 ?_
                              refine x_iast (pc := 350) (ws' := MW ad cT im me (upd (upd ro (60 * h0 + 16 + (tN (ro (60 * h0 + 15)))) (ro (60 * h0 + (lo 2 (v >>> (4 &&& 31)))))) (60 * h0 + 15) (((upd ro (60 * h0 + 16 + (tN (ro (60 * h0 + 15)))) (ro (60 * h0 + (lo 2 (v >>> (4 &&& 31)))))) (60 * h0 + 15)) + 1)) up ho di os ob od on pg tm ts tr ki mo po sr ld st ow nu go la so se sl sp tp rd pn) F hw 3 0 (60 * h0 + 15) rfl rfl rfl (by omega) (by decide) d_M_instruct_350 rfl (fun H locs hw => ?_)
                              refine lv_iload (pc := 351) F.1 F.2.1 d_M_instruct_351 (lv_at hl 5 rfl) ?_
                              refine lv_bipush (pc := 353) (v := 10) F.1 F.2.1 d_M_instruct_353 (by decide) ?_
                              refine lv_icmp_ne (pc := 355) (tgt := 370) F.1 F.2.1 d_M_instruct_355 rfl (fun _ => ?_) (fun h83 => (by rw [h54] at h83; exact absurd h83 (by decide)))
                              refine lv_iload (pc := 370) F.1 F.2.1 d_M_instruct_370 (lv_at hl 5 rfl) ?_
                              refine lv_bipush (pc := 372) (v := 11) F.1 F.2.1 d_M_instruct_372 (by decide) ?_
                              refine lv_icmp_ne (pc := 374) (tgt := 422) F.1 F.2.1 d_M_instruct_374 rfl (fun _ => ?_) (fun h84 => (by rw [h54] at h84; exact absurd h84 (by decide)))
                              refine lv_iload (pc := 422) F.1 F.2.1 d_M_instruct_422 (lv_at hl 5 rfl) ?_
                              refine lv_bipush (pc := 424) (v := 12) F.1 F.2.1 d_M_instruct_424 (by decide) ?_
                              refine lv_icmp_ne (pc := 426) (tgt := 446) F.1 F.2.1 d_M_instruct_426 rfl (fun _ => ?_) (fun h85 => (by rw [h54] at h85; exact absurd h85 (by decide)))
                              refine lv_iload (pc := 446) F.1 F.2.1 d_M_instruct_446 (lv_at hl 5 rfl) ?_
                              refine lv_bipush (pc := 448) (v := 13) F.1 F.2.1 d_M_instruct_448 (by decide) ?_
                              refine lv_icmp_ne (pc := 450) (tgt := 474) F.1 F.2.1 d_M_instruct_450 rfl (fun _ => ?_) (fun h86 => (by rw [h54] at h86; exact absurd h86 (by decide)))
                              refine lv_aload_n (pc := 474) F.1 F.2.1 d_M_instruct_474 rfl (lv_at hl 8 rfl) ?_
                              refine x_get (pc := 475) (v := .ref (ad 3)) F hw 0 2 (fun x h => List.mem_cons_of_mem _ (in_M x h)) rfl rfl (by decide) (List.mem_cons_of_mem _ m_525) rfl d_M_instruct_475 ?_
                              refine lv_iload_n (pc := 478) F.1 F.2.1 d_M_instruct_478 rfl (lv_at hl 7 rfl) ?_
                              refine lv_bipush (pc := 479) (v := 59) F.1 F.2.1 d_M_instruct_479 (by decide) ?_
                              refine lv_iadd (pc := 481) F.1 F.2.1 d_M_instruct_481 ?_
                              refine x_top (y := nI (60 * h0 + 59)) (x_add2 rfl rfl) ?_
                              refine lv_dup2_11 (pc := 482) F.1 F.2.1 d_M_instruct_482 rfl rfl ?_
                              refine x_iald (pc := 483) F hw 3 0 (60 * h0 + 59) rfl rfl rfl (by omega) (by decide) d_M_instruct_483 ?_
                              refine lv_iconst (pc := 484) (v := 1) F.1 F.2.1 d_M_instruct_484 (by decide) ?_
                              refine lv_iadd (pc := 485) F.1 F.2.1 d_M_instruct_485 ?_
                              refine x_iast (pc := 486) (ws' := MW ad cT im me (upd (upd (upd ro (60 * h0 + 16 + (tN (ro (60 * h0 + 15)))) (ro (60 * h0 + (lo 2 (v >>> (4 &&& 31)))))) (60 * h0 + 15) (((upd ro (60 * h0 + 16 + (tN (ro (60 * h0 + 15)))) (ro (60 * h0 + (lo 2 (v >>> (4 &&& 31)))))) (60 * h0 + 15)) + 1)) (60 * h0 + 59) (((upd (upd ro (60 * h0 + 16 + (tN (ro (60 * h0 + 15)))) (ro (60 * h0 + (lo 2 (v >>> (4 &&& 31)))))) (60 * h0 + 15) (((upd ro (60 * h0 + 16 + (tN (ro (60 * h0 + 15)))) (ro (60 * h0 + (lo 2 (v >>> (4 &&& 31)))))) (60 * h0 + 15)) + 1)) (60 * h0 + 59)) + 1)) up ho di os ob od on pg tm ts tr ki mo po sr ld st ow nu go la so se sl sp tp rd pn) F hw 3 0 (60 * h0 + 59) rfl rfl rfl (by omega) (by decide) d_M_instruct_486 rfl (fun H locs hw => ?_)
                              refine lv_aload_n (pc := 487) F.1 F.2.1 d_M_instruct_487 rfl (lv_at hl 8 rfl) ?_
                              refine x_get (pc := 488) (v := .ref (ad 3)) F hw 0 2 (fun x h => List.mem_cons_of_mem _ (in_M x h)) rfl rfl (by decide) (List.mem_cons_of_mem _ m_525) rfl d_M_instruct_488 ?_
                              refine lv_iload_n (pc := 491) F.1 F.2.1 d_M_instruct_491 rfl (lv_at hl 7 rfl) ?_
                              refine lv_iconst (pc := 492) (v := 4) F.1 F.2.1 d_M_instruct_492 (by decide) ?_
                              refine lv_iadd (pc := 493) F.1 F.2.1 d_M_instruct_493 ?_
                              refine x_top (y := nI (60 * h0 + 4)) (x_add2 rfl rfl) ?_
                              refine lv_iload (pc := 494) F.1 F.2.1 d_M_instruct_494 (lv_at hl 0 rfl) ?_
                              refine lv_if_eq (pc := 496) (tgt := 504) F.1 F.2.1 d_M_instruct_496 rfl (fun _ => ?_) (fun h => absurd h (by decide))
                              refine lv_aload_n (pc := 504) F.1 F.2.1 d_M_instruct_504 rfl (lv_at hl 8 rfl) ?_
                              refine x_get (pc := 505) (v := .ref (ad 3)) F hw 0 2 (fun x h => List.mem_cons_of_mem _ (in_M x h)) rfl rfl (by decide) (List.mem_cons_of_mem _ m_525) rfl d_M_instruct_505 ?_
                              refine lv_iload_n (pc := 508) F.1 F.2.1 d_M_instruct_508 rfl (lv_at hl 7 rfl) ?_
                              refine lv_iconst (pc := 509) (v := 4) F.1 F.2.1 d_M_instruct_509 (by decide) ?_
                              refine lv_iadd (pc := 510) F.1 F.2.1 d_M_instruct_510 ?_
                              refine x_top (y := nI (60 * h0 + 4)) (x_add2 rfl rfl) ?_
                              refine x_iald (pc := 511) F hw 3 0 (60 * h0 + 4) rfl rfl rfl (by omega) (by decide) d_M_instruct_511 ?_
                              refine lv_iconst (pc := 512) (v := 1) F.1 F.2.1 d_M_instruct_512 (by decide) ?_
                              refine lv_iadd (pc := 513) F.1 F.2.1 d_M_instruct_513 ?_
                              refine lv_bipush (pc := 514) (v := 63) F.1 F.2.1 d_M_instruct_514 (by decide) ?_
                              refine lv_iand (pc := 516) F.1 F.2.1 d_M_instruct_516 ?_
                              refine x_top (y := nI (lo 6 (((upd (upd (upd ro (60 * h0 + 16 + (tN (ro (60 * h0 + 15)))) (ro (60 * h0 + (lo 2 (v >>> (4 &&& 31)))))) (60 * h0 + 15) (((upd ro (60 * h0 + 16 + (tN (ro (60 * h0 + 15)))) (ro (60 * h0 + (lo 2 (v >>> (4 &&& 31)))))) (60 * h0 + 15)) + 1)) (60 * h0 + 59) (((upd (upd ro (60 * h0 + 16 + (tN (ro (60 * h0 + 15)))) (ro (60 * h0 + (lo 2 (v >>> (4 &&& 31)))))) (60 * h0 + 15) (((upd ro (60 * h0 + 16 + (tN (ro (60 * h0 + 15)))) (ro (60 * h0 + (lo 2 (v >>> (4 &&& 31)))))) (60 * h0 + 15)) + 1)) (60 * h0 + 59)) + 1)) (60 * h0 + 4)) + 1))) (lo_and 6 _ _ (by decide)) ?_
                              have b87 : lo 6 (((upd (upd (upd ro (60 * h0 + 16 + (tN (ro (60 * h0 + 15)))) (ro (60 * h0 + (lo 2 (v >>> (4 &&& 31)))))) (60 * h0 + 15) (((upd ro (60 * h0 + 16 + (tN (ro (60 * h0 + 15)))) (ro (60 * h0 + (lo 2 (v >>> (4 &&& 31)))))) (60 * h0 + 15)) + 1)) (60 * h0 + 59) (((upd (upd ro (60 * h0 + 16 + (tN (ro (60 * h0 + 15)))) (ro (60 * h0 + (lo 2 (v >>> (4 &&& 31)))))) (60 * h0 + 15) (((upd ro (60 * h0 + 16 + (tN (ro (60 * h0 + 15)))) (ro (60 * h0 + (lo 2 (v >>> (4 &&& 31)))))) (60 * h0 + 15)) + 1)) (60 * h0 + 59)) + 1)) (60 * h0 + 4)) + 1) < 64 := lo_lt 6 _
                              refine x_iast (pc := 517) (ws' := MW ad cT im me (upd (upd (upd (upd ro (60 * h0 + 16 + (tN (ro (60 * h0 + 15)))) (ro (60 * h0 + (lo 2 (v >>> (4 &&& 31)))))) (60 * h0 + 15) (((upd ro (60 * h0 + 16 + (tN (ro (60 * h0 + 15)))) (ro (60 * h0 + (lo 2 (v >>> (4 &&& 31)))))) (60 * h0 + 15)) + 1)) (60 * h0 + 59) (((upd (upd ro (60 * h0 + 16 + (tN (ro (60 * h0 + 15)))) (ro (60 * h0 + (lo 2 (v >>> (4 &&& 31)))))) (60 * h0 + 15) (((upd ro (60 * h0 + 16 + (tN (ro (60 * h0 + 15)))) (ro (60 * h0 + (lo 2 (v >>> (4 &&& 31)))))) (60 * h0 + 15)) + 1)) (60 * h0 + 59)) + 1)) (60 * h0 + 4) (nI (lo 6 (((upd (upd (upd ro (60 * h0 + 16 + (tN (ro (60 * h0 + 15)))) (ro (60 * h0 + (lo 2 (v >>> (4 &&& 31)))))) (60 * h0 + 15) (((upd ro (60 * h0 + 16 + (tN (ro (60 * h0 + 15)))) (ro (60 * h0 + (lo 2 (v >>> (4 &&& 31)))))) (60 * h0 + 15)) + 1)) (60 * h0 + 59) (((upd (upd ro (60 * h0 + 16 + (tN (ro (60 * h0 + 15)))) (ro (60 * h0 + (lo 2 (v >>> (4 &&& 31)))))) (60 * h0 + 15) (((upd ro (60 * h0 + 16 + (tN (ro (60 * h0 + 15)))) (ro (60 * h0 + (lo 2 (v >>> (4 &&& 31)))))) (60 * h0 + 15)) + 1)) (60 * h0 + 59)) + 1)) (60 * h0 + 4)) + 1)))) up ho di os ob od on pg tm ts tr ki mo po sr ld st ow nu go la so se sl sp tp rd pn) F hw 3 0 (60 * h0 + 4) rfl rfl rfl (by omega) (by decide) d_M_instruct_517 rfl (fun H locs hw => ?_)
                              refine lv_aload_n (pc := 518) F.1 F.2.1 d_M_instruct_518 rfl (lv_at hl 8 rfl) ?_
                              refine lv_iload_n (pc := 519) F.1 F.2.1 d_M_instruct_519 rfl (lv_at hl 7 rfl) ?_
                              refine x_callv (pc := 520) (wr := []) hw [0, 1, 2, 3, 4, 5, 6, 7, 8, 9, 10, 11, 12, 13, 14, 15, 16, 17, 18, 19] [] rfl rfl (by decide) (by decide) (va_runV (As := [.int (nI (60 * h0))]) (rest := []) F (c_M_tick l D cT ad im me (upd (upd (upd (upd ro (60 * h0 + 16 + (tN (ro (60 * h0 + 15)))) (ro (60 * h0 + (lo 2 (v >>> (4 &&& 31)))))) (60 * h0 + 15) (((upd ro (60 * h0 + 16 + (tN (ro (60 * h0 + 15)))) (ro (60 * h0 + (lo 2 (v >>> (4 &&& 31)))))) (60 * h0 + 15)) + 1)) (60 * h0 + 59) (((upd (upd ro (60 * h0 + 16 + (tN (ro (60 * h0 + 15)))) (ro (60 * h0 + (lo 2 (v >>> (4 &&& 31)))))) (60 * h0 + 15) (((upd ro (60 * h0 + 16 + (tN (ro (60 * h0 + 15)))) (ro (60 * h0 + (lo 2 (v >>> (4 &&& 31)))))) (60 * h0 + 15)) + 1)) (60 * h0 + 59)) + 1)) (60 * h0 + 4) (nI (lo 6 (((upd (upd (upd ro (60 * h0 + 16 + (tN (ro (60 * h0 + 15)))) (ro (60 * h0 + (lo 2 (v >>> (4 &&& 31)))))) (60 * h0 + 15) (((upd ro (60 * h0 + 16 + (tN (ro (60 * h0 + 15)))) (ro (60 * h0 + (lo 2 (v >>> (4 &&& 31)))))) (60 * h0 + 15)) + 1)) (60 * h0 + 59) (((upd (upd ro (60 * h0 + 16 + (tN (ro (60 * h0 + 15)))) (ro (60 * h0 + (lo 2 (v >>> (4 &&& 31)))))) (60 * h0 + 15) (((upd ro (60 * h0 + 16 + (tN (ro (60 * h0 + 15)))) (ro (60 * h0 + (lo 2 (v >>> (4 &&& 31)))))) (60 * h0 + 15)) + 1)) (60 * h0 + 59)) + 1)) (60 * h0 + 4)) + 1)))) up ho di os ob od on pg tm ts tr ki mo po sr ld st ow nu go la so se sl sp tp rd pn (60 * h0) (by omega) _) (x_cw (C := "MovingGuestModel") 1 F (g_all y_M_tick b_M_tick 2 none (List.mem_cons_of_mem _ m_650)) rfl rfl rfl (F.2.2.2.2 _ (List.mem_cons_of_mem _ m_40)) (F.2.2.2.2 _ (List.mem_cons_of_mem _ m_648)) (F.2.2.2.2 _ (List.mem_cons_of_mem _ m_649)) (F.2.2.2.2 _ (List.mem_cons_of_mem _ m_21)) (by decide +kernel) ⟨by decide, by decide⟩) (hw.preV (q0 := 0) [0, 1, 2, 3, 4, 5, 6, 7, 8, 9, 10, 11, 12, 13, 14, 15, 16, 17, 18, 19] (by decide) rfl rfl rfl) rfl rfl hl.1 rfl (lv_room (Nat.le_of_ble_eq_true rfl)) d_M_instruct_520 ⟨by decide, by decide⟩) (fun rov89 H locs e88 hw => ?_)
                              have hw : Hw D vwCl (TYS cT) A s (MW ad cT im me rov89 up ho di os ob od on pg tm ts tr ki mo po sr ld st ow nu go la so se sl sp tp rd pn) H locs := hw
                              refine lv_iconst (pc := 523) (v := 1) F.1 F.2.1 d_M_instruct_523 (by decide) ?_
                              refine W.widen (k := 0) (n := 0) (by decide) (by decide) ?_
                              exact ret 1 (me, rov89, pg, os, ob, od, on) _ _ 524 _ rfl (by unfold F_M_instruct <;> rw [if_neg h5] <;> rw [if_neg h6] <;> rw [if_neg h7] <;> rw [if_neg h32] <;> rw [if_neg h33] <;> rw [if_neg h47] <;> rw [if_neg h48] <;> rw [if_neg h49] <;> rw [if_neg h50] <;> rw [if_neg h51] <;> rw [if_neg h52] <;> rw [if_neg h53] <;> rw [if_pos h54] <;> rw [if_neg h75] <;> rw [e88] <;> (try dsimp only) <;> rfl) hw d_M_instruct_524
                        · refine lv_aload_n (pc := 271) F.1 F.2.1 d_M_instruct_271 rfl (lv_at hl 8 rfl) ?_
                          refine lv_iload_n (pc := 272) F.1 F.2.1 d_M_instruct_272 rfl (lv_at hl 9 rfl) ?_
                          refine lv_iload (pc := 273) F.1 F.2.1 d_M_instruct_273 (lv_at hl 3 rfl) ?_
                          refine lv_iload (pc := 275) F.1 F.2.1 d_M_instruct_275 (lv_at hl 2 rfl) ?_
                          refine lv_iadd (pc := 277) F.1 F.2.1 d_M_instruct_277 ?_
                          refine lv_bipush (pc := 278) (v := 63) F.1 F.2.1 d_M_instruct_278 (by decide) ?_
                          refine lv_iand (pc := 280) F.1 F.2.1 d_M_instruct_280 ?_
                          refine x_top (y := nI (lo 6 ((ro (60 * h0 + (lo 2 (v >>> (6 &&& 31))))) + (nI (lo 6 (v >>> (8 &&& 31))))))) (lo_and 6 _ _ (by decide)) ?_
                          have b90 : lo 6 ((ro (60 * h0 + (lo 2 (v >>> (6 &&& 31))))) + (nI (lo 6 (v >>> (8 &&& 31))))) < 64 := lo_lt 6 _
                          refine lv_aload_n (pc := 281) F.1 F.2.1 d_M_instruct_281 rfl (lv_at hl 8 rfl) ?_
                          refine x_get (pc := 282) (v := .ref (ad 3)) F hw 0 2 (fun x h => List.mem_cons_of_mem _ (in_M x h)) rfl rfl (by decide) (List.mem_cons_of_mem _ m_525) rfl d_M_instruct_282 ?_
                          refine lv_iload (pc := 285) F.1 F.2.1 d_M_instruct_285 (lv_at hl 4 rfl) ?_
                          refine x_iald (pc := 287) F hw 3 0 (60 * h0 + (lo 2 (v >>> (4 &&& 31)))) rfl rfl rfl (by omega) (by decide) d_M_instruct_287 ?_
                          refine x_callv (pc := 288) (wr := []) hw [0, 1, 2, 3, 4, 5, 6, 7, 8, 9, 10, 11, 12, 13, 14, 15, 16, 17, 18, 19] [] rfl rfl (by decide) (by decide) (va_runV (As := [.int (nI h0), .int (nI (lo 6 ((ro (60 * h0 + (lo 2 (v >>> (6 &&& 31))))) + (nI (lo 6 (v >>> (8 &&& 31))))))), .int (ro (60 * h0 + (lo 2 (v >>> (4 &&& 31)))))]) (rest := []) F (c_M_written l D cT ad im me ro up ho di os ob od on pg tm ts tr ki mo po sr ld st ow nu go la so se sl sp tp rd pn h0 (lo 6 ((ro (60 * h0 + (lo 2 (v >>> (6 &&& 31))))) + (nI (lo 6 (v >>> (8 &&& 31)))))) (ro (60 * h0 + (lo 2 (v >>> (4 &&& 31))))) (by omega) (by omega) _) (x_cw (C := "MovingGuestModel") 3 F (g_all y_M_written b_M_written 4 none (List.mem_cons_of_mem _ m_641)) rfl rfl rfl (F.2.2.2.2 _ (List.mem_cons_of_mem _ m_40)) (F.2.2.2.2 _ (List.mem_cons_of_mem _ m_639)) (F.2.2.2.2 _ (List.mem_cons_of_mem _ m_640)) (F.2.2.2.2 _ (List.mem_cons_of_mem _ m_18)) (by decide +kernel) ⟨by decide, by decide⟩) (hw.preV (q0 := 0) [0, 1, 2, 3, 4, 5, 6, 7, 8, 9, 10, 11, 12, 13, 14, 15, 16, 17, 18, 19] (by decide) rfl rfl rfl) rfl rfl hl.1 rfl (lv_room (Nat.le_of_ble_eq_true rfl)) d_M_instruct_288 ⟨by decide, by decide⟩) (fun u94 H locs e91 hw => ?_)
                          obtain ⟨mev92, pgv93⟩ := u94
                          have hw : Hw D vwCl (TYS cT) A s (MW ad cT im mev92 ro up ho di os ob od on pgv93 tm ts tr ki mo po sr ld st ow nu go la so se sl sp tp rd pn) H locs := hw
                          refine lv_iload (pc := 291) F.1 F.2.1 d_M_instruct_291 (lv_at hl 5 rfl) ?_
                          refine lv_bipush (pc := 293) (v := 9) F.1 F.2.1 d_M_instruct_293 (by decide) ?_
                          refine lv_icmp_ne (pc := 295) (tgt := 351) F.1 F.2.1 d_M_instruct_295 rfl (fun _ => ?_) (fun h95 => (by rw [h53] at h95; exact absurd h95 (by decide)))
                          refine lv_iload (pc := 351) F.1 F.2.1 d_M_instruct_351 (lv_at hl 5 rfl) ?_
                          refine lv_bipush (pc := 353) (v := 10) F.1 F.2.1 d_M_instruct_353 (by decide) ?_
                          refine lv_icmp_ne (pc := 355) (tgt := 370) F.1 F.2.1 d_M_instruct_355 rfl (fun _ => ?_) (fun h96 => (by rw [h53] at h96; exact absurd h96 (by decide)))
                          refine lv_iload (pc := 370) F.1 F.2.1 d_M_instruct_370 (lv_at hl 5 rfl) ?_
                          refine lv_bipush (pc := 372) (v := 11) F.1 F.2.1 d_M_instruct_372 (by decide) ?_
                          refine lv_icmp_ne (pc := 374) (tgt := 422) F.1 F.2.1 d_M_instruct_374 rfl (fun _ => ?_) (fun h97 => (by rw [h53] at h97; exact absurd h97 (by decide)))
                          refine lv_iload (pc := 422) F.1 F.2.1 d_M_instruct_422 (lv_at hl 5 rfl) ?_
                          refine lv_bipush (pc := 424) (v := 12) F.1 F.2.1 d_M_instruct_424 (by decide) ?_
                          refine lv_icmp_ne (pc := 426) (tgt := 446) F.1 F.2.1 d_M_instruct_426 rfl (fun _ => ?_) (fun h98 => (by rw [h53] at h98; exact absurd h98 (by decide)))
                          refine lv_iload (pc := 446) F.1 F.2.1 d_M_instruct_446 (lv_at hl 5 rfl) ?_
                          refine lv_bipush (pc := 448) (v := 13) F.1 F.2.1 d_M_instruct_448 (by decide) ?_
                          refine lv_icmp_ne (pc := 450) (tgt := 474) F.1 F.2.1 d_M_instruct_450 rfl (fun _ => ?_) (fun h99 => (by rw [h53] at h99; exact absurd h99 (by decide)))
                          refine lv_aload_n (pc := 474) F.1 F.2.1 d_M_instruct_474 rfl (lv_at hl 8 rfl) ?_
                          refine x_get (pc := 475) (v := .ref (ad 3)) F hw 0 2 (fun x h => List.mem_cons_of_mem _ (in_M x h)) rfl rfl (by decide) (List.mem_cons_of_mem _ m_525) rfl d_M_instruct_475 ?_
                          refine lv_iload_n (pc := 478) F.1 F.2.1 d_M_instruct_478 rfl (lv_at hl 7 rfl) ?_
                          refine lv_bipush (pc := 479) (v := 59) F.1 F.2.1 d_M_instruct_479 (by decide) ?_
                          refine lv_iadd (pc := 481) F.1 F.2.1 d_M_instruct_481 ?_
                          refine x_top (y := nI (60 * h0 + 59)) (x_add2 rfl rfl) ?_
                          refine lv_dup2_11 (pc := 482) F.1 F.2.1 d_M_instruct_482 rfl rfl ?_
                          refine x_iald (pc := 483) F hw 3 0 (60 * h0 + 59) rfl rfl rfl (by omega) (by decide) d_M_instruct_483 ?_
                          refine lv_iconst (pc := 484) (v := 1) F.1 F.2.1 d_M_instruct_484 (by decide) ?_
                          refine lv_iadd (pc := 485) F.1 F.2.1 d_M_instruct_485 ?_
                          refine x_iast (pc := 486) (ws' := MW ad cT im mev92 (upd ro (60 * h0 + 59) ((ro (60 * h0 + 59)) + 1)) up ho di os ob od on pgv93 tm ts tr ki mo po sr ld st ow nu go la so se sl sp tp rd pn) F hw 3 0 (60 * h0 + 59) rfl rfl rfl (by omega) (by decide) d_M_instruct_486 rfl (fun H locs hw => ?_)
                          refine lv_aload_n (pc := 487) F.1 F.2.1 d_M_instruct_487 rfl (lv_at hl 8 rfl) ?_
                          refine x_get (pc := 488) (v := .ref (ad 3)) F hw 0 2 (fun x h => List.mem_cons_of_mem _ (in_M x h)) rfl rfl (by decide) (List.mem_cons_of_mem _ m_525) rfl d_M_instruct_488 ?_
                          refine lv_iload_n (pc := 491) F.1 F.2.1 d_M_instruct_491 rfl (lv_at hl 7 rfl) ?_
                          refine lv_iconst (pc := 492) (v := 4) F.1 F.2.1 d_M_instruct_492 (by decide) ?_
                          refine lv_iadd (pc := 493) F.1 F.2.1 d_M_instruct_493 ?_
                          refine x_top (y := nI (60 * h0 + 4)) (x_add2 rfl rfl) ?_
                          refine lv_iload (pc := 494) F.1 F.2.1 d_M_instruct_494 (lv_at hl 0 rfl) ?_
                          refine lv_if_eq (pc := 496) (tgt := 504) F.1 F.2.1 d_M_instruct_496 rfl (fun _ => ?_) (fun h => absurd h (by decide))
                          refine lv_aload_n (pc := 504) F.1 F.2.1 d_M_instruct_504 rfl (lv_at hl 8 rfl) ?_
                          refine x_get (pc := 505) (v := .ref (ad 3)) F hw 0 2 (fun x h => List.mem_cons_of_mem _ (in_M x h)) rfl rfl (by decide) (List.mem_cons_of_mem _ m_525) rfl d_M_instruct_505 ?_
                          refine lv_iload_n (pc := 508) F.1 F.2.1 d_M_instruct_508 rfl (lv_at hl 7 rfl) ?_
                          refine lv_iconst (pc := 509) (v := 4) F.1 F.2.1 d_M_instruct_509 (by decide) ?_
                          refine lv_iadd (pc := 510) F.1 F.2.1 d_M_instruct_510 ?_
                          refine x_top (y := nI (60 * h0 + 4)) (x_add2 rfl rfl) ?_
                          refine x_iald (pc := 511) F hw 3 0 (60 * h0 + 4) rfl rfl rfl (by omega) (by decide) d_M_instruct_511 ?_
                          refine lv_iconst (pc := 512) (v := 1) F.1 F.2.1 d_M_instruct_512 (by decide) ?_
                          refine lv_iadd (pc := 513) F.1 F.2.1 d_M_instruct_513 ?_
                          refine lv_bipush (pc := 514) (v := 63) F.1 F.2.1 d_M_instruct_514 (by decide) ?_
                          refine lv_iand (pc := 516) F.1 F.2.1 d_M_instruct_516 ?_
                          refine x_top (y := nI (lo 6 (((upd ro (60 * h0 + 59) ((ro (60 * h0 + 59)) + 1)) (60 * h0 + 4)) + 1))) (lo_and 6 _ _ (by decide)) ?_
                          have b100 : lo 6 (((upd ro (60 * h0 + 59) ((ro (60 * h0 + 59)) + 1)) (60 * h0 + 4)) + 1) < 64 := lo_lt 6 _
                          refine x_iast (pc := 517) (ws' := MW ad cT im mev92 (upd (upd ro (60 * h0 + 59) ((ro (60 * h0 + 59)) + 1)) (60 * h0 + 4) (nI (lo 6 (((upd ro (60 * h0 + 59) ((ro (60 * h0 + 59)) + 1)) (60 * h0 + 4)) + 1)))) up ho di os ob od on pgv93 tm ts tr ki mo po sr ld st ow nu go la so se sl sp tp rd pn) F hw 3 0 (60 * h0 + 4) rfl rfl rfl (by omega) (by decide) d_M_instruct_517 rfl (fun H locs hw => ?_)
                          refine lv_aload_n (pc := 518) F.1 F.2.1 d_M_instruct_518 rfl (lv_at hl 8 rfl) ?_
                          refine lv_iload_n (pc := 519) F.1 F.2.1 d_M_instruct_519 rfl (lv_at hl 7 rfl) ?_
                          refine x_callv (pc := 520) (wr := []) hw [0, 1, 2, 3, 4, 5, 6, 7, 8, 9, 10, 11, 12, 13, 14, 15, 16, 17, 18, 19] [] rfl rfl (by decide) (by decide) (va_runV (As := [.int (nI (60 * h0))]) (rest := []) F (c_M_tick l D cT ad im mev92 (upd (upd ro (60 * h0 + 59) ((ro (60 * h0 + 59)) + 1)) (60 * h0 + 4) (nI (lo 6 (((upd ro (60 * h0 + 59) ((ro (60 * h0 + 59)) + 1)) (60 * h0 + 4)) + 1)))) up ho di os ob od on pgv93 tm ts tr ki mo po sr ld st ow nu go la so se sl sp tp rd pn (60 * h0) (by omega) _) (x_cw (C := "MovingGuestModel") 1 F (g_all y_M_tick b_M_tick 2 none (List.mem_cons_of_mem _ m_650)) rfl rfl rfl (F.2.2.2.2 _ (List.mem_cons_of_mem _ m_40)) (F.2.2.2.2 _ (List.mem_cons_of_mem _ m_648)) (F.2.2.2.2 _ (List.mem_cons_of_mem _ m_649)) (F.2.2.2.2 _ (List.mem_cons_of_mem _ m_21)) (by decide +kernel) ⟨by decide, by decide⟩) (hw.preV (q0 := 0) [0, 1, 2, 3, 4, 5, 6, 7, 8, 9, 10, 11, 12, 13, 14, 15, 16, 17, 18, 19] (by decide) rfl rfl rfl) rfl rfl hl.1 rfl (lv_room (Nat.le_of_ble_eq_true rfl)) d_M_instruct_520 ⟨by decide, by decide⟩) (fun rov102 H locs e101 hw => ?_)
                          have hw : Hw D vwCl (TYS cT) A s (MW ad cT im mev92 rov102 up ho di os ob od on pgv93 tm ts tr ki mo po sr ld st ow nu go la so se sl sp tp rd pn) H locs := hw
                          refine lv_iconst (pc := 523) (v := 1) F.1 F.2.1 d_M_instruct_523 (by decide) ?_
                          refine W.widen (k := 0) (n := 0) (by decide) (by decide) ?_
                          exact ret 1 (mev92, rov102, pgv93, os, ob, od, on) _ _ 524 _ rfl (by unfold F_M_instruct <;> rw [if_neg h5] <;> rw [if_neg h6] <;> rw [if_neg h7] <;> rw [if_neg h32] <;> rw [if_neg h33] <;> rw [if_neg h47] <;> rw [if_neg h48] <;> rw [if_neg h49] <;> rw [if_neg h50] <;> rw [if_neg h51] <;> rw [if_neg h52] <;> rw [if_pos h53] <;> rw [e91] <;> (try dsimp only) <;> rw [e101] <;> (try dsimp only) <;> rfl) hw d_M_instruct_524
                      · refine lv_aload_n (pc := 239) F.1 F.2.1 d_M_instruct_239 rfl (lv_at hl 8 rfl) ?_
                        refine x_get (pc := 240) (v := .ref (ad 3)) F hw 0 2 (fun x h => List.mem_cons_of_mem _ (in_M x h)) rfl rfl (by decide) (List.mem_cons_of_mem _ m_525) rfl d_M_instruct_240 ?_
                        refine lv_iload (pc := 243) F.1 F.2.1 d_M_instruct_243 (lv_at hl 4 rfl) ?_
                        refine lv_aload_n (pc := 245) F.1 F.2.1 d_M_instruct_245 rfl (lv_at hl 8 rfl) ?_
                        refine x_get (pc := 246) (v := .ref (ad 2)) F hw 0 1 (fun x h => List.mem_cons_of_mem _ (in_M x h)) rfl rfl (by decide) (List.mem_cons_of_mem _ m_524) rfl d_M_instruct_246 ?_
                        refine lv_bipush (pc := 249) (v := 64) F.1 F.2.1 d_M_instruct_249 (by decide) ?_
                        refine lv_iload_n (pc := 251) F.1 F.2.1 d_M_instruct_251 rfl (lv_at hl 9 rfl) ?_
                        refine lv_imul (pc := 252) F.1 F.2.1 d_M_instruct_252 ?_
                        refine x_top (y := nI (64 * h0)) (x_mul2 rfl rfl) ?_
                        refine lv_iload (pc := 253) F.1 F.2.1 d_M_instruct_253 (lv_at hl 3 rfl) ?_
                        refine lv_iload (pc := 255) F.1 F.2.1 d_M_instruct_255 (lv_at hl 2 rfl) ?_
                        refine lv_iadd (pc := 257) F.1 F.2.1 d_M_instruct_257 ?_
                        refine lv_bipush (pc := 258) (v := 63) F.1 F.2.1 d_M_instruct_258 (by decide) ?_
                        refine lv_iand (pc := 260) F.1 F.2.1 d_M_instruct_260 ?_
                        refine x_top (y := nI (lo 6 ((ro (60 * h0 + (lo 2 (v >>> (6 &&& 31))))) + (nI (lo 6 (v >>> (8 &&& 31))))))) (lo_and 6 _ _ (by decide)) ?_
                        have b103 : lo 6 ((ro (60 * h0 + (lo 2 (v >>> (6 &&& 31))))) + (nI (lo 6 (v >>> (8 &&& 31))))) < 64 := lo_lt 6 _
                        refine lv_iadd (pc := 261) F.1 F.2.1 d_M_instruct_261 ?_
                        refine x_top (y := nI (64 * h0 + (lo 6 ((ro (60 * h0 + (lo 2 (v >>> (6 &&& 31))))) + (nI (lo 6 (v >>> (8 &&& 31)))))))) (x_add2 rfl rfl) ?_
                        refine x_iald (pc := 262) F hw 2 0 (64 * h0 + (lo 6 ((ro (60 * h0 + (lo 2 (v >>> (6 &&& 31))))) + (nI (lo 6 (v >>> (8 &&& 31))))))) rfl rfl rfl (by omega) (by decide) d_M_instruct_262 ?_
                        refine x_iast (pc := 263) (ws' := MW ad cT im me (upd ro (60 * h0 + (lo 2 (v >>> (4 &&& 31)))) (me (64 * h0 + (lo 6 ((ro (60 * h0 + (lo 2 (v >>> (6 &&& 31))))) + (nI (lo 6 (v >>> (8 &&& 31))))))))) up ho di os ob od on pg tm ts tr ki mo po sr ld st ow nu go la so se sl sp tp rd pn) F hw 3 0 (60 * h0 + (lo 2 (v >>> (4 &&& 31)))) rfl rfl rfl (by omega) (by decide) d_M_instruct_263 rfl (fun H locs hw => ?_)
                        refine lv_iload (pc := 264) F.1 F.2.1 d_M_instruct_264 (lv_at hl 5 rfl) ?_
                        refine lv_bipush (pc := 266) (v := 6) F.1 F.2.1 d_M_instruct_266 (by decide) ?_
                        refine lv_icmp_ne (pc := 268) (tgt := 291) F.1 F.2.1 d_M_instruct_268 rfl (fun _ => ?_) (fun h104 => (by rw [h52] at h104; exact absurd h104 (by decide)))
                        refine lv_iload (pc := 291) F.1 F.2.1 d_M_instruct_291 (lv_at hl 5 rfl) ?_
                        refine lv_bipush (pc := 293) (v := 9) F.1 F.2.1 d_M_instruct_293 (by decide) ?_
                        refine lv_icmp_ne (pc := 295) (tgt := 351) F.1 F.2.1 d_M_instruct_295 rfl (fun _ => ?_) (fun h105 => (by rw [h52] at h105; exact absurd h105 (by decide)))
                        refine lv_iload (pc := 351) F.1 F.2.1 d_M_instruct_351 (lv_at hl 5 rfl) ?_
                        refine lv_bipush (pc := 353) (v := 10) F.1 F.2.1 d_M_instruct_353 (by decide) ?_
                        refine lv_icmp_ne (pc := 355) (tgt := 370) F.1 F.2.1 d_M_instruct_355 rfl (fun _ => ?_) (fun h106 => (by rw [h52] at h106; exact absurd h106 (by decide)))
                        refine lv_iload (pc := 370) F.1 F.2.1 d_M_instruct_370 (lv_at hl 5 rfl) ?_
                        refine lv_bipush (pc := 372) (v := 11) F.1 F.2.1 d_M_instruct_372 (by decide) ?_
                        refine lv_icmp_ne (pc := 374) (tgt := 422) F.1 F.2.1 d_M_instruct_374 rfl (fun _ => ?_) (fun h107 => (by rw [h52] at h107; exact absurd h107 (by decide)))
                        refine lv_iload (pc := 422) F.1 F.2.1 d_M_instruct_422 (lv_at hl 5 rfl) ?_
                        refine lv_bipush (pc := 424) (v := 12) F.1 F.2.1 d_M_instruct_424 (by decide) ?_
                        refine lv_icmp_ne (pc := 426) (tgt := 446) F.1 F.2.1 d_M_instruct_426 rfl (fun _ => ?_) (fun h108 => (by rw [h52] at h108; exact absurd h108 (by decide)))
                        refine lv_iload (pc := 446) F.1 F.2.1 d_M_instruct_446 (lv_at hl 5 rfl) ?_
                        refine lv_bipush (pc := 448) (v := 13) F.1 F.2.1 d_M_instruct_448 (by decide) ?_
                        refine lv_icmp_ne (pc := 450) (tgt := 474) F.1 F.2.1 d_M_instruct_450 rfl (fun _ => ?_) (fun h109 => (by rw [h52] at h109; exact absurd h109 (by decide)))
                        refine lv_aload_n (pc := 474) F.1 F.2.1 d_M_instruct_474 rfl (lv_at hl 8 rfl) ?_
                        refine x_get (pc := 475) (v := .ref (ad 3)) F hw 0 2 (fun x h => List.mem_cons_of_mem _ (in_M x h)) rfl rfl (by decide) (List.mem_cons_of_mem _ m_525) rfl d_M_instruct_475 ?_
                        refine lv_iload_n (pc := 478) F.1 F.2.1 d_M_instruct_478 rfl (lv_at hl 7 rfl) ?_
                        refine lv_bipush (pc := 479) (v := 59) F.1 F.2.1 d_M_instruct_479 (by decide) ?_
                        refine lv_iadd (pc := 481) F.1 F.2.1 d_M_instruct_481 ?_
                        refine x_top (y := nI (60 * h0 + 59)) (x_add2 rfl rfl) ?_
                        refine lv_dup2_11 (pc := 482) F.1 F.2.1 d_M_instruct_482 rfl rfl ?_
                        refine x_iald (pc := 483) F hw 3 0 (60 * h0 + 59) rfl rfl rfl (by omega) (by decide) d_M_instruct_483 ?_
                        refine lv_iconst (pc := 484) (v := 1) F.1 F.2.1 d_M_instruct_484 (by decide) ?_
                        refine lv_iadd (pc := 485) F.1 F.2.1 d_M_instruct_485 ?_
                        refine x_iast (pc := 486) (ws' := MW ad cT im me (upd (upd ro (60 * h0 + (lo 2 (v >>> (4 &&& 31)))) (me (64 * h0 + (lo 6 ((ro (60 * h0 + (lo 2 (v >>> (6 &&& 31))))) + (nI (lo 6 (v >>> (8 &&& 31))))))))) (60 * h0 + 59) (((upd ro (60 * h0 + (lo 2 (v >>> (4 &&& 31)))) (me (64 * h0 + (lo 6 ((ro (60 * h0 + (lo 2 (v >>> (6 &&& 31))))) + (nI (lo 6 (v >>> (8 &&& 31))))))))) (60 * h0 + 59)) + 1)) up ho di os ob od on pg tm ts tr ki mo po sr ld st ow nu go la so se sl sp tp rd pn) F hw 3 0 (60 * h0 + 59) rfl rfl rfl (by omega) (by decide) d_M_instruct_486 rfl (fun H locs hw => ?_)
                        refine lv_aload_n (pc := 487) F.1 F.2.1 d_M_instruct_487 rfl (lv_at hl 8 rfl) ?_
                        refine x_get (pc := 488) (v := .ref (ad 3)) F hw 0 2 (fun x h => List.mem_cons_of_mem _ (in_M x h)) rfl rfl (by decide) (List.mem_cons_of_mem _ m_525) rfl d_M_instruct_488 ?_
                        refine lv_iload_n (pc := 491) F.1 F.2.1 d_M_instruct_491 rfl (lv_at hl 7 rfl) ?_
                        refine lv_iconst (pc := 492) (v := 4) F.1 F.2.1 d_M_instruct_492 (by decide) ?_
                        refine lv_iadd (pc := 493) F.1 F.2.1 d_M_instruct_493 ?_
                        refine x_top (y := nI (60 * h0 + 4)) (x_add2 rfl rfl) ?_
                        refine lv_iload (pc := 494) F.1 F.2.1 d_M_instruct_494 (lv_at hl 0 rfl) ?_
                        refine lv_if_eq (pc := 496) (tgt := 504) F.1 F.2.1 d_M_instruct_496 rfl (fun _ => ?_) (fun h => absurd h (by decide))
                        refine lv_aload_n (pc := 504) F.1 F.2.1 d_M_instruct_504 rfl (lv_at hl 8 rfl) ?_
                        refine x_get (pc := 505) (v := .ref (ad 3)) F hw 0 2 (fun x h => List.mem_cons_of_mem _ (in_M x h)) rfl rfl (by decide) (List.mem_cons_of_mem _ m_525) rfl d_M_instruct_505 ?_
                        refine lv_iload_n (pc := 508) F.1 F.2.1 d_M_instruct_508 rfl (lv_at hl 7 rfl) ?_
                        refine lv_iconst (pc := 509) (v := 4) F.1 F.2.1 d_M_instruct_509 (by decide) ?_
                        refine lv_iadd (pc := 510) F.1 F.2.1 d_M_instruct_510 ?_
                        refine x_top (y := nI (60 * h0 + 4)) (x_add2 rfl rfl) ?_
                        refine x_iald (pc := 511) F hw 3 0 (60 * h0 + 4) rfl rfl rfl (by omega) (by decide) d_M_instruct_511 ?_
                        refine lv_iconst (pc := 512) (v := 1) F.1 F.2.1 d_M_instruct_512 (by decide) ?_
                        refine lv_iadd (pc := 513) F.1 F.2.1 d_M_instruct_513 ?_
                        refine lv_bipush (pc := 514) (v := 63) F.1 F.2.1 d_M_instruct_514 (by decide) ?_
                        refine lv_iand (pc := 516) F.1 F.2.1 d_M_instruct_516 ?_
                        refine x_top (y := nI (lo 6 (((upd (upd ro (60 * h0 + (lo 2 (v >>> (4 &&& 31)))) (me (64 * h0 + (lo 6 ((ro (60 * h0 + (lo 2 (v >>> (6 &&& 31))))) + (nI (lo 6 (v >>> (8 &&& 31))))))))) (60 * h0 + 59) (((upd ro (60 * h0 + (lo 2 (v >>> (4 &&& 31)))) (me (64 * h0 + (lo 6 ((ro (60 * h0 + (lo 2 (v >>> (6 &&& 31))))) + (nI (lo 6 (v >>> (8 &&& 31))))))))) (60 * h0 + 59)) + 1)) (60 * h0 + 4)) + 1))) (lo_and 6 _ _ (by decide)) ?_
                        have b110 : lo 6 (((upd (upd ro (60 * h0 + (lo 2 (v >>> (4 &&& 31)))) (me (64 * h0 + (lo 6 ((ro (60 * h0 + (lo 2 (v >>> (6 &&& 31))))) + (nI (lo 6 (v >>> (8 &&& 31))))))))) (60 * h0 + 59) (((upd ro (60 * h0 + (lo 2 (v >>> (4 &&& 31)))) (me (64 * h0 + (lo 6 ((ro (60 * h0 + (lo 2 (v >>> (6 &&& 31))))) + (nI (lo 6 (v >>> (8 &&& 31))))))))) (60 * h0 + 59)) + 1)) (60 * h0 + 4)) + 1) < 64 := lo_lt 6 _
                        refine x_iast (pc := 517) (ws' := MW ad cT im me (upd (upd (upd ro (60 * h0 + (lo 2 (v >>> (4 &&& 31)))) (me (64 * h0 + (lo 6 ((ro (60 * h0 + (lo 2 (v >>> (6 &&& 31))))) + (nI (lo 6 (v >>> (8 &&& 31))))))))) (60 * h0 + 59) (((upd ro (60 * h0 + (lo 2 (v >>> (4 &&& 31)))) (me (64 * h0 + (lo 6 ((ro (60 * h0 + (lo 2 (v >>> (6 &&& 31))))) + (nI (lo 6 (v >>> (8 &&& 31))))))))) (60 * h0 + 59)) + 1)) (60 * h0 + 4) (nI (lo 6 (((upd (upd ro (60 * h0 + (lo 2 (v >>> (4 &&& 31)))) (me (64 * h0 + (lo 6 ((ro (60 * h0 + (lo 2 (v >>> (6 &&& 31))))) + (nI (lo 6 (v >>> (8 &&& 31))))))))) (60 * h0 + 59) (((upd ro (60 * h0 + (lo 2 (v >>> (4 &&& 31)))) (me (64 * h0 + (lo 6 ((ro (60 * h0 + (lo 2 (v >>> (6 &&& 31))))) + (nI (lo 6 (v >>> (8 &&& 31))))))))) (60 * h0 + 59)) + 1)) (60 * h0 + 4)) + 1)))) up ho di os ob od on pg tm ts tr ki mo po sr ld st ow nu go la so se sl sp tp rd pn) F hw 3 0 (60 * h0 + 4) rfl rfl rfl (by omega) (by decide) d_M_instruct_517 rfl (fun H locs hw => ?_)
                        refine lv_aload_n (pc := 518) F.1 F.2.1 d_M_instruct_518 rfl (lv_at hl 8 rfl) ?_
                        refine lv_iload_n (pc := 519) F.1 F.2.1 d_M_instruct_519 rfl (lv_at hl 7 rfl) ?_
                        refine x_callv (pc := 520) (wr := []) hw [0, 1, 2, 3, 4, 5, 6, 7, 8, 9, 10, 11, 12, 13, 14, 15, 16, 17, 18, 19] [] rfl rfl (by decide) (by decide) (va_runV (As := [.int (nI (60 * h0))]) (rest := []) F (c_M_tick l D cT ad im me (upd (upd (upd ro (60 * h0 + (lo 2 (v >>> (4 &&& 31)))) (me (64 * h0 + (lo 6 ((ro (60 * h0 + (lo 2 (v >>> (6 &&& 31))))) + (nI (lo 6 (v >>> (8 &&& 31))))))))) (60 * h0 + 59) (((upd ro (60 * h0 + (lo 2 (v >>> (4 &&& 31)))) (me (64 * h0 + (lo 6 ((ro (60 * h0 + (lo 2 (v >>> (6 &&& 31))))) + (nI (lo 6 (v >>> (8 &&& 31))))))))) (60 * h0 + 59)) + 1)) (60 * h0 + 4) (nI (lo 6 (((upd (upd ro (60 * h0 + (lo 2 (v >>> (4 &&& 31)))) (me (64 * h0 + (lo 6 ((ro (60 * h0 + (lo 2 (v >>> (6 &&& 31))))) + (nI (lo 6 (v >>> (8 &&& 31))))))))) (60 * h0 + 59) (((upd ro (60 * h0 + (lo 2 (v >>> (4 &&& 31)))) (me (64 * h0 + (lo 6 ((ro (60 * h0 + (lo 2 (v >>> (6 &&& 31))))) + (nI (lo 6 (v >>> (8 &&& 31))))))))) (60 * h0 + 59)) + 1)) (60 * h0 + 4)) + 1)))) up ho di os ob od on pg tm ts tr ki mo po sr ld st ow nu go la so se sl sp tp rd pn (60 * h0) (by omega) _) (x_cw (C := "MovingGuestModel") 1 F (g_all y_M_tick b_M_tick 2 none (List.mem_cons_of_mem _ m_650)) rfl rfl rfl (F.2.2.2.2 _ (List.mem_cons_of_mem _ m_40)) (F.2.2.2.2 _ (List.mem_cons_of_mem _ m_648)) (F.2.2.2.2 _ (List.mem_cons_of_mem _ m_649)) (F.2.2.2.2 _ (List.mem_cons_of_mem _ m_21)) (by decide +kernel) ⟨by decide, by decide⟩) (hw.preV (q0 := 0) [0, 1, 2, 3, 4, 5, 6, 7, 8, 9, 10, 11, 12, 13, 14, 15, 16, 17, 18, 19] (by decide) rfl rfl rfl) rfl rfl hl.1 rfl (lv_room (Nat.le_of_ble_eq_true rfl)) d_M_instruct_520 ⟨by decide, by decide⟩) (fun rov112 H locs e111 hw => ?_)
                        have hw : Hw D vwCl (TYS cT) A s (MW ad cT im me rov112 up ho di os ob od on pg tm ts tr ki mo po sr ld st ow nu go la so se sl sp tp rd pn) H locs := hw
                        refine lv_iconst (pc := 523) (v := 1) F.1 F.2.1 d_M_instruct_523 (by decide) ?_
                        refine W.widen (k := 0) (n := 0) (by decide) (by decide) ?_
                        exact ret 1 (me, rov112, pg, os, ob, od, on) _ _ 524 _ rfl (by unfold F_M_instruct <;> rw [if_neg h5] <;> rw [if_neg h6] <;> rw [if_neg h7] <;> rw [if_neg h32] <;> rw [if_neg h33] <;> rw [if_neg h47] <;> rw [if_neg h48] <;> rw [if_neg h49] <;> rw [if_neg h50] <;> rw [if_neg h51] <;> rw [if_pos h52] <;> rw [e111] <;> (try dsimp only) <;> rfl) hw d_M_instruct_524
                    · refine lv_aload_n (pc := 216) F.1 F.2.1 d_M_instruct_216 rfl (lv_at hl 8 rfl) ?_
                      refine x_get (pc := 217) (v := .ref (ad 3)) F hw 0 2 (fun x h => List.mem_cons_of_mem _ (in_M x h)) rfl rfl (by decide) (List.mem_cons_of_mem _ m_525) rfl d_M_instruct_217 ?_
                      refine lv_iload (pc := 220) F.1 F.2.1 d_M_instruct_220 (lv_at hl 4 rfl) ?_
                      refine lv_aload_n (pc := 222) F.1 F.2.1 d_M_instruct_222 rfl (lv_at hl 8 rfl) ?_
                      refine x_get (pc := 223) (v := .ref (ad 3)) F hw 0 2 (fun x h => List.mem_cons_of_mem _ (in_M x h)) rfl rfl (by decide) (List.mem_cons_of_mem _ m_525) rfl d_M_instruct_223 ?_
                      refine lv_iload (pc := 226) F.1 F.2.1 d_M_instruct_226 (lv_at hl 4 rfl) ?_
                      refine x_iald (pc := 228) F hw 3 0 (60 * h0 + (lo 2 (v >>> (4 &&& 31)))) rfl rfl rfl (by omega) (by decide) d_M_instruct_228 ?_
                      refine lv_iload (pc := 229) F.1 F.2.1 d_M_instruct_229 (lv_at hl 3 rfl) ?_
                      refine lv_imul (pc := 231) F.1 F.2.1 d_M_instruct_231 ?_
                      refine x_iast (pc := 232) (ws' := MW ad cT im me (upd ro (60 * h0 + (lo 2 (v >>> (4 &&& 31)))) ((ro (60 * h0 + (lo 2 (v >>> (4 &&& 31))))) * (ro (60 * h0 + (lo 2 (v >>> (6 &&& 31))))))) up ho di os ob od on pg tm ts tr ki mo po sr ld st ow nu go la so se sl sp tp rd pn) F hw 3 0 (60 * h0 + (lo 2 (v >>> (4 &&& 31)))) rfl rfl rfl (by omega) (by decide) d_M_instruct_232 rfl (fun H locs hw => ?_)
                      refine lv_iload (pc := 233) F.1 F.2.1 d_M_instruct_233 (lv_at hl 5 rfl) ?_
                      refine lv_iconst (pc := 235) (v := 5) F.1 F.2.1 d_M_instruct_235 (by decide) ?_
                      refine lv_icmp_ne (pc := 236) (tgt := 264) F.1 F.2.1 d_M_instruct_236 rfl (fun _ => ?_) (fun h113 => (by rw [h51] at h113; exact absurd h113 (by decide)))
                      refine lv_iload (pc := 264) F.1 F.2.1 d_M_instruct_264 (lv_at hl 5 rfl) ?_
                      refine lv_bipush (pc := 266) (v := 6) F.1 F.2.1 d_M_instruct_266 (by decide) ?_
                      refine lv_icmp_ne (pc := 268) (tgt := 291) F.1 F.2.1 d_M_instruct_268 rfl (fun _ => ?_) (fun h114 => (by rw [h51] at h114; exact absurd h114 (by decide)))
                      refine lv_iload (pc := 291) F.1 F.2.1 d_M_instruct_291 (lv_at hl 5 rfl) ?_
                      refine lv_bipush (pc := 293) (v := 9) F.1 F.2.1 d_M_instruct_293 (by decide) ?_
                      refine lv_icmp_ne (pc := 295) (tgt := 351) F.1 F.2.1 d_M_instruct_295 rfl (fun _ => ?_) (fun h115 => (by rw [h51] at h115; exact absurd h115 (by decide)))
                      refine lv_iload (pc := 351) F.1 F.2.1 d_M_instruct_351 (lv_at hl 5 rfl) ?_
                      refine lv_bipush (pc := 353) (v := 10) F.1 F.2.1 d_M_instruct_353 (by decide) ?_
                      refine lv_icmp_ne (pc := 355) (tgt := 370) F.1 F.2.1 d_M_instruct_355 rfl (fun _ => ?_) (fun h116 => (by rw [h51] at h116; exact absurd h116 (by decide)))
                      refine lv_iload (pc := 370) F.1 F.2.1 d_M_instruct_370 (lv_at hl 5 rfl) ?_
                      refine lv_bipush (pc := 372) (v := 11) F.1 F.2.1 d_M_instruct_372 (by decide) ?_
                      refine lv_icmp_ne (pc := 374) (tgt := 422) F.1 F.2.1 d_M_instruct_374 rfl (fun _ => ?_) (fun h117 => (by rw [h51] at h117; exact absurd h117 (by decide)))
                      refine lv_iload (pc := 422) F.1 F.2.1 d_M_instruct_422 (lv_at hl 5 rfl) ?_
                      refine lv_bipush (pc := 424) (v := 12) F.1 F.2.1 d_M_instruct_424 (by decide) ?_
                      refine lv_icmp_ne (pc := 426) (tgt := 446) F.1 F.2.1 d_M_instruct_426 rfl (fun _ => ?_) (fun h118 => (by rw [h51] at h118; exact absurd h118 (by decide)))
                      refine lv_iload (pc := 446) F.1 F.2.1 d_M_instruct_446 (lv_at hl 5 rfl) ?_
                      refine lv_bipush (pc := 448) (v := 13) F.1 F.2.1 d_M_instruct_448 (by decide) ?_
                      refine lv_icmp_ne (pc := 450) (tgt := 474) F.1 F.2.1 d_M_instruct_450 rfl (fun _ => ?_) (fun h119 => (by rw [h51] at h119; exact absurd h119 (by decide)))
                      refine lv_aload_n (pc := 474) F.1 F.2.1 d_M_instruct_474 rfl (lv_at hl 8 rfl) ?_
                      refine x_get (pc := 475) (v := .ref (ad 3)) F hw 0 2 (fun x h => List.mem_cons_of_mem _ (in_M x h)) rfl rfl (by decide) (List.mem_cons_of_mem _ m_525) rfl d_M_instruct_475 ?_
                      refine lv_iload_n (pc := 478) F.1 F.2.1 d_M_instruct_478 rfl (lv_at hl 7 rfl) ?_
                      refine lv_bipush (pc := 479) (v := 59) F.1 F.2.1 d_M_instruct_479 (by decide) ?_
                      refine lv_iadd (pc := 481) F.1 F.2.1 d_M_instruct_481 ?_
                      refine x_top (y := nI (60 * h0 + 59)) (x_add2 rfl rfl) ?_
                      refine lv_dup2_11 (pc := 482) F.1 F.2.1 d_M_instruct_482 rfl rfl ?_
                      refine x_iald (pc := 483) F hw 3 0 (60 * h0 + 59) rfl rfl rfl (by omega) (by decide) d_M_instruct_483 ?_
                      refine lv_iconst (pc := 484) (v := 1) F.1 F.2.1 d_M_instruct_484 (by decide) ?_
                      refine lv_iadd (pc := 485) F.1 F.2.1 d_M_instruct_485 ?_
                      refine x_iast (pc := 486) (ws' := MW ad cT im me (upd (upd ro (60 * h0 + (lo 2 (v >>> (4 &&& 31)))) ((ro (60 * h0 + (lo 2 (v >>> (4 &&& 31))))) * (ro (60 * h0 + (lo 2 (v >>> (6 &&& 31))))))) (60 * h0 + 59) (((upd ro (60 * h0 + (lo 2 (v >>> (4 &&& 31)))) ((ro (60 * h0 + (lo 2 (v >>> (4 &&& 31))))) * (ro (60 * h0 + (lo 2 (v >>> (6 &&& 31))))))) (60 * h0 + 59)) + 1)) up ho di os ob od on pg tm ts tr ki mo po sr ld st ow nu go la so se sl sp tp rd pn) F hw 3 0 (60 * h0 + 59) rfl rfl rfl (by omega) (by decide) d_M_instruct_486 rfl (fun H locs hw => ?_)
                      refine lv_aload_n (pc := 487) F.1 F.2.1 d_M_instruct_487 rfl (lv_at hl 8 rfl) ?_
                      refine x_get (pc := 488) (v := .ref (ad 3)) F hw 0 2 (fun x h => List.mem_cons_of_mem _ (in_M x h)) rfl rfl (by decide) (List.mem_cons_of_mem _ m_525) rfl d_M_instruct_488 ?_
                      refine lv_iload_n (pc := 491) F.1 F.2.1 d_M_instruct_491 rfl (lv_at hl 7 rfl) ?_
                      refine lv_iconst (pc := 492) (v := 4) F.1 F.2.1 d_M_instruct_492 (by decide) ?_
                      refine lv_iadd (pc := 493) F.1 F.2.1 d_M_instruct_493 ?_
                      refine x_top (y := nI (60 * h0 + 4)) (x_add2 rfl rfl) ?_
                      refine lv_iload (pc := 494) F.1 F.2.1 d_M_instruct_494 (lv_at hl 0 rfl) ?_
                      refine lv_if_eq (pc := 496) (tgt := 504) F.1 F.2.1 d_M_instruct_496 rfl (fun _ => ?_) (fun h => absurd h (by decide))
                      refine lv_aload_n (pc := 504) F.1 F.2.1 d_M_instruct_504 rfl (lv_at hl 8 rfl) ?_
                      refine x_get (pc := 505) (v := .ref (ad 3)) F hw 0 2 (fun x h => List.mem_cons_of_mem _ (in_M x h)) rfl rfl (by decide) (List.mem_cons_of_mem _ m_525) rfl d_M_instruct_505 ?_
                      refine lv_iload_n (pc := 508) F.1 F.2.1 d_M_instruct_508 rfl (lv_at hl 7 rfl) ?_
                      refine lv_iconst (pc := 509) (v := 4) F.1 F.2.1 d_M_instruct_509 (by decide) ?_
                      refine lv_iadd (pc := 510) F.1 F.2.1 d_M_instruct_510 ?_
                      refine x_top (y := nI (60 * h0 + 4)) (x_add2 rfl rfl) ?_
                      refine x_iald (pc := 511) F hw 3 0 (60 * h0 + 4) rfl rfl rfl (by omega) (by decide) d_M_instruct_511 ?_
                      refine lv_iconst (pc := 512) (v := 1) F.1 F.2.1 d_M_instruct_512 (by decide) ?_
                      refine lv_iadd (pc := 513) F.1 F.2.1 d_M_instruct_513 ?_
                      refine lv_bipush (pc := 514) (v := 63) F.1 F.2.1 d_M_instruct_514 (by decide) ?_
                      refine lv_iand (pc := 516) F.1 F.2.1 d_M_instruct_516 ?_
                      refine x_top (y := nI (lo 6 (((upd (upd ro (60 * h0 + (lo 2 (v >>> (4 &&& 31)))) ((ro (60 * h0 + (lo 2 (v >>> (4 &&& 31))))) * (ro (60 * h0 + (lo 2 (v >>> (6 &&& 31))))))) (60 * h0 + 59) (((upd ro (60 * h0 + (lo 2 (v >>> (4 &&& 31)))) ((ro (60 * h0 + (lo 2 (v >>> (4 &&& 31))))) * (ro (60 * h0 + (lo 2 (v >>> (6 &&& 31))))))) (60 * h0 + 59)) + 1)) (60 * h0 + 4)) + 1))) (lo_and 6 _ _ (by decide)) ?_
                      have b120 : lo 6 (((upd (upd ro (60 * h0 + (lo 2 (v >>> (4 &&& 31)))) ((ro (60 * h0 + (lo 2 (v >>> (4 &&& 31))))) * (ro (60 * h0 + (lo 2 (v >>> (6 &&& 31))))))) (60 * h0 + 59) (((upd ro (60 * h0 + (lo 2 (v >>> (4 &&& 31)))) ((ro (60 * h0 + (lo 2 (v >>> (4 &&& 31))))) * (ro (60 * h0 + (lo 2 (v >>> (6 &&& 31))))))) (60 * h0 + 59)) + 1)) (60 * h0 + 4)) + 1) < 64 := lo_lt 6 _
                      refine x_iast (pc := 517) (ws' := MW ad cT im me (upd (upd (upd ro (60 * h0 + (lo 2 (v >>> (4 &&& 31)))) ((ro (60 * h0 + (lo 2 (v >>> (4 &&& 31))))) * (ro (60 * h0 + (lo 2 (v >>> (6 &&& 31))))))) (60 * h0 + 59) (((upd ro (60 * h0 + (lo 2 (v >>> (4 &&& 31)))) ((ro (60 * h0 + (lo 2 (v >>> (4 &&& 31))))) * (ro (60 * h0 + (lo 2 (v >>> (6 &&& 31))))))) (60 * h0 + 59)) + 1)) (60 * h0 + 4) (nI (lo 6 (((upd (upd ro (60 * h0 + (lo 2 (v >>> (4 &&& 31)))) ((ro (60 * h0 + (lo 2 (v >>> (4 &&& 31))))) * (ro (60 * h0 + (lo 2 (v >>> (6 &&& 31))))))) (60 * h0 + 59) (((upd ro (60 * h0 + (lo 2 (v >>> (4 &&& 31)))) ((ro (60 * h0 + (lo 2 (v >>> (4 &&& 31))))) * (ro (60 * h0 + (lo 2 (v >>> (6 &&& 31))))))) (60 * h0 + 59)) + 1)) (60 * h0 + 4)) + 1)))) up ho di os ob od on pg tm ts tr ki mo po sr ld st ow nu go la so se sl sp tp rd pn) F hw 3 0 (60 * h0 + 4) rfl rfl rfl (by omega) (by decide) d_M_instruct_517 rfl (fun H locs hw => ?_)
                      refine lv_aload_n (pc := 518) F.1 F.2.1 d_M_instruct_518 rfl (lv_at hl 8 rfl) ?_
                      refine lv_iload_n (pc := 519) F.1 F.2.1 d_M_instruct_519 rfl (lv_at hl 7 rfl) ?_
                      refine x_callv (pc := 520) (wr := []) hw [0, 1, 2, 3, 4, 5, 6, 7, 8, 9, 10, 11, 12, 13, 14, 15, 16, 17, 18, 19] [] rfl rfl (by decide) (by decide) (va_runV (As := [.int (nI (60 * h0))]) (rest := []) F (c_M_tick l D cT ad im me (upd (upd (upd ro (60 * h0 + (lo 2 (v >>> (4 &&& 31)))) ((ro (60 * h0 + (lo 2 (v >>> (4 &&& 31))))) * (ro (60 * h0 + (lo 2 (v >>> (6 &&& 31))))))) (60 * h0 + 59) (((upd ro (60 * h0 + (lo 2 (v >>> (4 &&& 31)))) ((ro (60 * h0 + (lo 2 (v >>> (4 &&& 31))))) * (ro (60 * h0 + (lo 2 (v >>> (6 &&& 31))))))) (60 * h0 + 59)) + 1)) (60 * h0 + 4) (nI (lo 6 (((upd (upd ro (60 * h0 + (lo 2 (v >>> (4 &&& 31)))) ((ro (60 * h0 + (lo 2 (v >>> (4 &&& 31))))) * (ro (60 * h0 + (lo 2 (v >>> (6 &&& 31))))))) (60 * h0 + 59) (((upd ro (60 * h0 + (lo 2 (v >>> (4 &&& 31)))) ((ro (60 * h0 + (lo 2 (v >>> (4 &&& 31))))) * (ro (60 * h0 + (lo 2 (v >>> (6 &&& 31))))))) (60 * h0 + 59)) + 1)) (60 * h0 + 4)) + 1)))) up ho di os ob od on pg tm ts tr ki mo po sr ld st ow nu go la so se sl sp tp rd pn (60 * h0) (by omega) _) (x_cw (C := "MovingGuestModel") 1 F (g_all y_M_tick b_M_tick 2 none (List.mem_cons_of_mem _ m_650)) rfl rfl rfl (F.2.2.2.2 _ (List.mem_cons_of_mem _ m_40)) (F.2.2.2.2 _ (List.mem_cons_of_mem _ m_648)) (F.2.2.2.2 _ (List.mem_cons_of_mem _ m_649)) (F.2.2.2.2 _ (List.mem_cons_of_mem _ m_21)) (by decide +kernel) ⟨by decide, by decide⟩) (hw.preV (q0 := 0) [0, 1, 2, 3, 4, 5, 6, 7, 8, 9, 10, 11, 12, 13, 14, 15, 16, 17, 18, 19] (by decide) rfl rfl rfl) rfl rfl hl.1 rfl (lv_room (Nat.le_of_ble_eq_true rfl)) d_M_instruct_520 ⟨by decide, by decide⟩) (fun rov122 H locs e121 hw => ?_)
                      have hw : Hw D vwCl (TYS cT) A s (MW ad cT im me rov122 up ho di os ob od on pg tm ts tr ki mo po sr ld st ow nu go la so se sl sp tp rd pn) H locs := hw
                      refine lv_iconst (pc := 523) (v := 1) F.1 F.2.1 d_M_instruct_523 (by decide) ?_
                      refine W.widen (k := 0) (n := 0) (by decide) (by decide) ?_
                      exact ret 1 (me, rov122, pg, os, ob, od, on) _ _ 524 _ rfl (by unfold F_M_instruct <;> rw [if_neg h5] <;> rw [if_neg h6] <;> rw [if_neg h7] <;> rw [if_neg h32] <;> rw [if_neg h33] <;> rw [if_neg h47] <;> rw [if_neg h48] <;> rw [if_neg h49] <;> rw [if_neg h50] <;> rw [if_pos h51] <;> rw [e121] <;> (try dsimp only) <;> rfl) hw d_M_instruct_524
                  · refine lv_aload_n (pc := 193) F.1 F.2.1 d_M_instruct_193 rfl (lv_at hl 8 rfl) ?_
                    refine x_get (pc := 194) (v := .ref (ad 3)) F hw 0 2 (fun x h => List.mem_cons_of_mem _ (in_M x h)) rfl rfl (by decide) (List.mem_cons_of_mem _ m_525) rfl d_M_instruct_194 ?_
                    refine lv_iload (pc := 197) F.1 F.2.1 d_M_instruct_197 (lv_at hl 4 rfl) ?_
                    refine lv_aload_n (pc := 199) F.1 F.2.1 d_M_instruct_199 rfl (lv_at hl 8 rfl) ?_
                    refine x_get (pc := 200) (v := .ref (ad 3)) F hw 0 2 (fun x h => List.mem_cons_of_mem _ (in_M x h)) rfl rfl (by decide) (List.mem_cons_of_mem _ m_525) rfl d_M_instruct_200 ?_
                    refine lv_iload (pc := 203) F.1 F.2.1 d_M_instruct_203 (lv_at hl 4 rfl) ?_
                    refine x_iald (pc := 205) F hw 3 0 (60 * h0 + (lo 2 (v >>> (4 &&& 31)))) rfl rfl rfl (by omega) (by decide) d_M_instruct_205 ?_
                    refine lv_iload (pc := 206) F.1 F.2.1 d_M_instruct_206 (lv_at hl 3 rfl) ?_
                    refine lv_isub (pc := 208) F.1 F.2.1 d_M_instruct_208 ?_
                    refine x_iast (pc := 209) (ws' := MW ad cT im me (upd ro (60 * h0 + (lo 2 (v >>> (4 &&& 31)))) ((ro (60 * h0 + (lo 2 (v >>> (4 &&& 31))))) - (ro (60 * h0 + (lo 2 (v >>> (6 &&& 31))))))) up ho di os ob od on pg tm ts tr ki mo po sr ld st ow nu go la so se sl sp tp rd pn) F hw 3 0 (60 * h0 + (lo 2 (v >>> (4 &&& 31)))) rfl rfl rfl (by omega) (by decide) d_M_instruct_209 rfl (fun H locs hw => ?_)
                    refine lv_iload (pc := 210) F.1 F.2.1 d_M_instruct_210 (lv_at hl 5 rfl) ?_
                    refine lv_iconst (pc := 212) (v := 4) F.1 F.2.1 d_M_instruct_212 (by decide) ?_
                    refine lv_icmp_ne (pc := 213) (tgt := 233) F.1 F.2.1 d_M_instruct_213 rfl (fun _ => ?_) (fun h123 => (by rw [h50] at h123; exact absurd h123 (by decide)))
                    refine lv_iload (pc := 233) F.1 F.2.1 d_M_instruct_233 (lv_at hl 5 rfl) ?_
                    refine lv_iconst (pc := 235) (v := 5) F.1 F.2.1 d_M_instruct_235 (by decide) ?_
                    refine lv_icmp_ne (pc := 236) (tgt := 264) F.1 F.2.1 d_M_instruct_236 rfl (fun _ => ?_) (fun h124 => (by rw [h50] at h124; exact absurd h124 (by decide)))
                    refine lv_iload (pc := 264) F.1 F.2.1 d_M_instruct_264 (lv_at hl 5 rfl) ?_
                    refine lv_bipush (pc := 266) (v := 6) F.1 F.2.1 d_M_instruct_266 (by decide) ?_
                    refine lv_icmp_ne (pc := 268) (tgt := 291) F.1 F.2.1 d_M_instruct_268 rfl (fun _ => ?_) (fun h125 => (by rw [h50] at h125; exact absurd h125 (by decide)))
                    refine lv_iload (pc := 291) F.1 F.2.1 d_M_instruct_291 (lv_at hl 5 rfl) ?_
                    refine lv_bipush (pc := 293) (v := 9) F.1 F.2.1 d_M_instruct_293 (by decide) ?_
                    refine lv_icmp_ne (pc := 295) (tgt := 351) F.1 F.2.1 d_M_instruct_295 rfl (fun _ => ?_) (fun h126 => (by rw [h50] at h126; exact absurd h126 (by decide)))
                    refine lv_iload (pc := 351) F.1 F.2.1 d_M_instruct_351 (lv_at hl 5 rfl) ?_
                    refine lv_bipush (pc := 353) (v := 10) F.1 F.2.1 d_M_instruct_353 (by decide) ?_
                    refine lv_icmp_ne (pc := 355) (tgt := 370) F.1 F.2.1 d_M_instruct_355 rfl (fun _ => ?_) (fun h127 => (by rw [h50] at h127; exact absurd h127 (by decide)))
                    refine lv_iload (pc := 370) F.1 F.2.1 d_M_instruct_370 (lv_at hl 5 rfl) ?_
                    refine lv_bipush (pc := 372) (v := 11) F.1 F.2.1 d_M_instruct_372 (by decide) ?_
                    refine lv_icmp_ne (pc := 374) (tgt := 422) F.1 F.2.1 d_M_instruct_374 rfl (fun _ => ?_) (fun h128 => (by rw [h50] at h128; exact absurd h128 (by decide)))
                    refine lv_iload (pc := 422) F.1 F.2.1 d_M_instruct_422 (lv_at hl 5 rfl) ?_
                    refine lv_bipush (pc := 424) (v := 12) F.1 F.2.1 d_M_instruct_424 (by decide) ?_
                    refine lv_icmp_ne (pc := 426) (tgt := 446) F.1 F.2.1 d_M_instruct_426 rfl (fun _ => ?_) (fun h129 => (by rw [h50] at h129; exact absurd h129 (by decide)))
                    refine lv_iload (pc := 446) F.1 F.2.1 d_M_instruct_446 (lv_at hl 5 rfl) ?_
                    refine lv_bipush (pc := 448) (v := 13) F.1 F.2.1 d_M_instruct_448 (by decide) ?_
                    refine lv_icmp_ne (pc := 450) (tgt := 474) F.1 F.2.1 d_M_instruct_450 rfl (fun _ => ?_) (fun h130 => (by rw [h50] at h130; exact absurd h130 (by decide)))
                    refine lv_aload_n (pc := 474) F.1 F.2.1 d_M_instruct_474 rfl (lv_at hl 8 rfl) ?_
                    refine x_get (pc := 475) (v := .ref (ad 3)) F hw 0 2 (fun x h => List.mem_cons_of_mem _ (in_M x h)) rfl rfl (by decide) (List.mem_cons_of_mem _ m_525) rfl d_M_instruct_475 ?_
                    refine lv_iload_n (pc := 478) F.1 F.2.1 d_M_instruct_478 rfl (lv_at hl 7 rfl) ?_
                    refine lv_bipush (pc := 479) (v := 59) F.1 F.2.1 d_M_instruct_479 (by decide) ?_
                    refine lv_iadd (pc := 481) F.1 F.2.1 d_M_instruct_481 ?_
                    refine x_top (y := nI (60 * h0 + 59)) (x_add2 rfl rfl) ?_
                    refine lv_dup2_11 (pc := 482) F.1 F.2.1 d_M_instruct_482 rfl rfl ?_
                    refine x_iald (pc := 483) F hw 3 0 (60 * h0 + 59) rfl rfl rfl (by omega) (by decide) d_M_instruct_483 ?_
                    refine lv_iconst (pc := 484) (v := 1) F.1 F.2.1 d_M_instruct_484 (by decide) ?_
                    refine lv_iadd (pc := 485) F.1 F.2.1 d_M_instruct_485 ?_
                    refine x_iast (pc := 486) (ws' := MW ad cT im me (upd (upd ro (60 * h0 + (lo 2 (v >>> (4 &&& 31)))) ((ro (60 * h0 + (lo 2 (v >>> (4 &&& 31))))) - (ro (60 * h0 + (lo 2 (v >>> (6 &&& 31))))))) (60 * h0 + 59) (((upd ro (60 * h0 + (lo 2 (v >>> (4 &&& 31)))) ((ro (60 * h0 + (lo 2 (v >>> (4 &&& 31))))) - (ro (60 * h0 + (lo 2 (v >>> (6 &&& 31))))))) (60 * h0 + 59)) + 1)) up ho di os ob od on pg tm ts tr ki mo po sr ld st ow nu go la so se sl sp tp rd pn) F hw 3 0 (60 * h0 + 59) rfl rfl rfl (by omega) (by decide) d_M_instruct_486 rfl (fun H locs hw => ?_)
                    refine lv_aload_n (pc := 487) F.1 F.2.1 d_M_instruct_487 rfl (lv_at hl 8 rfl) ?_
                    refine x_get (pc := 488) (v := .ref (ad 3)) F hw 0 2 (fun x h => List.mem_cons_of_mem _ (in_M x h)) rfl rfl (by decide) (List.mem_cons_of_mem _ m_525) rfl d_M_instruct_488 ?_
                    refine lv_iload_n (pc := 491) F.1 F.2.1 d_M_instruct_491 rfl (lv_at hl 7 rfl) ?_
                    refine lv_iconst (pc := 492) (v := 4) F.1 F.2.1 d_M_instruct_492 (by decide) ?_
                    refine lv_iadd (pc := 493) F.1 F.2.1 d_M_instruct_493 ?_
                    refine x_top (y := nI (60 * h0 + 4)) (x_add2 rfl rfl) ?_
                    refine lv_iload (pc := 494) F.1 F.2.1 d_M_instruct_494 (lv_at hl 0 rfl) ?_
                    refine lv_if_eq (pc := 496) (tgt := 504) F.1 F.2.1 d_M_instruct_496 rfl (fun _ => ?_) (fun h => absurd h (by decide))
                    refine lv_aload_n (pc := 504) F.1 F.2.1 d_M_instruct_504 rfl (lv_at hl 8 rfl) ?_
                    refine x_get (pc := 505) (v := .ref (ad 3)) F hw 0 2 (fun x h => List.mem_cons_of_mem _ (in_M x h)) rfl rfl (by decide) (List.mem_cons_of_mem _ m_525) rfl d_M_instruct_505 ?_
                    refine lv_iload_n (pc := 508) F.1 F.2.1 d_M_instruct_508 rfl (lv_at hl 7 rfl) ?_
                    refine lv_iconst (pc := 509) (v := 4) F.1 F.2.1 d_M_instruct_509 (by decide) ?_
                    refine lv_iadd (pc := 510) F.1 F.2.1 d_M_instruct_510 ?_
                    refine x_top (y := nI (60 * h0 + 4)) (x_add2 rfl rfl) ?_
                    refine x_iald (pc := 511) F hw 3 0 (60 * h0 + 4) rfl rfl rfl (by omega) (by decide) d_M_instruct_511 ?_
                    refine lv_iconst (pc := 512) (v := 1) F.1 F.2.1 d_M_instruct_512 (by decide) ?_
                    refine lv_iadd (pc := 513) F.1 F.2.1 d_M_instruct_513 ?_
                    refine lv_bipush (pc := 514) (v := 63) F.1 F.2.1 d_M_instruct_514 (by decide) ?_
                    refine lv_iand (pc := 516) F.1 F.2.1 d_M_instruct_516 ?_
                    refine x_top (y := nI (lo 6 (((upd (upd ro (60 * h0 + (lo 2 (v >>> (4 &&& 31)))) ((ro (60 * h0 + (lo 2 (v >>> (4 &&& 31))))) - (ro (60 * h0 + (lo 2 (v >>> (6 &&& 31))))))) (60 * h0 + 59) (((upd ro (60 * h0 + (lo 2 (v >>> (4 &&& 31)))) ((ro (60 * h0 + (lo 2 (v >>> (4 &&& 31))))) - (ro (60 * h0 + (lo 2 (v >>> (6 &&& 31))))))) (60 * h0 + 59)) + 1)) (60 * h0 + 4)) + 1))) (lo_and 6 _ _ (by decide)) ?_
                    have b131 : lo 6 (((upd (upd ro (60 * h0 + (lo 2 (v >>> (4 &&& 31)))) ((ro (60 * h0 + (lo 2 (v >>> (4 &&& 31))))) - (ro (60 * h0 + (lo 2 (v >>> (6 &&& 31))))))) (60 * h0 + 59) (((upd ro (60 * h0 + (lo 2 (v >>> (4 &&& 31)))) ((ro (60 * h0 + (lo 2 (v >>> (4 &&& 31))))) - (ro (60 * h0 + (lo 2 (v >>> (6 &&& 31))))))) (60 * h0 + 59)) + 1)) (60 * h0 + 4)) + 1) < 64 := lo_lt 6 _
                    refine x_iast (pc := 517) (ws' := MW ad cT im me (upd (upd (upd ro (60 * h0 + (lo 2 (v >>> (4 &&& 31)))) ((ro (60 * h0 + (lo 2 (v >>> (4 &&& 31))))) - (ro (60 * h0 + (lo 2 (v >>> (6 &&& 31))))))) (60 * h0 + 59) (((upd ro (60 * h0 + (lo 2 (v >>> (4 &&& 31)))) ((ro (60 * h0 + (lo 2 (v >>> (4 &&& 31))))) - (ro (60 * h0 + (lo 2 (v >>> (6 &&& 31))))))) (60 * h0 + 59)) + 1)) (60 * h0 + 4) (nI (lo 6 (((upd (upd ro (60 * h0 + (lo 2 (v >>> (4 &&& 31)))) ((ro (60 * h0 + (lo 2 (v >>> (4 &&& 31))))) - (ro (60 * h0 + (lo 2 (v >>> (6 &&& 31))))))) (60 * h0 + 59) (((upd ro (60 * h0 + (lo 2 (v >>> (4 &&& 31)))) ((ro (60 * h0 + (lo 2 (v >>> (4 &&& 31))))) - (ro (60 * h0 + (lo 2 (v >>> (6 &&& 31))))))) (60 * h0 + 59)) + 1)) (60 * h0 + 4)) + 1)))) up ho di os ob od on pg tm ts tr ki mo po sr ld st ow nu go la so se sl sp tp rd pn) F hw 3 0 (60 * h0 + 4) rfl rfl rfl (by omega) (by decide) d_M_instruct_517 rfl (fun H locs hw => ?_)
                    refine lv_aload_n (pc := 518) F.1 F.2.1 d_M_instruct_518 rfl (lv_at hl 8 rfl) ?_
                    refine lv_iload_n (pc := 519) F.1 F.2.1 d_M_instruct_519 rfl (lv_at hl 7 rfl) ?_
                    refine x_callv (pc := 520) (wr := []) hw [0, 1, 2, 3, 4, 5, 6, 7, 8, 9, 10, 11, 12, 13, 14, 15, 16, 17, 18, 19] [] rfl rfl (by decide) (by decide) (va_runV (As := [.int (nI (60 * h0))]) (rest := []) F (c_M_tick l D cT ad im me (upd (upd (upd ro (60 * h0 + (lo 2 (v >>> (4 &&& 31)))) ((ro (60 * h0 + (lo 2 (v >>> (4 &&& 31))))) - (ro (60 * h0 + (lo 2 (v >>> (6 &&& 31))))))) (60 * h0 + 59) (((upd ro (60 * h0 + (lo 2 (v >>> (4 &&& 31)))) ((ro (60 * h0 + (lo 2 (v >>> (4 &&& 31))))) - (ro (60 * h0 + (lo 2 (v >>> (6 &&& 31))))))) (60 * h0 + 59)) + 1)) (60 * h0 + 4) (nI (lo 6 (((upd (upd ro (60 * h0 + (lo 2 (v >>> (4 &&& 31)))) ((ro (60 * h0 + (lo 2 (v >>> (4 &&& 31))))) - (ro (60 * h0 + (lo 2 (v >>> (6 &&& 31))))))) (60 * h0 + 59) (((upd ro (60 * h0 + (lo 2 (v >>> (4 &&& 31)))) ((ro (60 * h0 + (lo 2 (v >>> (4 &&& 31))))) - (ro (60 * h0 + (lo 2 (v >>> (6 &&& 31))))))) (60 * h0 + 59)) + 1)) (60 * h0 + 4)) + 1)))) up ho di os ob od on pg tm ts tr ki mo po sr ld st ow nu go la so se sl sp tp rd pn (60 * h0) (by omega) _) (x_cw (C := "MovingGuestModel") 1 F (g_all y_M_tick b_M_tick 2 none (List.mem_cons_of_mem _ m_650)) rfl rfl rfl (F.2.2.2.2 _ (List.mem_cons_of_mem _ m_40)) (F.2.2.2.2 _ (List.mem_cons_of_mem _ m_648)) (F.2.2.2.2 _ (List.mem_cons_of_mem _ m_649)) (F.2.2.2.2 _ (List.mem_cons_of_mem _ m_21)) (by decide +kernel) ⟨by decide, by decide⟩) (hw.preV (q0 := 0) [0, 1, 2, 3, 4, 5, 6, 7, 8, 9, 10, 11, 12, 13, 14, 15, 16, 17, 18, 19] (by decide) rfl rfl rfl) rfl rfl hl.1 rfl (lv_room (Nat.le_of_ble_eq_true rfl)) d_M_instruct_520 ⟨by decide, by decide⟩) (fun rov133 H locs e132 hw => ?_)
                    have hw : Hw D vwCl (TYS cT) A s (MW ad cT im me rov133 up ho di os ob od on pg tm ts tr ki mo po sr ld st ow nu go la so se sl sp tp rd pn) H locs := hw
                    refine lv_iconst (pc := 523) (v := 1) F.1 F.2.1 d_M_instruct_523 (by decide) ?_
                    refine W.widen (k := 0) (n := 0) (by decide) (by decide) ?_
                    exact ret 1 (me, rov133, pg, os, ob, od, on) _ _ 524 _ rfl (by unfold F_M_instruct <;> rw [if_neg h5] <;> rw [if_neg h6] <;> rw [if_neg h7] <;> rw [if_neg h32] <;> rw [if_neg h33] <;> rw [if_neg h47] <;> rw [if_neg h48] <;> rw [if_neg h49] <;> rw [if_pos h50] <;> rw [e132] <;> (try dsimp only) <;> rfl) hw d_M_instruct_524
                · refine lv_aload_n (pc := 170) F.1 F.2.1 d_M_instruct_170 rfl (lv_at hl 8 rfl) ?_
                  refine x_get (pc := 171) (v := .ref (ad 3)) F hw 0 2 (fun x h => List.mem_cons_of_mem _ (in_M x h)) rfl rfl (by decide) (List.mem_cons_of_mem _ m_525) rfl d_M_instruct_171 ?_
                  refine lv_iload (pc := 174) F.1 F.2.1 d_M_instruct_174 (lv_at hl 4 rfl) ?_
                  refine lv_aload_n (pc := 176) F.1 F.2.1 d_M_instruct_176 rfl (lv_at hl 8 rfl) ?_
                  refine x_get (pc := 177) (v := .ref (ad 3)) F hw 0 2 (fun x h => List.mem_cons_of_mem _ (in_M x h)) rfl rfl (by decide) (List.mem_cons_of_mem _ m_525) rfl d_M_instruct_177 ?_
                  refine lv_iload (pc := 180) F.1 F.2.1 d_M_instruct_180 (lv_at hl 4 rfl) ?_
                  refine x_iald (pc := 182) F hw 3 0 (60 * h0 + (lo 2 (v >>> (4 &&& 31)))) rfl rfl rfl (by omega) (by decide) d_M_instruct_182 ?_
                  refine lv_iload (pc := 183) F.1 F.2.1 d_M_instruct_183 (lv_at hl 3 rfl) ?_
                  refine lv_iadd (pc := 185) F.1 F.2.1 d_M_instruct_185 ?_
                  refine x_iast (pc := 186) (ws' := MW ad cT im me (upd ro (60 * h0 + (lo 2 (v >>> (4 &&& 31)))) ((ro (60 * h0 + (lo 2 (v >>> (4 &&& 31))))) + (ro (60 * h0 + (lo 2 (v >>> (6 &&& 31))))))) up ho di os ob od on pg tm ts tr ki mo po sr ld st ow nu go la so se sl sp tp rd pn) F hw 3 0 (60 * h0 + (lo 2 (v >>> (4 &&& 31)))) rfl rfl rfl (by omega) (by decide) d_M_instruct_186 rfl (fun H locs hw => ?_)
                  refine lv_iload (pc := 187) F.1 F.2.1 d_M_instruct_187 (lv_at hl 5 rfl) ?_
                  refine lv_iconst (pc := 189) (v := 3) F.1 F.2.1 d_M_instruct_189 (by decide) ?_
                  refine lv_icmp_ne (pc := 190) (tgt := 210) F.1 F.2.1 d_M_instruct_190 rfl (fun _ => ?_) (fun h134 => (by rw [h49] at h134; exact absurd h134 (by decide)))
                  refine lv_iload (pc := 210) F.1 F.2.1 d_M_instruct_210 (lv_at hl 5 rfl) ?_
                  refine lv_iconst (pc := 212) (v := 4) F.1 F.2.1 d_M_instruct_212 (by decide) ?_
                  refine lv_icmp_ne (pc := 213) (tgt := 233) F.1 F.2.1 d_M_instruct_213 rfl (fun _ => ?_) (fun h135 => (by rw [h49] at h135; exact absurd h135 (by decide)))
                  refine lv_iload (pc := 233) F.1 F.2.1 d_M_instruct_233 (lv_at hl 5 rfl) ?_
                  refine lv_iconst (pc := 235) (v := 5) F.1 F.2.1 d_M_instruct_235 (by decide) ?_
                  refine lv_icmp_ne (pc := 236) (tgt := 264) F.1 F.2.1 d_M_instruct_236 rfl (fun _ => ?_) (fun h136 => (by rw [h49] at h136; exact absurd h136 (by decide)))
                  refine lv_iload (pc := 264) F.1 F.2.1 d_M_instruct_264 (lv_at hl 5 rfl) ?_
                  refine lv_bipush (pc := 266) (v := 6) F.1 F.2.1 d_M_instruct_266 (by decide) ?_
                  refine lv_icmp_ne (pc := 268) (tgt := 291) F.1 F.2.1 d_M_instruct_268 rfl (fun _ => ?_) (fun h137 => (by rw [h49] at h137; exact absurd h137 (by decide)))
                  refine lv_iload (pc := 291) F.1 F.2.1 d_M_instruct_291 (lv_at hl 5 rfl) ?_
                  refine lv_bipush (pc := 293) (v := 9) F.1 F.2.1 d_M_instruct_293 (by decide) ?_
                  refine lv_icmp_ne (pc := 295) (tgt := 351) F.1 F.2.1 d_M_instruct_295 rfl (fun _ => ?_) (fun h138 => (by rw [h49] at h138; exact absurd h138 (by decide)))
                  refine lv_iload (pc := 351) F.1 F.2.1 d_M_instruct_351 (lv_at hl 5 rfl) ?_
                  refine lv_bipush (pc := 353) (v := 10) F.1 F.2.1 d_M_instruct_353 (by decide) ?_
                  refine lv_icmp_ne (pc := 355) (tgt := 370) F.1 F.2.1 d_M_instruct_355 rfl (fun _ => ?_) (fun h139 => (by rw [h49] at h139; exact absurd h139 (by decide)))
                  refine lv_iload (pc := 370) F.1 F.2.1 d_M_instruct_370 (lv_at hl 5 rfl) ?_
                  refine lv_bipush (pc := 372) (v := 11) F.1 F.2.1 d_M_instruct_372 (by decide) ?_
                  refine lv_icmp_ne (pc := 374) (tgt := 422) F.1 F.2.1 d_M_instruct_374 rfl (fun _ => ?_) (fun h140 => (by rw [h49] at h140; exact absurd h140 (by decide)))
                  refine lv_iload (pc := 422) F.1 F.2.1 d_M_instruct_422 (lv_at hl 5 rfl) ?_
                  refine lv_bipush (pc := 424) (v := 12) F.1 F.2.1 d_M_instruct_424 (by decide) ?_
                  refine lv_icmp_ne (pc := 426) (tgt := 446) F.1 F.2.1 d_M_instruct_426 rfl (fun _ => ?_) (fun h141 => (by rw [h49] at h141; exact absurd h141 (by decide)))
                  refine lv_iload (pc := 446) F.1 F.2.1 d_M_instruct_446 (lv_at hl 5 rfl) ?_
                  refine lv_bipush (pc := 448) (v := 13) F.1 F.2.1 d_M_instruct_448 (by decide) ?_
                  refine lv_icmp_ne (pc := 450) (tgt := 474) F.1 F.2.1 d_M_instruct_450 rfl (fun _ => ?_) (fun h142 => (by rw [h49] at h142; exact absurd h142 (by decide)))
                  refine lv_aload_n (pc := 474) F.1 F.2.1 d_M_instruct_474 rfl (lv_at hl 8 rfl) ?_
                  refine x_get (pc := 475) (v := .ref (ad 3)) F hw 0 2 (fun x h => List.mem_cons_of_mem _ (in_M x h)) rfl rfl (by decide) (List.mem_cons_of_mem _ m_525) rfl d_M_instruct_475 ?_
                  refine lv_iload_n (pc := 478) F.1 F.2.1 d_M_instruct_478 rfl (lv_at hl 7 rfl) ?_
                  refine lv_bipush (pc := 479) (v := 59) F.1 F.2.1 d_M_instruct_479 (by decide) ?_
                  refine lv_iadd (pc := 481) F.1 F.2.1 d_M_instruct_481 ?_
                  refine x_top (y := nI (60 * h0 + 59)) (x_add2 rfl rfl) ?_
                  refine lv_dup2_11 (pc := 482) F.1 F.2.1 d_M_instruct_482 rfl rfl ?_
                  refine x_iald (pc := 483) F hw 3 0 (60 * h0 + 59) rfl rfl rfl (by omega) (by decide) d_M_instruct_483 ?_
                  refine lv_iconst (pc := 484) (v := 1) F.1 F.2.1 d_M_instruct_484 (by decide) ?_
                  refine lv_iadd (pc := 485) F.1 F.2.1 d_M_instruct_485 ?_
                  refine x_iast (pc := 486) (ws' := MW ad cT im me (upd (upd ro (60 * h0 + (lo 2 (v >>> (4 &&& 31)))) ((ro (60 * h0 + (lo 2 (v >>> (4 &&& 31))))) + (ro (60 * h0 + (lo 2 (v >>> (6 &&& 31))))))) (60 * h0 + 59) (((upd ro (60 * h0 + (lo 2 (v >>> (4 &&& 31)))) ((ro (60 * h0 + (lo 2 (v >>> (4 &&& 31))))) + (ro (60 * h0 + (lo 2 (v >>> (6 &&& 31))))))) (60 * h0 + 59)) + 1)) up ho di os ob od on pg tm ts tr ki mo po sr ld st ow nu go la so se sl sp tp rd pn) F hw 3 0 (60 * h0 + 59) rfl rfl rfl (by omega) (by decide) d_M_instruct_486 rfl (fun H locs hw => ?_)
                  refine lv_aload_n (pc := 487) F.1 F.2.1 d_M_instruct_487 rfl (lv_at hl 8 rfl) ?_
                  refine x_get (pc := 488) (v := .ref (ad 3)) F hw 0 2 (fun x h => List.mem_cons_of_mem _ (in_M x h)) rfl rfl (by decide) (List.mem_cons_of_mem _ m_525) rfl d_M_instruct_488 ?_
                  refine lv_iload_n (pc := 491) F.1 F.2.1 d_M_instruct_491 rfl (lv_at hl 7 rfl) ?_
                  refine lv_iconst (pc := 492) (v := 4) F.1 F.2.1 d_M_instruct_492 (by decide) ?_
                  refine lv_iadd (pc := 493) F.1 F.2.1 d_M_instruct_493 ?_
                  refine x_top (y := nI (60 * h0 + 4)) (x_add2 rfl rfl) ?_
                  refine lv_iload (pc := 494) F.1 F.2.1 d_M_instruct_494 (lv_at hl 0 rfl) ?_
                  refine lv_if_eq (pc := 496) (tgt := 504) F.1 F.2.1 d_M_instruct_496 rfl (fun _ => ?_) (fun h => absurd h (by decide))
                  refine lv_aload_n (pc := 504) F.1 F.2.1 d_M_instruct_504 rfl (lv_at hl 8 rfl) ?_
                  refine x_get (pc := 505) (v := .ref (ad 3)) F hw 0 2 (fun x h => List.mem_cons_of_mem _ (in_M x h)) rfl rfl (by decide) (List.mem_cons_of_mem _ m_525) rfl d_M_instruct_505 ?_
                  refine lv_iload_n (pc := 508) F.1 F.2.1 d_M_instruct_508 rfl (lv_at hl 7 rfl) ?_
                  refine lv_iconst (pc := 509) (v := 4) F.1 F.2.1 d_M_instruct_509 (by decide) ?_
                  refine lv_iadd (pc := 510) F.1 F.2.1 d_M_instruct_510 ?_
                  refine x_top (y := nI (60 * h0 + 4)) (x_add2 rfl rfl) ?_
                  refine x_iald (pc := 511) F hw 3 0 (60 * h0 + 4) rfl rfl rfl (by omega) (by decide) d_M_instruct_511 ?_
                  refine lv_iconst (pc := 512) (v := 1) F.1 F.2.1 d_M_instruct_512 (by decide) ?_
                  refine lv_iadd (pc := 513) F.1 F.2.1 d_M_instruct_513 ?_
                  refine lv_bipush (pc := 514) (v := 63) F.1 F.2.1 d_M_instruct_514 (by decide) ?_
                  refine lv_iand (pc := 516) F.1 F.2.1 d_M_instruct_516 ?_
                  refine x_top (y := nI (lo 6 (((upd (upd ro (60 * h0 + (lo 2 (v >>> (4 &&& 31)))) ((ro (60 * h0 + (lo 2 (v >>> (4 &&& 31))))) + (ro (60 * h0 + (lo 2 (v >>> (6 &&& 31))))))) (60 * h0 + 59) (((upd ro (60 * h0 + (lo 2 (v >>> (4 &&& 31)))) ((ro (60 * h0 + (lo 2 (v >>> (4 &&& 31))))) + (ro (60 * h0 + (lo 2 (v >>> (6 &&& 31))))))) (60 * h0 + 59)) + 1)) (60 * h0 + 4)) + 1))) (lo_and 6 _ _ (by decide)) ?_
                  have b143 : lo 6 (((upd (upd ro (60 * h0 + (lo 2 (v >>> (4 &&& 31)))) ((ro (60 * h0 + (lo 2 (v >>> (4 &&& 31))))) + (ro (60 * h0 + (lo 2 (v >>> (6 &&& 31))))))) (60 * h0 + 59) (((upd ro (60 * h0 + (lo 2 (v >>> (4 &&& 31)))) ((ro (60 * h0 + (lo 2 (v >>> (4 &&& 31))))) + (ro (60 * h0 + (lo 2 (v >>> (6 &&& 31))))))) (60 * h0 + 59)) + 1)) (60 * h0 + 4)) + 1) < 64 := lo_lt 6 _
                  refine x_iast (pc := 517) (ws' := MW ad cT im me (upd (upd (upd ro (60 * h0 + (lo 2 (v >>> (4 &&& 31)))) ((ro (60 * h0 + (lo 2 (v >>> (4 &&& 31))))) + (ro (60 * h0 + (lo 2 (v >>> (6 &&& 31))))))) (60 * h0 + 59) (((upd ro (60 * h0 + (lo 2 (v >>> (4 &&& 31)))) ((ro (60 * h0 + (lo 2 (v >>> (4 &&& 31))))) + (ro (60 * h0 + (lo 2 (v >>> (6 &&& 31))))))) (60 * h0 + 59)) + 1)) (60 * h0 + 4) (nI (lo 6 (((upd (upd ro (60 * h0 + (lo 2 (v >>> (4 &&& 31)))) ((ro (60 * h0 + (lo 2 (v >>> (4 &&& 31))))) + (ro (60 * h0 + (lo 2 (v >>> (6 &&& 31))))))) (60 * h0 + 59) (((upd ro (60 * h0 + (lo 2 (v >>> (4 &&& 31)))) ((ro (60 * h0 + (lo 2 (v >>> (4 &&& 31))))) + (ro (60 * h0 + (lo 2 (v >>> (6 &&& 31))))))) (60 * h0 + 59)) + 1)) (60 * h0 + 4)) + 1)))) up ho di os ob od on pg tm ts tr ki mo po sr ld st ow nu go la so se sl sp tp rd pn) F hw 3 0 (60 * h0 + 4) rfl rfl rfl (by omega) (by decide) d_M_instruct_517 rfl (fun H locs hw => ?_)
                  refine lv_aload_n (pc := 518) F.1 F.2.1 d_M_instruct_518 rfl (lv_at hl 8 rfl) ?_
                  refine lv_iload_n (pc := 519) F.1 F.2.1 d_M_instruct_519 rfl (lv_at hl 7 rfl) ?_
                  refine x_callv (pc := 520) (wr := []) hw [0, 1, 2, 3, 4, 5, 6, 7, 8, 9, 10, 11, 12, 13, 14, 15, 16, 17, 18, 19] [] rfl rfl (by decide) (by decide) (va_runV (As := [.int (nI (60 * h0))]) (rest := []) F (c_M_tick l D cT ad im me (upd (upd (upd ro (60 * h0 + (lo 2 (v >>> (4 &&& 31)))) ((ro (60 * h0 + (lo 2 (v >>> (4 &&& 31))))) + (ro (60 * h0 + (lo 2 (v >>> (6 &&& 31))))))) (60 * h0 + 59) (((upd ro (60 * h0 + (lo 2 (v >>> (4 &&& 31)))) ((ro (60 * h0 + (lo 2 (v >>> (4 &&& 31))))) + (ro (60 * h0 + (lo 2 (v >>> (6 &&& 31))))))) (60 * h0 + 59)) + 1)) (60 * h0 + 4) (nI (lo 6 (((upd (upd ro (60 * h0 + (lo 2 (v >>> (4 &&& 31)))) ((ro (60 * h0 + (lo 2 (v >>> (4 &&& 31))))) + (ro (60 * h0 + (lo 2 (v >>> (6 &&& 31))))))) (60 * h0 + 59) (((upd ro (60 * h0 + (lo 2 (v >>> (4 &&& 31)))) ((ro (60 * h0 + (lo 2 (v >>> (4 &&& 31))))) + (ro (60 * h0 + (lo 2 (v >>> (6 &&& 31))))))) (60 * h0 + 59)) + 1)) (60 * h0 + 4)) + 1)))) up ho di os ob od on pg tm ts tr ki mo po sr ld st ow nu go la so se sl sp tp rd pn (60 * h0) (by omega) _) (x_cw (C := "MovingGuestModel") 1 F (g_all y_M_tick b_M_tick 2 none (List.mem_cons_of_mem _ m_650)) rfl rfl rfl (F.2.2.2.2 _ (List.mem_cons_of_mem _ m_40)) (F.2.2.2.2 _ (List.mem_cons_of_mem _ m_648)) (F.2.2.2.2 _ (List.mem_cons_of_mem _ m_649)) (F.2.2.2.2 _ (List.mem_cons_of_mem _ m_21)) (by decide +kernel) ⟨by decide, by decide⟩) (hw.preV (q0 := 0) [0, 1, 2, 3, 4, 5, 6, 7, 8, 9, 10, 11, 12, 13, 14, 15, 16, 17, 18, 19] (by decide) rfl rfl rfl) rfl rfl hl.1 rfl (lv_room (Nat.le_of_ble_eq_true rfl)) d_M_instruct_520 ⟨by decide, by decide⟩) (fun rov145 H locs e144 hw => ?_)
                  have hw : Hw D vwCl (TYS cT) A s (MW ad cT im me rov145 up ho di os ob od on pg tm ts tr ki mo po sr ld st ow nu go la so se sl sp tp rd pn) H locs := hw
                  refine lv_iconst (pc := 523) (v := 1) F.1 F.2.1 d_M_instruct_523 (by decide) ?_
                  refine W.widen (k := 0) (n := 0) (by decide) (by decide) ?_
                  exact ret 1 (me, rov145, pg, os, ob, od, on) _ _ 524 _ rfl (by unfold F_M_instruct <;> rw [if_neg h5] <;> rw [if_neg h6] <;> rw [if_neg h7] <;> rw [if_neg h32] <;> rw [if_neg h33] <;> rw [if_neg h47] <;> rw [if_neg h48] <;> rw [if_pos h49] <;> rw [e144] <;> (try dsimp only) <;> rfl) hw d_M_instruct_524
              · refine lv_aload_n (pc := 153) F.1 F.2.1 d_M_instruct_153 rfl (lv_at hl 8 rfl) ?_
                refine x_get (pc := 154) (v := .ref (ad 3)) F hw 0 2 (fun x h => List.mem_cons_of_mem _ (in_M x h)) rfl rfl (by decide) (List.mem_cons_of_mem _ m_525) rfl d_M_instruct_154 ?_
                refine lv_iload (pc := 157) F.1 F.2.1 d_M_instruct_157 (lv_at hl 4 rfl) ?_
                refine lv_iload_n (pc := 159) F.1 F.2.1 d_M_instruct_159 rfl (lv_at hl 6 rfl) ?_
                refine lv_bipush (pc := 160) (v := 16) F.1 F.2.1 d_M_instruct_160 (by decide) ?_
                refine lv_ishr (pc := 162) F.1 F.2.1 d_M_instruct_162 ?_
                refine x_iast (pc := 163) (ws' := MW ad cT im me (upd ro (60 * h0 + (lo 2 (v >>> (4 &&& 31)))) (v >>> (16 &&& 31))) up ho di os ob od on pg tm ts tr ki mo po sr ld st ow nu go la so se sl sp tp rd pn) F hw 3 0 (60 * h0 + (lo 2 (v >>> (4 &&& 31)))) rfl rfl rfl (by omega) (by decide) d_M_instruct_163 rfl (fun H locs hw => ?_)
                refine lv_iload (pc := 164) F.1 F.2.1 d_M_instruct_164 (lv_at hl 5 rfl) ?_
                refine lv_iconst (pc := 166) (v := 2) F.1 F.2.1 d_M_instruct_166 (by decide) ?_
                refine lv_icmp_ne (pc := 167) (tgt := 187) F.1 F.2.1 d_M_instruct_167 rfl (fun _ => ?_) (fun h146 => (by rw [h48] at h146; exact absurd h146 (by decide)))
                refine lv_iload (pc := 187) F.1 F.2.1 d_M_instruct_187 (lv_at hl 5 rfl) ?_
                refine lv_iconst (pc := 189) (v := 3) F.1 F.2.1 d_M_instruct_189 (by decide) ?_
                refine lv_icmp_ne (pc := 190) (tgt := 210) F.1 F.2.1 d_M_instruct_190 rfl (fun _ => ?_) (fun h147 => (by rw [h48] at h147; exact absurd h147 (by decide)))
                refine lv_iload (pc := 210) F.1 F.2.1 d_M_instruct_210 (lv_at hl 5 rfl) ?_
                refine lv_iconst (pc := 212) (v := 4) F.1 F.2.1 d_M_instruct_212 (by decide) ?_
                refine lv_icmp_ne (pc := 213) (tgt := 233) F.1 F.2.1 d_M_instruct_213 rfl (fun _ => ?_) (fun h148 => (by rw [h48] at h148; exact absurd h148 (by decide)))
                refine lv_iload (pc := 233) F.1 F.2.1 d_M_instruct_233 (lv_at hl 5 rfl) ?_
                refine lv_iconst (pc := 235) (v := 5) F.1 F.2.1 d_M_instruct_235 (by decide) ?_
                refine lv_icmp_ne (pc := 236) (tgt := 264) F.1 F.2.1 d_M_instruct_236 rfl (fun _ => ?_) (fun h149 => (by rw [h48] at h149; exact absurd h149 (by decide)))
                refine lv_iload (pc := 264) F.1 F.2.1 d_M_instruct_264 (lv_at hl 5 rfl) ?_
                refine lv_bipush (pc := 266) (v := 6) F.1 F.2.1 d_M_instruct_266 (by decide) ?_
                refine lv_icmp_ne (pc := 268) (tgt := 291) F.1 F.2.1 d_M_instruct_268 rfl (fun _ => ?_) (fun h150 => (by rw [h48] at h150; exact absurd h150 (by decide)))
                refine lv_iload (pc := 291) F.1 F.2.1 d_M_instruct_291 (lv_at hl 5 rfl) ?_
                refine lv_bipush (pc := 293) (v := 9) F.1 F.2.1 d_M_instruct_293 (by decide) ?_
                refine lv_icmp_ne (pc := 295) (tgt := 351) F.1 F.2.1 d_M_instruct_295 rfl (fun _ => ?_) (fun h151 => (by rw [h48] at h151; exact absurd h151 (by decide)))
                refine lv_iload (pc := 351) F.1 F.2.1 d_M_instruct_351 (lv_at hl 5 rfl) ?_
                refine lv_bipush (pc := 353) (v := 10) F.1 F.2.1 d_M_instruct_353 (by decide) ?_
                refine lv_icmp_ne (pc := 355) (tgt := 370) F.1 F.2.1 d_M_instruct_355 rfl (fun _ => ?_) (fun h152 => (by rw [h48] at h152; exact absurd h152 (by decide)))
                refine lv_iload (pc := 370) F.1 F.2.1 d_M_instruct_370 (lv_at hl 5 rfl) ?_
                refine lv_bipush (pc := 372) (v := 11) F.1 F.2.1 d_M_instruct_372 (by decide) ?_
                refine lv_icmp_ne (pc := 374) (tgt := 422) F.1 F.2.1 d_M_instruct_374 rfl (fun _ => ?_) (fun h153 => (by rw [h48] at h153; exact absurd h153 (by decide)))
                refine lv_iload (pc := 422) F.1 F.2.1 d_M_instruct_422 (lv_at hl 5 rfl) ?_
                refine lv_bipush (pc := 424) (v := 12) F.1 F.2.1 d_M_instruct_424 (by decide) ?_
                refine lv_icmp_ne (pc := 426) (tgt := 446) F.1 F.2.1 d_M_instruct_426 rfl (fun _ => ?_) (fun h154 => (by rw [h48] at h154; exact absurd h154 (by decide)))
                refine lv_iload (pc := 446) F.1 F.2.1 d_M_instruct_446 (lv_at hl 5 rfl) ?_
                refine lv_bipush (pc := 448) (v := 13) F.1 F.2.1 d_M_instruct_448 (by decide) ?_
                refine lv_icmp_ne (pc := 450) (tgt := 474) F.1 F.2.1 d_M_instruct_450 rfl (fun _ => ?_) (fun h155 => (by rw [h48] at h155; exact absurd h155 (by decide)))
                refine lv_aload_n (pc := 474) F.1 F.2.1 d_M_instruct_474 rfl (lv_at hl 8 rfl) ?_
                refine x_get (pc := 475) (v := .ref (ad 3)) F hw 0 2 (fun x h => List.mem_cons_of_mem _ (in_M x h)) rfl rfl (by decide) (List.mem_cons_of_mem _ m_525) rfl d_M_instruct_475 ?_
                refine lv_iload_n (pc := 478) F.1 F.2.1 d_M_instruct_478 rfl (lv_at hl 7 rfl) ?_
                refine lv_bipush (pc := 479) (v := 59) F.1 F.2.1 d_M_instruct_479 (by decide) ?_
                refine lv_iadd (pc := 481) F.1 F.2.1 d_M_instruct_481 ?_
                refine x_top (y := nI (60 * h0 + 59)) (x_add2 rfl rfl) ?_
                refine lv_dup2_11 (pc := 482) F.1 F.2.1 d_M_instruct_482 rfl rfl ?_
                refine x_iald (pc := 483) F hw 3 0 (60 * h0 + 59) rfl rfl rfl (by omega) (by decide) d_M_instruct_483 ?_
                refine lv_iconst (pc := 484) (v := 1) F.1 F.2.1 d_M_instruct_484 (by decide) ?_
                refine lv_iadd (pc := 485) F.1 F.2.1 d_M_instruct_485 ?_
                refine x_iast (pc := 486) (ws' := MW ad cT im me (upd (upd ro (60 * h0 + (lo 2 (v >>> (4 &&& 31)))) (v >>> (16 &&& 31))) (60 * h0 + 59) (((upd ro (60 * h0 + (lo 2 (v >>> (4 &&& 31)))) (v >>> (16 &&& 31))) (60 * h0 + 59)) + 1)) up ho di os ob od on pg tm ts tr ki mo po sr ld st ow nu go la so se sl sp tp rd pn) F hw 3 0 (60 * h0 + 59) rfl rfl rfl (by omega) (by decide) d_M_instruct_486 rfl (fun H locs hw => ?_)
                refine lv_aload_n (pc := 487) F.1 F.2.1 d_M_instruct_487 rfl (lv_at hl 8 rfl) ?_
                refine x_get (pc := 488) (v := .ref (ad 3)) F hw 0 2 (fun x h => List.mem_cons_of_mem _ (in_M x h)) rfl rfl (by decide) (List.mem_cons_of_mem _ m_525) rfl d_M_instruct_488 ?_
                refine lv_iload_n (pc := 491) F.1 F.2.1 d_M_instruct_491 rfl (lv_at hl 7 rfl) ?_
                refine lv_iconst (pc := 492) (v := 4) F.1 F.2.1 d_M_instruct_492 (by decide) ?_
                refine lv_iadd (pc := 493) F.1 F.2.1 d_M_instruct_493 ?_
                refine x_top (y := nI (60 * h0 + 4)) (x_add2 rfl rfl) ?_
                refine lv_iload (pc := 494) F.1 F.2.1 d_M_instruct_494 (lv_at hl 0 rfl) ?_
                refine lv_if_eq (pc := 496) (tgt := 504) F.1 F.2.1 d_M_instruct_496 rfl (fun _ => ?_) (fun h => absurd h (by decide))
                refine lv_aload_n (pc := 504) F.1 F.2.1 d_M_instruct_504 rfl (lv_at hl 8 rfl) ?_
                refine x_get (pc := 505) (v := .ref (ad 3)) F hw 0 2 (fun x h => List.mem_cons_of_mem _ (in_M x h)) rfl rfl (by decide) (List.mem_cons_of_mem _ m_525) rfl d_M_instruct_505 ?_
                refine lv_iload_n (pc := 508) F.1 F.2.1 d_M_instruct_508 rfl (lv_at hl 7 rfl) ?_
                refine lv_iconst (pc := 509) (v := 4) F.1 F.2.1 d_M_instruct_509 (by decide) ?_
                refine lv_iadd (pc := 510) F.1 F.2.1 d_M_instruct_510 ?_
                refine x_top (y := nI (60 * h0 + 4)) (x_add2 rfl rfl) ?_
                refine x_iald (pc := 511) F hw 3 0 (60 * h0 + 4) rfl rfl rfl (by omega) (by decide) d_M_instruct_511 ?_
                refine lv_iconst (pc := 512) (v := 1) F.1 F.2.1 d_M_instruct_512 (by decide) ?_
                refine lv_iadd (pc := 513) F.1 F.2.1 d_M_instruct_513 ?_
                refine lv_bipush (pc := 514) (v := 63) F.1 F.2.1 d_M_instruct_514 (by decide) ?_
                refine lv_iand (pc := 516) F.1 F.2.1 d_M_instruct_516 ?_
                refine x_top (y := nI (lo 6 (((upd (upd ro (60 * h0 + (lo 2 (v >>> (4 &&& 31)))) (v >>> (16 &&& 31))) (60 * h0 + 59) (((upd ro (60 * h0 + (lo 2 (v >>> (4 &&& 31)))) (v >>> (16 &&& 31))) (60 * h0 + 59)) + 1)) (60 * h0 + 4)) + 1))) (lo_and 6 _ _ (by decide)) ?_
                have b156 : lo 6 (((upd (upd ro (60 * h0 + (lo 2 (v >>> (4 &&& 31)))) (v >>> (16 &&& 31))) (60 * h0 + 59) (((upd ro (60 * h0 + (lo 2 (v >>> (4 &&& 31)))) (v >>> (16 &&& 31))) (60 * h0 + 59)) + 1)) (60 * h0 + 4)) + 1) < 64 := lo_lt 6 _
                refine x_iast (pc := 517) (ws' := MW ad cT im me (upd (upd (upd ro (60 * h0 + (lo 2 (v >>> (4 &&& 31)))) (v >>> (16 &&& 31))) (60 * h0 + 59) (((upd ro (60 * h0 + (lo 2 (v >>> (4 &&& 31)))) (v >>> (16 &&& 31))) (60 * h0 + 59)) + 1)) (60 * h0 + 4) (nI (lo 6 (((upd (upd ro (60 * h0 + (lo 2 (v >>> (4 &&& 31)))) (v >>> (16 &&& 31))) (60 * h0 + 59) (((upd ro (60 * h0 + (lo 2 (v >>> (4 &&& 31)))) (v >>> (16 &&& 31))) (60 * h0 + 59)) + 1)) (60 * h0 + 4)) + 1)))) up ho di os ob od on pg tm ts tr ki mo po sr ld st ow nu go la so se sl sp tp rd pn) F hw 3 0 (60 * h0 + 4) rfl rfl rfl (by omega) (by decide) d_M_instruct_517 rfl (fun H locs hw => ?_)
                refine lv_aload_n (pc := 518) F.1 F.2.1 d_M_instruct_518 rfl (lv_at hl 8 rfl) ?_
                refine lv_iload_n (pc := 519) F.1 F.2.1 d_M_instruct_519 rfl (lv_at hl 7 rfl) ?_
                refine x_callv (pc := 520) (wr := []) hw [0, 1, 2, 3, 4, 5, 6, 7, 8, 9, 10, 11, 12, 13, 14, 15, 16, 17, 18, 19] [] rfl rfl (by decide) (by decide) (va_runV (As := [.int (nI (60 * h0))]) (rest := []) F (c_M_tick l D cT ad im me (upd (upd (upd ro (60 * h0 + (lo 2 (v >>> (4 &&& 31)))) (v >>> (16 &&& 31))) (60 * h0 + 59) (((upd ro (60 * h0 + (lo 2 (v >>> (4 &&& 31)))) (v >>> (16 &&& 31))) (60 * h0 + 59)) + 1)) (60 * h0 + 4) (nI (lo 6 (((upd (upd ro (60 * h0 + (lo 2 (v >>> (4 &&& 31)))) (v >>> (16 &&& 31))) (60 * h0 + 59) (((upd ro (60 * h0 + (lo 2 (v >>> (4 &&& 31)))) (v >>> (16 &&& 31))) (60 * h0 + 59)) + 1)) (60 * h0 + 4)) + 1)))) up ho di os ob od on pg tm ts tr ki mo po sr ld st ow nu go la so se sl sp tp rd pn (60 * h0) (by omega) _) (x_cw (C := "MovingGuestModel") 1 F (g_all y_M_tick b_M_tick 2 none (List.mem_cons_of_mem _ m_650)) rfl rfl rfl (F.2.2.2.2 _ (List.mem_cons_of_mem _ m_40)) (F.2.2.2.2 _ (List.mem_cons_of_mem _ m_648)) (F.2.2.2.2 _ (List.mem_cons_of_mem _ m_649)) (F.2.2.2.2 _ (List.mem_cons_of_mem _ m_21)) (by decide +kernel) ⟨by decide, by decide⟩) (hw.preV (q0 := 0) [0, 1, 2, 3, 4, 5, 6, 7, 8, 9, 10, 11, 12, 13, 14, 15, 16, 17, 18, 19] (by decide) rfl rfl rfl) rfl rfl hl.1 rfl (lv_room (Nat.le_of_ble_eq_true rfl)) d_M_instruct_520 ⟨by decide, by decide⟩) (fun rov158 H locs e157 hw => ?_)
                have hw : Hw D vwCl (TYS cT) A s (MW ad cT im me rov158 up ho di os ob od on pg tm ts tr ki mo po sr ld st ow nu go la so se sl sp tp rd pn) H locs := hw
                refine lv_iconst (pc := 523) (v := 1) F.1 F.2.1 d_M_instruct_523 (by decide) ?_
                refine W.widen (k := 0) (n := 0) (by decide) (by decide) ?_
                exact ret 1 (me, rov158, pg, os, ob, od, on) _ _ 524 _ rfl (by unfold F_M_instruct <;> rw [if_neg h5] <;> rw [if_neg h6] <;> rw [if_neg h7] <;> rw [if_neg h32] <;> rw [if_neg h33] <;> rw [if_neg h47] <;> rw [if_pos h48] <;> rw [e157] <;> (try dsimp only) <;> rfl) hw d_M_instruct_524
            · refine lv_aload_n (pc := 130) F.1 F.2.1 d_M_instruct_130 rfl (lv_at hl 7 rfl) ?_
              refine x_get (pc := 131) (v := .ref (ad 3)) F hw 0 2 (fun x h => List.mem_cons_of_mem _ (in_M x h)) rfl rfl (by decide) (List.mem_cons_of_mem _ m_525) rfl d_M_instruct_131 ?_
              refine lv_iload (pc := 134) F.1 F.2.1 d_M_instruct_134 (lv_at hl 3 rfl) ?_
              refine x_iald (pc := 136) F hw 3 0 (60 * h0 + (lo 2 (v >>> (4 &&& 31)))) rfl rfl rfl (by omega) (by decide) d_M_instruct_136 ?_
              refine lv_if_ne (pc := 137) (tgt := 144) F.1 F.2.1 d_M_instruct_137 rfl (fun h159 => ?_) (fun h159 => ?_)
              · refine lv_iconst (pc := 144) (v := 0) F.1 F.2.1 d_M_instruct_144 (by decide) ?_
                refine lv_istore (pc := 145) (lv' := [(9, .int 0), (8, .int 0), (7, .int (nI (lo 6 (v >>> (8 &&& 31))))), (6, .int (ro (60 * h0 + (lo 2 (v >>> (6 &&& 31)))))), (5, .int (nI (60 * h0 + (lo 2 (v >>> (4 &&& 31)))))), (4, .int (nI (lo 4 v))), (3, .int v), (2, .int (nI (60 * h0))), (0, .ref (ad 0)), (1, .int (nI h0))]) F.1 F.2.1 d_M_instruct_145 hl (by decide) rfl (fun ls hl => ?_)
                refine lv_iload (pc := 147) F.1 F.2.1 d_M_instruct_147 (lv_at hl 5 rfl) ?_
                refine lv_iconst (pc := 149) (v := 1) F.1 F.2.1 d_M_instruct_149 (by decide) ?_
                refine lv_icmp_ne (pc := 150) (tgt := 164) F.1 F.2.1 d_M_instruct_150 rfl (fun _ => ?_) (fun h160 => (by rw [h47] at h160; exact absurd h160 (by decide)))
                refine lv_iload (pc := 164) F.1 F.2.1 d_M_instruct_164 (lv_at hl 5 rfl) ?_
                refine lv_iconst (pc := 166) (v := 2) F.1 F.2.1 d_M_instruct_166 (by decide) ?_
                refine lv_icmp_ne (pc := 167) (tgt := 187) F.1 F.2.1 d_M_instruct_167 rfl (fun _ => ?_) (fun h161 => (by rw [h47] at h161; exact absurd h161 (by decide)))
                refine lv_iload (pc := 187) F.1 F.2.1 d_M_instruct_187 (lv_at hl 5 rfl) ?_
                refine lv_iconst (pc := 189) (v := 3) F.1 F.2.1 d_M_instruct_189 (by decide) ?_
                refine lv_icmp_ne (pc := 190) (tgt := 210) F.1 F.2.1 d_M_instruct_190 rfl (fun _ => ?_) (fun h162 => (by rw [h47] at h162; exact absurd h162 (by decide)))
                refine lv_iload (pc := 210) F.1 F.2.1 d_M_instruct_210 (lv_at hl 5 rfl) ?_
                refine lv_iconst (pc := 212) (v := 4) F.1 F.2.1 d_M_instruct_212 (by decide) ?_
                refine lv_icmp_ne (pc := 213) (tgt := 233) F.1 F.2.1 d_M_instruct_213 rfl (fun _ => ?_) (fun h163 => (by rw [h47] at h163; exact absurd h163 (by decide)))
                refine lv_iload (pc := 233) F.1 F.2.1 d_M_instruct_233 (lv_at hl 5 rfl) ?_
                refine lv_iconst (pc := 235) (v := 5) F.1 F.2.1 d_M_instruct_235 (by decide) ?_
                refine lv_icmp_ne (pc := 236) (tgt := 264) F.1 F.2.1 d_M_instruct_236 rfl (fun _ => ?_) (fun h164 => (by rw [h47] at h164; exact absurd h164 (by decide)))
                refine lv_iload (pc := 264) F.1 F.2.1 d_M_instruct_264 (lv_at hl 5 rfl) ?_
                refine lv_bipush (pc := 266) (v := 6) F.1 F.2.1 d_M_instruct_266 (by decide) ?_
                refine lv_icmp_ne (pc := 268) (tgt := 291) F.1 F.2.1 d_M_instruct_268 rfl (fun _ => ?_) (fun h165 => (by rw [h47] at h165; exact absurd h165 (by decide)))
                refine lv_iload (pc := 291) F.1 F.2.1 d_M_instruct_291 (lv_at hl 5 rfl) ?_
                refine lv_bipush (pc := 293) (v := 9) F.1 F.2.1 d_M_instruct_293 (by decide) ?_
                refine lv_icmp_ne (pc := 295) (tgt := 351) F.1 F.2.1 d_M_instruct_295 rfl (fun _ => ?_) (fun h166 => (by rw [h47] at h166; exact absurd h166 (by decide)))
                refine lv_iload (pc := 351) F.1 F.2.1 d_M_instruct_351 (lv_at hl 5 rfl) ?_
                refine lv_bipush (pc := 353) (v := 10) F.1 F.2.1 d_M_instruct_353 (by decide) ?_
                refine lv_icmp_ne (pc := 355) (tgt := 370) F.1 F.2.1 d_M_instruct_355 rfl (fun _ => ?_) (fun h167 => (by rw [h47] at h167; exact absurd h167 (by decide)))
                refine lv_iload (pc := 370) F.1 F.2.1 d_M_instruct_370 (lv_at hl 5 rfl) ?_
                refine lv_bipush (pc := 372) (v := 11) F.1 F.2.1 d_M_instruct_372 (by decide) ?_
                refine lv_icmp_ne (pc := 374) (tgt := 422) F.1 F.2.1 d_M_instruct_374 rfl (fun _ => ?_) (fun h168 => (by rw [h47] at h168; exact absurd h168 (by decide)))
                refine lv_iload (pc := 422) F.1 F.2.1 d_M_instruct_422 (lv_at hl 5 rfl) ?_
                refine lv_bipush (pc := 424) (v := 12) F.1 F.2.1 d_M_instruct_424 (by decide) ?_
                refine lv_icmp_ne (pc := 426) (tgt := 446) F.1 F.2.1 d_M_instruct_426 rfl (fun _ => ?_) (fun h169 => (by rw [h47] at h169; exact absurd h169 (by decide)))
                refine lv_iload (pc := 446) F.1 F.2.1 d_M_instruct_446 (lv_at hl 5 rfl) ?_
                refine lv_bipush (pc := 448) (v := 13) F.1 F.2.1 d_M_instruct_448 (by decide) ?_
                refine lv_icmp_ne (pc := 450) (tgt := 474) F.1 F.2.1 d_M_instruct_450 rfl (fun _ => ?_) (fun h170 => (by rw [h47] at h170; exact absurd h170 (by decide)))
                refine lv_aload_n (pc := 474) F.1 F.2.1 d_M_instruct_474 rfl (lv_at hl 8 rfl) ?_
                refine x_get (pc := 475) (v := .ref (ad 3)) F hw 0 2 (fun x h => List.mem_cons_of_mem _ (in_M x h)) rfl rfl (by decide) (List.mem_cons_of_mem _ m_525) rfl d_M_instruct_475 ?_
                refine lv_iload_n (pc := 478) F.1 F.2.1 d_M_instruct_478 rfl (lv_at hl 7 rfl) ?_
                refine lv_bipush (pc := 479) (v := 59) F.1 F.2.1 d_M_instruct_479 (by decide) ?_
                refine lv_iadd (pc := 481) F.1 F.2.1 d_M_instruct_481 ?_
                refine x_top (y := nI (60 * h0 + 59)) (x_add2 rfl rfl) ?_
                refine lv_dup2_11 (pc := 482) F.1 F.2.1 d_M_instruct_482 rfl rfl ?_
                refine x_iald (pc := 483) F hw 3 0 (60 * h0 + 59) rfl rfl rfl (by omega) (by decide) d_M_instruct_483 ?_
                refine lv_iconst (pc := 484) (v := 1) F.1 F.2.1 d_M_instruct_484 (by decide) ?_
                refine lv_iadd (pc := 485) F.1 F.2.1 d_M_instruct_485 ?_
                refine x_iast (pc := 486) (ws' := MW ad cT im me (upd ro (60 * h0 + 59) ((ro (60 * h0 + 59)) + 1)) up ho di os ob od on pg tm ts tr ki mo po sr ld st ow nu go la so se sl sp tp rd pn) F hw 3 0 (60 * h0 + 59) rfl rfl rfl (by omega) (by decide) d_M_instruct_486 rfl (fun H locs hw => ?_)
                refine lv_aload_n (pc := 487) F.1 F.2.1 d_M_instruct_487 rfl (lv_at hl 8 rfl) ?_
                refine x_get (pc := 488) (v := .ref (ad 3)) F hw 0 2 (fun x h => List.mem_cons_of_mem _ (in_M x h)) rfl rfl (by decide) (List.mem_cons_of_mem _ m_525) rfl d_M_instruct_488 ?_
                refine lv_iload_n (pc := 491) F.1 F.2.1 d_M_instruct_491 rfl (lv_at hl 7 rfl) ?_
                refine lv_iconst (pc := 492) (v := 4) F.1 F.2.1 d_M_instruct_492 (by decide) ?_
                refine lv_iadd (pc := 493) F.1 F.2.1 d_M_instruct_493 ?_
                refine x_top (y := nI (60 * h0 + 4)) (x_add2 rfl rfl) ?_
                refine lv_iload (pc := 494) F.1 F.2.1 d_M_instruct_494 (lv_at hl 0 rfl) ?_
                refine lv_if_eq (pc := 496) (tgt := 504) F.1 F.2.1 d_M_instruct_496 rfl (fun _ => ?_) (fun h => absurd h (by decide))
                refine lv_aload_n (pc := 504) F.1 F.2.1 d_M_instruct_504 rfl (lv_at hl 8 rfl) ?_
                refine x_get (pc := 505) (v := .ref (ad 3)) F hw 0 2 (fun x h => List.mem_cons_of_mem _ (in_M x h)) rfl rfl (by decide) (List.mem_cons_of_mem _ m_525) rfl d_M_instruct_505 ?_
                refine lv_iload_n (pc := 508) F.1 F.2.1 d_M_instruct_508 rfl (lv_at hl 7 rfl) ?_
                refine lv_iconst (pc := 509) (v := 4) F.1 F.2.1 d_M_instruct_509 (by decide) ?_
                refine lv_iadd (pc := 510) F.1 F.2.1 d_M_instruct_510 ?_
                refine x_top (y := nI (60 * h0 + 4)) (x_add2 rfl rfl) ?_
                refine x_iald (pc := 511) F hw 3 0 (60 * h0 + 4) rfl rfl rfl (by omega) (by decide) d_M_instruct_511 ?_
                refine lv_iconst (pc := 512) (v := 1) F.1 F.2.1 d_M_instruct_512 (by decide) ?_
                refine lv_iadd (pc := 513) F.1 F.2.1 d_M_instruct_513 ?_
                refine lv_bipush (pc := 514) (v := 63) F.1 F.2.1 d_M_instruct_514 (by decide) ?_
                refine lv_iand (pc := 516) F.1 F.2.1 d_M_instruct_516 ?_
                refine x_top (y := nI (lo 6 (((upd ro (60 * h0 + 59) ((ro (60 * h0 + 59)) + 1)) (60 * h0 + 4)) + 1))) (lo_and 6 _ _ (by decide)) ?_
                have b171 : lo 6 (((upd ro (60 * h0 + 59) ((ro (60 * h0 + 59)) + 1)) (60 * h0 + 4)) + 1) < 64 := lo_lt 6 _
                refine x_iast (pc := 517) (ws' := MW ad cT im me (upd (upd ro (60 * h0 + 59) ((ro (60 * h0 + 59)) + 1)) (60 * h0 + 4) (nI (lo 6 (((upd ro (60 * h0 + 59) ((ro (60 * h0 + 59)) + 1)) (60 * h0 + 4)) + 1)))) up ho di os ob od on pg tm ts tr ki mo po sr ld st ow nu go la so se sl sp tp rd pn) F hw 3 0 (60 * h0 + 4) rfl rfl rfl (by omega) (by decide) d_M_instruct_517 rfl (fun H locs hw => ?_)
                refine lv_aload_n (pc := 518) F.1 F.2.1 d_M_instruct_518 rfl (lv_at hl 8 rfl) ?_
                refine lv_iload_n (pc := 519) F.1 F.2.1 d_M_instruct_519 rfl (lv_at hl 7 rfl) ?_
                refine x_callv (pc := 520) (wr := []) hw [0, 1, 2, 3, 4, 5, 6, 7, 8, 9, 10, 11, 12, 13, 14, 15, 16, 17, 18, 19] [] rfl rfl (by decide) (by decide) (va_runV (As := [.int (nI (60 * h0))]) (rest := []) F (c_M_tick l D cT ad im me (upd (upd ro (60 * h0 + 59) ((ro (60 * h0 + 59)) + 1)) (60 * h0 + 4) (nI (lo 6 (((upd ro (60 * h0 + 59) ((ro (60 * h0 + 59)) + 1)) (60 * h0 + 4)) + 1)))) up ho di os ob od on pg tm ts tr ki mo po sr ld st ow nu go la so se sl sp tp rd pn (60 * h0) (by omega) _) (x_cw (C := "MovingGuestModel") 1 F (g_all y_M_tick b_M_tick 2 none (List.mem_cons_of_mem _ m_650)) rfl rfl rfl (F.2.2.2.2 _ (List.mem_cons_of_mem _ m_40)) (F.2.2.2.2 _ (List.mem_cons_of_mem _ m_648)) (F.2.2.2.2 _ (List.mem_cons_of_mem _ m_649)) (F.2.2.2.2 _ (List.mem_cons_of_mem _ m_21)) (by decide +kernel) ⟨by decide, by decide⟩) (hw.preV (q0 := 0) [0, 1, 2, 3, 4, 5, 6, 7, 8, 9, 10, 11, 12, 13, 14, 15, 16, 17, 18, 19] (by decide) rfl rfl rfl) rfl rfl hl.1 rfl (lv_room (Nat.le_of_ble_eq_true rfl)) d_M_instruct_520 ⟨by decide, by decide⟩) (fun rov173 H locs e172 hw => ?_)
                have hw : Hw D vwCl (TYS cT) A s (MW ad cT im me rov173 up ho di os ob od on pg tm ts tr ki mo po sr ld st ow nu go la so se sl sp tp rd pn) H locs := hw
                refine lv_iconst (pc := 523) (v := 1) F.1 F.2.1 d_M_instruct_523 (by decide) ?_
                refine W.widen (k := 0) (n := 0) (by decide) (by decide) ?_
                exact ret 1 (me, rov173, pg, os, ob, od, on) _ _ 524 _ rfl (by unfold F_M_instruct <;> rw [if_neg h5] <;> rw [if_neg h6] <;> rw [if_neg h7] <;> rw [if_neg h32] <;> rw [if_neg h33] <;> rw [if_pos h47] <;> rw [if_neg h159] <;> rw [e172] <;> (try dsimp only) <;> rfl) hw d_M_instruct_524
              · refine lv_iconst (pc := 140) (v := 1) F.1 F.2.1 d_M_instruct_140 (by decide) ?_
                refine lv_goto (pc := 141) (tgt := 145) F.1 F.2.1 d_M_instruct_141 rfl ?_
                refine lv_istore (pc := 145) (lv' := [(9, .int 1), (8, .int 0), (7, .int (nI (lo 6 (v >>> (8 &&& 31))))), (6, .int (ro (60 * h0 + (lo 2 (v >>> (6 &&& 31)))))), (5, .int (nI (60 * h0 + (lo 2 (v >>> (4 &&& 31)))))), (4, .int (nI (lo 4 v))), (3, .int v), (2, .int (nI (60 * h0))), (0, .ref (ad 0)), (1, .int (nI h0))]) F.1 F.2.1 d_M_instruct_145 hl (by decide) rfl (fun ls hl => ?_)
                refine lv_iload (pc := 147) F.1 F.2.1 d_M_instruct_147 (lv_at hl 5 rfl) ?_
                refine lv_iconst (pc := 149) (v := 1) F.1 F.2.1 d_M_instruct_149 (by decide) ?_
                refine lv_icmp_ne (pc := 150) (tgt := 164) F.1 F.2.1 d_M_instruct_150 rfl (fun _ => ?_) (fun h174 => (by rw [h47] at h174; exact absurd h174 (by decide)))
                refine lv_iload (pc := 164) F.1 F.2.1 d_M_instruct_164 (lv_at hl 5 rfl) ?_
                refine lv_iconst (pc := 166) (v := 2) F.1 F.2.1 d_M_instruct_166 (by decide) ?_
                refine lv_icmp_ne (pc := 167) (tgt := 187) F.1 F.2.1 d_M_instruct_167 rfl (fun _ => ?_) (fun h175 => (by rw [h47] at h175; exact absurd h175 (by decide)))
                refine lv_iload (pc := 187) F.1 F.2.1 d_M_instruct_187 (lv_at hl 5 rfl) ?_
                refine lv_iconst (pc := 189) (v := 3) F.1 F.2.1 d_M_instruct_189 (by decide) ?_
                refine lv_icmp_ne (pc := 190) (tgt := 210) F.1 F.2.1 d_M_instruct_190 rfl (fun _ => ?_) (fun h176 => (by rw [h47] at h176; exact absurd h176 (by decide)))
                refine lv_iload (pc := 210) F.1 F.2.1 d_M_instruct_210 (lv_at hl 5 rfl) ?_
                refine lv_iconst (pc := 212) (v := 4) F.1 F.2.1 d_M_instruct_212 (by decide) ?_
                refine lv_icmp_ne (pc := 213) (tgt := 233) F.1 F.2.1 d_M_instruct_213 rfl (fun _ => ?_) (fun h177 => (by rw [h47] at h177; exact absurd h177 (by decide)))
                refine lv_iload (pc := 233) F.1 F.2.1 d_M_instruct_233 (lv_at hl 5 rfl) ?_
                refine lv_iconst (pc := 235) (v := 5) F.1 F.2.1 d_M_instruct_235 (by decide) ?_
                refine lv_icmp_ne (pc := 236) (tgt := 264) F.1 F.2.1 d_M_instruct_236 rfl (fun _ => ?_) (fun h178 => (by rw [h47] at h178; exact absurd h178 (by decide)))
                refine lv_iload (pc := 264) F.1 F.2.1 d_M_instruct_264 (lv_at hl 5 rfl) ?_
                refine lv_bipush (pc := 266) (v := 6) F.1 F.2.1 d_M_instruct_266 (by decide) ?_
                refine lv_icmp_ne (pc := 268) (tgt := 291) F.1 F.2.1 d_M_instruct_268 rfl (fun _ => ?_) (fun h179 => (by rw [h47] at h179; exact absurd h179 (by decide)))
                refine lv_iload (pc := 291) F.1 F.2.1 d_M_instruct_291 (lv_at hl 5 rfl) ?_
                refine lv_bipush (pc := 293) (v := 9) F.1 F.2.1 d_M_instruct_293 (by decide) ?_
                refine lv_icmp_ne (pc := 295) (tgt := 351) F.1 F.2.1 d_M_instruct_295 rfl (fun _ => ?_) (fun h180 => (by rw [h47] at h180; exact absurd h180 (by decide)))
                refine lv_iload (pc := 351) F.1 F.2.1 d_M_instruct_351 (lv_at hl 5 rfl) ?_
                refine lv_bipush (pc := 353) (v := 10) F.1 F.2.1 d_M_instruct_353 (by decide) ?_
                refine lv_icmp_ne (pc := 355) (tgt := 370) F.1 F.2.1 d_M_instruct_355 rfl (fun _ => ?_) (fun h181 => (by rw [h47] at h181; exact absurd h181 (by decide)))
                refine lv_iload (pc := 370) F.1 F.2.1 d_M_instruct_370 (lv_at hl 5 rfl) ?_
                refine lv_bipush (pc := 372) (v := 11) F.1 F.2.1 d_M_instruct_372 (by decide) ?_
                refine lv_icmp_ne (pc := 374) (tgt := 422) F.1 F.2.1 d_M_instruct_374 rfl (fun _ => ?_) (fun h182 => (by rw [h47] at h182; exact absurd h182 (by decide)))
                refine lv_iload (pc := 422) F.1 F.2.1 d_M_instruct_422 (lv_at hl 5 rfl) ?_
                refine lv_bipush (pc := 424) (v := 12) F.1 F.2.1 d_M_instruct_424 (by decide) ?_
                refine lv_icmp_ne (pc := 426) (tgt := 446) F.1 F.2.1 d_M_instruct_426 rfl (fun _ => ?_) (fun h183 => (by rw [h47] at h183; exact absurd h183 (by decide)))
                refine lv_iload (pc := 446) F.1 F.2.1 d_M_instruct_446 (lv_at hl 5 rfl) ?_
                refine lv_bipush (pc := 448) (v := 13) F.1 F.2.1 d_M_instruct_448 (by decide) ?_
                refine lv_icmp_ne (pc := 450) (tgt := 474) F.1 F.2.1 d_M_instruct_450 rfl (fun _ => ?_) (fun h184 => (by rw [h47] at h184; exact absurd h184 (by decide)))
                refine lv_aload_n (pc := 474) F.1 F.2.1 d_M_instruct_474 rfl (lv_at hl 8 rfl) ?_
                refine x_get (pc := 475) (v := .ref (ad 3)) F hw 0 2 (fun x h => List.mem_cons_of_mem _ (in_M x h)) rfl rfl (by decide) (List.mem_cons_of_mem _ m_525) rfl d_M_instruct_475 ?_
                refine lv_iload_n (pc := 478) F.1 F.2.1 d_M_instruct_478 rfl (lv_at hl 7 rfl) ?_
                refine lv_bipush (pc := 479) (v := 59) F.1 F.2.1 d_M_instruct_479 (by decide) ?_
                refine lv_iadd (pc := 481) F.1 F.2.1 d_M_instruct_481 ?_
                refine x_top (y := nI (60 * h0 + 59)) (x_add2 rfl rfl) ?_
                refine lv_dup2_11 (pc := 482) F.1 F.2.1 d_M_instruct_482 rfl rfl ?_
                refine x_iald (pc := 483) F hw 3 0 (60 * h0 + 59) rfl rfl rfl (by omega) (by decide) d_M_instruct_483 ?_
                refine lv_iconst (pc := 484) (v := 1) F.1 F.2.1 d_M_instruct_484 (by decide) ?_
                refine lv_iadd (pc := 485) F.1 F.2.1 d_M_instruct_485 ?_
                refine x_iast (pc := 486) (ws' := MW ad cT im me (upd ro (60 * h0 + 59) ((ro (60 * h0 + 59)) + 1)) up ho di os ob od on pg tm ts tr ki mo po sr ld st ow nu go la so se sl sp tp rd pn) F hw 3 0 (60 * h0 + 59) rfl rfl rfl (by omega) (by decide) d_M_instruct_486 rfl (fun H locs hw => ?_)
                refine lv_aload_n (pc := 487) F.1 F.2.1 d_M_instruct_487 rfl (lv_at hl 8 rfl) ?_
                refine x_get (pc := 488) (v := .ref (ad 3)) F hw 0 2 (fun x h => List.mem_cons_of_mem _ (in_M x h)) rfl rfl (by decide) (List.mem_cons_of_mem _ m_525) rfl d_M_instruct_488 ?_
                refine lv_iload_n (pc := 491) F.1 F.2.1 d_M_instruct_491 rfl (lv_at hl 7 rfl) ?_
                refine lv_iconst (pc := 492) (v := 4) F.1 F.2.1 d_M_instruct_492 (by decide) ?_
                refine lv_iadd (pc := 493) F.1 F.2.1 d_M_instruct_493 ?_
                refine x_top (y := nI (60 * h0 + 4)) (x_add2 rfl rfl) ?_
                refine lv_iload (pc := 494) F.1 F.2.1 d_M_instruct_494 (lv_at hl 0 rfl) ?_
                refine lv_if_eq (pc := 496) (tgt := 504) F.1 F.2.1 d_M_instruct_496 rfl (fun h => absurd h (by decide)) (fun _ => ?_)
                refine lv_iload (pc := 499) F.1 F.2.1 d_M_instruct_499 (lv_at hl 2 rfl) ?_
                refine lv_goto (pc := 501) (tgt := 517) F.1 F.2.1 d_M_instruct_501 rfl ?_
                refine x_iast (pc := 517) (ws' := MW ad cT im me (upd (upd ro (60 * h0 + 59) ((ro (60 * h0 + 59)) + 1)) (60 * h0 + 4) (nI (lo 6 (v >>> (8 &&& 31))))) up ho di os ob od on pg tm ts tr ki mo po sr ld st ow nu go la so se sl sp tp rd pn) F hw 3 0 (60 * h0 + 4) rfl rfl rfl (by omega) (by decide) d_M_instruct_517 rfl (fun H locs hw => ?_)
                refine lv_aload_n (pc := 518) F.1 F.2.1 d_M_instruct_518 rfl (lv_at hl 8 rfl) ?_
                refine lv_iload_n (pc := 519) F.1 F.2.1 d_M_instruct_519 rfl (lv_at hl 7 rfl) ?_
                refine x_callv (pc := 520) (wr := []) hw [0, 1, 2, 3, 4, 5, 6, 7, 8, 9, 10, 11, 12, 13, 14, 15, 16, 17, 18, 19] [] rfl rfl (by decide) (by decide) (va_runV (As := [.int (nI (60 * h0))]) (rest := []) F (c_M_tick l D cT ad im me (upd (upd ro (60 * h0 + 59) ((ro (60 * h0 + 59)) + 1)) (60 * h0 + 4) (nI (lo 6 (v >>> (8 &&& 31))))) up ho di os ob od on pg tm ts tr ki mo po sr ld st ow nu go la so se sl sp tp rd pn (60 * h0) (by omega) _) (x_cw (C := "MovingGuestModel") 1 F (g_all y_M_tick b_M_tick 2 none (List.mem_cons_of_mem _ m_650)) rfl rfl rfl (F.2.2.2.2 _ (List.mem_cons_of_mem _ m_40)) (F.2.2.2.2 _ (List.mem_cons_of_mem _ m_648)) (F.2.2.2.2 _ (List.mem_cons_of_mem _ m_649)) (F.2.2.2.2 _ (List.mem_cons_of_mem _ m_21)) (by decide +kernel) ⟨by decide, by decide⟩) (hw.preV (q0 := 0) [0, 1, 2, 3, 4, 5, 6, 7, 8, 9, 10, 11, 12, 13, 14, 15, 16, 17, 18, 19] (by decide) rfl rfl rfl) rfl rfl hl.1 rfl (lv_room (Nat.le_of_ble_eq_true rfl)) d_M_instruct_520 ⟨by decide, by decide⟩) (fun rov186 H locs e185 hw => ?_)
                have hw : Hw D vwCl (TYS cT) A s (MW ad cT im me rov186 up ho di os ob od on pg tm ts tr ki mo po sr ld st ow nu go la so se sl sp tp rd pn) H locs := hw
                refine lv_iconst (pc := 523) (v := 1) F.1 F.2.1 d_M_instruct_523 (by decide) ?_
                refine W.widen (k := 0) (n := 0) (by decide) (by decide) ?_
                exact ret 1 (me, rov186, pg, os, ob, od, on) _ _ 524 _ rfl (by unfold F_M_instruct <;> rw [if_neg h5] <;> rw [if_neg h6] <;> rw [if_neg h7] <;> rw [if_neg h32] <;> rw [if_neg h33] <;> rw [if_pos h47] <;> rw [if_pos h159] <;> rw [e185] <;> (try dsimp only) <;> rfl) hw d_M_instruct_524
        · refine lv_aload_n (pc := 89) F.1 F.2.1 d_M_instruct_89 rfl (lv_at hl 6 rfl) ?_
          refine x_get (pc := 90) (v := .ref (ad 3)) F hw 0 2 (fun x h => List.mem_cons_of_mem _ (in_M x h)) rfl rfl (by decide) (List.mem_cons_of_mem _ m_525) rfl d_M_instruct_90 ?_
          refine lv_iload_n (pc := 93) F.1 F.2.1 d_M_instruct_93 rfl (lv_at hl 5 rfl) ?_
          refine lv_bipush (pc := 94) (v := 56) F.1 F.2.1 d_M_instruct_94 (by decide) ?_
          refine lv_iadd (pc := 96) F.1 F.2.1 d_M_instruct_96 ?_
          refine x_top (y := nI (60 * h0 + 56)) (x_add2 rfl rfl) ?_
          refine x_iald (pc := 97) F hw 3 0 (60 * h0 + 56) rfl rfl rfl (by omega) (by decide) d_M_instruct_97 ?_
          refine lv_iconst (pc := 98) (v := 1) F.1 F.2.1 d_M_instruct_98 (by decide) ?_
          refine lv_icmp_ne (pc := 99) (tgt := 106) F.1 F.2.1 d_M_instruct_99 rfl (fun h187 => ?_) (fun h187 => ?_)
          · refine lv_iconst (pc := 106) (v := 0) F.1 F.2.1 d_M_instruct_106 (by decide) ?_
            refine lv_istore (pc := 107) (lv' := [(8, .int 0), (7, .int (nI (lo 6 (v >>> (8 &&& 31))))), (6, .int (ro (60 * h0 + (lo 2 (v >>> (6 &&& 31)))))), (5, .int (nI (60 * h0 + (lo 2 (v >>> (4 &&& 31)))))), (4, .int (nI (lo 4 v))), (3, .int v), (2, .int (nI (60 * h0))), (0, .ref (ad 0)), (1, .int (nI h0))]) F.1 F.2.1 d_M_instruct_107 hl (by decide) rfl (fun ls hl => ?_)
            refine lv_iload (pc := 109) F.1 F.2.1 d_M_instruct_109 (lv_at hl 0 rfl) ?_
            refine lv_if_eq (pc := 111) (tgt := 116) F.1 F.2.1 d_M_instruct_111 rfl (fun _ => ?_) (fun h => absurd h (by decide))
            refine lv_iload (pc := 116) F.1 F.2.1 d_M_instruct_116 (lv_at hl 4 rfl) ?_
            refine lv_bipush (pc := 118) (v := 7) F.1 F.2.1 d_M_instruct_118 (by decide) ?_
            refine lv_icmp_eq (pc := 120) (tgt := 140) F.1 F.2.1 d_M_instruct_120 rfl (fun h188 => (by rw [h32] at h188; exact absurd h188 (by decide))) (fun _ => ?_)
            refine lv_iload (pc := 123) F.1 F.2.1 d_M_instruct_123 (lv_at hl 4 rfl) ?_
            refine lv_bipush (pc := 125) (v := 8) F.1 F.2.1 d_M_instruct_125 (by decide) ?_
            refine lv_icmp_ne (pc := 127) (tgt := 144) F.1 F.2.1 d_M_instruct_127 rfl (fun _ => ?_) (fun h189 => (by rw [h32] at h189; exact absurd h189 (by decide)))
            refine lv_iconst (pc := 144) (v := 0) F.1 F.2.1 d_M_instruct_144 (by decide) ?_
            refine lv_istore (pc := 145) (lv' := [(9, .int 0), (8, .int 0), (7, .int (nI (lo 6 (v >>> (8 &&& 31))))), (6, .int (ro (60 * h0 + (lo 2 (v >>> (6 &&& 31)))))), (5, .int (nI (60 * h0 + (lo 2 (v >>> (4 &&& 31)))))), (4, .int (nI (lo 4 v))), (3, .int v), (2, .int (nI (60 * h0))), (0, .ref (ad 0)), (1, .int (nI h0))]) F.1 F.2.1 d_M_instruct_145 hl (by decide) rfl (fun ls hl => ?_)
            refine lv_iload (pc := 147) F.1 F.2.1 d_M_instruct_147 (lv_at hl 5 rfl) ?_
            refine lv_iconst (pc := 149) (v := 1) F.1 F.2.1 d_M_instruct_149 (by decide) ?_
            refine lv_icmp_ne (pc := 150) (tgt := 164) F.1 F.2.1 d_M_instruct_150 rfl (fun _ => ?_) (fun h190 => (by rw [h32] at h190; exact absurd h190 (by decide)))
            refine lv_iload (pc := 164) F.1 F.2.1 d_M_instruct_164 (lv_at hl 5 rfl) ?_
            refine lv_iconst (pc := 166) (v := 2) F.1 F.2.1 d_M_instruct_166 (by decide) ?_
            refine lv_icmp_ne (pc := 167) (tgt := 187) F.1 F.2.1 d_M_instruct_167 rfl (fun _ => ?_) (fun h191 => (by rw [h32] at h191; exact absurd h191 (by decide)))
            refine lv_iload (pc := 187) F.1 F.2.1 d_M_instruct_187 (lv_at hl 5 rfl) ?_
            refine lv_iconst (pc := 189) (v := 3) F.1 F.2.1 d_M_instruct_189 (by decide) ?_
            refine lv_icmp_ne (pc := 190) (tgt := 210) F.1 F.2.1 d_M_instruct_190 rfl (fun _ => ?_) (fun h192 => (by rw [h32] at h192; exact absurd h192 (by decide)))
            refine lv_iload (pc := 210) F.1 F.2.1 d_M_instruct_210 (lv_at hl 5 rfl) ?_
            refine lv_iconst (pc := 212) (v := 4) F.1 F.2.1 d_M_instruct_212 (by decide) ?_
            refine lv_icmp_ne (pc := 213) (tgt := 233) F.1 F.2.1 d_M_instruct_213 rfl (fun _ => ?_) (fun h193 => (by rw [h32] at h193; exact absurd h193 (by decide)))
            refine lv_iload (pc := 233) F.1 F.2.1 d_M_instruct_233 (lv_at hl 5 rfl) ?_
            refine lv_iconst (pc := 235) (v := 5) F.1 F.2.1 d_M_instruct_235 (by decide) ?_
            refine lv_icmp_ne (pc := 236) (tgt := 264) F.1 F.2.1 d_M_instruct_236 rfl (fun _ => ?_) (fun h194 => (by rw [h32] at h194; exact absurd h194 (by decide)))
            refine lv_iload (pc := 264) F.1 F.2.1 d_M_instruct_264 (lv_at hl 5 rfl) ?_
            refine lv_bipush (pc := 266) (v := 6) F.1 F.2.1 d_M_instruct_266 (by decide) ?_
            refine lv_icmp_ne (pc := 268) (tgt := 291) F.1 F.2.1 d_M_instruct_268 rfl (fun _ => ?_) (fun h195 => (by rw [h32] at h195; exact absurd h195 (by decide)))
            refine lv_iload (pc := 291) F.1 F.2.1 d_M_instruct_291 (lv_at hl 5 rfl) ?_
            refine lv_bipush (pc := 293) (v := 9) F.1 F.2.1 d_M_instruct_293 (by decide) ?_
            refine lv_icmp_ne (pc := 295) (tgt := 351) F.1 F.2.1 d_M_instruct_295 rfl (fun _ => ?_) (fun h196 => (by rw [h32] at h196; exact absurd h196 (by decide)))
            refine lv_iload (pc := 351) F.1 F.2.1 d_M_instruct_351 (lv_at hl 5 rfl) ?_
            refine lv_bipush (pc := 353) (v := 10) F.1 F.2.1 d_M_instruct_353 (by decide) ?_
            refine lv_icmp_ne (pc := 355) (tgt := 370) F.1 F.2.1 d_M_instruct_355 rfl (fun _ => ?_) (fun h197 => (by rw [h32] at h197; exact absurd h197 (by decide)))
            refine lv_iload (pc := 370) F.1 F.2.1 d_M_instruct_370 (lv_at hl 5 rfl) ?_
            refine lv_bipush (pc := 372) (v := 11) F.1 F.2.1 d_M_instruct_372 (by decide) ?_
            refine lv_icmp_ne (pc := 374) (tgt := 422) F.1 F.2.1 d_M_instruct_374 rfl (fun _ => ?_) (fun h198 => (by rw [h32] at h198; exact absurd h198 (by decide)))
            refine lv_iload (pc := 422) F.1 F.2.1 d_M_instruct_422 (lv_at hl 5 rfl) ?_
            refine lv_bipush (pc := 424) (v := 12) F.1 F.2.1 d_M_instruct_424 (by decide) ?_
            refine lv_icmp_ne (pc := 426) (tgt := 446) F.1 F.2.1 d_M_instruct_426 rfl (fun h199 => (by rw [h32] at h199; exact absurd h199 (by decide))) (fun _ => ?_)
            refine lv_aload_n (pc := 429) F.1 F.2.1 d_M_instruct_429 rfl (lv_at hl 8 rfl) ?_
            refine x_get (pc := 430) (v := .ref (ad 3)) F hw 0 2 (fun x h => List.mem_cons_of_mem _ (in_M x h)) rfl rfl (by decide) (List.mem_cons_of_mem _ m_525) rfl d_M_instruct_430 ?_
            refine lv_iload (pc := 433) F.1 F.2.1 d_M_instruct_433 (lv_at hl 4 rfl) ?_
            refine lv_aload_n (pc := 435) F.1 F.2.1 d_M_instruct_435 rfl (lv_at hl 8 rfl) ?_
            refine x_get (pc := 436) (v := .ref (ad 6)) F hw 0 6 (fun x h => List.mem_cons_of_mem _ (in_M x h)) rfl rfl (by decide) (List.mem_cons_of_mem _ m_529) rfl d_M_instruct_436 ?_
            refine lv_iload (pc := 439) F.1 F.2.1 d_M_instruct_439 (lv_at hl 2 rfl) ?_
            refine lv_bipush (pc := 441) (v := 7) F.1 F.2.1 d_M_instruct_441 (by decide) ?_
            refine lv_iand (pc := 443) F.1 F.2.1 d_M_instruct_443 ?_
            refine x_top (y := nI (lo 3 (nI (lo 6 (v >>> (8 &&& 31)))))) (lo_and 3 _ _ (by decide)) ?_
            have b200 : lo 3 (nI (lo 6 (v >>> (8 &&& 31)))) < 8 := lo_lt 3 _
            refine x_iald (pc := 444) F hw 6 0 (lo 3 (nI (lo 6 (v >>> (8 &&& 31))))) rfl rfl rfl (by omega) (by decide) d_M_instruct_444 ?_
            refine x_iast (pc := 445) (ws' := MW ad cT im me (upd ro (60 * h0 + (lo 2 (v >>> (4 &&& 31)))) (di (lo 3 (nI (lo 6 (v >>> (8 &&& 31))))))) up ho di os ob od on pg tm ts tr ki mo po sr ld st ow nu go la so se sl sp tp rd pn) F hw 3 0 (60 * h0 + (lo 2 (v >>> (4 &&& 31)))) rfl rfl rfl (by omega) (by decide) d_M_instruct_445 rfl (fun H locs hw => ?_)
            refine lv_iload (pc := 446) F.1 F.2.1 d_M_instruct_446 (lv_at hl 5 rfl) ?_
            refine lv_bipush (pc := 448) (v := 13) F.1 F.2.1 d_M_instruct_448 (by decide) ?_
            refine lv_icmp_ne (pc := 450) (tgt := 474) F.1 F.2.1 d_M_instruct_450 rfl (fun _ => ?_) (fun h201 => (by rw [h32] at h201; exact absurd h201 (by decide)))
            refine lv_aload_n (pc := 474) F.1 F.2.1 d_M_instruct_474 rfl (lv_at hl 8 rfl) ?_
            refine x_get (pc := 475) (v := .ref (ad 3)) F hw 0 2 (fun x h => List.mem_cons_of_mem _ (in_M x h)) rfl rfl (by decide) (List.mem_cons_of_mem _ m_525) rfl d_M_instruct_475 ?_
            refine lv_iload_n (pc := 478) F.1 F.2.1 d_M_instruct_478 rfl (lv_at hl 7 rfl) ?_
            refine lv_bipush (pc := 479) (v := 59) F.1 F.2.1 d_M_instruct_479 (by decide) ?_
            refine lv_iadd (pc := 481) F.1 F.2.1 d_M_instruct_481 ?_
            refine x_top (y := nI (60 * h0 + 59)) (x_add2 rfl rfl) ?_
            refine lv_dup2_11 (pc := 482) F.1 F.2.1 d_M_instruct_482 rfl rfl ?_
            refine x_iald (pc := 483) F hw 3 0 (60 * h0 + 59) rfl rfl rfl (by omega) (by decide) d_M_instruct_483 ?_
            refine lv_iconst (pc := 484) (v := 1) F.1 F.2.1 d_M_instruct_484 (by decide) ?_
            refine lv_iadd (pc := 485) F.1 F.2.1 d_M_instruct_485 ?_
            refine x_iast (pc := 486) (ws' := MW ad cT im me (upd (upd ro (60 * h0 + (lo 2 (v >>> (4 &&& 31)))) (di (lo 3 (nI (lo 6 (v >>> (8 &&& 31))))))) (60 * h0 + 59) (((upd ro (60 * h0 + (lo 2 (v >>> (4 &&& 31)))) (di (lo 3 (nI (lo 6 (v >>> (8 &&& 31))))))) (60 * h0 + 59)) + 1)) up ho di os ob od on pg tm ts tr ki mo po sr ld st ow nu go la so se sl sp tp rd pn) F hw 3 0 (60 * h0 + 59) rfl rfl rfl (by omega) (by decide) d_M_instruct_486 rfl (fun H locs hw => ?_)
            refine lv_aload_n (pc := 487) F.1 F.2.1 d_M_instruct_487 rfl (lv_at hl 8 rfl) ?_
            refine x_get (pc := 488) (v := .ref (ad 3)) F hw 0 2 (fun x h => List.mem_cons_of_mem _ (in_M x h)) rfl rfl (by decide) (List.mem_cons_of_mem _ m_525) rfl d_M_instruct_488 ?_
            refine lv_iload_n (pc := 491) F.1 F.2.1 d_M_instruct_491 rfl (lv_at hl 7 rfl) ?_
            refine lv_iconst (pc := 492) (v := 4) F.1 F.2.1 d_M_instruct_492 (by decide) ?_
            refine lv_iadd (pc := 493) F.1 F.2.1 d_M_instruct_493 ?_
            refine x_top (y := nI (60 * h0 + 4)) (x_add2 rfl rfl) ?_
            refine lv_iload (pc := 494) F.1 F.2.1 d_M_instruct_494 (lv_at hl 0 rfl) ?_
            refine lv_if_eq (pc := 496) (tgt := 504) F.1 F.2.1 d_M_instruct_496 rfl (fun _ => ?_) (fun h => absurd h (by decide))
            refine lv_aload_n (pc := 504) F.1 F.2.1 d_M_instruct_504 rfl (lv_at hl 8 rfl) ?_
            refine x_get (pc := 505) (v := .ref (ad 3)) F hw 0 2 (fun x h => List.mem_cons_of_mem _ (in_M x h)) rfl rfl (by decide) (List.mem_cons_of_mem _ m_525) rfl d_M_instruct_505 ?_
            refine lv_iload_n (pc := 508) F.1 F.2.1 d_M_instruct_508 rfl (lv_at hl 7 rfl) ?_
            refine lv_iconst (pc := 509) (v := 4) F.1 F.2.1 d_M_instruct_509 (by decide) ?_
            refine lv_iadd (pc := 510) F.1 F.2.1 d_M_instruct_510 ?_
            refine x_top (y := nI (60 * h0 + 4)) (x_add2 rfl rfl) ?_
            refine x_iald (pc := 511) F hw 3 0 (60 * h0 + 4) rfl rfl rfl (by omega) (by decide) d_M_instruct_511 ?_
            refine lv_iconst (pc := 512) (v := 1) F.1 F.2.1 d_M_instruct_512 (by decide) ?_
            refine lv_iadd (pc := 513) F.1 F.2.1 d_M_instruct_513 ?_
            refine lv_bipush (pc := 514) (v := 63) F.1 F.2.1 d_M_instruct_514 (by decide) ?_
            refine lv_iand (pc := 516) F.1 F.2.1 d_M_instruct_516 ?_
            refine x_top (y := nI (lo 6 (((upd (upd ro (60 * h0 + (lo 2 (v >>> (4 &&& 31)))) (di (lo 3 (nI (lo 6 (v >>> (8 &&& 31))))))) (60 * h0 + 59) (((upd ro (60 * h0 + (lo 2 (v >>> (4 &&& 31)))) (di (lo 3 (nI (lo 6 (v >>> (8 &&& 31))))))) (60 * h0 + 59)) + 1)) (60 * h0 + 4)) + 1))) (lo_and 6 _ _ (by decide)) ?_
            have b202 : lo 6 (((upd (upd ro (60 * h0 + (lo 2 (v >>> (4 &&& 31)))) (di (lo 3 (nI (lo 6 (v >>> (8 &&& 31))))))) (60 * h0 + 59) (((upd ro (60 * h0 + (lo 2 (v >>> (4 &&& 31)))) (di (lo 3 (nI (lo 6 (v >>> (8 &&& 31))))))) (60 * h0 + 59)) + 1)) (60 * h0 + 4)) + 1) < 64 := lo_lt 6 _
            refine x_iast (pc := 517) (ws' := MW ad cT im me (upd (upd (upd ro (60 * h0 + (lo 2 (v >>> (4 &&& 31)))) (di (lo 3 (nI (lo 6 (v >>> (8 &&& 31))))))) (60 * h0 + 59) (((upd ro (60 * h0 + (lo 2 (v >>> (4 &&& 31)))) (di (lo 3 (nI (lo 6 (v >>> (8 &&& 31))))))) (60 * h0 + 59)) + 1)) (60 * h0 + 4) (nI (lo 6 (((upd (upd ro (60 * h0 + (lo 2 (v >>> (4 &&& 31)))) (di (lo 3 (nI (lo 6 (v >>> (8 &&& 31))))))) (60 * h0 + 59) (((upd ro (60 * h0 + (lo 2 (v >>> (4 &&& 31)))) (di (lo 3 (nI (lo 6 (v >>> (8 &&& 31))))))) (60 * h0 + 59)) + 1)) (60 * h0 + 4)) + 1)))) up ho di os ob od on pg tm ts tr ki mo po sr ld st ow nu go la so se sl sp tp rd pn) F hw 3 0 (60 * h0 + 4) rfl rfl rfl (by omega) (by decide) d_M_instruct_517 rfl (fun H locs hw => ?_)
            refine lv_aload_n (pc := 518) F.1 F.2.1 d_M_instruct_518 rfl (lv_at hl 8 rfl) ?_
            refine lv_iload_n (pc := 519) F.1 F.2.1 d_M_instruct_519 rfl (lv_at hl 7 rfl) ?_
            refine x_callv (pc := 520) (wr := []) hw [0, 1, 2, 3, 4, 5, 6, 7, 8, 9, 10, 11, 12, 13, 14, 15, 16, 17, 18, 19] [] rfl rfl (by decide) (by decide) (va_runV (As := [.int (nI (60 * h0))]) (rest := []) F (c_M_tick l D cT ad im me (upd (upd (upd ro (60 * h0 + (lo 2 (v >>> (4 &&& 31)))) (di (lo 3 (nI (lo 6 (v >>> (8 &&& 31))))))) (60 * h0 + 59) (((upd ro (60 * h0 + (lo 2 (v >>> (4 &&& 31)))) (di (lo 3 (nI (lo 6 (v >>> (8 &&& 31))))))) (60 * h0 + 59)) + 1)) (60 * h0 + 4) (nI (lo 6 (((upd (upd ro (60 * h0 + (lo 2 (v >>> (4 &&& 31)))) (di (lo 3 (nI (lo 6 (v >>> (8 &&& 31))))))) (60 * h0 + 59) (((upd ro (60 * h0 + (lo 2 (v >>> (4 &&& 31)))) (di (lo 3 (nI (lo 6 (v >>> (8 &&& 31))))))) (60 * h0 + 59)) + 1)) (60 * h0 + 4)) + 1)))) up ho di os ob od on pg tm ts tr ki mo po sr ld st ow nu go la so se sl sp tp rd pn (60 * h0) (by omega) _) (x_cw (C := "MovingGuestModel") 1 F (g_all y_M_tick b_M_tick 2 none (List.mem_cons_of_mem _ m_650)) rfl rfl rfl (F.2.2.2.2 _ (List.mem_cons_of_mem _ m_40)) (F.2.2.2.2 _ (List.mem_cons_of_mem _ m_648)) (F.2.2.2.2 _ (List.mem_cons_of_mem _ m_649)) (F.2.2.2.2 _ (List.mem_cons_of_mem _ m_21)) (by decide +kernel) ⟨by decide, by decide⟩) (hw.preV (q0 := 0) [0, 1, 2, 3, 4, 5, 6, 7, 8, 9, 10, 11, 12, 13, 14, 15, 16, 17, 18, 19] (by decide) rfl rfl rfl) rfl rfl hl.1 rfl (lv_room (Nat.le_of_ble_eq_true rfl)) d_M_instruct_520 ⟨by decide, by decide⟩) (fun rov204 H locs e203 hw => ?_)
            have hw : Hw D vwCl (TYS cT) A s (MW ad cT im me rov204 up ho di os ob od on pg tm ts tr ki mo po sr ld st ow nu go la so se sl sp tp rd pn) H locs := hw
            refine lv_iconst (pc := 523) (v := 1) F.1 F.2.1 d_M_instruct_523 (by decide) ?_
            refine W.widen (k := 0) (n := 0) (by decide) (by decide) ?_
            exact ret 1 (me, rov204, pg, os, ob, od, on) _ _ 524 _ rfl (by unfold F_M_instruct <;> rw [if_neg h5] <;> rw [if_neg h6] <;> rw [if_neg h7] <;> rw [if_pos h32] <;> rw [if_neg h187] <;> rw [e203] <;> (try dsimp only) <;> rfl) hw d_M_instruct_524
          · refine lv_iconst (pc := 102) (v := 1) F.1 F.2.1 d_M_instruct_102 (by decide) ?_
            refine lv_goto (pc := 103) (tgt := 107) F.1 F.2.1 d_M_instruct_103 rfl ?_
            refine lv_istore (pc := 107) (lv' := [(8, .int 1), (7, .int (nI (lo 6 (v >>> (8 &&& 31))))), (6, .int (ro (60 * h0 + (lo 2 (v >>> (6 &&& 31)))))), (5, .int (nI (60 * h0 + (lo 2 (v >>> (4 &&& 31)))))), (4, .int (nI (lo 4 v))), (3, .int v), (2, .int (nI (60 * h0))), (0, .ref (ad 0)), (1, .int (nI h0))]) F.1 F.2.1 d_M_instruct_107 hl (by decide) rfl (fun ls hl => ?_)
            refine lv_iload (pc := 109) F.1 F.2.1 d_M_instruct_109 (lv_at hl 0 rfl) ?_
            refine lv_if_eq (pc := 111) (tgt := 116) F.1 F.2.1 d_M_instruct_111 rfl (fun h => absurd h (by decide)) (fun _ => ?_)
            refine lv_iconst (pc := 114) (v := 0) F.1 F.2.1 d_M_instruct_114 (by decide) ?_
            refine W.widen (k := 0) (n := 0) (by decide) (by decide) ?_
            exact ret 0 (me, ro, pg, os, ob, od, on) _ _ 115 _ rfl (by unfold F_M_instruct <;> rw [if_neg h5] <;> rw [if_neg h6] <;> rw [if_neg h7] <;> rw [if_pos h32] <;> rw [if_pos h187] <;> rfl) hw d_M_instruct_115
