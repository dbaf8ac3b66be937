/-- the reference's cells -/
def MW (ad : Nat → Nat) (cT : Nat → ClassId) (im : Nat → Int32) (me : Nat → Int32) (ro : Nat → Int32) (up : Nat → Bool) (ho : Nat → Bool) (di : Nat → Int32) (os : Nat → Bool) (ob : Nat → Int32) (od : Nat → Int32) (on : Nat → Int32) (pg : Nat → Int32) (tm : Nat → Int32) (ts : Nat → Int32) (tr : Nat → Int32) (ki : Nat → Int32) (mo : Nat → Int32) (po : Nat → Int32) (sr : Nat → Int32) (ld : Nat → Int32) (st : Bool) (ow : Int32) (nu : Int32) (go : Bool) (la : Int32) (so : Int32) (se : Int32) (sl : Int32) (sp : Int32) (tp : Bool) (rd : Bool) (pn : Int32) : va_W := [(ad 0, .inr (6, [.ref (ad 1), .ref (ad 2), .ref (ad 3), .ref (ad 4), .ref (ad 5), .int (bI st), .ref (ad 6), .int ow, .int nu, .ref (ad 7), .ref (ad 8), .ref (ad 9), .ref (ad 10), .int (bI go), .int la, .int so, .ref (ad 11), .int se, .int sl, .int sp, .int (bI tp), .int (bI rd), .ref (ad 12), .ref (ad 13), .ref (ad 14), .int pn, .ref (ad 15), .ref (ad 16), .ref (ad 17), .ref (ad 18), .ref (ad 19)])), (ad 1, .inl (cT 0, 64, .inl im)), (ad 2, .inl (cT 0, 128, .inl me)), (ad 3, .inl (cT 0, 120, .inl ro)), (ad 4, .inl (cT 1, 2, .inl (fun j => bI (up j)))), (ad 5, .inl (cT 1, 2, .inl (fun j => bI (ho j)))), (ad 6, .inl (cT 0, 8, .inl di)), (ad 7, .inl (cT 1, 2, .inl (fun j => bI (os j)))), (ad 8, .inl (cT 0, 2, .inl ob)), (ad 9, .inl (cT 0, 2, .inl od)), (ad 10, .inl (cT 0, 2, .inl on)), (ad 11, .inl (cT 0, 8, .inl pg)), (ad 12, .inl (cT 0, 64, .inl tm)), (ad 13, .inl (cT 0, 8, .inl ts)), (ad 14, .inl (cT 0, 60, .inl tr)), (ad 15, .inl (cT 0, 9, .inl ki)), (ad 16, .inl (cT 0, 9, .inl mo)), (ad 17, .inl (cT 0, 9, .inl po)), (ad 18, .inl (cT 0, 9, .inl sr)), (ad 19, .inl (cT 0, 540, .inl ld))]
def F_M_isHost (h : Int32) : Int32 × Unit :=
  if h = 0 then
    (1, ())
  else
    if h = 1 then
      (1, ())
    else
      (0, ())
set_option maxHeartbeats 4000000 in
set_option maxRecDepth 100000 in
theorem c_M_isHost (l : Launch) (D : va_G) (cT : Nat → ClassId) (h : Int32)  : Cti l y_M_isHost ws_M_isHost { frames := 0, cells := 0, slots := 0, locals := 0 } D vwCl (TYS cT) [.int h] [] (fun (rr : Int32) (uu : Unit) => F_M_isHost h = (rr, uu)) (fun (u : Unit) => []) 0 0 := by
  refine x_inz (cc := b_M_isHost) (maxL := 1) (by decide) rfl (Nat.le_of_ble_eq_true rfl) ?_
  intro p e s m args below meth c A ls Q F hl hw ret
  have hl : lv_has ls 1 [(0, .int h)] := hl
  refine lv_iload_n (pc := 0) F.1 F.2.1 d_M_isHost_0 rfl (lv_at hl 0 rfl) ?_
  refine lv_if_eq (pc := 1) (tgt := 9) F.1 F.2.1 d_M_isHost_1 rfl (fun h1 => ?_) (fun h1 => ?_)
  · refine lv_iconst (pc := 9) (v := 1) F.1 F.2.1 d_M_isHost_9 (by decide) ?_
    refine lv_goto (pc := 10) (tgt := 14) F.1 F.2.1 d_M_isHost_10 rfl ?_
    refine W.widen (k := 0) (n := 0) (by decide) (by decide) ?_
    exact ret 1 () _ _ 14 _ rfl (by unfold F_M_isHost <;> rw [if_pos h1] <;> rfl) hw d_M_isHost_14
  · refine lv_iload_n (pc := 4) F.1 F.2.1 d_M_isHost_4 rfl (lv_at hl 0 rfl) ?_
    refine lv_iconst (pc := 5) (v := 1) F.1 F.2.1 d_M_isHost_5 (by decide) ?_
    refine lv_icmp_ne (pc := 6) (tgt := 13) F.1 F.2.1 d_M_isHost_6 rfl (fun h2 => ?_) (fun h2 => ?_)
    · refine lv_iconst (pc := 13) (v := 0) F.1 F.2.1 d_M_isHost_13 (by decide) ?_
      refine W.widen (k := 0) (n := 0) (by decide) (by decide) ?_
      exact ret 0 () _ _ 14 _ rfl (by unfold F_M_isHost <;> rw [if_neg h1] <;> rw [if_neg h2] <;> rfl) hw d_M_isHost_14
    · refine lv_iconst (pc := 9) (v := 1) F.1 F.2.1 d_M_isHost_9 (by decide) ?_
      refine lv_goto (pc := 10) (tgt := 14) F.1 F.2.1 d_M_isHost_10 rfl ?_
      refine W.widen (k := 0) (n := 0) (by decide) (by decide) ?_
      exact ret 1 () _ _ 14 _ rfl (by unfold F_M_isHost <;> rw [if_neg h1] <;> rw [if_pos h2] <;> rfl) hw d_M_isHost_14
theorem isHost_nat {h r : Int32} {u : Unit} (e : F_M_isHost h = (r, u)) (hr : ¬ r = 0) : isN h 2 := by
  unfold F_M_isHost at e
  by_cases h0 : h = 0
  · subst h0
    exact ⟨rfl, by decide⟩
  · rw [if_neg h0] at e
    by_cases h1 : h = 1
    · subst h1
      exact ⟨rfl, by decide⟩
    · rw [if_neg h1] at e
      cases e
      exact absurd rfl hr
def F_M_runs (up : Nat → Bool) (ho : Nat → Bool) (st : Bool) (ow : Int32) (h0 : Nat) : Int32 × Unit :=
  if up h0 = true then
    if ho h0 = true then
      if ow = (nI h0) then
        if st = true then
          (0, ())
        else
          (1, ())
      else
        (0, ())
    else
      (0, ())
  else
    (0, ())
set_option maxHeartbeats 4000000 in
set_option maxRecDepth 100000 in
theorem c_M_runs (l : Launch) (D : va_G) (cT : Nat → ClassId) (ad : Nat → Nat) (im : Nat → Int32) (me : Nat → Int32) (ro : Nat → Int32) (up : Nat → Bool) (ho : Nat → Bool) (di : Nat → Int32) (os : Nat → Bool) (ob : Nat → Int32) (od : Nat → Int32) (on : Nat → Int32) (pg : Nat → Int32) (tm : Nat → Int32) (ts : Nat → Int32) (tr : Nat → Int32) (ki : Nat → Int32) (mo : Nat → Int32) (po : Nat → Int32) (sr : Nat → Int32) (ld : Nat → Int32) (st : Bool) (ow : Int32) (nu : Int32) (go : Bool) (la : Int32) (so : Int32) (se : Int32) (sl : Int32) (sp : Int32) (tp : Bool) (rd : Bool) (pn : Int32) (h0 : Nat) (hh : h0 < 2) : Cti l y_M_runs ws_M_runs { frames := 0, cells := 0, slots := 0, locals := 0 } D vwCl (TYS cT) [.ref (ad 0), .int (nI h0)] (MW ad cT im me ro up ho di os ob od on pg tm ts tr ki mo po sr ld st ow nu go la so se sl sp tp rd pn) (fun (rr : Int32) (uu : Unit) => F_M_runs up ho st ow h0 = (rr, uu)) (fun (u : Unit) => MW ad cT im me ro up ho di os ob od on pg tm ts tr ki mo po sr ld st ow nu go la so se sl sp tp rd pn) 0 0 := by
  refine x_inz (cc := b_M_runs) (maxL := 2) (by decide) rfl (Nat.le_of_ble_eq_true rfl) ?_
  intro p e s m args below meth c A ls Q F hl hw ret
  have hl : lv_has ls 2 [(0, .ref (ad 0)), (1, .int (nI h0))] := hl
  refine lv_aload_n (pc := 0) F.1 F.2.1 d_M_runs_0 rfl (lv_at hl 0 rfl) ?_
  refine x_get (pc := 1) (v := .ref (ad 4)) F hw 0 3 (fun x h => List.mem_cons_of_mem _ (in_M x h)) rfl rfl (by decide) (List.mem_cons_of_mem _ m_526) rfl d_M_runs_1 ?_
  refine lv_iload_n (pc := 4) F.1 F.2.1 d_M_runs_4 rfl (lv_at hl 1 rfl) ?_
  refine x_zaldB (pc := 5) F hw 4 1 (h0) rfl rfl rfl (by omega) (by decide) d_M_runs_5 ?_
  refine x_ifeqB (pc := 6) (tgt := 37) F d_M_runs_6 rfl (fun h1 => ?_) (fun h1 => ?_)
  · refine lv_iconst (pc := 37) (v := 0) F.1 F.2.1 d_M_runs_37 (by decide) ?_
    refine W.widen (k := 0) (n := 0) (by decide) (by decide) ?_
    exact ret 0 () _ _ 38 _ rfl (by unfold F_M_runs <;> rw [if_neg h1] <;> rfl) hw d_M_runs_38
  · refine lv_aload_n (pc := 9) F.1 F.2.1 d_M_runs_9 rfl (lv_at hl 0 rfl) ?_
    refine x_get (pc := 10) (v := .ref (ad 5)) F hw 0 4 (fun x h => List.mem_cons_of_mem _ (in_M x h)) rfl rfl (by decide) (List.mem_cons_of_mem _ m_527) rfl d_M_runs_10 ?_
    refine lv_iload_n (pc := 13) F.1 F.2.1 d_M_runs_13 rfl (lv_at hl 1 rfl) ?_
    refine x_zaldB (pc := 14) F hw 5 1 (h0) rfl rfl rfl (by omega) (by decide) d_M_runs_14 ?_
    refine x_ifeqB (pc := 15) (tgt := 37) F d_M_runs_15 rfl (fun h2 => ?_) (fun h2 => ?_)
    · refine lv_iconst (pc := 37) (v := 0) F.1 F.2.1 d_M_runs_37 (by decide) ?_
      refine W.widen (k := 0) (n := 0) (by decide) (by decide) ?_
      exact ret 0 () _ _ 38 _ rfl (by unfold F_M_runs <;> rw [if_pos h1] <;> rw [if_neg h2] <;> rfl) hw d_M_runs_38
    · refine lv_aload_n (pc := 18) F.1 F.2.1 d_M_runs_18 rfl (lv_at hl 0 rfl) ?_
      refine x_get (pc := 19) (v := .int ow) F hw 0 7 (fun x h => List.mem_cons_of_mem _ (in_M x h)) rfl rfl (by decide) (List.mem_cons_of_mem _ m_530) rfl d_M_runs_19 ?_
      refine lv_iload_n (pc := 22) F.1 F.2.1 d_M_runs_22 rfl (lv_at hl 1 rfl) ?_
      refine lv_icmp_ne (pc := 23) (tgt := 37) F.1 F.2.1 d_M_runs_23 rfl (fun h3 => ?_) (fun h3 => ?_)
      · refine lv_iconst (pc := 37) (v := 0) F.1 F.2.1 d_M_runs_37 (by decide) ?_
        refine W.widen (k := 0) (n := 0) (by decide) (by decide) ?_
        exact ret 0 () _ _ 38 _ rfl (by unfold F_M_runs <;> rw [if_pos h1] <;> rw [if_pos h2] <;> rw [if_neg h3] <;> rfl) hw d_M_runs_38
      · refine lv_aload_n (pc := 26) F.1 F.2.1 d_M_runs_26 rfl (lv_at hl 0 rfl) ?_
        refine x_get (pc := 27) (v := .int (bI st)) F hw 0 5 (fun x h => List.mem_cons_of_mem _ (in_M x h)) rfl rfl (by decide) (List.mem_cons_of_mem _ m_528) rfl d_M_runs_27 ?_
        refine x_ifneB (pc := 30) (tgt := 37) F d_M_runs_30 rfl (fun h4 => ?_) (fun h4 => ?_)
        · refine lv_iconst (pc := 37) (v := 0) F.1 F.2.1 d_M_runs_37 (by decide) ?_
          refine W.widen (k := 0) (n := 0) (by decide) (by decide) ?_
          exact ret 0 () _ _ 38 _ rfl (by unfold F_M_runs <;> rw [if_pos h1] <;> rw [if_pos h2] <;> rw [if_pos h3] <;> rw [if_pos h4] <;> rfl) hw d_M_runs_38
        · refine lv_iconst (pc := 33) (v := 1) F.1 F.2.1 d_M_runs_33 (by decide) ?_
          refine lv_goto (pc := 34) (tgt := 38) F.1 F.2.1 d_M_runs_34 rfl ?_
          refine W.widen (k := 0) (n := 0) (by decide) (by decide) ?_
          exact ret 1 () _ _ 38 _ rfl (by unfold F_M_runs <;> rw [if_pos h1] <;> rw [if_pos h2] <;> rw [if_pos h3] <;> rw [if_neg h4] <;> rfl) hw d_M_runs_38
theorem runs_ho {up ho : Nat → Bool} {st : Bool} {ow r : Int32} {h0 : Nat} {u : Unit} (e : F_M_runs up ho st ow h0 = (r, u)) (hr : ¬ r = 0) : ho h0 = true := by
  unfold F_M_runs at e
  by_cases h1 : up h0 = true
  · rw [if_pos h1] at e
    by_cases h2 : ho h0 = true
    · exact h2
    · rw [if_neg h2] at e
      cases e
      exact absurd rfl hr
  · rw [if_neg h1] at e
    cases e
    exact absurd rfl hr
def F_M_image (im : Nat → Int32) (i : Int32) (x : Int32) : Int32 × (Nat → Int32) :=
  if i < 0 then
    (0, im)
  else
    if i ≤ 63 then
      (1, upd im (tN i) x)
    else
      (0, im)
set_option maxHeartbeats 4000000 in
set_option maxRecDepth 100000 in
theorem c_M_image (l : Launch) (D : va_G) (cT : Nat → ClassId) (ad : Nat → Nat) (im : Nat → Int32) (me : Nat → Int32) (ro : Nat → Int32) (up : Nat → Bool) (ho : Nat → Bool) (di : Nat → Int32) (os : Nat → Bool) (ob : Nat → Int32) (od : Nat → Int32) (on : Nat → Int32) (pg : Nat → Int32) (tm : Nat → Int32) (ts : Nat → Int32) (tr : Nat → Int32) (ki : Nat → Int32) (mo : Nat → Int32) (po : Nat → Int32) (sr : Nat → Int32) (ld : Nat → Int32) (st : Bool) (ow : Int32) (nu : Int32) (go : Bool) (la : Int32) (so : Int32) (se : Int32) (sl : Int32) (sp : Int32) (tp : Bool) (rd : Bool) (pn : Int32) (i : Int32) (x : Int32)  : Cti l y_M_image ws_M_image { frames := 0, cells := 0, slots := 0, locals := 0 } D vwCl (TYS cT) [.ref (ad 0), .int i, .int x] (MW ad cT im me ro up ho di os ob od on pg tm ts tr ki mo po sr ld st ow nu go la so se sl sp tp rd pn) (fun (rr : Int32) (uu : (Nat → Int32)) => F_M_image im i x = (rr, uu)) (fun (u : (Nat → Int32)) => MW ad cT u me ro up ho di os ob od on pg tm ts tr ki mo po sr ld st ow nu go la so se sl sp tp rd pn) 0 0 := by
  refine x_inz (cc := b_M_image) (maxL := 3) (by decide) rfl (Nat.le_of_ble_eq_true rfl) ?_
  intro p e s m args below meth c A ls Q F hl hw ret
  have hl : lv_has ls 3 [(0, .ref (ad 0)), (1, .int i), (2, .int x)] := hl
  refine lv_iload_n (pc := 0) F.1 F.2.1 d_M_image_0 rfl (lv_at hl 1 rfl) ?_
  refine lv_if_lt (pc := 1) (tgt := 10) F.1 F.2.1 d_M_image_1 rfl (fun h1 => ?_) (fun h1 => ?_)
  · refine lv_iconst (pc := 10) (v := 0) F.1 F.2.1 d_M_image_10 (by decide) ?_
    refine W.widen (k := 0) (n := 0) (by decide) (by decide) ?_
    exact ret 0 im _ _ 11 _ rfl (by unfold F_M_image <;> rw [if_pos h1] <;> rfl) hw d_M_image_11
  · refine lv_iload_n (pc := 4) F.1 F.2.1 d_M_image_4 rfl (lv_at hl 1 rfl) ?_
    refine lv_bipush (pc := 5) (v := 63) F.1 F.2.1 d_M_image_5 (by decide) ?_
    refine lv_icmp_le (pc := 7) (tgt := 12) F.1 F.2.1 d_M_image_7 rfl (fun h2 => ?_) (fun h2 => ?_)
    · have ni := isN_le h1 (y := 63) (b := 63) rfl h2
      have nib := ni.2
      refine lv_aload_n (pc := 12) F.1 F.2.1 d_M_image_12 rfl (lv_at hl 0 rfl) ?_
      refine x_get (pc := 13) (v := .ref (ad 1)) F hw 0 0 (fun x h => List.mem_cons_of_mem _ (in_M x h)) rfl rfl (by decide) (List.mem_cons_of_mem _ m_523) rfl d_M_image_13 ?_
      refine lv_iload_n (pc := 16) F.1 F.2.1 d_M_image_16 rfl (lv_at hl 1 rfl) ?_
      refine x_top (y := nI (tN i)) ni.1 ?_
      refine lv_iload_n (pc := 17) F.1 F.2.1 d_M_image_17 rfl (lv_at hl 2 rfl) ?_
      refine x_iast (pc := 18) (ws' := MW ad cT (upd im (tN i) x) me ro up ho di os ob od on pg tm ts tr ki mo po sr ld st ow nu go la so se sl sp tp rd pn) F hw 1 0 (tN i) rfl rfl rfl (by omega) (by decide) d_M_image_18 rfl (fun H locs hw => ?_)
      refine lv_iconst (pc := 19) (v := 1) F.1 F.2.1 d_M_image_19 (by decide) ?_
      refine W.widen (k := 0) (n := 0) (by decide) (by decide) ?_
      exact ret 1 (upd im (tN i) x) _ _ 20 _ rfl (by unfold F_M_image <;> rw [if_neg h1] <;> rw [if_pos h2] <;> rfl) hw d_M_image_20
    · refine lv_iconst (pc := 10) (v := 0) F.1 F.2.1 d_M_image_10 (by decide) ?_
      refine W.widen (k := 0) (n := 0) (by decide) (by decide) ?_
      exact ret 0 im _ _ 11 _ rfl (by unfold F_M_image <;> rw [if_neg h1] <;> rw [if_neg h2] <;> rfl) hw d_M_image_11
def F_M_order (ro : Nat → Int32) (os : Nat → Bool) (ob : Nat → Int32) (od : Nat → Int32) (on : Nat → Int32) (nu : Int32) (h0 : Nat) : (Nat → Bool) × (Nat → Int32) × (Nat → Int32) × (Nat → Int32) :=
  (va_up os h0 true, upd ob h0 (ro (60 * h0 + 57)), upd od h0 (ro (60 * h0 + 58)), upd on h0 nu)
set_option maxHeartbeats 4000000 in
set_option maxRecDepth 100000 in
theorem c_M_order (l : Launch) (D : va_G) (cT : Nat → ClassId) (ad : Nat → Nat) (im : Nat → Int32) (me : Nat → Int32) (ro : Nat → Int32) (up : Nat → Bool) (ho : Nat → Bool) (di : Nat → Int32) (os : Nat → Bool) (ob : Nat → Int32) (od : Nat → Int32) (on : Nat → Int32) (pg : Nat → Int32) (tm : Nat → Int32) (ts : Nat → Int32) (tr : Nat → Int32) (ki : Nat → Int32) (mo : Nat → Int32) (po : Nat → Int32) (sr : Nat → Int32) (ld : Nat → Int32) (st : Bool) (ow : Int32) (nu : Int32) (go : Bool) (la : Int32) (so : Int32) (se : Int32) (sl : Int32) (sp : Int32) (tp : Bool) (rd : Bool) (pn : Int32) (h0 : Nat) (hh : h0 < 2) : Ctv l y_M_order ws_M_order { frames := 0, cells := 0, slots := 0, locals := 0 } D vwCl (TYS cT) [.ref (ad 0), .int (nI h0)] (MW ad cT im me ro up ho di os ob od on pg tm ts tr ki mo po sr ld st ow nu go la so se sl sp tp rd pn) (fun (uu : (Nat → Bool) × (Nat → Int32) × (Nat → Int32) × (Nat → Int32)) => F_M_order ro os ob od on nu h0 = uu) (fun (u : (Nat → Bool) × (Nat → Int32) × (Nat → Int32) × (Nat → Int32)) => MW ad cT im me ro up ho di u.1 u.2.1 u.2.2.1 u.2.2.2 pg tm ts tr ki mo po sr ld st ow nu go la so se sl sp tp rd pn) 0 0 := by
  refine x_inv (cc := b_M_order) (maxL := 2) (by decide) rfl (Nat.le_of_ble_eq_true rfl) ?_
  intro p e s m args below meth c A ls Q F hin hl hw ret
  have hl : lv_has ls 2 [(0, .ref (ad 0)), (1, .int (nI h0))] := hl
  refine lv_aload_n (pc := 0) F.1 F.2.1 d_M_order_0 rfl (lv_at hl 0 rfl) ?_
  refine x_get (pc := 1) (v := .ref (ad 7)) F hw 0 9 (fun x h => List.mem_cons_of_mem _ (in_M x h)) rfl rfl (by decide) (List.mem_cons_of_mem _ m_532) rfl d_M_order_1 ?_
  refine lv_iload_n (pc := 4) F.1 F.2.1 d_M_order_4 rfl (lv_at hl 1 rfl) ?_
  refine lv_iconst (pc := 5) (v := 1) F.1 F.2.1 d_M_order_5 (by decide) ?_
  refine x_zastB (pc := 6) (b := true) (ws' := MW ad cT im me ro up ho di (va_up os h0 true) ob od on pg tm ts tr ki mo po sr ld st ow nu go la so se sl sp tp rd pn) F hw 7 1 (h0) rfl rfl rfl (by omega) (by decide) d_M_order_6 rfl (fun H locs hw => ?_)
  refine lv_aload_n (pc := 7) F.1 F.2.1 d_M_order_7 rfl (lv_at hl 0 rfl) ?_
  refine x_get (pc := 8) (v := .ref (ad 8)) F hw 0 10 (fun x h => List.mem_cons_of_mem _ (in_M x h)) rfl rfl (by decide) (List.mem_cons_of_mem _ m_533) rfl d_M_order_8 ?_
  refine lv_iload_n (pc := 11) F.1 F.2.1 d_M_order_11 rfl (lv_at hl 1 rfl) ?_
  refine lv_aload_n (pc := 12) F.1 F.2.1 d_M_order_12 rfl (lv_at hl 0 rfl) ?_
  refine x_get (pc := 13) (v := .ref (ad 3)) F hw 0 2 (fun x h => List.mem_cons_of_mem _ (in_M x h)) rfl rfl (by decide) (List.mem_cons_of_mem _ m_525) rfl d_M_order_13 ?_
  refine lv_bipush (pc := 16) (v := 60) F.1 F.2.1 d_M_order_16 (by decide) ?_
  refine lv_iload_n (pc := 18) F.1 F.2.1 d_M_order_18 rfl (lv_at hl 1 rfl) ?_
  refine lv_imul (pc := 19) F.1 F.2.1 d_M_order_19 ?_
  refine x_top (y := nI (60 * h0)) (x_mul2 rfl rfl) ?_
  refine lv_bipush (pc := 20) (v := 57) F.1 F.2.1 d_M_order_20 (by decide) ?_
  refine lv_iadd (pc := 22) F.1 F.2.1 d_M_order_22 ?_
  refine x_top (y := nI (60 * h0 + 57)) (x_add2 rfl rfl) ?_
  refine x_iald (pc := 23) F hw 3 0 (60 * h0 + 57) rfl rfl rfl (by omega) (by decide) d_M_order_23 ?_
  refine x_iast (pc := 24) (ws' := MW ad cT im me ro up ho di (va_up os h0 true) (upd ob h0 (ro (60 * h0 + 57))) od on pg tm ts tr ki mo po sr ld st ow nu go la so se sl sp tp rd pn) F hw 8 0 (h0) rfl rfl rfl (by omega) (by decide) d_M_order_24 rfl (fun H locs hw => ?_)
  refine lv_aload_n (pc := 25) F.1 F.2.1 d_M_order_25 rfl (lv_at hl 0 rfl) ?_
  refine x_get (pc := 26) (v := .ref (ad 9)) F hw 0 11 (fun x h => List.mem_cons_of_mem _ (in_M x h)) rfl rfl (by decide) (List.mem_cons_of_mem _ m_534) rfl d_M_order_26 ?_
  refine lv_iload_n (pc := 29) F.1 F.2.1 d_M_order_29 rfl (lv_at hl 1 rfl) ?_
  refine lv_aload_n (pc := 30) F.1 F.2.1 d_M_order_30 rfl (lv_at hl 0 rfl) ?_
  refine x_get (pc := 31) (v := .ref (ad 3)) F hw 0 2 (fun x h => List.mem_cons_of_mem _ (in_M x h)) rfl rfl (by decide) (List.mem_cons_of_mem _ m_525) rfl d_M_order_31 ?_
  refine lv_bipush (pc := 34) (v := 60) F.1 F.2.1 d_M_order_34 (by decide) ?_
  refine lv_iload_n (pc := 36) F.1 F.2.1 d_M_order_36 rfl (lv_at hl 1 rfl) ?_
  refine lv_imul (pc := 37) F.1 F.2.1 d_M_order_37 ?_
  refine x_top (y := nI (60 * h0)) (x_mul2 rfl rfl) ?_
  refine lv_bipush (pc := 38) (v := 58) F.1 F.2.1 d_M_order_38 (by decide) ?_
  refine lv_iadd (pc := 40) F.1 F.2.1 d_M_order_40 ?_
  refine x_top (y := nI (60 * h0 + 58)) (x_add2 rfl rfl) ?_
  refine x_iald (pc := 41) F hw 3 0 (60 * h0 + 58) rfl rfl rfl (by omega) (by decide) d_M_order_41 ?_
  refine x_iast (pc := 42) (ws' := MW ad cT im me ro up ho di (va_up os h0 true) (upd ob h0 (ro (60 * h0 + 57))) (upd od h0 (ro (60 * h0 + 58))) on pg tm ts tr ki mo po sr ld st ow nu go la so se sl sp tp rd pn) F hw 9 0 (h0) rfl rfl rfl (by omega) (by decide) d_M_order_42 rfl (fun H locs hw => ?_)
  refine lv_aload_n (pc := 43) F.1 F.2.1 d_M_order_43 rfl (lv_at hl 0 rfl) ?_
  refine x_get (pc := 44) (v := .ref (ad 10)) F hw 0 12 (fun x h => List.mem_cons_of_mem _ (in_M x h)) rfl rfl (by decide) (List.mem_cons_of_mem _ m_535) rfl d_M_order_44 ?_
  refine lv_iload_n (pc := 47) F.1 F.2.1 d_M_order_47 rfl (lv_at hl 1 rfl) ?_
  refine lv_aload_n (pc := 48) F.1 F.2.1 d_M_order_48 rfl (lv_at hl 0 rfl) ?_
  refine x_get (pc := 49) (v := .int nu) F hw 0 8 (fun x h => List.mem_cons_of_mem _ (in_M x h)) rfl rfl (by decide) (List.mem_cons_of_mem _ m_531) rfl d_M_order_49 ?_
  refine x_iast (pc := 52) (ws' := MW ad cT im me ro up ho di (va_up os h0 true) (upd ob h0 (ro (60 * h0 + 57))) (upd od h0 (ro (60 * h0 + 58))) (upd on h0 nu) pg tm ts tr ki mo po sr ld st ow nu go la so se sl sp tp rd pn) F hw 10 0 (h0) rfl rfl rfl (by omega) (by decide) d_M_order_52 rfl (fun H locs hw => ?_)
  refine W.widen (k := 0) (n := 0) (by decide) (by decide) ?_
  exact ret (va_up os h0 true, upd ob h0 (ro (60 * h0 + 57)), upd od h0 (ro (60 * h0 + 58)), upd on h0 nu) _ _ 53 _ (by unfold F_M_order <;> rfl) hw d_M_order_53
def F_M_tick (ro : Nat → Int32) (r0 : Nat) : (Nat → Int32) :=
  if (ro (r0 + 5)) = 0 then
    ro
  else
    if ((upd ro (r0 + 5) ((ro (r0 + 5)) - 1)) (r0 + 5)) ≤ 0 then
      upd (upd (upd ro (r0 + 5) ((ro (r0 + 5)) - 1)) (r0 + 3) ((upd ro (r0 + 5) ((ro (r0 + 5)) - 1)) (r0 + 4))) (r0 + 4) 56
    else
      upd ro (r0 + 5) ((ro (r0 + 5)) - 1)
set_option maxHeartbeats 4000000 in
set_option maxRecDepth 100000 in
theorem c_M_tick (l : Launch) (D : va_G) (cT : Nat → ClassId) (ad : Nat → Nat) (im : Nat → Int32) (me : Nat → Int32) (ro : Nat → Int32) (up : Nat → Bool) (ho : Nat → Bool) (di : Nat → Int32) (os : Nat → Bool) (ob : Nat → Int32) (od : Nat → Int32) (on : Nat → Int32) (pg : Nat → Int32) (tm : Nat → Int32) (ts : Nat → Int32) (tr : Nat → Int32) (ki : Nat → Int32) (mo : Nat → Int32) (po : Nat → Int32) (sr : Nat → Int32) (ld : Nat → Int32) (st : Bool) (ow : Int32) (nu : Int32) (go : Bool) (la : Int32) (so : Int32) (se : Int32) (sl : Int32) (sp : Int32) (tp : Bool) (rd : Bool) (pn : Int32) (r0 : Nat) (hr : r0 ≤ 60) : Ctv l y_M_tick ws_M_tick { frames := 0, cells := 0, slots := 0, locals := 0 } D vwCl (TYS cT) [.ref (ad 0), .int (nI r0)] (MW ad cT im me ro up ho di os ob od on pg tm ts tr ki mo po sr ld st ow nu go la so se sl sp tp rd pn) (fun (uu : (Nat → Int32)) => F_M_tick ro r0 = uu) (fun (u : (Nat → Int32)) => MW ad cT im me u up ho di os ob od on pg tm ts tr ki mo po sr ld st ow nu go la so se sl sp tp rd pn) 0 0 := by
  refine x_inv (cc := b_M_tick) (maxL := 2) (by decide) rfl (Nat.le_of_ble_eq_true rfl) ?_
  intro p e s m args below meth c A ls Q F hin hl hw ret
  have hl : lv_has ls 2 [(0, .ref (ad 0)), (1, .int (nI r0))] := hl
  refine lv_aload_n (pc := 0) F.1 F.2.1 d_M_tick_0 rfl (lv_at hl 0 rfl) ?_
  refine x_get (pc := 1) (v := .ref (ad 3)) F hw 0 2 (fun x h => List.mem_cons_of_mem _ (in_M x h)) rfl rfl (by decide) (List.mem_cons_of_mem _ m_525) rfl d_M_tick_1 ?_
  refine lv_iload_n (pc := 4) F.1 F.2.1 d_M_tick_4 rfl (lv_at hl 1 rfl) ?_
  refine lv_iconst (pc := 5) (v := 5) F.1 F.2.1 d_M_tick_5 (by decide) ?_
  refine lv_iadd (pc := 6) F.1 F.2.1 d_M_tick_6 ?_
  refine x_top (y := nI (r0 + 5)) (x_add2 rfl rfl) ?_
  refine x_iald (pc := 7) F hw 3 0 (r0 + 5) rfl rfl rfl (by omega) (by decide) d_M_tick_7 ?_
  refine lv_if_ne (pc := 8) (tgt := 12) F.1 F.2.1 d_M_tick_8 rfl (fun h1 => ?_) (fun h1 => ?_)
  · refine lv_aload_n (pc := 12) F.1 F.2.1 d_M_tick_12 rfl (lv_at hl 0 rfl) ?_
    refine x_get (pc := 13) (v := .ref (ad 3)) F hw 0 2 (fun x h => List.mem_cons_of_mem _ (in_M x h)) rfl rfl (by decide) (List.mem_cons_of_mem _ m_525) rfl d_M_tick_13 ?_
    refine lv_iload_n (pc := 16) F.1 F.2.1 d_M_tick_16 rfl (lv_at hl 1 rfl) ?_
    refine lv_iconst (pc := 17) (v := 5) F.1 F.2.1 d_M_tick_17 (by decide) ?_
    refine lv_iadd (pc := 18) F.1 F.2.1 d_M_tick_18 ?_
    refine x_top (y := nI (r0 + 5)) (x_add2 rfl rfl) ?_
    refine lv_dup2_11 (pc := 19) F.1 F.2.1 d_M_tick_19 rfl rfl ?_
    refine x_iald (pc := 20) F hw 3 0 (r0 + 5) rfl rfl rfl (by omega) (by decide) d_M_tick_20 ?_
    refine lv_iconst (pc := 21) (v := 1) F.1 F.2.1 d_M_tick_21 (by decide) ?_
    refine lv_isub (pc := 22) F.1 F.2.1 d_M_tick_22 ?_
    refine x_iast (pc := 23) (ws' := MW ad cT im me (upd ro (r0 + 5) ((ro (r0 + 5)) - 1)) up ho di os ob od on pg tm ts tr ki mo po sr ld st ow nu go la so se sl sp tp rd pn) F hw 3 0 (r0 + 5) rfl rfl rfl (by omega) (by decide) d_M_tick_23 rfl (fun H locs hw => ?_)
    refine lv_aload_n (pc := 24) F.1 F.2.1 d_M_tick_24 rfl (lv_at hl 0 rfl) ?_
    refine x_get (pc := 25) (v := .ref (ad 3)) F hw 0 2 (fun x h => List.mem_cons_of_mem _ (in_M x h)) rfl rfl (by decide) (List.mem_cons_of_mem _ m_525) rfl d_M_tick_25 ?_
    refine lv_iload_n (pc := 28) F.1 F.2.1 d_M_tick_28 rfl (lv_at hl 1 rfl) ?_
    refine lv_iconst (pc := 29) (v := 5) F.1 F.2.1 d_M_tick_29 (by decide) ?_
    refine lv_iadd (pc := 30) F.1 F.2.1 d_M_tick_30 ?_
    refine x_top (y := nI (r0 + 5)) (x_add2 rfl rfl) ?_
    refine x_iald (pc := 31) F hw 3 0 (r0 + 5) rfl rfl rfl (by omega) (by decide) d_M_tick_31 ?_
    refine lv_if_le (pc := 32) (tgt := 36) F.1 F.2.1 d_M_tick_32 rfl (fun h2 => ?_) (fun h2 => ?_)
    · refine lv_aload_n (pc := 36) F.1 F.2.1 d_M_tick_36 rfl (lv_at hl 0 rfl) ?_
      refine x_get (pc := 37) (v := .ref (ad 3)) F hw 0 2 (fun x h => List.mem_cons_of_mem _ (in_M x h)) rfl rfl (by decide) (List.mem_cons_of_mem _ m_525) rfl d_M_tick_37 ?_
      refine lv_iload_n (pc := 40) F.1 F.2.1 d_M_tick_40 rfl (lv_at hl 1 rfl) ?_
      refine lv_iconst (pc := 41) (v := 3) F.1 F.2.1 d_M_tick_41 (by decide) ?_
      refine lv_iadd (pc := 42) F.1 F.2.1 d_M_tick_42 ?_
      refine x_top (y := nI (r0 + 3)) (x_add2 rfl rfl) ?_
      refine lv_aload_n (pc := 43) F.1 F.2.1 d_M_tick_43 rfl (lv_at hl 0 rfl) ?_
      refine x_get (pc := 44) (v := .ref (ad 3)) F hw 0 2 (fun x h => List.mem_cons_of_mem _ (in_M x h)) rfl rfl (by decide) (List.mem_cons_of_mem _ m_525) rfl d_M_tick_44 ?_
      refine lv_iload_n (pc := 47) F.1 F.2.1 d_M_tick_47 rfl (lv_at hl 1 rfl) ?_
      refine lv_iconst (pc := 48) (v := 4) F.1 F.2.1 d_M_tick_48 (by decide) ?_
      refine lv_iadd (pc := 49) F.1 F.2.1 d_M_tick_49 ?_
      refine x_top (y := nI (r0 + 4)) (x_add2 rfl rfl) ?_
      refine x_iald (pc := 50) F hw 3 0 (r0 + 4) rfl rfl rfl (by omega) (by decide) d_M_tick_50 ?_
      refine x_iast (pc := 51) (ws' := MW ad cT im me (upd (upd ro (r0 + 5) ((ro (r0 + 5)) - 1)) (r0 + 3) ((upd ro (r0 + 5) ((ro (r0 + 5)) - 1)) (r0 + 4))) up ho di os ob od on pg tm ts tr ki mo po sr ld st ow nu go la so se sl sp tp rd pn) F hw 3 0 (r0 + 3) rfl rfl rfl (by omega) (by decide) d_M_tick_51 rfl (fun H locs hw => ?_)
      refine lv_aload_n (pc := 52) F.1 F.2.1 d_M_tick_52 rfl (lv_at hl 0 rfl) ?_
      refine x_get (pc := 53) (v := .ref (ad 3)) F hw 0 2 (fun x h => List.mem_cons_of_mem _ (in_M x h)) rfl rfl (by decide) (List.mem_cons_of_mem _ m_525) rfl d_M_tick_53 ?_
      refine lv_iload_n (pc := 56) F.1 F.2.1 d_M_tick_56 rfl (lv_at hl 1 rfl) ?_
      refine lv_iconst (pc := 57) (v := 4) F.1 F.2.1 d_M_tick_57 (by decide) ?_
      refine lv_iadd (pc := 58) F.1 F.2.1 d_M_tick_58 ?_
      refine x_top (y := nI (r0 + 4)) (x_add2 rfl rfl) ?_
      refine lv_bipush (pc := 59) (v := 56) F.1 F.2.1 d_M_tick_59 (by decide) ?_
      refine x_iast (pc := 61) (ws' := MW ad cT im me (upd (upd (upd ro (r0 + 5) ((ro (r0 + 5)) - 1)) (r0 + 3) ((upd ro (r0 + 5) ((ro (r0 + 5)) - 1)) (r0 + 4))) (r0 + 4) 56) up ho di os ob od on pg tm ts tr ki mo po sr ld st ow nu go la so se sl sp tp rd pn) F hw 3 0 (r0 + 4) rfl rfl rfl (by omega) (by decide) d_M_tick_61 rfl (fun H locs hw => ?_)
      refine W.widen (k := 0) (n := 0) (by decide) (by decide) ?_
      exact ret (upd (upd (upd ro (r0 + 5) ((ro (r0 + 5)) - 1)) (r0 + 3) ((upd ro (r0 + 5) ((ro (r0 + 5)) - 1)) (r0 + 4))) (r0 + 4) 56) _ _ 62 _ (by unfold F_M_tick <;> rw [if_neg h1] <;> rw [if_pos h2] <;> rfl) hw d_M_tick_62
    · refine W.widen (k := 0) (n := 0) (by decide) (by decide) ?_
      exact ret (upd ro (r0 + 5) ((ro (r0 + 5)) - 1)) _ _ 35 _ (by unfold F_M_tick <;> rw [if_neg h1] <;> rw [if_neg h2] <;> rfl) hw d_M_tick_35
  · refine W.widen (k := 0) (n := 0) (by decide) (by decide) ?_
    exact ret ro _ _ 11 _ (by unfold F_M_tick <;> rw [if_pos h1] <;> rfl) hw d_M_tick_11
def F_M_end  : Bool × Bool × Bool × Bool :=
  (false, false, false, false)
set_option maxHeartbeats 4000000 in
set_option maxRecDepth 100000 in
theorem c_M_end (l : Launch) (D : va_G) (cT : Nat → ClassId) (ad : Nat → Nat) (im : Nat → Int32) (me : Nat → Int32) (ro : Nat → Int32) (up : Nat → Bool) (ho : Nat → Bool) (di : Nat → Int32) (os : Nat → Bool) (ob : Nat → Int32) (od : Nat → Int32) (on : Nat → Int32) (pg : Nat → Int32) (tm : Nat → Int32) (ts : Nat → Int32) (tr : Nat → Int32) (ki : Nat → Int32) (mo : Nat → Int32) (po : Nat → Int32) (sr : Nat → Int32) (ld : Nat → Int32) (st : Bool) (ow : Int32) (nu : Int32) (go : Bool) (la : Int32) (so : Int32) (se : Int32) (sl : Int32) (sp : Int32) (tp : Bool) (rd : Bool) (pn : Int32)  : Ctv l y_M_end ws_M_end { frames := 0, cells := 0, slots := 0, locals := 0 } D vwCl (TYS cT) [.ref (ad 0)] (MW ad cT im me ro up ho di os ob od on pg tm ts tr ki mo po sr ld st ow nu go la so se sl sp tp rd pn) (fun (uu : Bool × Bool × Bool × Bool) => F_M_end = uu) (fun (u : Bool × Bool × Bool × Bool) => MW ad cT im me ro up ho di os ob od on pg tm ts tr ki mo po sr ld u.1 ow nu u.2.1 la so se sl sp u.2.2.1 u.2.2.2 pn) 0 0 := by
  refine x_inv (cc := b_M_end) (maxL := 1) (by decide) rfl (Nat.le_of_ble_eq_true rfl) ?_
  intro p e s m args below meth c A ls Q F hin hl hw ret
  have hl : lv_has ls 1 [(0, .ref (ad 0))] := hl
  refine lv_aload_n (pc := 0) F.1 F.2.1 d_M_end_0 rfl (lv_at hl 0 rfl) ?_
  refine lv_iconst (pc := 1) (v := 0) F.1 F.2.1 d_M_end_1 (by decide) ?_
  refine x_put (pc := 2) (v := .int (bI false)) (ty := .boolean) (ws' := MW ad cT im me ro up ho di os ob od on pg tm ts tr ki mo po sr ld st ow nu false la so se sl sp tp rd pn) F hw 0 13 (fun x h => List.mem_cons_of_mem _ (in_M x h)) ty_M tyok_M nm_M rfl rfl (by decide) (List.mem_cons_of_mem _ m_536) rfl (by decide +kernel) (bI_nar false) (bI_fit false) (Nat.le_of_ble_eq_true rfl) d_M_end_2 rfl (fun H locs hw => ?_)
  refine lv_aload_n (pc := 5) F.1 F.2.1 d_M_end_5 rfl (lv_at hl 0 rfl) ?_
  refine lv_iconst (pc := 6) (v := 0) F.1 F.2.1 d_M_end_6 (by decide) ?_
  refine x_put (pc := 7) (v := .int (bI false)) (ty := .boolean) (ws' := MW ad cT im me ro up ho di os ob od on pg tm ts tr ki mo po sr ld st ow nu false la so se sl sp false rd pn) F hw 0 20 (fun x h => List.mem_cons_of_mem _ (in_M x h)) ty_M tyok_M nm_M rfl rfl (by decide) (List.mem_cons_of_mem _ m_543) rfl (by decide +kernel) (bI_nar false) (bI_fit false) (Nat.le_of_ble_eq_true rfl) d_M_end_7 rfl (fun H locs hw => ?_)
  refine lv_aload_n (pc := 10) F.1 F.2.1 d_M_end_10 rfl (lv_at hl 0 rfl) ?_
  refine lv_iconst (pc := 11) (v := 0) F.1 F.2.1 d_M_end_11 (by decide) ?_
  refine x_put (pc := 12) (v := .int (bI false)) (ty := .boolean) (ws' := MW ad cT im me ro up ho di os ob od on pg tm ts tr ki mo po sr ld st ow nu false la so se sl sp false false pn) F hw 0 21 (fun x h => List.mem_cons_of_mem _ (in_M x h)) ty_M tyok_M nm_M rfl rfl (by decide) (List.mem_cons_of_mem _ m_544) rfl (by decide +kernel) (bI_nar false) (bI_fit false) (Nat.le_of_ble_eq_true rfl) d_M_end_12 rfl (fun H locs hw => ?_)
  refine lv_aload_n (pc := 15) F.1 F.2.1 d_M_end_15 rfl (lv_at hl 0 rfl) ?_
  refine lv_iconst (pc := 16) (v := 0) F.1 F.2.1 d_M_end_16 (by decide) ?_
  refine x_put (pc := 17) (v := .int (bI false)) (ty := .boolean) (ws' := MW ad cT im me ro up ho di os ob od on pg tm ts tr ki mo po sr ld false ow nu false la so se sl sp false false pn) F hw 0 5 (fun x h => List.mem_cons_of_mem _ (in_M x h)) ty_M tyok_M nm_M rfl rfl (by decide) (List.mem_cons_of_mem _ m_528) rfl (by decide +kernel) (bI_nar false) (bI_fit false) (Nat.le_of_ble_eq_true rfl) d_M_end_17 rfl (fun H locs hw => ?_)
  refine W.widen (k := 0) (n := 0) (by decide) (by decide) ?_
  exact ret (false, false, false, false) _ _ 20 _ (by unfold F_M_end <;> rfl) hw d_M_end_20
def F_M_written (me : Nat → Int32) (pg : Nat → Int32) (go : Bool) (so : Int32) (h0 : Nat) (i0 : Nat) (x : Int32) : (Nat → Int32) × (Nat → Int32) :=
  if go = true then
    if so = (nI h0) then
      (upd me (64 * h0 + i0) x, upd pg (i0 / 8) (-1))
    else
      (upd me (64 * h0 + i0) x, pg)
  else
    (upd me (64 * h0 + i0) x, pg)
set_option maxHeartbeats 4000000 in
set_option maxRecDepth 100000 in
theorem c_M_written (l : Launch) (D : va_G) (cT : Nat → ClassId) (ad : Nat → Nat) (im : Nat → Int32) (me : Nat → Int32) (ro : Nat → Int32) (up : Nat → Bool) (ho : Nat → Bool) (di : Nat → Int32) (os : Nat → Bool) (ob : Nat → Int32) (od : Nat → Int32) (on : Nat → Int32) (pg : Nat → Int32) (tm : Nat → Int32) (ts : Nat → Int32) (tr : Nat → Int32) (ki : Nat → Int32) (mo : Nat → Int32) (po : Nat → Int32) (sr : Nat → Int32) (ld : Nat → Int32) (st : Bool) (ow : Int32) (nu : Int32) (go : Bool) (la : Int32) (so : Int32) (se : Int32) (sl : Int32) (sp : Int32) (tp : Bool) (rd : Bool) (pn : Int32) (h0 : Nat) (i0 : Nat) (x : Int32) (hh : h0 < 2) (hi : i0 < 64) : Ctv l y_M_written ws_M_written { frames := 0, cells := 0, slots := 0, locals := 0 } D vwCl (TYS cT) [.ref (ad 0), .int (nI h0), .int (nI i0), .int x] (MW ad cT im me ro up ho di os ob od on pg tm ts tr ki mo po sr ld st ow nu go la so se sl sp tp rd pn) (fun (uu : (Nat → Int32) × (Nat → Int32)) => F_M_written me pg go so h0 i0 x = uu) (fun (u : (Nat → Int32) × (Nat → Int32)) => MW ad cT im u.1 ro up ho di os ob od on u.2 tm ts tr ki mo po sr ld st ow nu go la so se sl sp tp rd pn) 0 0 := by
  refine x_inv (cc := b_M_written) (maxL := 4) (by decide) rfl (Nat.le_of_ble_eq_true rfl) ?_
  intro p e s m args below meth c A ls Q F hin hl hw ret
  have hl : lv_has ls 4 [(0, .ref (ad 0)), (1, .int (nI h0)), (2, .int (nI i0)), (3, .int x)] := hl
  refine lv_aload_n (pc := 0) F.1 F.2.1 d_M_written_0 rfl (lv_at hl 0 rfl) ?_
  refine x_get (pc := 1) (v := .ref (ad 2)) F hw 0 1 (fun x h => List.mem_cons_of_mem _ (in_M x h)) rfl rfl (by decide) (List.mem_cons_of_mem _ m_524) rfl d_M_written_1 ?_
  refine lv_bipush (pc := 4) (v := 64) F.1 F.2.1 d_M_written_4 (by decide) ?_
  refine lv_iload_n (pc := 6) F.1 F.2.1 d_M_written_6 rfl (lv_at hl 1 rfl) ?_
  refine lv_imul (pc := 7) F.1 F.2.1 d_M_written_7 ?_
  refine x_top (y := nI (64 * h0)) (x_mul2 rfl rfl) ?_
  refine lv_iload_n (pc := 8) F.1 F.2.1 d_M_written_8 rfl (lv_at hl 2 rfl) ?_
  refine lv_iadd (pc := 9) F.1 F.2.1 d_M_written_9 ?_
  refine x_top (y := nI (64 * h0 + i0)) (x_add2 rfl rfl) ?_
  refine lv_iload_n (pc := 10) F.1 F.2.1 d_M_written_10 rfl (lv_at hl 3 rfl) ?_
  refine x_iast (pc := 11) (ws' := MW ad cT im (upd me (64 * h0 + i0) x) ro up ho di os ob od on pg tm ts tr ki mo po sr ld st ow nu go la so se sl sp tp rd pn) F hw 2 0 (64 * h0 + i0) rfl rfl rfl (by omega) (by decide) d_M_written_11 rfl (fun H locs hw => ?_)
  refine lv_aload_n (pc := 12) F.1 F.2.1 d_M_written_12 rfl (lv_at hl 0 rfl) ?_
  refine x_get (pc := 13) (v := .int (bI go)) F hw 0 13 (fun x h => List.mem_cons_of_mem _ (in_M x h)) rfl rfl (by decide) (List.mem_cons_of_mem _ m_536) rfl d_M_written_13 ?_
  refine x_ifeqB (pc := 16) (tgt := 37) F d_M_written_16 rfl (fun h1 => ?_) (fun h1 => ?_)
  · refine W.widen (k := 0) (n := 0) (by decide) (by decide) ?_
    exact ret (upd me (64 * h0 + i0) x, pg) _ _ 37 _ (by unfold F_M_written <;> rw [if_neg h1] <;> rfl) hw d_M_written_37
  · refine lv_aload_n (pc := 19) F.1 F.2.1 d_M_written_19 rfl (lv_at hl 0 rfl) ?_
    refine x_get (pc := 20) (v := .int so) F hw 0 15 (fun x h => List.mem_cons_of_mem _ (in_M x h)) rfl rfl (by decide) (List.mem_cons_of_mem _ m_538) rfl d_M_written_20 ?_
    refine lv_iload_n (pc := 23) F.1 F.2.1 d_M_written_23 rfl (lv_at hl 1 rfl) ?_
    refine lv_icmp_ne (pc := 24) (tgt := 37) F.1 F.2.1 d_M_written_24 rfl (fun h2 => ?_) (fun h2 => ?_)
    · refine W.widen (k := 0) (n := 0) (by decide) (by decide) ?_
      exact ret (upd me (64 * h0 + i0) x, pg) _ _ 37 _ (by unfold F_M_written <;> rw [if_pos h1] <;> rw [if_neg h2] <;> rfl) hw d_M_written_37
    · refine lv_aload_n (pc := 27) F.1 F.2.1 d_M_written_27 rfl (lv_at hl 0 rfl) ?_
      refine x_get (pc := 28) (v := .ref (ad 11)) F hw 0 16 (fun x h => List.mem_cons_of_mem _ (in_M x h)) rfl rfl (by decide) (List.mem_cons_of_mem _ m_539) rfl d_M_written_28 ?_
      refine lv_iload_n (pc := 31) F.1 F.2.1 d_M_written_31 rfl (lv_at hl 2 rfl) ?_
      refine lv_bipush (pc := 32) (v := 8) F.1 F.2.1 d_M_written_32 (by decide) ?_
      refine lv_idiv (pc := 34) F.1 F.2.1 d_M_written_34 (by decide) ?_
      refine x_top (y := nI (i0 / 8)) (x_div2 rfl rfl (by omega) (by omega) (by omega)) ?_
      refine lv_iconst (pc := 35) (v := (-1)) F.1 F.2.1 d_M_written_35 (by decide) ?_
      refine x_iast (pc := 36) (ws' := MW ad cT im (upd me (64 * h0 + i0) x) ro up ho di os ob od on (upd pg (i0 / 8) (-1)) tm ts tr ki mo po sr ld st ow nu go la so se sl sp tp rd pn) F hw 11 0 (i0 / 8) rfl rfl rfl (by omega) (by decide) d_M_written_36 rfl (fun H locs hw => ?_)
      refine W.widen (k := 0) (n := 0) (by decide) (by decide) ?_
      exact ret (upd me (64 * h0 + i0) x, upd pg (i0 / 8) (-1)) _ _ 37 _ (by unfold F_M_written <;> rw [if_pos h1] <;> rw [if_pos h2] <;> rfl) hw d_M_written_37
def F_M_taken (ro : Nat → Int32) (r0 : Nat) : Int32 × (Nat → Int32) :=
  if (ro (r0 + 6)) = 0 then
    ((-1), ro)
  else
    (ro (r0 + 7), upd (va_cpy ro ro (r0 + 8) (r0 + 7) 7) (r0 + 6) (((va_cpy ro ro (r0 + 8) (r0 + 7) 7) (r0 + 6)) - 1))
set_option maxHeartbeats 4000000 in
set_option maxRecDepth 100000 in
theorem c_M_taken (l : Launch) (D : va_G) (cT : Nat → ClassId) (ad : Nat → Nat) (im : Nat → Int32) (me : Nat → Int32) (ro : Nat → Int32) (up : Nat → Bool) (ho : Nat → Bool) (di : Nat → Int32) (os : Nat → Bool) (ob : Nat → Int32) (od : Nat → Int32) (on : Nat → Int32) (pg : Nat → Int32) (tm : Nat → Int32) (ts : Nat → Int32) (tr : Nat → Int32) (ki : Nat → Int32) (mo : Nat → Int32) (po : Nat → Int32) (sr : Nat → Int32) (ld : Nat → Int32) (st : Bool) (ow : Int32) (nu : Int32) (go : Bool) (la : Int32) (so : Int32) (se : Int32) (sl : Int32) (sp : Int32) (tp : Bool) (rd : Bool) (pn : Int32) (r0 : Nat) (hr : r0 ≤ 60) : Cti l y_M_taken ws_M_taken { frames := 0, cells := 0, slots := 0, locals := 0 } D vwCl (TYS cT) [.ref (ad 0), .int (nI r0)] (MW ad cT im me ro up ho di os ob od on pg tm ts tr ki mo po sr ld st ow nu go la so se sl sp tp rd pn) (fun (rr : Int32) (uu : (Nat → Int32)) => F_M_taken ro r0 = (rr, uu)) (fun (u : (Nat → Int32)) => MW ad cT im me u up ho di os ob od on pg tm ts tr ki mo po sr ld st ow nu go la so se sl sp tp rd pn) 0 0 := by
  refine x_ini (cc := b_M_taken) (maxL := 4) (by decide) rfl (Nat.le_of_ble_eq_true rfl) ?_
  intro p e s m args below meth c A ls Q F hl hw ret
  have hl : lv_has ls 4 [(0, .ref (ad 0)), (1, .int (nI r0))] := hl
  refine lv_aload_n (pc := 0) F.1 F.2.1 d_M_taken_0 rfl (lv_at hl 0 rfl) ?_
  refine x_get (pc := 1) (v := .ref (ad 3)) F hw 0 2 (fun x h => List.mem_cons_of_mem _ (in_M x h)) rfl rfl (by decide) (List.mem_cons_of_mem _ m_525) rfl d_M_taken_1 ?_
  refine lv_iload_n (pc := 4) F.1 F.2.1 d_M_taken_4 rfl (lv_at hl 1 rfl) ?_
  refine lv_bipush (pc := 5) (v := 6) F.1 F.2.1 d_M_taken_5 (by decide) ?_
  refine lv_iadd (pc := 7) F.1 F.2.1 d_M_taken_7 ?_
  refine x_top (y := nI (r0 + 6)) (x_add2 rfl rfl) ?_
  refine x_iald (pc := 8) F hw 3 0 (r0 + 6) rfl rfl rfl (by omega) (by decide) d_M_taken_8 ?_
  refine lv_if_ne (pc := 9) (tgt := 14) F.1 F.2.1 d_M_taken_9 rfl (fun h1 => ?_) (fun h1 => ?_)
  · refine lv_aload_n (pc := 14) F.1 F.2.1 d_M_taken_14 rfl (lv_at hl 0 rfl) ?_
    refine x_get (pc := 15) (v := .ref (ad 3)) F hw 0 2 (fun x h => List.mem_cons_of_mem _ (in_M x h)) rfl rfl (by decide) (List.mem_cons_of_mem _ m_525) rfl d_M_taken_15 ?_
    refine lv_iload_n (pc := 18) F.1 F.2.1 d_M_taken_18 rfl (lv_at hl 1 rfl) ?_
    refine lv_bipush (pc := 19) (v := 7) F.1 F.2.1 d_M_taken_19 (by decide) ?_
    refine lv_iadd (pc := 21) F.1 F.2.1 d_M_taken_21 ?_
    refine x_top (y := nI (r0 + 7)) (x_add2 rfl rfl) ?_
    refine x_iald (pc := 22) F hw 3 0 (r0 + 7) rfl rfl rfl (by omega) (by decide) d_M_taken_22 ?_
    refine lv_istore_n (pc := 23) (lv' := [(2, .int (ro (r0 + 7))), (0, .ref (ad 0)), (1, .int (nI r0))]) F.1 F.2.1 d_M_taken_23 rfl hl (by decide) rfl (fun ls hl => ?_)
    refine lv_iconst (pc := 24) (v := 0) F.1 F.2.1 d_M_taken_24 (by decide) ?_
    refine lv_istore_n (pc := 25) (lv' := [(3, .int 0), (2, .int (ro (r0 + 7))), (0, .ref (ad 0)), (1, .int (nI r0))]) F.1 F.2.1 d_M_taken_25 rfl hl (by decide) rfl (fun ls hl => ?_)
    have loop2 : ∀ (kf : Nat) (i : Nat) (ls : Array Slot) (H : Heap) (locs : List Loc), 7 - i = kf → (i ≤ 7) → lv_has ls 4 [(3, .int (nI i)), (2, .int (ro (r0 + 7))), (0, .ref (ad 0)), (1, .int (nI r0))] → Hw D vwCl (TYS cT) A s (MW ad cT im me (va_cpy ro ro (r0 + 8) (r0 + 7) i) up ho di os ob od on pg tm ts tr ki mo po sr ld st ow nu go la so se sl sp tp rd pn) H locs → W p l e { frames := 0, cells := 0, slots := 0, locals := 0 } s m args below meth c H locs 0 0 Q (F0 m 26 ls []) := by
      intro kf
      induction kf using Nat.strongRecOn with
      | _ kf ih2 =>
      intro i ls H locs hk hi hl hw
      refine lv_iload_n (pc := 26) F.1 F.2.1 d_M_taken_26 rfl (lv_at hl 0 rfl) ?_
      refine lv_bipush (pc := 27) (v := 7) F.1 F.2.1 d_M_taken_27 (by decide) ?_
      refine lv_icmp_ge (pc := 29) (tgt := 62) F.1 F.2.1 d_M_taken_29 rfl (fun h3 => ?_) (fun h3 => ?_)
      · have h3 := (nI_leI (a := 7) (b := i) (by omega) (by omega)).mp h3
        obtain rfl : i = 7 := by omega
        refine lv_aload_n (pc := 62) F.1 F.2.1 d_M_taken_62 rfl (lv_at hl 2 rfl) ?_
        refine x_get (pc := 63) (v := .ref (ad 3)) F hw 0 2 (fun x h => List.mem_cons_of_mem _ (in_M x h)) rfl rfl (by decide) (List.mem_cons_of_mem _ m_525) rfl d_M_taken_63 ?_
        refine lv_iload_n (pc := 66) F.1 F.2.1 d_M_taken_66 rfl (lv_at hl 3 rfl) ?_
        refine lv_bipush (pc := 67) (v := 6) F.1 F.2.1 d_M_taken_67 (by decide) ?_
        refine lv_iadd (pc := 69) F.1 F.2.1 d_M_taken_69 ?_
        refine x_top (y := nI (r0 + 6)) (x_add2 rfl rfl) ?_
        refine lv_dup2_11 (pc := 70) F.1 F.2.1 d_M_taken_70 rfl rfl ?_
        refine x_iald (pc := 71) F hw 3 0 (r0 + 6) rfl rfl rfl (by omega) (by decide) d_M_taken_71 ?_
        refine lv_iconst (pc := 72) (v := 1) F.1 F.2.1 d_M_taken_72 (by decide) ?_
        refine lv_isub (pc := 73) F.1 F.2.1 d_M_taken_73 ?_
        refine x_iast (pc := 74) (ws' := MW ad cT im me (upd (va_cpy ro ro (r0 + 8) (r0 + 7) 7) (r0 + 6) (((va_cpy ro ro (r0 + 8) (r0 + 7) 7) (r0 + 6)) - 1)) up ho di os ob od on pg tm ts tr ki mo po sr ld st ow nu go la so se sl sp tp rd pn) F hw 3 0 (r0 + 6) rfl rfl rfl (by omega) (by decide) d_M_taken_74 rfl (fun H locs hw => ?_)
        refine lv_iload_n (pc := 75) F.1 F.2.1 d_M_taken_75 rfl (lv_at hl 1 rfl) ?_
        refine W.widen (k := 0) (n := 0) (by decide) (by decide) ?_
        exact ret (ro (r0 + 7)) (upd (va_cpy ro ro (r0 + 8) (r0 + 7) 7) (r0 + 6) (((va_cpy ro ro (r0 + 8) (r0 + 7) 7) (r0 + 6)) - 1)) _ _ 76 _ (by unfold F_M_taken <;> rw [if_neg h1] <;> rfl) hw d_M_taken_76
      · have h3 : ¬ 7 ≤ i := fun z9 => h3 ((nI_leI (a := 7) (b := i) (by omega) (by omega)).mpr z9)
        refine lv_aload_n (pc := 32) F.1 F.2.1 d_M_taken_32 rfl (lv_at hl 2 rfl) ?_
        refine x_get (pc := 33) (v := .ref (ad 3)) F hw 0 2 (fun x h => List.mem_cons_of_mem _ (in_M x h)) rfl rfl (by decide) (List.mem_cons_of_mem _ m_525) rfl d_M_taken_33 ?_
        refine lv_iload_n (pc := 36) F.1 F.2.1 d_M_taken_36 rfl (lv_at hl 3 rfl) ?_
        refine lv_bipush (pc := 37) (v := 7) F.1 F.2.1 d_M_taken_37 (by decide) ?_
        refine lv_iadd (pc := 39) F.1 F.2.1 d_M_taken_39 ?_
        refine x_top (y := nI (r0 + 7)) (x_add2 rfl rfl) ?_
        refine lv_iload_n (pc := 40) F.1 F.2.1 d_M_taken_40 rfl (lv_at hl 0 rfl) ?_
        refine lv_iadd (pc := 41) F.1 F.2.1 d_M_taken_41 ?_
        refine x_top (y := nI (r0 + 7 + i)) (x_add2 rfl rfl) ?_
        refine lv_aload_n (pc := 42) F.1 F.2.1 d_M_taken_42 rfl (lv_at hl 2 rfl) ?_
        refine x_get (pc := 43) (v := .ref (ad 3)) F hw 0 2 (fun x h => List.mem_cons_of_mem _ (in_M x h)) rfl rfl (by decide) (List.mem_cons_of_mem _ m_525) rfl d_M_taken_43 ?_
        refine lv_iload_n (pc := 46) F.1 F.2.1 d_M_taken_46 rfl (lv_at hl 3 rfl) ?_
        refine lv_bipush (pc := 47) (v := 7) F.1 F.2.1 d_M_taken_47 (by decide) ?_
        refine lv_iadd (pc := 49) F.1 F.2.1 d_M_taken_49 ?_
        refine x_top (y := nI (r0 + 7)) (x_add2 rfl rfl) ?_
        refine lv_iload_n (pc := 50) F.1 F.2.1 d_M_taken_50 rfl (lv_at hl 0 rfl) ?_
        refine lv_iadd (pc := 51) F.1 F.2.1 d_M_taken_51 ?_
        refine x_top (y := nI (r0 + 7 + i)) (x_add2 rfl rfl) ?_
        refine lv_iconst (pc := 52) (v := 1) F.1 F.2.1 d_M_taken_52 (by decide) ?_
        refine lv_iadd (pc := 53) F.1 F.2.1 d_M_taken_53 ?_
        refine x_top (y := nI (r0 + 7 + i + 1)) (x_add2 rfl rfl) ?_
        refine x_iald (pc := 54) F hw 3 0 (r0 + 7 + i + 1) rfl rfl rfl (by omega) (by decide) d_M_taken_54 ?_
        refine x_top (y := ro (r0 + 8 + i)) ((pk_cpy_out (by omega)).trans (congrArg ro (by omega))) ?_
        refine x_iast (pc := 55) (ws' := MW ad cT im me (upd (va_cpy ro ro (r0 + 8) (r0 + 7) i) (r0 + 7 + i) (ro (r0 + 8 + i))) up ho di os ob od on pg tm ts tr ki mo po sr ld st ow nu go la so se sl sp tp rd pn) F hw 3 0 (r0 + 7 + i) rfl rfl rfl (by omega) (by decide) d_M_taken_55 rfl (fun H locs hw => ?_)
        refine lv_iinc (pc := 56) (k := 0) (v := nI (i + 1)) (lv' := [(3, .int (nI (i + 1))), (2, .int (ro (r0 + 7))), (0, .ref (ad 0)), (1, .int (nI r0))]) F.1 F.2.1 d_M_taken_56 hl rfl (x_add2 rfl rfl) (by decide) rfl (fun ls hl => ?_)
        refine lv_goto (pc := 59) (tgt := 26) F.1 F.2.1 d_M_taken_59 rfl ?_
        have ec4 : upd (va_cpy ro ro (r0 + 8) (r0 + 7) i) (r0 + 7 + i) (ro (r0 + 8 + i)) = va_cpy ro ro (r0 + 8) (r0 + 7) (i + 1) := cpy_s2 (by omega) (congrArg ro (by omega))
        rw [ec4] at hw
        exact ih2 _ (by omega) (i + 1) _ _ _ rfl (by omega) hl hw
    have hw := hw
    exact loop2 _ 0 _ _ _ rfl (by omega) hl (by rw [cpy_0]; exact hw)
  · refine lv_iconst (pc := 12) (v := (-1)) F.1 F.2.1 d_M_taken_12 (by decide) ?_
    refine W.widen (k := 0) (n := 0) (by decide) (by decide) ?_
    exact ret (-1) ro _ _ 13 _ (by unfold F_M_taken <;> rw [if_pos h1] <;> rfl) hw d_M_taken_13
def F_M_create (im : Nat → Int32) (me : Nat → Int32) (ro : Nat → Int32) (up : Nat → Bool) (ho : Nat → Bool) (ow : Int32) (nu : Int32) (go : Bool) (host : Int32) : Int32 × (Nat → Bool) × (Nat → Int32) × (Nat → Int32) × Int32 × Int32 :=
  match F_M_isHost host with
  | (r2, _) =>
    if r2 = 0 then
      ((-1), (ho, me, ro, ow, nu))
    else
      if up (tN host) = true then
        if ho 0 = true then
          ((-2), (ho, me, ro, ow, nu))
        else
          if ho 1 = true then
            ((-2), (ho, me, ro, ow, nu))
          else
            if go = true then
              ((-2), (ho, me, ro, ow, nu))
            else
              (nu + 1, (va_up ho (tN host) true, va_cpy im me 0 (64 * tN host) 64, va_cpy (fun _ => 0) ro 0 (60 * tN host) 60, nI (tN host), nu + 1))
      else
        ((-2), (ho, me, ro, ow, nu))
set_option maxHeartbeats 4000000 in
set_option maxRecDepth 100000 in
theorem c_M_create (l : Launch) (D : va_G) (cT : Nat → ClassId) (ad : Nat → Nat) (im : Nat → Int32) (me : Nat → Int32) (ro : Nat → Int32) (up : Nat → Bool) (ho : Nat → Bool) (di : Nat → Int32) (os : Nat → Bool) (ob : Nat → Int32) (od : Nat → Int32) (on : Nat → Int32) (pg : Nat → Int32) (tm : Nat → Int32) (ts : Nat → Int32) (tr : Nat → Int32) (ki : Nat → Int32) (mo : Nat → Int32) (po : Nat → Int32) (sr : Nat → Int32) (ld : Nat → Int32) (st : Bool) (ow : Int32) (nu : Int32) (go : Bool) (la : Int32) (so : Int32) (se : Int32) (sl : Int32) (sp : Int32) (tp : Bool) (rd : Bool) (pn : Int32) (host : Int32)  : Cti l y_M_create ws_M_create { frames := 1, cells := 0, slots := 0, locals := 20 } D vwCl (TYS cT) [.ref (ad 0), .int host] (MW ad cT im me ro up ho di os ob od on pg tm ts tr ki mo po sr ld st ow nu go la so se sl sp tp rd pn) (fun (rr : Int32) (uu : (Nat → Bool) × (Nat → Int32) × (Nat → Int32) × Int32 × Int32) => F_M_create im me ro up ho ow nu go host = (rr, uu)) (fun (u : (Nat → Bool) × (Nat → Int32) × (Nat → Int32) × Int32 × Int32) => MW ad cT im u.2.1 u.2.2.1 up u.1 di os ob od on pg tm ts tr ki mo po sr ld st u.2.2.2.1 u.2.2.2.2 go la so se sl sp tp rd pn) 0 0 := by
  refine x_ini (cc := b_M_create) (maxL := 3) (by decide) rfl (Nat.le_of_ble_eq_true rfl) ?_
  intro p e s m args below meth c A ls Q F hl hw ret
  have hl : lv_has ls 3 [(0, .ref (ad 0)), (1, .int host)] := hl
  refine lv_iload_n (pc := 0) F.1 F.2.1 d_M_create_0 rfl (lv_at hl 1 rfl) ?_
  refine x_calli (pc := 1) (wr := [(ad 0, .inr (6, [.ref (ad 1), .ref (ad 2), .ref (ad 3), .ref (ad 4), .ref (ad 5), .int (bI st), .ref (ad 6), .int ow, .int nu, .ref (ad 7), .ref (ad 8), .ref (ad 9), .ref (ad 10), .int (bI go), .int la, .int so, .ref (ad 11), .int se, .int sl, .int sp, .int (bI tp), .int (bI rd), .ref (ad 12), .ref (ad 13), .ref (ad 14), .int pn, .ref (ad 15), .ref (ad 16), .ref (ad 17), .ref (ad 18), .ref (ad 19)])), (ad 1, .inl (cT 0, 64, .inl im)), (ad 2, .inl (cT 0, 128, .inl me)), (ad 3, .inl (cT 0, 120, .inl ro)), (ad 4, .inl (cT 1, 2, .inl (fun j => bI (up j)))), (ad 5, .inl (cT 1, 2, .inl (fun j => bI (ho j)))), (ad 6, .inl (cT 0, 8, .inl di)), (ad 7, .inl (cT 1, 2, .inl (fun j => bI (os j)))), (ad 8, .inl (cT 0, 2, .inl ob)), (ad 9, .inl (cT 0, 2, .inl od)), (ad 10, .inl (cT 0, 2, .inl on)), (ad 11, .inl (cT 0, 8, .inl pg)), (ad 12, .inl (cT 0, 64, .inl tm)), (ad 13, .inl (cT 0, 8, .inl ts)), (ad 14, .inl (cT 0, 60, .inl tr)), (ad 15, .inl (cT 0, 9, .inl ki)), (ad 16, .inl (cT 0, 9, .inl mo)), (ad 17, .inl (cT 0, 9, .inl po)), (ad 18, .inl (cT 0, 9, .inl sr)), (ad 19, .inl (cT 0, 540, .inl ld))]) hw [] [0, 1, 2, 3, 4, 5, 6, 7, 8, 9, 10, 11, 12, 13, 14, 15, 16, 17, 18, 19] rfl rfl (by decide) (by decide) (va_runS (As := [.int host]) (rest := []) F (c_M_isHost l D cT host  _) (x_cwS 1 F (g_all y_M_isHost b_M_isHost 1 (some .boolean) (List.mem_cons_of_mem _ m_628)) rfl rfl rfl (F.2.2.2.2 _ (List.mem_cons_of_mem _ m_40)) (F.2.2.2.2 _ (List.mem_cons_of_mem _ m_626)) (F.2.2.2.2 _ (List.mem_cons_of_mem _ m_627)) (by decide +kernel) ⟨by decide, by decide⟩) (hw.preS [] (by decide) rfl) rfl rfl hl.1 rfl (lv_room (Nat.le_of_ble_eq_true rfl)) d_M_create_1 ⟨by decide, by decide⟩) (fun r2 u3 H locs e1 hw => ?_)
  have hw : Hw D vwCl (TYS cT) A s (MW ad cT im me ro up ho di os ob od on pg tm ts tr ki mo po sr ld st ow nu go la so se sl sp tp rd pn) H locs := hw
  refine lv_if_ne (pc := 4) (tgt := 9) F.1 F.2.1 d_M_create_4 rfl (fun h4 => ?_) (fun h4 => ?_)
  · have nh := isHost_nat e1 h4
    have nhb := nh.2
    refine lv_aload_n (pc := 9) F.1 F.2.1 d_M_create_9 rfl (lv_at hl 0 rfl) ?_
    refine x_get (pc := 10) (v := .ref (ad 4)) F hw 0 3 (fun x h => List.mem_cons_of_mem _ (in_M x h)) rfl rfl (by decide) (List.mem_cons_of_mem _ m_526) rfl d_M_create_10 ?_
    refine lv_iload_n (pc := 13) F.1 F.2.1 d_M_create_13 rfl (lv_at hl 1 rfl) ?_
    refine x_top (y := nI (tN host)) nh.1 ?_
    refine x_zaldB (pc := 14) F hw 4 1 (tN host) rfl rfl rfl (by omega) (by decide) d_M_create_14 ?_
    refine x_ifeqB (pc := 15) (tgt := 43) F d_M_create_15 rfl (fun h5 => ?_) (fun h5 => ?_)
    · refine lv_bipush (pc := 43) (v := (-2)) F.1 F.2.1 d_M_create_43 (by decide) ?_
      refine W.widen (k := 0) (n := 0) (by decide) (by decide) ?_
      exact ret (-2) (ho, me, ro, ow, nu) _ _ 45 _ (by unfold F_M_create <;> rw [e1] <;> (try dsimp only) <;> rw [if_neg h4] <;> rw [if_neg h5] <;> rfl) hw d_M_create_45
    · refine lv_aload_n (pc := 18) F.1 F.2.1 d_M_create_18 rfl (lv_at hl 0 rfl) ?_
      refine x_get (pc := 19) (v := .ref (ad 5)) F hw 0 4 (fun x h => List.mem_cons_of_mem _ (in_M x h)) rfl rfl (by decide) (List.mem_cons_of_mem _ m_527) rfl d_M_create_19 ?_
      refine lv_iconst (pc := 22) (v := 0) F.1 F.2.1 d_M_create_22 (by decide) ?_
      refine x_zaldB (pc := 23) F hw 5 1 (0) rfl rfl rfl (by omega) (by decide) d_M_create_23 ?_
      refine x_ifneB (pc := 24) (tgt := 43) F d_M_create_24 rfl (fun h6 => ?_) (fun h6 => ?_)
      · refine lv_bipush (pc := 43) (v := (-2)) F.1 F.2.1 d_M_create_43 (by decide) ?_
        refine W.widen (k := 0) (n := 0) (by decide) (by decide) ?_
        exact ret (-2) (ho, me, ro, ow, nu) _ _ 45 _ (by unfold F_M_create <;> rw [e1] <;> (try dsimp only) <;> rw [if_neg h4] <;> rw [if_pos h5] <;> rw [if_pos h6] <;> rfl) hw d_M_create_45
      · refine lv_aload_n (pc := 27) F.1 F.2.1 d_M_create_27 rfl (lv_at hl 0 rfl) ?_
        refine x_get (pc := 28) (v := .ref (ad 5)) F hw 0 4 (fun x h => List.mem_cons_of_mem _ (in_M x h)) rfl rfl (by decide) (List.mem_cons_of_mem _ m_527) rfl d_M_create_28 ?_
        refine lv_iconst (pc := 31) (v := 1) F.1 F.2.1 d_M_create_31 (by decide) ?_
        refine x_zaldB (pc := 32) F hw 5 1 (1) rfl rfl rfl (by omega) (by decide) d_M_create_32 ?_
        refine x_ifneB (pc := 33) (tgt := 43) F d_M_create_33 rfl (fun h7 => ?_) (fun h7 => ?_)
        · refine lv_bipush (pc := 43) (v := (-2)) F.1 F.2.1 d_M_create_43 (by decide) ?_
          refine W.widen (k := 0) (n := 0) (by decide) (by decide) ?_
          exact ret (-2) (ho, me, ro, ow, nu) _ _ 45 _ (by unfold F_M_create <;> rw [e1] <;> (try dsimp only) <;> rw [if_neg h4] <;> rw [if_pos h5] <;> rw [if_neg h6] <;> rw [if_pos h7] <;> rfl) hw d_M_create_45
        · refine lv_aload_n (pc := 36) F.1 F.2.1 d_M_create_36 rfl (lv_at hl 0 rfl) ?_
          refine x_get (pc := 37) (v := .int (bI go)) F hw 0 13 (fun x h => List.mem_cons_of_mem _ (in_M x h)) rfl rfl (by decide) (List.mem_cons_of_mem _ m_536) rfl d_M_create_37 ?_
          refine x_ifeqB (pc := 40) (tgt := 46) F d_M_create_40 rfl (fun h8 => ?_) (fun h8 => ?_)
          · refine lv_aload_n (pc := 46) F.1 F.2.1 d_M_create_46 rfl (lv_at hl 0 rfl) ?_
            refine x_get (pc := 47) (v := .ref (ad 5)) F hw 0 4 (fun x h => List.mem_cons_of_mem _ (in_M x h)) rfl rfl (by decide) (List.mem_cons_of_mem _ m_527) rfl d_M_create_47 ?_
            refine lv_iload_n (pc := 50) F.1 F.2.1 d_M_create_50 rfl (lv_at hl 1 rfl) ?_
            refine x_top (y := nI (tN host)) nh.1 ?_
            refine lv_iconst (pc := 51) (v := 1) F.1 F.2.1 d_M_create_51 (by decide) ?_
            refine x_zastB (pc := 52) (b := true) (ws' := MW ad cT im me ro up (va_up ho (tN host) true) di os ob od on pg tm ts tr ki mo po sr ld st ow nu go la so se sl sp tp rd pn) F hw 5 1 (tN host) rfl rfl rfl (by omega) (by decide) d_M_create_52 rfl (fun H locs hw => ?_)
            refine lv_iconst (pc := 53) (v := 0) F.1 F.2.1 d_M_create_53 (by decide) ?_
            refine lv_istore_n (pc := 54) (lv' := [(2, .int 0), (0, .ref (ad 0)), (1, .int host)]) F.1 F.2.1 d_M_create_54 rfl hl (by decide) rfl (fun ls hl => ?_)
            have loop9 : ∀ (kf : Nat) (i : Nat) (ls : Array Slot) (H : Heap) (locs : List Loc), 64 - i = kf → (i ≤ 64) → lv_has ls 3 [(2, .int (nI i)), (0, .ref (ad 0)), (1, .int host)] → Hw D vwCl (TYS cT) A s (MW ad cT im (va_cpy im me 0 (64 * tN host) i) ro up (va_up ho (tN host) true) di os ob od on pg tm ts tr ki mo po sr ld st ow nu go la so se sl sp tp rd pn) H locs → W p l e { frames := 1, cells := 0, slots := 0, locals := 20 } s m args below meth c H locs 0 0 Q (F0 m 55 ls []) := by
              intro kf
              induction kf using Nat.strongRecOn with
              | _ kf ih9 =>
              intro i ls H locs hk hi hl hw
              refine lv_iload_n (pc := 55) F.1 F.2.1 d_M_create_55 rfl (lv_at hl 0 rfl) ?_
              refine lv_bipush (pc := 56) (v := 64) F.1 F.2.1 d_M_create_56 (by decide) ?_
              refine lv_icmp_ge (pc := 58) (tgt := 84) F.1 F.2.1 d_M_create_58 rfl (fun h10 => ?_) (fun h10 => ?_)
              · have h10 := (nI_leI (a := 64) (b := i) (by omega) (by omega)).mp h10
                obtain rfl : i = 64 := by omega
                refine lv_iconst (pc := 84) (v := 0) F.1 F.2.1 d_M_create_84 (by decide) ?_
                refine lv_istore_n (pc := 85) (lv' := [(2, .int 0), (0, .ref (ad 0)), (1, .int host)]) F.1 F.2.1 d_M_create_85 rfl hl (by decide) rfl (fun ls hl => ?_)
                have loop11 : ∀ (kf : Nat) (i : Nat) (ls : Array Slot) (H : Heap) (locs : List Loc), 60 - i = kf → (i ≤ 60) → lv_has ls 3 [(2, .int (nI i)), (0, .ref (ad 0)), (1, .int host)] → Hw D vwCl (TYS cT) A s (MW ad cT im (va_cpy im me 0 (64 * tN host) 64) (va_cpy (fun _ => 0) ro 0 (60 * tN host) i) up (va_up ho (tN host) true) di os ob od on pg tm ts tr ki mo po sr ld st ow nu go la so se sl sp tp rd pn) H locs → W p l e { frames := 1, cells := 0, slots := 0, locals := 20 } s m args below meth c H locs 0 0 Q (F0 m 86 ls []) := by
                  intro kf
                  induction kf using Nat.strongRecOn with
                  | _ kf ih11 =>
                  intro i ls H locs hk hi hl hw
                  refine lv_iload_n (pc := 86) F.1 F.2.1 d_M_create_86 rfl (lv_at hl 0 rfl) ?_
                  refine lv_bipush (pc := 87) (v := 60) F.1 F.2.1 d_M_create_87 (by decide) ?_
                  refine lv_icmp_ge (pc := 89) (tgt := 110) F.1 F.2.1 d_M_create_89 rfl (fun h12 => ?_) (fun h12 => ?_)
                  · have h12 := (nI_leI (a := 60) (b := i) (by omega) (by omega)).mp h12
                    obtain rfl : i = 60 := by omega
                    refine lv_aload_n (pc := 110) F.1 F.2.1 d_M_create_110 rfl (lv_at hl 1 rfl) ?_
                    refine lv_iload_n (pc := 111) F.1 F.2.1 d_M_create_111 rfl (lv_at hl 2 rfl) ?_
                    refine x_top (y := nI (tN host)) nh.1 ?_
                    refine x_put (pc := 112) (v := .int (nI (tN host))) (ty := .int) (ws' := MW ad cT im (va_cpy im me 0 (64 * tN host) 64) (va_cpy (fun _ => 0) ro 0 (60 * tN host) 60) up (va_up ho (tN host) true) di os ob od on pg tm ts tr ki mo po sr ld st (nI (tN host)) nu go la so se sl sp tp rd pn) F hw 0 7 (fun x h => List.mem_cons_of_mem _ (in_M x h)) ty_M tyok_M nm_M rfl rfl (by decide) (List.mem_cons_of_mem _ m_530) rfl (by decide +kernel) rfl rfl (Nat.le_of_ble_eq_true rfl) d_M_create_112 rfl (fun H locs hw => ?_)
                    refine lv_aload_n (pc := 115) F.1 F.2.1 d_M_create_115 rfl (lv_at hl 1 rfl) ?_
                    refine lv_dup (pc := 116) F.1 F.2.1 d_M_create_116 rfl ?_
                    refine x_get (pc := 117) (v := .int nu) F hw 0 8 (fun x h => List.mem_cons_of_mem _ (in_M x h)) rfl rfl (by decide) (List.mem_cons_of_mem _ m_531) rfl d_M_create_117 ?_
                    refine lv_iconst (pc := 120) (v := 1) F.1 F.2.1 d_M_create_120 (by decide) ?_
                    refine lv_iadd (pc := 121) F.1 F.2.1 d_M_create_121 ?_
                    refine x_put (pc := 122) (v := .int (nu + 1)) (ty := .int) (ws' := MW ad cT im (va_cpy im me 0 (64 * tN host) 64) (va_cpy (fun _ => 0) ro 0 (60 * tN host) 60) up (va_up ho (tN host) true) di os ob od on pg tm ts tr ki mo po sr ld st (nI (tN host)) (nu + 1) go la so se sl sp tp rd pn) F hw 0 8 (fun x h => List.mem_cons_of_mem _ (in_M x h)) ty_M tyok_M nm_M rfl rfl (by decide) (List.mem_cons_of_mem _ m_531) rfl (by decide +kernel) rfl rfl (Nat.le_of_ble_eq_true rfl) d_M_create_122 rfl (fun H locs hw => ?_)
                    refine lv_aload_n (pc := 125) F.1 F.2.1 d_M_create_125 rfl (lv_at hl 1 rfl) ?_
                    refine x_get (pc := 126) (v := .int (nu + 1)) F hw 0 8 (fun x h => List.mem_cons_of_mem _ (in_M x h)) rfl rfl (by decide) (List.mem_cons_of_mem _ m_531) rfl d_M_create_126 ?_
                    refine W.widen (k := 0) (n := 0) (by decide) (by decide) ?_
                    exact ret (nu + 1) (va_up ho (tN host) true, va_cpy im me 0 (64 * tN host) 64, va_cpy (fun _ => 0) ro 0 (60 * tN host) 60, nI (tN host), nu + 1) _ _ 129 _ (by unfold F_M_create <;> rw [e1] <;> (try dsimp only) <;> rw [if_neg h4] <;> rw [if_pos h5] <;> rw [if_neg h6] <;> rw [if_neg h7] <;> rw [if_neg h8] <;> rfl) hw d_M_create_129
                  · have h12 : ¬ 60 ≤ i := fun z9 => h12 ((nI_leI (a := 60) (b := i) (by omega) (by omega)).mpr z9)
                    refine lv_aload_n (pc := 92) F.1 F.2.1 d_M_create_92 rfl (lv_at hl 1 rfl) ?_
                    refine x_get (pc := 93) (v := .ref (ad 3)) F hw 0 2 (fun x h => List.mem_cons_of_mem _ (in_M x h)) rfl rfl (by decide) (List.mem_cons_of_mem _ m_525) rfl d_M_create_93 ?_
                    refine lv_bipush (pc := 96) (v := 60) F.1 F.2.1 d_M_create_96 (by decide) ?_
                    refine lv_iload_n (pc := 98) F.1 F.2.1 d_M_create_98 rfl (lv_at hl 2 rfl) ?_
                    refine x_top (y := nI (tN host)) nh.1 ?_
                    refine lv_imul (pc := 99) F.1 F.2.1 d_M_create_99 ?_
                    refine x_top (y := nI (60 * tN host)) (x_mul2 rfl rfl) ?_
                    refine lv_iload_n (pc := 100) F.1 F.2.1 d_M_create_100 rfl (lv_at hl 0 rfl) ?_
                    refine lv_iadd (pc := 101) F.1 F.2.1 d_M_create_101 ?_
                    refine x_top (y := nI (60 * tN host + i)) (x_add2 rfl rfl) ?_
                    refine lv_iconst (pc := 102) (v := 0) F.1 F.2.1 d_M_create_102 (by decide) ?_
                    refine x_iast (pc := 103) (ws' := MW ad cT im (va_cpy im me 0 (64 * tN host) 64) (upd (va_cpy (fun _ => 0) ro 0 (60 * tN host) i) (60 * tN host + i) 0) up (va_up ho (tN host) true) di os ob od on pg tm ts tr ki mo po sr ld st ow nu go la so se sl sp tp rd pn) F hw 3 0 (60 * tN host + i) rfl rfl rfl (by omega) (by decide) d_M_create_103 rfl (fun H locs hw => ?_)
                    refine lv_iinc (pc := 104) (k := 0) (v := nI (i + 1)) (lv' := [(2, .int (nI (i + 1))), (0, .ref (ad 0)), (1, .int host)]) F.1 F.2.1 d_M_create_104 hl rfl (x_add2 rfl rfl) (by decide) rfl (fun ls hl => ?_)
                    refine lv_goto (pc := 107) (tgt := 86) F.1 F.2.1 d_M_create_107 rfl ?_
                    have ec13 : upd (va_cpy (fun _ => 0) ro 0 (60 * tN host) i) (60 * tN host + i) 0 = va_cpy (fun _ => 0) ro 0 (60 * tN host) (i + 1) := cpy_s2 (by omega) rfl
                    rw [ec13] at hw
                    exact ih11 _ (by omega) (i + 1) _ _ _ rfl (by omega) hl hw
                have hw := hw
                exact loop11 _ 0 _ _ _ rfl (by omega) hl (by rw [cpy_0]; exact hw)
              · have h10 : ¬ 64 ≤ i := fun z9 => h10 ((nI_leI (a := 64) (b := i) (by omega) (by omega)).mpr z9)
                refine lv_aload_n (pc := 61) F.1 F.2.1 d_M_create_61 rfl (lv_at hl 1 rfl) ?_
                refine x_get (pc := 62) (v := .ref (ad 2)) F hw 0 1 (fun x h => List.mem_cons_of_mem _ (in_M x h)) rfl rfl (by decide) (List.mem_cons_of_mem _ m_524) rfl d_M_create_62 ?_
                refine lv_bipush (pc := 65) (v := 64) F.1 F.2.1 d_M_create_65 (by decide) ?_
                refine lv_iload_n (pc := 67) F.1 F.2.1 d_M_create_67 rfl (lv_at hl 2 rfl) ?_
                refine x_top (y := nI (tN host)) nh.1 ?_
                refine lv_imul (pc := 68) F.1 F.2.1 d_M_create_68 ?_
                refine x_top (y := nI (64 * tN host)) (x_mul2 rfl rfl) ?_
                refine lv_iload_n (pc := 69) F.1 F.2.1 d_M_create_69 rfl (lv_at hl 0 rfl) ?_
                refine lv_iadd (pc := 70) F.1 F.2.1 d_M_create_70 ?_
                refine x_top (y := nI (64 * tN host + i)) (x_add2 rfl rfl) ?_
                refine lv_aload_n (pc := 71) F.1 F.2.1 d_M_create_71 rfl (lv_at hl 1 rfl) ?_
                refine x_get (pc := 72) (v := .ref (ad 1)) F hw 0 0 (fun x h => List.mem_cons_of_mem _ (in_M x h)) rfl rfl (by decide) (List.mem_cons_of_mem _ m_523) rfl d_M_create_72 ?_
                refine lv_iload_n (pc := 75) F.1 F.2.1 d_M_create_75 rfl (lv_at hl 0 rfl) ?_
                refine x_iald (pc := 76) F hw 1 0 (i) rfl rfl rfl (by omega) (by decide) d_M_create_76 ?_
                refine x_iast (pc := 77) (ws' := MW ad cT im (upd (va_cpy im me 0 (64 * tN host) i) (64 * tN host + i) (im i)) ro up (va_up ho (tN host) true) di os ob od on pg tm ts tr ki mo po sr ld st ow nu go la so se sl sp tp rd pn) F hw 2 0 (64 * tN host + i) rfl rfl rfl (by omega) (by decide) d_M_create_77 rfl (fun H locs hw => ?_)
                refine lv_iinc (pc := 78) (k := 0) (v := nI (i + 1)) (lv' := [(2, .int (nI (i + 1))), (0, .ref (ad 0)), (1, .int host)]) F.1 F.2.1 d_M_create_78 hl rfl (x_add2 rfl rfl) (by decide) rfl (fun ls hl => ?_)
                refine lv_goto (pc := 81) (tgt := 55) F.1 F.2.1 d_M_create_81 rfl ?_
                have ec14 : upd (va_cpy im me 0 (64 * tN host) i) (64 * tN host + i) (im i) = va_cpy im me 0 (64 * tN host) (i + 1) := cpy_s2 (by omega) (congrArg im (by omega))
                rw [ec14] at hw
                exact ih9 _ (by omega) (i + 1) _ _ _ rfl (by omega) hl hw
            have hw := hw
            exact loop9 _ 0 _ _ _ rfl (by omega) hl (by rw [cpy_0]; exact hw)
          · refine lv_bipush (pc := 43) (v := (-2)) F.1 F.2.1 d_M_create_43 (by decide) ?_
            refine W.widen (k := 0) (n := 0) (by decide) (by decide) ?_
            exact ret (-2) (ho, me, ro, ow, nu) _ _ 45 _ (by unfold F_M_create <;> rw [e1] <;> (try dsimp only) <;> rw [if_neg h4] <;> rw [if_pos h5] <;> rw [if_neg h6] <;> rw [if_neg h7] <;> rw [if_pos h8] <;> rfl) hw d_M_create_45
  · refine lv_iconst (pc := 7) (v := (-1)) F.1 F.2.1 d_M_create_7 (by decide) ?_
    refine W.widen (k := 0) (n := 0) (by decide) (by decide) ?_
    exact ret (-1) (ho, me, ro, ow, nu) _ _ 8 _ (by unfold F_M_create <;> rw [e1] <;> (try dsimp only) <;> rw [if_pos h4] <;> rfl) hw d_M_create_8
