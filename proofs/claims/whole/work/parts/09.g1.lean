def F_G_isBelow (x : Int32) (y : Int32) : Int32 × Unit :=
  if x < 0 then
    (0, ())
  else
    if y ≤ x then
      (0, ())
    else
      (1, ())
set_option maxHeartbeats 4000000 in
set_option maxRecDepth 100000 in
theorem c_G_isBelow (l : Launch) (D : va_G) (cT : Nat → ClassId) (x : Int32) (y : Int32)  : Cti l y_G_isBelow ws_G_isBelow { frames := 0, cells := 0, slots := 0, locals := 0 } D vwCl (TYS cT) [.int x, .int y] [] (fun (rr : Int32) (uu : Unit) => F_G_isBelow x y = (rr, uu)) (fun (u : Unit) => []) 0 0 := by
  refine x_inz (cc := b_G_isBelow) (maxL := 2) (by decide) rfl (Nat.le_of_ble_eq_true rfl) ?_
  intro p e s m args below meth c A ls Q F hl hw ret
  have hl : lv_has ls 2 [(0, .int x), (1, .int y)] := hl
  refine lv_iload_n (pc := 0) F.1 F.2.1 d_G_isBelow_0 rfl (lv_at hl 0 rfl) ?_
  refine lv_if_lt (pc := 1) (tgt := 13) F.1 F.2.1 d_G_isBelow_1 rfl (fun h1 => ?_) (fun h1 => ?_)
  · refine lv_iconst (pc := 13) (v := 0) F.1 F.2.1 d_G_isBelow_13 (by decide) ?_
    refine W.widen (k := 0) (n := 0) (by decide) (by decide) ?_
    exact ret 0 () _ _ 14 _ rfl (by unfold F_G_isBelow <;> rw [if_pos h1] <;> rfl) hw d_G_isBelow_14
  · refine lv_iload_n (pc := 4) F.1 F.2.1 d_G_isBelow_4 rfl (lv_at hl 0 rfl) ?_
    refine lv_iload_n (pc := 5) F.1 F.2.1 d_G_isBelow_5 rfl (lv_at hl 1 rfl) ?_
    refine lv_icmp_ge (pc := 6) (tgt := 13) F.1 F.2.1 d_G_isBelow_6 rfl (fun h2 => ?_) (fun h2 => ?_)
    · refine lv_iconst (pc := 13) (v := 0) F.1 F.2.1 d_G_isBelow_13 (by decide) ?_
      refine W.widen (k := 0) (n := 0) (by decide) (by decide) ?_
      exact ret 0 () _ _ 14 _ rfl (by unfold F_G_isBelow <;> rw [if_neg h1] <;> rw [if_pos h2] <;> rfl) hw d_G_isBelow_14
    · refine lv_iconst (pc := 9) (v := 1) F.1 F.2.1 d_G_isBelow_9 (by decide) ?_
      refine lv_goto (pc := 10) (tgt := 14) F.1 F.2.1 d_G_isBelow_10 rfl ?_
      refine W.widen (k := 0) (n := 0) (by decide) (by decide) ?_
      exact ret 1 () _ _ 14 _ rfl (by unfold F_G_isBelow <;> rw [if_neg h1] <;> rw [if_neg h2] <;> rfl) hw d_G_isBelow_14
theorem isBelow_nat {x y r : Int32} {u : Unit} {b : Nat} (hy : y = nI b) (hb : b < 2 ^ 31) (e : F_G_isBelow x y = (r, u)) (hr : ¬ r = 0) : isN x b := by
  unfold F_G_isBelow at e
  by_cases h0 : x < 0
  · rw [if_pos h0] at e
    cases e
    exact absurd rfl hr
  · rw [if_neg h0] at e
    by_cases h1 : y ≤ x
    · rw [if_pos h1] at e
      cases e
      exact absurd rfl hr
    · rw [hy] at h1
      exact isN_ltn h0 hb h1
def F_G_other (h0 : Nat) : Int32 × Unit :=
  (nI (1 - h0), ())
set_option maxHeartbeats 4000000 in
set_option maxRecDepth 100000 in
theorem c_G_other (l : Launch) (D : va_G) (cT : Nat → ClassId) (h0 : Nat) (hh : h0 < 2) : Cti l y_G_other ws_G_other { frames := 0, cells := 0, slots := 0, locals := 0 } D vwCl (TYS cT) [.int (nI h0)] [] (fun (rr : Int32) (uu : Unit) => F_G_other h0 = (rr, uu)) (fun (u : Unit) => []) 0 0 := by
  refine x_ini (cc := b_G_other) (maxL := 1) (by decide) rfl (Nat.le_of_ble_eq_true rfl) ?_
  intro p e s m args below meth c A ls Q F hl hw ret
  have hl : lv_has ls 1 [(0, .int (nI h0))] := hl
  refine lv_iconst (pc := 0) (v := 1) F.1 F.2.1 d_G_other_0 (by decide) ?_
  refine lv_iload_n (pc := 1) F.1 F.2.1 d_G_other_1 rfl (lv_at hl 0 rfl) ?_
  refine lv_isub (pc := 2) F.1 F.2.1 d_G_other_2 ?_
  refine x_top (y := nI (1 - h0)) (x_sub2 rfl rfl (by omega)) ?_
  refine W.widen (k := 0) (n := 0) (by decide) (by decide) ?_
  exact ret (nI (1 - h0)) () _ _ 3 _ (by unfold F_G_other <;> rfl) hw d_G_other_3
def F_A_haltsOrWaits (rq : Bool) (x : Int32) : Int32 × Unit :=
  if x = 0 then
    if rq = true then
      (1, ())
    else
      (1, ())
  else
    if x = 14 then
      if rq = true then
        (1, ())
      else
        (1, ())
    else
      if x = 15 then
        if rq = true then
          (1, ())
        else
          (1, ())
      else
        if rq = true then
          if x = 11 then
            (1, ())
          else
            if x = 12 then
              (1, ())
            else
              (0, ())
        else
          (0, ())
set_option maxHeartbeats 4000000 in
set_option maxRecDepth 100000 in
theorem c_A_haltsOrWaits (l : Launch) (D : va_G) (cT : Nat → ClassId) (qm : Nat) (qme : Nat) (qrg : Nat) (qip : Nat) (qou : Nat) (ct : Int32) (ti : Int32) (ni : Int32) (no : Int32) (rt : Int32) (rq : Bool) (rb : Int32) (rwd : Int32) (me : Nat → Int32) (rg : Nat → Int32) (ip : Nat → Int32) (ou : Nat → Int32) (x : Int32)  : Cti l y_A_haltsOrWaits ws_A_haltsOrWaits { frames := 0, cells := 0, slots := 0, locals := 0 } D vwCl (TYS cT) [.ref qm, .int x] [(qm, .inr (2, [.ref qme, .ref qrg, .ref qip, .ref qou, .int ct, .int ti, .int ni, .int no, .int rt, .int (bI rq), .int rb, .int rwd])), (qme, .inl (cT 0, 64, .inl me)), (qrg, .inl (cT 0, 4, .inl rg)), (qip, .inl (cT 0, 8, .inl ip)), (qou, .inl (cT 0, 40, .inl ou))] (fun (rr : Int32) (uu : Unit) => F_A_haltsOrWaits rq x = (rr, uu)) (fun (u : Unit) => [(qm, .inr (2, [.ref qme, .ref qrg, .ref qip, .ref qou, .int ct, .int ti, .int ni, .int no, .int rt, .int (bI rq), .int rb, .int rwd])), (qme, .inl (cT 0, 64, .inl me)), (qrg, .inl (cT 0, 4, .inl rg)), (qip, .inl (cT 0, 8, .inl ip)), (qou, .inl (cT 0, 40, .inl ou))]) 0 0 := by
  refine x_inz (cc := b_A_haltsOrWaits) (maxL := 4) (by decide) rfl (Nat.le_of_ble_eq_true rfl) ?_
  intro p e s m args below meth c A ls Q F hl hw ret
  have hl : lv_has ls 4 [(0, .ref qm), (1, .int x)] := hl
  refine lv_iload_n (pc := 0) F.1 F.2.1 d_A_haltsOrWaits_0 rfl (lv_at hl 1 rfl) ?_
  refine lv_if_eq (pc := 1) (tgt := 16) F.1 F.2.1 d_A_haltsOrWaits_1 rfl (fun h1 => ?_) (fun h1 => ?_)
  · refine lv_iconst (pc := 16) (v := 1) F.1 F.2.1 d_A_haltsOrWaits_16 (by decide) ?_
    refine lv_goto (pc := 17) (tgt := 21) F.1 F.2.1 d_A_haltsOrWaits_17 rfl ?_
    refine lv_istore_n (pc := 21) (lv' := [(2, .int 1), (0, .ref qm), (1, .int x)]) F.1 F.2.1 d_A_haltsOrWaits_21 rfl hl (by decide) rfl (fun ls hl => ?_)
    refine lv_aload_n (pc := 22) F.1 F.2.1 d_A_haltsOrWaits_22 rfl (lv_at hl 1 rfl) ?_
    refine x_get (pc := 23) (v := .int (bI rq)) F hw 0 9 (fun x h => List.mem_cons_of_mem _ (in_A x h)) rfl rfl (by decide) (List.mem_cons_of_mem _ m_136) rfl d_A_haltsOrWaits_23 ?_
    refine x_ifeqB (pc := 26) (tgt := 45) F d_A_haltsOrWaits_26 rfl (fun h2 => ?_) (fun h2 => ?_)
    · refine lv_iconst (pc := 45) (v := 0) F.1 F.2.1 d_A_haltsOrWaits_45 (by decide) ?_
      refine lv_istore_n (pc := 46) (lv' := [(3, .int 0), (2, .int 1), (0, .ref qm), (1, .int x)]) F.1 F.2.1 d_A_haltsOrWaits_46 rfl hl (by decide) rfl (fun ls hl => ?_)
      refine lv_iload_n (pc := 47) F.1 F.2.1 d_A_haltsOrWaits_47 rfl (lv_at hl 1 rfl) ?_
      refine lv_if_ne (pc := 48) (tgt := 55) F.1 F.2.1 d_A_haltsOrWaits_48 rfl (fun _ => ?_) (fun h => absurd h (by decide))
      refine lv_iconst (pc := 55) (v := 1) F.1 F.2.1 d_A_haltsOrWaits_55 (by decide) ?_
      refine lv_goto (pc := 56) (tgt := 60) F.1 F.2.1 d_A_haltsOrWaits_56 rfl ?_
      refine W.widen (k := 0) (n := 0) (by decide) (by decide) ?_
      exact ret 1 () _ _ 60 _ rfl (by unfold F_A_haltsOrWaits <;> rw [if_pos h1] <;> rw [if_neg h2] <;> rfl) hw d_A_haltsOrWaits_60
    · refine lv_iload_n (pc := 29) F.1 F.2.1 d_A_haltsOrWaits_29 rfl (lv_at hl 2 rfl) ?_
      refine lv_bipush (pc := 30) (v := 11) F.1 F.2.1 d_A_haltsOrWaits_30 (by decide) ?_
      refine lv_icmp_eq (pc := 32) (tgt := 41) F.1 F.2.1 d_A_haltsOrWaits_32 rfl (fun h3 => (by rw [h1] at h3; exact absurd h3 (by decide))) (fun _ => ?_)
      refine lv_iload_n (pc := 35) F.1 F.2.1 d_A_haltsOrWaits_35 rfl (lv_at hl 2 rfl) ?_
      refine lv_bipush (pc := 36) (v := 12) F.1 F.2.1 d_A_haltsOrWaits_36 (by decide) ?_
      refine lv_icmp_ne (pc := 38) (tgt := 45) F.1 F.2.1 d_A_haltsOrWaits_38 rfl (fun _ => ?_) (fun h4 => (by rw [h1] at h4; exact absurd h4 (by decide)))
      refine lv_iconst (pc := 45) (v := 0) F.1 F.2.1 d_A_haltsOrWaits_45 (by decide) ?_
      refine lv_istore_n (pc := 46) (lv' := [(3, .int 0), (2, .int 1), (0, .ref qm), (1, .int x)]) F.1 F.2.1 d_A_haltsOrWaits_46 rfl hl (by decide) rfl (fun ls hl => ?_)
      refine lv_iload_n (pc := 47) F.1 F.2.1 d_A_haltsOrWaits_47 rfl (lv_at hl 1 rfl) ?_
      refine lv_if_ne (pc := 48) (tgt := 55) F.1 F.2.1 d_A_haltsOrWaits_48 rfl (fun _ => ?_) (fun h => absurd h (by decide))
      refine lv_iconst (pc := 55) (v := 1) F.1 F.2.1 d_A_haltsOrWaits_55 (by decide) ?_
      refine lv_goto (pc := 56) (tgt := 60) F.1 F.2.1 d_A_haltsOrWaits_56 rfl ?_
      refine W.widen (k := 0) (n := 0) (by decide) (by decide) ?_
      exact ret 1 () _ _ 60 _ rfl (by unfold F_A_haltsOrWaits <;> rw [if_pos h1] <;> rw [if_pos h2] <;> rfl) hw d_A_haltsOrWaits_60
  · refine lv_iload_n (pc := 4) F.1 F.2.1 d_A_haltsOrWaits_4 rfl (lv_at hl 1 rfl) ?_
    refine lv_bipush (pc := 5) (v := 14) F.1 F.2.1 d_A_haltsOrWaits_5 (by decide) ?_
    refine lv_icmp_eq (pc := 7) (tgt := 16) F.1 F.2.1 d_A_haltsOrWaits_7 rfl (fun h5 => ?_) (fun h5 => ?_)
    · refine lv_iconst (pc := 16) (v := 1) F.1 F.2.1 d_A_haltsOrWaits_16 (by decide) ?_
      refine lv_goto (pc := 17) (tgt := 21) F.1 F.2.1 d_A_haltsOrWaits_17 rfl ?_
      refine lv_istore_n (pc := 21) (lv' := [(2, .int 1), (0, .ref qm), (1, .int x)]) F.1 F.2.1 d_A_haltsOrWaits_21 rfl hl (by decide) rfl (fun ls hl => ?_)
      refine lv_aload_n (pc := 22) F.1 F.2.1 d_A_haltsOrWaits_22 rfl (lv_at hl 1 rfl) ?_
      refine x_get (pc := 23) (v := .int (bI rq)) F hw 0 9 (fun x h => List.mem_cons_of_mem _ (in_A x h)) rfl rfl (by decide) (List.mem_cons_of_mem _ m_136) rfl d_A_haltsOrWaits_23 ?_
      refine x_ifeqB (pc := 26) (tgt := 45) F d_A_haltsOrWaits_26 rfl (fun h6 => ?_) (fun h6 => ?_)
      · refine lv_iconst (pc := 45) (v := 0) F.1 F.2.1 d_A_haltsOrWaits_45 (by decide) ?_
        refine lv_istore_n (pc := 46) (lv' := [(3, .int 0), (2, .int 1), (0, .ref qm), (1, .int x)]) F.1 F.2.1 d_A_haltsOrWaits_46 rfl hl (by decide) rfl (fun ls hl => ?_)
        refine lv_iload_n (pc := 47) F.1 F.2.1 d_A_haltsOrWaits_47 rfl (lv_at hl 1 rfl) ?_
        refine lv_if_ne (pc := 48) (tgt := 55) F.1 F.2.1 d_A_haltsOrWaits_48 rfl (fun _ => ?_) (fun h => absurd h (by decide))
        refine lv_iconst (pc := 55) (v := 1) F.1 F.2.1 d_A_haltsOrWaits_55 (by decide) ?_
        refine lv_goto (pc := 56) (tgt := 60) F.1 F.2.1 d_A_haltsOrWaits_56 rfl ?_
        refine W.widen (k := 0) (n := 0) (by decide) (by decide) ?_
        exact ret 1 () _ _ 60 _ rfl (by unfold F_A_haltsOrWaits <;> rw [if_neg h1] <;> rw [if_pos h5] <;> rw [if_neg h6] <;> rfl) hw d_A_haltsOrWaits_60
      · refine lv_iload_n (pc := 29) F.1 F.2.1 d_A_haltsOrWaits_29 rfl (lv_at hl 2 rfl) ?_
        refine lv_bipush (pc := 30) (v := 11) F.1 F.2.1 d_A_haltsOrWaits_30 (by decide) ?_
        refine lv_icmp_eq (pc := 32) (tgt := 41) F.1 F.2.1 d_A_haltsOrWaits_32 rfl (fun h7 => (by rw [h5] at h7; exact absurd h7 (by decide))) (fun _ => ?_)
        refine lv_iload_n (pc := 35) F.1 F.2.1 d_A_haltsOrWaits_35 rfl (lv_at hl 2 rfl) ?_
        refine lv_bipush (pc := 36) (v := 12) F.1 F.2.1 d_A_haltsOrWaits_36 (by decide) ?_
        refine lv_icmp_ne (pc := 38) (tgt := 45) F.1 F.2.1 d_A_haltsOrWaits_38 rfl (fun _ => ?_) (fun h8 => (by rw [h5] at h8; exact absurd h8 (by decide)))
        refine lv_iconst (pc := 45) (v := 0) F.1 F.2.1 d_A_haltsOrWaits_45 (by decide) ?_
        refine lv_istore_n (pc := 46) (lv' := [(3, .int 0), (2, .int 1), (0, .ref qm), (1, .int x)]) F.1 F.2.1 d_A_haltsOrWaits_46 rfl hl (by decide) rfl (fun ls hl => ?_)
        refine lv_iload_n (pc := 47) F.1 F.2.1 d_A_haltsOrWaits_47 rfl (lv_at hl 1 rfl) ?_
        refine lv_if_ne (pc := 48) (tgt := 55) F.1 F.2.1 d_A_haltsOrWaits_48 rfl (fun _ => ?_) (fun h => absurd h (by decide))
        refine lv_iconst (pc := 55) (v := 1) F.1 F.2.1 d_A_haltsOrWaits_55 (by decide) ?_
        refine lv_goto (pc := 56) (tgt := 60) F.1 F.2.1 d_A_haltsOrWaits_56 rfl ?_
        refine W.widen (k := 0) (n := 0) (by decide) (by decide) ?_
        exact ret 1 () _ _ 60 _ rfl (by unfold F_A_haltsOrWaits <;> rw [if_neg h1] <;> rw [if_pos h5] <;> rw [if_pos h6] <;> rfl) hw d_A_haltsOrWaits_60
    · refine lv_iload_n (pc := 10) F.1 F.2.1 d_A_haltsOrWaits_10 rfl (lv_at hl 1 rfl) ?_
      refine lv_bipush (pc := 11) (v := 15) F.1 F.2.1 d_A_haltsOrWaits_11 (by decide) ?_
      refine lv_icmp_ne (pc := 13) (tgt := 20) F.1 F.2.1 d_A_haltsOrWaits_13 rfl (fun h9 => ?_) (fun h9 => ?_)
      · refine lv_iconst (pc := 20) (v := 0) F.1 F.2.1 d_A_haltsOrWaits_20 (by decide) ?_
        refine lv_istore_n (pc := 21) (lv' := [(2, .int 0), (0, .ref qm), (1, .int x)]) F.1 F.2.1 d_A_haltsOrWaits_21 rfl hl (by decide) rfl (fun ls hl => ?_)
        refine lv_aload_n (pc := 22) F.1 F.2.1 d_A_haltsOrWaits_22 rfl (lv_at hl 1 rfl) ?_
        refine x_get (pc := 23) (v := .int (bI rq)) F hw 0 9 (fun x h => List.mem_cons_of_mem _ (in_A x h)) rfl rfl (by decide) (List.mem_cons_of_mem _ m_136) rfl d_A_haltsOrWaits_23 ?_
        refine x_ifeqB (pc := 26) (tgt := 45) F d_A_haltsOrWaits_26 rfl (fun h10 => ?_) (fun h10 => ?_)
        · refine lv_iconst (pc := 45) (v := 0) F.1 F.2.1 d_A_haltsOrWaits_45 (by decide) ?_
          refine lv_istore_n (pc := 46) (lv' := [(3, .int 0), (2, .int 0), (0, .ref qm), (1, .int x)]) F.1 F.2.1 d_A_haltsOrWaits_46 rfl hl (by decide) rfl (fun ls hl => ?_)
          refine lv_iload_n (pc := 47) F.1 F.2.1 d_A_haltsOrWaits_47 rfl (lv_at hl 1 rfl) ?_
          refine lv_if_ne (pc := 48) (tgt := 55) F.1 F.2.1 d_A_haltsOrWaits_48 rfl (fun h => absurd h (by decide)) (fun _ => ?_)
          refine lv_iload_n (pc := 51) F.1 F.2.1 d_A_haltsOrWaits_51 rfl (lv_at hl 0 rfl) ?_
          refine lv_if_eq (pc := 52) (tgt := 59) F.1 F.2.1 d_A_haltsOrWaits_52 rfl (fun _ => ?_) (fun h => absurd h (by decide))
          refine lv_iconst (pc := 59) (v := 0) F.1 F.2.1 d_A_haltsOrWaits_59 (by decide) ?_
          refine W.widen (k := 0) (n := 0) (by decide) (by decide) ?_
          exact ret 0 () _ _ 60 _ rfl (by unfold F_A_haltsOrWaits <;> rw [if_neg h1] <;> rw [if_neg h5] <;> rw [if_neg h9] <;> rw [if_neg h10] <;> rfl) hw d_A_haltsOrWaits_60
        · refine lv_iload_n (pc := 29) F.1 F.2.1 d_A_haltsOrWaits_29 rfl (lv_at hl 2 rfl) ?_
          refine lv_bipush (pc := 30) (v := 11) F.1 F.2.1 d_A_haltsOrWaits_30 (by decide) ?_
          refine lv_icmp_eq (pc := 32) (tgt := 41) F.1 F.2.1 d_A_haltsOrWaits_32 rfl (fun h11 => ?_) (fun h11 => ?_)
          · refine lv_iconst (pc := 41) (v := 1) F.1 F.2.1 d_A_haltsOrWaits_41 (by decide) ?_
            refine lv_goto (pc := 42) (tgt := 46) F.1 F.2.1 d_A_haltsOrWaits_42 rfl ?_
            refine lv_istore_n (pc := 46) (lv' := [(3, .int 1), (2, .int 0), (0, .ref qm), (1, .int x)]) F.1 F.2.1 d_A_haltsOrWaits_46 rfl hl (by decide) rfl (fun ls hl => ?_)
            refine lv_iload_n (pc := 47) F.1 F.2.1 d_A_haltsOrWaits_47 rfl (lv_at hl 1 rfl) ?_
            refine lv_if_ne (pc := 48) (tgt := 55) F.1 F.2.1 d_A_haltsOrWaits_48 rfl (fun h => absurd h (by decide)) (fun _ => ?_)
            refine lv_iload_n (pc := 51) F.1 F.2.1 d_A_haltsOrWaits_51 rfl (lv_at hl 0 rfl) ?_
            refine lv_if_eq (pc := 52) (tgt := 59) F.1 F.2.1 d_A_haltsOrWaits_52 rfl (fun h => absurd h (by decide)) (fun _ => ?_)
            refine lv_iconst (pc := 55) (v := 1) F.1 F.2.1 d_A_haltsOrWaits_55 (by decide) ?_
            refine lv_goto (pc := 56) (tgt := 60) F.1 F.2.1 d_A_haltsOrWaits_56 rfl ?_
            refine W.widen (k := 0) (n := 0) (by decide) (by decide) ?_
            exact ret 1 () _ _ 60 _ rfl (by unfold F_A_haltsOrWaits <;> rw [if_neg h1] <;> rw [if_neg h5] <;> rw [if_neg h9] <;> rw [if_pos h10] <;> rw [if_pos h11] <;> rfl) hw d_A_haltsOrWaits_60
          · refine lv_iload_n (pc := 35) F.1 F.2.1 d_A_haltsOrWaits_35 rfl (lv_at hl 2 rfl) ?_
            refine lv_bipush (pc := 36) (v := 12) F.1 F.2.1 d_A_haltsOrWaits_36 (by decide) ?_
            refine lv_icmp_ne (pc := 38) (tgt := 45) F.1 F.2.1 d_A_haltsOrWaits_38 rfl (fun h12 => ?_) (fun h12 => ?_)
            · refine lv_iconst (pc := 45) (v := 0) F.1 F.2.1 d_A_haltsOrWaits_45 (by decide) ?_
              refine lv_istore_n (pc := 46) (lv' := [(3, .int 0), (2, .int 0), (0, .ref qm), (1, .int x)]) F.1 F.2.1 d_A_haltsOrWaits_46 rfl hl (by decide) rfl (fun ls hl => ?_)
              refine lv_iload_n (pc := 47) F.1 F.2.1 d_A_haltsOrWaits_47 rfl (lv_at hl 1 rfl) ?_
              refine lv_if_ne (pc := 48) (tgt := 55) F.1 F.2.1 d_A_haltsOrWaits_48 rfl (fun h => absurd h (by decide)) (fun _ => ?_)
              refine lv_iload_n (pc := 51) F.1 F.2.1 d_A_haltsOrWaits_51 rfl (lv_at hl 0 rfl) ?_
              refine lv_if_eq (pc := 52) (tgt := 59) F.1 F.2.1 d_A_haltsOrWaits_52 rfl (fun _ => ?_) (fun h => absurd h (by decide))
              refine lv_iconst (pc := 59) (v := 0) F.1 F.2.1 d_A_haltsOrWaits_59 (by decide) ?_
              refine W.widen (k := 0) (n := 0) (by decide) (by decide) ?_
              exact ret 0 () _ _ 60 _ rfl (by unfold F_A_haltsOrWaits <;> rw [if_neg h1] <;> rw [if_neg h5] <;> rw [if_neg h9] <;> rw [if_pos h10] <;> rw [if_neg h11] <;> rw [if_neg h12] <;> rfl) hw d_A_haltsOrWaits_60
            · refine lv_iconst (pc := 41) (v := 1) F.1 F.2.1 d_A_haltsOrWaits_41 (by decide) ?_
              refine lv_goto (pc := 42) (tgt := 46) F.1 F.2.1 d_A_haltsOrWaits_42 rfl ?_
              refine lv_istore_n (pc := 46) (lv' := [(3, .int 1), (2, .int 0), (0, .ref qm), (1, .int x)]) F.1 F.2.1 d_A_haltsOrWaits_46 rfl hl (by decide) rfl (fun ls hl => ?_)
              refine lv_iload_n (pc := 47) F.1 F.2.1 d_A_haltsOrWaits_47 rfl (lv_at hl 1 rfl) ?_
              refine lv_if_ne (pc := 48) (tgt := 55) F.1 F.2.1 d_A_haltsOrWaits_48 rfl (fun h => absurd h (by decide)) (fun _ => ?_)
              refine lv_iload_n (pc := 51) F.1 F.2.1 d_A_haltsOrWaits_51 rfl (lv_at hl 0 rfl) ?_
              refine lv_if_eq (pc := 52) (tgt := 59) F.1 F.2.1 d_A_haltsOrWaits_52 rfl (fun h => absurd h (by decide)) (fun _ => ?_)
              refine lv_iconst (pc := 55) (v := 1) F.1 F.2.1 d_A_haltsOrWaits_55 (by decide) ?_
              refine lv_goto (pc := 56) (tgt := 60) F.1 F.2.1 d_A_haltsOrWaits_56 rfl ?_
              refine W.widen (k := 0) (n := 0) (by decide) (by decide) ?_
              exact ret 1 () _ _ 60 _ rfl (by unfold F_A_haltsOrWaits <;> rw [if_neg h1] <;> rw [if_neg h5] <;> rw [if_neg h9] <;> rw [if_pos h10] <;> rw [if_neg h11] <;> rw [if_pos h12] <;> rfl) hw d_A_haltsOrWaits_60
      · refine lv_iconst (pc := 16) (v := 1) F.1 F.2.1 d_A_haltsOrWaits_16 (by decide) ?_
        refine lv_goto (pc := 17) (tgt := 21) F.1 F.2.1 d_A_haltsOrWaits_17 rfl ?_
        refine lv_istore_n (pc := 21) (lv' := [(2, .int 1), (0, .ref qm), (1, .int x)]) F.1 F.2.1 d_A_haltsOrWaits_21 rfl hl (by decide) rfl (fun ls hl => ?_)
        refine lv_aload_n (pc := 22) F.1 F.2.1 d_A_haltsOrWaits_22 rfl (lv_at hl 1 rfl) ?_
        refine x_get (pc := 23) (v := .int (bI rq)) F hw 0 9 (fun x h => List.mem_cons_of_mem _ (in_A x h)) rfl rfl (by decide) (List.mem_cons_of_mem _ m_136) rfl d_A_haltsOrWaits_23 ?_
        refine x_ifeqB (pc := 26) (tgt := 45) F d_A_haltsOrWaits_26 rfl (fun h13 => ?_) (fun h13 => ?_)
        · refine lv_iconst (pc := 45) (v := 0) F.1 F.2.1 d_A_haltsOrWaits_45 (by decide) ?_
          refine lv_istore_n (pc := 46) (lv' := [(3, .int 0), (2, .int 1), (0, .ref qm), (1, .int x)]) F.1 F.2.1 d_A_haltsOrWaits_46 rfl hl (by decide) rfl (fun ls hl => ?_)
          refine lv_iload_n (pc := 47) F.1 F.2.1 d_A_haltsOrWaits_47 rfl (lv_at hl 1 rfl) ?_
          refine lv_if_ne (pc := 48) (tgt := 55) F.1 F.2.1 d_A_haltsOrWaits_48 rfl (fun _ => ?_) (fun h => absurd h (by decide))
          refine lv_iconst (pc := 55) (v := 1) F.1 F.2.1 d_A_haltsOrWaits_55 (by decide) ?_
          refine lv_goto (pc := 56) (tgt := 60) F.1 F.2.1 d_A_haltsOrWaits_56 rfl ?_
          refine W.widen (k := 0) (n := 0) (by decide) (by decide) ?_
          exact ret 1 () _ _ 60 _ rfl (by unfold F_A_haltsOrWaits <;> rw [if_neg h1] <;> rw [if_neg h5] <;> rw [if_pos h9] <;> rw [if_neg h13] <;> rfl) hw d_A_haltsOrWaits_60
        · refine lv_iload_n (pc := 29) F.1 F.2.1 d_A_haltsOrWaits_29 rfl (lv_at hl 2 rfl) ?_
          refine lv_bipush (pc := 30) (v := 11) F.1 F.2.1 d_A_haltsOrWaits_30 (by decide) ?_
          refine lv_icmp_eq (pc := 32) (tgt := 41) F.1 F.2.1 d_A_haltsOrWaits_32 rfl (fun h14 => (by rw [h9] at h14; exact absurd h14 (by decide))) (fun _ => ?_)
          refine lv_iload_n (pc := 35) F.1 F.2.1 d_A_haltsOrWaits_35 rfl (lv_at hl 2 rfl) ?_
          refine lv_bipush (pc := 36) (v := 12) F.1 F.2.1 d_A_haltsOrWaits_36 (by decide) ?_
          refine lv_icmp_ne (pc := 38) (tgt := 45) F.1 F.2.1 d_A_haltsOrWaits_38 rfl (fun _ => ?_) (fun h15 => (by rw [h9] at h15; exact absurd h15 (by decide)))
          refine lv_iconst (pc := 45) (v := 0) F.1 F.2.1 d_A_haltsOrWaits_45 (by decide) ?_
          refine lv_istore_n (pc := 46) (lv' := [(3, .int 0), (2, .int 1), (0, .ref qm), (1, .int x)]) F.1 F.2.1 d_A_haltsOrWaits_46 rfl hl (by decide) rfl (fun ls hl => ?_)
          refine lv_iload_n (pc := 47) F.1 F.2.1 d_A_haltsOrWaits_47 rfl (lv_at hl 1 rfl) ?_
          refine lv_if_ne (pc := 48) (tgt := 55) F.1 F.2.1 d_A_haltsOrWaits_48 rfl (fun _ => ?_) (fun h => absurd h (by decide))
          refine lv_iconst (pc := 55) (v := 1) F.1 F.2.1 d_A_haltsOrWaits_55 (by decide) ?_
          refine lv_goto (pc := 56) (tgt := 60) F.1 F.2.1 d_A_haltsOrWaits_56 rfl ?_
          refine W.widen (k := 0) (n := 0) (by decide) (by decide) ?_
          exact ret 1 () _ _ 60 _ rfl (by unfold F_A_haltsOrWaits <;> rw [if_neg h1] <;> rw [if_neg h5] <;> rw [if_pos h9] <;> rw [if_pos h13] <;> rfl) hw d_A_haltsOrWaits_60
def F_A_address (rg : Nat → Int32) (v : Int32) : Int32 × Unit :=
  (nI (lo 6 ((rg (lo 2 (v >>> (6 &&& 31)))) + (nI (lo 6 (v >>> (8 &&& 31)))))), ())
set_option maxHeartbeats 4000000 in
set_option maxRecDepth 100000 in
theorem c_A_address (l : Launch) (D : va_G) (cT : Nat → ClassId) (qm : Nat) (qme : Nat) (qrg : Nat) (qip : Nat) (qou : Nat) (ct : Int32) (ti : Int32) (ni : Int32) (no : Int32) (rt : Int32) (rq : Bool) (rb : Int32) (rwd : Int32) (me : Nat → Int32) (rg : Nat → Int32) (ip : Nat → Int32) (ou : Nat → Int32) (v : Int32)  : Cti l y_A_address ws_A_address { frames := 0, cells := 0, slots := 0, locals := 0 } D vwCl (TYS cT) [.ref qm, .int v] [(qm, .inr (2, [.ref qme, .ref qrg, .ref qip, .ref qou, .int ct, .int ti, .int ni, .int no, .int rt, .int (bI rq), .int rb, .int rwd])), (qme, .inl (cT 0, 64, .inl me)), (qrg, .inl (cT 0, 4, .inl rg)), (qip, .inl (cT 0, 8, .inl ip)), (qou, .inl (cT 0, 40, .inl ou))] (fun (rr : Int32) (uu : Unit) => F_A_address rg v = (rr, uu)) (fun (u : Unit) => [(qm, .inr (2, [.ref qme, .ref qrg, .ref qip, .ref qou, .int ct, .int ti, .int ni, .int no, .int rt, .int (bI rq), .int rb, .int rwd])), (qme, .inl (cT 0, 64, .inl me)), (qrg, .inl (cT 0, 4, .inl rg)), (qip, .inl (cT 0, 8, .inl ip)), (qou, .inl (cT 0, 40, .inl ou))]) 0 0 := by
  refine x_ini (cc := b_A_address) (maxL := 2) (by decide) rfl (Nat.le_of_ble_eq_true rfl) ?_
  intro p e s m args below meth c A ls Q F hl hw ret
  have hl : lv_has ls 2 [(0, .ref qm), (1, .int v)] := hl
  refine lv_aload_n (pc := 0) F.1 F.2.1 d_A_address_0 rfl (lv_at hl 0 rfl) ?_
  refine x_get (pc := 1) (v := .ref qrg) F hw 0 1 (fun x h => List.mem_cons_of_mem _ (in_A x h)) rfl rfl (by decide) (List.mem_cons_of_mem _ m_120) rfl d_A_address_1 ?_
  refine lv_iload_n (pc := 4) F.1 F.2.1 d_A_address_4 rfl (lv_at hl 1 rfl) ?_
  refine lv_bipush (pc := 5) (v := 6) F.1 F.2.1 d_A_address_5 (by decide) ?_
  refine lv_ishr (pc := 7) F.1 F.2.1 d_A_address_7 ?_
  refine lv_iconst (pc := 8) (v := 3) F.1 F.2.1 d_A_address_8 (by decide) ?_
  refine lv_iand (pc := 9) F.1 F.2.1 d_A_address_9 ?_
  refine x_top (y := nI (lo 2 (v >>> (6 &&& 31)))) (lo_and 2 _ _ (by decide)) ?_
  have b1 : lo 2 (v >>> (6 &&& 31)) < 4 := lo_lt 2 _
  refine x_iald (pc := 10) F hw 2 0 (lo 2 (v >>> (6 &&& 31))) rfl rfl rfl (by omega) (by decide) d_A_address_10 ?_
  refine lv_iload_n (pc := 11) F.1 F.2.1 d_A_address_11 rfl (lv_at hl 1 rfl) ?_
  refine lv_bipush (pc := 12) (v := 8) F.1 F.2.1 d_A_address_12 (by decide) ?_
  refine lv_ishr (pc := 14) F.1 F.2.1 d_A_address_14 ?_
  refine lv_bipush (pc := 15) (v := 63) F.1 F.2.1 d_A_address_15 (by decide) ?_
  refine lv_iand (pc := 17) F.1 F.2.1 d_A_address_17 ?_
  refine x_top (y := nI (lo 6 (v >>> (8 &&& 31)))) (lo_and 6 _ _ (by decide)) ?_
  have b2 : lo 6 (v >>> (8 &&& 31)) < 64 := lo_lt 6 _
  refine lv_iadd (pc := 18) F.1 F.2.1 d_A_address_18 ?_
  refine lv_bipush (pc := 19) (v := 63) F.1 F.2.1 d_A_address_19 (by decide) ?_
  refine lv_iand (pc := 21) F.1 F.2.1 d_A_address_21 ?_
  refine x_top (y := nI (lo 6 ((rg (lo 2 (v >>> (6 &&& 31)))) + (nI (lo 6 (v >>> (8 &&& 31))))))) (lo_and 6 _ _ (by decide)) ?_
  have b3 : lo 6 ((rg (lo 2 (v >>> (6 &&& 31)))) + (nI (lo 6 (v >>> (8 &&& 31))))) < 64 := lo_lt 6 _
  refine W.widen (k := 0) (n := 0) (by decide) (by decide) ?_
  exact ret (nI (lo 6 ((rg (lo 2 (v >>> (6 &&& 31)))) + (nI (lo 6 (v >>> (8 &&& 31))))))) () _ _ 22 _ (by unfold F_A_address <;> rfl) hw d_A_address_22
def F_A_request (x : Int32) (y : Int32) : Bool × Int32 × Int32 :=
  (true, x, y)
set_option maxHeartbeats 4000000 in
set_option maxRecDepth 100000 in
theorem c_A_request (l : Launch) (D : va_G) (cT : Nat → ClassId) (qm : Nat) (qme : Nat) (qrg : Nat) (qip : Nat) (qou : Nat) (ct : Int32) (ti : Int32) (ni : Int32) (no : Int32) (rt : Int32) (rq : Bool) (rb : Int32) (rwd : Int32) (me : Nat → Int32) (rg : Nat → Int32) (ip : Nat → Int32) (ou : Nat → Int32) (x : Int32) (y : Int32)  : Ctv l y_A_request ws_A_request { frames := 0, cells := 0, slots := 0, locals := 0 } D vwCl (TYS cT) [.ref qm, .int x, .int y] [(qm, .inr (2, [.ref qme, .ref qrg, .ref qip, .ref qou, .int ct, .int ti, .int ni, .int no, .int rt, .int (bI rq), .int rb, .int rwd])), (qme, .inl (cT 0, 64, .inl me)), (qrg, .inl (cT 0, 4, .inl rg)), (qip, .inl (cT 0, 8, .inl ip)), (qou, .inl (cT 0, 40, .inl ou))] (fun (uu : Bool × Int32 × Int32) => F_A_request x y = uu) (fun (u : Bool × Int32 × Int32) => [(qm, .inr (2, [.ref qme, .ref qrg, .ref qip, .ref qou, .int ct, .int ti, .int ni, .int no, .int rt, .int (bI u.1), .int (u.2.1), .int (u.2.2)])), (qme, .inl (cT 0, 64, .inl me)), (qrg, .inl (cT 0, 4, .inl rg)), (qip, .inl (cT 0, 8, .inl ip)), (qou, .inl (cT 0, 40, .inl ou))]) 0 0 := by
  refine x_inv (cc := b_A_request) (maxL := 3) (by decide) rfl (Nat.le_of_ble_eq_true rfl) ?_
  intro p e s m args below meth c A ls Q F hin hl hw ret
  have hl : lv_has ls 3 [(0, .ref qm), (1, .int x), (2, .int y)] := hl
  refine lv_aload_n (pc := 0) F.1 F.2.1 d_A_request_0 rfl (lv_at hl 0 rfl) ?_
  refine lv_iconst (pc := 1) (v := 1) F.1 F.2.1 d_A_request_1 (by decide) ?_
  refine x_put (pc := 2) (v := .int (bI true)) (ty := .boolean) (ws' := [(qm, .inr (2, [.ref qme, .ref qrg, .ref qip, .ref qou, .int ct, .int ti, .int ni, .int no, .int rt, .int (bI true), .int rb, .int rwd])), (qme, .inl (cT 0, 64, .inl me)), (qrg, .inl (cT 0, 4, .inl rg)), (qip, .inl (cT 0, 8, .inl ip)), (qou, .inl (cT 0, 40, .inl ou))]) F hw 0 9 (fun x h => List.mem_cons_of_mem _ (in_A x h)) ty_A tyok_A nm_A rfl rfl (by decide) (List.mem_cons_of_mem _ m_136) rfl (by decide +kernel) (bI_nar true) (bI_fit true) (Nat.le_of_ble_eq_true rfl) d_A_request_2 rfl (fun H locs hw => ?_)
  refine lv_aload_n (pc := 5) F.1 F.2.1 d_A_request_5 rfl (lv_at hl 0 rfl) ?_
  refine lv_iload_n (pc := 6) F.1 F.2.1 d_A_request_6 rfl (lv_at hl 1 rfl) ?_
  refine x_put (pc := 7) (v := .int x) (ty := .int) (ws' := [(qm, .inr (2, [.ref qme, .ref qrg, .ref qip, .ref qou, .int ct, .int ti, .int ni, .int no, .int rt, .int (bI true), .int x, .int rwd])), (qme, .inl (cT 0, 64, .inl me)), (qrg, .inl (cT 0, 4, .inl rg)), (qip, .inl (cT 0, 8, .inl ip)), (qou, .inl (cT 0, 40, .inl ou))]) F hw 0 10 (fun x h => List.mem_cons_of_mem _ (in_A x h)) ty_A tyok_A nm_A rfl rfl (by decide) (List.mem_cons_of_mem _ m_138) rfl (by decide +kernel) rfl rfl (Nat.le_of_ble_eq_true rfl) d_A_request_7 rfl (fun H locs hw => ?_)
  refine lv_aload_n (pc := 10) F.1 F.2.1 d_A_request_10 rfl (lv_at hl 0 rfl) ?_
  refine lv_iload_n (pc := 11) F.1 F.2.1 d_A_request_11 rfl (lv_at hl 2 rfl) ?_
  refine x_put (pc := 12) (v := .int y) (ty := .int) (ws' := [(qm, .inr (2, [.ref qme, .ref qrg, .ref qip, .ref qou, .int ct, .int ti, .int ni, .int no, .int rt, .int (bI true), .int x, .int y])), (qme, .inl (cT 0, 64, .inl me)), (qrg, .inl (cT 0, 4, .inl rg)), (qip, .inl (cT 0, 8, .inl ip)), (qou, .inl (cT 0, 40, .inl ou))]) F hw 0 11 (fun x h => List.mem_cons_of_mem _ (in_A x h)) ty_A tyok_A nm_A rfl rfl (by decide) (List.mem_cons_of_mem _ m_140) rfl (by decide +kernel) rfl rfl (Nat.le_of_ble_eq_true rfl) d_A_request_12 rfl (fun H locs hw => ?_)
  refine W.widen (k := 0) (n := 0) (by decide) (by decide) ?_
  exact ret (true, x, y) _ _ 15 _ (by unfold F_A_request <;> rfl) hw d_A_request_15
def F_A_write (no : Int32) (ou : Nat → Int32) (x : Int32) : (Nat → Int32) × Int32 :=
  if 40 ≤ (nI (tN no)) then
    (ou, no)
  else
    (upd ou (tN no) x, nI (tN no + 1))
set_option maxHeartbeats 4000000 in
set_option maxRecDepth 100000 in
theorem c_A_write (l : Launch) (D : va_G) (cT : Nat → ClassId) (qm : Nat) (qme : Nat) (qrg : Nat) (qip : Nat) (qou : Nat) (ct : Int32) (ti : Int32) (ni : Int32) (no : Int32) (rt : Int32) (rq : Bool) (rb : Int32) (rwd : Int32) (me : Nat → Int32) (rg : Nat → Int32) (ip : Nat → Int32) (ou : Nat → Int32) (x : Int32) (n0 : isN no 41) : Ctv l y_A_write ws_A_write { frames := 0, cells := 0, slots := 0, locals := 0 } D vwCl (TYS cT) [.ref qm, .int x] [(qm, .inr (2, [.ref qme, .ref qrg, .ref qip, .ref qou, .int ct, .int ti, .int ni, .int no, .int rt, .int (bI rq), .int rb, .int rwd])), (qme, .inl (cT 0, 64, .inl me)), (qrg, .inl (cT 0, 4, .inl rg)), (qip, .inl (cT 0, 8, .inl ip)), (qou, .inl (cT 0, 40, .inl ou))] (fun (uu : (Nat → Int32) × Int32) => F_A_write no ou x = uu) (fun (u : (Nat → Int32) × Int32) => [(qm, .inr (2, [.ref qme, .ref qrg, .ref qip, .ref qou, .int ct, .int ti, .int ni, .int (u.2), .int rt, .int (bI rq), .int rb, .int rwd])), (qme, .inl (cT 0, 64, .inl me)), (qrg, .inl (cT 0, 4, .inl rg)), (qip, .inl (cT 0, 8, .inl ip)), (qou, .inl (cT 0, 40, .inl u.1))]) 0 0 := by
  refine x_inv (cc := b_A_write) (maxL := 2) (by decide) rfl (Nat.le_of_ble_eq_true rfl) ?_
  intro p e s m args below meth c A ls Q F hin hl hw ret
  have hl : lv_has ls 2 [(0, .ref qm), (1, .int x)] := hl
  have n0b := n0.2
  refine lv_aload_n (pc := 0) F.1 F.2.1 d_A_write_0 rfl (lv_at hl 0 rfl) ?_
  refine x_get (pc := 1) (v := .int no) F hw 0 7 (fun x h => List.mem_cons_of_mem _ (in_A x h)) rfl rfl (by decide) (List.mem_cons_of_mem _ m_132) rfl d_A_write_1 ?_
  refine x_top (y := nI (tN no)) n0.1 ?_
  refine lv_bipush (pc := 4) (v := 40) F.1 F.2.1 d_A_write_4 (by decide) ?_
  refine lv_icmp_ge (pc := 6) (tgt := 29) F.1 F.2.1 d_A_write_6 rfl (fun h1 => ?_) (fun h1 => ?_)
  · refine W.widen (k := 0) (n := 0) (by decide) (by decide) ?_
    exact ret (ou, no) _ _ 29 _ (by unfold F_A_write <;> rw [if_pos h1] <;> rfl) hw d_A_write_29
  · have z9 := nle_nat (m := 40) h1 (by omega) (by omega)
    refine lv_aload_n (pc := 9) F.1 F.2.1 d_A_write_9 rfl (lv_at hl 0 rfl) ?_
    refine x_get (pc := 10) (v := .ref qou) F hw 0 3 (fun x h => List.mem_cons_of_mem _ (in_A x h)) rfl rfl (by decide) (List.mem_cons_of_mem _ m_124) rfl d_A_write_10 ?_
    refine lv_aload_n (pc := 13) F.1 F.2.1 d_A_write_13 rfl (lv_at hl 0 rfl) ?_
    refine x_get (pc := 14) (v := .int no) F hw 0 7 (fun x h => List.mem_cons_of_mem _ (in_A x h)) rfl rfl (by decide) (List.mem_cons_of_mem _ m_132) rfl d_A_write_14 ?_
    refine x_top (y := nI (tN no)) n0.1 ?_
    refine lv_iload_n (pc := 17) F.1 F.2.1 d_A_write_17 rfl (lv_at hl 1 rfl) ?_
    refine x_iast (pc := 18) (ws' := [(qm, .inr (2, [.ref qme, .ref qrg, .ref qip, .ref qou, .int ct, .int ti, .int ni, .int no, .int rt, .int (bI rq), .int rb, .int rwd])), (qme, .inl (cT 0, 64, .inl me)), (qrg, .inl (cT 0, 4, .inl rg)), (qip, .inl (cT 0, 8, .inl ip)), (qou, .inl (cT 0, 40, .inl (upd ou (tN no) x)))]) F hw 4 0 (tN no) rfl rfl rfl (by omega) (by decide) d_A_write_18 rfl (fun H locs hw => ?_)
    refine lv_aload_n (pc := 19) F.1 F.2.1 d_A_write_19 rfl (lv_at hl 0 rfl) ?_
    refine lv_dup (pc := 20) F.1 F.2.1 d_A_write_20 rfl ?_
    refine x_get (pc := 21) (v := .int no) F hw 0 7 (fun x h => List.mem_cons_of_mem _ (in_A x h)) rfl rfl (by decide) (List.mem_cons_of_mem _ m_132) rfl d_A_write_21 ?_
    refine x_top (y := nI (tN no)) n0.1 ?_
    refine lv_iconst (pc := 24) (v := 1) F.1 F.2.1 d_A_write_24 (by decide) ?_
    refine lv_iadd (pc := 25) F.1 F.2.1 d_A_write_25 ?_
    refine x_top (y := nI (tN no + 1)) (x_add2 rfl rfl) ?_
    refine x_put (pc := 26) (v := .int (nI (tN no + 1))) (ty := .int) (ws' := [(qm, .inr (2, [.ref qme, .ref qrg, .ref qip, .ref qou, .int ct, .int ti, .int ni, .int (nI (tN no + 1)), .int rt, .int (bI rq), .int rb, .int rwd])), (qme, .inl (cT 0, 64, .inl me)), (qrg, .inl (cT 0, 4, .inl rg)), (qip, .inl (cT 0, 8, .inl ip)), (qou, .inl (cT 0, 40, .inl (upd ou (tN no) x)))]) F hw 0 7 (fun x h => List.mem_cons_of_mem _ (in_A x h)) ty_A tyok_A nm_A rfl rfl (by decide) (List.mem_cons_of_mem _ m_132) rfl (by decide +kernel) rfl rfl (Nat.le_of_ble_eq_true rfl) d_A_write_26 rfl (fun H locs hw => ?_)
    refine W.widen (k := 0) (n := 0) (by decide) (by decide) ?_
    exact ret (upd ou (tN no) x, nI (tN no + 1)) _ _ 29 _ (by unfold F_A_write <;> rw [if_neg h1] <;> rfl) hw d_A_write_29
def F_A_tick (ct : Int32) (ti : Int32) (rg : Nat → Int32) : (Nat → Int32) × Int32 × Int32 :=
  if ti = 0 then
    (rg, ct, ti)
  else
    if (ti - 1) = 0 then
      (upd rg 3 ct, 56, ti - 1)
    else
      (rg, ct, ti - 1)
set_option maxHeartbeats 4000000 in
set_option maxRecDepth 100000 in
theorem c_A_tick (l : Launch) (D : va_G) (cT : Nat → ClassId) (qm : Nat) (qme : Nat) (qrg : Nat) (qip : Nat) (qou : Nat) (ct : Int32) (ti : Int32) (ni : Int32) (no : Int32) (rt : Int32) (rq : Bool) (rb : Int32) (rwd : Int32) (me : Nat → Int32) (rg : Nat → Int32) (ip : Nat → Int32) (ou : Nat → Int32)  : Ctv l y_A_tick ws_A_tick { frames := 0, cells := 0, slots := 0, locals := 0 } D vwCl (TYS cT) [.ref qm] [(qm, .inr (2, [.ref qme, .ref qrg, .ref qip, .ref qou, .int ct, .int ti, .int ni, .int no, .int rt, .int (bI rq), .int rb, .int rwd])), (qme, .inl (cT 0, 64, .inl me)), (qrg, .inl (cT 0, 4, .inl rg)), (qip, .inl (cT 0, 8, .inl ip)), (qou, .inl (cT 0, 40, .inl ou))] (fun (uu : (Nat → Int32) × Int32 × Int32) => F_A_tick ct ti rg = uu) (fun (u : (Nat → Int32) × Int32 × Int32) => [(qm, .inr (2, [.ref qme, .ref qrg, .ref qip, .ref qou, .int (u.2.1), .int (u.2.2), .int ni, .int no, .int rt, .int (bI rq), .int rb, .int rwd])), (qme, .inl (cT 0, 64, .inl me)), (qrg, .inl (cT 0, 4, .inl u.1)), (qip, .inl (cT 0, 8, .inl ip)), (qou, .inl (cT 0, 40, .inl ou))]) 0 0 := by
  refine x_inv (cc := b_A_tick) (maxL := 1) (by decide) rfl (Nat.le_of_ble_eq_true rfl) ?_
  intro p e s m args below meth c A ls Q F hin hl hw ret
  have hl : lv_has ls 1 [(0, .ref qm)] := hl
  refine lv_aload_n (pc := 0) F.1 F.2.1 d_A_tick_0 rfl (lv_at hl 0 rfl) ?_
  refine x_get (pc := 1) (v := .int ti) F hw 0 5 (fun x h => List.mem_cons_of_mem _ (in_A x h)) rfl rfl (by decide) (List.mem_cons_of_mem _ m_128) rfl d_A_tick_1 ?_
  refine lv_if_ne (pc := 4) (tgt := 8) F.1 F.2.1 d_A_tick_4 rfl (fun h1 => ?_) (fun h1 => ?_)
  · refine lv_aload_n (pc := 8) F.1 F.2.1 d_A_tick_8 rfl (lv_at hl 0 rfl) ?_
    refine lv_dup (pc := 9) F.1 F.2.1 d_A_tick_9 rfl ?_
    refine x_get (pc := 10) (v := .int ti) F hw 0 5 (fun x h => List.mem_cons_of_mem _ (in_A x h)) rfl rfl (by decide) (List.mem_cons_of_mem _ m_128) rfl d_A_tick_10 ?_
    refine lv_iconst (pc := 13) (v := 1) F.1 F.2.1 d_A_tick_13 (by decide) ?_
    refine lv_isub (pc := 14) F.1 F.2.1 d_A_tick_14 ?_
    refine x_put (pc := 15) (v := .int (ti - 1)) (ty := .int) (ws' := [(qm, .inr (2, [.ref qme, .ref qrg, .ref qip, .ref qou, .int ct, .int (ti - 1), .int ni, .int no, .int rt, .int (bI rq), .int rb, .int rwd])), (qme, .inl (cT 0, 64, .inl me)), (qrg, .inl (cT 0, 4, .inl rg)), (qip, .inl (cT 0, 8, .inl ip)), (qou, .inl (cT 0, 40, .inl ou))]) F hw 0 5 (fun x h => List.mem_cons_of_mem _ (in_A x h)) ty_A tyok_A nm_A rfl rfl (by decide) (List.mem_cons_of_mem _ m_128) rfl (by decide +kernel) rfl rfl (Nat.le_of_ble_eq_true rfl) d_A_tick_15 rfl (fun H locs hw => ?_)
    refine lv_aload_n (pc := 18) F.1 F.2.1 d_A_tick_18 rfl (lv_at hl 0 rfl) ?_
    refine x_get (pc := 19) (v := .int (ti - 1)) F hw 0 5 (fun x h => List.mem_cons_of_mem _ (in_A x h)) rfl rfl (by decide) (List.mem_cons_of_mem _ m_128) rfl d_A_tick_19 ?_
    refine lv_if_ne (pc := 22) (tgt := 41) F.1 F.2.1 d_A_tick_22 rfl (fun h2 => ?_) (fun h2 => ?_)
    · refine W.widen (k := 0) (n := 0) (by decide) (by decide) ?_
      exact ret (rg, ct, ti - 1) _ _ 41 _ (by unfold F_A_tick <;> rw [if_neg h1] <;> rw [if_neg h2] <;> rfl) hw d_A_tick_41
    · refine lv_aload_n (pc := 25) F.1 F.2.1 d_A_tick_25 rfl (lv_at hl 0 rfl) ?_
      refine x_get (pc := 26) (v := .ref qrg) F hw 0 1 (fun x h => List.mem_cons_of_mem _ (in_A x h)) rfl rfl (by decide) (List.mem_cons_of_mem _ m_120) rfl d_A_tick_26 ?_
      refine lv_iconst (pc := 29) (v := 3) F.1 F.2.1 d_A_tick_29 (by decide) ?_
      refine lv_aload_n (pc := 30) F.1 F.2.1 d_A_tick_30 rfl (lv_at hl 0 rfl) ?_
      refine x_get (pc := 31) (v := .int ct) F hw 0 4 (fun x h => List.mem_cons_of_mem _ (in_A x h)) rfl rfl (by decide) (List.mem_cons_of_mem _ m_126) rfl d_A_tick_31 ?_
      refine x_iast (pc := 34) (ws' := [(qm, .inr (2, [.ref qme, .ref qrg, .ref qip, .ref qou, .int ct, .int (ti - 1), .int ni, .int no, .int rt, .int (bI rq), .int rb, .int rwd])), (qme, .inl (cT 0, 64, .inl me)), (qrg, .inl (cT 0, 4, .inl (upd rg 3 ct))), (qip, .inl (cT 0, 8, .inl ip)), (qou, .inl (cT 0, 40, .inl ou))]) F hw 2 0 (3) rfl rfl rfl (by omega) (by decide) d_A_tick_34 rfl (fun H locs hw => ?_)
      refine lv_aload_n (pc := 35) F.1 F.2.1 d_A_tick_35 rfl (lv_at hl 0 rfl) ?_
      refine lv_bipush (pc := 36) (v := 56) F.1 F.2.1 d_A_tick_36 (by decide) ?_
      refine x_put (pc := 38) (v := .int 56) (ty := .int) (ws' := [(qm, .inr (2, [.ref qme, .ref qrg, .ref qip, .ref qou, .int 56, .int (ti - 1), .int ni, .int no, .int rt, .int (bI rq), .int rb, .int rwd])), (qme, .inl (cT 0, 64, .inl me)), (qrg, .inl (cT 0, 4, .inl (upd rg 3 ct))), (qip, .inl (cT 0, 8, .inl ip)), (qou, .inl (cT 0, 40, .inl ou))]) F hw 0 4 (fun x h => List.mem_cons_of_mem _ (in_A x h)) ty_A tyok_A nm_A rfl rfl (by decide) (List.mem_cons_of_mem _ m_126) rfl (by decide +kernel) rfl rfl (Nat.le_of_ble_eq_true rfl) d_A_tick_38 rfl (fun H locs hw => ?_)
      refine W.widen (k := 0) (n := 0) (by decide) (by decide) ?_
      exact ret (upd rg 3 ct, 56, ti - 1) _ _ 41 _ (by unfold F_A_tick <;> rw [if_neg h1] <;> rw [if_pos h2] <;> rfl) hw d_A_tick_41
  · refine W.widen (k := 0) (n := 0) (by decide) (by decide) ?_
    exact ret (rg, ct, ti) _ _ 7 _ (by unfold F_A_tick <;> rw [if_pos h1] <;> rfl) hw d_A_tick_7
def F_A_readOldest (ni : Int32) (ip : Nat → Int32) : Int32 × (Nat → Int32) × Int32 :=
  if (nI (tN ni)) = 0 then
    ((-1), (ip, ni))
  else
    (ip 0, (va_cpy ip ip 1 0 (tN ni - 1), nI (tN ni - 1)))
set_option maxHeartbeats 4000000 in
set_option maxRecDepth 100000 in
theorem c_A_readOldest (l : Launch) (D : va_G) (cT : Nat → ClassId) (qm : Nat) (qme : Nat) (qrg : Nat) (qip : Nat) (qou : Nat) (ct : Int32) (ti : Int32) (ni : Int32) (no : Int32) (rt : Int32) (rq : Bool) (rb : Int32) (rwd : Int32) (me : Nat → Int32) (rg : Nat → Int32) (ip : Nat → Int32) (ou : Nat → Int32) (n0 : isN ni 9) : Cti l y_A_readOldest ws_A_readOldest { frames := 1, cells := 0, slots := 0, locals := 24 } D vwCl (TYS cT) [.ref qm] [(qm, .inr (2, [.ref qme, .ref qrg, .ref qip, .ref qou, .int ct, .int ti, .int ni, .int no, .int rt, .int (bI rq), .int rb, .int rwd])), (qme, .inl (cT 0, 64, .inl me)), (qrg, .inl (cT 0, 4, .inl rg)), (qip, .inl (cT 0, 8, .inl ip)), (qou, .inl (cT 0, 40, .inl ou))] (fun (rr : Int32) (uu : (Nat → Int32) × Int32) => F_A_readOldest ni ip = (rr, uu)) (fun (u : (Nat → Int32) × Int32) => [(qm, .inr (2, [.ref qme, .ref qrg, .ref qip, .ref qou, .int ct, .int ti, .int (u.2), .int no, .int rt, .int (bI rq), .int rb, .int rwd])), (qme, .inl (cT 0, 64, .inl me)), (qrg, .inl (cT 0, 4, .inl rg)), (qip, .inl (cT 0, 8, .inl u.1)), (qou, .inl (cT 0, 40, .inl ou))]) 0 0 := by
  refine x_ini (cc := b_A_readOldest) (maxL := 2) (by decide) rfl (Nat.le_of_ble_eq_true rfl) ?_
  intro p e s m args below meth c A ls Q F hl hw ret
  have hl : lv_has ls 2 [(0, .ref qm)] := hl
  have n0b := n0.2
  refine lv_aload_n (pc := 0) F.1 F.2.1 d_A_readOldest_0 rfl (lv_at hl 0 rfl) ?_
  refine x_get (pc := 1) (v := .int ni) F hw 0 6 (fun x h => List.mem_cons_of_mem _ (in_A x h)) rfl rfl (by decide) (List.mem_cons_of_mem _ m_130) rfl d_A_readOldest_1 ?_
  refine x_top (y := nI (tN ni)) n0.1 ?_
  refine lv_if_ne (pc := 4) (tgt := 9) F.1 F.2.1 d_A_readOldest_4 rfl (fun h1 => ?_) (fun h1 => ?_)
  · have hz : tN ni ≠ 0 := fun q => h1 (by rw [q]; rfl)
    refine lv_aload_n (pc := 9) F.1 F.2.1 d_A_readOldest_9 rfl (lv_at hl 0 rfl) ?_
    refine x_get (pc := 10) (v := .ref qip) F hw 0 2 (fun x h => List.mem_cons_of_mem _ (in_A x h)) rfl rfl (by decide) (List.mem_cons_of_mem _ m_122) rfl d_A_readOldest_10 ?_
    refine lv_iconst (pc := 13) (v := 0) F.1 F.2.1 d_A_readOldest_13 (by decide) ?_
    refine x_iald (pc := 14) F hw 3 0 (0) rfl rfl rfl (by omega) (by decide) d_A_readOldest_14 ?_
    refine lv_istore_n (pc := 15) (lv' := [(1, .int (ip 0)), (0, .ref qm)]) F.1 F.2.1 d_A_readOldest_15 rfl hl (by decide) rfl (fun ls hl => ?_)
    refine lv_aload_n (pc := 16) F.1 F.2.1 d_A_readOldest_16 rfl (lv_at hl 1 rfl) ?_
    refine lv_dup (pc := 17) F.1 F.2.1 d_A_readOldest_17 rfl ?_
    refine x_get (pc := 18) (v := .int ni) F hw 0 6 (fun x h => List.mem_cons_of_mem _ (in_A x h)) rfl rfl (by decide) (List.mem_cons_of_mem _ m_130) rfl d_A_readOldest_18 ?_
    refine x_top (y := nI (tN ni)) n0.1 ?_
    refine lv_iconst (pc := 21) (v := 1) F.1 F.2.1 d_A_readOldest_21 (by decide) ?_
    refine lv_isub (pc := 22) F.1 F.2.1 d_A_readOldest_22 ?_
    refine x_top (y := nI (tN ni - 1)) (x_sub2 rfl rfl (by omega)) ?_
    refine x_put (pc := 23) (v := .int (nI (tN ni - 1))) (ty := .int) (ws' := [(qm, .inr (2, [.ref qme, .ref qrg, .ref qip, .ref qou, .int ct, .int ti, .int (nI (tN ni - 1)), .int no, .int rt, .int (bI rq), .int rb, .int rwd])), (qme, .inl (cT 0, 64, .inl me)), (qrg, .inl (cT 0, 4, .inl rg)), (qip, .inl (cT 0, 8, .inl ip)), (qou, .inl (cT 0, 40, .inl ou))]) F hw 0 6 (fun x h => List.mem_cons_of_mem _ (in_A x h)) ty_A tyok_A nm_A rfl rfl (by decide) (List.mem_cons_of_mem _ m_130) rfl (by decide +kernel) rfl rfl (Nat.le_of_ble_eq_true rfl) d_A_readOldest_23 rfl (fun H locs hw => ?_)
    refine lv_aload_n (pc := 26) F.1 F.2.1 d_A_readOldest_26 rfl (lv_at hl 1 rfl) ?_
    refine x_get (pc := 27) (v := .ref qip) F hw 0 2 (fun x h => List.mem_cons_of_mem _ (in_A x h)) rfl rfl (by decide) (List.mem_cons_of_mem _ m_122) rfl d_A_readOldest_27 ?_
    refine lv_iconst (pc := 30) (v := 1) F.1 F.2.1 d_A_readOldest_30 (by decide) ?_
    refine lv_aload_n (pc := 31) F.1 F.2.1 d_A_readOldest_31 rfl (lv_at hl 1 rfl) ?_
    refine x_get (pc := 32) (v := .ref qip) F hw 0 2 (fun x h => List.mem_cons_of_mem _ (in_A x h)) rfl rfl (by decide) (List.mem_cons_of_mem _ m_122) rfl d_A_readOldest_32 ?_
    refine lv_iconst (pc := 35) (v := 0) F.1 F.2.1 d_A_readOldest_35 (by decide) ?_
    refine lv_aload_n (pc := 36) F.1 F.2.1 d_A_readOldest_36 rfl (lv_at hl 1 rfl) ?_
    refine x_get (pc := 37) (v := .int (nI (tN ni - 1))) F hw 0 6 (fun x h => List.mem_cons_of_mem _ (in_A x h)) rfl rfl (by decide) (List.mem_cons_of_mem _ m_130) rfl d_A_readOldest_37 ?_
    refine x_copyi (pc := 40) (ws' := [(qm, .inr (2, [.ref qme, .ref qrg, .ref qip, .ref qou, .int ct, .int ti, .int (nI (tN ni - 1)), .int no, .int rt, .int (bI rq), .int rb, .int rwd])), (qme, .inl (cT 0, 64, .inl me)), (qrg, .inl (cT 0, 4, .inl rg)), (qip, .inl (cT 0, 8, .inl (va_cpy ip ip 1 0 (tN ni - 1)))), (qou, .inl (cT 0, 40, .inl ou))]) F hl hw 3 3 0 (1) (0) (tN ni - 1) (List.mem_cons_of_mem _ m_305) (List.mem_cons_of_mem _ m_254) (List.mem_cons_of_mem _ m_253) (List.mem_cons_of_mem _ m_42) rfl rfl rfl rfl rfl rfl (by omega) (by omega) (by first | decide | omega) (by first | decide | omega) (by decide) (by decide) d_A_readOldest_40 rfl (fun H locs hw => ?_)
    refine lv_iload_n (pc := 43) F.1 F.2.1 d_A_readOldest_43 rfl (lv_at hl 0 rfl) ?_
    refine W.widen (k := 0) (n := 0) (by decide) (by decide) ?_
    exact ret (ip 0) (va_cpy ip ip 1 0 (tN ni - 1), nI (tN ni - 1)) _ _ 44 _ (by unfold F_A_readOldest <;> rw [if_neg h1] <;> rfl) hw d_A_readOldest_44
  · refine lv_iconst (pc := 7) (v := (-1)) F.1 F.2.1 d_A_readOldest_7 (by decide) ?_
    refine W.widen (k := 0) (n := 0) (by decide) (by decide) ?_
    exact ret (-1) (ip, ni) _ _ 8 _ (by unfold F_A_readOldest <;> rw [if_pos h1] <;> rfl) hw d_A_readOldest_8
def F_A_compute (ct : Int32) (ti : Int32) (ni : Int32) (no : Int32) (me : Nat → Int32) (rg : Nat → Int32) (ip : Nat → Int32) (ou : Nat → Int32) (v : Int32) : (Nat → Int32) × (Nat → Int32) × (Nat → Int32) × Int32 × Int32 × Int32 × Int32 :=
  if (nI (lo 4 v)) = 1 then
    (upd rg (lo 2 (v >>> (4 &&& 31))) (v >>> (16 &&& 31)), ip, ou, ct, ti, ni, no)
  else
    if (nI (lo 4 v)) = 2 then
      (upd rg (lo 2 (v >>> (4 &&& 31))) ((rg (lo 2 (v >>> (4 &&& 31)))) + (rg (lo 2 (v >>> (6 &&& 31))))), ip, ou, ct, ti, ni, no)
    else
      if (nI (lo 4 v)) = 3 then
        (upd rg (lo 2 (v >>> (4 &&& 31))) ((rg (lo 2 (v >>> (4 &&& 31)))) - (rg (lo 2 (v >>> (6 &&& 31))))), ip, ou, ct, ti, ni, no)
      else
        if (nI (lo 4 v)) = 4 then
          (upd rg (lo 2 (v >>> (4 &&& 31))) ((rg (lo 2 (v >>> (4 &&& 31)))) * (rg (lo 2 (v >>> (6 &&& 31))))), ip, ou, ct, ti, ni, no)
        else
          if (nI (lo 4 v)) = 5 then
            (upd rg (lo 2 (v >>> (4 &&& 31))) (me (lo 6 ((rg (lo 2 (v >>> (6 &&& 31)))) + (nI (lo 6 (v >>> (8 &&& 31))))))), ip, ou, ct, ti, ni, no)
          else
            if (nI (lo 4 v)) = 6 then
              (rg, ip, ou, ct, ti, ni, no)
            else
              if (nI (lo 4 v)) = 7 then
                (rg, ip, ou, nI (lo 6 (v >>> (8 &&& 31))), ti, ni, no)
              else
                if (nI (lo 4 v)) = 8 then
                  if (rg (lo 2 (v >>> (4 &&& 31)))) = 0 then
                    (rg, ip, ou, nI (lo 6 (v >>> (8 &&& 31))), ti, ni, no)
                  else
                    (rg, ip, ou, ct, ti, ni, no)
                else
                  if (nI (lo 4 v)) = 9 then
                    match F_A_write no ou (rg (lo 2 (v >>> (4 &&& 31)))) with
                    | (ouv21, nov22) =>
                      (rg, ip, ouv21, ct, ti, ni, nov22)
                  else
                    if (nI (lo 4 v)) = 10 then
                      match F_A_readOldest ni ip with
                      | (r26, ipv27, niv28) =>
                        (upd rg (lo 2 (v >>> (4 &&& 31))) r26, ipv27, ou, ct, ti, niv28, no)
                    else
                      if (nI (lo 4 v)) = 11 then
                        (rg, ip, ou, ct, ti, ni, no)
                      else
                        if (nI (lo 4 v)) = 12 then
                          (rg, ip, ou, ct, ti, ni, no)
                        else
                          if (nI (lo 4 v)) = 13 then
                            (rg, ip, ou, ct, nI (lo 8 (rg (lo 2 (v >>> (4 &&& 31)))) + 1), ni, no)
                          else
                            (rg, ip, ou, ct, ti, ni, no)
set_option maxHeartbeats 4000000 in
set_option maxRecDepth 100000 in
theorem c_A_compute (l : Launch) (D : va_G) (cT : Nat → ClassId) (qm : Nat) (qme : Nat) (qrg : Nat) (qip : Nat) (qou : Nat) (ct : Int32) (ti : Int32) (ni : Int32) (no : Int32) (rt : Int32) (rq : Bool) (rb : Int32) (rwd : Int32) (me : Nat → Int32) (rg : Nat → Int32) (ip : Nat → Int32) (ou : Nat → Int32) (v : Int32) (n0 : isN no 41) (n1 : isN ni 9) : Ctv l y_A_compute ws_A_compute { frames := 2, cells := 0, slots := 0, locals := 45 } D vwCl (TYS cT) [.ref qm, .int v] [(qm, .inr (2, [.ref qme, .ref qrg, .ref qip, .ref qou, .int ct, .int ti, .int ni, .int no, .int rt, .int (bI rq), .int rb, .int rwd])), (qme, .inl (cT 0, 64, .inl me)), (qrg, .inl (cT 0, 4, .inl rg)), (qip, .inl (cT 0, 8, .inl ip)), (qou, .inl (cT 0, 40, .inl ou))] (fun (uu : (Nat → Int32) × (Nat → Int32) × (Nat → Int32) × Int32 × Int32 × Int32 × Int32) => F_A_compute ct ti ni no me rg ip ou v = uu) (fun (u : (Nat → Int32) × (Nat → Int32) × (Nat → Int32) × Int32 × Int32 × Int32 × Int32) => [(qm, .inr (2, [.ref qme, .ref qrg, .ref qip, .ref qou, .int (u.2.2.2.1), .int (u.2.2.2.2.1), .int (u.2.2.2.2.2.1), .int (u.2.2.2.2.2.2), .int rt, .int (bI rq), .int rb, .int rwd])), (qme, .inl (cT 0, 64, .inl me)), (qrg, .inl (cT 0, 4, .inl u.1)), (qip, .inl (cT 0, 8, .inl u.2.1)), (qou, .inl (cT 0, 40, .inl u.2.2.1))]) 0 0 := by
  refine x_inv (cc := b_A_compute) (maxL := 5) (by decide) rfl (Nat.le_of_ble_eq_true rfl) ?_
  intro p e s m args below meth c A ls Q F hin hl hw ret
  have hl : lv_has ls 5 [(0, .ref qm), (1, .int v)] := hl
  have n0b := n0.2
  have n1b := n1.2
  refine lv_iload_n (pc := 0) F.1 F.2.1 d_A_compute_0 rfl (lv_at hl 1 rfl) ?_
  refine lv_iconst (pc := 1) (v := 4) F.1 F.2.1 d_A_compute_1 (by decide) ?_
  refine lv_ishr (pc := 2) F.1 F.2.1 d_A_compute_2 ?_
  refine lv_iconst (pc := 3) (v := 3) F.1 F.2.1 d_A_compute_3 (by decide) ?_
  refine lv_iand (pc := 4) F.1 F.2.1 d_A_compute_4 ?_
  refine x_top (y := nI (lo 2 (v >>> (4 &&& 31)))) (lo_and 2 _ _ (by decide)) ?_
  have b1 : lo 2 (v >>> (4 &&& 31)) < 4 := lo_lt 2 _
  refine lv_istore_n (pc := 5) (lv' := [(2, .int (nI (lo 2 (v >>> (4 &&& 31))))), (0, .ref qm), (1, .int v)]) F.1 F.2.1 d_A_compute_5 rfl hl (by decide) rfl (fun ls hl => ?_)
  refine lv_iload_n (pc := 6) F.1 F.2.1 d_A_compute_6 rfl (lv_at hl 2 rfl) ?_
  refine lv_bipush (pc := 7) (v := 6) F.1 F.2.1 d_A_compute_7 (by decide) ?_
  refine lv_ishr (pc := 9) F.1 F.2.1 d_A_compute_9 ?_
  refine lv_iconst (pc := 10) (v := 3) F.1 F.2.1 d_A_compute_10 (by decide) ?_
  refine lv_iand (pc := 11) F.1 F.2.1 d_A_compute_11 ?_
  refine x_top (y := nI (lo 2 (v >>> (6 &&& 31)))) (lo_and 2 _ _ (by decide)) ?_
  have b2 : lo 2 (v >>> (6 &&& 31)) < 4 := lo_lt 2 _
  refine lv_istore_n (pc := 12) (lv' := [(3, .int (nI (lo 2 (v >>> (6 &&& 31))))), (2, .int (nI (lo 2 (v >>> (4 &&& 31))))), (0, .ref qm), (1, .int v)]) F.1 F.2.1 d_A_compute_12 rfl hl (by decide) rfl (fun ls hl => ?_)
  refine lv_iload_n (pc := 13) F.1 F.2.1 d_A_compute_13 rfl (lv_at hl 3 rfl) ?_
  refine lv_bipush (pc := 14) (v := 8) F.1 F.2.1 d_A_compute_14 (by decide) ?_
  refine lv_ishr (pc := 16) F.1 F.2.1 d_A_compute_16 ?_
  refine lv_bipush (pc := 17) (v := 63) F.1 F.2.1 d_A_compute_17 (by decide) ?_
  refine lv_iand (pc := 19) F.1 F.2.1 d_A_compute_19 ?_
  refine x_top (y := nI (lo 6 (v >>> (8 &&& 31)))) (lo_and 6 _ _ (by decide)) ?_
  have b3 : lo 6 (v >>> (8 &&& 31)) < 64 := lo_lt 6 _
  refine lv_istore (pc := 20) (lv' := [(4, .int (nI (lo 6 (v >>> (8 &&& 31))))), (3, .int (nI (lo 2 (v >>> (6 &&& 31))))), (2, .int (nI (lo 2 (v >>> (4 &&& 31))))), (0, .ref qm), (1, .int v)]) F.1 F.2.1 d_A_compute_20 hl (by decide) rfl (fun ls hl => ?_)
  refine lv_iload_n (pc := 22) F.1 F.2.1 d_A_compute_22 rfl (lv_at hl 4 rfl) ?_
  refine lv_bipush (pc := 23) (v := 15) F.1 F.2.1 d_A_compute_23 (by decide) ?_
  refine lv_iand (pc := 25) F.1 F.2.1 d_A_compute_25 ?_
  refine x_top (y := nI (lo 4 v)) (lo_and 4 _ _ (by decide)) ?_
  have b4 : lo 4 v < 16 := lo_lt 4 _
  by_cases h6 : (nI (lo 4 v)) = 1
  · refine lv_tableIn (pc := 26) (tgt := 92) F.1 F.2.1 d_A_compute_26 (by rw [h6]; decide) (by rw [h6]; decide) (by rw [h6]; rfl) rfl ?_
    refine lv_aload_n (pc := 92) F.1 F.2.1 d_A_compute_92 rfl (lv_at hl 3 rfl) ?_
    refine x_get (pc := 93) (v := .ref qrg) F hw 0 1 (fun x h => List.mem_cons_of_mem _ (in_A x h)) rfl rfl (by decide) (List.mem_cons_of_mem _ m_120) rfl d_A_compute_93 ?_
    refine lv_iload_n (pc := 96) F.1 F.2.1 d_A_compute_96 rfl (lv_at hl 2 rfl) ?_
    refine lv_iload_n (pc := 97) F.1 F.2.1 d_A_compute_97 rfl (lv_at hl 4 rfl) ?_
    refine lv_bipush (pc := 98) (v := 16) F.1 F.2.1 d_A_compute_98 (by decide) ?_
    refine lv_ishr (pc := 100) F.1 F.2.1 d_A_compute_100 ?_
    refine x_iast (pc := 101) (ws' := [(qm, .inr (2, [.ref qme, .ref qrg, .ref qip, .ref qou, .int ct, .int ti, .int ni, .int no, .int rt, .int (bI rq), .int rb, .int rwd])), (qme, .inl (cT 0, 64, .inl me)), (qrg, .inl (cT 0, 4, .inl (upd rg (lo 2 (v >>> (4 &&& 31))) (v >>> (16 &&& 31))))), (qip, .inl (cT 0, 8, .inl ip)), (qou, .inl (cT 0, 40, .inl ou))]) F hw 2 0 (lo 2 (v >>> (4 &&& 31))) rfl rfl rfl (by omega) (by decide) d_A_compute_101 rfl (fun H locs hw => ?_)
    refine lv_goto (pc := 102) (tgt := 257) F.1 F.2.1 d_A_compute_102 rfl ?_
    refine W.widen (k := 0) (n := 0) (by decide) (by decide) ?_
    exact ret (upd rg (lo 2 (v >>> (4 &&& 31))) (v >>> (16 &&& 31)), ip, ou, ct, ti, ni, no) _ _ 257 _ (by unfold F_A_compute <;> rw [if_pos h6] <;> rfl) hw d_A_compute_257
  by_cases h7 : (nI (lo 4 v)) = 2
  · refine lv_tableIn (pc := 26) (tgt := 105) F.1 F.2.1 d_A_compute_26 (by rw [h7]; decide) (by rw [h7]; decide) (by rw [h7]; rfl) rfl ?_
    refine lv_aload_n (pc := 105) F.1 F.2.1 d_A_compute_105 rfl (lv_at hl 3 rfl) ?_
    refine x_get (pc := 106) (v := .ref qrg) F hw 0 1 (fun x h => List.mem_cons_of_mem _ (in_A x h)) rfl rfl (by decide) (List.mem_cons_of_mem _ m_120) rfl d_A_compute_106 ?_
    refine lv_iload_n (pc := 109) F.1 F.2.1 d_A_compute_109 rfl (lv_at hl 2 rfl) ?_
    refine lv_dup2_11 (pc := 110) F.1 F.2.1 d_A_compute_110 rfl rfl ?_
    refine x_iald (pc := 111) F hw 2 0 (lo 2 (v >>> (4 &&& 31))) rfl rfl rfl (by omega) (by decide) d_A_compute_111 ?_
    refine lv_aload_n (pc := 112) F.1 F.2.1 d_A_compute_112 rfl (lv_at hl 3 rfl) ?_
    refine x_get (pc := 113) (v := .ref qrg) F hw 0 1 (fun x h => List.mem_cons_of_mem _ (in_A x h)) rfl rfl (by decide) (List.mem_cons_of_mem _ m_120) rfl d_A_compute_113 ?_
    refine lv_iload_n (pc := 116) F.1 F.2.1 d_A_compute_116 rfl (lv_at hl 1 rfl) ?_
    refine x_iald (pc := 117) F hw 2 0 (lo 2 (v >>> (6 &&& 31))) rfl rfl rfl (by omega) (by decide) d_A_compute_117 ?_
    refine lv_iadd (pc := 118) F.1 F.2.1 d_A_compute_118 ?_
    refine x_iast (pc := 119) (ws' := [(qm, .inr (2, [.ref qme, .ref qrg, .ref qip, .ref qou, .int ct, .int ti, .int ni, .int no, .int rt, .int (bI rq), .int rb, .int rwd])), (qme, .inl (cT 0, 64, .inl me)), (qrg, .inl (cT 0, 4, .inl (upd rg (lo 2 (v >>> (4 &&& 31))) ((rg (lo 2 (v >>> (4 &&& 31)))) + (rg (lo 2 (v >>> (6 &&& 31)))))))), (qip, .inl (cT 0, 8, .inl ip)), (qou, .inl (cT 0, 40, .inl ou))]) F hw 2 0 (lo 2 (v >>> (4 &&& 31))) rfl rfl rfl (by omega) (by decide) d_A_compute_119 rfl (fun H locs hw => ?_)
    refine lv_goto (pc := 120) (tgt := 257) F.1 F.2.1 d_A_compute_120 rfl ?_
    refine W.widen (k := 0) (n := 0) (by decide) (by decide) ?_
    exact ret (upd rg (lo 2 (v >>> (4 &&& 31))) ((rg (lo 2 (v >>> (4 &&& 31)))) + (rg (lo 2 (v >>> (6 &&& 31))))), ip, ou, ct, ti, ni, no) _ _ 257 _ (by unfold F_A_compute <;> rw [if_neg h6] <;> rw [if_pos h7] <;> rfl) hw d_A_compute_257
  by_cases h8 : (nI (lo 4 v)) = 3
  · refine lv_tableIn (pc := 26) (tgt := 123) F.1 F.2.1 d_A_compute_26 (by rw [h8]; decide) (by rw [h8]; decide) (by rw [h8]; rfl) rfl ?_
    refine lv_aload_n (pc := 123) F.1 F.2.1 d_A_compute_123 rfl (lv_at hl 3 rfl) ?_
    refine x_get (pc := 124) (v := .ref qrg) F hw 0 1 (fun x h => List.mem_cons_of_mem _ (in_A x h)) rfl rfl (by decide) (List.mem_cons_of_mem _ m_120) rfl d_A_compute_124 ?_
    refine lv_iload_n (pc := 127) F.1 F.2.1 d_A_compute_127 rfl (lv_at hl 2 rfl) ?_
    refine lv_dup2_11 (pc := 128) F.1 F.2.1 d_A_compute_128 rfl rfl ?_
    refine x_iald (pc := 129) F hw 2 0 (lo 2 (v >>> (4 &&& 31))) rfl rfl rfl (by omega) (by decide) d_A_compute_129 ?_
    refine lv_aload_n (pc := 130) F.1 F.2.1 d_A_compute_130 rfl (lv_at hl 3 rfl) ?_
    refine x_get (pc := 131) (v := .ref qrg) F hw 0 1 (fun x h => List.mem_cons_of_mem _ (in_A x h)) rfl rfl (by decide) (List.mem_cons_of_mem _ m_120) rfl d_A_compute_131 ?_
    refine lv_iload_n (pc := 134) F.1 F.2.1 d_A_compute_134 rfl (lv_at hl 1 rfl) ?_
    refine x_iald (pc := 135) F hw 2 0 (lo 2 (v >>> (6 &&& 31))) rfl rfl rfl (by omega) (by decide) d_A_compute_135 ?_
    refine lv_isub (pc := 136) F.1 F.2.1 d_A_compute_136 ?_
    refine x_iast (pc := 137) (ws' := [(qm, .inr (2, [.ref qme, .ref qrg, .ref qip, .ref qou, .int ct, .int ti, .int ni, .int no, .int rt, .int (bI rq), .int rb, .int rwd])), (qme, .inl (cT 0, 64, .inl me)), (qrg, .inl (cT 0, 4, .inl (upd rg (lo 2 (v >>> (4 &&& 31))) ((rg (lo 2 (v >>> (4 &&& 31)))) - (rg (lo 2 (v >>> (6 &&& 31)))))))), (qip, .inl (cT 0, 8, .inl ip)), (qou, .inl (cT 0, 40, .inl ou))]) F hw 2 0 (lo 2 (v >>> (4 &&& 31))) rfl rfl rfl (by omega) (by decide) d_A_compute_137 rfl (fun H locs hw => ?_)
    refine lv_goto (pc := 138) (tgt := 257) F.1 F.2.1 d_A_compute_138 rfl ?_
    refine W.widen (k := 0) (n := 0) (by decide) (by decide) ?_
    exact ret (upd rg (lo 2 (v >>> (4 &&& 31))) ((rg (lo 2 (v >>> (4 &&& 31)))) - (rg (lo 2 (v >>> (6 &&& 31))))), ip, ou, ct, ti, ni, no) _ _ 257 _ (by unfold F_A_compute <;> rw [if_neg h6] <;> rw [if_neg h7] <;> rw [if_pos h8] <;> rfl) hw d_A_compute_257
  by_cases h9 : (nI (lo 4 v)) = 4
  · refine lv_tableIn (pc := 26) (tgt := 141) F.1 F.2.1 d_A_compute_26 (by rw [h9]; decide) (by rw [h9]; decide) (by rw [h9]; rfl) rfl ?_
    refine lv_aload_n (pc := 141) F.1 F.2.1 d_A_compute_141 rfl (lv_at hl 3 rfl) ?_
    refine x_get (pc := 142) (v := .ref qrg) F hw 0 1 (fun x h => List.mem_cons_of_mem _ (in_A x h)) rfl rfl (by decide) (List.mem_cons_of_mem _ m_120) rfl d_A_compute_142 ?_
    refine lv_iload_n (pc := 145) F.1 F.2.1 d_A_compute_145 rfl (lv_at hl 2 rfl) ?_
    refine lv_dup2_11 (pc := 146) F.1 F.2.1 d_A_compute_146 rfl rfl ?_
    refine x_iald (pc := 147) F hw 2 0 (lo 2 (v >>> (4 &&& 31))) rfl rfl rfl (by omega) (by decide) d_A_compute_147 ?_
    refine lv_aload_n (pc := 148) F.1 F.2.1 d_A_compute_148 rfl (lv_at hl 3 rfl) ?_
    refine x_get (pc := 149) (v := .ref qrg) F hw 0 1 (fun x h => List.mem_cons_of_mem _ (in_A x h)) rfl rfl (by decide) (List.mem_cons_of_mem _ m_120) rfl d_A_compute_149 ?_
    refine lv_iload_n (pc := 152) F.1 F.2.1 d_A_compute_152 rfl (lv_at hl 1 rfl) ?_
    refine x_iald (pc := 153) F hw 2 0 (lo 2 (v >>> (6 &&& 31))) rfl rfl rfl (by omega) (by decide) d_A_compute_153 ?_
    refine lv_imul (pc := 154) F.1 F.2.1 d_A_compute_154 ?_
    refine x_iast (pc := 155) (ws' := [(qm, .inr (2, [.ref qme, .ref qrg, .ref qip, .ref qou, .int ct, .int ti, .int ni, .int no, .int rt, .int (bI rq), .int rb, .int rwd])), (qme, .inl (cT 0, 64, .inl me)), (qrg, .inl (cT 0, 4, .inl (upd rg (lo 2 (v >>> (4 &&& 31))) ((rg (lo 2 (v >>> (4 &&& 31)))) * (rg (lo 2 (v >>> (6 &&& 31)))))))), (qip, .inl (cT 0, 8, .inl ip)), (qou, .inl (cT 0, 40, .inl ou))]) F hw 2 0 (lo 2 (v >>> (4 &&& 31))) rfl rfl rfl (by omega) (by decide) d_A_compute_155 rfl (fun H locs hw => ?_)
    refine lv_goto (pc := 156) (tgt := 257) F.1 F.2.1 d_A_compute_156 rfl ?_
    refine W.widen (k := 0) (n := 0) (by decide) (by decide) ?_
    exact ret (upd rg (lo 2 (v >>> (4 &&& 31))) ((rg (lo 2 (v >>> (4 &&& 31)))) * (rg (lo 2 (v >>> (6 &&& 31))))), ip, ou, ct, ti, ni, no) _ _ 257 _ (by unfold F_A_compute <;> rw [if_neg h6] <;> rw [if_neg h7] <;> rw [if_neg h8] <;> rw [if_pos h9] <;> rfl) hw d_A_compute_257
  by_cases h10 : (nI (lo 4 v)) = 5
  · refine lv_tableIn (pc := 26) (tgt := 159) F.1 F.2.1 d_A_compute_26 (by rw [h10]; decide) (by rw [h10]; decide) (by rw [h10]; rfl) rfl ?_
    refine lv_aload_n (pc := 159) F.1 F.2.1 d_A_compute_159 rfl (lv_at hl 3 rfl) ?_
    refine x_get (pc := 160) (v := .ref qrg) F hw 0 1 (fun x h => List.mem_cons_of_mem _ (in_A x h)) rfl rfl (by decide) (List.mem_cons_of_mem _ m_120) rfl d_A_compute_160 ?_
    refine lv_iload_n (pc := 163) F.1 F.2.1 d_A_compute_163 rfl (lv_at hl 2 rfl) ?_
    refine lv_aload_n (pc := 164) F.1 F.2.1 d_A_compute_164 rfl (lv_at hl 3 rfl) ?_
    refine x_get (pc := 165) (v := .ref qme) F hw 0 0 (fun x h => List.mem_cons_of_mem _ (in_A x h)) rfl rfl (by decide) (List.mem_cons_of_mem _ m_118) rfl d_A_compute_165 ?_
    refine lv_aload_n (pc := 168) F.1 F.2.1 d_A_compute_168 rfl (lv_at hl 3 rfl) ?_
    refine lv_iload_n (pc := 169) F.1 F.2.1 d_A_compute_169 rfl (lv_at hl 4 rfl) ?_
    refine x_calli (pc := 170) (wr := []) hw [0, 1, 2, 3, 4] [] rfl rfl (by decide) (by decide) (va_runV (As := [.int v]) (rest := [.ref qme, .int (nI (lo 2 (v >>> (4 &&& 31)))), .ref qrg]) F (c_A_address l D cT qm qme qrg qip qou ct ti ni no rt rq rb rwd me rg ip ou v  _) (x_cw (C := "MovingGuest$Machine") 1 F (g_all y_A_address b_A_address 2 (some .int) (List.mem_cons_of_mem _ m_278)) rfl rfl rfl (F.2.2.2.2 _ (List.mem_cons_of_mem _ m_39)) (F.2.2.2.2 _ (List.mem_cons_of_mem _ m_298)) (F.2.2.2.2 _ (List.mem_cons_of_mem _ m_276)) (F.2.2.2.2 _ (List.mem_cons_of_mem _ m_277)) (by decide +kernel) ⟨by decide, by decide⟩) (hw.preV (q0 := 0) [0, 1, 2, 3, 4] (by decide) rfl rfl rfl) rfl rfl hl.1 rfl (lv_room (Nat.le_of_ble_eq_true rfl)) d_A_compute_170 ⟨by decide, by decide⟩) (fun r12 u13 H locs e11 hw => ?_)
    cases (show (nI (lo 6 ((rg (lo 2 (v >>> (6 &&& 31)))) + (nI (lo 6 (v >>> (8 &&& 31)))))), ()) = (r12, u13) from e11)
    have b14 : lo 6 ((rg (lo 2 (v >>> (6 &&& 31)))) + (nI (lo 6 (v >>> (8 &&& 31))))) < 64 := lo_lt 6 _
    refine x_iald (pc := 173) F hw 1 0 (lo 6 ((rg (lo 2 (v >>> (6 &&& 31)))) + (nI (lo 6 (v >>> (8 &&& 31)))))) rfl rfl rfl (by omega) (by decide) d_A_compute_173 ?_
    refine x_iast (pc := 174) (ws' := [(qm, .inr (2, [.ref qme, .ref qrg, .ref qip, .ref qou, .int ct, .int ti, .int ni, .int no, .int rt, .int (bI rq), .int rb, .int rwd])), (qme, .inl (cT 0, 64, .inl me)), (qrg, .inl (cT 0, 4, .inl (upd rg (lo 2 (v >>> (4 &&& 31))) (me (lo 6 ((rg (lo 2 (v >>> (6 &&& 31)))) + (nI (lo 6 (v >>> (8 &&& 31)))))))))), (qip, .inl (cT 0, 8, .inl ip)), (qou, .inl (cT 0, 40, .inl ou))]) F hw 2 0 (lo 2 (v >>> (4 &&& 31))) rfl rfl rfl (by omega) (by decide) d_A_compute_174 rfl (fun H locs hw => ?_)
    refine lv_goto (pc := 175) (tgt := 257) F.1 F.2.1 d_A_compute_175 rfl ?_
    refine W.widen (k := 0) (n := 0) (by decide) (by decide) ?_
    exact ret (upd rg (lo 2 (v >>> (4 &&& 31))) (me (lo 6 ((rg (lo 2 (v >>> (6 &&& 31)))) + (nI (lo 6 (v >>> (8 &&& 31))))))), ip, ou, ct, ti, ni, no) _ _ 257 _ (by unfold F_A_compute <;> rw [if_neg h6] <;> rw [if_neg h7] <;> rw [if_neg h8] <;> rw [if_neg h9] <;> rw [if_pos h10] <;> rfl) hw d_A_compute_257
  by_cases h15 : (nI (lo 4 v)) = 6
  · refine lv_tableIn (pc := 26) (tgt := 257) F.1 F.2.1 d_A_compute_26 (by rw [h15]; decide) (by rw [h15]; decide) (by rw [h15]; rfl) rfl ?_
    refine W.widen (k := 0) (n := 0) (by decide) (by decide) ?_
    exact ret (rg, ip, ou, ct, ti, ni, no) _ _ 257 _ (by unfold F_A_compute <;> rw [if_neg h6] <;> rw [if_neg h7] <;> rw [if_neg h8] <;> rw [if_neg h9] <;> rw [if_neg h10] <;> rw [if_pos h15] <;> rfl) hw d_A_compute_257
  by_cases h16 : (nI (lo 4 v)) = 7
  · refine lv_tableIn (pc := 26) (tgt := 178) F.1 F.2.1 d_A_compute_26 (by rw [h16]; decide) (by rw [h16]; decide) (by rw [h16]; rfl) rfl ?_
    refine lv_aload_n (pc := 178) F.1 F.2.1 d_A_compute_178 rfl (lv_at hl 3 rfl) ?_
    refine lv_iload (pc := 179) F.1 F.2.1 d_A_compute_179 (lv_at hl 0 rfl) ?_
    refine x_put (pc := 181) (v := .int (nI (lo 6 (v >>> (8 &&& 31))))) (ty := .int) (ws' := [(qm, .inr (2, [.ref qme, .ref qrg, .ref qip, .ref qou, .int (nI (lo 6 (v >>> (8 &&& 31)))), .int ti, .int ni, .int no, .int rt, .int (bI rq), .int rb, .int rwd])), (qme, .inl (cT 0, 64, .inl me)), (qrg, .inl (cT 0, 4, .inl rg)), (qip, .inl (cT 0, 8, .inl ip)), (qou, .inl (cT 0, 40, .inl ou))]) F hw 0 4 (fun x h => List.mem_cons_of_mem _ (in_A x h)) ty_A tyok_A nm_A rfl rfl (by decide) (List.mem_cons_of_mem _ m_126) rfl (by decide +kernel) rfl rfl (Nat.le_of_ble_eq_true rfl) d_A_compute_181 rfl (fun H locs hw => ?_)
    refine lv_goto (pc := 184) (tgt := 257) F.1 F.2.1 d_A_compute_184 rfl ?_
    refine W.widen (k := 0) (n := 0) (by decide) (by decide) ?_
    exact ret (rg, ip, ou, nI (lo 6 (v >>> (8 &&& 31))), ti, ni, no) _ _ 257 _ (by unfold F_A_compute <;> rw [if_neg h6] <;> rw [if_neg h7] <;> rw [if_neg h8] <;> rw [if_neg h9] <;> rw [if_neg h10] <;> rw [if_neg h15] <;> rw [if_pos h16] <;> rfl) hw d_A_compute_257
  by_cases h17 : (nI (lo 4 v)) = 8
  · refine lv_tableIn (pc := 26) (tgt := 187) F.1 F.2.1 d_A_compute_26 (by rw [h17]; decide) (by rw [h17]; decide) (by rw [h17]; rfl) rfl ?_
    refine lv_aload_n (pc := 187) F.1 F.2.1 d_A_compute_187 rfl (lv_at hl 3 rfl) ?_
    refine lv_aload_n (pc := 188) F.1 F.2.1 d_A_compute_188 rfl (lv_at hl 3 rfl) ?_
    refine x_get (pc := 189) (v := .ref qrg) F hw 0 1 (fun x h => List.mem_cons_of_mem _ (in_A x h)) rfl rfl (by decide) (List.mem_cons_of_mem _ m_120) rfl d_A_compute_189 ?_
    refine lv_iload_n (pc := 192) F.1 F.2.1 d_A_compute_192 rfl (lv_at hl 2 rfl) ?_
    refine x_iald (pc := 193) F hw 2 0 (lo 2 (v >>> (4 &&& 31))) rfl rfl rfl (by omega) (by decide) d_A_compute_193 ?_
    refine lv_if_ne (pc := 194) (tgt := 202) F.1 F.2.1 d_A_compute_194 rfl (fun h18 => ?_) (fun h18 => ?_)
    · refine lv_aload_n (pc := 202) F.1 F.2.1 d_A_compute_202 rfl (lv_at hl 3 rfl) ?_
      refine x_get (pc := 203) (v := .int ct) F hw 0 4 (fun x h => List.mem_cons_of_mem _ (in_A x h)) rfl rfl (by decide) (List.mem_cons_of_mem _ m_126) rfl d_A_compute_203 ?_
      refine x_put (pc := 206) (v := .int ct) (ty := .int) (ws' := [(qm, .inr (2, [.ref qme, .ref qrg, .ref qip, .ref qou, .int ct, .int ti, .int ni, .int no, .int rt, .int (bI rq), .int rb, .int rwd])), (qme, .inl (cT 0, 64, .inl me)), (qrg, .inl (cT 0, 4, .inl rg)), (qip, .inl (cT 0, 8, .inl ip)), (qou, .inl (cT 0, 40, .inl ou))]) F hw 0 4 (fun x h => List.mem_cons_of_mem _ (in_A x h)) ty_A tyok_A nm_A rfl rfl (by decide) (List.mem_cons_of_mem _ m_126) rfl (by decide +kernel) rfl rfl (Nat.le_of_ble_eq_true rfl) d_A_compute_206 rfl (fun H locs hw => ?_)
      refine lv_goto (pc := 209) (tgt := 257) F.1 F.2.1 d_A_compute_209 rfl ?_
      refine W.widen (k := 0) (n := 0) (by decide) (by decide) ?_
      exact ret (rg, ip, ou, ct, ti, ni, no) _ _ 257 _ (by unfold F_A_compute <;> rw [if_neg h6] <;> rw [if_neg h7] <;> rw [if_neg h8] <;> rw [if_neg h9] <;> rw [if_neg h10] <;> rw [if_neg h15] <;> rw [if_neg h16] <;> rw [if_pos h17] <;> rw [if_neg h18] <;> rfl) hw d_A_compute_257
    · refine lv_iload (pc := 197) F.1 F.2.1 d_A_compute_197 (lv_at hl 0 rfl) ?_
      refine lv_goto (pc := 199) (tgt := 206) F.1 F.2.1 d_A_compute_199 rfl ?_
      refine x_put (pc := 206) (v := .int (nI (lo 6 (v >>> (8 &&& 31))))) (ty := .int) (ws' := [(qm, .inr (2, [.ref qme, .ref qrg, .ref qip, .ref qou, .int (nI (lo 6 (v >>> (8 &&& 31)))), .int ti, .int ni, .int no, .int rt, .int (bI rq), .int rb, .int rwd])), (qme, .inl (cT 0, 64, .inl me)), (qrg, .inl (cT 0, 4, .inl rg)), (qip, .inl (cT 0, 8, .inl ip)), (qou, .inl (cT 0, 40, .inl ou))]) F hw 0 4 (fun x h => List.mem_cons_of_mem _ (in_A x h)) ty_A tyok_A nm_A rfl rfl (by decide) (List.mem_cons_of_mem _ m_126) rfl (by decide +kernel) rfl rfl (Nat.le_of_ble_eq_true rfl) d_A_compute_206 rfl (fun H locs hw => ?_)
      refine lv_goto (pc := 209) (tgt := 257) F.1 F.2.1 d_A_compute_209 rfl ?_
      refine W.widen (k := 0) (n := 0) (by decide) (by decide) ?_
      exact ret (rg, ip, ou, nI (lo 6 (v >>> (8 &&& 31))), ti, ni, no) _ _ 257 _ (by unfold F_A_compute <;> rw [if_neg h6] <;> rw [if_neg h7] <;> rw [if_neg h8] <;> rw [if_neg h9] <;> rw [if_neg h10] <;> rw [if_neg h15] <;> rw [if_neg h16] <;> rw [if_pos h17] <;> rw [if_pos h18] <;> rfl) hw d_A_compute_257
  by_cases h19 : (nI (lo 4 v)) = 9
  · refine lv_tableIn (pc := 26) (tgt := 212) F.1 F.2.1 d_A_compute_26 (by rw [h19]; decide) (by rw [h19]; decide) (by rw [h19]; rfl) rfl ?_
    refine lv_aload_n (pc := 212) F.1 F.2.1 d_A_compute_212 rfl (lv_at hl 3 rfl) ?_
    refine lv_aload_n (pc := 213) F.1 F.2.1 d_A_compute_213 rfl (lv_at hl 3 rfl) ?_
    refine x_get (pc := 214) (v := .ref qrg) F hw 0 1 (fun x h => List.mem_cons_of_mem _ (in_A x h)) rfl rfl (by decide) (List.mem_cons_of_mem _ m_120) rfl d_A_compute_214 ?_
    refine lv_iload_n (pc := 217) F.1 F.2.1 d_A_compute_217 rfl (lv_at hl 2 rfl) ?_
    refine x_iald (pc := 218) F hw 2 0 (lo 2 (v >>> (4 &&& 31))) rfl rfl rfl (by omega) (by decide) d_A_compute_218 ?_
    refine x_callv (pc := 219) (wr := []) hw [0, 1, 2, 3, 4] [] rfl rfl (by decide) (by decide) (va_runV (As := [.int (rg (lo 2 (v >>> (4 &&& 31))))]) (rest := []) F (c_A_write l D cT qm qme qrg qip qou ct ti ni no rt rq rb rwd me rg ip ou (rg (lo 2 (v >>> (4 &&& 31)))) ⟨n0.1, by omega⟩ _) (x_cw (C := "MovingGuest$Machine") 1 F (g_all y_A_write b_A_write 2 none (List.mem_cons_of_mem _ m_301)) rfl rfl rfl (F.2.2.2.2 _ (List.mem_cons_of_mem _ m_39)) (F.2.2.2.2 _ (List.mem_cons_of_mem _ m_299)) (F.2.2.2.2 _ (List.mem_cons_of_mem _ m_300)) (F.2.2.2.2 _ (List.mem_cons_of_mem _ m_5)) (by decide +kernel) ⟨by decide, by decide⟩) (hw.preV (q0 := 0) [0, 1, 2, 3, 4] (by decide) rfl rfl rfl) rfl rfl hl.1 rfl (lv_room (Nat.le_of_ble_eq_true rfl)) d_A_compute_219 ⟨by decide, by decide⟩) (fun u23 H locs e20 hw => ?_)
    obtain ⟨ouv21, nov22⟩ := u23
    have hw : Hw D vwCl (TYS cT) A s [(qm, .inr (2, [.ref qme, .ref qrg, .ref qip, .ref qou, .int ct, .int ti, .int ni, .int nov22, .int rt, .int (bI rq), .int rb, .int rwd])), (qme, .inl (cT 0, 64, .inl me)), (qrg, .inl (cT 0, 4, .inl rg)), (qip, .inl (cT 0, 8, .inl ip)), (qou, .inl (cT 0, 40, .inl ouv21))] H locs := hw
    refine lv_goto (pc := 222) (tgt := 257) F.1 F.2.1 d_A_compute_222 rfl ?_
    refine W.widen (k := 0) (n := 0) (by decide) (by decide) ?_
    exact ret (rg, ip, ouv21, ct, ti, ni, nov22) _ _ 257 _ (by unfold F_A_compute <;> rw [if_neg h6] <;> rw [if_neg h7] <;> rw [if_neg h8] <;> rw [if_neg h9] <;> rw [if_neg h10] <;> rw [if_neg h15] <;> rw [if_neg h16] <;> rw [if_neg h17] <;> rw [if_pos h19] <;> rw [e20] <;> (try dsimp only) <;> rfl) hw d_A_compute_257
  by_cases h24 : (nI (lo 4 v)) = 10
  · refine lv_tableIn (pc := 26) (tgt := 225) F.1 F.2.1 d_A_compute_26 (by rw [h24]; decide) (by rw [h24]; decide) (by rw [h24]; rfl) rfl ?_
    refine lv_aload_n (pc := 225) F.1 F.2.1 d_A_compute_225 rfl (lv_at hl 3 rfl) ?_
    refine x_get (pc := 226) (v := .ref qrg) F hw 0 1 (fun x h => List.mem_cons_of_mem _ (in_A x h)) rfl rfl (by decide) (List.mem_cons_of_mem _ m_120) rfl d_A_compute_226 ?_
    refine lv_iload_n (pc := 229) F.1 F.2.1 d_A_compute_229 rfl (lv_at hl 2 rfl) ?_
    refine lv_aload_n (pc := 230) F.1 F.2.1 d_A_compute_230 rfl (lv_at hl 3 rfl) ?_
    refine x_calli (pc := 231) (wr := []) hw [0, 1, 2, 3, 4] [] rfl rfl (by decide) (by decide) (va_runV (As := []) (rest := [.int (nI (lo 2 (v >>> (4 &&& 31)))), .ref qrg]) F (c_A_readOldest l D cT qm qme qrg qip qou ct ti ni no rt rq rb rwd me rg ip ou ⟨n1.1, by omega⟩ _) (x_cw (C := "MovingGuest$Machine") 0 F (g_all y_A_readOldest b_A_readOldest 2 (some .int) (List.mem_cons_of_mem _ m_304)) rfl rfl rfl (F.2.2.2.2 _ (List.mem_cons_of_mem _ m_39)) (F.2.2.2.2 _ (List.mem_cons_of_mem _ m_302)) (F.2.2.2.2 _ (List.mem_cons_of_mem _ m_303)) (F.2.2.2.2 _ (List.mem_cons_of_mem _ m_6)) (by decide +kernel) ⟨by decide, by decide⟩) (hw.preV (q0 := 0) [0, 1, 2, 3, 4] (by decide) rfl rfl rfl) rfl rfl hl.1 rfl (lv_room (Nat.le_of_ble_eq_true rfl)) d_A_compute_231 ⟨by decide, by decide⟩) (fun r26 u29 H locs e25 hw => ?_)
    obtain ⟨ipv27, niv28⟩ := u29
    have hw : Hw D vwCl (TYS cT) A s [(qm, .inr (2, [.ref qme, .ref qrg, .ref qip, .ref qou, .int ct, .int ti, .int niv28, .int no, .int rt, .int (bI rq), .int rb, .int rwd])), (qme, .inl (cT 0, 64, .inl me)), (qrg, .inl (cT 0, 4, .inl rg)), (qip, .inl (cT 0, 8, .inl ipv27)), (qou, .inl (cT 0, 40, .inl ou))] H locs := hw
    refine x_iast (pc := 234) (ws' := [(qm, .inr (2, [.ref qme, .ref qrg, .ref qip, .ref qou, .int ct, .int ti, .int niv28, .int no, .int rt, .int (bI rq), .int rb, .int rwd])), (qme, .inl (cT 0, 64, .inl me)), (qrg, .inl (cT 0, 4, .inl (upd rg (lo 2 (v >>> (4 &&& 31))) r26))), (qip, .inl (cT 0, 8, .inl ipv27)), (qou, .inl (cT 0, 40, .inl ou))]) F hw 2 0 (lo 2 (v >>> (4 &&& 31))) rfl rfl rfl (by omega) (by decide) d_A_compute_234 rfl (fun H locs hw => ?_)
    refine lv_goto (pc := 235) (tgt := 257) F.1 F.2.1 d_A_compute_235 rfl ?_
    refine W.widen (k := 0) (n := 0) (by decide) (by decide) ?_
    exact ret (upd rg (lo 2 (v >>> (4 &&& 31))) r26, ipv27, ou, ct, ti, niv28, no) _ _ 257 _ (by unfold F_A_compute <;> rw [if_neg h6] <;> rw [if_neg h7] <;> rw [if_neg h8] <;> rw [if_neg h9] <;> rw [if_neg h10] <;> rw [if_neg h15] <;> rw [if_neg h16] <;> rw [if_neg h17] <;> rw [if_neg h19] <;> rw [if_pos h24] <;> rw [e25] <;> (try dsimp only) <;> rfl) hw d_A_compute_257
  by_cases h30 : (nI (lo 4 v)) = 11
  · refine lv_tableIn (pc := 26) (tgt := 257) F.1 F.2.1 d_A_compute_26 (by rw [h30]; decide) (by rw [h30]; decide) (by rw [h30]; rfl) rfl ?_
    refine W.widen (k := 0) (n := 0) (by decide) (by decide) ?_
    exact ret (rg, ip, ou, ct, ti, ni, no) _ _ 257 _ (by unfold F_A_compute <;> rw [if_neg h6] <;> rw [if_neg h7] <;> rw [if_neg h8] <;> rw [if_neg h9] <;> rw [if_neg h10] <;> rw [if_neg h15] <;> rw [if_neg h16] <;> rw [if_neg h17] <;> rw [if_neg h19] <;> rw [if_neg h24] <;> rw [if_pos h30] <;> rfl) hw d_A_compute_257
  by_cases h31 : (nI (lo 4 v)) = 12
  · refine lv_tableIn (pc := 26) (tgt := 257) F.1 F.2.1 d_A_compute_26 (by rw [h31]; decide) (by rw [h31]; decide) (by rw [h31]; rfl) rfl ?_
    refine W.widen (k := 0) (n := 0) (by decide) (by decide) ?_
    exact ret (rg, ip, ou, ct, ti, ni, no) _ _ 257 _ (by unfold F_A_compute <;> rw [if_neg h6] <;> rw [if_neg h7] <;> rw [if_neg h8] <;> rw [if_neg h9] <;> rw [if_neg h10] <;> rw [if_neg h15] <;> rw [if_neg h16] <;> rw [if_neg h17] <;> rw [if_neg h19] <;> rw [if_neg h24] <;> rw [if_neg h30] <;> rw [if_pos h31] <;> rfl) hw d_A_compute_257
  by_cases h32 : (nI (lo 4 v)) = 13
  · refine lv_tableIn (pc := 26) (tgt := 238) F.1 F.2.1 d_A_compute_26 (by rw [h32]; decide) (by rw [h32]; decide) (by rw [h32]; rfl) rfl ?_
    refine lv_aload_n (pc := 238) F.1 F.2.1 d_A_compute_238 rfl (lv_at hl 3 rfl) ?_
    refine lv_aload_n (pc := 239) F.1 F.2.1 d_A_compute_239 rfl (lv_at hl 3 rfl) ?_
    refine x_get (pc := 240) (v := .ref qrg) F hw 0 1 (fun x h => List.mem_cons_of_mem _ (in_A x h)) rfl rfl (by decide) (List.mem_cons_of_mem _ m_120) rfl d_A_compute_240 ?_
    refine lv_iload_n (pc := 243) F.1 F.2.1 d_A_compute_243 rfl (lv_at hl 2 rfl) ?_
    refine x_iald (pc := 244) F hw 2 0 (lo 2 (v >>> (4 &&& 31))) rfl rfl rfl (by omega) (by decide) d_A_compute_244 ?_
    refine lv_sipush (pc := 245) (v := 255) F.1 F.2.1 d_A_compute_245 (by decide) ?_
    refine lv_iand (pc := 248) F.1 F.2.1 d_A_compute_248 ?_
    refine x_top (y := nI (lo 8 (rg (lo 2 (v >>> (4 &&& 31)))))) (lo_and 8 _ _ (by decide)) ?_
    have b33 : lo 8 (rg (lo 2 (v >>> (4 &&& 31)))) < 256 := lo_lt 8 _
    refine lv_iconst (pc := 249) (v := 1) F.1 F.2.1 d_A_compute_249 (by decide) ?_
    refine lv_iadd (pc := 250) F.1 F.2.1 d_A_compute_250 ?_
    refine x_top (y := nI (lo 8 (rg (lo 2 (v >>> (4 &&& 31)))) + 1)) (x_add2 rfl rfl) ?_
    refine x_put (pc := 251) (v := .int (nI (lo 8 (rg (lo 2 (v >>> (4 &&& 31)))) + 1))) (ty := .int) (ws' := [(qm, .inr (2, [.ref qme, .ref qrg, .ref qip, .ref qou, .int ct, .int (nI (lo 8 (rg (lo 2 (v >>> (4 &&& 31)))) + 1)), .int ni, .int no, .int rt, .int (bI rq), .int rb, .int rwd])), (qme, .inl (cT 0, 64, .inl me)), (qrg, .inl (cT 0, 4, .inl rg)), (qip, .inl (cT 0, 8, .inl ip)), (qou, .inl (cT 0, 40, .inl ou))]) F hw 0 5 (fun x h => List.mem_cons_of_mem _ (in_A x h)) ty_A tyok_A nm_A rfl rfl (by decide) (List.mem_cons_of_mem _ m_128) rfl (by decide +kernel) rfl rfl (Nat.le_of_ble_eq_true rfl) d_A_compute_251 rfl (fun H locs hw => ?_)
    refine lv_goto (pc := 254) (tgt := 257) F.1 F.2.1 d_A_compute_254 rfl ?_
    refine W.widen (k := 0) (n := 0) (by decide) (by decide) ?_
    exact ret (rg, ip, ou, ct, nI (lo 8 (rg (lo 2 (v >>> (4 &&& 31)))) + 1), ni, no) _ _ 257 _ (by unfold F_A_compute <;> rw [if_neg h6] <;> rw [if_neg h7] <;> rw [if_neg h8] <;> rw [if_neg h9] <;> rw [if_neg h10] <;> rw [if_neg h15] <;> rw [if_neg h16] <;> rw [if_neg h17] <;> rw [if_neg h19] <;> rw [if_neg h24] <;> rw [if_neg h30] <;> rw [if_neg h31] <;> rw [if_pos h32] <;> rfl) hw d_A_compute_257
  refine lv_tableOut (pc := 26) (tgt := 257) F.1 F.2.1 d_A_compute_26 (tab_out1 1 13 (fun k h1 h2 => by rcases (show k = 1 ∨ k = 2 ∨ k = 3 ∨ k = 4 ∨ k = 5 ∨ k = 6 ∨ k = 7 ∨ k = 8 ∨ k = 9 ∨ k = 10 ∨ k = 11 ∨ k = 12 ∨ k = 13 by omega) with rfl | rfl | rfl | rfl | rfl | rfl | rfl | rfl | rfl | rfl | rfl | rfl | rfl; exact h6; exact h7; exact h8; exact h9; exact h10; exact h15; exact h16; exact h17; exact h19; exact h24; exact h30; exact h31; exact h32)) rfl ?_
  refine W.widen (k := 0) (n := 0) (by decide) (by decide) ?_
  exact ret (rg, ip, ou, ct, ti, ni, no) _ _ 257 _ (by unfold F_A_compute <;> rw [if_neg h6] <;> rw [if_neg h7] <;> rw [if_neg h8] <;> rw [if_neg h9] <;> rw [if_neg h10] <;> rw [if_neg h15] <;> rw [if_neg h16] <;> rw [if_neg h17] <;> rw [if_neg h19] <;> rw [if_neg h24] <;> rw [if_neg h30] <;> rw [if_neg h31] <;> rw [if_neg h32] <;> rfl) hw d_A_compute_257
def F_A_takeState (rg : Nat → Int32) (ip : Nat → Int32) (ou : Nat → Int32) (ctS : Int32) (tiS : Int32) (niS : Int32) (noS : Int32) (rtS : Int32) (rqS : Bool) (rbS : Int32) (rwdS : Int32) (rgS : Nat → Int32) (ipS : Nat → Int32) (ouS : Nat → Int32) : (Nat → Int32) × (Nat → Int32) × (Nat → Int32) × Int32 × Int32 × Int32 × Int32 × Int32 × Bool × Int32 × Int32 :=
  (va_cpy rgS rg 0 0 4, va_cpy ipS ip 0 0 8, va_cpy ouS ou 0 0 40, ctS, tiS, niS, noS, rtS, rqS, rbS, rwdS)
set_option maxHeartbeats 4000000 in
set_option maxRecDepth 100000 in
theorem c_A_takeState (l : Launch) (D : va_G) (cT : Nat → ClassId) (qm : Nat) (qme : Nat) (qrg : Nat) (qip : Nat) (qou : Nat) (qmS : Nat) (qmeS : Nat) (qrgS : Nat) (qipS : Nat) (qouS : Nat) (ct : Int32) (ti : Int32) (ni : Int32) (no : Int32) (rt : Int32) (rq : Bool) (rb : Int32) (rwd : Int32) (me : Nat → Int32) (rg : Nat → Int32) (ip : Nat → Int32) (ou : Nat → Int32) (ctS : Int32) (tiS : Int32) (niS : Int32) (noS : Int32) (rtS : Int32) (rqS : Bool) (rbS : Int32) (rwdS : Int32) (meS : Nat → Int32) (rgS : Nat → Int32) (ipS : Nat → Int32) (ouS : Nat → Int32)  : Ctv l y_A_takeState ws_A_takeState { frames := 1, cells := 0, slots := 0, locals := 24 } D vwCl (TYS cT) [.ref qm, .ref qmS] [(qm, .inr (2, [.ref qme, .ref qrg, .ref qip, .ref qou, .int ct, .int ti, .int ni, .int no, .int rt, .int (bI rq), .int rb, .int rwd])), (qme, .inl (cT 0, 64, .inl me)), (qrg, .inl (cT 0, 4, .inl rg)), (qip, .inl (cT 0, 8, .inl ip)), (qou, .inl (cT 0, 40, .inl ou)), (qmS, .inr (2, [.ref qmeS, .ref qrgS, .ref qipS, .ref qouS, .int ctS, .int tiS, .int niS, .int noS, .int rtS, .int (bI rqS), .int rbS, .int rwdS])), (qmeS, .inl (cT 0, 64, .inl meS)), (qrgS, .inl (cT 0, 4, .inl rgS)), (qipS, .inl (cT 0, 8, .inl ipS)), (qouS, .inl (cT 0, 40, .inl ouS))] (fun (uu : (Nat → Int32) × (Nat → Int32) × (Nat → Int32) × Int32 × Int32 × Int32 × Int32 × Int32 × Bool × Int32 × Int32) => F_A_takeState rg ip ou ctS tiS niS noS rtS rqS rbS rwdS rgS ipS ouS = uu) (fun (u : (Nat → Int32) × (Nat → Int32) × (Nat → Int32) × Int32 × Int32 × Int32 × Int32 × Int32 × Bool × Int32 × Int32) => [(qm, .inr (2, [.ref qme, .ref qrg, .ref qip, .ref qou, .int (u.2.2.2.1), .int (u.2.2.2.2.1), .int (u.2.2.2.2.2.1), .int (u.2.2.2.2.2.2.1), .int (u.2.2.2.2.2.2.2.1), .int (bI u.2.2.2.2.2.2.2.2.1), .int (u.2.2.2.2.2.2.2.2.2.1), .int (u.2.2.2.2.2.2.2.2.2.2)])), (qme, .inl (cT 0, 64, .inl me)), (qrg, .inl (cT 0, 4, .inl u.1)), (qip, .inl (cT 0, 8, .inl u.2.1)), (qou, .inl (cT 0, 40, .inl u.2.2.1)), (qmS, .inr (2, [.ref qmeS, .ref qrgS, .ref qipS, .ref qouS, .int ctS, .int tiS, .int niS, .int noS, .int rtS, .int (bI rqS), .int rbS, .int rwdS])), (qmeS, .inl (cT 0, 64, .inl meS)), (qrgS, .inl (cT 0, 4, .inl rgS)), (qipS, .inl (cT 0, 8, .inl ipS)), (qouS, .inl (cT 0, 40, .inl ouS))]) 0 0 := by
  refine x_inv (cc := b_A_takeState) (maxL := 2) (by decide) rfl (Nat.le_of_ble_eq_true rfl) ?_
  intro p e s m args below meth c A ls Q F hin hl hw ret
  have hl : lv_has ls 2 [(0, .ref qm), (1, .ref qmS)] := hl
  refine lv_aload_n (pc := 0) F.1 F.2.1 d_A_takeState_0 rfl (lv_at hl 1 rfl) ?_
  refine x_get (pc := 1) (v := .ref qrgS) F hw 5 1 (fun x h => List.mem_cons_of_mem _ (in_A x h)) rfl rfl (by decide) (List.mem_cons_of_mem _ m_120) rfl d_A_takeState_1 ?_
  refine lv_iconst (pc := 4) (v := 0) F.1 F.2.1 d_A_takeState_4 (by decide) ?_
  refine lv_aload_n (pc := 5) F.1 F.2.1 d_A_takeState_5 rfl (lv_at hl 0 rfl) ?_
  refine x_get (pc := 6) (v := .ref qrg) F hw 0 1 (fun x h => List.mem_cons_of_mem _ (in_A x h)) rfl rfl (by decide) (List.mem_cons_of_mem _ m_120) rfl d_A_takeState_6 ?_
  refine lv_iconst (pc := 9) (v := 0) F.1 F.2.1 d_A_takeState_9 (by decide) ?_
  refine lv_iconst (pc := 10) (v := 4) F.1 F.2.1 d_A_takeState_10 (by decide) ?_
  refine x_copyi (pc := 11) (ws' := [(qm, .inr (2, [.ref qme, .ref qrg, .ref qip, .ref qou, .int ct, .int ti, .int ni, .int no, .int rt, .int (bI rq), .int rb, .int rwd])), (qme, .inl (cT 0, 64, .inl me)), (qrg, .inl (cT 0, 4, .inl (va_cpy rgS rg 0 0 4))), (qip, .inl (cT 0, 8, .inl ip)), (qou, .inl (cT 0, 40, .inl ou)), (qmS, .inr (2, [.ref qmeS, .ref qrgS, .ref qipS, .ref qouS, .int ctS, .int tiS, .int niS, .int noS, .int rtS, .int (bI rqS), .int rbS, .int rwdS])), (qmeS, .inl (cT 0, 64, .inl meS)), (qrgS, .inl (cT 0, 4, .inl rgS)), (qipS, .inl (cT 0, 8, .inl ipS)), (qouS, .inl (cT 0, 40, .inl ouS))]) F hl hw 7 2 0 (0) (0) (4) (List.mem_cons_of_mem _ m_305) (List.mem_cons_of_mem _ m_254) (List.mem_cons_of_mem _ m_253) (List.mem_cons_of_mem _ m_42) rfl rfl rfl rfl rfl rfl (by omega) (by omega) (by first | decide | omega) (by first | decide | omega) (by decide) (by decide) d_A_takeState_11 rfl (fun H locs hw => ?_)
  refine lv_aload_n (pc := 14) F.1 F.2.1 d_A_takeState_14 rfl (lv_at hl 1 rfl) ?_
  refine x_get (pc := 15) (v := .ref qipS) F hw 5 2 (fun x h => List.mem_cons_of_mem _ (in_A x h)) rfl rfl (by decide) (List.mem_cons_of_mem _ m_122) rfl d_A_takeState_15 ?_
  refine lv_iconst (pc := 18) (v := 0) F.1 F.2.1 d_A_takeState_18 (by decide) ?_
  refine lv_aload_n (pc := 19) F.1 F.2.1 d_A_takeState_19 rfl (lv_at hl 0 rfl) ?_
  refine x_get (pc := 20) (v := .ref qip) F hw 0 2 (fun x h => List.mem_cons_of_mem _ (in_A x h)) rfl rfl (by decide) (List.mem_cons_of_mem _ m_122) rfl d_A_takeState_20 ?_
  refine lv_iconst (pc := 23) (v := 0) F.1 F.2.1 d_A_takeState_23 (by decide) ?_
  refine lv_bipush (pc := 24) (v := 8) F.1 F.2.1 d_A_takeState_24 (by decide) ?_
  refine x_copyi (pc := 26) (ws' := [(qm, .inr (2, [.ref qme, .ref qrg, .ref qip, .ref qou, .int ct, .int ti, .int ni, .int no, .int rt, .int (bI rq), .int rb, .int rwd])), (qme, .inl (cT 0, 64, .inl me)), (qrg, .inl (cT 0, 4, .inl (va_cpy rgS rg 0 0 4))), (qip, .inl (cT 0, 8, .inl (va_cpy ipS ip 0 0 8))), (qou, .inl (cT 0, 40, .inl ou)), (qmS, .inr (2, [.ref qmeS, .ref qrgS, .ref qipS, .ref qouS, .int ctS, .int tiS, .int niS, .int noS, .int rtS, .int (bI rqS), .int rbS, .int rwdS])), (qmeS, .inl (cT 0, 64, .inl meS)), (qrgS, .inl (cT 0, 4, .inl rgS)), (qipS, .inl (cT 0, 8, .inl ipS)), (qouS, .inl (cT 0, 40, .inl ouS))]) F hl hw 8 3 0 (0) (0) (8) (List.mem_cons_of_mem _ m_305) (List.mem_cons_of_mem _ m_254) (List.mem_cons_of_mem _ m_253) (List.mem_cons_of_mem _ m_42) rfl rfl rfl rfl rfl rfl (by omega) (by omega) (by first | decide | omega) (by first | decide | omega) (by decide) (by decide) d_A_takeState_26 rfl (fun H locs hw => ?_)
  refine lv_aload_n (pc := 29) F.1 F.2.1 d_A_takeState_29 rfl (lv_at hl 1 rfl) ?_
  refine x_get (pc := 30) (v := .ref qouS) F hw 5 3 (fun x h => List.mem_cons_of_mem _ (in_A x h)) rfl rfl (by decide) (List.mem_cons_of_mem _ m_124) rfl d_A_takeState_30 ?_
  refine lv_iconst (pc := 33) (v := 0) F.1 F.2.1 d_A_takeState_33 (by decide) ?_
  refine lv_aload_n (pc := 34) F.1 F.2.1 d_A_takeState_34 rfl (lv_at hl 0 rfl) ?_
  refine x_get (pc := 35) (v := .ref qou) F hw 0 3 (fun x h => List.mem_cons_of_mem _ (in_A x h)) rfl rfl (by decide) (List.mem_cons_of_mem _ m_124) rfl d_A_takeState_35 ?_
  refine lv_iconst (pc := 38) (v := 0) F.1 F.2.1 d_A_takeState_38 (by decide) ?_
  refine lv_bipush (pc := 39) (v := 40) F.1 F.2.1 d_A_takeState_39 (by decide) ?_
  refine x_copyi (pc := 41) (ws' := [(qm, .inr (2, [.ref qme, .ref qrg, .ref qip, .ref qou, .int ct, .int ti, .int ni, .int no, .int rt, .int (bI rq), .int rb, .int rwd])), (qme, .inl (cT 0, 64, .inl me)), (qrg, .inl (cT 0, 4, .inl (va_cpy rgS rg 0 0 4))), (qip, .inl (cT 0, 8, .inl (va_cpy ipS ip 0 0 8))), (qou, .inl (cT 0, 40, .inl (va_cpy ouS ou 0 0 40))), (qmS, .inr (2, [.ref qmeS, .ref qrgS, .ref qipS, .ref qouS, .int ctS, .int tiS, .int niS, .int noS, .int rtS, .int (bI rqS), .int rbS, .int rwdS])), (qmeS, .inl (cT 0, 64, .inl meS)), (qrgS, .inl (cT 0, 4, .inl rgS)), (qipS, .inl (cT 0, 8, .inl ipS)), (qouS, .inl (cT 0, 40, .inl ouS))]) F hl hw 9 4 0 (0) (0) (40) (List.mem_cons_of_mem _ m_305) (List.mem_cons_of_mem _ m_254) (List.mem_cons_of_mem _ m_253) (List.mem_cons_of_mem _ m_42) rfl rfl rfl rfl rfl rfl (by omega) (by omega) (by first | decide | omega) (by first | decide | omega) (by decide) (by decide) d_A_takeState_41 rfl (fun H locs hw => ?_)
  refine lv_aload_n (pc := 44) F.1 F.2.1 d_A_takeState_44 rfl (lv_at hl 0 rfl) ?_
  refine lv_aload_n (pc := 45) F.1 F.2.1 d_A_takeState_45 rfl (lv_at hl 1 rfl) ?_
  refine x_get (pc := 46) (v := .int ctS) F hw 5 4 (fun x h => List.mem_cons_of_mem _ (in_A x h)) rfl rfl (by decide) (List.mem_cons_of_mem _ m_126) rfl d_A_takeState_46 ?_
  refine x_put (pc := 49) (v := .int ctS) (ty := .int) (ws' := [(qm, .inr (2, [.ref qme, .ref qrg, .ref qip, .ref qou, .int ctS, .int ti, .int ni, .int no, .int rt, .int (bI rq), .int rb, .int rwd])), (qme, .inl (cT 0, 64, .inl me)), (qrg, .inl (cT 0, 4, .inl (va_cpy rgS rg 0 0 4))), (qip, .inl (cT 0, 8, .inl (va_cpy ipS ip 0 0 8))), (qou, .inl (cT 0, 40, .inl (va_cpy ouS ou 0 0 40))), (qmS, .inr (2, [.ref qmeS, .ref qrgS, .ref qipS, .ref qouS, .int ctS, .int tiS, .int niS, .int noS, .int rtS, .int (bI rqS), .int rbS, .int rwdS])), (qmeS, .inl (cT 0, 64, .inl meS)), (qrgS, .inl (cT 0, 4, .inl rgS)), (qipS, .inl (cT 0, 8, .inl ipS)), (qouS, .inl (cT 0, 40, .inl ouS))]) F hw 0 4 (fun x h => List.mem_cons_of_mem _ (in_A x h)) ty_A tyok_A nm_A rfl rfl (by decide) (List.mem_cons_of_mem _ m_126) rfl (by decide +kernel) rfl rfl (Nat.le_of_ble_eq_true rfl) d_A_takeState_49 rfl (fun H locs hw => ?_)
  refine lv_aload_n (pc := 52) F.1 F.2.1 d_A_takeState_52 rfl (lv_at hl 0 rfl) ?_
  refine lv_aload_n (pc := 53) F.1 F.2.1 d_A_takeState_53 rfl (lv_at hl 1 rfl) ?_
  refine x_get (pc := 54) (v := .int tiS) F hw 5 5 (fun x h => List.mem_cons_of_mem _ (in_A x h)) rfl rfl (by decide) (List.mem_cons_of_mem _ m_128) rfl d_A_takeState_54 ?_
  refine x_put (pc := 57) (v := .int tiS) (ty := .int) (ws' := [(qm, .inr (2, [.ref qme, .ref qrg, .ref qip, .ref qou, .int ctS, .int tiS, .int ni, .int no, .int rt, .int (bI rq), .int rb, .int rwd])), (qme, .inl (cT 0, 64, .inl me)), (qrg, .inl (cT 0, 4, .inl (va_cpy rgS rg 0 0 4))), (qip, .inl (cT 0, 8, .inl (va_cpy ipS ip 0 0 8))), (qou, .inl (cT 0, 40, .inl (va_cpy ouS ou 0 0 40))), (qmS, .inr (2, [.ref qmeS, .ref qrgS, .ref qipS, .ref qouS, .int ctS, .int tiS, .int niS, .int noS, .int rtS, .int (bI rqS), .int rbS, .int rwdS])), (qmeS, .inl (cT 0, 64, .inl meS)), (qrgS, .inl (cT 0, 4, .inl rgS)), (qipS, .inl (cT 0, 8, .inl ipS)), (qouS, .inl (cT 0, 40, .inl ouS))]) F hw 0 5 (fun x h => List.mem_cons_of_mem _ (in_A x h)) ty_A tyok_A nm_A rfl rfl (by decide) (List.mem_cons_of_mem _ m_128) rfl (by decide +kernel) rfl rfl (Nat.le_of_ble_eq_true rfl) d_A_takeState_57 rfl (fun H locs hw => ?_)
  refine lv_aload_n (pc := 60) F.1 F.2.1 d_A_takeState_60 rfl (lv_at hl 0 rfl) ?_
  refine lv_aload_n (pc := 61) F.1 F.2.1 d_A_takeState_61 rfl (lv_at hl 1 rfl) ?_
  refine x_get (pc := 62) (v := .int niS) F hw 5 6 (fun x h => List.mem_cons_of_mem _ (in_A x h)) rfl rfl (by decide) (List.mem_cons_of_mem _ m_130) rfl d_A_takeState_62 ?_
  refine x_put (pc := 65) (v := .int niS) (ty := .int) (ws' := [(qm, .inr (2, [.ref qme, .ref qrg, .ref qip, .ref qou, .int ctS, .int tiS, .int niS, .int no, .int rt, .int (bI rq), .int rb, .int rwd])), (qme, .inl (cT 0, 64, .inl me)), (qrg, .inl (cT 0, 4, .inl (va_cpy rgS rg 0 0 4))), (qip, .inl (cT 0, 8, .inl (va_cpy ipS ip 0 0 8))), (qou, .inl (cT 0, 40, .inl (va_cpy ouS ou 0 0 40))), (qmS, .inr (2, [.ref qmeS, .ref qrgS, .ref qipS, .ref qouS, .int ctS, .int tiS, .int niS, .int noS, .int rtS, .int (bI rqS), .int rbS, .int rwdS])), (qmeS, .inl (cT 0, 64, .inl meS)), (qrgS, .inl (cT 0, 4, .inl rgS)), (qipS, .inl (cT 0, 8, .inl ipS)), (qouS, .inl (cT 0, 40, .inl ouS))]) F hw 0 6 (fun x h => List.mem_cons_of_mem _ (in_A x h)) ty_A tyok_A nm_A rfl rfl (by decide) (List.mem_cons_of_mem _ m_130) rfl (by decide +kernel) rfl rfl (Nat.le_of_ble_eq_true rfl) d_A_takeState_65 rfl (fun H locs hw => ?_)
  refine lv_aload_n (pc := 68) F.1 F.2.1 d_A_takeState_68 rfl (lv_at hl 0 rfl) ?_
  refine lv_aload_n (pc := 69) F.1 F.2.1 d_A_takeState_69 rfl (lv_at hl 1 rfl) ?_
  refine x_get (pc := 70) (v := .int noS) F hw 5 7 (fun x h => List.mem_cons_of_mem _ (in_A x h)) rfl rfl (by decide) (List.mem_cons_of_mem _ m_132) rfl d_A_takeState_70 ?_
  refine x_put (pc := 73) (v := .int noS) (ty := .int) (ws' := [(qm, .inr (2, [.ref qme, .ref qrg, .ref qip, .ref qou, .int ctS, .int tiS, .int niS, .int noS, .int rt, .int (bI rq), .int rb, .int rwd])), (qme, .inl (cT 0, 64, .inl me)), (qrg, .inl (cT 0, 4, .inl (va_cpy rgS rg 0 0 4))), (qip, .inl (cT 0, 8, .inl (va_cpy ipS ip 0 0 8))), (qou, .inl (cT 0, 40, .inl (va_cpy ouS ou 0 0 40))), (qmS, .inr (2, [.ref qmeS, .ref qrgS, .ref qipS, .ref qouS, .int ctS, .int tiS, .int niS, .int noS, .int rtS, .int (bI rqS), .int rbS, .int rwdS])), (qmeS, .inl (cT 0, 64, .inl meS)), (qrgS, .inl (cT 0, 4, .inl rgS)), (qipS, .inl (cT 0, 8, .inl ipS)), (qouS, .inl (cT 0, 40, .inl ouS))]) F hw 0 7 (fun x h => List.mem_cons_of_mem _ (in_A x h)) ty_A tyok_A nm_A rfl rfl (by decide) (List.mem_cons_of_mem _ m_132) rfl (by decide +kernel) rfl rfl (Nat.le_of_ble_eq_true rfl) d_A_takeState_73 rfl (fun H locs hw => ?_)
  refine lv_aload_n (pc := 76) F.1 F.2.1 d_A_takeState_76 rfl (lv_at hl 0 rfl) ?_
  refine lv_aload_n (pc := 77) F.1 F.2.1 d_A_takeState_77 rfl (lv_at hl 1 rfl) ?_
  refine x_get (pc := 78) (v := .int rtS) F hw 5 8 (fun x h => List.mem_cons_of_mem _ (in_A x h)) rfl rfl (by decide) (List.mem_cons_of_mem _ m_134) rfl d_A_takeState_78 ?_
  refine x_put (pc := 81) (v := .int rtS) (ty := .int) (ws' := [(qm, .inr (2, [.ref qme, .ref qrg, .ref qip, .ref qou, .int ctS, .int tiS, .int niS, .int noS, .int rtS, .int (bI rq), .int rb, .int rwd])), (qme, .inl (cT 0, 64, .inl me)), (qrg, .inl (cT 0, 4, .inl (va_cpy rgS rg 0 0 4))), (qip, .inl (cT 0, 8, .inl (va_cpy ipS ip 0 0 8))), (qou, .inl (cT 0, 40, .inl (va_cpy ouS ou 0 0 40))), (qmS, .inr (2, [.ref qmeS, .ref qrgS, .ref qipS, .ref qouS, .int ctS, .int tiS, .int niS, .int noS, .int rtS, .int (bI rqS), .int rbS, .int rwdS])), (qmeS, .inl (cT 0, 64, .inl meS)), (qrgS, .inl (cT 0, 4, .inl rgS)), (qipS, .inl (cT 0, 8, .inl ipS)), (qouS, .inl (cT 0, 40, .inl ouS))]) F hw 0 8 (fun x h => List.mem_cons_of_mem _ (in_A x h)) ty_A tyok_A nm_A rfl rfl (by decide) (List.mem_cons_of_mem _ m_134) rfl (by decide +kernel) rfl rfl (Nat.le_of_ble_eq_true rfl) d_A_takeState_81 rfl (fun H locs hw => ?_)
  refine lv_aload_n (pc := 84) F.1 F.2.1 d_A_takeState_84 rfl (lv_at hl 0 rfl) ?_
  refine lv_aload_n (pc := 85) F.1 F.2.1 d_A_takeState_85 rfl (lv_at hl 1 rfl) ?_
  refine x_get (pc := 86) (v := .int (bI rqS)) F hw 5 9 (fun x h => List.mem_cons_of_mem _ (in_A x h)) rfl rfl (by decide) (List.mem_cons_of_mem _ m_136) rfl d_A_takeState_86 ?_
  refine x_put (pc := 89) (v := .int (bI rqS)) (ty := .boolean) (ws' := [(qm, .inr (2, [.ref qme, .ref qrg, .ref qip, .ref qou, .int ctS, .int tiS, .int niS, .int noS, .int rtS, .int (bI rqS), .int rb, .int rwd])), (qme, .inl (cT 0, 64, .inl me)), (qrg, .inl (cT 0, 4, .inl (va_cpy rgS rg 0 0 4))), (qip, .inl (cT 0, 8, .inl (va_cpy ipS ip 0 0 8))), (qou, .inl (cT 0, 40, .inl (va_cpy ouS ou 0 0 40))), (qmS, .inr (2, [.ref qmeS, .ref qrgS, .ref qipS, .ref qouS, .int ctS, .int tiS, .int niS, .int noS, .int rtS, .int (bI rqS), .int rbS, .int rwdS])), (qmeS, .inl (cT 0, 64, .inl meS)), (qrgS, .inl (cT 0, 4, .inl rgS)), (qipS, .inl (cT 0, 8, .inl ipS)), (qouS, .inl (cT 0, 40, .inl ouS))]) F hw 0 9 (fun x h => List.mem_cons_of_mem _ (in_A x h)) ty_A tyok_A nm_A rfl rfl (by decide) (List.mem_cons_of_mem _ m_136) rfl (by decide +kernel) (bI_nar rqS) (bI_fit rqS) (Nat.le_of_ble_eq_true rfl) d_A_takeState_89 rfl (fun H locs hw => ?_)
  refine lv_aload_n (pc := 92) F.1 F.2.1 d_A_takeState_92 rfl (lv_at hl 0 rfl) ?_
  refine lv_aload_n (pc := 93) F.1 F.2.1 d_A_takeState_93 rfl (lv_at hl 1 rfl) ?_
  refine x_get (pc := 94) (v := .int rbS) F hw 5 10 (fun x h => List.mem_cons_of_mem _ (in_A x h)) rfl rfl (by decide) (List.mem_cons_of_mem _ m_138) rfl d_A_takeState_94 ?_
  refine x_put (pc := 97) (v := .int rbS) (ty := .int) (ws' := [(qm, .inr (2, [.ref qme, .ref qrg, .ref qip, .ref qou, .int ctS, .int tiS, .int niS, .int noS, .int rtS, .int (bI rqS), .int rbS, .int rwd])), (qme, .inl (cT 0, 64, .inl me)), (qrg, .inl (cT 0, 4, .inl (va_cpy rgS rg 0 0 4))), (qip, .inl (cT 0, 8, .inl (va_cpy ipS ip 0 0 8))), (qou, .inl (cT 0, 40, .inl (va_cpy ouS ou 0 0 40))), (qmS, .inr (2, [.ref qmeS, .ref qrgS, .ref qipS, .ref qouS, .int ctS, .int tiS, .int niS, .int noS, .int rtS, .int (bI rqS), .int rbS, .int rwdS])), (qmeS, .inl (cT 0, 64, .inl meS)), (qrgS, .inl (cT 0, 4, .inl rgS)), (qipS, .inl (cT 0, 8, .inl ipS)), (qouS, .inl (cT 0, 40, .inl ouS))]) F hw 0 10 (fun x h => List.mem_cons_of_mem _ (in_A x h)) ty_A tyok_A nm_A rfl rfl (by decide) (List.mem_cons_of_mem _ m_138) rfl (by decide +kernel) rfl rfl (Nat.le_of_ble_eq_true rfl) d_A_takeState_97 rfl (fun H locs hw => ?_)
  refine lv_aload_n (pc := 100) F.1 F.2.1 d_A_takeState_100 rfl (lv_at hl 0 rfl) ?_
  refine lv_aload_n (pc := 101) F.1 F.2.1 d_A_takeState_101 rfl (lv_at hl 1 rfl) ?_
  refine x_get (pc := 102) (v := .int rwdS) F hw 5 11 (fun x h => List.mem_cons_of_mem _ (in_A x h)) rfl rfl (by decide) (List.mem_cons_of_mem _ m_140) rfl d_A_takeState_102 ?_
  refine x_put (pc := 105) (v := .int rwdS) (ty := .int) (ws' := [(qm, .inr (2, [.ref qme, .ref qrg, .ref qip, .ref qou, .int ctS, .int tiS, .int niS, .int noS, .int rtS, .int (bI rqS), .int rbS, .int rwdS])), (qme, .inl (cT 0, 64, .inl me)), (qrg, .inl (cT 0, 4, .inl (va_cpy rgS rg 0 0 4))), (qip, .inl (cT 0, 8, .inl (va_cpy ipS ip 0 0 8))), (qou, .inl (cT 0, 40, .inl (va_cpy ouS ou 0 0 40))), (qmS, .inr (2, [.ref qmeS, .ref qrgS, .ref qipS, .ref qouS, .int ctS, .int tiS, .int niS, .int noS, .int rtS, .int (bI rqS), .int rbS, .int rwdS])), (qmeS, .inl (cT 0, 64, .inl meS)), (qrgS, .inl (cT 0, 4, .inl rgS)), (qipS, .inl (cT 0, 8, .inl ipS)), (qouS, .inl (cT 0, 40, .inl ouS))]) F hw 0 11 (fun x h => List.mem_cons_of_mem _ (in_A x h)) ty_A tyok_A nm_A rfl rfl (by decide) (List.mem_cons_of_mem _ m_140) rfl (by decide +kernel) rfl rfl (Nat.le_of_ble_eq_true rfl) d_A_takeState_105 rfl (fun H locs hw => ?_)
  refine W.widen (k := 0) (n := 0) (by decide) (by decide) ?_
  exact ret (va_cpy rgS rg 0 0 4, va_cpy ipS ip 0 0 8, va_cpy ouS ou 0 0 40, ctS, tiS, niS, noS, rtS, rqS, rbS, rwdS) _ _ 108 _ (by unfold F_A_takeState <;> rfl) hw d_A_takeState_108
def F_H_order (rb : Int32) (rwd : Int32) (x : Int32) : Bool × Int32 × Int32 × Int32 :=
  (true, rb, rwd, x)
set_option maxHeartbeats 4000000 in
set_option maxRecDepth 100000 in
theorem c_H_order (l : Launch) (D : va_G) (cT : Nat → ClassId) (qh : Nat) (qm : Nat) (qhs : Nat) (qme : Nat) (qrg : Nat) (qip : Nat) (qou : Nat) (hu : Bool) (hd : Bool) (ta : Bool) (re : Bool) (ho : Bool) (b1 : Int32) (w1 : Int32) (n1 : Int32) (hs : Nat → Int32) (ct : Int32) (ti : Int32) (ni : Int32) (no : Int32) (rt : Int32) (rq : Bool) (rb : Int32) (rwd : Int32) (me : Nat → Int32) (rg : Nat → Int32) (ip : Nat → Int32) (ou : Nat → Int32) (x : Int32)  : Ctv l y_H_order ws_H_order { frames := 0, cells := 0, slots := 0, locals := 0 } D vwCl (TYS cT) [.ref qh, .int x] [(qh, .inr (0, [.ref qm, .ref qhs, .int (bI hu), .int (bI hd), .int (bI ta), .int (bI re), .int (bI ho), .int b1, .int w1, .int n1])), (qhs, .inl (cT 0, 8, .inl hs)), (qm, .inr (2, [.ref qme, .ref qrg, .ref qip, .ref qou, .int ct, .int ti, .int ni, .int no, .int rt, .int (bI rq), .int rb, .int rwd])), (qme, .inl (cT 0, 64, .inl me)), (qrg, .inl (cT 0, 4, .inl rg)), (qip, .inl (cT 0, 8, .inl ip)), (qou, .inl (cT 0, 40, .inl ou))] (fun (uu : Bool × Int32 × Int32 × Int32) => F_H_order rb rwd x = uu) (fun (u : Bool × Int32 × Int32 × Int32) => [(qh, .inr (0, [.ref qm, .ref qhs, .int (bI hu), .int (bI hd), .int (bI ta), .int (bI re), .int (bI u.1), .int (u.2.1), .int (u.2.2.1), .int (u.2.2.2)])), (qhs, .inl (cT 0, 8, .inl hs)), (qm, .inr (2, [.ref qme, .ref qrg, .ref qip, .ref qou, .int ct, .int ti, .int ni, .int no, .int rt, .int (bI rq), .int rb, .int rwd])), (qme, .inl (cT 0, 64, .inl me)), (qrg, .inl (cT 0, 4, .inl rg)), (qip, .inl (cT 0, 8, .inl ip)), (qou, .inl (cT 0, 40, .inl ou))]) 0 0 := by
  refine x_inv (cc := b_H_order) (maxL := 2) (by decide) rfl (Nat.le_of_ble_eq_true rfl) ?_
  intro p e s m args below meth c A ls Q F hin hl hw ret
  have hl : lv_has ls 2 [(0, .ref qh), (1, .int x)] := hl
  refine lv_aload_n (pc := 0) F.1 F.2.1 d_H_order_0 rfl (lv_at hl 0 rfl) ?_
  refine lv_iconst (pc := 1) (v := 1) F.1 F.2.1 d_H_order_1 (by decide) ?_
  refine x_put (pc := 2) (v := .int (bI true)) (ty := .boolean) (ws' := [(qh, .inr (0, [.ref qm, .ref qhs, .int (bI hu), .int (bI hd), .int (bI ta), .int (bI re), .int (bI true), .int b1, .int w1, .int n1])), (qhs, .inl (cT 0, 8, .inl hs)), (qm, .inr (2, [.ref qme, .ref qrg, .ref qip, .ref qou, .int ct, .int ti, .int ni, .int no, .int rt, .int (bI rq), .int rb, .int rwd])), (qme, .inl (cT 0, 64, .inl me)), (qrg, .inl (cT 0, 4, .inl rg)), (qip, .inl (cT 0, 8, .inl ip)), (qou, .inl (cT 0, 40, .inl ou))]) F hw 0 6 (fun x h => List.mem_cons_of_mem _ (in_H x h)) ty_H tyok_H nm_H rfl rfl (by decide) (List.mem_cons_of_mem _ m_179) rfl (by decide +kernel) (bI_nar true) (bI_fit true) (Nat.le_of_ble_eq_true rfl) d_H_order_2 rfl (fun H locs hw => ?_)
  refine lv_aload_n (pc := 5) F.1 F.2.1 d_H_order_5 rfl (lv_at hl 0 rfl) ?_
  refine lv_aload_n (pc := 6) F.1 F.2.1 d_H_order_6 rfl (lv_at hl 0 rfl) ?_
  refine x_get (pc := 7) (v := .ref qm) F hw 0 0 (fun x h => List.mem_cons_of_mem _ (in_H x h)) rfl rfl (by decide) (List.mem_cons_of_mem _ m_167) rfl d_H_order_7 ?_
  refine x_get (pc := 10) (v := .int rb) F hw 2 10 (fun x h => List.mem_cons_of_mem _ (in_A x h)) rfl rfl (by decide) (List.mem_cons_of_mem _ m_139) rfl d_H_order_10 ?_
  refine x_put (pc := 13) (v := .int rb) (ty := .int) (ws' := [(qh, .inr (0, [.ref qm, .ref qhs, .int (bI hu), .int (bI hd), .int (bI ta), .int (bI re), .int (bI true), .int rb, .int w1, .int n1])), (qhs, .inl (cT 0, 8, .inl hs)), (qm, .inr (2, [.ref qme, .ref qrg, .ref qip, .ref qou, .int ct, .int ti, .int ni, .int no, .int rt, .int (bI rq), .int rb, .int rwd])), (qme, .inl (cT 0, 64, .inl me)), (qrg, .inl (cT 0, 4, .inl rg)), (qip, .inl (cT 0, 8, .inl ip)), (qou, .inl (cT 0, 40, .inl ou))]) F hw 0 7 (fun x h => List.mem_cons_of_mem _ (in_H x h)) ty_H tyok_H nm_H rfl rfl (by decide) (List.mem_cons_of_mem _ m_181) rfl (by decide +kernel) rfl rfl (Nat.le_of_ble_eq_true rfl) d_H_order_13 rfl (fun H locs hw => ?_)
  refine lv_aload_n (pc := 16) F.1 F.2.1 d_H_order_16 rfl (lv_at hl 0 rfl) ?_
  refine lv_aload_n (pc := 17) F.1 F.2.1 d_H_order_17 rfl (lv_at hl 0 rfl) ?_
  refine x_get (pc := 18) (v := .ref qm) F hw 0 0 (fun x h => List.mem_cons_of_mem _ (in_H x h)) rfl rfl (by decide) (List.mem_cons_of_mem _ m_167) rfl d_H_order_18 ?_
  refine x_get (pc := 21) (v := .int rwd) F hw 2 11 (fun x h => List.mem_cons_of_mem _ (in_A x h)) rfl rfl (by decide) (List.mem_cons_of_mem _ m_141) rfl d_H_order_21 ?_
  refine x_put (pc := 24) (v := .int rwd) (ty := .int) (ws' := [(qh, .inr (0, [.ref qm, .ref qhs, .int (bI hu), .int (bI hd), .int (bI ta), .int (bI re), .int (bI true), .int rb, .int rwd, .int n1])), (qhs, .inl (cT 0, 8, .inl hs)), (qm, .inr (2, [.ref qme, .ref qrg, .ref qip, .ref qou, .int ct, .int ti, .int ni, .int no, .int rt, .int (bI rq), .int rb, .int rwd])), (qme, .inl (cT 0, 64, .inl me)), (qrg, .inl (cT 0, 4, .inl rg)), (qip, .inl (cT 0, 8, .inl ip)), (qou, .inl (cT 0, 40, .inl ou))]) F hw 0 8 (fun x h => List.mem_cons_of_mem _ (in_H x h)) ty_H tyok_H nm_H rfl rfl (by decide) (List.mem_cons_of_mem _ m_183) rfl (by decide +kernel) rfl rfl (Nat.le_of_ble_eq_true rfl) d_H_order_24 rfl (fun H locs hw => ?_)
  refine lv_aload_n (pc := 27) F.1 F.2.1 d_H_order_27 rfl (lv_at hl 0 rfl) ?_
  refine lv_iload_n (pc := 28) F.1 F.2.1 d_H_order_28 rfl (lv_at hl 1 rfl) ?_
  refine x_put (pc := 29) (v := .int x) (ty := .int) (ws' := [(qh, .inr (0, [.ref qm, .ref qhs, .int (bI hu), .int (bI hd), .int (bI ta), .int (bI re), .int (bI true), .int rb, .int rwd, .int x])), (qhs, .inl (cT 0, 8, .inl hs)), (qm, .inr (2, [.ref qme, .ref qrg, .ref qip, .ref qou, .int ct, .int ti, .int ni, .int no, .int rt, .int (bI rq), .int rb, .int rwd])), (qme, .inl (cT 0, 64, .inl me)), (qrg, .inl (cT 0, 4, .inl rg)), (qip, .inl (cT 0, 8, .inl ip)), (qou, .inl (cT 0, 40, .inl ou))]) F hw 0 9 (fun x h => List.mem_cons_of_mem _ (in_H x h)) ty_H tyok_H nm_H rfl rfl (by decide) (List.mem_cons_of_mem _ m_185) rfl (by decide +kernel) rfl rfl (Nat.le_of_ble_eq_true rfl) d_H_order_29 rfl (fun H locs hw => ?_)
  refine W.widen (k := 0) (n := 0) (by decide) (by decide) ?_
  exact ret (true, rb, rwd, x) _ _ 32 _ (by unfold F_H_order <;> rfl) hw d_H_order_32
def F_H_leaveMove  : Bool × Bool :=
  (false, false)
set_option maxHeartbeats 4000000 in
set_option maxRecDepth 100000 in
theorem c_H_leaveMove (l : Launch) (D : va_G) (cT : Nat → ClassId) (qh : Nat) (qm : Nat) (qhs : Nat) (qme : Nat) (qrg : Nat) (qip : Nat) (qou : Nat) (hu : Bool) (hd : Bool) (ta : Bool) (re : Bool) (ho : Bool) (b1 : Int32) (w1 : Int32) (n1 : Int32) (hs : Nat → Int32) (ct : Int32) (ti : Int32) (ni : Int32) (no : Int32) (rt : Int32) (rq : Bool) (rb : Int32) (rwd : Int32) (me : Nat → Int32) (rg : Nat → Int32) (ip : Nat → Int32) (ou : Nat → Int32)  : Ctv l y_H_leaveMove ws_H_leaveMove { frames := 0, cells := 0, slots := 0, locals := 0 } D vwCl (TYS cT) [.ref qh] [(qh, .inr (0, [.ref qm, .ref qhs, .int (bI hu), .int (bI hd), .int (bI ta), .int (bI re), .int (bI ho), .int b1, .int w1, .int n1])), (qhs, .inl (cT 0, 8, .inl hs)), (qm, .inr (2, [.ref qme, .ref qrg, .ref qip, .ref qou, .int ct, .int ti, .int ni, .int no, .int rt, .int (bI rq), .int rb, .int rwd])), (qme, .inl (cT 0, 64, .inl me)), (qrg, .inl (cT 0, 4, .inl rg)), (qip, .inl (cT 0, 8, .inl ip)), (qou, .inl (cT 0, 40, .inl ou))] (fun (uu : Bool × Bool) => F_H_leaveMove = uu) (fun (u : Bool × Bool) => [(qh, .inr (0, [.ref qm, .ref qhs, .int (bI hu), .int (bI hd), .int (bI u.1), .int (bI u.2), .int (bI ho), .int b1, .int w1, .int n1])), (qhs, .inl (cT 0, 8, .inl hs)), (qm, .inr (2, [.ref qme, .ref qrg, .ref qip, .ref qou, .int ct, .int ti, .int ni, .int no, .int rt, .int (bI rq), .int rb, .int rwd])), (qme, .inl (cT 0, 64, .inl me)), (qrg, .inl (cT 0, 4, .inl rg)), (qip, .inl (cT 0, 8, .inl ip)), (qou, .inl (cT 0, 40, .inl ou))]) 0 0 := by
  refine x_inv (cc := b_H_leaveMove) (maxL := 1) (by decide) rfl (Nat.le_of_ble_eq_true rfl) ?_
  intro p e s m args below meth c A ls Q F hin hl hw ret
  have hl : lv_has ls 1 [(0, .ref qh)] := hl
  refine lv_aload_n (pc := 0) F.1 F.2.1 d_H_leaveMove_0 rfl (lv_at hl 0 rfl) ?_
  refine lv_iconst (pc := 1) (v := 0) F.1 F.2.1 d_H_leaveMove_1 (by decide) ?_
  refine x_put (pc := 2) (v := .int (bI false)) (ty := .boolean) (ws' := [(qh, .inr (0, [.ref qm, .ref qhs, .int (bI hu), .int (bI hd), .int (bI false), .int (bI re), .int (bI ho), .int b1, .int w1, .int n1])), (qhs, .inl (cT 0, 8, .inl hs)), (qm, .inr (2, [.ref qme, .ref qrg, .ref qip, .ref qou, .int ct, .int ti, .int ni, .int no, .int rt, .int (bI rq), .int rb, .int rwd])), (qme, .inl (cT 0, 64, .inl me)), (qrg, .inl (cT 0, 4, .inl rg)), (qip, .inl (cT 0, 8, .inl ip)), (qou, .inl (cT 0, 40, .inl ou))]) F hw 0 4 (fun x h => List.mem_cons_of_mem _ (in_H x h)) ty_H tyok_H nm_H rfl rfl (by decide) (List.mem_cons_of_mem _ m_175) rfl (by decide +kernel) (bI_nar false) (bI_fit false) (Nat.le_of_ble_eq_true rfl) d_H_leaveMove_2 rfl (fun H locs hw => ?_)
  refine lv_aload_n (pc := 5) F.1 F.2.1 d_H_leaveMove_5 rfl (lv_at hl 0 rfl) ?_
  refine lv_iconst (pc := 6) (v := 0) F.1 F.2.1 d_H_leaveMove_6 (by decide) ?_
  refine x_put (pc := 7) (v := .int (bI false)) (ty := .boolean) (ws' := [(qh, .inr (0, [.ref qm, .ref qhs, .int (bI hu), .int (bI hd), .int (bI false), .int (bI false), .int (bI ho), .int b1, .int w1, .int n1])), (qhs, .inl (cT 0, 8, .inl hs)), (qm, .inr (2, [.ref qme, .ref qrg, .ref qip, .ref qou, .int ct, .int ti, .int ni, .int no, .int rt, .int (bI rq), .int rb, .int rwd])), (qme, .inl (cT 0, 64, .inl me)), (qrg, .inl (cT 0, 4, .inl rg)), (qip, .inl (cT 0, 8, .inl ip)), (qou, .inl (cT 0, 40, .inl ou))]) F hw 0 5 (fun x h => List.mem_cons_of_mem _ (in_H x h)) ty_H tyok_H nm_H rfl rfl (by decide) (List.mem_cons_of_mem _ m_177) rfl (by decide +kernel) (bI_nar false) (bI_fit false) (Nat.le_of_ble_eq_true rfl) d_H_leaveMove_7 rfl (fun H locs hw => ?_)
  refine W.widen (k := 0) (n := 0) (by decide) (by decide) ?_
  exact ret (false, false) _ _ 10 _ (by unfold F_H_leaveMove <;> rfl) hw d_H_leaveMove_10
def F_H_fall  : Bool × Bool × Bool × Bool × Bool :=
  (false, false, false, false, false)
set_option maxHeartbeats 4000000 in
set_option maxRecDepth 100000 in
theorem c_H_fall (l : Launch) (D : va_G) (cT : Nat → ClassId) (qh : Nat) (qm : Nat) (qhs : Nat) (qme : Nat) (qrg : Nat) (qip : Nat) (qou : Nat) (hu : Bool) (hd : Bool) (ta : Bool) (re : Bool) (ho : Bool) (b1 : Int32) (w1 : Int32) (n1 : Int32) (hs : Nat → Int32) (ct : Int32) (ti : Int32) (ni : Int32) (no : Int32) (rt : Int32) (rq : Bool) (rb : Int32) (rwd : Int32) (me : Nat → Int32) (rg : Nat → Int32) (ip : Nat → Int32) (ou : Nat → Int32)  : Ctv l y_H_fall ws_H_fall { frames := 1, cells := 0, slots := 0, locals := 20 } D vwCl (TYS cT) [.ref qh] [(qh, .inr (0, [.ref qm, .ref qhs, .int (bI hu), .int (bI hd), .int (bI ta), .int (bI re), .int (bI ho), .int b1, .int w1, .int n1])), (qhs, .inl (cT 0, 8, .inl hs)), (qm, .inr (2, [.ref qme, .ref qrg, .ref qip, .ref qou, .int ct, .int ti, .int ni, .int no, .int rt, .int (bI rq), .int rb, .int rwd])), (qme, .inl (cT 0, 64, .inl me)), (qrg, .inl (cT 0, 4, .inl rg)), (qip, .inl (cT 0, 8, .inl ip)), (qou, .inl (cT 0, 40, .inl ou))] (fun (uu : Bool × Bool × Bool × Bool × Bool) => F_H_fall = uu) (fun (u : Bool × Bool × Bool × Bool × Bool) => [(qh, .inr (0, [.ref qm, .ref qhs, .int (bI u.1), .int (bI u.2.1), .int (bI u.2.2.2.1), .int (bI u.2.2.2.2), .int (bI u.2.2.1), .int b1, .int w1, .int n1])), (qhs, .inl (cT 0, 8, .inl hs)), (qm, .inr (2, [.ref qme, .ref qrg, .ref qip, .ref qou, .int ct, .int ti, .int ni, .int no, .int rt, .int (bI rq), .int rb, .int rwd])), (qme, .inl (cT 0, 64, .inl me)), (qrg, .inl (cT 0, 4, .inl rg)), (qip, .inl (cT 0, 8, .inl ip)), (qou, .inl (cT 0, 40, .inl ou))]) 0 0 := by
  refine x_inv (cc := b_H_fall) (maxL := 1) (by decide) rfl (Nat.le_of_ble_eq_true rfl) ?_
  intro p e s m args below meth c A ls Q F hin hl hw ret
  have hl : lv_has ls 1 [(0, .ref qh)] := hl
  refine lv_aload_n (pc := 0) F.1 F.2.1 d_H_fall_0 rfl (lv_at hl 0 rfl) ?_
  refine lv_iconst (pc := 1) (v := 0) F.1 F.2.1 d_H_fall_1 (by decide) ?_
  refine x_put (pc := 2) (v := .int (bI false)) (ty := .boolean) (ws' := [(qh, .inr (0, [.ref qm, .ref qhs, .int (bI false), .int (bI hd), .int (bI ta), .int (bI re), .int (bI ho), .int b1, .int w1, .int n1])), (qhs, .inl (cT 0, 8, .inl hs)), (qm, .inr (2, [.ref qme, .ref qrg, .ref qip, .ref qou, .int ct, .int ti, .int ni, .int no, .int rt, .int (bI rq), .int rb, .int rwd])), (qme, .inl (cT 0, 64, .inl me)), (qrg, .inl (cT 0, 4, .inl rg)), (qip, .inl (cT 0, 8, .inl ip)), (qou, .inl (cT 0, 40, .inl ou))]) F hw 0 2 (fun x h => List.mem_cons_of_mem _ (in_H x h)) ty_H tyok_H nm_H rfl rfl (by decide) (List.mem_cons_of_mem _ m_171) rfl (by decide +kernel) (bI_nar false) (bI_fit false) (Nat.le_of_ble_eq_true rfl) d_H_fall_2 rfl (fun H locs hw => ?_)
  refine lv_aload_n (pc := 5) F.1 F.2.1 d_H_fall_5 rfl (lv_at hl 0 rfl) ?_
  refine lv_iconst (pc := 6) (v := 0) F.1 F.2.1 d_H_fall_6 (by decide) ?_
  refine x_put (pc := 7) (v := .int (bI false)) (ty := .boolean) (ws' := [(qh, .inr (0, [.ref qm, .ref qhs, .int (bI false), .int (bI false), .int (bI ta), .int (bI re), .int (bI ho), .int b1, .int w1, .int n1])), (qhs, .inl (cT 0, 8, .inl hs)), (qm, .inr (2, [.ref qme, .ref qrg, .ref qip, .ref qou, .int ct, .int ti, .int ni, .int no, .int rt, .int (bI rq), .int rb, .int rwd])), (qme, .inl (cT 0, 64, .inl me)), (qrg, .inl (cT 0, 4, .inl rg)), (qip, .inl (cT 0, 8, .inl ip)), (qou, .inl (cT 0, 40, .inl ou))]) F hw 0 3 (fun x h => List.mem_cons_of_mem _ (in_H x h)) ty_H tyok_H nm_H rfl rfl (by decide) (List.mem_cons_of_mem _ m_173) rfl (by decide +kernel) (bI_nar false) (bI_fit false) (Nat.le_of_ble_eq_true rfl) d_H_fall_7 rfl (fun H locs hw => ?_)
  refine lv_aload_n (pc := 10) F.1 F.2.1 d_H_fall_10 rfl (lv_at hl 0 rfl) ?_
  refine lv_iconst (pc := 11) (v := 0) F.1 F.2.1 d_H_fall_11 (by decide) ?_
  refine x_put (pc := 12) (v := .int (bI false)) (ty := .boolean) (ws' := [(qh, .inr (0, [.ref qm, .ref qhs, .int (bI false), .int (bI false), .int (bI ta), .int (bI re), .int (bI false), .int b1, .int w1, .int n1])), (qhs, .inl (cT 0, 8, .inl hs)), (qm, .inr (2, [.ref qme, .ref qrg, .ref qip, .ref qou, .int ct, .int ti, .int ni, .int no, .int rt, .int (bI rq), .int rb, .int rwd])), (qme, .inl (cT 0, 64, .inl me)), (qrg, .inl (cT 0, 4, .inl rg)), (qip, .inl (cT 0, 8, .inl ip)), (qou, .inl (cT 0, 40, .inl ou))]) F hw 0 6 (fun x h => List.mem_cons_of_mem _ (in_H x h)) ty_H tyok_H nm_H rfl rfl (by decide) (List.mem_cons_of_mem _ m_179) rfl (by decide +kernel) (bI_nar false) (bI_fit false) (Nat.le_of_ble_eq_true rfl) d_H_fall_12 rfl (fun H locs hw => ?_)
  refine lv_aload_n (pc := 15) F.1 F.2.1 d_H_fall_15 rfl (lv_at hl 0 rfl) ?_
  refine x_callv (pc := 16) (wr := []) hw [0, 1, 2, 3, 4, 5, 6] [] rfl rfl (by decide) (by decide) (va_runV (As := []) (rest := []) F (c_H_leaveMove l D cT qh qm qhs qme qrg qip qou false false ta re false b1 w1 n1 hs ct ti ni no rt rq rb rwd me rg ip ou  _) (x_cw (C := "MovingGuest$Host") 0 F (g_all y_H_leaveMove b_H_leaveMove 1 none (List.mem_cons_of_mem _ m_455)) rfl rfl rfl (F.2.2.2.2 _ (List.mem_cons_of_mem _ m_38)) (F.2.2.2.2 _ (List.mem_cons_of_mem _ m_479)) (F.2.2.2.2 _ (List.mem_cons_of_mem _ m_453)) (F.2.2.2.2 _ (List.mem_cons_of_mem _ m_454)) (by decide +kernel) ⟨by decide, by decide⟩) (hw.preV (q0 := 0) [0, 1, 2, 3, 4, 5, 6] (by decide) rfl rfl rfl) rfl rfl hl.1 rfl (lv_room (Nat.le_of_ble_eq_true rfl)) d_H_fall_16 ⟨by decide, by decide⟩) (fun u4 H locs e1 hw => ?_)
  obtain ⟨tav2, rev3⟩ := u4
  have hw : Hw D vwCl (TYS cT) A s [(qh, .inr (0, [.ref qm, .ref qhs, .int (bI false), .int (bI false), .int (bI tav2), .int (bI rev3), .int (bI false), .int b1, .int w1, .int n1])), (qhs, .inl (cT 0, 8, .inl hs)), (qm, .inr (2, [.ref qme, .ref qrg, .ref qip, .ref qou, .int ct, .int ti, .int ni, .int no, .int rt, .int (bI rq), .int rb, .int rwd])), (qme, .inl (cT 0, 64, .inl me)), (qrg, .inl (cT 0, 4, .inl rg)), (qip, .inl (cT 0, 8, .inl ip)), (qou, .inl (cT 0, 40, .inl ou))] H locs := hw
  cases (show (false, false) = (tav2, rev3) from e1)
  refine W.widen (k := 0) (n := 0) (by decide) (by decide) ?_
  exact ret (false, false, false, false, false) _ _ 19 _ (by unfold F_H_fall <;> rfl) hw d_H_fall_19
def F_V_unknownPages (sg : Nat → Int32) : Int32 × Unit :=
  (nI (cnt2 sg 8), ())
set_option maxHeartbeats 4000000 in
set_option maxRecDepth 100000 in
theorem c_V_unknownPages (l : Launch) (D : va_G) (cT : Nat → ClassId) (qv : Nat) (qsg : Nat) (qsr : Nat) (go : Bool) (sp : Bool) (mn : Int32) (sc : Int32) (st : Int32) (se : Int32) (fp : Int32) (sg : Nat → Int32) (sr : Nat → Int32)  : Cti l y_V_unknownPages ws_V_unknownPages { frames := 0, cells := 0, slots := 0, locals := 0 } D vwCl (TYS cT) [.ref qv] [(qv, .inr (3, [.ref qsg, .ref qsr, .int (bI go), .int (bI sp), .int mn, .int sc, .int st, .int se, .int fp])), (qsg, .inl (cT 0, 8, .inl sg)), (qsr, .inl (cT 0, 8, .inl sr))] (fun (rr : Int32) (uu : Unit) => F_V_unknownPages sg = (rr, uu)) (fun (u : Unit) => [(qv, .inr (3, [.ref qsg, .ref qsr, .int (bI go), .int (bI sp), .int mn, .int sc, .int st, .int se, .int fp])), (qsg, .inl (cT 0, 8, .inl sg)), (qsr, .inl (cT 0, 8, .inl sr))]) 0 0 := by
  refine x_ini (cc := b_V_unknownPages) (maxL := 3) (by decide) rfl (Nat.le_of_ble_eq_true rfl) ?_
  intro p e s m args below meth c A ls Q F hl hw ret
  have hl : lv_has ls 3 [(0, .ref qv)] := hl
  refine lv_iconst (pc := 0) (v := 0) F.1 F.2.1 d_V_unknownPages_0 (by decide) ?_
  refine lv_istore_n (pc := 1) (lv' := [(1, .int 0), (0, .ref qv)]) F.1 F.2.1 d_V_unknownPages_1 rfl hl (by decide) rfl (fun ls hl => ?_)
  refine lv_iconst (pc := 2) (v := 0) F.1 F.2.1 d_V_unknownPages_2 (by decide) ?_
  refine lv_istore_n (pc := 3) (lv' := [(2, .int 0), (1, .int 0), (0, .ref qv)]) F.1 F.2.1 d_V_unknownPages_3 rfl hl (by decide) rfl (fun ls hl => ?_)
  have loop1 : ∀ (kf : Nat) (i : Nat) (ls : Array Slot) (H : Heap) (locs : List Loc), 8 - i = kf → (i ≤ 8) → lv_has ls 3 [(2, .int (nI i)), (1, .int (nI (cnt2 sg i))), (0, .ref qv)] → Hw D vwCl (TYS cT) A s [(qv, .inr (3, [.ref qsg, .ref qsr, .int (bI go), .int (bI sp), .int mn, .int sc, .int st, .int se, .int fp])), (qsg, .inl (cT 0, 8, .inl sg)), (qsr, .inl (cT 0, 8, .inl sr))] H locs → W p l e { frames := 0, cells := 0, slots := 0, locals := 0 } s m args below meth c H locs 0 0 Q (F0 m 4 ls []) := by
    intro kf
    induction kf using Nat.strongRecOn with
    | _ kf ih1 =>
    intro i ls H locs hk hi hl hw
    refine lv_iload_n (pc := 4) F.1 F.2.1 d_V_unknownPages_4 rfl (lv_at hl 0 rfl) ?_
    refine lv_bipush (pc := 5) (v := 8) F.1 F.2.1 d_V_unknownPages_5 (by decide) ?_
    refine lv_icmp_ge (pc := 7) (tgt := 29) F.1 F.2.1 d_V_unknownPages_7 rfl (fun h2 => ?_) (fun h2 => ?_)
    · have h2 := (nI_leI (a := 8) (b := i) (by omega) (by omega)).mp h2
      obtain rfl : i = 8 := by omega
      refine lv_iload_n (pc := 29) F.1 F.2.1 d_V_unknownPages_29 rfl (lv_at hl 1 rfl) ?_
      refine W.widen (k := 0) (n := 0) (by decide) (by decide) ?_
      exact ret (nI (cnt2 sg 8)) () _ _ 30 _ (by unfold F_V_unknownPages <;> rfl) hw d_V_unknownPages_30
    · have h2 : ¬ 8 ≤ i := fun z9 => h2 ((nI_leI (a := 8) (b := i) (by omega) (by omega)).mpr z9)
      refine lv_aload_n (pc := 10) F.1 F.2.1 d_V_unknownPages_10 rfl (lv_at hl 2 rfl) ?_
      refine x_get (pc := 11) (v := .ref qsg) F hw 0 0 (fun x h => List.mem_cons_of_mem _ (in_V x h)) rfl rfl (by decide) (List.mem_cons_of_mem _ m_59) rfl d_V_unknownPages_11 ?_
      refine lv_iload_n (pc := 14) F.1 F.2.1 d_V_unknownPages_14 rfl (lv_at hl 0 rfl) ?_
      refine x_iald (pc := 15) F hw 1 0 (i) rfl rfl rfl (by omega) (by decide) d_V_unknownPages_15 ?_
      refine lv_iconst (pc := 16) (v := 2) F.1 F.2.1 d_V_unknownPages_16 (by decide) ?_
      refine lv_icmp_eq (pc := 17) (tgt := 23) F.1 F.2.1 d_V_unknownPages_17 rfl (fun h3 => ?_) (fun h3 => ?_)
      · refine lv_iinc (pc := 23) (k := 0) (v := nI (i + 1)) (lv' := [(2, .int (nI (i + 1))), (1, .int (nI (cnt2 sg i))), (0, .ref qv)]) F.1 F.2.1 d_V_unknownPages_23 hl rfl (x_add2 rfl rfl) (by decide) rfl (fun ls hl => ?_)
        refine lv_goto (pc := 26) (tgt := 4) F.1 F.2.1 d_V_unknownPages_26 rfl ?_
        have ec4 : nI (cnt2 sg i) = nI (cnt2 sg (i + 1)) := by simp only [cnt2, if_pos h3, Nat.add_zero]
        rw [ec4] at hl
        exact ih1 _ (by omega) (i + 1) _ _ _ rfl (by omega) hl hw
      · refine lv_iinc (pc := 20) (k := 1) (v := nI (cnt2 sg i + 1)) (lv' := [(1, .int (nI (cnt2 sg i + 1))), (2, .int (nI i)), (0, .ref qv)]) F.1 F.2.1 d_V_unknownPages_20 hl rfl (x_add2 rfl rfl) (by decide) rfl (fun ls hl => ?_)
        refine lv_iinc (pc := 23) (k := 1) (v := nI (i + 1)) (lv' := [(2, .int (nI (i + 1))), (1, .int (nI (cnt2 sg i + 1))), (0, .ref qv)]) F.1 F.2.1 d_V_unknownPages_23 hl rfl (x_add2 rfl rfl) (by decide) rfl (fun ls hl => ?_)
        refine lv_goto (pc := 26) (tgt := 4) F.1 F.2.1 d_V_unknownPages_26 rfl ?_
        have ec5 : nI (cnt2 sg i + 1) = nI (cnt2 sg (i + 1)) := by simp only [cnt2, if_neg h3, Nat.add_zero]
        rw [ec5] at hl
        exact ih1 _ (by omega) (i + 1) _ _ _ rfl (by omega) hl hw
  exact loop1 _ 0 _ _ _ rfl (by omega) hl hw
def F_V_mustStop (st : Int32) (sg : Nat → Int32) : Int32 × Unit :=
  if 40 ≤ st then
    (1, ())
  else
    if st < 8 then
      (0, ())
    else
      if 2 < (nI (cnt2 sg 8)) then
        (0, ())
      else
        (1, ())
set_option maxHeartbeats 4000000 in
set_option maxRecDepth 100000 in
theorem c_V_mustStop (l : Launch) (D : va_G) (cT : Nat → ClassId) (qv : Nat) (qsg : Nat) (qsr : Nat) (go : Bool) (sp : Bool) (mn : Int32) (sc : Int32) (st : Int32) (se : Int32) (fp : Int32) (sg : Nat → Int32) (sr : Nat → Int32)  : Cti l y_V_mustStop ws_V_mustStop { frames := 1, cells := 0, slots := 0, locals := 22 } D vwCl (TYS cT) [.ref qv] [(qv, .inr (3, [.ref qsg, .ref qsr, .int (bI go), .int (bI sp), .int mn, .int sc, .int st, .int se, .int fp])), (qsg, .inl (cT 0, 8, .inl sg)), (qsr, .inl (cT 0, 8, .inl sr))] (fun (rr : Int32) (uu : Unit) => F_V_mustStop st sg = (rr, uu)) (fun (u : Unit) => [(qv, .inr (3, [.ref qsg, .ref qsr, .int (bI go), .int (bI sp), .int mn, .int sc, .int st, .int se, .int fp])), (qsg, .inl (cT 0, 8, .inl sg)), (qsr, .inl (cT 0, 8, .inl sr))]) 0 0 := by
  refine x_inz (cc := b_V_mustStop) (maxL := 1) (by decide) rfl (Nat.le_of_ble_eq_true rfl) ?_
  intro p e s m args below meth c A ls Q F hl hw ret
  have hl : lv_has ls 1 [(0, .ref qv)] := hl
  refine lv_aload_n (pc := 0) F.1 F.2.1 d_V_mustStop_0 rfl (lv_at hl 0 rfl) ?_
  refine x_get (pc := 1) (v := .int st) F hw 0 6 (fun x h => List.mem_cons_of_mem _ (in_V x h)) rfl rfl (by decide) (List.mem_cons_of_mem _ m_69) rfl d_V_mustStop_1 ?_
  refine lv_bipush (pc := 4) (v := 40) F.1 F.2.1 d_V_mustStop_4 (by decide) ?_
  refine lv_icmp_ge (pc := 6) (tgt := 26) F.1 F.2.1 d_V_mustStop_6 rfl (fun h1 => ?_) (fun h1 => ?_)
  · refine lv_iconst (pc := 26) (v := 1) F.1 F.2.1 d_V_mustStop_26 (by decide) ?_
    refine lv_goto (pc := 27) (tgt := 31) F.1 F.2.1 d_V_mustStop_27 rfl ?_
    refine W.widen (k := 0) (n := 0) (by decide) (by decide) ?_
    exact ret 1 () _ _ 31 _ rfl (by unfold F_V_mustStop <;> rw [if_pos h1] <;> rfl) hw d_V_mustStop_31
  · refine lv_aload_n (pc := 9) F.1 F.2.1 d_V_mustStop_9 rfl (lv_at hl 0 rfl) ?_
    refine x_get (pc := 10) (v := .int st) F hw 0 6 (fun x h => List.mem_cons_of_mem _ (in_V x h)) rfl rfl (by decide) (List.mem_cons_of_mem _ m_69) rfl d_V_mustStop_10 ?_
    refine lv_bipush (pc := 13) (v := 8) F.1 F.2.1 d_V_mustStop_13 (by decide) ?_
    refine lv_icmp_lt (pc := 15) (tgt := 30) F.1 F.2.1 d_V_mustStop_15 rfl (fun h2 => ?_) (fun h2 => ?_)
    · refine lv_iconst (pc := 30) (v := 0) F.1 F.2.1 d_V_mustStop_30 (by decide) ?_
      refine W.widen (k := 0) (n := 0) (by decide) (by decide) ?_
      exact ret 0 () _ _ 31 _ rfl (by unfold F_V_mustStop <;> rw [if_neg h1] <;> rw [if_pos h2] <;> rfl) hw d_V_mustStop_31
    · refine lv_aload_n (pc := 18) F.1 F.2.1 d_V_mustStop_18 rfl (lv_at hl 0 rfl) ?_
      refine x_calli (pc := 19) (wr := []) hw [0, 1, 2] [] rfl rfl (by decide) (by decide) (va_runV (As := []) (rest := []) F (c_V_unknownPages l D cT qv qsg qsr go sp mn sc st se fp sg sr  _) (x_cw (C := "MovingGuest$Move") 0 F (g_all y_V_unknownPages b_V_unknownPages 3 (some .int) (List.mem_cons_of_mem _ m_350)) rfl rfl rfl (F.2.2.2.2 _ (List.mem_cons_of_mem _ m_36)) (F.2.2.2.2 _ (List.mem_cons_of_mem _ m_347)) (F.2.2.2.2 _ (List.mem_cons_of_mem _ m_348)) (F.2.2.2.2 _ (List.mem_cons_of_mem _ m_349)) (by decide +kernel) ⟨by decide, by decide⟩) (hw.preV (q0 := 0) [0, 1, 2] (by decide) rfl rfl rfl) rfl rfl hl.1 rfl (lv_room (Nat.le_of_ble_eq_true rfl)) d_V_mustStop_19 ⟨by decide, by decide⟩) (fun r4 u5 H locs e3 hw => ?_)
      cases (show (nI (cnt2 sg 8), ()) = (r4, u5) from e3)
      refine lv_iconst (pc := 22) (v := 2) F.1 F.2.1 d_V_mustStop_22 (by decide) ?_
      refine lv_icmp_gt (pc := 23) (tgt := 30) F.1 F.2.1 d_V_mustStop_23 rfl (fun h6 => ?_) (fun h6 => ?_)
      · refine lv_iconst (pc := 30) (v := 0) F.1 F.2.1 d_V_mustStop_30 (by decide) ?_
        refine W.widen (k := 0) (n := 0) (by decide) (by decide) ?_
        exact ret 0 () _ _ 31 _ rfl (by unfold F_V_mustStop <;> rw [if_neg h1] <;> rw [if_neg h2] <;> rw [if_pos h6] <;> rfl) hw d_V_mustStop_31
      · refine lv_iconst (pc := 26) (v := 1) F.1 F.2.1 d_V_mustStop_26 (by decide) ?_
        refine lv_goto (pc := 27) (tgt := 31) F.1 F.2.1 d_V_mustStop_27 rfl ?_
        refine W.widen (k := 0) (n := 0) (by decide) (by decide) ?_
        exact ret 1 () _ _ 31 _ rfl (by unfold F_V_mustStop <;> rw [if_neg h1] <;> rw [if_neg h2] <;> rw [if_neg h6] <;> rfl) hw d_V_mustStop_31
def F_V_nextDue (fp : Int32) (sg : Nat → Int32) : Int32 × Unit :=
  dueG sg (tN fp) 8 0
set_option maxHeartbeats 4000000 in
set_option maxRecDepth 100000 in
theorem c_V_nextDue (l : Launch) (D : va_G) (cT : Nat → ClassId) (qv : Nat) (qsg : Nat) (qsr : Nat) (go : Bool) (sp : Bool) (mn : Int32) (sc : Int32) (st : Int32) (se : Int32) (fp : Int32) (sg : Nat → Int32) (sr : Nat → Int32) (n0 : isN fp 8) : Cti l y_V_nextDue ws_V_nextDue { frames := 0, cells := 0, slots := 0, locals := 0 } D vwCl (TYS cT) [.ref qv] [(qv, .inr (3, [.ref qsg, .ref qsr, .int (bI go), .int (bI sp), .int mn, .int sc, .int st, .int se, .int fp])), (qsg, .inl (cT 0, 8, .inl sg)), (qsr, .inl (cT 0, 8, .inl sr))] (fun (rr : Int32) (uu : Unit) => F_V_nextDue fp sg = (rr, uu)) (fun (u : Unit) => [(qv, .inr (3, [.ref qsg, .ref qsr, .int (bI go), .int (bI sp), .int mn, .int sc, .int st, .int se, .int fp])), (qsg, .inl (cT 0, 8, .inl sg)), (qsr, .inl (cT 0, 8, .inl sr))]) 0 0 := by
  refine x_ini (cc := b_V_nextDue) (maxL := 3) (by decide) rfl (Nat.le_of_ble_eq_true rfl) ?_
  intro p e s m args below meth c A ls Q F hl hw ret
  have hl : lv_has ls 3 [(0, .ref qv)] := hl
  have n0b := n0.2
  refine lv_iconst (pc := 0) (v := 0) F.1 F.2.1 d_V_nextDue_0 (by decide) ?_
  refine lv_istore_n (pc := 1) (lv' := [(1, .int 0), (0, .ref qv)]) F.1 F.2.1 d_V_nextDue_1 rfl hl (by decide) rfl (fun ls hl => ?_)
  have loop1 : ∀ (kf : Nat) (n : Nat) (k : Nat) (ls : Array Slot) (H : Heap) (locs : List Loc), n = kf → (n + k = 8) → (F_V_nextDue fp sg = dueG sg (tN fp) n k) → lv_has ls 3 [(1, .int (nI k)), (0, .ref qv)] → Hw D vwCl (TYS cT) A s [(qv, .inr (3, [.ref qsg, .ref qsr, .int (bI go), .int (bI sp), .int mn, .int sc, .int st, .int se, .int fp])), (qsg, .inl (cT 0, 8, .inl sg)), (qsr, .inl (cT 0, 8, .inl sr))] H locs → W p l e { frames := 0, cells := 0, slots := 0, locals := 0 } s m args below meth c H locs 0 0 Q (F0 m 2 ls []) := by
    intro kf
    induction kf using Nat.strongRecOn with
    | _ kf ih1 =>
    intro n k ls H locs hk hi hF hl hw
    refine lv_iload_n (pc := 2) F.1 F.2.1 d_V_nextDue_2 rfl (lv_at hl 0 rfl) ?_
    refine lv_bipush (pc := 3) (v := 8) F.1 F.2.1 d_V_nextDue_3 (by decide) ?_
    refine lv_icmp_ge (pc := 5) (tgt := 35) F.1 F.2.1 d_V_nextDue_5 rfl (fun h2 => ?_) (fun h2 => ?_)
    · have h2 := (nI_leI (a := 8) (b := k) (by omega) (by omega)).mp h2
      obtain rfl : n = 0 := by omega
      refine lv_bipush (pc := 35) (v := (-2)) F.1 F.2.1 d_V_nextDue_35 (by decide) ?_
      refine W.widen (k := 0) (n := 0) (by decide) (by decide) ?_
      exact ret (-2) () _ _ 37 _ (by rw [hF, dueG] <;> rfl) hw d_V_nextDue_37
    · have h2 : ¬ 8 ≤ k := fun z9 => h2 ((nI_leI (a := 8) (b := k) (by omega) (by omega)).mpr z9)
      obtain ⟨n, rfl⟩ : ∃ x, n = x + 1 := ⟨n - 1, by omega⟩
      refine lv_aload_n (pc := 8) F.1 F.2.1 d_V_nextDue_8 rfl (lv_at hl 1 rfl) ?_
      refine x_get (pc := 9) (v := .int fp) F hw 0 8 (fun x h => List.mem_cons_of_mem _ (in_V x h)) rfl rfl (by decide) (List.mem_cons_of_mem _ m_73) rfl d_V_nextDue_9 ?_
      refine x_top (y := nI (tN fp)) n0.1 ?_
      refine lv_iload_n (pc := 12) F.1 F.2.1 d_V_nextDue_12 rfl (lv_at hl 0 rfl) ?_
      refine lv_iadd (pc := 13) F.1 F.2.1 d_V_nextDue_13 ?_
      refine x_top (y := nI (tN fp + k)) (x_add2 rfl rfl) ?_
      refine lv_bipush (pc := 14) (v := 8) F.1 F.2.1 d_V_nextDue_14 (by decide) ?_
      refine lv_irem (pc := 16) F.1 F.2.1 d_V_nextDue_16 (by decide) ?_
      refine x_top (y := nI ((tN fp + k) % 8)) (x_rem2 rfl rfl (by omega) (by omega) (by omega)) ?_
      refine lv_istore_n (pc := 17) (lv' := [(2, .int (nI ((tN fp + k) % 8))), (1, .int (nI k)), (0, .ref qv)]) F.1 F.2.1 d_V_nextDue_17 rfl hl (by decide) rfl (fun ls hl => ?_)
      refine lv_aload_n (pc := 18) F.1 F.2.1 d_V_nextDue_18 rfl (lv_at hl 2 rfl) ?_
      refine x_get (pc := 19) (v := .ref qsg) F hw 0 0 (fun x h => List.mem_cons_of_mem _ (in_V x h)) rfl rfl (by decide) (List.mem_cons_of_mem _ m_59) rfl d_V_nextDue_19 ?_
      refine lv_iload_n (pc := 22) F.1 F.2.1 d_V_nextDue_22 rfl (lv_at hl 0 rfl) ?_
      refine x_iald (pc := 23) F hw 1 0 ((tN fp + k) % 8) rfl rfl rfl (by omega) (by decide) d_V_nextDue_23 ?_
      refine lv_if_ne (pc := 24) (tgt := 29) F.1 F.2.1 d_V_nextDue_24 rfl (fun h3 => ?_) (fun h3 => ?_)
      · refine lv_iinc (pc := 29) (k := 1) (v := nI (k + 1)) (lv' := [(1, .int (nI (k + 1))), (2, .int (nI ((tN fp + k) % 8))), (0, .ref qv)]) F.1 F.2.1 d_V_nextDue_29 hl rfl (x_add2 rfl rfl) (by decide) rfl (fun ls hl => ?_)
        refine lv_goto (pc := 32) (tgt := 2) F.1 F.2.1 d_V_nextDue_32 rfl ?_
        exact ih1 _ (by omega) n (k + 1) _ _ _ rfl (by omega) (by rw [hF, dueG] <;> rw [if_neg h3] <;> rfl) (lv_sub hl [0, 2] rfl) hw
      · refine lv_iload_n (pc := 27) F.1 F.2.1 d_V_nextDue_27 rfl (lv_at hl 0 rfl) ?_
        refine W.widen (k := 0) (n := 0) (by decide) (by decide) ?_
        exact ret (nI ((tN fp + k) % 8)) () _ _ 28 _ (by rw [hF, dueG] <;> rw [if_pos h3] <;> rfl) hw d_V_nextDue_28
  exact loop1 _ 8 0 _ _ _ rfl (by omega) (by unfold F_V_nextDue <;> rfl) hl hw
def F_V_markChanged (sg : Nat → Int32) (p0 : Nat) : (Nat → Int32) :=
  upd sg p0 0
set_option maxHeartbeats 4000000 in
set_option maxRecDepth 100000 in
theorem c_V_markChanged (l : Launch) (D : va_G) (cT : Nat → ClassId) (qv : Nat) (qsg : Nat) (qsr : Nat) (go : Bool) (sp : Bool) (mn : Int32) (sc : Int32) (st : Int32) (se : Int32) (fp : Int32) (sg : Nat → Int32) (sr : Nat → Int32) (p0 : Nat) (hp : p0 < 8) : Ctv l y_V_markChanged ws_V_markChanged { frames := 0, cells := 0, slots := 0, locals := 0 } D vwCl (TYS cT) [.ref qv, .int (nI p0)] [(qv, .inr (3, [.ref qsg, .ref qsr, .int (bI go), .int (bI sp), .int mn, .int sc, .int st, .int se, .int fp])), (qsg, .inl (cT 0, 8, .inl sg)), (qsr, .inl (cT 0, 8, .inl sr))] (fun (uu : (Nat → Int32)) => F_V_markChanged sg p0 = uu) (fun (u : (Nat → Int32)) => [(qv, .inr (3, [.ref qsg, .ref qsr, .int (bI go), .int (bI sp), .int mn, .int sc, .int st, .int se, .int fp])), (qsg, .inl (cT 0, 8, .inl u)), (qsr, .inl (cT 0, 8, .inl sr))]) 0 0 := by
  refine x_inv (cc := b_V_markChanged) (maxL := 2) (by decide) rfl (Nat.le_of_ble_eq_true rfl) ?_
  intro p e s m args below meth c A ls Q F hin hl hw ret
  have hl : lv_has ls 2 [(0, .ref qv), (1, .int (nI p0))] := hl
  refine lv_aload_n (pc := 0) F.1 F.2.1 d_V_markChanged_0 rfl (lv_at hl 0 rfl) ?_
  refine x_get (pc := 1) (v := .ref qsg) F hw 0 0 (fun x h => List.mem_cons_of_mem _ (in_V x h)) rfl rfl (by decide) (List.mem_cons_of_mem _ m_59) rfl d_V_markChanged_1 ?_
  refine lv_iload_n (pc := 4) F.1 F.2.1 d_V_markChanged_4 rfl (lv_at hl 1 rfl) ?_
  refine lv_iconst (pc := 5) (v := 0) F.1 F.2.1 d_V_markChanged_5 (by decide) ?_
  refine x_iast (pc := 6) (ws' := [(qv, .inr (3, [.ref qsg, .ref qsr, .int (bI go), .int (bI sp), .int mn, .int sc, .int st, .int se, .int fp])), (qsg, .inl (cT 0, 8, .inl (upd sg p0 0))), (qsr, .inl (cT 0, 8, .inl sr))]) F hw 1 0 (p0) rfl rfl rfl (by omega) (by decide) d_V_markChanged_6 rfl (fun H locs hw => ?_)
  refine W.widen (k := 0) (n := 0) (by decide) (by decide) ?_
  exact ret (upd sg p0 0) _ _ 7 _ (by unfold F_V_markChanged <;> rfl) hw d_V_markChanged_7
def F_V_markSent (se : Int32) (sg : Nat → Int32) (sr : Nat → Int32) (p0 : Nat) : (Nat → Int32) × (Nat → Int32) × Int32 × Int32 :=
  (upd sg p0 1, upd sr p0 (se + 1), se + 1, nI ((p0 + 1) % 8))
set_option maxHeartbeats 4000000 in
set_option maxRecDepth 100000 in
theorem c_V_markSent (l : Launch) (D : va_G) (cT : Nat → ClassId) (qv : Nat) (qsg : Nat) (qsr : Nat) (go : Bool) (sp : Bool) (mn : Int32) (sc : Int32) (st : Int32) (se : Int32) (fp : Int32) (sg : Nat → Int32) (sr : Nat → Int32) (p0 : Nat) (hp : p0 < 8) : Ctv l y_V_markSent ws_V_markSent { frames := 0, cells := 0, slots := 0, locals := 0 } D vwCl (TYS cT) [.ref qv, .int (nI p0)] [(qv, .inr (3, [.ref qsg, .ref qsr, .int (bI go), .int (bI sp), .int mn, .int sc, .int st, .int se, .int fp])), (qsg, .inl (cT 0, 8, .inl sg)), (qsr, .inl (cT 0, 8, .inl sr))] (fun (uu : (Nat → Int32) × (Nat → Int32) × Int32 × Int32) => F_V_markSent se sg sr p0 = uu) (fun (u : (Nat → Int32) × (Nat → Int32) × Int32 × Int32) => [(qv, .inr (3, [.ref qsg, .ref qsr, .int (bI go), .int (bI sp), .int mn, .int sc, .int st, .int (u.2.2.1), .int (u.2.2.2)])), (qsg, .inl (cT 0, 8, .inl u.1)), (qsr, .inl (cT 0, 8, .inl u.2.1))]) 0 0 := by
  refine x_inv (cc := b_V_markSent) (maxL := 2) (by decide) rfl (Nat.le_of_ble_eq_true rfl) ?_
  intro p e s m args below meth c A ls Q F hin hl hw ret
  have hl : lv_has ls 2 [(0, .ref qv), (1, .int (nI p0))] := hl
  refine lv_aload_n (pc := 0) F.1 F.2.1 d_V_markSent_0 rfl (lv_at hl 0 rfl) ?_
  refine lv_dup (pc := 1) F.1 F.2.1 d_V_markSent_1 rfl ?_
  refine x_get (pc := 2) (v := .int se) F hw 0 7 (fun x h => List.mem_cons_of_mem _ (in_V x h)) rfl rfl (by decide) (List.mem_cons_of_mem _ m_71) rfl d_V_markSent_2 ?_
  refine lv_iconst (pc := 5) (v := 1) F.1 F.2.1 d_V_markSent_5 (by decide) ?_
  refine lv_iadd (pc := 6) F.1 F.2.1 d_V_markSent_6 ?_
  refine x_put (pc := 7) (v := .int (se + 1)) (ty := .int) (ws' := [(qv, .inr (3, [.ref qsg, .ref qsr, .int (bI go), .int (bI sp), .int mn, .int sc, .int st, .int (se + 1), .int fp])), (qsg, .inl (cT 0, 8, .inl sg)), (qsr, .inl (cT 0, 8, .inl sr))]) F hw 0 7 (fun x h => List.mem_cons_of_mem _ (in_V x h)) ty_V tyok_V nm_V rfl rfl (by decide) (List.mem_cons_of_mem _ m_71) rfl (by decide +kernel) rfl rfl (Nat.le_of_ble_eq_true rfl) d_V_markSent_7 rfl (fun H locs hw => ?_)
  refine lv_aload_n (pc := 10) F.1 F.2.1 d_V_markSent_10 rfl (lv_at hl 0 rfl) ?_
  refine x_get (pc := 11) (v := .ref qsg) F hw 0 0 (fun x h => List.mem_cons_of_mem _ (in_V x h)) rfl rfl (by decide) (List.mem_cons_of_mem _ m_59) rfl d_V_markSent_11 ?_
  refine lv_iload_n (pc := 14) F.1 F.2.1 d_V_markSent_14 rfl (lv_at hl 1 rfl) ?_
  refine lv_iconst (pc := 15) (v := 1) F.1 F.2.1 d_V_markSent_15 (by decide) ?_
  refine x_iast (pc := 16) (ws' := [(qv, .inr (3, [.ref qsg, .ref qsr, .int (bI go), .int (bI sp), .int mn, .int sc, .int st, .int (se + 1), .int fp])), (qsg, .inl (cT 0, 8, .inl (upd sg p0 1))), (qsr, .inl (cT 0, 8, .inl sr))]) F hw 1 0 (p0) rfl rfl rfl (by omega) (by decide) d_V_markSent_16 rfl (fun H locs hw => ?_)
  refine lv_aload_n (pc := 17) F.1 F.2.1 d_V_markSent_17 rfl (lv_at hl 0 rfl) ?_
  refine x_get (pc := 18) (v := .ref qsr) F hw 0 1 (fun x h => List.mem_cons_of_mem _ (in_V x h)) rfl rfl (by decide) (List.mem_cons_of_mem _ m_60) rfl d_V_markSent_18 ?_
  refine lv_iload_n (pc := 21) F.1 F.2.1 d_V_markSent_21 rfl (lv_at hl 1 rfl) ?_
  refine lv_aload_n (pc := 22) F.1 F.2.1 d_V_markSent_22 rfl (lv_at hl 0 rfl) ?_
  refine x_get (pc := 23) (v := .int (se + 1)) F hw 0 7 (fun x h => List.mem_cons_of_mem _ (in_V x h)) rfl rfl (by decide) (List.mem_cons_of_mem _ m_71) rfl d_V_markSent_23 ?_
  refine x_iast (pc := 26) (ws' := [(qv, .inr (3, [.ref qsg, .ref qsr, .int (bI go), .int (bI sp), .int mn, .int sc, .int st, .int (se + 1), .int fp])), (qsg, .inl (cT 0, 8, .inl (upd sg p0 1))), (qsr, .inl (cT 0, 8, .inl (upd sr p0 (se + 1))))]) F hw 2 0 (p0) rfl rfl rfl (by omega) (by decide) d_V_markSent_26 rfl (fun H locs hw => ?_)
  refine lv_aload_n (pc := 27) F.1 F.2.1 d_V_markSent_27 rfl (lv_at hl 0 rfl) ?_
  refine lv_iload_n (pc := 28) F.1 F.2.1 d_V_markSent_28 rfl (lv_at hl 1 rfl) ?_
  refine lv_iconst (pc := 29) (v := 1) F.1 F.2.1 d_V_markSent_29 (by decide) ?_
  refine lv_iadd (pc := 30) F.1 F.2.1 d_V_markSent_30 ?_
  refine x_top (y := nI (p0 + 1)) (x_add2 rfl rfl) ?_
  refine lv_bipush (pc := 31) (v := 8) F.1 F.2.1 d_V_markSent_31 (by decide) ?_
  refine lv_irem (pc := 33) F.1 F.2.1 d_V_markSent_33 (by decide) ?_
  refine x_top (y := nI ((p0 + 1) % 8)) (x_rem2 rfl rfl (by omega) (by omega) (by omega)) ?_
  refine x_put (pc := 34) (v := .int (nI ((p0 + 1) % 8))) (ty := .int) (ws' := [(qv, .inr (3, [.ref qsg, .ref qsr, .int (bI go), .int (bI sp), .int mn, .int sc, .int st, .int (se + 1), .int (nI ((p0 + 1) % 8))])), (qsg, .inl (cT 0, 8, .inl (upd sg p0 1))), (qsr, .inl (cT 0, 8, .inl (upd sr p0 (se + 1))))]) F hw 0 8 (fun x h => List.mem_cons_of_mem _ (in_V x h)) ty_V tyok_V nm_V rfl rfl (by decide) (List.mem_cons_of_mem _ m_73) rfl (by decide +kernel) rfl rfl (Nat.le_of_ble_eq_true rfl) d_V_markSent_34 rfl (fun H locs hw => ?_)
  refine W.widen (k := 0) (n := 0) (by decide) (by decide) ?_
  exact ret (upd sg p0 1, upd sr p0 (se + 1), se + 1, nI ((p0 + 1) % 8)) _ _ 37 _ (by unfold F_V_markSent <;> rfl) hw d_V_markSent_37
def F_V_makeSentDue (sg : Nat → Int32) : (Nat → Int32) :=
  va_cpy (sentDue sg) sg 0 0 8
set_option maxHeartbeats 4000000 in
set_option maxRecDepth 100000 in
theorem c_V_makeSentDue (l : Launch) (D : va_G) (cT : Nat → ClassId) (qv : Nat) (qsg : Nat) (qsr : Nat) (go : Bool) (sp : Bool) (mn : Int32) (sc : Int32) (st : Int32) (se : Int32) (fp : Int32) (sg : Nat → Int32) (sr : Nat → Int32)  : Ctv l y_V_makeSentDue ws_V_makeSentDue { frames := 0, cells := 0, slots := 0, locals := 0 } D vwCl (TYS cT) [.ref qv] [(qv, .inr (3, [.ref qsg, .ref qsr, .int (bI go), .int (bI sp), .int mn, .int sc, .int st, .int se, .int fp])), (qsg, .inl (cT 0, 8, .inl sg)), (qsr, .inl (cT 0, 8, .inl sr))] (fun (uu : (Nat → Int32)) => F_V_makeSentDue sg = uu) (fun (u : (Nat → Int32)) => [(qv, .inr (3, [.ref qsg, .ref qsr, .int (bI go), .int (bI sp), .int mn, .int sc, .int st, .int se, .int fp])), (qsg, .inl (cT 0, 8, .inl u)), (qsr, .inl (cT 0, 8, .inl sr))]) 0 0 := by
  refine x_inv (cc := b_V_makeSentDue) (maxL := 2) (by decide) rfl (Nat.le_of_ble_eq_true rfl) ?_
  intro p e s m args below meth c A ls Q F hin hl hw ret
  have hl : lv_has ls 2 [(0, .ref qv)] := hl
  refine lv_iconst (pc := 0) (v := 0) F.1 F.2.1 d_V_makeSentDue_0 (by decide) ?_
  refine lv_istore_n (pc := 1) (lv' := [(1, .int 0), (0, .ref qv)]) F.1 F.2.1 d_V_makeSentDue_1 rfl hl (by decide) rfl (fun ls hl => ?_)
  have loop1 : ∀ (kf : Nat) (i : Nat) (ls : Array Slot) (H : Heap) (locs : List Loc), 8 - i = kf → (i ≤ 8) → lv_has ls 2 [(1, .int (nI i)), (0, .ref qv)] → Hw D vwCl (TYS cT) A s [(qv, .inr (3, [.ref qsg, .ref qsr, .int (bI go), .int (bI sp), .int mn, .int sc, .int st, .int se, .int fp])), (qsg, .inl (cT 0, 8, .inl (va_cpy (sentDue sg) sg 0 0 i))), (qsr, .inl (cT 0, 8, .inl sr))] H locs → W p l e { frames := 0, cells := 0, slots := 0, locals := 0 } s m args below meth c H locs 0 0 Q (F0 m 2 ls []) := by
    intro kf
    induction kf using Nat.strongRecOn with
    | _ kf ih1 =>
    intro i ls H locs hk hi hl hw
    refine lv_iload_n (pc := 2) F.1 F.2.1 d_V_makeSentDue_2 rfl (lv_at hl 0 rfl) ?_
    refine lv_bipush (pc := 3) (v := 8) F.1 F.2.1 d_V_makeSentDue_3 (by decide) ?_
    refine lv_icmp_ge (pc := 5) (tgt := 31) F.1 F.2.1 d_V_makeSentDue_5 rfl (fun h2 => ?_) (fun h2 => ?_)
    · have h2 := (nI_leI (a := 8) (b := i) (by omega) (by omega)).mp h2
      obtain rfl : i = 8 := by omega
      refine W.widen (k := 0) (n := 0) (by decide) (by decide) ?_
      exact ret (va_cpy (sentDue sg) sg 0 0 8) _ _ 31 _ (by unfold F_V_makeSentDue <;> rfl) hw d_V_makeSentDue_31
    · have h2 : ¬ 8 ≤ i := fun z9 => h2 ((nI_leI (a := 8) (b := i) (by omega) (by omega)).mpr z9)
      refine lv_aload_n (pc := 8) F.1 F.2.1 d_V_makeSentDue_8 rfl (lv_at hl 1 rfl) ?_
      refine x_get (pc := 9) (v := .ref qsg) F hw 0 0 (fun x h => List.mem_cons_of_mem _ (in_V x h)) rfl rfl (by decide) (List.mem_cons_of_mem _ m_59) rfl d_V_makeSentDue_9 ?_
      refine lv_iload_n (pc := 12) F.1 F.2.1 d_V_makeSentDue_12 rfl (lv_at hl 0 rfl) ?_
      refine x_iald (pc := 13) F hw 1 0 (i) rfl rfl rfl (by omega) (by decide) d_V_makeSentDue_13 ?_
      refine x_top (y := sg i) (pk_cpy_out (by omega)) ?_
      refine lv_iconst (pc := 14) (v := 1) F.1 F.2.1 d_V_makeSentDue_14 (by decide) ?_
      refine lv_icmp_ne (pc := 15) (tgt := 25) F.1 F.2.1 d_V_makeSentDue_15 rfl (fun h3 => ?_) (fun h3 => ?_)
      · refine lv_iinc (pc := 25) (k := 0) (v := nI (i + 1)) (lv' := [(1, .int (nI (i + 1))), (0, .ref qv)]) F.1 F.2.1 d_V_makeSentDue_25 hl rfl (x_add2 rfl rfl) (by decide) rfl (fun ls hl => ?_)
        refine lv_goto (pc := 28) (tgt := 2) F.1 F.2.1 d_V_makeSentDue_28 rfl ?_
        have ec4 : va_cpy (sentDue sg) sg 0 0 i = va_cpy (sentDue sg) sg 0 0 (i + 1) := cpy_k (by simp only [sentDue, Nat.zero_add, if_neg h3])
        rw [ec4] at hw
        exact ih1 _ (by omega) (i + 1) _ _ _ rfl (by omega) hl hw
      · refine lv_aload_n (pc := 18) F.1 F.2.1 d_V_makeSentDue_18 rfl (lv_at hl 1 rfl) ?_
        refine x_get (pc := 19) (v := .ref qsg) F hw 0 0 (fun x h => List.mem_cons_of_mem _ (in_V x h)) rfl rfl (by decide) (List.mem_cons_of_mem _ m_59) rfl d_V_makeSentDue_19 ?_
        refine lv_iload_n (pc := 22) F.1 F.2.1 d_V_makeSentDue_22 rfl (lv_at hl 0 rfl) ?_
        refine lv_iconst (pc := 23) (v := 0) F.1 F.2.1 d_V_makeSentDue_23 (by decide) ?_
        refine x_iast (pc := 24) (ws' := [(qv, .inr (3, [.ref qsg, .ref qsr, .int (bI go), .int (bI sp), .int mn, .int sc, .int st, .int se, .int fp])), (qsg, .inl (cT 0, 8, .inl (upd (va_cpy (sentDue sg) sg 0 0 i) i 0))), (qsr, .inl (cT 0, 8, .inl sr))]) F hw 1 0 (i) rfl rfl rfl (by omega) (by decide) d_V_makeSentDue_24 rfl (fun H locs hw => ?_)
        refine lv_iinc (pc := 25) (k := 0) (v := nI (i + 1)) (lv' := [(1, .int (nI (i + 1))), (0, .ref qv)]) F.1 F.2.1 d_V_makeSentDue_25 hl rfl (x_add2 rfl rfl) (by decide) rfl (fun ls hl => ?_)
        refine lv_goto (pc := 28) (tgt := 2) F.1 F.2.1 d_V_makeSentDue_28 rfl ?_
        have ec5 : upd (va_cpy (sentDue sg) sg 0 0 i) i 0 = va_cpy (sentDue sg) sg 0 0 (i + 1) := cpy_s2 (by omega) (by simp only [sentDue, Nat.zero_add, if_pos h3])
        rw [ec5] at hw
        exact ih1 _ (by omega) (i + 1) _ _ _ rfl (by omega) hl hw
  have hw := hw
  exact loop1 _ 0 _ _ _ rfl (by omega) hl (by rw [cpy_0]; exact hw)
def F_V_markSeen (sg : Nat → Int32) (sr : Nat → Int32) (p0 : Nat) (x : Int32) : (Nat → Int32) :=
  if (sg p0) = 1 then
    if (sr p0) = x then
      upd sg p0 2
    else
      sg
  else
    sg
set_option maxHeartbeats 4000000 in
set_option maxRecDepth 100000 in
theorem c_V_markSeen (l : Launch) (D : va_G) (cT : Nat → ClassId) (qv : Nat) (qsg : Nat) (qsr : Nat) (go : Bool) (sp : Bool) (mn : Int32) (sc : Int32) (st : Int32) (se : Int32) (fp : Int32) (sg : Nat → Int32) (sr : Nat → Int32) (p0 : Nat) (x : Int32) (hp : p0 < 8) : Ctv l y_V_markSeen ws_V_markSeen { frames := 0, cells := 0, slots := 0, locals := 0 } D vwCl (TYS cT) [.ref qv, .int (nI p0), .int x] [(qv, .inr (3, [.ref qsg, .ref qsr, .int (bI go), .int (bI sp), .int mn, .int sc, .int st, .int se, .int fp])), (qsg, .inl (cT 0, 8, .inl sg)), (qsr, .inl (cT 0, 8, .inl sr))] (fun (uu : (Nat → Int32)) => F_V_markSeen sg sr p0 x = uu) (fun (u : (Nat → Int32)) => [(qv, .inr (3, [.ref qsg, .ref qsr, .int (bI go), .int (bI sp), .int mn, .int sc, .int st, .int se, .int fp])), (qsg, .inl (cT 0, 8, .inl u)), (qsr, .inl (cT 0, 8, .inl sr))]) 0 0 := by
  refine x_inv (cc := b_V_markSeen) (maxL := 3) (by decide) rfl (Nat.le_of_ble_eq_true rfl) ?_
  intro p e s m args below meth c A ls Q F hin hl hw ret
  have hl : lv_has ls 3 [(0, .ref qv), (1, .int (nI p0)), (2, .int x)] := hl
  refine lv_aload_n (pc := 0) F.1 F.2.1 d_V_markSeen_0 rfl (lv_at hl 0 rfl) ?_
  refine x_get (pc := 1) (v := .ref qsg) F hw 0 0 (fun x h => List.mem_cons_of_mem _ (in_V x h)) rfl rfl (by decide) (List.mem_cons_of_mem _ m_59) rfl d_V_markSeen_1 ?_
  refine lv_iload_n (pc := 4) F.1 F.2.1 d_V_markSeen_4 rfl (lv_at hl 1 rfl) ?_
  refine x_iald (pc := 5) F hw 1 0 (p0) rfl rfl rfl (by omega) (by decide) d_V_markSeen_5 ?_
  refine lv_iconst (pc := 6) (v := 1) F.1 F.2.1 d_V_markSeen_6 (by decide) ?_
  refine lv_icmp_ne (pc := 7) (tgt := 27) F.1 F.2.1 d_V_markSeen_7 rfl (fun h1 => ?_) (fun h1 => ?_)
  · refine W.widen (k := 0) (n := 0) (by decide) (by decide) ?_
    exact ret sg _ _ 27 _ (by unfold F_V_markSeen <;> rw [if_neg h1] <;> rfl) hw d_V_markSeen_27
  · refine lv_aload_n (pc := 10) F.1 F.2.1 d_V_markSeen_10 rfl (lv_at hl 0 rfl) ?_
    refine x_get (pc := 11) (v := .ref qsr) F hw 0 1 (fun x h => List.mem_cons_of_mem _ (in_V x h)) rfl rfl (by decide) (List.mem_cons_of_mem _ m_60) rfl d_V_markSeen_11 ?_
    refine lv_iload_n (pc := 14) F.1 F.2.1 d_V_markSeen_14 rfl (lv_at hl 1 rfl) ?_
    refine x_iald (pc := 15) F hw 2 0 (p0) rfl rfl rfl (by omega) (by decide) d_V_markSeen_15 ?_
    refine lv_iload_n (pc := 16) F.1 F.2.1 d_V_markSeen_16 rfl (lv_at hl 2 rfl) ?_
    refine lv_icmp_ne (pc := 17) (tgt := 27) F.1 F.2.1 d_V_markSeen_17 rfl (fun h2 => ?_) (fun h2 => ?_)
    · refine W.widen (k := 0) (n := 0) (by decide) (by decide) ?_
      exact ret sg _ _ 27 _ (by unfold F_V_markSeen <;> rw [if_pos h1] <;> rw [if_neg h2] <;> rfl) hw d_V_markSeen_27
    · refine lv_aload_n (pc := 20) F.1 F.2.1 d_V_markSeen_20 rfl (lv_at hl 0 rfl) ?_
      refine x_get (pc := 21) (v := .ref qsg) F hw 0 0 (fun x h => List.mem_cons_of_mem _ (in_V x h)) rfl rfl (by decide) (List.mem_cons_of_mem _ m_59) rfl d_V_markSeen_21 ?_
      refine lv_iload_n (pc := 24) F.1 F.2.1 d_V_markSeen_24 rfl (lv_at hl 1 rfl) ?_
      refine lv_iconst (pc := 25) (v := 2) F.1 F.2.1 d_V_markSeen_25 (by decide) ?_
      refine x_iast (pc := 26) (ws' := [(qv, .inr (3, [.ref qsg, .ref qsr, .int (bI go), .int (bI sp), .int mn, .int sc, .int st, .int se, .int fp])), (qsg, .inl (cT 0, 8, .inl (upd sg p0 2))), (qsr, .inl (cT 0, 8, .inl sr))]) F hw 1 0 (p0) rfl rfl rfl (by omega) (by decide) d_V_markSeen_26 rfl (fun H locs hw => ?_)
      refine W.widen (k := 0) (n := 0) (by decide) (by decide) ?_
      exact ret (upd sg p0 2) _ _ 27 _ (by unfold F_V_markSeen <;> rw [if_pos h1] <;> rw [if_pos h2] <;> rfl) hw d_V_markSeen_27
