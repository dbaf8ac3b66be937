theorem sub3 {L i : Nat} (hL : L ≤ 1536) (hi : i < 2 ^ 31) (h : ¬ Int32.ofNat L - 3 < nI i) : i + 2 < L := by
  by_cases c : 3 ≤ L
  · obtain ⟨k, rfl⟩ : ∃ k, L = k + 3 := ⟨L - 3, by omega⟩
    have e : Int32.ofNat (k + 3) - 3 = nI k := by
      have e1 : Int32.ofNat (k + 3) = nI k + 3 := (nI_add k 3).symm
      rw [e1, Int32.add_sub_cancel]
    rw [e] at h
    by_cases y : i ≤ k
    · omega
    · exact absurd (nI_lt (by omega) hi) h
  · exfalso
    refine h (Int32.lt_iff_toInt_lt.mpr ?_)
    rw [nI_toInt hi]
    rcases (show L = 0 ∨ L = 1 ∨ L = 2 by omega) with rfl | rfl | rfl
    · have : (Int32.ofNat 0 - 3).toInt = -3 := by decide
      omega
    · have : (Int32.ofNat 1 - 3).toInt = -2 := by decide
      omega
    · have : (Int32.ofNat 2 - 3).toInt = -1 := by decide
      omega
set_option maxHeartbeats 8000000 in
set_option maxRecDepth 100000 in
theorem law_loop {p : Program} {l : Launch} {e : Env} {s : State} {m : MethodId} {args : Array Value} {below : List Frame} {meth : Method} {c : Code} {Q : State → Prop} {A : Nat → Prop} {b L : Nat} {xs : Nat → Int32} {D : va_G} {cT : Nat → ClassId} {ag : Nat → Nat} {hg : Nat → Nat → Nat} {ad : Nat → Nat}  (C : LC p m c s args A b L xs)
    (fin : ∀ (H : Heap) (locs : List Loc) (cells slots : Nat) (ls : Array Slot), va_S A s.heap H locs → cells ≤ 600000 → slots ≤ 7000000 → W p l e room_1 s m args below meth c H locs cells slots Q (F0 m 668 ls [])) :
    ∀ (f n h : Nat) (meC : Nat → Nat → Int32) (rgC : Nat → Nat → Int32) (ipC : Nat → Nat → Int32) (ouC : Nat → Nat → Int32) (hsC : Nat → Nat → Int32) (ctC : Nat → Int32) (tiC : Nat → Int32) (niC : Nat → Int32) (noC : Nat → Int32) (rtC : Nat → Int32) (rbC : Nat → Int32) (rwdC : Nat → Int32) (b1C : Nat → Int32) (w1C : Nat → Int32) (n1C : Nat → Int32) (rqC : Nat → Bool) (huC : Nat → Bool) (hdC : Nat → Bool) (taC : Nat → Bool) (reC : Nat → Bool) (hoC : Nat → Bool) (imC : Nat → Int32) (blC : Nat → Int32) (sgC : Nat → Int32) (srC : Nat → Int32) (wnC : Int32) (nuC : Int32) (mnC : Int32) (scC : Int32) (stC : Int32) (seC : Int32) (fpC : Int32) (znC : Int32) (goC : Bool) (spC : Bool) (pk : Nat → Int32) (pm : Nat → Int32) (pp : Nat → Int32) (ps : Nat → Int32) (pw : Nat → Nat → Int32) (im : Nat → Int32) (me : Nat → Int32) (ro : Nat → Int32) (di : Nat → Int32) (ob : Nat → Int32) (od : Nat → Int32) (on : Nat → Int32) (pg : Nat → Int32) (tm : Nat → Int32) (ts : Nat → Int32) (tr : Nat → Int32) (ki : Nat → Int32) (mo : Nat → Int32) (po : Nat → Int32) (sr : Nat → Int32) (ld : Nat → Int32) (up : Nat → Bool) (ho : Nat → Bool) (os : Nat → Bool) (st : Bool) (go : Bool) (tp : Bool) (rd : Bool) (ow : Int32) (nu : Int32) (la : Int32) (so : Int32) (se : Int32) (sl : Int32) (sp : Int32) (pn : Int32) (pz : Nat → Option Nat) (LP : List Nat) (fP : Nat → va_E) (H : Heap) (locs : List Loc) (cells slots : Nat) (ls : Array Slot), L ≤ 3 * (n + f) + 2 → n ≤ 600 → cells ≤ 1000 + 2 * n → slots ≤ 5000 + 13 * n → lv_has ls 4 [(3, .int (nI (3 * n))), (2, .ref (ad 0)), (1, .ref (ag 0)), (0, .ref b)] → LI D cT A s ag hg ad n h meC rgC ipC ouC hsC ctC tiC niC noC rtC rbC rwdC b1C w1C n1C rqC huC hdC taC reC hoC imC blC sgC srC wnC nuC mnC scC stC seC fpC znC goC spC pk pm pp ps pw im me ro di ob od on pg tm ts tr ki mo po sr ld up ho os st go tp rd ow nu la so se sl sp pn pz LP fP H locs → W p l e room_1 s m args below meth c H locs cells slots Q (F0 m 18 ls []) := by
  intro f
  induction f with
  | zero =>
    intro n h meC rgC ipC ouC hsC ctC tiC niC noC rtC rbC rwdC b1C w1C n1C rqC huC hdC taC reC hoC imC blC sgC srC wnC nuC mnC scC stC seC fpC znC goC spC pk pm pp ps pw im me ro di ob od on pg tm ts tr ki mo po sr ld up ho os st go tp rd ow nu la so se sl sp pn pz LP fP H locs cells slots ls hf hn hce hsl hl I
    have C1 := C
    obtain ⟨F, hX, hbl, hbA, hL⟩ := C1
    refine lv_iload_n (pc := 18) F.1 F.2.1 d_W_law_18 rfl (lv_at hl 0 rfl) ?_
    refine lv_aload_n (pc := 19) F.1 F.2.1 d_W_law_19 rfl (lv_at hl 3 rfl) ?_
    refine va_slen (pc := 20) F.1 F.2.1 hX hbl hbA I.2.1.2.2.2.1 d_W_law_20 ?_
    refine lv_iconst (pc := 21) (v := 3) F.1 F.2.1 d_W_law_21 (by decide) ?_
    refine lv_isub (pc := 22) F.1 F.2.1 d_W_law_22 ?_
    refine lv_icmp_gt (pc := 23) (tgt := 668) F.1 F.2.1 d_W_law_23 rfl (fun _ => fin H locs cells slots ls I.2.1.2.2.2.1 (by omega) (by omega)) (fun h9 => ?_)
    exact absurd (sub3 hL (by omega) h9) (by omega)
  | succ f ih =>
    intro n h meC rgC ipC ouC hsC ctC tiC niC noC rtC rbC rwdC b1C w1C n1C rqC huC hdC taC reC hoC imC blC sgC srC wnC nuC mnC scC stC seC fpC znC goC spC pk pm pp ps pw im me ro di ob od on pg tm ts tr ki mo po sr ld up ho os st go tp rd ow nu la so se sl sp pn pz LP fP H locs cells slots ls hf hn hce hsl hl I
    have C1 := C
    obtain ⟨F, hX, hbl, hbA, hL⟩ := C1
    refine lv_iload_n (pc := 18) F.1 F.2.1 d_W_law_18 rfl (lv_at hl 0 rfl) ?_
    refine lv_aload_n (pc := 19) F.1 F.2.1 d_W_law_19 rfl (lv_at hl 3 rfl) ?_
    refine va_slen (pc := 20) F.1 F.2.1 hX hbl hbA I.2.1.2.2.2.1 d_W_law_20 ?_
    refine lv_iconst (pc := 21) (v := 3) F.1 F.2.1 d_W_law_21 (by decide) ?_
    refine lv_isub (pc := 22) F.1 F.2.1 d_W_law_22 ?_
    refine lv_icmp_gt (pc := 23) (tgt := 668) F.1 F.2.1 d_W_law_23 rfl (fun _ => fin H locs cells slots ls I.2.1.2.2.2.1 (by omega) (by omega)) (fun h9 => ?_)
    have hi := sub3 hL (by omega) h9
    have next : ∀ (h : Nat) (meC : Nat → Nat → Int32) (rgC : Nat → Nat → Int32) (ipC : Nat → Nat → Int32) (ouC : Nat → Nat → Int32) (hsC : Nat → Nat → Int32) (ctC : Nat → Int32) (tiC : Nat → Int32) (niC : Nat → Int32) (noC : Nat → Int32) (rtC : Nat → Int32) (rbC : Nat → Int32) (rwdC : Nat → Int32) (b1C : Nat → Int32) (w1C : Nat → Int32) (n1C : Nat → Int32) (rqC : Nat → Bool) (huC : Nat → Bool) (hdC : Nat → Bool) (taC : Nat → Bool) (reC : Nat → Bool) (hoC : Nat → Bool) (imC : Nat → Int32) (blC : Nat → Int32) (sgC : Nat → Int32) (srC : Nat → Int32) (wnC : Int32) (nuC : Int32) (mnC : Int32) (scC : Int32) (stC : Int32) (seC : Int32) (fpC : Int32) (znC : Int32) (goC : Bool) (spC : Bool) (pk : Nat → Int32) (pm : Nat → Int32) (pp : Nat → Int32) (ps : Nat → Int32) (pw : Nat → Nat → Int32) (im : Nat → Int32) (me : Nat → Int32) (ro : Nat → Int32) (di : Nat → Int32) (ob : Nat → Int32) (od : Nat → Int32) (on : Nat → Int32) (pg : Nat → Int32) (tm : Nat → Int32) (ts : Nat → Int32) (tr : Nat → Int32) (ki : Nat → Int32) (mo : Nat → Int32) (po : Nat → Int32) (sr : Nat → Int32) (ld : Nat → Int32) (up : Nat → Bool) (ho : Nat → Bool) (os : Nat → Bool) (st : Bool) (go : Bool) (tp : Bool) (rd : Bool) (ow : Int32) (nu : Int32) (la : Int32) (so : Int32) (se : Int32) (sl : Int32) (sp : Int32) (pn : Int32) (pz : Nat → Option Nat) (LP : List Nat) (fP : Nat → va_E) (H : Heap) (locs : List Loc), LI D cT A s ag hg ad (n + 1) h meC rgC ipC ouC hsC ctC tiC niC noC rtC rbC rwdC b1C w1C n1C rqC huC hdC taC reC hoC imC blC sgC srC wnC nuC mnC scC stC seC fpC znC goC spC pk pm pp ps pw im me ro di ob od on pg tm ts tr ki mo po sr ld up ho os st go tp rd ow nu la so se sl sp pn pz LP fP H locs → W p l e room_1 s m args below meth c H locs (cells + 2) (slots + 13) Q (F0 m 662 ls []) := by
      intro h meC rgC ipC ouC hsC ctC tiC niC noC rtC rbC rwdC b1C w1C n1C rqC huC hdC taC reC hoC imC blC sgC srC wnC nuC mnC scC stC seC fpC znC goC spC pk pm pp ps pw im me ro di ob od on pg tm ts tr ki mo po sr ld up ho os st go tp rd ow nu la so se sl sp pn pz LP fP H locs I
      refine lv_iinc (pc := 662) (k := 0) (v := nI (3 * (n + 1))) (lv' := [(3, .int (nI (3 * (n + 1)))), (2, .ref (ad 0)), (1, .ref (ag 0)), (0, .ref b)]) F.1 F.2.1 d_W_law_662 hl rfl (by show nI (3 * n) + nI 3 = _; rw [nI_add]; rfl) (by decide) rfl (fun ls hl => ?_)
      refine lv_goto (pc := 665) (tgt := 18) F.1 F.2.1 d_W_law_665 rfl ?_
      exact ih (n + 1) h meC rgC ipC ouC hsC ctC tiC niC noC rtC rbC rwdC b1C w1C n1C rqC huC hdC taC reC hoC imC blC sgC srC wnC nuC mnC scC stC seC fpC znC goC spC pk pm pp ps pw im me ro di ob od on pg tm ts tr ki mo po sr ld up ho os st go tp rd ow nu la so se sl sp pn pz LP fP H locs (cells + 2) (slots + 13) ls (by omega) (by omega) (by omega) (by omega) hl I
    refine lv_aload_n (pc := 26) F.1 F.2.1 d_W_law_26 rfl (lv_at hl 3 rfl) ?_
    refine lv_iload_n (pc := 27) F.1 F.2.1 d_W_law_27 rfl (lv_at hl 0 rfl) ?_
    refine va_sld (pc := 28) F.1 F.2.1 hX hbl hbA I.2.1.2.2.2.1 (vp_in_nI (by omega) (by omega)) d_W_law_28 ?_
    rw [nI_clamp (by omega)]
    refine lv_bipush (pc := 29) (v := 31) F.1 F.2.1 d_W_law_29 (by decide) ?_
    refine lv_iand (pc := 31) F.1 F.2.1 d_W_law_31 ?_
    by_cases q0 : xs (3 * n) &&& 31 = 0
    · refine lv_tableIn (pc := 32) (tgt := 136) F.1 F.2.1 d_W_law_32 (by rw [q0]; decide) (by rw [q0]; decide) (by rw [q0]; rfl) rfl ?_
      exact L_image C hl hi (by omega) (by omega) (by omega) I next
    by_cases q1 : xs (3 * n) &&& 31 = 1
    · refine lv_tableIn (pc := 32) (tgt := 169) F.1 F.2.1 d_W_law_32 (by rw [q1]; decide) (by rw [q1]; decide) (by rw [q1]; rfl) rfl ?_
      exact L_create C hl hi (by omega) (by omega) (by omega) I next
    by_cases q2 : xs (3 * n) &&& 31 = 2
    · refine lv_tableIn (pc := 32) (tgt := 192) F.1 F.2.1 d_W_law_32 (by rw [q2]; decide) (by rw [q2]; decide) (by rw [q2]; rfl) rfl ?_
      exact L_run C hl hi (by omega) (by omega) (by omega) I next
    by_cases q3 : xs (3 * n) &&& 31 = 3
    · refine lv_tableIn (pc := 32) (tgt := 225) F.1 F.2.1 d_W_law_32 (by rw [q3]; decide) (by rw [q3]; decide) (by rw [q3]; rfl) rfl ?_
      exact L_input C hl hi (by omega) (by omega) (by omega) I next
    by_cases q4 : xs (3 * n) &&& 31 = 4
    · refine lv_tableIn (pc := 32) (tgt := 258) F.1 F.2.1 d_W_law_32 (by rw [q4]; decide) (by rw [q4]; decide) (by rw [q4]; rfl) rfl ?_
      exact L_disk C hl hi (by omega) (by omega) (by omega) I next
    by_cases q5 : xs (3 * n) &&& 31 = 5
    · refine lv_tableIn (pc := 32) (tgt := 281) F.1 F.2.1 d_W_law_32 (by rw [q5]; decide) (by rw [q5]; decide) (by rw [q5]; rfl) rfl ?_
      exact L_move C hl hi (by omega) (by omega) (by omega) I next
    by_cases q6 : xs (3 * n) &&& 31 = 6
    · refine lv_tableIn (pc := 32) (tgt := 294) F.1 F.2.1 d_W_law_32 (by rw [q6]; decide) (by rw [q6]; decide) (by rw [q6]; rfl) rfl ?_
      exact L_step C hl hi (by omega) (by omega) (by omega) I next
    by_cases q7 : xs (3 * n) &&& 31 = 7
    · refine lv_tableIn (pc := 32) (tgt := 307) F.1 F.2.1 d_W_law_32 (by rw [q7]; decide) (by rw [q7]; decide) (by rw [q7]; rfl) rfl ?_
      exact L_deliver C hl hi (by omega) (by omega) (by omega) I next
    by_cases q8 : xs (3 * n) &&& 31 = 8
    · refine lv_tableIn (pc := 32) (tgt := 330) F.1 F.2.1 d_W_law_32 (by rw [q8]; decide) (by rw [q8]; decide) (by rw [q8]; rfl) rfl ?_
      exact L_lose C hl hi (by omega) (by omega) (by omega) I next
    by_cases q9 : xs (3 * n) &&& 31 = 9
    · refine lv_tableIn (pc := 32) (tgt := 353) F.1 F.2.1 d_W_law_32 (by rw [q9]; decide) (by rw [q9]; decide) (by rw [q9]; rfl) rfl ?_
      exact L_twice C hl hi (by omega) (by omega) (by omega) I next
    by_cases q10 : xs (3 * n) &&& 31 = 10
    · refine lv_tableIn (pc := 32) (tgt := 376) F.1 F.2.1 d_W_law_32 (by rw [q10]; decide) (by rw [q10]; decide) (by rw [q10]; rfl) rfl ?_
      exact L_abort C hl hi (by omega) (by omega) (by omega) I next
    by_cases q11 : xs (3 * n) &&& 31 = 11
    · refine lv_tableIn (pc := 32) (tgt := 389) F.1 F.2.1 d_W_law_32 (by rw [q11]; decide) (by rw [q11]; decide) (by rw [q11]; rfl) rfl ?_
      exact L_crash C hl hi (by omega) (by omega) (by omega) I next
    by_cases q12 : xs (3 * n) &&& 31 = 12
    · refine lv_tableIn (pc := 32) (tgt := 412) F.1 F.2.1 d_W_law_32 (by rw [q12]; decide) (by rw [q12]; decide) (by rw [q12]; rfl) rfl ?_
      exact L_back C hl hi (by omega) (by omega) (by omega) I next
    by_cases q13 : xs (3 * n) &&& 31 = 13
    · refine lv_tableIn (pc := 32) (tgt := 435) F.1 F.2.1 d_W_law_32 (by rw [q13]; decide) (by rw [q13]; decide) (by rw [q13]; rfl) rfl ?_
      exact L_takeOver C hl hi (by omega) (by omega) (by omega) I next
    by_cases q14 : xs (3 * n) &&& 31 = 14
    · refine lv_tableIn (pc := 32) (tgt := 448) F.1 F.2.1 d_W_law_32 (by rw [q14]; decide) (by rw [q14]; decide) (by rw [q14]; rfl) rfl ?_
      exact L_holder C hl hi (by omega) (by omega) (by omega) I next
    by_cases q15 : xs (3 * n) &&& 31 = 15
    · refine lv_tableIn (pc := 32) (tgt := 461) F.1 F.2.1 d_W_law_32 (by rw [q15]; decide) (by rw [q15]; decide) (by rw [q15]; rfl) rfl ?_
      exact L_told C hl hi (by omega) (by omega) (by omega) I next
    by_cases q16 : xs (3 * n) &&& 31 = 16
    · refine lv_tableIn (pc := 32) (tgt := 484) F.1 F.2.1 d_W_law_32 (by rw [q16]; decide) (by rw [q16]; decide) (by rw [q16]; rfl) rfl ?_
      exact L_piece C hl hi (by omega) (by omega) (by omega) I next
    by_cases q17 : xs (3 * n) &&& 31 = 17
    · refine lv_tableIn (pc := 32) (tgt := 517) F.1 F.2.1 d_W_law_32 (by rw [q17]; decide) (by rw [q17]; decide) (by rw [q17]; rfl) rfl ?_
      exact L_isUp C hl hi (by omega) (by omega) (by omega) I next
    by_cases q18 : xs (3 * n) &&& 31 = 18
    · refine lv_tableIn (pc := 32) (tgt := 540) F.1 F.2.1 d_W_law_32 (by rw [q18]; decide) (by rw [q18]; decide) (by rw [q18]; rfl) rfl ?_
      exact L_guest C hl hi (by omega) (by omega) (by omega) I next
    by_cases q19 : xs (3 * n) &&& 31 = 19
    · refine lv_tableIn (pc := 32) (tgt := 573) F.1 F.2.1 d_W_law_32 (by rw [q19]; decide) (by rw [q19]; decide) (by rw [q19]; rfl) rfl ?_
      exact L_memory C hl hi (by omega) (by omega) (by omega) I next
    by_cases q20 : xs (3 * n) &&& 31 = 20
    · refine lv_tableIn (pc := 32) (tgt := 606) F.1 F.2.1 d_W_law_32 (by rw [q20]; decide) (by rw [q20]; decide) (by rw [q20]; rfl) rfl ?_
      exact L_output C hl hi (by omega) (by omega) (by omega) I next
    by_cases q21 : xs (3 * n) &&& 31 = 21
    · refine lv_tableIn (pc := 32) (tgt := 639) F.1 F.2.1 d_W_law_32 (by rw [q21]; decide) (by rw [q21]; decide) (by rw [q21]; rfl) rfl ?_
      exact L_block C hl hi (by omega) (by omega) (by omega) I next
    refine lv_tableOut (pc := 32) (tgt := 662) F.1 F.2.1 d_W_law_32 (tab_out 21 (fun k hk w => ?_)) rfl ?_
    · rcases (show k = 0 ∨ k = 1 ∨ k = 2 ∨ k = 3 ∨ k = 4 ∨ k = 5 ∨ k = 6 ∨ k = 7 ∨ k = 8 ∨ k = 9 ∨ k = 10 ∨ k = 11 ∨ k = 12 ∨ k = 13 ∨ k = 14 ∨ k = 15 ∨ k = 16 ∨ k = 17 ∨ k = 18 ∨ k = 19 ∨ k = 20 ∨ k = 21 by omega) with rfl | rfl | rfl | rfl | rfl | rfl | rfl | rfl | rfl | rfl | rfl | rfl | rfl | rfl | rfl | rfl | rfl | rfl | rfl | rfl | rfl | rfl
      · exact q0 w
      · exact q1 w
      · exact q2 w
      · exact q3 w
      · exact q4 w
      · exact q5 w
      · exact q6 w
      · exact q7 w
      · exact q8 w
      · exact q9 w
      · exact q10 w
      · exact q11 w
      · exact q12 w
      · exact q13 w
      · exact q14 w
      · exact q15 w
      · exact q16 w
      · exact q17 w
      · exact q18 w
      · exact q19 w
      · exact q20 w
      · exact q21 w
    · refine W.widen (k := cells + 2) (n := slots + 13) (by omega) (by omega) ?_
      exact next h _ _ _ _ _ _ _ _ _ _ _ _ _ _ _ _ _ _ _ _ _ _ _ _ _ _ _ _ _ _ _ _ _ _ _ _ _ _ _ _ _ _ _ _ _ _ _ _ _ _ _ _ _ _ _ _ _ _ _ _ _ _ _ _ _ _ _ _ _ _ _ pz LP fP H locs ⟨I.1, I.2.1, I.2.2.1, RR.mono I.2.2.2 (by omega)⟩
