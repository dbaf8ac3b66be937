/-! The relation between the class's numbers and the reference's: a machine's state. -/
/-- a machine's state (all but memory, counter, retired) and a row -/
def MS0 (rg ip ou : Nat → Int32) (ti ni no : Int32) (rq : Bool) (rb rwd : Int32) (q : Nat → Int32) : Prop :=
  (∀ j, j < 4 → rg j = q j) ∧ (ti = q 5 ∧ isN ti 257) ∧ ni = q 6 ∧ (∀ j, j < tN ni → ip j = q (7 + j)) ∧ no = q 15 ∧ (∀ j, j < tN no → ou j = q (16 + j)) ∧ q 56 = bI rq ∧ (rq = true → rb = q 57 ∧ rwd = q 58 ∧ isN rb 8)
theorem MS0.frame {rg ip ou : Nat → Int32} {ti ni no : Int32} {rq : Bool} {rb rwd : Int32} {q q2 : Nat → Int32} (h : MS0 rg ip ou ti ni no rq rb rwd q) (hni : isN ni 9) (hno : isN no 41) (e : ∀ j, j < 59 → j ≠ 4 → q2 j = q j) : MS0 rg ip ou ti ni no rq rb rwd q2 := by
  obtain ⟨h1, h2, h3, h4, h5, h6, h7, h8⟩ := h
  have b1 := hni.2
  have b2 := hno.2
  refine ⟨fun j hj => ?_, ?_, ?_, fun j hj => ?_, ?_, fun j hj => ?_, ?_, fun hq => ?_⟩
  · rw [e j (by omega) (by omega)]
    exact h1 j hj
  · rw [e 5 (by omega) (by omega)]
    exact h2
  · rw [e 6 (by omega) (by omega)]
    exact h3
  · rw [e (7 + j) (by omega) (by omega)]
    exact h4 j hj
  · rw [e 15 (by omega) (by omega)]
    exact h5
  · rw [e (16 + j) (by omega) (by omega)]
    exact h6 j hj
  · rw [e 56 (by omega) (by omega)]
    exact h7
  · rw [e 57 (by omega) (by omega), e 58 (by omega) (by omega)]
    exact h8 hq
/-- a register is set -/
theorem MS0.reg {rg ip ou : Nat → Int32} {ti ni no : Int32} {rq : Bool} {rb rwd x : Int32} {ro : Nat → Int32} {r a : Nat} (h : MS0 rg ip ou ti ni no rq rb rwd (fun k => ro (r + k))) (ha : a < 4) : MS0 (upd rg a x) ip ou ti ni no rq rb rwd (fun k => upd ro (r + a) x (r + k)) := by
  obtain ⟨h1, h2, h3, h4, h5, h6, h7, h8⟩ := h
  refine ⟨fun j hj => ?_, ?_, ?_, fun j hj => ?_, ?_, fun j hj => ?_, ?_, fun hq => ?_⟩
  · by_cases hja : j = a
    · subst hja
      show upd rg j x j = upd ro (r + j) x (r + j)
      rw [pk_us, pk_us]
    · show upd rg a x j = upd ro (r + a) x (r + j)
      rw [pk_un hja, pk_un (by omega)]
      exact h1 j hj
  · show ti = upd ro (r + a) x (r + 5) ∧ _
    rw [pk_un (by omega)]
    exact h2
  · show ni = upd ro (r + a) x (r + 6)
    rw [pk_un (by omega)]
    exact h3
  · show ip j = upd ro (r + a) x (r + (7 + j))
    rw [pk_un (by omega)]
    exact h4 j hj
  · show no = upd ro (r + a) x (r + 15)
    rw [pk_un (by omega)]
    exact h5
  · show ou j = upd ro (r + a) x (r + (16 + j))
    rw [pk_un (by omega)]
    exact h6 j hj
  · show upd ro (r + a) x (r + 56) = _
    rw [pk_un (by omega)]
    exact h7
  · show rb = upd ro (r + a) x (r + 57) ∧ rwd = upd ro (r + a) x (r + 58) ∧ _
    rw [pk_un (by omega), pk_un (by omega)]
    exact h8 hq
/-- the timer is set -/
theorem MS0.tim {rg ip ou : Nat → Int32} {ti ni no x : Int32} {rq : Bool} {rb rwd : Int32} {ro : Nat → Int32} {r : Nat} (h : MS0 rg ip ou ti ni no rq rb rwd (fun k => ro (r + k))) (hx : isN x 257) : MS0 rg ip ou x ni no rq rb rwd (fun k => upd ro (r + 5) x (r + k)) := by
  obtain ⟨h1, h2, h3, h4, h5, h6, h7, h8⟩ := h
  refine ⟨fun j hj => ?_, ?_, ?_, fun j hj => ?_, ?_, fun j hj => ?_, ?_, fun hq => ?_⟩
  · show rg j = upd ro (r + 5) x (r + j)
    rw [pk_un (by omega)]
    exact h1 j hj
  · show x = upd ro (r + 5) x (r + 5) ∧ _
    rw [pk_us]
    exact ⟨rfl, hx⟩
  · show ni = upd ro (r + 5) x (r + 6)
    rw [pk_un (by omega)]
    exact h3
  · show ip j = upd ro (r + 5) x (r + (7 + j))
    rw [pk_un (by omega)]
    exact h4 j hj
  · show no = upd ro (r + 5) x (r + 15)
    rw [pk_un (by omega)]
    exact h5
  · show ou j = upd ro (r + 5) x (r + (16 + j))
    rw [pk_un (by omega)]
    exact h6 j hj
  · show upd ro (r + 5) x (r + 56) = _
    rw [pk_un (by omega)]
    exact h7
  · show rb = upd ro (r + 5) x (r + 57) ∧ rwd = upd ro (r + 5) x (r + 58) ∧ _
    rw [pk_un (by omega), pk_un (by omega)]
    exact h8 hq
/-- the timer's tick -/
theorem tick_sim {rg ip ou rg2 : Nat → Int32} {ti ni no ct ct2 ti2 : Int32} {rq : Bool} {rb rwd : Int32} {ro : Nat → Int32} {r : Nat} (h : MS0 rg ip ou ti ni no rq rb rwd (fun k => ro (r + k))) (hni : isN ni 9) (hno : isN no 41) (hc : ct = ro (r + 4)) (e : F_A_tick ct ti rg = (rg2, ct2, ti2)) :
    MS0 rg2 ip ou ti2 ni no rq rb rwd (fun k => F_M_tick ro r (r + k)) ∧ ct2 = F_M_tick ro r (r + 4) ∧ ∀ j, j ≠ r + 3 → j ≠ r + 4 → j ≠ r + 5 → F_M_tick ro r j = ro j := by
  have ht : ti = ro (r + 5) := h.2.1.1
  have hn := h.2.1.2
  have hb := hn.2
  unfold F_A_tick at e
  unfold F_M_tick
  rw [pk_us, ← ht]
  by_cases h0 : ti = 0
  · rw [if_pos h0] at e
    rw [if_pos h0]
    cases e
    exact ⟨h, hc, fun _ _ _ _ => rfl⟩
  · rw [if_neg h0] at e
    rw [if_neg h0]
    have hz : tN ti ≠ 0 := fun q => h0 (by rw [hn.1, q]; rfl)
    obtain ⟨t, et⟩ : ∃ t, tN ti = t + 1 := ⟨tN ti - 1, by omega⟩
    have e1 : ti - 1 = nI t := by rw [hn.1, et]; exact nI_pred t
    have hx : isN (ti - 1) 257 := by rw [e1]; exact isN_nI (by omega) (by decide)
    by_cases h1 : ti - 1 = 0
    · rw [if_pos h1] at e
      have h2 : ti - 1 ≤ 0 := by rw [h1]; decide
      rw [if_pos h2]
      cases e
      rw [pk_un (show r + 4 ≠ r + 5 by omega), ← hc]
      refine ⟨?_, ?_, fun j j3 j4 j5 => ?_⟩
      · have h3 := (h.tim hx).reg (a := 3) (x := ct) (by omega)
        refine MS0.frame h3 hni hno (fun j _ j4 => ?_)
        show upd _ (r + 4) 56 (r + j) = _
        rw [pk_un (by omega)]
      · rw [pk_us]
      · rw [pk_un j4, pk_un j3, pk_un j5]
    · rw [if_neg h1] at e
      have h2 : ¬ ti - 1 ≤ 0 := fun q => h1 (by
        rw [e1] at q ⊢
        have q2 := (nI_leI (a := t) (b := 0) (by omega) (by omega)).mp q
        rw [show t = 0 by omega]
        rfl)
      rw [if_neg h2]
      cases e
      refine ⟨h.tim hx, ?_, fun j j3 j4 j5 => by rw [pk_un j5]⟩
      rw [pk_un (by omega)]
      exact hc
