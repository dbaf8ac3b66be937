/-! One instruction: pieces. -/
theorem lo6_succ {c : Int32} (h : isN c 64) : nI (lo 6 (c + 1)) = nI ((tN c + 1) % 64) := by
  have hb := h.2
  have e : c + 1 = nI (tN c + 1) := by rw [h.1, tN_nI (by omega)]; exact nI_1 _
  rw [e]
  unfold lo
  rw [pk_tn (by omega)]
/-- a page: due, sent, known, in both -/
def PS (a b c : Int32) : Prop := (a = 0 ∧ c = (-1)) ∨ (a = 1 ∧ c = b ∧ isN b 100000 ∧ 1 ≤ tN b) ∨ (a = 2 ∧ c = (-2))
/-- a word goes out -/
theorem MS0.outp {rg ip ou : Nat → Int32} {ti ni no x : Int32} {rq : Bool} {rb rwd : Int32} {ro : Nat → Int32} {r : Nat} (h : MS0 rg ip ou ti ni no rq rb rwd (fun k => ro (r + k))) (hni : isN ni 9) (hno : isN no 41) (h40 : tN no < 40) :
    MS0 rg ip (upd ou (tN no) x) ti ni (nI (tN no + 1)) rq rb rwd (fun k => upd (upd ro (r + 16 + tN no) x) (r + 15) (no + 1) (r + k)) := by
  obtain ⟨h1, h2, h3, h4, h5, h6, h7, h8⟩ := h
  have b1 := hni.2
  have en : no + 1 = nI (tN no + 1) := by rw [hno.1, tN_nI (by omega)]; exact nI_1 _
  refine ⟨fun j hj => ?_, ?_, ?_, fun j hj => ?_, ?_, fun j hj => ?_, ?_, fun hq => ?_⟩
  · show rg j = upd (upd ro (r + 16 + tN no) x) (r + 15) (no + 1) (r + j)
    rw [pk_un (by omega), pk_un (by omega)]
    exact h1 j hj
  · show ti = upd (upd ro (r + 16 + tN no) x) (r + 15) (no + 1) (r + 5) ∧ _
    rw [pk_un (by omega), pk_un (by omega)]
    exact h2
  · show ni = upd (upd ro (r + 16 + tN no) x) (r + 15) (no + 1) (r + 6)
    rw [pk_un (by omega), pk_un (by omega)]
    exact h3
  · show ip j = upd (upd ro (r + 16 + tN no) x) (r + 15) (no + 1) (r + (7 + j))
    rw [pk_un (by omega), pk_un (by omega)]
    exact h4 j hj
  · show nI (tN no + 1) = upd (upd ro (r + 16 + tN no) x) (r + 15) (no + 1) (r + 15)
    rw [pk_us, en]
  · show upd ou (tN no) x j = upd (upd ro (r + 16 + tN no) x) (r + 15) (no + 1) (r + (16 + j))
    rw [tN_nI (by omega)] at hj
    rw [pk_un (f := upd ro (r + 16 + tN no) x) (show r + (16 + j) ≠ r + 15 by omega)]
    by_cases hjn : j = tN no
    · subst hjn
      rw [pk_us, show r + (16 + tN no) = r + 16 + tN no by omega, pk_us]
    · rw [pk_un hjn, pk_un (by omega)]
      exact h6 j (by omega)
  · show upd (upd ro (r + 16 + tN no) x) (r + 15) (no + 1) (r + 56) = _
    rw [pk_un (by omega), pk_un (by omega)]
    exact h7
  · show rb = upd (upd ro (r + 16 + tN no) x) (r + 15) (no + 1) (r + 57) ∧ rwd = upd (upd ro (r + 16 + tN no) x) (r + 15) (no + 1) (r + 58) ∧ _
    rw [pk_un (by omega), pk_un (by omega), pk_un (by omega), pk_un (by omega)]
    exact h8 hq
/-- the oldest word is taken -/
theorem MS0.take {rg ip ou ip2 ro2 : Nat → Int32} {ti ni no ni2 x x2 : Int32} {rq : Bool} {rb rwd : Int32} {ro : Nat → Int32} {r : Nat} (h : MS0 rg ip ou ti ni no rq rb rwd (fun k => ro (r + k))) (hni : isN ni 9) (hno : isN no 41) (e1 : F_A_readOldest ni ip = (x, ip2, ni2)) (e2 : F_M_taken ro r = (x2, ro2)) :
    x = x2 ∧ MS0 rg ip2 ou ti ni2 no rq rb rwd (fun k => ro2 (r + k)) ∧ ro2 (r + 4) = ro (r + 4) ∧ ro2 (r + 59) = ro (r + 59) ∧ ∀ j, ¬ (r ≤ j ∧ j < r + 60) → ro2 j = ro j := by
  have b1 := hni.2
  have b2 := hno.2
  have h3 : ni = ro (r + 6) := h.2.2.1
  unfold F_A_readOldest at e1
  unfold F_M_taken at e2
  rw [← h3] at e2
  by_cases h0 : ni = 0
  · rw [if_pos (by rw [← hni.1]; exact h0)] at e1
    rw [if_pos h0] at e2
    cases e1
    cases e2
    exact ⟨rfl, h, rfl, rfl, fun _ _ => rfl⟩
  · rw [if_neg (by rw [← hni.1]; exact h0)] at e1
    rw [if_neg h0] at e2
    have hz : tN ni ≠ 0 := fun q => h0 (by rw [hni.1, q]; rfl)
    obtain ⟨t, et⟩ : ∃ t, tN ni = t + 1 := ⟨tN ni - 1, by omega⟩
    have en : ni - 1 = nI (tN ni - 1) := by rw [hni.1, tN_nI (by omega), et]; exact nI_pred t
    obtain ⟨g1, g2, g3, g4, g5, g6, g7, g8⟩ := h
    cases e1
    cases e2
    refine ⟨g4 0 (by omega), ⟨fun j hj => ?_, ?_, ?_, fun j hj => ?_, ?_, fun j hj => ?_, ?_, fun hq => ?_⟩, ?_, ?_, fun j hj => ?_⟩
    · show rg j = upd (va_cpy ro ro (r + 8) (r + 7) 7) (r + 6) _ (r + j)
      rw [pk_un (by omega), pk_cpy_out (by omega)]
      exact g1 j hj
    · show ti = upd (va_cpy ro ro (r + 8) (r + 7) 7) (r + 6) _ (r + 5) ∧ _
      rw [pk_un (by omega), pk_cpy_out (by omega)]
      exact g2
    · show nI (tN ni - 1) = upd (va_cpy ro ro (r + 8) (r + 7) 7) (r + 6) _ (r + 6)
      rw [pk_us, pk_cpy_out (by omega), ← h3, en]
    · show va_cpy ip ip 1 0 (tN ni - 1) j = upd (va_cpy ro ro (r + 8) (r + 7) 7) (r + 6) _ (r + (7 + j))
      rw [tN_nI (by omega)] at hj
      rw [pk_cpy_in (by omega) (by omega), pk_un (by omega), pk_cpy_in (by omega) (by omega)]
      have g := g4 (1 + (j - 0)) (by omega)
      rw [g]
      show ro (r + (7 + (1 + (j - 0)))) = _
      congr 1
      omega
    · show no = upd (va_cpy ro ro (r + 8) (r + 7) 7) (r + 6) _ (r + 15)
      rw [pk_un (by omega), pk_cpy_out (by omega)]
      exact g5
    · show ou j = upd (va_cpy ro ro (r + 8) (r + 7) 7) (r + 6) _ (r + (16 + j))
      rw [pk_un (by omega), pk_cpy_out (by omega)]
      exact g6 j hj
    · show upd (va_cpy ro ro (r + 8) (r + 7) 7) (r + 6) _ (r + 56) = _
      rw [pk_un (by omega), pk_cpy_out (by omega)]
      exact g7
    · show rb = upd (va_cpy ro ro (r + 8) (r + 7) 7) (r + 6) _ (r + 57) ∧ rwd = upd (va_cpy ro ro (r + 8) (r + 7) 7) (r + 6) _ (r + 58) ∧ _
      rw [pk_un (by omega), pk_cpy_out (by omega), pk_un (by omega), pk_cpy_out (by omega)]
      exact g8 hq
    · rw [pk_un (by omega), pk_cpy_out (by omega)]
    · rw [pk_un (by omega), pk_cpy_out (by omega)]
    · rw [pk_un (by omega), pk_cpy_out (by omega)]
/-- a request is made -/
theorem MS0.req {rg ip ou : Nat → Int32} {ti ni no b x : Int32} {rq : Bool} {rb rwd : Int32} {ro : Nat → Int32} {r : Nat} (h : MS0 rg ip ou ti ni no rq rb rwd (fun k => ro (r + k))) (hni : isN ni 9) (hno : isN no 41) (hb : isN b 8) : MS0 rg ip ou ti ni no true b x (fun k => upd (upd (upd ro (r + 56) 1) (r + 57) b) (r + 58) x (r + k)) := by
  obtain ⟨h1, h2, h3, h4, h5, h6, h7, h8⟩ := h
  have b1 := hni.2
  have b2 := hno.2
  refine ⟨fun j hj => ?_, ?_, ?_, fun j hj => ?_, ?_, fun j hj => ?_, ?_, fun hq => ?_⟩
  · show rg j = upd (upd (upd ro (r + 56) 1) (r + 57) b) (r + 58) x (r + j)
    rw [pk_un (by omega), pk_un (by omega), pk_un (by omega)]
    exact h1 j hj
  · show ti = upd (upd (upd ro (r + 56) 1) (r + 57) b) (r + 58) x (r + 5) ∧ _
    rw [pk_un (by omega), pk_un (by omega), pk_un (by omega)]
    exact h2
  · show ni = upd (upd (upd ro (r + 56) 1) (r + 57) b) (r + 58) x (r + 6)
    rw [pk_un (by omega), pk_un (by omega), pk_un (by omega)]
    exact h3
  · show ip j = upd (upd (upd ro (r + 56) 1) (r + 57) b) (r + 58) x (r + (7 + j))
    rw [pk_un (by omega), pk_un (by omega), pk_un (by omega)]
    exact h4 j hj
  · show no = upd (upd (upd ro (r + 56) 1) (r + 57) b) (r + 58) x (r + 15)
    rw [pk_un (by omega), pk_un (by omega), pk_un (by omega)]
    exact h5
  · show ou j = upd (upd (upd ro (r + 56) 1) (r + 57) b) (r + 58) x (r + (16 + j))
    rw [pk_un (by omega), pk_un (by omega), pk_un (by omega)]
    exact h6 j hj
  · show upd (upd (upd ro (r + 56) 1) (r + 57) b) (r + 58) x (r + 56) = _
    rw [pk_un (by omega), pk_un (by omega), pk_us]
    rfl
  · show b = upd (upd (upd ro (r + 56) 1) (r + 57) b) (r + 58) x (r + 57) ∧ x = upd (upd (upd ro (r + 56) 1) (r + 57) b) (r + 58) x (r + 58) ∧ _
    rw [pk_un (by omega), pk_us, pk_us]
    exact ⟨rfl, rfl, hb⟩
