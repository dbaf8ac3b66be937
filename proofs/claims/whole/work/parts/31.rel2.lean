theorem one_ne : ¬ (1 : Int32) = 0 := by decide
theorem bo {a : Bool} (h : ¬ a = true) : a = false := by cases a with
  | true => exact absurd rfl h
  | false => rfl
theorem isN_eq {x y : Int32} {a b : Nat} (hx : isN x a) (hy : isN y b) (h : tN x = tN y) : x = y := by rw [hx.1, hy.1, h]
theorem isN_ne {b : Nat} {x : Int32} (h : isN x b) (hb : b < 2 ^ 31) : ¬ x = (-1) ∧ ¬ x = (-2) := by
  have h2 := h.2
  constructor
  · intro q
    have := nI_pos (n := tN x) (by omega)
    rw [← h.1, q] at this
    exact this (by decide)
  · intro q
    have := nI_pos (n := tN x) (by omega)
    rw [← h.1, q] at this
    exact this (by decide)
theorem PS_known {a b c : Int32} (h : PS a b c) : a = 2 ↔ c = (-2) := by
  rcases h with ⟨h1, h2⟩ | ⟨h1, h2, h3, h4⟩ | ⟨h1, h2⟩
  · rw [h1, h2]
    exact ⟨fun q => absurd q (by decide), fun q => absurd q (by decide)⟩
  · rw [h1, h2]
    exact ⟨fun q => absurd q (by decide), fun q => absurd q (isN_ne h3 (by decide)).2⟩
  · rw [h1, h2]
    exact ⟨fun _ => rfl, fun _ => rfl⟩
theorem PS_due {a b c : Int32} (h : PS a b c) : a = 0 ↔ c = (-1) := by
  rcases h with ⟨h1, h2⟩ | ⟨h1, h2, h3, h4⟩ | ⟨h1, h2⟩
  · rw [h1, h2]
    exact ⟨fun _ => rfl, fun _ => rfl⟩
  · rw [h1, h2]
    exact ⟨fun q => absurd q (by decide), fun q => absurd q (isN_ne h3 (by decide)).1⟩
  · rw [h1, h2]
    exact ⟨fun q => absurd q (by decide), fun q => absurd q (by decide)⟩
theorem cnt_eq {sg sr pg : Nat → Int32} : ∀ n, (∀ p, p < n → PS (sg p) (sr p) (pg p)) → cnt2 sg n = cnt pg n
  | 0, _ => rfl
  | n + 1, h => by
    rw [cnt2, cnt, cnt_eq n (fun p hp => h p (by omega))]
    by_cases q : sg n = 2
    · rw [if_pos q, if_pos ((PS_known (h n (by omega))).mp q)]
    · rw [if_neg q, if_neg (fun z => q ((PS_known (h n (by omega))).mpr z))]
theorem s_memory {hd ta tp : Bool} {meA me tm : Nat → Int32} {ho : Nat → Bool} {h : Nat} {so host i r r2 : Int32} (hh : isN host 2 → tN host = h) (e : hd = ho h) (nso : isN so 2) (hM : ho h = true → ∀ j, j < 64 → meA j = me (64 * h + j)) (hta : h = tN so → ta = false) (htp : ¬ h = tN so → ta = tp) (hT : ta = true → ∀ j, j < 64 → meA j = tm j) (e1 : F_G_memory hd ta meA host i = (r, ())) (e2 : F_M_memory me ho tm so tp host i = (r2, ())) : r = r2 := by
  unfold F_G_memory at e1
  unfold F_M_memory at e2
  rcases host_of host with ⟨hn, hb, hc⟩ | ⟨hn, hb, hc⟩
  · rw [hb] at e1
    rw [hc] at e2
    cases e1
    cases e2
    rfl
  · rw [hb] at e1
    rw [hc] at e2
    obtain rfl := hh hn
    dsimp only at e1 e2
    rw [if_neg one_ne] at e1 e2
    rcases below_of i 64 (b := 64) rfl (by decide) with ⟨gn, gb, gc⟩ | ⟨gn, gb, c0, c1⟩
    · rw [gb] at e1
      dsimp only at e1
      rw [if_pos rfl] at e1
      rcases gc with gc | ⟨gc, gd⟩
      · rw [if_pos gc] at e2
        cases e1
        cases e2
        rfl
      · rw [if_neg gc, if_neg (fun q => gn (isN_le gc (y := 63) (b := 63) rfl q))] at e2
        cases e1
        cases e2
        rfl
    · rw [gb] at e1
      dsimp only at e1
      rw [if_neg one_ne] at e1
      have h63 : i ≤ 63 := by rw [gn.1]; exact (nI_leI (b := 63) (by have := gn.2; omega) (by omega)).mpr (by have := gn.2; omega)
      rw [if_neg c0, if_pos h63] at e2
      by_cases q : ho (tN host) = true
      · rw [if_pos (e.trans q)] at e1
        rw [if_pos q, ← hM q _ gn.2] at e2
        rw [e1] at e2
        cases e2
        rfl
      · rw [if_neg (fun z => q (e.symm.trans z))] at e1
        rw [if_neg q] at e2
        by_cases w : tN host = tN so
        · rw [hta w, if_neg (by decide)] at e1
          have hs : nI (tN host) = so := by rw [w]; exact nso.1.symm
          cases e1
          by_cases z : tp = true
          · rw [if_pos z, if_pos hs] at e2
            cases e2
            rfl
          · rw [if_neg z] at e2
            cases e2
            rfl
        · rw [htp w] at e1 hT
          by_cases z : tp = true
          · have hs : ¬ nI (tN host) = so := fun q => w (by
              have := congrArg tN q
              rw [tN_nI (by have := hn.2; omega)] at this
              exact this)
            rw [if_pos z] at e1
            rw [if_pos z, if_neg hs, ← hT z _ gn.2] at e2
            rw [e1] at e2
            cases e2
            rfl
          · rw [if_neg z] at e1 e2
            rw [e1] at e2
            cases e2
            rfl
theorem s_output {hd : Bool} {no : Int32} {ou ro : Nat → Int32} {ho : Nat → Bool} {h : Nat} {host i r r2 : Int32} (hh : isN host 2 → tN host = h) (e : hd = ho h) (nno : isN no 41) (h1 : ho h = true → no = ro (60 * h + 15) ∧ ∀ j, j < tN no → ou j = ro (60 * h + (16 + j))) (e1 : F_G_output hd no ou host i = (r, ())) (e2 : F_M_output ro ho host i = (r2, ())) : r = r2 := by
  unfold F_G_output at e1
  unfold F_M_output at e2
  rcases host_of host with ⟨hn, hb, hc⟩ | ⟨hn, hb, hc⟩
  · rw [hb] at e1
    rw [hc] at e2
    cases e1
    cases e2
    rfl
  · rw [hb] at e1
    rw [hc] at e2
    obtain rfl := hh hn
    dsimp only at e1 e2
    rw [if_neg one_ne] at e1 e2
    by_cases q : ho (tN host) = true
    · rw [if_pos (e.trans q)] at e1
      rw [if_pos q, ← (h1 q).1] at e2
      rcases below_of i (nI (tN no)) (b := tN no) rfl (by have := nno.2; omega) with ⟨gn, gb, gc⟩ | ⟨gn, gb, c0, c1⟩
      · rw [gb] at e1
        dsimp only at e1
        rw [if_pos rfl] at e1
        rcases gc with gc | ⟨gc, gd⟩
        · rw [if_pos gc] at e2
          cases e1
          cases e2
          rfl
        · rw [if_neg gc, if_pos gd] at e2
          cases e1
          cases e2
          rfl
      · rw [gb] at e1
        dsimp only at e1
        rw [if_neg one_ne, (h1 q).2 _ gn.2] at e1
        rw [if_neg c0, if_neg c1, Nat.add_assoc] at e2
        rw [e1] at e2
        cases e2
        rfl
    · rw [if_neg (fun z => q (e.symm.trans z))] at e1
      rw [if_neg q] at e2
      cases e1
      cases e2
      rfl
theorem s_guest {hd : Bool} {ct ti ni no rt : Int32} {rq : Bool} {rg ro : Nat → Int32} {ho : Nat → Bool} {h : Nat} {host x r r2 : Int32} (hh : isN host 2 → tN host = h) (e : hd = ho h) (h1 : ho h = true → (∀ j, j < 4 → rg j = ro (60 * h + j)) ∧ ct = ro (60 * h + 4) ∧ ti = ro (60 * h + 5) ∧ ni = ro (60 * h + 6) ∧ no = ro (60 * h + 15) ∧ ro (60 * h + 56) = bI rq ∧ rt = ro (60 * h + 59)) (e1 : F_G_guest hd ct ti ni no rt rq rg host x = (r, ())) (e2 : F_M_guest ro ho host x = (r2, ())) : r = r2 := by
  unfold F_G_guest at e1
  unfold F_M_guest at e2
  rcases host_of host with ⟨hn, hb, hc⟩ | ⟨hn, hb, hc⟩
  · rw [hb] at e1
    rw [hc] at e2
    cases e1
    cases e2
    rfl
  · rw [hb] at e1
    rw [hc] at e2
    obtain rfl := hh hn
    dsimp only at e1 e2
    rw [if_neg one_ne] at e1 e2
    by_cases q : ho (tN host) = true
    · rw [if_pos (e.trans q)] at e1
      rw [if_pos q] at e2
      obtain ⟨g1, g2, g3, g4, g5, g6, g7⟩ := h1 q
      rcases below_of x 4 (b := 4) rfl (by decide) with ⟨gn, gb, gc⟩ | ⟨gn, gb, c0, c1⟩
      · rw [gb] at e1
        dsimp only at e1
        rw [if_pos rfl] at e1
        rcases gc with gc | ⟨gc, gd⟩
        · rw [if_pos gc] at e2
          have ne : ∀ k : Nat, k < 10 → ¬ x = nI k := fun k hk z => by rw [z] at gc; exact nI_pos (by omega) gc
          rw [if_neg (show ¬ x = 4 from ne 4 (by omega)), if_neg (show ¬ x = 5 from ne 5 (by omega)), if_neg (show ¬ x = 6 from ne 6 (by omega)), if_neg (show ¬ x = 7 from ne 7 (by omega)), if_neg (show ¬ x = 8 from ne 8 (by omega)), if_neg (show ¬ x = 9 from ne 9 (by omega))] at e1
          cases e1
          cases e2
          rfl
        · rw [if_neg gc] at e2
          by_cases g9 : x ≤ 9
          · rw [if_pos g9] at e2
            have nx := isN_le gc (y := 9) (b := 9) rfl g9
            have nxb := nx.2
            have n4 : ¬ tN x < 4 := fun z => gn ⟨nx.1, z⟩
            rcases (show tN x = 4 ∨ tN x = 5 ∨ tN x = 6 ∨ tN x = 7 ∨ tN x = 8 ∨ tN x = 9 by omega) with z | z | z | z | z | z
            · obtain rfl : x = 4 := by rw [nx.1, z]; rfl
              rw [if_pos rfl, g2] at e1
              rw [if_neg (by decide)] at e2
              have t4 : tN 4 = 4 := rfl
              rw [t4] at e2
              rw [e1] at e2
              cases e2
              rfl
            · obtain rfl : x = 5 := by rw [nx.1, z]; rfl
              rw [if_neg (by decide), if_pos rfl, g3] at e1
              rw [if_neg (by decide)] at e2
              have t5 : tN 5 = 5 := rfl
              rw [t5] at e2
              rw [e1] at e2
              cases e2
              rfl
            · obtain rfl : x = 6 := by rw [nx.1, z]; rfl
              rw [if_neg (by decide), if_neg (by decide), if_pos rfl, g7] at e1
              rw [if_pos (by decide), if_pos rfl] at e2
              rw [e1] at e2
              cases e2
              rfl
            · obtain rfl : x = 7 := by rw [nx.1, z]; rfl
              rw [if_neg (by decide), if_neg (by decide), if_neg (by decide), if_pos rfl, g4] at e1
              rw [if_pos (by decide), if_neg (by decide), if_pos rfl] at e2
              rw [e1] at e2
              cases e2
              rfl
            · obtain rfl : x = 8 := by rw [nx.1, z]; rfl
              rw [if_neg (by decide), if_neg (by decide), if_neg (by decide), if_neg (by decide), if_pos rfl, g5] at e1
              rw [if_pos (by decide), if_neg (by decide), if_neg (by decide), if_pos rfl] at e2
              rw [e1] at e2
              cases e2
              rfl
            · obtain rfl : x = 9 := by rw [nx.1, z]; rfl
              rw [if_neg (by decide), if_neg (by decide), if_neg (by decide), if_neg (by decide), if_neg (by decide), if_pos rfl] at e1
              rw [if_pos (by decide), if_neg (by decide), if_neg (by decide), if_neg (by decide), g6] at e2
              cases rq with
              | true =>
                rw [if_pos rfl] at e1
                cases e1
                cases e2
                rfl
              | false =>
                rw [if_neg (by decide)] at e1
                cases e1
                cases e2
                rfl
          · rw [if_neg g9] at e2
            have ne : ∀ k : Nat, k < 10 → ¬ x = nI k := fun k hk z => g9 (by rw [z]; exact (nI_leI (b := 9) (by omega) (by omega)).mpr (by omega))
            rw [if_neg (show ¬ x = 4 from ne 4 (by omega)), if_neg (show ¬ x = 5 from ne 5 (by omega)), if_neg (show ¬ x = 6 from ne 6 (by omega)), if_neg (show ¬ x = 7 from ne 7 (by omega)), if_neg (show ¬ x = 8 from ne 8 (by omega)), if_neg (show ¬ x = 9 from ne 9 (by omega))] at e1
            cases e1
            cases e2
            rfl
      · rw [gb] at e1
        dsimp only at e1
        have gnb := gn.2
        rw [if_neg one_ne, g1 _ gn.2] at e1
        rw [if_neg c0, if_pos (by rw [gn.1]; exact (nI_leI (b := 9) (by omega) (by omega)).mpr (by omega)), if_neg (by rw [gn.1]; exact fun z => by have := (nI_leI (a := 6) (by omega) (by omega)).mp z; omega)] at e2
        rw [e1] at e2
        cases e2
        rfl
    · rw [if_neg (fun z => q (e.symm.trans z))] at e1
      rw [if_neg q] at e2
      cases e1
      cases e2
      rfl
theorem s_holder {hd ho : Nat → Bool} {h : Nat} {r r2 : Int32} (hh : h < 2) (e : ∀ h, h < 2 → hd h = ho h) (e1 : F_G_holder (hd h) (hd (1 - h)) h = (r, ())) (e2 : F_M_holder ho = (r2, ())) : r = r2 := by
  unfold F_G_holder at e1
  unfold F_M_holder at e2
  rw [← e 0 (by omega), ← e 1 (by omega)] at e2
  rcases (show h = 0 ∨ h = 1 by omega) with rfl | rfl
  · rw [if_pos rfl] at e1
    rw [e1] at e2
    cases e2
    rfl
  · rw [if_neg (by decide)] at e1
    rw [show 1 - 1 = 0 from rfl] at e1
    rw [e1] at e2
    cases e2
    rfl
theorem s_told {go sp re st rd : Bool} {wn nu mn sc sq zn la so pn x r r2 ow : Int32} {sg sr pg : Nat → Int32} (nso : isN so 2) (hst : st = (go && sp)) (hre : ¬ go = true → re = false) (hrd : rd = re) (hP : go = true → ∀ p, p < 8 → PS (sg p) (sr p) (pg p)) (hwn : wn = ow) (hmn : mn = la) (hsc : sc = so) (hzn : zn = pn) (e1 : F_G_told wn nu go sp mn sc sq sg zn re x = (r, ())) (e2 : F_M_told pg st ow nu go la so sq rd pn x = (r2, ())) : r = r2 := by
  subst hwn
  subst hmn
  subst hsc
  subst hzn
  subst hrd
  have e : F_G_told wn nu go sp mn sc sq sg zn rd x = F_M_told pg st wn nu go mn sc sq rd zn x := by
    unfold F_G_told F_M_told
    rw [← nso.1]
    have e5 : (if go = true then (nI (cnt2 sg 8), ()) else (0, ())) = if go = true then (nI (cnt pg 8), ()) else ((0 : Int32), ()) := by
      by_cases g : go = true
      · rw [if_pos g, if_pos g, cnt_eq 8 (hP g)]
      · rw [if_neg g, if_neg g]
    have e4 : (if go = true then (if sp = true then ((1 : Int32), ()) else (0, ())) else (0, ())) = if st = true then (1, ()) else (0, ()) := by
      rw [hst]
      cases go <;> cases sp <;> rfl
    have e7 : (if go = true then (if rd = true then ((1 : Int32), ()) else (0, ())) else (0, ())) = if rd = true then (1, ()) else (0, ()) := by
      by_cases g : go = true
      · rw [if_pos g]
      · rw [if_neg g, hre g]
        rfl
    rw [e5, e4, e7]
  rw [e, e2] at e1
  cases e1
  rfl
theorem s_piece {zn pn k x r r2 : Int32} {pk pm pp ps ki mo po sr : Nat → Int32} (hz : zn = pn) (nz : isN pn 9) (h : ∀ j, j < tN pn → pk j = ki j ∧ pm j = mo j ∧ pp j = po j ∧ ps j = sr j) (e1 : F_G_piece zn k x pk pm pp ps = (r, ())) (e2 : F_M_piece ki mo po sr pn k x = (r2, ())) : r = r2 := by
  subst hz
  unfold F_G_piece at e1
  unfold F_M_piece F_M_isPiece at e2
  rcases below_of k (nI (tN zn)) (b := tN zn) rfl (by have := nz.2; omega) with ⟨gn, gb, gc⟩ | ⟨gn, gb, c0, c1⟩
  · rw [gb] at e1
    dsimp only at e1
    rw [if_pos rfl] at e1
    rcases gc with gc | ⟨gc, gd⟩
    · rw [if_pos gc] at e2
      cases e1
      cases e2
      rfl
    · rw [if_neg gc, if_pos gd] at e2
      cases e1
      cases e2
      rfl
  · rw [gb] at e1
    dsimp only at e1
    obtain ⟨g1, g2, g3, g4⟩ := h _ gn.2
    rw [if_neg one_ne, g1, g2, g3, g4] at e1
    rw [if_neg c0, if_neg c1] at e2
    dsimp only at e2
    rw [if_neg one_ne] at e2
    by_cases x0 : x < 0
    · rw [if_pos x0] at e2
      have ne : ∀ k : Nat, k < 10 → ¬ x = nI k := fun k hk z => by rw [z] at x0; exact nI_pos (by omega) x0
      rw [if_neg (show ¬ x = 0 from ne 0 (by omega)), if_neg (show ¬ x = 1 from ne 1 (by omega)), if_neg (show ¬ x = 2 from ne 2 (by omega)), if_neg (show ¬ x = 3 from ne 3 (by omega))] at e1
      cases e1
      cases e2
      rfl
    · rw [if_neg x0] at e2
      by_cases x3 : x ≤ 3
      · rw [if_pos x3] at e2
        have nx := isN_le x0 (y := 3) (b := 3) rfl x3
        by_cases z0 : x = 0
        · rw [if_pos z0] at e1 e2
          rw [e1] at e2
          cases e2
          rfl
        · rw [if_neg z0] at e1 e2
          by_cases z1 : x = 1
          · rw [if_pos z1] at e1 e2
            rw [e1] at e2
            cases e2
            rfl
          · rw [if_neg z1] at e1 e2
            by_cases z2 : x = 2
            · rw [if_pos z2] at e1 e2
              rw [e1] at e2
              cases e2
              rfl
            · rw [if_neg z2] at e1 e2
              have z3 : x = 3 := by
                have nb := nx.2
                have a0 : tN x ≠ 0 := fun q => z0 (by rw [nx.1, q]; rfl)
                have a1 : tN x ≠ 1 := fun q => z1 (by rw [nx.1, q]; rfl)
                have a2 : tN x ≠ 2 := fun q => z2 (by rw [nx.1, q]; rfl)
                rw [nx.1, show tN x = 3 by omega]
                rfl
              rw [if_pos z3] at e1
              rw [e1] at e2
              cases e2
              rfl
      · rw [if_neg x3] at e2
        have ne : ∀ k : Nat, k < 4 → ¬ x = nI k := fun k hk z => x3 (by rw [z]; exact (nI_leI (b := 3) (by omega) (by omega)).mpr (by omega))
        rw [if_neg (show ¬ x = 0 from ne 0 (by omega)), if_neg (show ¬ x = 1 from ne 1 (by omega)), if_neg (show ¬ x = 2 from ne 2 (by omega)), if_neg (show ¬ x = 3 from ne 3 (by omega))] at e1
        cases e1
        cases e2
        rfl
theorem s_back {hu hu2 : Bool} {up up2 : Nat → Bool} {h : Nat} {host r r2 : Int32} (hh : isN host 2 → tN host = h) (e : hu = up h) (e1 : F_G_back hu host = (r, hu2)) (e2 : F_M_back up host = (r2, up2)) : r = r2 ∧ hu2 = up2 h ∧ ∀ j, j ≠ h → up2 j = up j := by
  unfold F_G_back at e1
  unfold F_M_back at e2
  rcases host_of host with ⟨hn, hb, hc⟩ | ⟨hn, hb, hc⟩
  · rw [hb] at e1
    rw [hc] at e2
    cases e1
    cases e2
    exact ⟨rfl, e, fun _ _ => rfl⟩
  · rw [hb] at e1
    rw [hc] at e2
    obtain rfl := hh hn
    dsimp only at e1 e2
    rw [if_neg one_ne] at e1 e2
    rw [← e] at e2
    by_cases q : hu = true
    · rw [if_pos q] at e1 e2
      cases e1
      cases e2
      exact ⟨rfl, e, fun _ _ => rfl⟩
    · rw [if_neg q] at e1 e2
      cases e1
      cases e2
      exact ⟨rfl, (va_up_self _ _ _).symm, fun j hj => va_up_ne _ _ hj⟩
theorem up_same {α : Type} (f : Nat → α) (k : Nat) : va_up f k (f k) = f := by
  funext j
  by_cases h : j = k
  · rw [h, va_up_self]
  · rw [va_up_ne _ _ h]
