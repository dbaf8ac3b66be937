theorem cpy_at {α : Type} {f g : Nat → α} {sp dp n i : Nat} (h : i < n) : va_cpy f g sp dp n (dp + i) = f (sp + i) := by
  rw [pk_cpy_in (by omega) (by omega)]
  congr 1
  omega
theorem cpy_a0 {α : Type} {f g : Nat → α} {dp n i : Nat} (h : i < n) : va_cpy f g 0 dp n (dp + i) = f i := by
  rw [cpy_at h, Nat.zero_add]
theorem cpy_00 {α : Type} {f g : Nat → α} {n i : Nat} (h : i < n) : va_cpy f g 0 0 n i = f i := by
  have := cpy_a0 (f := f) (g := g) (dp := 0) h
  rw [Nat.zero_add] at this
  exact this
theorem hs_1 {go sp hd st : Bool} (h : st = (go && sp)) (a : hd = true) (b : st = true) : F_G_holdsStopped go sp hd = (1, ()) := by
  subst a
  rw [b] at h
  unfold F_G_holdsStopped
  revert h
  cases go <;> cases sp <;> intro h <;> first | rfl | exact absurd h (by decide)
theorem hs_0 {go sp hd st : Bool} (h : st = (go && sp)) (a : ¬ (hd = true ∧ st = true)) : F_G_holdsStopped go sp hd = (0, ()) := by
  subst h
  unfold F_G_holdsStopped
  revert a
  cases hd <;> cases go <;> cases sp <;> intro a <;> first | rfl | exact absurd ⟨rfl, rfl⟩ a
theorem holder_of {hd ho : Nat → Bool} {h : Nat} (hh : h < 2) (e : ∀ h, h < 2 → hd h = ho h) : F_G_holder (hd h) (hd (1 - h)) h = (if ho 0 = true then 0 else if ho 1 = true then 1 else (-2), ()) := by
  have e0 := e 0 (by omega)
  have e1 := e 1 (by omega)
  unfold F_G_holder
  rcases (show h = 0 ∨ h = 1 by omega) with rfl | rfl
  · rw [if_pos rfl, e0, show 1 - 0 = 1 from rfl, e1]
    cases ho 0 <;> cases ho 1 <;> rfl
  · rw [if_neg (by decide), show 1 - 1 = 0 from rfl, e0, e1]
    cases ho 0 <;> cases ho 1 <;> rfl
theorem R5.not_target {taC reC ho : Nat → Bool} {go : Bool} {so : Int32} {tp rd : Bool} {h : Nat} (h5 : R5 taC reC ho go so tp rd) (hho : ho h = true) (w1 : taC (1 - tN so) = true) : 1 - tN so ≠ h := fun w2 => by
  have hg : go = true := by
    by_cases z : go = true
    · exact z
    · exact absurd w1 (by rw [h5.2.2.2.2.1 z]; decide)
  have := h5.2.2.2.2.2.2.1 hg
  rw [w2, hho] at this
  exact absurd this (by decide)
theorem R5.no_ta {taC reC ho : Nat → Bool} {go : Bool} {so : Int32} {tp rd : Bool} (h5 : R5 taC reC ho go so tp rd) (hg : ¬ go = true) : ¬ taC (1 - tN so) = true := by
  rw [h5.2.2.2.2.1 hg]
  decide
theorem R2.upd {huC hdC hoC : Nat → Bool} {b1C w1C n1C : Nat → Int32} {up ho os : Nat → Bool} {ob od on : Nat → Int32} {huD hdD hoD : Nat → Bool} {b1D w1D n1D : Nat → Int32} {up2 ho2 os2 : Nat → Bool} {ob2 od2 on2 : Nat → Int32} (a : Nat) (h : R2 huC hdC hoC b1C w1C n1C up ho os ob od on) (E : ∀ k, k ≠ a → huD k = huC k ∧ hdD k = hdC k ∧ hoD k = hoC k ∧ b1D k = b1C k ∧ w1D k = w1C k ∧ n1D k = n1C k ∧ up2 k = up k ∧ ho2 k = ho k ∧ os2 k = os k ∧ ob2 k = ob k ∧ od2 k = od k ∧ on2 k = on k) (hn : huD a = up2 a ∧ hdD a = ho2 a ∧ hoD a = os2 a ∧ b1D a = ob2 a ∧ w1D a = od2 a ∧ n1D a = on2 a ∧ isN (ob2 a) 8) : R2 huD hdD hoD b1D w1D n1D up2 ho2 os2 ob2 od2 on2 := by
  intro k hk
  by_cases e : k = a
  · rw [e]
    exact hn
  · obtain ⟨e1, e2, e3, e4, e5, e6, e7, e8, e9, e10, e11, e12⟩ := E k e
    rw [e1, e2, e3, e4, e5, e6, e7, e8, e9, e10, e11, e12]
    exact h k hk
theorem MS0.noreq {rg ip ou : Nat → Int32} {ti ni no : Int32} {rq : Bool} {rb rwd : Int32} {q q2 : Nat → Int32} (h : MS0 rg ip ou ti ni no rq rb rwd q) (n1 : isN ni 9) (n2 : isN no 41) (hq : ∀ j, j ≠ 56 → q2 j = q j) (h0 : q2 56 = 0) : MS0 rg ip ou ti ni no false rb rwd q2 := by
  obtain ⟨s1, s2, s3, s4, s5, s6, s7, s8⟩ := h
  have n1b := n1.2
  have n2b := n2.2
  refine ⟨fun j hj => ?_, ?_, ?_, fun j hj => ?_, ?_, fun j hj => ?_, h0, fun w => absurd w (by decide)⟩
  · rw [hq j (by omega)]
    exact s1 j hj
  · rw [hq 5 (by decide)]
    exact s2
  · rw [hq 6 (by decide)]
    exact s3
  · rw [hq (7 + j) (by omega)]
    exact s4 j hj
  · rw [hq 15 (by decide)]
    exact s5
  · rw [hq (16 + j) (by omega)]
    exact s6 j hj
theorem MS0.zero {rg ip ou : Nat → Int32} {rb rwd : Int32} {q : Nat → Int32} (h : ∀ j, j < 4 → rg j = 0) (hq : ∀ j, j < 60 → q j = 0) : MS0 rg ip ou 0 0 0 false rb rwd q := by
  refine ⟨fun j hj => ?_, ⟨?_, ⟨rfl, by decide⟩⟩, ?_, fun j hj => absurd hj (Nat.not_lt_zero j), ?_, fun j hj => absurd hj (Nat.not_lt_zero j), ?_, fun w => absurd w (by decide)⟩
  · rw [h j hj, hq j (by omega)]
  · rw [hq 5 (by decide)]
  · rw [hq 6 (by decide)]
  · rw [hq 15 (by decide)]
  · rw [hq 56 (by decide)]
    rfl
theorem MX.frame {rgC ipC ouC : Nat → Nat → Int32} {ctC tiC niC noC rtC : Nat → Int32} {rqC : Nat → Bool} {rbC rwdC : Nat → Int32} {k : Nat} {q q2 : Nat → Int32} (h : MX rgC ipC ouC ctC tiC niC noC rtC rqC rbC rwdC k q) (n1 : isN (niC k) 9) (n2 : isN (noC k) 41) (hq : ∀ j, j < 60 → q2 j = q j) : MX rgC ipC ouC ctC tiC niC noC rtC rqC rbC rwdC k q2 := by
  refine ⟨MS0.frame h.1 n1 n2 (fun j hj _ => hq j (by omega)), ?_, ?_⟩
  · rw [hq 4 (by omega)]
    exact h.2.1
  · rw [hq 59 (by omega)]
    exact h.2.2
theorem R8.sub {znC : Int32} {pk pm pp ps : Nat → Int32} {pw : Nat → Nat → Int32} {spC : Bool} {rgC ipC ouC : Nat → Nat → Int32} {ctC tiC niC noC rtC : Nat → Int32} {rqC : Nat → Bool} {rbC rwdC : Nat → Int32} {ho : Nat → Bool} {go : Bool} {la so pn : Int32} {ki mo po sr ld : Nat → Int32} {pk2 pm2 pp2 ps2 : Nat → Int32} {pw2 : Nat → Nat → Int32} {pn2 : Int32} {ki2 mo2 po2 sr2 ld2 : Nat → Int32} (h : R8 znC pk pm pp ps pw spC rgC ipC ouC ctC tiC niC noC rtC rqC rbC rwdC ho go la so pn ki mo po sr ld) (h9 : R9 ctC niC noC) (hso : isN so 2) (n2 : isN pn2 9) (S : ∀ j, j < tN pn2 → ∃ i, i < tN pn ∧ pk2 j = pk i ∧ pm2 j = pm i ∧ pp2 j = pp i ∧ ps2 j = ps i ∧ pw2 j = pw i ∧ ki2 j = ki i ∧ mo2 j = mo i ∧ po2 j = po i ∧ sr2 j = sr i ∧ ∀ x, x < 60 → ld2 (60 * j + x) = ld (60 * i + x)) : R8 pn2 pk2 pm2 pp2 ps2 pw2 spC rgC ipC ouC ctC tiC niC noC rtC rqC rbC rwdC ho go la so pn2 ki2 mo2 po2 sr2 ld2 := by
  refine ⟨rfl, n2, fun j hj => ?_⟩
  obtain ⟨i, hi, e1, e2, e3, e4, e5, e6, e7, e8, e9, e10⟩ := S j hj
  obtain ⟨a1, a2, a3, a4, a5, a6, a7, a8, a9, a10⟩ := h.2.2 i hi
  rw [e1, e2, e3, e4, e5, e6, e7, e8, e9]
  refine ⟨a1, a2, a3, a4, a5, a6, a7, fun w x hx => ?_, a9, fun w1 w2 w3 => ?_⟩
  · rw [e10 x (by omega)]
    exact a8 w x hx
  · obtain ⟨b1, b2⟩ := a10 w1 w2 w3
    exact ⟨b1, fun w => (b2 w).frame (h9 _ hso.2).2.1 (h9 _ hso.2).2.2 (fun x hx => e10 x hx)⟩
theorem sh_at {α : Type} {f : Nat → α} {k n j : Nat} (hk : k < n) (hj : j < n - 1) : va_cpy f f (k + 1) k (n - 1 - k) j = f (if j < k then j else j + 1) := by
  by_cases c : j < k
  · rw [if_pos c, pk_cpy_out (by omega)]
  · rw [if_neg c, pk_cpy_in (by omega) (by omega)]
    congr 1
    omega
theorem sh_lt {k n j : Nat} (hk : k < n) (hj : j < n - 1) : (if j < k then j else j + 1) < n := by
  split <;> omega
theorem shl_at {f : Nat → Int32} {k n j i : Nat} (hk : k < n) (hj : j < n - 1) (hi : i < 60) : va_cpy f f (60 * (k + 1)) (60 * k) (60 * (n - 1 - k)) (60 * j + i) = f (60 * (if j < k then j else j + 1) + i) := by
  by_cases c : j < k
  · rw [if_pos c, pk_cpy_out (by omega)]
  · rw [if_neg c, pk_cpy_in (by omega) (by omega)]
    congr 1
    omega
theorem piece_of (k pn : Int32) (nz : isN pn 9) : (¬ isN k (tN pn) ∧ F_G_isBelow k (nI (tN pn)) = (0, ()) ∧ F_M_isPiece pn k = (0, ())) ∨ (isN k (tN pn) ∧ F_G_isBelow k (nI (tN pn)) = (1, ()) ∧ F_M_isPiece pn k = (1, ())) := by
  unfold F_M_isPiece
  rcases below_of k (nI (tN pn)) (b := tN pn) rfl (by have := nz.2; omega) with ⟨gn, gb, gc⟩ | ⟨gn, gb, c0, c1⟩
  · refine Or.inl ⟨gn, gb, ?_⟩
    rcases gc with gc | ⟨gc, gd⟩
    · rw [if_pos gc]
    · rw [if_neg gc, if_pos gd]
  · refine Or.inr ⟨gn, gb, ?_⟩
    rw [if_neg c0, if_neg c1]
set_option maxHeartbeats 4000000 in
set_option maxRecDepth 100000 in
theorem S_image {n : Nat} {meC : Nat → Nat → Int32} {rgC : Nat → Nat → Int32} {ipC : Nat → Nat → Int32} {ouC : Nat → Nat → Int32} {hsC : Nat → Nat → Int32} {ctC : Nat → Int32} {tiC : Nat → Int32} {niC : Nat → Int32} {noC : Nat → Int32} {rtC : Nat → Int32} {rbC : Nat → Int32} {rwdC : Nat → Int32} {b1C : Nat → Int32} {w1C : Nat → Int32} {n1C : Nat → Int32} {rqC : Nat → Bool} {huC : Nat → Bool} {hdC : Nat → Bool} {taC : Nat → Bool} {reC : Nat → Bool} {hoC : Nat → Bool} {imC : Nat → Int32} {blC : Nat → Int32} {sgC : Nat → Int32} {srC : Nat → Int32} {wnC : Int32} {nuC : Int32} {mnC : Int32} {scC : Int32} {stC : Int32} {seC : Int32} {fpC : Int32} {znC : Int32} {goC : Bool} {spC : Bool} {pk : Nat → Int32} {pm : Nat → Int32} {pp : Nat → Int32} {ps : Nat → Int32} {pw : Nat → Nat → Int32} {im : Nat → Int32} {me : Nat → Int32} {ro : Nat → Int32} {di : Nat → Int32} {ob : Nat → Int32} {od : Nat → Int32} {on : Nat → Int32} {pg : Nat → Int32} {tm : Nat → Int32} {ts : Nat → Int32} {tr : Nat → Int32} {ki : Nat → Int32} {mo : Nat → Int32} {po : Nat → Int32} {sr : Nat → Int32} {ld : Nat → Int32} {up : Nat → Bool} {ho : Nat → Bool} {os : Nat → Bool} {st : Bool} {go : Bool} {tp : Bool} {rd : Bool} {ow : Int32} {nu : Int32} {la : Int32} {so : Int32} {se : Int32} {sl : Int32} {sp : Int32} {pn : Int32} {imv : Nat → Int32} {imw : Nat → Int32} {r r2 : Int32} {i x : Int32} (hR : RR n meC rgC ipC ouC hsC ctC tiC niC noC rtC rbC rwdC b1C w1C n1C rqC huC hdC taC reC hoC imC blC sgC srC wnC nuC mnC scC stC seC fpC znC goC spC pk pm pp ps pw im me ro di ob od on pg tm ts tr ki mo po sr ld up ho os st go tp rd ow nu la so se sl sp pn) (eG : F_G_image imC i x = (r, imv)) (eM : F_M_image im i x = (r2, imw)) : r = r2 ∧ RR n meC rgC ipC ouC hsC ctC tiC niC noC rtC rbC rwdC b1C w1C n1C rqC huC hdC taC reC hoC imv blC sgC srC wnC nuC mnC scC stC seC fpC znC goC spC pk pm pp ps pw imw me ro di ob od on pg tm ts tr ki mo po sr ld up ho os st go tp rd ow nu la so se sl sp pn := by
  have hR0 := hR
  obtain ⟨h1, h2, h3, h4, h5, h6, h7, h8, h9, h10⟩ := hR
  have ⟨a1, a2, a3, a4, a5⟩ := h1
  have ⟨g1, g2, g3, g4, g5, g6, g7, g8, g9⟩ := h3
  obtain ⟨e, f⟩ := s_image a1 eG eM
  exact ⟨e, ⟨f, a2, a3, a4, a5⟩, h2, h3, h4, h5, h6, h7, h8, h9, h10⟩
set_option maxHeartbeats 4000000 in
set_option maxRecDepth 100000 in
theorem S_back {n : Nat} {meC : Nat → Nat → Int32} {rgC : Nat → Nat → Int32} {ipC : Nat → Nat → Int32} {ouC : Nat → Nat → Int32} {hsC : Nat → Nat → Int32} {ctC : Nat → Int32} {tiC : Nat → Int32} {niC : Nat → Int32} {noC : Nat → Int32} {rtC : Nat → Int32} {rbC : Nat → Int32} {rwdC : Nat → Int32} {b1C : Nat → Int32} {w1C : Nat → Int32} {n1C : Nat → Int32} {rqC : Nat → Bool} {huC : Nat → Bool} {hdC : Nat → Bool} {taC : Nat → Bool} {reC : Nat → Bool} {hoC : Nat → Bool} {imC : Nat → Int32} {blC : Nat → Int32} {sgC : Nat → Int32} {srC : Nat → Int32} {wnC : Int32} {nuC : Int32} {mnC : Int32} {scC : Int32} {stC : Int32} {seC : Int32} {fpC : Int32} {znC : Int32} {goC : Bool} {spC : Bool} {pk : Nat → Int32} {pm : Nat → Int32} {pp : Nat → Int32} {ps : Nat → Int32} {pw : Nat → Nat → Int32} {im : Nat → Int32} {me : Nat → Int32} {ro : Nat → Int32} {di : Nat → Int32} {ob : Nat → Int32} {od : Nat → Int32} {on : Nat → Int32} {pg : Nat → Int32} {tm : Nat → Int32} {ts : Nat → Int32} {tr : Nat → Int32} {ki : Nat → Int32} {mo : Nat → Int32} {po : Nat → Int32} {sr : Nat → Int32} {ld : Nat → Int32} {up : Nat → Bool} {ho : Nat → Bool} {os : Nat → Bool} {st : Bool} {go : Bool} {tp : Bool} {rd : Bool} {ow : Int32} {nu : Int32} {la : Int32} {so : Int32} {se : Int32} {sl : Int32} {sp : Int32} {pn : Int32} {huAv : Bool} {upw : Nat → Bool} {r r2 : Int32} {h : Nat} {host : Int32}  (hR : RR n meC rgC ipC ouC hsC ctC tiC niC noC rtC rbC rwdC b1C w1C n1C rqC huC hdC taC reC hoC imC blC sgC srC wnC nuC mnC scC stC seC fpC znC goC spC pk pm pp ps pw im me ro di ob od on pg tm ts tr ki mo po sr ld up ho os st go tp rd ow nu la so se sl sp pn) (hlt : h < 2) (hh : isN host 2 → tN host = h) (eG : F_G_back (huC h) host = (r, huAv)) (eM : F_M_back up host = (r2, upw)) : r = r2 ∧ RR n meC rgC ipC ouC hsC ctC tiC niC noC rtC rbC rwdC b1C w1C n1C rqC (va_up huC h huAv) hdC taC reC hoC imC blC sgC srC wnC nuC mnC scC stC seC fpC znC goC spC pk pm pp ps pw im me ro di ob od on pg tm ts tr ki mo po sr ld upw ho os st go tp rd ow nu la so se sl sp pn := by
  have hR0 := hR
  obtain ⟨h1, h2, h3, h4, h5, h6, h7, h8, h9, h10⟩ := hR
  have ⟨a1, a2, a3, a4, a5⟩ := h1
  have ⟨g1, g2, g3, g4, g5, g6, g7, g8, g9⟩ := h3
  have ⟨u1, u2, u3, u4, u5, u6, u7⟩ := h2 h hlt
  obtain ⟨e, f, q⟩ := s_back hh u1 eG eM
  exact ⟨e, h1, R2.upd h h2 (fun k hk => ⟨va_up_ne _ _ hk, rfl, rfl, rfl, rfl, rfl, q k hk, rfl, rfl, rfl, rfl, rfl⟩) ⟨(va_up_self _ _ _).trans f, u2, u3, u4, u5, u6, u7⟩, h3, h4, h5, h6, h7, h8, h9, h10⟩
set_option maxHeartbeats 4000000 in
set_option maxRecDepth 100000 in
theorem S_disk {n : Nat} {meC : Nat → Nat → Int32} {rgC : Nat → Nat → Int32} {ipC : Nat → Nat → Int32} {ouC : Nat → Nat → Int32} {hsC : Nat → Nat → Int32} {ctC : Nat → Int32} {tiC : Nat → Int32} {niC : Nat → Int32} {noC : Nat → Int32} {rtC : Nat → Int32} {rbC : Nat → Int32} {rwdC : Nat → Int32} {b1C : Nat → Int32} {w1C : Nat → Int32} {n1C : Nat → Int32} {rqC : Nat → Bool} {huC : Nat → Bool} {hdC : Nat → Bool} {taC : Nat → Bool} {reC : Nat → Bool} {hoC : Nat → Bool} {imC : Nat → Int32} {blC : Nat → Int32} {sgC : Nat → Int32} {srC : Nat → Int32} {wnC : Int32} {nuC : Int32} {mnC : Int32} {scC : Int32} {stC : Int32} {seC : Int32} {fpC : Int32} {znC : Int32} {goC : Bool} {spC : Bool} {pk : Nat → Int32} {pm : Nat → Int32} {pp : Nat → Int32} {ps : Nat → Int32} {pw : Nat → Nat → Int32} {im : Nat → Int32} {me : Nat → Int32} {ro : Nat → Int32} {di : Nat → Int32} {ob : Nat → Int32} {od : Nat → Int32} {on : Nat → Int32} {pg : Nat → Int32} {tm : Nat → Int32} {ts : Nat → Int32} {tr : Nat → Int32} {ki : Nat → Int32} {mo : Nat → Int32} {po : Nat → Int32} {sr : Nat → Int32} {ld : Nat → Int32} {up : Nat → Bool} {ho : Nat → Bool} {os : Nat → Bool} {st : Bool} {go : Bool} {tp : Bool} {rd : Bool} {ow : Int32} {nu : Int32} {la : Int32} {so : Int32} {se : Int32} {sl : Int32} {sp : Int32} {pn : Int32} {blv : Nat → Int32} {hoAv : Bool} {rqAv : Bool} {row : Nat → Int32} {diw : Nat → Int32} {osw : Nat → Bool} {r r2 : Int32} {h : Nat} {host : Int32}  (hR : RR n meC rgC ipC ouC hsC ctC tiC niC noC rtC rbC rwdC b1C w1C n1C rqC huC hdC taC reC hoC imC blC sgC srC wnC nuC mnC scC stC seC fpC znC goC spC pk pm pp ps pw im me ro di ob od on pg tm ts tr ki mo po sr ld up ho os st go tp rd ow nu la so se sl sp pn) (hlt : h < 2) (hh : isN host 2 → tN host = h) (eG : F_G_disk nuC goC spC (huC h) (hdC h) (hoC h) (b1C h) (w1C h) (n1C h) (rqC h) blC host = (r, blv, hoAv, rqAv)) (eM : F_M_disk ro up ho di os ob od on st nu host = (r2, row, diw, osw)) : r = r2 ∧ RR n meC rgC ipC ouC hsC ctC tiC niC noC rtC rbC rwdC b1C w1C n1C (va_up rqC h rqAv) huC hdC taC reC (va_up hoC h hoAv) imC blv sgC srC wnC nuC mnC scC stC seC fpC znC goC spC pk pm pp ps pw im me row diw ob od on pg tm ts tr ki mo po sr ld up ho osw st go tp rd ow nu la so se sl sp pn := by
  have hR0 := hR
  obtain ⟨h1, h2, h3, h4, h5, h6, h7, h8, h9, h10⟩ := hR
  have ⟨a1, a2, a3, a4, a5⟩ := h1
  have ⟨g1, g2, g3, g4, g5, g6, g7, g8, g9⟩ := h3
  unfold F_G_disk at eG
  unfold F_M_disk at eM
  rcases host_of host with ⟨hn, hb, hc⟩ | ⟨hn, hb, hc⟩
  · rw [hb] at eG
    rw [hc] at eM
    cases eG
    cases eM
    refine ⟨rfl, ?_⟩
    simp only [up_same]
    exact hR0
  · rw [hb] at eG
    rw [hc] at eM
    obtain rfl := hh hn
    dsimp only at eG eM
    rw [if_neg one_ne] at eG eM
    have ⟨u1, u2, u3, u4, u5, u6, u7⟩ := h2 (tN host) hlt
    have hst : st = (goC && spC) := by rw [g1]; exact g7
    by_cases q1 : up (tN host) = true
    · rw [if_pos (u1.trans q1)] at eG
      rw [if_pos q1] at eM
      by_cases q2 : os (tN host) = true
      · rw [if_pos (u3.trans q2)] at eG
        rw [if_pos q2] at eM
        have hR2 : R2 huC hdC (va_up hoC (tN host) false) b1C w1C n1C up ho (va_up os (tN host) false) ob od on := R2.upd (tN host) h2 (fun k hk => ⟨rfl, rfl, va_up_ne _ _ hk, rfl, rfl, rfl, rfl, rfl, va_up_ne _ _ hk, rfl, rfl, rfl⟩) ⟨u1, u2, (va_up_self _ _ _).trans (va_up_self _ _ _).symm, u4, u5, u6, u7⟩
        by_cases q3 : ho (tN host) = true
        · rw [if_pos q3] at eM
          by_cases q4 : st = true
          · rw [if_pos q4] at eM
            rw [hs_1 hst (u2.trans q3) q4] at eG
            dsimp only at eG
            rw [if_neg one_ne] at eG
            cases eG
            cases eM
            refine ⟨rfl, ?_⟩
            simp only [up_same]
            exact hR0
          · rw [if_neg q4] at eM
            rw [hs_0 hst (fun z => q4 z.2)] at eG
            dsimp only at eG
            rw [if_pos rfl] at eG
            by_cases q5 : on (tN host) = nu
            · rw [if_pos (u6.trans (q5.trans a4.symm)), if_pos (u2.trans q3)] at eG
              rw [if_pos q5] at eM
              cases eG
              cases eM
              obtain ⟨m1, m2, m3, m4⟩ := h6 (tN host) hlt q3
              refine ⟨rfl, ⟨a1, by rw [a2, u4, u5], a3, a4, a5⟩, hR2, h3, h4, h5, ?_, ?_, ?_, h9, h10⟩
              · refine R6.upd (tN host) h6 (fun k hk => ⟨rfl, rfl, rfl, rfl, rfl, rfl, rfl, rfl, rfl, va_up_ne _ _ hk, rfl, rfl⟩) (fun k j hk hj => rfl) (fun k j hk hj => pk_un (by omega)) h9 (fun k hk w => w) (fun _ => ⟨m1, ?_, ?_, ?_⟩)
                · rw [va_up_self]
                  exact MS0.noreq m2 (h9 _ hlt).2.1 (h9 _ hlt).2.2 (fun j hj => pk_un (by omega)) pk_us
                · dsimp only
                  rw [pk_un (by omega)]
                  exact m3
                · dsimp only
                  rw [pk_un (by omega)]
                  exact m4
              · exact R7.keep h7 (fun w => ⟨rfl, rfl, ⟨rfl, rfl, rfl, rfl, rfl, rfl, rfl, rfl, va_up_ne _ _ (h5.not_target q3 w), rfl, rfl⟩⟩)
              · exact R8.keep h8 (fun w1 w2 _ => absurd (g7.trans (by rw [w1, w2]; rfl)) q4)
            · rw [if_neg (fun z => q5 (u6.symm.trans (z.trans a4)))] at eG
              rw [if_neg q5] at eM
              cases eG
              cases eM
              refine ⟨rfl, ?_⟩
              simp only [up_same]
              exact ⟨h1, hR2, h3, h4, h5, h6, h7, h8, h9, h10⟩
        · rw [if_neg q3] at eM
          rw [hs_0 hst (fun z => q3 (u2.symm.trans z.1))] at eG
          dsimp only at eG
          rw [if_pos rfl] at eG
          by_cases q5 : on (tN host) = nu
          · rw [if_pos (u6.trans (q5.trans a4.symm)), if_neg (fun z => q3 (u2.symm.trans z))] at eG
            rw [if_pos q5] at eM
            cases eG
            cases eM
            refine ⟨rfl, ?_⟩
            simp only [up_same]
            exact ⟨⟨a1, by rw [a2, u4, u5], a3, a4, a5⟩, hR2, h3, h4, h5, h6, h7, h8, h9, h10⟩
          · rw [if_neg (fun z => q5 (u6.symm.trans (z.trans a4)))] at eG
            rw [if_neg q5] at eM
            cases eG
            cases eM
            refine ⟨rfl, ?_⟩
            simp only [up_same]
            exact ⟨h1, hR2, h3, h4, h5, h6, h7, h8, h9, h10⟩
      · rw [if_neg (fun z => q2 (u3.symm.trans z))] at eG
        rw [if_neg q2] at eM
        cases eG
        cases eM
        refine ⟨rfl, ?_⟩
        simp only [up_same]
        exact hR0
    · rw [if_neg (fun z => q1 (u1.symm.trans z))] at eG
      rw [if_neg q1] at eM
      cases eG
      cases eM
      refine ⟨rfl, ?_⟩
      simp only [up_same]
      exact hR0
set_option maxHeartbeats 4000000 in
set_option maxRecDepth 100000 in
theorem S_create {n : Nat} {meC : Nat → Nat → Int32} {rgC : Nat → Nat → Int32} {ipC : Nat → Nat → Int32} {ouC : Nat → Nat → Int32} {hsC : Nat → Nat → Int32} {ctC : Nat → Int32} {tiC : Nat → Int32} {niC : Nat → Int32} {noC : Nat → Int32} {rtC : Nat → Int32} {rbC : Nat → Int32} {rwdC : Nat → Int32} {b1C : Nat → Int32} {w1C : Nat → Int32} {n1C : Nat → Int32} {rqC : Nat → Bool} {huC : Nat → Bool} {hdC : Nat → Bool} {taC : Nat → Bool} {reC : Nat → Bool} {hoC : Nat → Bool} {imC : Nat → Int32} {blC : Nat → Int32} {sgC : Nat → Int32} {srC : Nat → Int32} {wnC : Int32} {nuC : Int32} {mnC : Int32} {scC : Int32} {stC : Int32} {seC : Int32} {fpC : Int32} {znC : Int32} {goC : Bool} {spC : Bool} {pk : Nat → Int32} {pm : Nat → Int32} {pp : Nat → Int32} {ps : Nat → Int32} {pw : Nat → Nat → Int32} {im : Nat → Int32} {me : Nat → Int32} {ro : Nat → Int32} {di : Nat → Int32} {ob : Nat → Int32} {od : Nat → Int32} {on : Nat → Int32} {pg : Nat → Int32} {tm : Nat → Int32} {ts : Nat → Int32} {tr : Nat → Int32} {ki : Nat → Int32} {mo : Nat → Int32} {po : Nat → Int32} {sr : Nat → Int32} {ld : Nat → Int32} {up : Nat → Bool} {ho : Nat → Bool} {os : Nat → Bool} {st : Bool} {go : Bool} {tp : Bool} {rd : Bool} {ow : Int32} {nu : Int32} {la : Int32} {so : Int32} {se : Int32} {sl : Int32} {sp : Int32} {pn : Int32} {meAv : Nat → Int32} {rgAv : Nat → Int32} {ctAv : Int32} {tiAv : Int32} {niAv : Int32} {noAv : Int32} {rtAv : Int32} {rqAv : Bool} {hdAv : Bool} {wnv : Int32} {nuv : Int32} {how : Nat → Bool} {mew : Nat → Int32} {row : Nat → Int32} {oww : Int32} {nuw : Int32} {r r2 : Int32} {h : Nat} {host : Int32}  (hR : RR n meC rgC ipC ouC hsC ctC tiC niC noC rtC rbC rwdC b1C w1C n1C rqC huC hdC taC reC hoC imC blC sgC srC wnC nuC mnC scC stC seC fpC znC goC spC pk pm pp ps pw im me ro di ob od on pg tm ts tr ki mo po sr ld up ho os st go tp rd ow nu la so se sl sp pn) (hlt : h < 2) (hh : isN host 2 → tN host = h) (eG : F_G_create wnC nuC imC goC (huC h) (hdC h) (ctC h) (tiC h) (niC h) (noC h) (rtC h) (rqC h) (meC h) (rgC h) (hdC (1 - h)) host = (r, meAv, rgAv, ctAv, tiAv, niAv, noAv, rtAv, rqAv, hdAv, wnv, nuv)) (eM : F_M_create im me ro up ho ow nu go host = (r2, how, mew, row, oww, nuw)) : r = r2 ∧ RR n (va_up meC h meAv) (va_up rgC h rgAv) ipC ouC hsC (va_up ctC h ctAv) (va_up tiC h tiAv) (va_up niC h niAv) (va_up noC h noAv) (va_up rtC h rtAv) rbC rwdC b1C w1C n1C (va_up rqC h rqAv) huC (va_up hdC h hdAv) taC reC hoC imC blC sgC srC wnv nuv mnC scC stC seC fpC znC goC spC pk pm pp ps pw im mew row di ob od on pg tm ts tr ki mo po sr ld up how os st go tp rd oww nuw la so se sl sp pn := by
  have hR0 := hR
  obtain ⟨h1, h2, h3, h4, h5, h6, h7, h8, h9, h10⟩ := hR
  have ⟨a1, a2, a3, a4, a5⟩ := h1
  have ⟨g1, g2, g3, g4, g5, g6, g7, g8, g9⟩ := h3
  unfold F_G_create at eG
  unfold F_M_create at eM
  rcases host_of host with ⟨hn, hb, hc⟩ | ⟨hn, hb, hc⟩
  · rw [hb] at eG
    rw [hc] at eM
    cases eG
    cases eM
    refine ⟨rfl, ?_⟩
    simp only [up_same]
    exact hR0
  · rw [hb] at eG
    rw [hc] at eM
    obtain rfl := hh hn
    dsimp only at eG eM
    rw [if_neg one_ne] at eG eM
    have ⟨u1, u2, u3, u4, u5, u6, u7⟩ := h2 (tN host) hlt
    rw [holder_of hlt (fun k hk => (h2 k hk).2.1)] at eG
    dsimp only at eG
    by_cases q1 : up (tN host) = true
    · rw [if_pos (u1.trans q1)] at eG
      rw [if_pos q1] at eM
      by_cases z0 : ho 0 = true
      · rw [if_pos z0, if_neg (by decide)] at eG
        rw [if_pos z0] at eM
        cases eG
        cases eM
        refine ⟨rfl, ?_⟩
        simp only [up_same]
        exact hR0
      · rw [if_neg z0] at eG eM
        by_cases z1 : ho 1 = true
        · rw [if_pos z1, if_neg (by decide)] at eG
          rw [if_pos z1] at eM
          cases eG
          cases eM
          refine ⟨rfl, ?_⟩
          simp only [up_same]
          exact hR0
        · rw [if_neg z1, if_pos rfl] at eG
          rw [if_neg z1] at eM
          by_cases hg : go = true
          · rw [if_pos (g1.trans hg)] at eG
            rw [if_pos hg] at eM
            cases eG
            cases eM
            refine ⟨rfl, ?_⟩
            simp only [up_same]
            exact hR0
          · rw [if_neg (fun z => hg (g1.symm.trans z))] at eG
            rw [if_neg hg] at eM
            cases eG
            cases eM
            refine ⟨by rw [a4], ⟨a1, a2, rfl, by rw [a4], Or.inr (isN_nI hlt (by decide))⟩, R2.upd (tN host) h2 (fun k hk => ⟨rfl, va_up_ne _ _ hk, rfl, rfl, rfl, rfl, rfl, va_up_ne _ _ hk, rfl, rfl, rfl, rfl⟩) ⟨u1, (va_up_self _ _ _).trans (va_up_self _ _ _).symm, u3, u4, u5, u6, u7⟩, h3, h4, ⟨h5.1, h5.2.1, h5.2.2.1, h5.2.2.2.1, h5.2.2.2.2.1, h5.2.2.2.2.2.1, fun w => absurd w hg, fun w => absurd w hg⟩, ?_, fun w => absurd w (h5.no_ta hg), R8.keep h8 (fun w => absurd w hg), fun k hk => ?_, R10.one (tN host) (fun k hk w => by rw [va_up_ne _ _ hk] at w; rcases (show k = 0 ∨ k = 1 ∨ 1 < k by omega) with rfl | rfl | y; exact absurd w z0; exact absurd w z1; exact y)⟩
            · refine R6.upd (tN host) h6 (fun k hk => ⟨va_up_ne _ _ hk, va_up_ne _ _ hk, rfl, rfl, va_up_ne _ _ hk, va_up_ne _ _ hk, va_up_ne _ _ hk, va_up_ne _ _ hk, va_up_ne _ _ hk, va_up_ne _ _ hk, rfl, rfl⟩) (fun k j hk hj => pk_cpy_out (by omega)) (fun k j hk hj => pk_cpy_out (by omega)) h9 (fun k hk w => by rw [va_up_ne _ _ hk] at w; exact w) (fun _ => ⟨fun j hj => ?_, ?_, ?_, ?_⟩)
              · rw [va_up_self, cpy_00 hj, cpy_a0 hj, a1]
              · rw [va_up_self, va_up_self, va_up_self, va_up_self, va_up_self]
                exact MS0.zero (fun j hj => cpy_00 hj) (fun j hj => cpy_a0 hj)
              · rw [va_up_self]
                exact (cpy_a0 (f := fun _ => (0 : Int32)) (i := 4) (n := 60) (by decide)).symm
              · rw [va_up_self]
                exact (cpy_a0 (f := fun _ => (0 : Int32)) (i := 59) (n := 60) (by decide)).symm
            · by_cases w : k = tN host
              · rw [w, va_up_self, va_up_self, va_up_self]
                exact ⟨⟨rfl, by decide⟩, ⟨rfl, by decide⟩, ⟨rfl, by decide⟩⟩
              · rw [va_up_ne _ _ w, va_up_ne _ _ w, va_up_ne _ _ w]
                exact h9 k hk
    · rw [if_neg (fun z => q1 (u1.symm.trans z))] at eG
      rw [if_neg q1] at eM
      cases eG
      cases eM
      refine ⟨rfl, ?_⟩
      simp only [up_same]
      exact hR0
set_option maxHeartbeats 4000000 in
set_option maxRecDepth 100000 in
theorem S_lose {n : Nat} {meC : Nat → Nat → Int32} {rgC : Nat → Nat → Int32} {ipC : Nat → Nat → Int32} {ouC : Nat → Nat → Int32} {hsC : Nat → Nat → Int32} {ctC : Nat → Int32} {tiC : Nat → Int32} {niC : Nat → Int32} {noC : Nat → Int32} {rtC : Nat → Int32} {rbC : Nat → Int32} {rwdC : Nat → Int32} {b1C : Nat → Int32} {w1C : Nat → Int32} {n1C : Nat → Int32} {rqC : Nat → Bool} {huC : Nat → Bool} {hdC : Nat → Bool} {taC : Nat → Bool} {reC : Nat → Bool} {hoC : Nat → Bool} {imC : Nat → Int32} {blC : Nat → Int32} {sgC : Nat → Int32} {srC : Nat → Int32} {wnC : Int32} {nuC : Int32} {mnC : Int32} {scC : Int32} {stC : Int32} {seC : Int32} {fpC : Int32} {znC : Int32} {goC : Bool} {spC : Bool} {pk : Nat → Int32} {pm : Nat → Int32} {pp : Nat → Int32} {ps : Nat → Int32} {pw : Nat → Nat → Int32} {im : Nat → Int32} {me : Nat → Int32} {ro : Nat → Int32} {di : Nat → Int32} {ob : Nat → Int32} {od : Nat → Int32} {on : Nat → Int32} {pg : Nat → Int32} {tm : Nat → Int32} {ts : Nat → Int32} {tr : Nat → Int32} {ki : Nat → Int32} {mo : Nat → Int32} {po : Nat → Int32} {sr : Nat → Int32} {ld : Nat → Int32} {up : Nat → Bool} {ho : Nat → Bool} {os : Nat → Bool} {st : Bool} {go : Bool} {tp : Bool} {rd : Bool} {ow : Int32} {nu : Int32} {la : Int32} {so : Int32} {se : Int32} {sl : Int32} {sp : Int32} {pn : Int32} {znv : Int32} {pkv : Nat → Int32} {pmv : Nat → Int32} {ppv : Nat → Int32} {psv : Nat → Int32} {pwv : Nat → Nat → Int32} {kiw : Nat → Int32} {mow : Nat → Int32} {pow : Nat → Int32} {srw : Nat → Int32} {ldw : Nat → Int32} {pnw : Int32} {r r2 : Int32} {k : Int32} (hR : RR n meC rgC ipC ouC hsC ctC tiC niC noC rtC rbC rwdC b1C w1C n1C rqC huC hdC taC reC hoC imC blC sgC srC wnC nuC mnC scC stC seC fpC znC goC spC pk pm pp ps pw im me ro di ob od on pg tm ts tr ki mo po sr ld up ho os st go tp rd ow nu la so se sl sp pn) (eG : F_G_lose znC k pk pm pp ps pw = (r, znv, pkv, pmv, ppv, psv, pwv)) (eM : F_M_lose ki mo po sr ld pn k = (r2, kiw, mow, pow, srw, ldw, pnw)) : r = r2 ∧ RR n meC rgC ipC ouC hsC ctC tiC niC noC rtC rbC rwdC b1C w1C n1C rqC huC hdC taC reC hoC imC blC sgC srC wnC nuC mnC scC stC seC fpC znv goC spC pkv pmv ppv psv pwv im me ro di ob od on pg tm ts tr kiw mow pow srw ldw up ho os st go tp rd ow nu la so se sl sp pnw := by
  have hR0 := hR
  obtain ⟨h1, h2, h3, h4, h5, h6, h7, h8, h9, h10⟩ := hR
  have ⟨a1, a2, a3, a4, a5⟩ := h1
  have ⟨g1, g2, g3, g4, g5, g6, g7, g8, g9⟩ := h3
  unfold F_G_lose at eG
  unfold F_M_lose at eM
  have ⟨z1, z2, z3⟩ := h8
  rw [z1] at eG
  rcases piece_of k pn z2 with ⟨hn, hb, hc⟩ | ⟨hn, hb, hc⟩
  · rw [hb] at eG
    rw [hc] at eM
    rw [← z1] at eG
    cases eG
    cases eM
    refine ⟨rfl, ?_⟩
    exact hR0
  · rw [hb] at eG
    rw [hc] at eM
    dsimp only at eG eM
    rw [if_neg one_ne] at eG eM
    have hk := hn.2
    have z2b := z2.2
    cases eG
    cases eM
    refine ⟨(z3 _ hk).1, h1, h2, h3, h4, h5, h6, h7, R8.sub h8 h9 g6 (isN_nI (by omega) (by decide)) (fun j hj => ?_), h9, h10⟩
    rw [tN_nI (by omega)] at hj
    have hs := sh_lt hk hj
    refine ⟨_, hs, sh_at hk hj, sh_at hk hj, sh_at hk hj, sh_at hk hj, sh_at hk hj, (sh_at hk hj).trans (pk_un (by omega)), (sh_at hk hj).trans (pk_un (by omega)), (sh_at hk hj).trans (pk_un (by omega)), (sh_at hk hj).trans (pk_un (by omega)), fun x hx => (shl_at hk hj hx).trans (pk_cpy_out (by omega))⟩
set_option maxHeartbeats 4000000 in
set_option maxRecDepth 100000 in
theorem S_twice {n : Nat} {meC : Nat → Nat → Int32} {rgC : Nat → Nat → Int32} {ipC : Nat → Nat → Int32} {ouC : Nat → Nat → Int32} {hsC : Nat → Nat → Int32} {ctC : Nat → Int32} {tiC : Nat → Int32} {niC : Nat → Int32} {noC : Nat → Int32} {rtC : Nat → Int32} {rbC : Nat → Int32} {rwdC : Nat → Int32} {b1C : Nat → Int32} {w1C : Nat → Int32} {n1C : Nat → Int32} {rqC : Nat → Bool} {huC : Nat → Bool} {hdC : Nat → Bool} {taC : Nat → Bool} {reC : Nat → Bool} {hoC : Nat → Bool} {imC : Nat → Int32} {blC : Nat → Int32} {sgC : Nat → Int32} {srC : Nat → Int32} {wnC : Int32} {nuC : Int32} {mnC : Int32} {scC : Int32} {stC : Int32} {seC : Int32} {fpC : Int32} {znC : Int32} {goC : Bool} {spC : Bool} {pk : Nat → Int32} {pm : Nat → Int32} {pp : Nat → Int32} {ps : Nat → Int32} {pw : Nat → Nat → Int32} {im : Nat → Int32} {me : Nat → Int32} {ro : Nat → Int32} {di : Nat → Int32} {ob : Nat → Int32} {od : Nat → Int32} {on : Nat → Int32} {pg : Nat → Int32} {tm : Nat → Int32} {ts : Nat → Int32} {tr : Nat → Int32} {ki : Nat → Int32} {mo : Nat → Int32} {po : Nat → Int32} {sr : Nat → Int32} {ld : Nat → Int32} {up : Nat → Bool} {ho : Nat → Bool} {os : Nat → Bool} {st : Bool} {go : Bool} {tp : Bool} {rd : Bool} {ow : Int32} {nu : Int32} {la : Int32} {so : Int32} {se : Int32} {sl : Int32} {sp : Int32} {pn : Int32} {znv : Int32} {pkv : Nat → Int32} {pmv : Nat → Int32} {ppv : Nat → Int32} {psv : Nat → Int32} {pwv : Nat → Nat → Int32} {kiw : Nat → Int32} {mow : Nat → Int32} {pow : Nat → Int32} {srw : Nat → Int32} {ldw : Nat → Int32} {pnw : Int32} {r r2 : Int32} {k : Int32} (hR : RR n meC rgC ipC ouC hsC ctC tiC niC noC rtC rbC rwdC b1C w1C n1C rqC huC hdC taC reC hoC imC blC sgC srC wnC nuC mnC scC stC seC fpC znC goC spC pk pm pp ps pw im me ro di ob od on pg tm ts tr ki mo po sr ld up ho os st go tp rd ow nu la so se sl sp pn) (eG : F_G_twice znC k pk pm pp ps pw = (r, znv, pkv, pmv, ppv, psv, pwv)) (eM : F_M_twice ki mo po sr ld pn k = (r2, kiw, mow, pow, srw, ldw, pnw)) : r = r2 ∧ RR n meC rgC ipC ouC hsC ctC tiC niC noC rtC rbC rwdC b1C w1C n1C rqC huC hdC taC reC hoC imC blC sgC srC wnC nuC mnC scC stC seC fpC znv goC spC pkv pmv ppv psv pwv im me ro di ob od on pg tm ts tr kiw mow pow srw ldw up ho os st go tp rd ow nu la so se sl sp pnw := by
  have hR0 := hR
  obtain ⟨h1, h2, h3, h4, h5, h6, h7, h8, h9, h10⟩ := hR
  have ⟨a1, a2, a3, a4, a5⟩ := h1
  have ⟨g1, g2, g3, g4, g5, g6, g7, g8, g9⟩ := h3
  unfold F_G_twice at eG
  unfold F_M_twice at eM
  have ⟨z1, z2, z3⟩ := h8
  rw [z1] at eG
  rcases piece_of k pn z2 with ⟨hn, hb, hc⟩ | ⟨hn, hb, hc⟩
  · rw [hb] at eG
    rw [hc] at eM
    rw [← z1] at eG
    cases eG
    cases eM
    refine ⟨rfl, ?_⟩
    exact hR0
  · rw [hb] at eG
    rw [hc] at eM
    dsimp only at eG eM
    rw [if_neg one_ne] at eG eM
    have hk := hn.2
    have z2b := z2.2
    by_cases q8 : nI (tN pn) = 8
    · rw [if_pos q8] at eG eM
      rw [← z1] at eG
      cases eG
      cases eM
      refine ⟨rfl, ?_⟩
      exact hR0
    · rw [if_neg q8] at eG eM
      have z8 : tN pn ≠ 8 := fun w => q8 (by rw [w]; rfl)
      have n8 : ¬ 8 ≤ nI (tN pn) := fun w => by
        have := (nI_leI (a := 8) (by omega) (by omega)).mp w
        omega
      unfold addZ addI addW at eG
      rw [if_neg n8, if_neg n8, if_neg n8, if_neg n8, if_neg n8, if_neg n8] at eG
      cases eG
      cases eM
      refine ⟨by rw [tN_nI (by omega)], h1, h2, h3, h4, h5, h6, h7, R8.sub h8 h9 g6 (isN_nI (by omega) (by decide)) (fun j hj => ?_), h9, h10⟩
      rw [tN_nI (by omega)] at hj
      by_cases w : j = tN pn
      · rw [w]
        exact ⟨tN k, hk, pk_us, pk_us, pk_us, pk_us, va_up_self _ _ _, pk_us, pk_us, pk_us, pk_us, fun x hx => cpy_at hx⟩
      · exact ⟨j, by omega, pk_un w, pk_un w, pk_un w, pk_un w, va_up_ne _ _ w, pk_un w, pk_un w, pk_un w, pk_un w, fun x hx => pk_cpy_out (by omega)⟩
