theorem MS0.copy {rg ip ou : Nat → Int32} {ti ni no : Int32} {rq : Bool} {rb rwd : Int32} {q q2 rg2 ip2 ou2 : Nat → Int32} (h : MS0 rg ip ou ti ni no rq rb rwd q) (n1 : isN ni 9) (n2 : isN no 41) (h1 : ∀ j, j < 4 → rg2 j = rg j) (h2 : ∀ j, j < 8 → ip2 j = ip j) (h3 : ∀ j, j < 40 → ou2 j = ou j) (hq : ∀ j, j < 60 → q2 j = q j) : MS0 rg2 ip2 ou2 ti ni no rq rb rwd q2 := by
  have h' : MS0 rg ip ou ti ni no rq rb rwd q2 := MS0.frame h n1 n2 (fun j hj _ => hq j (by omega))
  obtain ⟨s1, s2, s3, s4, s5, s6, s7, s8⟩ := h'
  have n1b := n1.2
  have n2b := n2.2
  exact ⟨fun j hj => (h1 j hj).trans (s1 j hj), s2, s3, fun j hj => (h2 j (by omega)).trans (s4 j hj), s5, fun j hj => (h3 j (by omega)).trans (s6 j hj), s7, s8⟩
theorem pa_none {tm ts ki mo po sr ld : Nat → Int32} {la : Int32} {tp : Bool} {pn mv : Int32} {p0 : Nat} {x : Int32} (h : ¬ (tp = true ∧ mv = la)) : F_M_pageArrives tm ts ki mo po sr ld la tp pn mv p0 x = (tm, ts, ki, mo, po, sr, pn) := by
  unfold F_M_pageArrives
  by_cases a : tp = true
  · rw [if_pos a, if_neg (fun z => h ⟨a, z⟩)]
  · rw [if_neg a]
theorem sa_none {tr ki mo po sr ld : Nat → Int32} {la : Int32} {tp rd : Bool} {pn mv : Int32} (h : ¬ (tp = true ∧ mv = la)) : F_M_stateArrives tr ki mo po sr ld la tp rd pn mv = (tr, ki, mo, po, sr, rd, pn) := by
  unfold F_M_stateArrives
  by_cases a : tp = true
  · rw [if_pos a, if_neg (fun z => h ⟨a, z⟩)]
  · rw [if_neg a]
theorem mark_eq {sg sr pg : Nat → Int32} {p : Nat} {s : Int32} (h : ∀ p, p < 8 → PS (sg p) (sr p) (pg p)) (hp : p < 8) (hs : isN s 100000) : ∀ q, q < 8 → PS (F_V_markSeen sg sr p s q) (sr q) ((if pg p = s then upd pg p (-2) else pg) q) := by
  intro q hq
  unfold F_V_markSeen
  rcases h p hp with ⟨k1, k2⟩ | ⟨k1, k2, k3, k4⟩ | ⟨k1, k2⟩
  · rw [if_neg (show ¬ sg p = 1 by rw [k1]; decide), if_neg (fun z => (isN_ne hs (by decide)).1 (z.symm.trans k2))]
    exact h q hq
  · rw [if_pos k1]
    by_cases e : sr p = s
    · rw [if_pos e, if_pos (k2.trans e)]
      by_cases y : q = p
      · rw [y, pk_us, pk_us]
        exact Or.inr (Or.inr ⟨rfl, rfl⟩)
      · rw [pk_un y, pk_un y]
        exact h q hq
    · rw [if_neg e, if_neg (fun z => e (k2.symm.trans z))]
      exact h q hq
  · rw [if_neg (show ¬ sg p = 1 by rw [k1]; decide), if_neg (fun z => (isN_ne hs (by decide)).2 (z.symm.trans k2))]
    exact h q hq
theorem cpy_0d {α : Type} {f g : Nat → α} {sp n i : Nat} (h : i < n) : va_cpy f g sp 0 n i = f (sp + i) := by
  have := cpy_at (f := f) (g := g) (sp := sp) (dp := 0) h
  rw [Nat.zero_add] at this
  exact this
set_option maxHeartbeats 4000000 in
set_option maxRecDepth 100000 in
theorem S_arrive {n : Nat} {meC : Nat → Nat → Int32} {rgC : Nat → Nat → Int32} {ipC : Nat → Nat → Int32} {ouC : Nat → Nat → Int32} {hsC : Nat → Nat → Int32} {ctC : Nat → Int32} {tiC : Nat → Int32} {niC : Nat → Int32} {noC : Nat → Int32} {rtC : Nat → Int32} {rbC : Nat → Int32} {rwdC : Nat → Int32} {b1C : Nat → Int32} {w1C : Nat → Int32} {n1C : Nat → Int32} {rqC : Nat → Bool} {huC : Nat → Bool} {hdC : Nat → Bool} {taC : Nat → Bool} {reC : Nat → Bool} {hoC : Nat → Bool} {imC : Nat → Int32} {blC : Nat → Int32} {sgC : Nat → Int32} {srC : Nat → Int32} {wnC : Int32} {nuC : Int32} {mnC : Int32} {scC : Int32} {stC : Int32} {seC : Int32} {fpC : Int32} {znC : Int32} {goC : Bool} {spC : Bool} {pk : Nat → Int32} {pm : Nat → Int32} {pp : Nat → Int32} {ps : Nat → Int32} {pw : Nat → Nat → Int32} {im : Nat → Int32} {me : Nat → Int32} {ro : Nat → Int32} {di : Nat → Int32} {ob : Nat → Int32} {od : Nat → Int32} {on : Nat → Int32} {pg : Nat → Int32} {tm : Nat → Int32} {ts : Nat → Int32} {tr : Nat → Int32} {ki : Nat → Int32} {mo : Nat → Int32} {po : Nat → Int32} {sr : Nat → Int32} {ld : Nat → Int32} {up : Nat → Bool} {ho : Nat → Bool} {os : Nat → Bool} {st : Bool} {go : Bool} {tp : Bool} {rd : Bool} {ow : Int32} {nu : Int32} {la : Int32} {so : Int32} {se : Int32} {sl : Int32} {sp : Int32} {pn : Int32} {znv : Int32} {pkv : Nat → Int32} {pmv : Nat → Int32} {ppv : Nat → Int32} {psv : Nat → Int32} {pwv : Nat → Nat → Int32} {meTv : Nat → Int32} {hsTv : Nat → Int32} {rgTv : Nat → Int32} {ipTv : Nat → Int32} {ouTv : Nat → Int32} {ctTv : Int32} {tiTv : Int32} {niTv : Int32} {noTv : Int32} {rtTv : Int32} {rqTv : Bool} {rbTv : Int32} {rwdTv : Int32} {reTv : Bool} {sgv : Nat → Int32} {gov : Bool} {wnv : Int32} {nuv : Int32} {hdSv : Bool} {hdTv : Bool} {taTv : Bool} {hoTv : Bool} {b1Tv : Int32} {w1Tv : Int32} {n1Tv : Int32} {mew : Nat → Int32} {row : Nat → Int32} {how : Nat → Bool} {osw : Nat → Bool} {obw : Nat → Int32} {odw : Nat → Int32} {onw : Nat → Int32} {pgw : Nat → Int32} {tmw : Nat → Int32} {tsw : Nat → Int32} {trw : Nat → Int32} {kiw : Nat → Int32} {mow : Nat → Int32} {pow : Nat → Int32} {srw : Nat → Int32} {stw : Bool} {oww : Int32} {nuw : Int32} {gow : Bool} {tpw : Bool} {rdw : Bool} {pnw : Int32} {k1 m1 p1 s1 : Int32} {gw : Nat → Int32} (hR : RR n meC rgC ipC ouC hsC ctC tiC niC noC rtC rbC rwdC b1C w1C n1C rqC huC hdC taC reC hoC imC blC sgC srC wnC nuC mnC scC stC seC fpC znC goC spC pk pm pp ps pw im me ro di ob od on pg tm ts tr ki mo po sr ld up ho os st go tp rd ow nu la so se sl sp pn) (e1 : ki 8 = k1) (e2 : mo 8 = m1) (e3 : po 8 = p1) (e4 : sr 8 = s1) (e5 : k1 = 1 → ∀ i, i < 8 → gw i = ld (480 + i)) (hp8 : tN pn < 8) (f1 : isN p1 8) (f3 : k1 = 1 ∨ k1 = 2 ∨ k1 = 3 ∨ k1 = 4) (f5 : (k1 = 1 ∨ k1 = 3) → isN s1 100000 ∧ 1 ≤ tN s1) (f6 : k1 = 2 → go = true → m1 = la → spC = true ∧ (ho (tN so) = true → MX rgC ipC ouC ctC tiC niC noC rtC rqC rbC rwdC (tN so) (fun k => ld (480 + k)))) (eG : F_G_arrive wnC nuC goC mnC scC sgC srC (hdC (tN so)) (ctC (tN so)) (tiC (tN so)) (niC (tN so)) (noC (tN so)) (rtC (tN so)) (rqC (tN so)) (rbC (tN so)) (rwdC (tN so)) (rgC (tN so)) (ipC (tN so)) (ouC (tN so)) (hdC (1 - tN so)) (taC (1 - tN so)) (reC (1 - tN so)) (hoC (1 - tN so)) (b1C (1 - tN so)) (w1C (1 - tN so)) (n1C (1 - tN so)) (hsC (1 - tN so)) (ctC (1 - tN so)) (tiC (1 - tN so)) (niC (1 - tN so)) (noC (1 - tN so)) (rtC (1 - tN so)) (rqC (1 - tN so)) (rbC (1 - tN so)) (rwdC (1 - tN so)) (meC (1 - tN so)) (rgC (1 - tN so)) (ipC (1 - tN so)) (ouC (1 - tN so)) znC pk pm pp ps pw k1 m1 p1 s1 gw = (znv, pkv, pmv, ppv, psv, pwv, meTv, hsTv, rgTv, ipTv, ouTv, ctTv, tiTv, niTv, noTv, rtTv, rqTv, rbTv, rwdTv, reTv, sgv, gov, wnv, nuv, hdSv, hdTv, taTv, hoTv, b1Tv, w1Tv, n1Tv)) (eM : F_M_arrive me ro ho os ob od on pg tm ts tr ki mo po sr ld st ow nu go la so tp rd pn = (mew, row, how, osw, obw, odw, onw, pgw, tmw, tsw, trw, kiw, mow, pow, srw, stw, oww, nuw, gow, tpw, rdw, pnw)) : RR n (va_up meC (1 - tN so) meTv) (va_up rgC (1 - tN so) rgTv) (va_up ipC (1 - tN so) ipTv) (va_up ouC (1 - tN so) ouTv) (va_up hsC (1 - tN so) hsTv) (va_up ctC (1 - tN so) ctTv) (va_up tiC (1 - tN so) tiTv) (va_up niC (1 - tN so) niTv) (va_up noC (1 - tN so) noTv) (va_up rtC (1 - tN so) rtTv) (va_up rbC (1 - tN so) rbTv) (va_up rwdC (1 - tN so) rwdTv) (va_up b1C (1 - tN so) b1Tv) (va_up w1C (1 - tN so) w1Tv) (va_up n1C (1 - tN so) n1Tv) (va_up rqC (1 - tN so) rqTv) huC (va_up (va_up hdC (tN so) hdSv) (1 - tN so) hdTv) (va_up taC (1 - tN so) taTv) (va_up reC (1 - tN so) reTv) (va_up hoC (1 - tN so) hoTv) imC blC sgv srC wnv nuv mnC scC stC seC fpC znv gov spC pkv pmv ppv psv pwv im mew row di obw odw onw pgw tmw tsw trw kiw mow pow srw ld up how osw stw gow tpw rdw oww nuw la so se sl sp pnw := by
  have hR0 := hR
  obtain ⟨h1, h2, h3, h4, h5, h6, h7, h8, h9, h10⟩ := hR
  have ⟨a1, a2, a3, a4, a5⟩ := h1
  have ⟨g1, g2, g3, g4, g5, g6, g7, g8, g9⟩ := h3
  unfold F_G_arrive at eG
  unfold F_M_arrive at eM
  have ⟨z1, z2, z3⟩ := h8
  subst e1
  subst e2
  subst e3
  subst e4
  rw [z1] at hR0
  rw [z1, g2] at eG
  have hbs := g6.2
  have g8b := g8.2
  have htp : tp = taC (1 - tN so) := h5.2.2.1
  have hrd : rd = reC (1 - tN so) := h5.2.2.2.1
  have uS := (h2 (tN so) g6.2).2.1
  by_cases hg : go = true
  · rw [if_pos (g1.trans hg)] at eG
    rw [if_pos hg] at eM
    by_cases hm : mo 8 = la
    · rw [if_pos hm] at eG eM
      rcases f3 with kk | kk | kk | kk
      · rw [if_pos kk] at eG
        by_cases hho : ho (tN so) = true
        · rw [if_pos hho, if_pos kk] at eM
          unfold F_G_pageArrives at eG
          unfold F_M_pageArrives at eM
          by_cases t : tp = true
          · rw [if_pos (htp.symm.trans t)] at eG
            rw [if_pos t, if_pos hm] at eM
            obtain ⟨t1, t2, t3⟩ := h7 (htp.symm.trans t)
            rw [t2 _ f1.2] at eG
            by_cases c : sr 8 ≤ ts (tN (po 8))
            · rw [if_pos c] at eG eM
              rw [come_eq] at eM
              dsimp only at eG eM
              cases eG
              cases eM
              simp only [up_same]
              exact ⟨h1, h2, h3, h4, h5, h6, h7, R8.add h8 h9 g6 (fun j hj => rfl) (fun _ => ⟨isN_nI f1.2 (by decide), by rw [hm]; exact ⟨g8.1, by omega⟩, Or.inr (Or.inr (Or.inl rfl)), fun w => absurd w (by decide), fun _ => f5 (Or.inl kk), fun w => absurd w (by decide)⟩), h9, h10⟩
            · rw [if_neg c] at eG eM
              rw [come_eq] at eM
              dsimp only at eG eM
              cases eG
              cases eM
              simp only [up_same]
              refine ⟨h1, h2, h3, h4, h5, R6.upd (1 - tN so) h6 (fun k hk => ⟨va_up_ne _ _ hk, rfl, rfl, rfl, rfl, rfl, rfl, rfl, rfl, rfl, rfl, rfl⟩) (fun k j hk hj => rfl) (fun k j hk hj => rfl) h9 (fun k hk w => w) (fun w => absurd ((h5.2.2.2.2.2.2.1 hg).symm.trans w) (by decide)), fun w => ⟨fun j hj => ?_, fun p hp => ?_, t3⟩, R8.add h8 h9 g6 (fun j hj => rfl) (fun _ => ⟨isN_nI f1.2 (by decide), by rw [hm]; exact ⟨g8.1, by omega⟩, Or.inr (Or.inr (Or.inl rfl)), fun w => absurd w (by decide), fun _ => f5 (Or.inl kk), fun w => absurd w (by decide)⟩), h9, h10⟩
              · rw [va_up_self]
                by_cases y : tN (po 8) * 8 ≤ j ∧ j < tN (po 8) * 8 + 8
                · rw [pk_cpy_in y.1 y.2, pk_cpy_in (by omega) (by omega), Nat.zero_add, e5 kk _ (by omega)]
                  congr 2
                  omega
                · rw [pk_cpy_out (by omega), pk_cpy_out (by omega)]
                  exact t1 j hj
              · rw [va_up_self]
                by_cases y : p = tN (po 8)
                · rw [y, pk_us, pk_us]
                · rw [pk_un y, pk_un y]
                  exact t2 p hp
          · rw [if_neg (fun z => t (htp.trans z))] at eG
            rw [if_neg t] at eM
            dsimp only at eG eM
            cases eG
            cases eM
            simp only [up_same]
            exact hR0
        · rw [if_neg hho, if_pos kk] at eM
          unfold F_G_pageArrives at eG
          unfold F_M_pageArrives at eM
          by_cases t : tp = true
          · rw [if_pos (htp.symm.trans t)] at eG
            rw [if_pos t, if_pos hm] at eM
            obtain ⟨t1, t2, t3⟩ := h7 (htp.symm.trans t)
            rw [t2 _ f1.2] at eG
            by_cases c : sr 8 ≤ ts (tN (po 8))
            · rw [if_pos c] at eG eM
              rw [come_eq] at eM
              dsimp only at eG eM
              cases eG
              cases eM
              simp only [up_same]
              exact ⟨h1, h2, h3, h4, h5, h6, h7, R8.add h8 h9 g6 (fun j hj => rfl) (fun _ => ⟨isN_nI f1.2 (by decide), by rw [hm]; exact ⟨g8.1, by omega⟩, Or.inr (Or.inr (Or.inl rfl)), fun w => absurd w (by decide), fun _ => f5 (Or.inl kk), fun w => absurd w (by decide)⟩), h9, h10⟩
            · rw [if_neg c] at eG eM
              rw [come_eq] at eM
              dsimp only at eG eM
              cases eG
              cases eM
              simp only [up_same]
              refine ⟨h1, h2, h3, h4, h5, R6.upd (1 - tN so) h6 (fun k hk => ⟨va_up_ne _ _ hk, rfl, rfl, rfl, rfl, rfl, rfl, rfl, rfl, rfl, rfl, rfl⟩) (fun k j hk hj => rfl) (fun k j hk hj => rfl) h9 (fun k hk w => w) (fun w => absurd ((h5.2.2.2.2.2.2.1 hg).symm.trans w) (by decide)), fun w => ⟨fun j hj => ?_, fun p hp => ?_, t3⟩, R8.add h8 h9 g6 (fun j hj => rfl) (fun _ => ⟨isN_nI f1.2 (by decide), by rw [hm]; exact ⟨g8.1, by omega⟩, Or.inr (Or.inr (Or.inl rfl)), fun w => absurd w (by decide), fun _ => f5 (Or.inl kk), fun w => absurd w (by decide)⟩), h9, h10⟩
              · rw [va_up_self]
                by_cases y : tN (po 8) * 8 ≤ j ∧ j < tN (po 8) * 8 + 8
                · rw [pk_cpy_in y.1 y.2, pk_cpy_in (by omega) (by omega), Nat.zero_add, e5 kk _ (by omega)]
                  congr 2
                  omega
                · rw [pk_cpy_out (by omega), pk_cpy_out (by omega)]
                  exact t1 j hj
              · rw [va_up_self]
                by_cases y : p = tN (po 8)
                · rw [y, pk_us, pk_us]
                · rw [pk_un y, pk_un y]
                  exact t2 p hp
          · rw [if_neg (fun z => t (htp.trans z))] at eG
            rw [if_neg t] at eM
            dsimp only at eG eM
            cases eG
            cases eM
            simp only [up_same]
            exact hR0
      · rw [if_neg (by rw [kk]; decide), if_pos kk] at eG
        by_cases hho : ho (tN so) = true
        · rw [if_pos hho, if_neg (by rw [kk]; decide), if_pos kk] at eM
          unfold F_G_stateArrives at eG
          unfold F_M_stateArrives at eM
          by_cases t : tp = true
          · rw [if_pos (htp.symm.trans t)] at eG
            rw [if_pos t, if_pos hm] at eM
            obtain ⟨t1, t2, t3⟩ := h7 (htp.symm.trans t)
            by_cases w : rd = true
            · rw [if_pos (hrd.symm.trans w)] at eG
              rw [if_pos w, come_eq] at eM
              dsimp only at eG eM
              subst w
              cases eG
              cases eM
              simp only [up_same]
              exact ⟨h1, h2, h3, h4, h5, h6, h7, R8.add h8 h9 g6 (fun j hj => rfl) (fun _ => ⟨⟨rfl, by decide⟩, by rw [hm]; exact ⟨g8.1, by omega⟩, Or.inr (Or.inr (Or.inr rfl)), fun w => absurd w (by decide), fun w => by rcases w with w | w <;> exact absurd w (by decide), fun w => absurd w (by decide)⟩), h9, h10⟩
            · rw [if_neg (fun z => w (hrd.trans z))] at eG
              rw [if_neg w, come_eq] at eM
              dsimp only at eG eM
              cases eG
              cases eM
              have hho2 : ho (tN so) = true := by
                cases y : ho (tN so) with
                | true => rfl
                | false => exact absurd (hrd.trans (h5.2.2.2.2.2.2.2 hg y)) w
              obtain ⟨x1, x2⟩ := f6 kk hg hm
              obtain ⟨y1, y2, y3⟩ := x2 hho2
              obtain ⟨o1, o2, o3⟩ := h9 (tN so) g6.2
              simp only [up_same]
              refine ⟨h1, h2, h3, h4, R5.mk h5.1 ((va_up_ne _ _ (by omega : tN so ≠ (1 - tN so))).trans h5.2.1) htp.symm (va_up_self _ _ _) (fun z => absurd hg z) (fun _ => t) h5.2.2.2.2.2.2.1 (fun _ _ => rfl), R6.upd (1 - tN so) h6 (fun k hk => ⟨rfl, va_up_ne _ _ hk, va_up_ne _ _ hk, va_up_ne _ _ hk, va_up_ne _ _ hk, va_up_ne _ _ hk, va_up_ne _ _ hk, va_up_ne _ _ hk, va_up_ne _ _ hk, va_up_ne _ _ hk, va_up_ne _ _ hk, va_up_ne _ _ hk⟩) (fun k j hk hj => rfl) (fun k j hk hj => rfl) h9 (fun k hk w => w) (fun w => absurd ((h5.2.2.2.2.2.2.1 hg).symm.trans w) (by decide)), fun _ => ⟨t1, t2, fun _ => ⟨?_, ?_, ?_⟩⟩, R8.add (R8.keep h8 (fun _ _ z => ⟨z, ⟨va_up_ne _ _ (by omega : tN so ≠ (1 - tN so)), va_up_ne _ _ (by omega : tN so ≠ (1 - tN so)), va_up_ne _ _ (by omega : tN so ≠ (1 - tN so)), va_up_ne _ _ (by omega : tN so ≠ (1 - tN so)), va_up_ne _ _ (by omega : tN so ≠ (1 - tN so)), va_up_ne _ _ (by omega : tN so ≠ (1 - tN so)), va_up_ne _ _ (by omega : tN so ≠ (1 - tN so)), va_up_ne _ _ (by omega : tN so ≠ (1 - tN so)), va_up_ne _ _ (by omega : tN so ≠ (1 - tN so)), va_up_ne _ _ (by omega : tN so ≠ (1 - tN so)), va_up_ne _ _ (by omega : tN so ≠ (1 - tN so))⟩⟩)) ?_ g6 (fun j hj => rfl) (fun _ => ⟨⟨rfl, by decide⟩, by rw [hm]; exact ⟨g8.1, by omega⟩, Or.inr (Or.inr (Or.inr rfl)), fun w => absurd w (by decide), fun w => by rcases w with w | w <;> exact absurd w (by decide), fun w => absurd w (by decide)⟩), ?_, h10⟩
              · rw [va_up_self, va_up_self, va_up_self, va_up_self, va_up_self, va_up_self, va_up_self, va_up_self, va_up_self]
                exact MS0.copy y1 o2 o3 (fun j hj => cpy_00 hj) (fun j hj => cpy_00 hj) (fun j hj => cpy_00 hj) (fun j hj => cpy_0d hj)
              · rw [va_up_self, cpy_0d (by decide)]
                exact y2
              · rw [va_up_self, cpy_0d (by decide)]
                exact y3
              all_goals
                intro k hk
                by_cases y : k = (1 - tN so)
                · rw [y, va_up_self, va_up_self, va_up_self]
                  exact ⟨o1, o2, o3⟩
                · rw [va_up_ne _ _ y, va_up_ne _ _ y, va_up_ne _ _ y]
                  exact h9 k hk
          · rw [if_neg (fun z => t (htp.trans z))] at eG
            rw [if_neg t] at eM
            dsimp only at eG eM
            cases eG
            cases eM
            simp only [up_same]
            exact hR0
        · rw [if_neg hho, if_neg (by rw [kk]; decide), if_pos kk] at eM
          unfold F_G_stateArrives at eG
          unfold F_M_stateArrives at eM
          by_cases t : tp = true
          · rw [if_pos (htp.symm.trans t)] at eG
            rw [if_pos t, if_pos hm] at eM
            obtain ⟨t1, t2, t3⟩ := h7 (htp.symm.trans t)
            by_cases w : rd = true
            · rw [if_pos (hrd.symm.trans w)] at eG
              rw [if_pos w, come_eq] at eM
              dsimp only at eG eM
              subst w
              cases eG
              cases eM
              simp only [up_same]
              exact ⟨h1, h2, h3, h4, h5, h6, h7, R8.add h8 h9 g6 (fun j hj => rfl) (fun _ => ⟨⟨rfl, by decide⟩, by rw [hm]; exact ⟨g8.1, by omega⟩, Or.inr (Or.inr (Or.inr rfl)), fun w => absurd w (by decide), fun w => by rcases w with w | w <;> exact absurd w (by decide), fun w => absurd w (by decide)⟩), h9, h10⟩
            · rw [if_neg (fun z => w (hrd.trans z))] at eG
              rw [if_neg w, come_eq] at eM
              dsimp only at eG eM
              cases eG
              cases eM
              have hho2 : ho (tN so) = true := by
                cases y : ho (tN so) with
                | true => rfl
                | false => exact absurd (hrd.trans (h5.2.2.2.2.2.2.2 hg y)) w
              obtain ⟨x1, x2⟩ := f6 kk hg hm
              obtain ⟨y1, y2, y3⟩ := x2 hho2
              obtain ⟨o1, o2, o3⟩ := h9 (tN so) g6.2
              simp only [up_same]
              refine ⟨h1, h2, h3, h4, R5.mk h5.1 ((va_up_ne _ _ (by omega : tN so ≠ (1 - tN so))).trans h5.2.1) htp.symm (va_up_self _ _ _) (fun z => absurd hg z) (fun _ => t) h5.2.2.2.2.2.2.1 (fun _ _ => rfl), R6.upd (1 - tN so) h6 (fun k hk => ⟨rfl, va_up_ne _ _ hk, va_up_ne _ _ hk, va_up_ne _ _ hk, va_up_ne _ _ hk, va_up_ne _ _ hk, va_up_ne _ _ hk, va_up_ne _ _ hk, va_up_ne _ _ hk, va_up_ne _ _ hk, va_up_ne _ _ hk, va_up_ne _ _ hk⟩) (fun k j hk hj => rfl) (fun k j hk hj => rfl) h9 (fun k hk w => w) (fun w => absurd ((h5.2.2.2.2.2.2.1 hg).symm.trans w) (by decide)), fun _ => ⟨t1, t2, fun _ => ⟨?_, ?_, ?_⟩⟩, R8.add (R8.keep h8 (fun _ _ z => ⟨z, ⟨va_up_ne _ _ (by omega : tN so ≠ (1 - tN so)), va_up_ne _ _ (by omega : tN so ≠ (1 - tN so)), va_up_ne _ _ (by omega : tN so ≠ (1 - tN so)), va_up_ne _ _ (by omega : tN so ≠ (1 - tN so)), va_up_ne _ _ (by omega : tN so ≠ (1 - tN so)), va_up_ne _ _ (by omega : tN so ≠ (1 - tN so)), va_up_ne _ _ (by omega : tN so ≠ (1 - tN so)), va_up_ne _ _ (by omega : tN so ≠ (1 - tN so)), va_up_ne _ _ (by omega : tN so ≠ (1 - tN so)), va_up_ne _ _ (by omega : tN so ≠ (1 - tN so)), va_up_ne _ _ (by omega : tN so ≠ (1 - tN so))⟩⟩)) ?_ g6 (fun j hj => rfl) (fun _ => ⟨⟨rfl, by decide⟩, by rw [hm]; exact ⟨g8.1, by omega⟩, Or.inr (Or.inr (Or.inr rfl)), fun w => absurd w (by decide), fun w => by rcases w with w | w <;> exact absurd w (by decide), fun w => absurd w (by decide)⟩), ?_, h10⟩
              · rw [va_up_self, va_up_self, va_up_self, va_up_self, va_up_self, va_up_self, va_up_self, va_up_self, va_up_self]
                exact MS0.copy y1 o2 o3 (fun j hj => cpy_00 hj) (fun j hj => cpy_00 hj) (fun j hj => cpy_00 hj) (fun j hj => cpy_0d hj)
              · rw [va_up_self, cpy_0d (by decide)]
                exact y2
              · rw [va_up_self, cpy_0d (by decide)]
                exact y3
              all_goals
                intro k hk
                by_cases y : k = (1 - tN so)
                · rw [y, va_up_self, va_up_self, va_up_self]
                  exact ⟨o1, o2, o3⟩
                · rw [va_up_ne _ _ y, va_up_ne _ _ y, va_up_ne _ _ y]
                  exact h9 k hk
          · rw [if_neg (fun z => t (htp.trans z))] at eG
            rw [if_neg t] at eM
            dsimp only at eG eM
            cases eG
            cases eM
            simp only [up_same]
            exact hR0
      · rw [if_neg (by rw [kk]; decide), if_neg (by rw [kk]; decide), if_pos kk] at eG
        by_cases hho : ho (tN so) = true
        · rw [if_pos hho, if_neg (by rw [kk]; decide), if_neg (by rw [kk]; decide), if_pos kk] at eM
          rw [if_pos (uS.trans hho)] at eG
          dsimp only at eG
          have hM := mark_eq (h4.2.2 hg).2 f1.2 (f5 (Or.inr kk)).1
          by_cases c : pg (tN (po 8)) = sr 8
          · rw [if_pos c] at eM
            simp only [if_pos c] at hM
            cases eG
            cases eM
            simp only [up_same]
            exact ⟨h1, h2, h3, ⟨h4.1, h4.2.1, fun _ => ⟨(h4.2.2 hg).1, hM⟩⟩, h5, h6, h7, z1 ▸ h8, h9, h10⟩
          · rw [if_neg c] at eM
            simp only [if_neg c] at hM
            cases eG
            cases eM
            simp only [up_same]
            exact ⟨h1, h2, h3, ⟨h4.1, h4.2.1, fun _ => ⟨(h4.2.2 hg).1, hM⟩⟩, h5, h6, h7, z1 ▸ h8, h9, h10⟩
        · rw [if_neg hho, if_neg (by rw [kk]; decide), if_neg (by rw [kk]; decide), if_pos kk] at eM
          rw [if_neg (fun z => hho (uS.symm.trans z))] at eG
          cases eG
          cases eM
          simp only [up_same]
          exact hR0
      · rw [if_neg (by rw [kk]; decide), if_neg (by rw [kk]; decide), if_neg (by rw [kk]; decide), if_pos kk] at eG
        by_cases hho : ho (tN so) = true
        · rw [if_pos hho, if_neg (by rw [kk]; decide), if_neg (by rw [kk]; decide), if_neg (by rw [kk]; decide)] at eM
          rw [if_pos (uS.trans hho)] at eG
          by_cases w : rd = true
          · rw [if_pos (hrd.symm.trans w)] at eG
            rw [if_pos w] at eM
            rcases hG : F_G_handOver nuC scC (hoC (1 - tN so)) (b1C (1 - tN so)) (w1C (1 - tN so)) (n1C (1 - tN so)) (rqC (1 - tN so)) (rbC (1 - tN so)) (rwdC (1 - tN so)) with ⟨v1, v2, v3, v4, v5, v6, v7, v8, v9, v10, v11⟩
            rcases hM : F_M_handOver me ro ho os ob od on tm tr nu so with ⟨x1, x2, x3, x4, x5, x6, x7, x8, x9, x10, x11, x12, x13⟩
            rw [hG] at eG
            rw [hM] at eM
            cases eG
            cases eM
            simp only [up_same]
            exact S_handOver hR0 (h5.2.2.2.2.2.1 (hrd.symm.trans w)) (hrd.symm.trans w) hG hM
          · rw [if_neg (fun z => w (hrd.trans z))] at eG
            rw [if_neg w] at eM
            cases eG
            cases eM
            simp only [up_same]
            exact hR0
        · rw [if_neg hho, if_neg (by rw [kk]; decide), if_neg (by rw [kk]; decide), if_neg (by rw [kk]; decide)] at eM
          rw [if_neg (fun z => hho (uS.symm.trans z))] at eG
          cases eG
          cases eM
          simp only [up_same]
          exact hR0
    · rw [if_neg hm] at eG eM
      have hnone : ¬ (tp = true ∧ mo 8 = la) := fun z => hm z.2
      by_cases k1 : ki 8 = 1
      · rw [if_pos k1, pa_none hnone] at eM
        cases eG
        cases eM
        simp only [up_same]
        exact hR0
      · rw [if_neg k1] at eM
        by_cases k2 : ki 8 = 2
        · rw [if_pos k2, sa_none hnone] at eM
          cases eG
          cases eM
          simp only [up_same]
          exact hR0
        · rw [if_neg k2] at eM
          by_cases k3 : ki 8 = 3
          · rw [if_pos k3] at eM
            cases eG
            cases eM
            simp only [up_same]
            exact hR0
          · rw [if_neg k3] at eM
            cases eG
            cases eM
            simp only [up_same]
            exact hR0
  · rw [if_neg (fun z => hg (g1.symm.trans z))] at eG
    rw [if_neg hg] at eM
    have hnone : ¬ (tp = true ∧ mo 8 = la) := fun z => h5.no_ta hg (htp.symm.trans z.1)
    by_cases k1 : ki 8 = 1
    · rw [if_pos k1, pa_none hnone] at eM
      cases eG
      cases eM
      simp only [up_same]
      exact hR0
    · rw [if_neg k1] at eM
      by_cases k2 : ki 8 = 2
      · rw [if_pos k2, sa_none hnone] at eM
        cases eG
        cases eM
        simp only [up_same]
        exact hR0
      · rw [if_neg k2] at eM
        by_cases k3 : ki 8 = 3
        · rw [if_pos k3] at eM
          cases eG
          cases eM
          simp only [up_same]
          exact hR0
        · rw [if_neg k3] at eM
          cases eG
          cases eM
          simp only [up_same]
          exact hR0
set_option maxHeartbeats 4000000 in
set_option maxRecDepth 100000 in
theorem S_deliver {n : Nat} {meC : Nat → Nat → Int32} {rgC : Nat → Nat → Int32} {ipC : Nat → Nat → Int32} {ouC : Nat → Nat → Int32} {hsC : Nat → Nat → Int32} {ctC : Nat → Int32} {tiC : Nat → Int32} {niC : Nat → Int32} {noC : Nat → Int32} {rtC : Nat → Int32} {rbC : Nat → Int32} {rwdC : Nat → Int32} {b1C : Nat → Int32} {w1C : Nat → Int32} {n1C : Nat → Int32} {rqC : Nat → Bool} {huC : Nat → Bool} {hdC : Nat → Bool} {taC : Nat → Bool} {reC : Nat → Bool} {hoC : Nat → Bool} {imC : Nat → Int32} {blC : Nat → Int32} {sgC : Nat → Int32} {srC : Nat → Int32} {wnC : Int32} {nuC : Int32} {mnC : Int32} {scC : Int32} {stC : Int32} {seC : Int32} {fpC : Int32} {znC : Int32} {goC : Bool} {spC : Bool} {pk : Nat → Int32} {pm : Nat → Int32} {pp : Nat → Int32} {ps : Nat → Int32} {pw : Nat → Nat → Int32} {im : Nat → Int32} {me : Nat → Int32} {ro : Nat → Int32} {di : Nat → Int32} {ob : Nat → Int32} {od : Nat → Int32} {on : Nat → Int32} {pg : Nat → Int32} {tm : Nat → Int32} {ts : Nat → Int32} {tr : Nat → Int32} {ki : Nat → Int32} {mo : Nat → Int32} {po : Nat → Int32} {sr : Nat → Int32} {ld : Nat → Int32} {up : Nat → Bool} {ho : Nat → Bool} {os : Nat → Bool} {st : Bool} {go : Bool} {tp : Bool} {rd : Bool} {ow : Int32} {nu : Int32} {la : Int32} {so : Int32} {se : Int32} {sl : Int32} {sp : Int32} {pn : Int32} {znv : Int32} {pkv : Nat → Int32} {pmv : Nat → Int32} {ppv : Nat → Int32} {psv : Nat → Int32} {pwv : Nat → Nat → Int32} {meTv : Nat → Int32} {hsTv : Nat → Int32} {rgTv : Nat → Int32} {ipTv : Nat → Int32} {ouTv : Nat → Int32} {ctTv : Int32} {tiTv : Int32} {niTv : Int32} {noTv : Int32} {rtTv : Int32} {rqTv : Bool} {rbTv : Int32} {rwdTv : Int32} {reTv : Bool} {sgv : Nat → Int32} {gov : Bool} {wnv : Int32} {nuv : Int32} {hdSv : Bool} {hdTv : Bool} {taTv : Bool} {hoTv : Bool} {b1Tv : Int32} {w1Tv : Int32} {n1Tv : Int32} {mew : Nat → Int32} {row : Nat → Int32} {how : Nat → Bool} {osw : Nat → Bool} {obw : Nat → Int32} {odw : Nat → Int32} {onw : Nat → Int32} {pgw : Nat → Int32} {tmw : Nat → Int32} {tsw : Nat → Int32} {trw : Nat → Int32} {kiw : Nat → Int32} {mow : Nat → Int32} {pow : Nat → Int32} {srw : Nat → Int32} {ldw : Nat → Int32} {stw : Bool} {oww : Int32} {nuw : Int32} {gow : Bool} {tpw : Bool} {rdw : Bool} {pnw : Int32} {r r2 : Int32} {k : Int32} (hR : RR n meC rgC ipC ouC hsC ctC tiC niC noC rtC rbC rwdC b1C w1C n1C rqC huC hdC taC reC hoC imC blC sgC srC wnC nuC mnC scC stC seC fpC znC goC spC pk pm pp ps pw im me ro di ob od on pg tm ts tr ki mo po sr ld up ho os st go tp rd ow nu la so se sl sp pn) (eG : F_G_deliver wnC nuC goC mnC scC sgC srC (hdC (tN so)) (ctC (tN so)) (tiC (tN so)) (niC (tN so)) (noC (tN so)) (rtC (tN so)) (rqC (tN so)) (rbC (tN so)) (rwdC (tN so)) (rgC (tN so)) (ipC (tN so)) (ouC (tN so)) (hdC (1 - tN so)) (taC (1 - tN so)) (reC (1 - tN so)) (hoC (1 - tN so)) (b1C (1 - tN so)) (w1C (1 - tN so)) (n1C (1 - tN so)) (hsC (1 - tN so)) (ctC (1 - tN so)) (tiC (1 - tN so)) (niC (1 - tN so)) (noC (1 - tN so)) (rtC (1 - tN so)) (rqC (1 - tN so)) (rbC (1 - tN so)) (rwdC (1 - tN so)) (meC (1 - tN so)) (rgC (1 - tN so)) (ipC (1 - tN so)) (ouC (1 - tN so)) znC k pk pm pp ps pw = (r, znv, pkv, pmv, ppv, psv, pwv, meTv, hsTv, rgTv, ipTv, ouTv, ctTv, tiTv, niTv, noTv, rtTv, rqTv, rbTv, rwdTv, reTv, sgv, gov, wnv, nuv, hdSv, hdTv, taTv, hoTv, b1Tv, w1Tv, n1Tv)) (eM : F_M_deliver me ro ho os ob od on pg tm ts tr ki mo po sr ld st ow nu go la so tp rd pn k = (r2, mew, row, how, osw, obw, odw, onw, pgw, tmw, tsw, trw, kiw, mow, pow, srw, ldw, stw, oww, nuw, gow, tpw, rdw, pnw)) : r = r2 ∧ RR n (va_up meC (1 - tN so) meTv) (va_up rgC (1 - tN so) rgTv) (va_up ipC (1 - tN so) ipTv) (va_up ouC (1 - tN so) ouTv) (va_up hsC (1 - tN so) hsTv) (va_up ctC (1 - tN so) ctTv) (va_up tiC (1 - tN so) tiTv) (va_up niC (1 - tN so) niTv) (va_up noC (1 - tN so) noTv) (va_up rtC (1 - tN so) rtTv) (va_up rbC (1 - tN so) rbTv) (va_up rwdC (1 - tN so) rwdTv) (va_up b1C (1 - tN so) b1Tv) (va_up w1C (1 - tN so) w1Tv) (va_up n1C (1 - tN so) n1Tv) (va_up rqC (1 - tN so) rqTv) huC (va_up (va_up hdC (tN so) hdSv) (1 - tN so) hdTv) (va_up taC (1 - tN so) taTv) (va_up reC (1 - tN so) reTv) (va_up hoC (1 - tN so) hoTv) imC blC sgv srC wnv nuv mnC scC stC seC fpC znv gov spC pkv pmv ppv psv pwv im mew row di obw odw onw pgw tmw tsw trw kiw mow pow srw ldw up how osw stw gow tpw rdw oww nuw la so se sl sp pnw := by
  have hR0 := hR
  obtain ⟨h1, h2, h3, h4, h5, h6, h7, h8, h9, h10⟩ := hR
  have ⟨a1, a2, a3, a4, a5⟩ := h1
  have ⟨g1, g2, g3, g4, g5, g6, g7, g8, g9⟩ := h3
  unfold F_G_deliver at eG
  unfold F_M_deliver at eM
  have ⟨z1, z2, z3⟩ := h8
  rw [z1] at eG hR0
  rcases piece_of k pn z2 with ⟨hn, hb, hc⟩ | ⟨hn, hb, hc⟩
  · rw [hb] at eG
    rw [hc] at eM
    cases eG
    cases eM
    refine ⟨rfl, ?_⟩
    simp only [up_same]
    exact hR0
  · rw [hb] at eG
    rw [hc] at eM
    have hk := hn.2
    have z2b := z2.2
    obtain ⟨b1, b2, b3, b4, b5, b6, b7, b8, b9, b10⟩ := z3 _ hk
    have hR1 : RR n meC rgC ipC ouC hsC ctC tiC niC noC rtC rbC rwdC b1C w1C n1C rqC huC hdC taC reC hoC imC blC sgC srC wnC nuC mnC scC stC seC fpC (nI (tN pn - 1)) goC spC (va_cpy pk pk (tN k + 1) (tN k) (tN pn - 1 - tN k)) (va_cpy pm pm (tN k + 1) (tN k) (tN pn - 1 - tN k)) (va_cpy pp pp (tN k + 1) (tN k) (tN pn - 1 - tN k)) (va_cpy ps ps (tN k + 1) (tN k) (tN pn - 1 - tN k)) (va_cpy pw pw (tN k + 1) (tN k) (tN pn - 1 - tN k)) im me ro di ob od on pg tm ts tr (va_cpy (upd ki 8 (ki (tN k))) (upd ki 8 (ki (tN k))) (tN k + 1) (tN k) (tN pn - 1 - tN k)) (va_cpy (upd mo 8 (mo (tN k))) (upd mo 8 (mo (tN k))) (tN k + 1) (tN k) (tN pn - 1 - tN k)) (va_cpy (upd po 8 (po (tN k))) (upd po 8 (po (tN k))) (tN k + 1) (tN k) (tN pn - 1 - tN k)) (va_cpy (upd sr 8 (sr (tN k))) (upd sr 8 (sr (tN k))) (tN k + 1) (tN k) (tN pn - 1 - tN k)) (va_cpy (va_cpy ld ld (60 * tN k) (60 * 8) 60) (va_cpy ld ld (60 * tN k) (60 * 8) 60) (60 * (tN k + 1)) (60 * tN k) (60 * (tN pn - 1 - tN k))) up ho os st go tp rd ow nu la so se sl sp (nI (tN pn - 1)) := by
      refine ⟨h1, h2, h3, h4, h5, h6, h7, R8.sub h8 h9 g6 (isN_nI (by omega) (by decide)) (fun j hj => ?_), h9, h10⟩
      rw [tN_nI (by omega)] at hj
      have hs := sh_lt hk hj
      exact ⟨_, hs, sh_at hk hj, sh_at hk hj, sh_at hk hj, sh_at hk hj, sh_at hk hj, (sh_at hk hj).trans (pk_un (by omega)), (sh_at hk hj).trans (pk_un (by omega)), (sh_at hk hj).trans (pk_un (by omega)), (sh_at hk hj).trans (pk_un (by omega)), fun x hx => (shl_at hk hj hx).trans (pk_cpy_out (by omega))⟩
    have hl : ∀ i, i < 60 → (va_cpy (va_cpy ld ld (60 * tN k) (60 * 8) 60) (va_cpy ld ld (60 * tN k) (60 * 8) 60) (60 * (tN k + 1)) (60 * tN k) (60 * (tN pn - 1 - tN k))) (480 + i) = ld (60 * tN k + i) := fun i hi => (pk_cpy_out (by omega)).trans (cpy_at (dp := 60 * 8) hi)
    rcases hG : F_G_arrive wnC nuC goC mnC scC sgC srC (hdC (tN so)) (ctC (tN so)) (tiC (tN so)) (niC (tN so)) (noC (tN so)) (rtC (tN so)) (rqC (tN so)) (rbC (tN so)) (rwdC (tN so)) (rgC (tN so)) (ipC (tN so)) (ouC (tN so)) (hdC (1 - tN so)) (taC (1 - tN so)) (reC (1 - tN so)) (hoC (1 - tN so)) (b1C (1 - tN so)) (w1C (1 - tN so)) (n1C (1 - tN so)) (hsC (1 - tN so)) (ctC (1 - tN so)) (tiC (1 - tN so)) (niC (1 - tN so)) (noC (1 - tN so)) (rtC (1 - tN so)) (rqC (1 - tN so)) (rbC (1 - tN so)) (rwdC (1 - tN so)) (meC (1 - tN so)) (rgC (1 - tN so)) (ipC (1 - tN so)) (ouC (1 - tN so)) (nI (tN pn - 1)) (va_cpy pk pk (tN k + 1) (tN k) (tN pn - 1 - tN k)) (va_cpy pm pm (tN k + 1) (tN k) (tN pn - 1 - tN k)) (va_cpy pp pp (tN k + 1) (tN k) (tN pn - 1 - tN k)) (va_cpy ps ps (tN k + 1) (tN k) (tN pn - 1 - tN k)) (va_cpy pw pw (tN k + 1) (tN k) (tN pn - 1 - tN k)) (pk (tN k)) (pm (tN k)) (pp (tN k)) (ps (tN k)) (pw (tN k)) with ⟨v0, v1, v2, v3, v4, v5, v6, v7, v8, v9, v10, v11, v12, v13, v14, v15, v16, v17, v18, v19, v20, v21, v22, v23, v24, v25, v26, v27, v28, v29, v30⟩
    rcases hM : F_M_arrive me ro ho os ob od on pg tm ts tr (va_cpy (upd ki 8 (ki (tN k))) (upd ki 8 (ki (tN k))) (tN k + 1) (tN k) (tN pn - 1 - tN k)) (va_cpy (upd mo 8 (mo (tN k))) (upd mo 8 (mo (tN k))) (tN k + 1) (tN k) (tN pn - 1 - tN k)) (va_cpy (upd po 8 (po (tN k))) (upd po 8 (po (tN k))) (tN k + 1) (tN k) (tN pn - 1 - tN k)) (va_cpy (upd sr 8 (sr (tN k))) (upd sr 8 (sr (tN k))) (tN k + 1) (tN k) (tN pn - 1 - tN k)) (va_cpy (va_cpy ld ld (60 * tN k) (60 * 8) 60) (va_cpy ld ld (60 * tN k) (60 * 8) 60) (60 * (tN k + 1)) (60 * tN k) (60 * (tN pn - 1 - tN k))) st ow nu go la so tp rd (nI (tN pn - 1)) with ⟨x0, x1, x2, x3, x4, x5, x6, x7, x8, x9, x10, x11, x12, x13, x14, x15, x16, x17, x18, x19, x20, x21⟩
    have H := S_arrive hR1 ((pk_cpy_out (by omega)).trans (pk_us.trans b1.symm)) ((pk_cpy_out (by omega)).trans (pk_us.trans b2.symm)) ((pk_cpy_out (by omega)).trans (pk_us.trans b3.symm)) ((pk_cpy_out (by omega)).trans (pk_us.trans b4.symm)) (fun w i hi => (b8 (b1.symm.trans w) i hi).trans (hl i (by omega)).symm) (by rw [tN_nI (by omega)]; omega) (by rw [b3]; exact b5) (by rw [b1]; exact b7) (by rw [b1, b4]; exact b9) (fun w1 w2 w3 => by
      obtain ⟨y1, y2⟩ := b10 (b1.symm.trans w1) w2 (b2.symm.trans w3)
      exact ⟨y1, fun w => (y2 w).frame (h9 _ g6.2).2.1 (h9 _ g6.2).2.2 hl⟩) hG hM
    dsimp only at eG eM
    rw [if_neg one_ne] at eG eM
    simp only [hG] at eG
    simp only [hM] at eM
    cases eG
    cases eM
    exact ⟨b1, H⟩
