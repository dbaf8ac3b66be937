/-! The relation, and the methods that only read. -/
def MX (rgC ipC ouC : Nat → Nat → Int32) (ctC tiC niC noC rtC : Nat → Int32) (rqC : Nat → Bool) (rbC rwdC : Nat → Int32) (h : Nat) (q : Nat → Int32) : Prop :=
  MS0 (rgC h) (ipC h) (ouC h) (tiC h) (niC h) (noC h) (rqC h) (rbC h) (rwdC h) q ∧ ctC h = q 4 ∧ rtC h = q 59
def R1 (imC blC : Nat → Int32) (wnC nuC : Int32) (im di : Nat → Int32) (ow nu : Int32) : Prop := imC = im ∧ blC = di ∧ wnC = ow ∧ nuC = nu ∧ (ow = (-2) ∨ isN ow 2)
def R2 (huC hdC hoC : Nat → Bool) (b1C w1C n1C : Nat → Int32) (up ho os : Nat → Bool) (ob od on : Nat → Int32) : Prop :=
  ∀ h, h < 2 → huC h = up h ∧ hdC h = ho h ∧ hoC h = os h ∧ b1C h = ob h ∧ w1C h = od h ∧ n1C h = on h ∧ isN (ob h) 8
def R3 (n : Nat) (goC spC : Bool) (mnC scC stC seC : Int32) (st go : Bool) (la so se sp : Int32) : Prop :=
  goC = go ∧ mnC = la ∧ scC = so ∧ stC = sp ∧ seC = se ∧ isN so 2 ∧ st = (go && spC) ∧ isN la (n + 1) ∧ isN se (n + 1)
def R4 (sgC srC : Nat → Int32) (fpC : Int32) (pg : Nat → Int32) (go : Bool) (sl : Int32) : Prop :=
  isN fpC 8 ∧ isN sl 8 ∧ (go = true → tN fpC = (tN sl + 1) % 8 ∧ ∀ p, p < 8 → PS (sgC p) (srC p) (pg p))
def R5 (taC reC ho : Nat → Bool) (go : Bool) (so : Int32) (tp rd : Bool) : Prop :=
  taC (tN so) = false ∧ reC (tN so) = false ∧ tp = taC (1 - tN so) ∧ rd = reC (1 - tN so) ∧ (¬ go = true → taC (1 - tN so) = false) ∧ (reC (1 - tN so) = true → taC (1 - tN so) = true) ∧ (go = true → ho (1 - tN so) = false) ∧ (go = true → ho (tN so) = false → reC (1 - tN so) = true)
def R6 (meC rgC ipC ouC : Nat → Nat → Int32) (ctC tiC niC noC rtC : Nat → Int32) (rqC : Nat → Bool) (rbC rwdC : Nat → Int32) (me ro : Nat → Int32) (ho : Nat → Bool) : Prop :=
  ∀ h, h < 2 → ho h = true → (∀ j, j < 64 → meC h j = me (64 * h + j)) ∧ MX rgC ipC ouC ctC tiC niC noC rtC rqC rbC rwdC h (fun k => ro (60 * h + k))
def R7 (meC hsC rgC ipC ouC : Nat → Nat → Int32) (ctC tiC niC noC rtC : Nat → Int32) (rqC : Nat → Bool) (rbC rwdC : Nat → Int32) (taC reC : Nat → Bool) (so : Int32) (tm ts tr : Nat → Int32) : Prop :=
  taC (1 - tN so) = true → (∀ j, j < 64 → meC (1 - tN so) j = tm j) ∧ (∀ p, p < 8 → hsC (1 - tN so) p = ts p) ∧ (reC (1 - tN so) = true → MX rgC ipC ouC ctC tiC niC noC rtC rqC rbC rwdC (1 - tN so) tr)
def R8 (znC : Int32) (pk pm pp ps : Nat → Int32) (pw : Nat → Nat → Int32) (spC : Bool) (rgC ipC ouC : Nat → Nat → Int32) (ctC tiC niC noC rtC : Nat → Int32) (rqC : Nat → Bool) (rbC rwdC : Nat → Int32) (ho : Nat → Bool) (go : Bool) (la so pn : Int32) (ki mo po sr ld : Nat → Int32) : Prop :=
  znC = pn ∧ isN pn 9 ∧ ∀ j, j < tN pn → pk j = ki j ∧ pm j = mo j ∧ pp j = po j ∧ ps j = sr j ∧ isN (po j) 8 ∧ isN (mo j) (tN la + 1) ∧ (ki j = 1 ∨ ki j = 2 ∨ ki j = 3 ∨ ki j = 4) ∧ (ki j = 1 → ∀ i, i < 8 → pw j i = ld (60 * j + i)) ∧ ((ki j = 1 ∨ ki j = 3) → isN (sr j) 100000 ∧ 1 ≤ tN (sr j)) ∧ (ki j = 2 → go = true → mo j = la → spC = true ∧ (ho (tN so) = true → MX rgC ipC ouC ctC tiC niC noC rtC rqC rbC rwdC (tN so) (fun k => ld (60 * j + k))))
def R9 (ctC niC noC : Nat → Int32) : Prop := ∀ h, h < 2 → isN (ctC h) 64 ∧ isN (niC h) 9 ∧ isN (noC h) 41
/-- one host at most holds the guest -/
def R10 (ho : Nat → Bool) : Prop := ¬ (ho 0 = true ∧ ho 1 = true)
theorem R10.one {ho : Nat → Bool} (a : Nat) (h : ∀ k, k ≠ a → ho k = true → 1 < k) : R10 ho := by
  intro ⟨h0, h1⟩
  by_cases e : 0 = a
  · exact absurd (h 1 (by omega) h1) (by omega)
  · exact absurd (h 0 e h0) (by omega)
theorem R10.sub {ho ho2 : Nat → Bool} (h : R10 ho) (e : ∀ k, ho2 k = true → ho k = true) : R10 ho2 := fun w => h ⟨e 0 w.1, e 1 w.2⟩
theorem R10.other {ho : Nat → Bool} {h : Nat} (hR : R10 ho) (hlt : h < 2) (e : ho h = true) : ho (1 - h) = false := by
  cases w : ho (1 - h) with
  | false => rfl
  | true =>
    rcases (show h = 0 ∨ h = 1 by omega) with rfl | rfl
    · exact absurd ⟨e, w⟩ hR
    · exact absurd ⟨w, e⟩ hR
theorem bI_inj {a b : Bool} (h : bI a = bI b) : a = b := by cases a <;> cases b <;> first | rfl | exact absurd h (by decide)
/-- a host's number, in both -/
theorem host_of (host : Int32) : (¬ isN host 2 ∧ F_G_isBelow host 2 = (0, ()) ∧ F_M_isHost host = (0, ())) ∨ (isN host 2 ∧ F_G_isBelow host 2 = (1, ()) ∧ F_M_isHost host = (1, ())) := by
  rcases h1 : F_G_isBelow host 2 with ⟨r, u⟩
  rcases h2 : F_M_isHost host with ⟨r2, u2⟩
  by_cases hn : isN host 2
  · refine Or.inr ⟨hn, ?_⟩
    have hb := hn.2
    rcases (show tN host = 0 ∨ tN host = 1 by omega) with h | h
    · have e : host = 0 := by rw [hn.1, h]; rfl
      subst e
      rw [← h1, ← h2]
      exact ⟨rfl, rfl⟩
    · have e : host = 1 := by rw [hn.1, h]; rfl
      subst e
      rw [← h1, ← h2]
      exact ⟨rfl, rfl⟩
  · refine Or.inl ⟨hn, ?_⟩
    have a1 : r = 0 := by
      by_cases h : r = 0
      · exact h
      · exact absurd (isBelow_nat (b := 2) rfl (by decide) h1 h) hn
    have a2 : r2 = 0 := by
      by_cases h : r2 = 0
      · exact h
      · exact absurd (isHost_nat h2 h) hn
    rw [a1, a2]
    exact ⟨rfl, rfl⟩
/-- a number below a bound, in both -/
theorem below_of (x y : Int32) {b : Nat} (hy : y = nI b) (hb : b < 2 ^ 31) : (¬ isN x b ∧ F_G_isBelow x y = (0, ()) ∧ (x < 0 ∨ (¬ x < 0 ∧ y ≤ x))) ∨ (isN x b ∧ F_G_isBelow x y = (1, ()) ∧ ¬ x < 0 ∧ ¬ y ≤ x) := by
  unfold F_G_isBelow
  by_cases h0 : x < 0
  · rw [if_pos h0]
    refine Or.inl ⟨fun hn => ?_, rfl, Or.inl h0⟩
    rw [hn.1] at h0
    exact nI_pos (by have := hn.2; omega) h0
  · rw [if_neg h0]
    by_cases h1 : y ≤ x
    · rw [if_pos h1]
      refine Or.inl ⟨fun hn => ?_, rfl, Or.inr ⟨h0, h1⟩⟩
      rw [hn.1, hy] at h1
      have := (nI_leI hb (by have := hn.2; omega)).mp h1
      have := hn.2
      omega
    · rw [if_neg h1]
      refine Or.inr ⟨?_, rfl, h0, h1⟩
      rw [hy] at h1
      exact isN_ltn h0 hb h1
theorem s_block {bl di : Nat → Int32} {i r r2 : Int32} (h : bl = di) (e1 : F_G_block bl i = (r, ())) (e2 : F_M_block di i = (r2, ())) : r = r2 := by
  subst h
  unfold F_G_block at e1
  unfold F_M_block at e2
  rcases below_of i 8 (b := 8) rfl (by decide) with ⟨hn, hb, hc⟩ | ⟨hn, hb, c0, c1⟩
  · rw [hb] at e1
    rcases hc with hc | ⟨hc, hd⟩
    · rw [if_pos hc] at e2
      cases e1
      cases e2
      rfl
    · rw [if_neg hc, if_pos hd] at e2
      cases e1
      cases e2
      rfl
  · rw [hb] at e1
    rw [if_neg c0, if_neg c1] at e2
    cases e1
    cases e2
    rfl
theorem s_image {imC im imC2 im2 : Nat → Int32} {i x r r2 : Int32} (h : imC = im) (e1 : F_G_image imC i x = (r, imC2)) (e2 : F_M_image im i x = (r2, im2)) : r = r2 ∧ imC2 = im2 := by
  subst h
  unfold F_G_image at e1
  unfold F_M_image at e2
  rcases below_of i 64 (b := 64) rfl (by decide) with ⟨hn, hb, hc⟩ | ⟨hn, hb, c0, c1⟩
  · rw [hb] at e1
    rcases hc with hc | ⟨hc, hd⟩
    · rw [if_pos hc] at e2
      cases e1
      cases e2
      exact ⟨rfl, rfl⟩
    · rw [if_neg hc, if_neg (fun q => hn (isN_le hc (y := 63) (b := 63) rfl q))] at e2
      cases e1
      cases e2
      exact ⟨rfl, rfl⟩
  · rw [hb] at e1
    have h63 : i ≤ 63 := by rw [hn.1]; exact (nI_leI (b := 63) (by have := hn.2; omega) (by omega)).mpr (by have := hn.2; omega)
    rw [if_neg c0, if_pos h63] at e2
    cases e1
    cases e2
    exact ⟨rfl, rfl⟩
theorem s_isUp {hu : Bool} {up : Nat → Bool} {h : Nat} {host r r2 : Int32} (hh : isN host 2 → tN host = h) (e : hu = up h) (e1 : F_G_isUp hu host = (r, ())) (e2 : F_M_isUp up host = (r2, ())) : r = r2 := by
  unfold F_G_isUp at e1
  unfold F_M_isUp at e2
  rcases host_of host with ⟨hn, hb, hc⟩ | ⟨hn, hb, hc⟩
  · rw [hb] at e1
    rw [hc] at e2
    cases e1
    cases e2
    rfl
  · rw [hb] at e1
    rw [hc] at e2
    rw [hh hn, ← e] at e2
    dsimp only at e1 e2
    rw [if_neg (show ¬ (1 : Int32) = 0 by decide)] at e1 e2
    rw [e1] at e2
    cases e2
    rfl
