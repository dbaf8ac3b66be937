-- ===== PART A: goes FIRST, ahead of the names: the tables' words, and 'selects' of the private methods out of them =====
/-- a private method of a class that the tables say can be made, by its rows of tables_1 -/
def lw_okq (q : MethodName × Nat) : Prop := (q.1.cls ≠ "java/lang/invoke/MethodHandle" ∧ q.1.cls ≠ "java/lang/invoke/VarHandle") ∧ Cond.instantiable q.1.cls q.2 ∈ tables_1 ∧ Cond.privateMethod q.1 ∈ tables_1 ∧ Cond.instanceMethod q.1 ∈ tables_1
theorem lw_p0 : lw_okq (⟨"MovingGuest", "runsGuest", "(I)Z"⟩, 7) := ⟨⟨by decide +kernel, by decide +kernel⟩, List.mem_of_getElem? (i := 12) (by decide +kernel), List.mem_of_getElem? (i := 232) (by decide +kernel), List.mem_of_getElem? (i := 233) (by decide +kernel)⟩
theorem lw_p1 : lw_okq (⟨"MovingGuest", "holdsStopped", "(I)Z"⟩, 7) := ⟨⟨by decide +kernel, by decide +kernel⟩, List.mem_of_getElem? (i := 12) (by decide +kernel), List.mem_of_getElem? (i := 236) (by decide +kernel), List.mem_of_getElem? (i := 237) (by decide +kernel)⟩
theorem lw_p2 : lw_okq (⟨"MovingGuest", "retireNext", "(LMovingGuest$Host;)Z"⟩, 7) := ⟨⟨by decide +kernel, by decide +kernel⟩, List.mem_of_getElem? (i := 12) (by decide +kernel), List.mem_of_getElem? (i := 240) (by decide +kernel), List.mem_of_getElem? (i := 241) (by decide +kernel)⟩
theorem lw_p3 : lw_okq (⟨"MovingGuest", "perform", "(LMovingGuest$Host;I)V"⟩, 7) := ⟨⟨by decide +kernel, by decide +kernel⟩, List.mem_of_getElem? (i := 12) (by decide +kernel), List.mem_of_getElem? (i := 248) (by decide +kernel), List.mem_of_getElem? (i := 249) (by decide +kernel)⟩
theorem lw_p4 : lw_okq (⟨"MovingGuest", "storeWord", "(LMovingGuest$Machine;II)V"⟩, 7) := ⟨⟨by decide +kernel, by decide +kernel⟩, List.mem_of_getElem? (i := 12) (by decide +kernel), List.mem_of_getElem? (i := 256) (by decide +kernel), List.mem_of_getElem? (i := 257) (by decide +kernel)⟩
theorem lw_p5 : lw_okq (⟨"MovingGuest$Machine", "write", "(I)V"⟩, 12) := ⟨⟨by decide +kernel, by decide +kernel⟩, List.mem_of_getElem? (i := 85) (by decide +kernel), List.mem_of_getElem? (i := 277) (by decide +kernel), List.mem_of_getElem? (i := 278) (by decide +kernel)⟩
theorem lw_p6 : lw_okq (⟨"MovingGuest$Machine", "readOldest", "()I"⟩, 12) := ⟨⟨by decide +kernel, by decide +kernel⟩, List.mem_of_getElem? (i := 85) (by decide +kernel), List.mem_of_getElem? (i := 281) (by decide +kernel), List.mem_of_getElem? (i := 282) (by decide +kernel)⟩
theorem lw_p7 : lw_okq (⟨"MovingGuest", "source", "()LMovingGuest$Host;"⟩, 7) := ⟨⟨by decide +kernel, by decide +kernel⟩, List.mem_of_getElem? (i := 12) (by decide +kernel), List.mem_of_getElem? (i := 320) (by decide +kernel), List.mem_of_getElem? (i := 321) (by decide +kernel)⟩
theorem lw_p8 : lw_okq (⟨"MovingGuest", "sendPage", "(I)V"⟩, 7) := ⟨⟨by decide +kernel, by decide +kernel⟩, List.mem_of_getElem? (i := 12) (by decide +kernel), List.mem_of_getElem? (i := 336) (by decide +kernel), List.mem_of_getElem? (i := 337) (by decide +kernel)⟩
theorem lw_p9 : lw_okq (⟨"MovingGuest", "arrive", "(LMovingGuest$Piece;)V"⟩, 7) := ⟨⟨by decide +kernel, by decide +kernel⟩, List.mem_of_getElem? (i := 12) (by decide +kernel), List.mem_of_getElem? (i := 410) (by decide +kernel), List.mem_of_getElem? (i := 411) (by decide +kernel)⟩
theorem lw_p10 : lw_okq (⟨"MovingGuest", "pageArrives", "(LMovingGuest$Piece;)V"⟩, 7) := ⟨⟨by decide +kernel, by decide +kernel⟩, List.mem_of_getElem? (i := 12) (by decide +kernel), List.mem_of_getElem? (i := 414) (by decide +kernel), List.mem_of_getElem? (i := 415) (by decide +kernel)⟩
theorem lw_p11 : lw_okq (⟨"MovingGuest", "target", "()LMovingGuest$Host;"⟩, 7) := ⟨⟨by decide +kernel, by decide +kernel⟩, List.mem_of_getElem? (i := 12) (by decide +kernel), List.mem_of_getElem? (i := 418) (by decide +kernel), List.mem_of_getElem? (i := 419) (by decide +kernel)⟩
theorem lw_p12 : lw_okq (⟨"MovingGuest", "stateArrives", "(LMovingGuest$Piece;)V"⟩, 7) := ⟨⟨by decide +kernel, by decide +kernel⟩, List.mem_of_getElem? (i := 12) (by decide +kernel), List.mem_of_getElem? (i := 422) (by decide +kernel), List.mem_of_getElem? (i := 423) (by decide +kernel)⟩
theorem lw_p13 : lw_okq (⟨"MovingGuest", "handOver", "()V"⟩, 7) := ⟨⟨by decide +kernel, by decide +kernel⟩, List.mem_of_getElem? (i := 12) (by decide +kernel), List.mem_of_getElem? (i := 434) (by decide +kernel), List.mem_of_getElem? (i := 435) (by decide +kernel)⟩
theorem lw_p14 : lw_okq (⟨"MovingGuest", "endMove", "()V"⟩, 7) := ⟨⟨by decide +kernel, by decide +kernel⟩, List.mem_of_getElem? (i := 12) (by decide +kernel), List.mem_of_getElem? (i := 438) (by decide +kernel), List.mem_of_getElem? (i := 439) (by decide +kernel)⟩
theorem lw_p15 : lw_okq (⟨"MovingGuest", "renewNumber", "(LMovingGuest$Host;)V"⟩, 7) := ⟨⟨by decide +kernel, by decide +kernel⟩, List.mem_of_getElem? (i := 12) (by decide +kernel), List.mem_of_getElem? (i := 446) (by decide +kernel), List.mem_of_getElem? (i := 447) (by decide +kernel)⟩
def lw_privs_1 : List (MethodName × Nat) := [(⟨"MovingGuest", "runsGuest", "(I)Z"⟩, 7), (⟨"MovingGuest", "holdsStopped", "(I)Z"⟩, 7), (⟨"MovingGuest", "retireNext", "(LMovingGuest$Host;)Z"⟩, 7), (⟨"MovingGuest", "perform", "(LMovingGuest$Host;I)V"⟩, 7), (⟨"MovingGuest", "storeWord", "(LMovingGuest$Machine;II)V"⟩, 7), (⟨"MovingGuest$Machine", "write", "(I)V"⟩, 12), (⟨"MovingGuest$Machine", "readOldest", "()I"⟩, 12), (⟨"MovingGuest", "source", "()LMovingGuest$Host;"⟩, 7), (⟨"MovingGuest", "sendPage", "(I)V"⟩, 7), (⟨"MovingGuest", "arrive", "(LMovingGuest$Piece;)V"⟩, 7), (⟨"MovingGuest", "pageArrives", "(LMovingGuest$Piece;)V"⟩, 7), (⟨"MovingGuest", "target", "()LMovingGuest$Host;"⟩, 7), (⟨"MovingGuest", "stateArrives", "(LMovingGuest$Piece;)V"⟩, 7), (⟨"MovingGuest", "handOver", "()V"⟩, 7), (⟨"MovingGuest", "endMove", "()V"⟩, 7), (⟨"MovingGuest", "renewNumber", "(LMovingGuest$Host;)V"⟩, 7)]
theorem lw_r1 : ∀ q ∈ lw_privs_1, lw_okq q := List.forall_mem_cons.mpr ⟨lw_p0, List.forall_mem_cons.mpr ⟨lw_p1, List.forall_mem_cons.mpr ⟨lw_p2, List.forall_mem_cons.mpr ⟨lw_p3, List.forall_mem_cons.mpr ⟨lw_p4, List.forall_mem_cons.mpr ⟨lw_p5, List.forall_mem_cons.mpr ⟨lw_p6, List.forall_mem_cons.mpr ⟨lw_p7, List.forall_mem_cons.mpr ⟨lw_p8, List.forall_mem_cons.mpr ⟨lw_p9, List.forall_mem_cons.mpr ⟨lw_p10, List.forall_mem_cons.mpr ⟨lw_p11, List.forall_mem_cons.mpr ⟨lw_p12, List.forall_mem_cons.mpr ⟨lw_p13, List.forall_mem_cons.mpr ⟨lw_p14, List.forall_mem_cons.mpr ⟨lw_p15, fun _ h => absurd h List.not_mem_nil⟩⟩⟩⟩⟩⟩⟩⟩⟩⟩⟩⟩⟩⟩⟩⟩
theorem lw_p16 : lw_okq (⟨"MovingGuestModel", "runs", "(I)Z"⟩, 31) := ⟨⟨by decide +kernel, by decide +kernel⟩, List.mem_of_getElem? (i := 508) (by decide +kernel), List.mem_of_getElem? (i := 624) (by decide +kernel), List.mem_of_getElem? (i := 625) (by decide +kernel)⟩
theorem lw_p17 : lw_okq (⟨"MovingGuestModel", "instruct", "(I)Z"⟩, 31) := ⟨⟨by decide +kernel, by decide +kernel⟩, List.mem_of_getElem? (i := 508) (by decide +kernel), List.mem_of_getElem? (i := 628) (by decide +kernel), List.mem_of_getElem? (i := 629) (by decide +kernel)⟩
theorem lw_p18 : lw_okq (⟨"MovingGuestModel", "written", "(III)V"⟩, 31) := ⟨⟨by decide +kernel, by decide +kernel⟩, List.mem_of_getElem? (i := 508) (by decide +kernel), List.mem_of_getElem? (i := 632) (by decide +kernel), List.mem_of_getElem? (i := 633) (by decide +kernel)⟩
theorem lw_p19 : lw_okq (⟨"MovingGuestModel", "taken", "(I)I"⟩, 31) := ⟨⟨by decide +kernel, by decide +kernel⟩, List.mem_of_getElem? (i := 508) (by decide +kernel), List.mem_of_getElem? (i := 636) (by decide +kernel), List.mem_of_getElem? (i := 637) (by decide +kernel)⟩
theorem lw_p20 : lw_okq (⟨"MovingGuestModel", "order", "(I)V"⟩, 31) := ⟨⟨by decide +kernel, by decide +kernel⟩, List.mem_of_getElem? (i := 508) (by decide +kernel), List.mem_of_getElem? (i := 640) (by decide +kernel), List.mem_of_getElem? (i := 641) (by decide +kernel)⟩
theorem lw_p21 : lw_okq (⟨"MovingGuestModel", "tick", "(I)V"⟩, 31) := ⟨⟨by decide +kernel, by decide +kernel⟩, List.mem_of_getElem? (i := 508) (by decide +kernel), List.mem_of_getElem? (i := 644) (by decide +kernel), List.mem_of_getElem? (i := 645) (by decide +kernel)⟩
theorem lw_p22 : lw_okq (⟨"MovingGuestModel", "unknown", "()I"⟩, 31) := ⟨⟨by decide +kernel, by decide +kernel⟩, List.mem_of_getElem? (i := 508) (by decide +kernel), List.mem_of_getElem? (i := 664) (by decide +kernel), List.mem_of_getElem? (i := 665) (by decide +kernel)⟩
theorem lw_p23 : lw_okq (⟨"MovingGuestModel", "due", "()I"⟩, 31) := ⟨⟨by decide +kernel, by decide +kernel⟩, List.mem_of_getElem? (i := 508) (by decide +kernel), List.mem_of_getElem? (i := 668) (by decide +kernel), List.mem_of_getElem? (i := 669) (by decide +kernel)⟩
theorem lw_p24 : lw_okq (⟨"MovingGuestModel", "sendPage", "(I)V"⟩, 31) := ⟨⟨by decide +kernel, by decide +kernel⟩, List.mem_of_getElem? (i := 508) (by decide +kernel), List.mem_of_getElem? (i := 672) (by decide +kernel), List.mem_of_getElem? (i := 673) (by decide +kernel)⟩
theorem lw_p25 : lw_okq (⟨"MovingGuestModel", "come", "(IIII)I"⟩, 31) := ⟨⟨by decide +kernel, by decide +kernel⟩, List.mem_of_getElem? (i := 508) (by decide +kernel), List.mem_of_getElem? (i := 676) (by decide +kernel), List.mem_of_getElem? (i := 677) (by decide +kernel)⟩
theorem lw_p26 : lw_okq (⟨"MovingGuestModel", "isPiece", "(I)Z"⟩, 31) := ⟨⟨by decide +kernel, by decide +kernel⟩, List.mem_of_getElem? (i := 508) (by decide +kernel), List.mem_of_getElem? (i := 684) (by decide +kernel), List.mem_of_getElem? (i := 685) (by decide +kernel)⟩
theorem lw_p27 : lw_okq (⟨"MovingGuestModel", "leave", "(I)V"⟩, 31) := ⟨⟨by decide +kernel, by decide +kernel⟩, List.mem_of_getElem? (i := 508) (by decide +kernel), List.mem_of_getElem? (i := 688) (by decide +kernel), List.mem_of_getElem? (i := 689) (by decide +kernel)⟩
theorem lw_p28 : lw_okq (⟨"MovingGuestModel", "copy", "(II)V"⟩, 31) := ⟨⟨by decide +kernel, by decide +kernel⟩, List.mem_of_getElem? (i := 508) (by decide +kernel), List.mem_of_getElem? (i := 692) (by decide +kernel), List.mem_of_getElem? (i := 693) (by decide +kernel)⟩
theorem lw_p29 : lw_okq (⟨"MovingGuestModel", "arrive", "()V"⟩, 31) := ⟨⟨by decide +kernel, by decide +kernel⟩, List.mem_of_getElem? (i := 508) (by decide +kernel), List.mem_of_getElem? (i := 696) (by decide +kernel), List.mem_of_getElem? (i := 697) (by decide +kernel)⟩
theorem lw_p30 : lw_okq (⟨"MovingGuestModel", "pageArrives", "(III)V"⟩, 31) := ⟨⟨by decide +kernel, by decide +kernel⟩, List.mem_of_getElem? (i := 508) (by decide +kernel), List.mem_of_getElem? (i := 700) (by decide +kernel), List.mem_of_getElem? (i := 701) (by decide +kernel)⟩
theorem lw_p31 : lw_okq (⟨"MovingGuestModel", "stateArrives", "(I)V"⟩, 31) := ⟨⟨by decide +kernel, by decide +kernel⟩, List.mem_of_getElem? (i := 508) (by decide +kernel), List.mem_of_getElem? (i := 704) (by decide +kernel), List.mem_of_getElem? (i := 705) (by decide +kernel)⟩
def lw_privs_2 : List (MethodName × Nat) := [(⟨"MovingGuestModel", "runs", "(I)Z"⟩, 31), (⟨"MovingGuestModel", "instruct", "(I)Z"⟩, 31), (⟨"MovingGuestModel", "written", "(III)V"⟩, 31), (⟨"MovingGuestModel", "taken", "(I)I"⟩, 31), (⟨"MovingGuestModel", "order", "(I)V"⟩, 31), (⟨"MovingGuestModel", "tick", "(I)V"⟩, 31), (⟨"MovingGuestModel", "unknown", "()I"⟩, 31), (⟨"MovingGuestModel", "due", "()I"⟩, 31), (⟨"MovingGuestModel", "sendPage", "(I)V"⟩, 31), (⟨"MovingGuestModel", "come", "(IIII)I"⟩, 31), (⟨"MovingGuestModel", "isPiece", "(I)Z"⟩, 31), (⟨"MovingGuestModel", "leave", "(I)V"⟩, 31), (⟨"MovingGuestModel", "copy", "(II)V"⟩, 31), (⟨"MovingGuestModel", "arrive", "()V"⟩, 31), (⟨"MovingGuestModel", "pageArrives", "(III)V"⟩, 31), (⟨"MovingGuestModel", "stateArrives", "(I)V"⟩, 31)]
theorem lw_r2 : ∀ q ∈ lw_privs_2, lw_okq q := List.forall_mem_cons.mpr ⟨lw_p16, List.forall_mem_cons.mpr ⟨lw_p17, List.forall_mem_cons.mpr ⟨lw_p18, List.forall_mem_cons.mpr ⟨lw_p19, List.forall_mem_cons.mpr ⟨lw_p20, List.forall_mem_cons.mpr ⟨lw_p21, List.forall_mem_cons.mpr ⟨lw_p22, List.forall_mem_cons.mpr ⟨lw_p23, List.forall_mem_cons.mpr ⟨lw_p24, List.forall_mem_cons.mpr ⟨lw_p25, List.forall_mem_cons.mpr ⟨lw_p26, List.forall_mem_cons.mpr ⟨lw_p27, List.forall_mem_cons.mpr ⟨lw_p28, List.forall_mem_cons.mpr ⟨lw_p29, List.forall_mem_cons.mpr ⟨lw_p30, List.forall_mem_cons.mpr ⟨lw_p31, fun _ h => absurd h List.not_mem_nil⟩⟩⟩⟩⟩⟩⟩⟩⟩⟩⟩⟩⟩⟩⟩⟩
theorem lw_p32 : lw_okq (⟨"MovingGuestModel", "handOver", "()V"⟩, 31) := ⟨⟨by decide +kernel, by decide +kernel⟩, List.mem_of_getElem? (i := 508) (by decide +kernel), List.mem_of_getElem? (i := 708) (by decide +kernel), List.mem_of_getElem? (i := 709) (by decide +kernel)⟩
theorem lw_p33 : lw_okq (⟨"MovingGuestModel", "end", "()V"⟩, 31) := ⟨⟨by decide +kernel, by decide +kernel⟩, List.mem_of_getElem? (i := 508) (by decide +kernel), List.mem_of_getElem? (i := 712) (by decide +kernel), List.mem_of_getElem? (i := 713) (by decide +kernel)⟩
def lw_privs_3 : List (MethodName × Nat) := [(⟨"MovingGuestModel", "handOver", "()V"⟩, 31), (⟨"MovingGuestModel", "end", "()V"⟩, 31)]
theorem lw_r3 : ∀ q ∈ lw_privs_3, lw_okq q := List.forall_mem_cons.mpr ⟨lw_p32, List.forall_mem_cons.mpr ⟨lw_p33, fun _ h => absurd h List.not_mem_nil⟩⟩
def lw_privs : List (MethodName × Nat) := lw_privs_1 ++ (lw_privs_2 ++ (lw_privs_3))
def lw_tbl : List Cond := k2_sels lw_privs ++ tables_1
theorem lw_privs_ok : ∀ q ∈ lw_privs, lw_okq q := by
  show ∀ q ∈ lw_privs_1 ++ (lw_privs_2 ++ (lw_privs_3)), lw_okq q
  exact List.forall_mem_append.mpr ⟨lw_r1, List.forall_mem_append.mpr ⟨lw_r2, lw_r3⟩⟩

-- the words that all contracts share: those of the tables that keep
def wAll : List Cond := lw_tbl.filter goodWord
theorem wAll_good : wAll.all goodWord = true := by rw [wAll, List.all_filter]; exact List.all_eq_true.mpr (fun x _ => by cases goodWord x <;> rfl)
theorem wAll_in : ∀ w ∈ wAll, w ∈ lw_tbl := fun w h => (List.mem_filter.mp h).1
/-- the words of a method: its code, and those that all share -/
theorem g_all (y : MethodName) (b : ByteArray) (n : Nat) (r : Option FieldType) {Ts0 : Cond} {w : Cond} (h : w ∈ Ts0 :: wAll) (hw : w = .code y b n r := by rfl) : GoodIn (Ts0 :: wAll) (.code y b n r :: wAll) := by
  subst hw
  intro x hx
  rcases List.mem_cons.mp hx with rfl | hx
  · exact ⟨h, Or.inl rfl⟩
  · exact ⟨List.mem_cons_of_mem _ hx, good_of_word (List.all_eq_true.mp wAll_good x hx)⟩
def R_H : String := "MovingGuest$Host"
def T_H : u_T := fun k => match k with
  | 0 => ("MovingGuest$Host", "machine", "LMovingGuest$Machine;", true)
  | 1 => ("MovingGuest$Host", "serials", "[I", true)
  | 2 => ("MovingGuest$Host", "up", "Z", false)
  | 3 => ("MovingGuest$Host", "holds", "Z", false)
  | 4 => ("MovingGuest$Host", "takesPart", "Z", false)
  | 5 => ("MovingGuest$Host", "ready", "Z", false)
  | 6 => ("MovingGuest$Host", "hasOrder", "Z", false)
  | 7 => ("MovingGuest$Host", "orderBlock", "I", false)
  | 8 => ("MovingGuest$Host", "orderWord", "I", false)
  | _ => ("MovingGuest$Host", "orderNumber", "I", false)
def ty_H : Nat → FieldType := fun k => match k with
  | 0 => (.object "MovingGuest$Machine")
  | 1 => (.array .int)
  | 2 => .boolean
  | 3 => .boolean
  | 4 => .boolean
  | 5 => .boolean
  | 6 => .boolean
  | 7 => .int
  | 8 => .int
  | _ => .int
theorem nm_H : ∀ a, a < 10 → ∀ b, b < 10 → a ≠ b → (T_H a).2.1 ≠ (T_H b).2.1 := by decide +kernel
theorem tyok_H : ∀ k, k < 10 → parseFieldDescriptor (T_H k).2.2.1 = some (ty_H k) := by decide +kernel
theorem in_H : ∀ w ∈ u_ws R_H T_H 10, w ∈ wAll := by decide +kernel
theorem df_H : ∀ j, j < 10 → defaultValue (ty_H j) = vp_V [.null, .null, .int 0, .int 0, .int 0, .int 0, .int 0, .int 0, .int 0, .int 0] j := fun j hj => by
  match j, hj with
  | 0, _ => rfl
  | 1, _ => rfl
  | 2, _ => rfl
  | 3, _ => rfl
  | 4, _ => rfl
  | 5, _ => rfl
  | 6, _ => rfl
  | 7, _ => rfl
  | 8, _ => rfl
  | 9, _ => rfl
  | k + 10, h => exact absurd h (by omega)
def R_L : String := "MovingGuest$Link"
def T_L : u_T := fun k => match k with
  | 0 => ("MovingGuest$Link", "pieces", "[LMovingGuest$Piece;", true)
  | _ => ("MovingGuest$Link", "size", "I", false)
def ty_L : Nat → FieldType := fun k => match k with
  | 0 => (.array (.object "MovingGuest$Piece"))
  | _ => .int
theorem nm_L : ∀ a, a < 2 → ∀ b, b < 2 → a ≠ b → (T_L a).2.1 ≠ (T_L b).2.1 := by decide +kernel
theorem tyok_L : ∀ k, k < 2 → parseFieldDescriptor (T_L k).2.2.1 = some (ty_L k) := by decide +kernel
theorem in_L : ∀ w ∈ u_ws R_L T_L 2, w ∈ wAll := by decide +kernel
theorem df_L : ∀ j, j < 2 → defaultValue (ty_L j) = vp_V [.null, .int 0] j := fun j hj => by
  match j, hj with
  | 0, _ => rfl
  | 1, _ => rfl
  | k + 2, h => exact absurd h (by omega)
def R_A : String := "MovingGuest$Machine"
def T_A : u_T := fun k => match k with
  | 0 => ("MovingGuest$Machine", "memory", "[I", true)
  | 1 => ("MovingGuest$Machine", "registers", "[I", true)
  | 2 => ("MovingGuest$Machine", "input", "[I", true)
  | 3 => ("MovingGuest$Machine", "output", "[I", true)
  | 4 => ("MovingGuest$Machine", "counter", "I", false)
  | 5 => ("MovingGuest$Machine", "timer", "I", false)
  | 6 => ("MovingGuest$Machine", "inputs", "I", false)
  | 7 => ("MovingGuest$Machine", "outputs", "I", false)
  | 8 => ("MovingGuest$Machine", "retired", "I", false)
  | 9 => ("MovingGuest$Machine", "hasRequest", "Z", false)
  | 10 => ("MovingGuest$Machine", "requestBlock", "I", false)
  | _ => ("MovingGuest$Machine", "requestWord", "I", false)
def ty_A : Nat → FieldType := fun k => match k with
  | 0 => (.array .int)
  | 1 => (.array .int)
  | 2 => (.array .int)
  | 3 => (.array .int)
  | 4 => .int
  | 5 => .int
  | 6 => .int
  | 7 => .int
  | 8 => .int
  | 9 => .boolean
  | 10 => .int
  | _ => .int
theorem nm_A : ∀ a, a < 12 → ∀ b, b < 12 → a ≠ b → (T_A a).2.1 ≠ (T_A b).2.1 := by decide +kernel
theorem tyok_A : ∀ k, k < 12 → parseFieldDescriptor (T_A k).2.2.1 = some (ty_A k) := by decide +kernel
theorem in_A : ∀ w ∈ u_ws R_A T_A 12, w ∈ wAll := by decide +kernel
theorem df_A : ∀ j, j < 12 → defaultValue (ty_A j) = vp_V [.null, .null, .null, .null, .int 0, .int 0, .int 0, .int 0, .int 0, .int 0, .int 0, .int 0] j := fun j hj => by
  match j, hj with
  | 0, _ => rfl
  | 1, _ => rfl
  | 2, _ => rfl
  | 3, _ => rfl
  | 4, _ => rfl
  | 5, _ => rfl
  | 6, _ => rfl
  | 7, _ => rfl
  | 8, _ => rfl
  | 9, _ => rfl
  | 10, _ => rfl
  | 11, _ => rfl
  | k + 12, h => exact absurd h (by omega)
def R_V : String := "MovingGuest$Move"
def T_V : u_T := fun k => match k with
  | 0 => ("MovingGuest$Move", "standing", "[I", true)
  | 1 => ("MovingGuest$Move", "serials", "[I", true)
  | 2 => ("MovingGuest$Move", "goesOn", "Z", false)
  | 3 => ("MovingGuest$Move", "stopped", "Z", false)
  | 4 => ("MovingGuest$Move", "number", "I", false)
  | 5 => ("MovingGuest$Move", "source", "I", false)
  | 6 => ("MovingGuest$Move", "steps", "I", false)
  | 7 => ("MovingGuest$Move", "serial", "I", false)
  | _ => ("MovingGuest$Move", "firstPage", "I", false)
def ty_V : Nat → FieldType := fun k => match k with
  | 0 => (.array .int)
  | 1 => (.array .int)
  | 2 => .boolean
  | 3 => .boolean
  | 4 => .int
  | 5 => .int
  | 6 => .int
  | 7 => .int
  | _ => .int
theorem nm_V : ∀ a, a < 9 → ∀ b, b < 9 → a ≠ b → (T_V a).2.1 ≠ (T_V b).2.1 := by decide +kernel
theorem tyok_V : ∀ k, k < 9 → parseFieldDescriptor (T_V k).2.2.1 = some (ty_V k) := by decide +kernel
theorem in_V : ∀ w ∈ u_ws R_V T_V 9, w ∈ wAll := by decide +kernel
theorem df_V : ∀ j, j < 9 → defaultValue (ty_V j) = vp_V [.null, .null, .int 0, .int 0, .int 0, .int 0, .int 0, .int 0, .int 0] j := fun j hj => by
  match j, hj with
  | 0, _ => rfl
  | 1, _ => rfl
  | 2, _ => rfl
  | 3, _ => rfl
  | 4, _ => rfl
  | 5, _ => rfl
  | 6, _ => rfl
  | 7, _ => rfl
  | 8, _ => rfl
  | k + 9, h => exact absurd h (by omega)
def R_P : String := "MovingGuest$Piece"
def T_P : u_T := fun k => match k with
  | 0 => ("MovingGuest$Piece", "kind", "I", true)
  | 1 => ("MovingGuest$Piece", "move", "I", true)
  | 2 => ("MovingGuest$Piece", "page", "I", true)
  | 3 => ("MovingGuest$Piece", "serial", "I", true)
  | _ => ("MovingGuest$Piece", "words", "[I", true)
def ty_P : Nat → FieldType := fun k => match k with
  | 0 => .int
  | 1 => .int
  | 2 => .int
  | 3 => .int
  | _ => (.array .int)
theorem nm_P : ∀ a, a < 5 → ∀ b, b < 5 → a ≠ b → (T_P a).2.1 ≠ (T_P b).2.1 := by decide +kernel
theorem tyok_P : ∀ k, k < 5 → parseFieldDescriptor (T_P k).2.2.1 = some (ty_P k) := by decide +kernel
theorem in_P : ∀ w ∈ u_ws R_P T_P 5, w ∈ wAll := by decide +kernel
theorem df_P : ∀ j, j < 5 → defaultValue (ty_P j) = vp_V [.int 0, .int 0, .int 0, .int 0, .null] j := fun j hj => by
  match j, hj with
  | 0, _ => rfl
  | 1, _ => rfl
  | 2, _ => rfl
  | 3, _ => rfl
  | 4, _ => rfl
  | k + 5, h => exact absurd h (by omega)
def R_G : String := "MovingGuest"
def T_G : u_T := fun k => match k with
  | 0 => ("MovingGuest", "imageWords", "[I", true)
  | 1 => ("MovingGuest", "blocks", "[I", true)
  | 2 => ("MovingGuest", "hosts", "[LMovingGuest$Host;", true)
  | 3 => ("MovingGuest", "course", "LMovingGuest$Move;", true)
  | 4 => ("MovingGuest", "link", "LMovingGuest$Link;", true)
  | 5 => ("MovingGuest", "owner", "I", false)
  | _ => ("MovingGuest", "number", "I", false)
def ty_G : Nat → FieldType := fun k => match k with
  | 0 => (.array .int)
  | 1 => (.array .int)
  | 2 => (.array (.object "MovingGuest$Host"))
  | 3 => (.object "MovingGuest$Move")
  | 4 => (.object "MovingGuest$Link")
  | 5 => .int
  | _ => .int
theorem nm_G : ∀ a, a < 7 → ∀ b, b < 7 → a ≠ b → (T_G a).2.1 ≠ (T_G b).2.1 := by decide +kernel
theorem tyok_G : ∀ k, k < 7 → parseFieldDescriptor (T_G k).2.2.1 = some (ty_G k) := by decide +kernel
theorem in_G : ∀ w ∈ u_ws R_G T_G 7, w ∈ wAll := by decide +kernel
theorem df_G : ∀ j, j < 7 → defaultValue (ty_G j) = vp_V [.null, .null, .null, .null, .null, .int 0, .int 0] j := fun j hj => by
  match j, hj with
  | 0, _ => rfl
  | 1, _ => rfl
  | 2, _ => rfl
  | 3, _ => rfl
  | 4, _ => rfl
  | 5, _ => rfl
  | 6, _ => rfl
  | k + 7, h => exact absurd h (by omega)
def R_M : String := "MovingGuestModel"
def T_M : u_T := fun k => match k with
  | 0 => ("MovingGuestModel", "image", "[I", true)
  | 1 => ("MovingGuestModel", "memory", "[I", true)
  | 2 => ("MovingGuestModel", "rows", "[I", true)
  | 3 => ("MovingGuestModel", "up", "[Z", true)
  | 4 => ("MovingGuestModel", "holds", "[Z", true)
  | 5 => ("MovingGuestModel", "stopped", "Z", false)
  | 6 => ("MovingGuestModel", "disk", "[I", true)
  | 7 => ("MovingGuestModel", "owner", "I", false)
  | 8 => ("MovingGuestModel", "number", "I", false)
  | 9 => ("MovingGuestModel", "orders", "[Z", true)
  | 10 => ("MovingGuestModel", "orderBlock", "[I", true)
  | 11 => ("MovingGuestModel", "orderWord", "[I", true)
  | 12 => ("MovingGuestModel", "orderNumber", "[I", true)
  | 13 => ("MovingGuestModel", "going", "Z", false)
  | 14 => ("MovingGuestModel", "latest", "I", false)
  | 15 => ("MovingGuestModel", "source", "I", false)
  | 16 => ("MovingGuestModel", "pages", "[I", true)
  | 17 => ("MovingGuestModel", "serial", "I", false)
  | 18 => ("MovingGuestModel", "lastSent", "I", false)
  | 19 => ("MovingGuestModel", "steps", "I", false)
  | 20 => ("MovingGuestModel", "takesPart", "Z", false)
  | 21 => ("MovingGuestModel", "ready", "Z", false)
  | 22 => ("MovingGuestModel", "targetMemory", "[I", true)
  | 23 => ("MovingGuestModel", "targetSerials", "[I", true)
  | 24 => ("MovingGuestModel", "targetRow", "[I", true)
  | 25 => ("MovingGuestModel", "pieces", "I", false)
  | 26 => ("MovingGuestModel", "kinds", "[I", true)
  | 27 => ("MovingGuestModel", "moves", "[I", true)
  | 28 => ("MovingGuestModel", "pagesOf", "[I", true)
  | 29 => ("MovingGuestModel", "serials", "[I", true)
  | _ => ("MovingGuestModel", "loads", "[I", true)
def ty_M : Nat → FieldType := fun k => match k with
  | 0 => (.array .int)
  | 1 => (.array .int)
  | 2 => (.array .int)
  | 3 => (.array .boolean)
  | 4 => (.array .boolean)
  | 5 => .boolean
  | 6 => (.array .int)
  | 7 => .int
  | 8 => .int
  | 9 => (.array .boolean)
  | 10 => (.array .int)
  | 11 => (.array .int)
  | 12 => (.array .int)
  | 13 => .boolean
  | 14 => .int
  | 15 => .int
  | 16 => (.array .int)
  | 17 => .int
  | 18 => .int
  | 19 => .int
  | 20 => .boolean
  | 21 => .boolean
  | 22 => (.array .int)
  | 23 => (.array .int)
  | 24 => (.array .int)
  | 25 => .int
  | 26 => (.array .int)
  | 27 => (.array .int)
  | 28 => (.array .int)
  | 29 => (.array .int)
  | _ => (.array .int)
theorem nm_M : ∀ a, a < 31 → ∀ b, b < 31 → a ≠ b → (T_M a).2.1 ≠ (T_M b).2.1 := by decide +kernel
theorem tyok_M : ∀ k, k < 31 → parseFieldDescriptor (T_M k).2.2.1 = some (ty_M k) := by decide +kernel
theorem in_M : ∀ w ∈ u_ws R_M T_M 31, w ∈ wAll := by decide +kernel
theorem df_M : ∀ j, j < 31 → defaultValue (ty_M j) = vp_V [.null, .null, .null, .null, .null, .int 0, .null, .int 0, .int 0, .null, .null, .null, .null, .int 0, .int 0, .int 0, .null, .int 0, .int 0, .int 0, .int 0, .int 0, .null, .null, .null, .int 0, .null, .null, .null, .null, .null] j := fun j hj => by
  match j, hj with
  | 0, _ => rfl
  | 1, _ => rfl
  | 2, _ => rfl
  | 3, _ => rfl
  | 4, _ => rfl
  | 5, _ => rfl
  | 6, _ => rfl
  | 7, _ => rfl
  | 8, _ => rfl
  | 9, _ => rfl
  | 10, _ => rfl
  | 11, _ => rfl
  | 12, _ => rfl
  | 13, _ => rfl
  | 14, _ => rfl
  | 15, _ => rfl
  | 16, _ => rfl
  | 17, _ => rfl
  | 18, _ => rfl
  | 19, _ => rfl
  | 20, _ => rfl
  | 21, _ => rfl
  | 22, _ => rfl
  | 23, _ => rfl
  | 24, _ => rfl
  | 25, _ => rfl
  | 26, _ => rfl
  | 27, _ => rfl
  | 28, _ => rfl
  | 29, _ => rfl
  | 30, _ => rfl
  | k + 31, h => exact absurd h (by omega)
abbrev vwCl : List vw_C := [(R_H, T_H, 10), (R_L, T_L, 2), (R_A, T_A, 12), (R_V, T_V, 9), (R_P, T_P, 5), (R_G, T_G, 7), (R_M, T_M, 31)]
abbrev b_G_init : ByteArray := prog_1_method_1_code
def y_G_init : MethodName := ⟨"MovingGuest", "<init>", "()V"⟩
def ws_G_init : List Cond := .code y_G_init b_G_init 2 none :: wAll
abbrev b_G_image : ByteArray := prog_1_method_2_code
def y_G_image : MethodName := ⟨"MovingGuest", "image", "(II)Z"⟩
def ws_G_image : List Cond := .code y_G_image b_G_image 3 (some .boolean) :: wAll
abbrev b_G_create : ByteArray := prog_1_method_3_code
def y_G_create : MethodName := ⟨"MovingGuest", "create", "(I)I"⟩
def ws_G_create : List Cond := .code y_G_create b_G_create 2 (some .int) :: wAll
abbrev b_G_run : ByteArray := prog_1_method_4_code
def y_G_run : MethodName := ⟨"MovingGuest", "run", "(II)I"⟩
def ws_G_run : List Cond := .code y_G_run b_G_run 4 (some .int) :: wAll
abbrev b_G_input : ByteArray := prog_1_method_5_code
def y_G_input : MethodName := ⟨"MovingGuest", "input", "(II)I"⟩
def ws_G_input : List Cond := .code y_G_input b_G_input 4 (some .int) :: wAll
abbrev b_G_disk : ByteArray := prog_1_method_6_code
def y_G_disk : MethodName := ⟨"MovingGuest", "disk", "(I)I"⟩
def ws_G_disk : List Cond := .code y_G_disk b_G_disk 3 (some .int) :: wAll
abbrev b_G_move : ByteArray := prog_1_method_7_code
def y_G_move : MethodName := ⟨"MovingGuest", "move", "()I"⟩
def ws_G_move : List Cond := .code y_G_move b_G_move 1 (some .int) :: wAll
abbrev b_G_step : ByteArray := prog_1_method_8_code
def y_G_step : MethodName := ⟨"MovingGuest", "step", "()I"⟩
def ws_G_step : List Cond := .code y_G_step b_G_step 2 (some .int) :: wAll
abbrev b_G_deliver : ByteArray := prog_1_method_9_code
def y_G_deliver : MethodName := ⟨"MovingGuest", "deliver", "(I)I"⟩
def ws_G_deliver : List Cond := .code y_G_deliver b_G_deliver 3 (some .int) :: wAll
abbrev b_G_lose : ByteArray := prog_1_method_10_code
def y_G_lose : MethodName := ⟨"MovingGuest", "lose", "(I)I"⟩
def ws_G_lose : List Cond := .code y_G_lose b_G_lose 2 (some .int) :: wAll
abbrev b_G_twice : ByteArray := prog_1_method_11_code
def y_G_twice : MethodName := ⟨"MovingGuest", "twice", "(I)I"⟩
def ws_G_twice : List Cond := .code y_G_twice b_G_twice 2 (some .int) :: wAll
abbrev b_G_abort : ByteArray := prog_1_method_12_code
def y_G_abort : MethodName := ⟨"MovingGuest", "abort", "()Z"⟩
def ws_G_abort : List Cond := .code y_G_abort b_G_abort 1 (some .boolean) :: wAll
abbrev b_G_crash : ByteArray := prog_1_method_13_code
def y_G_crash : MethodName := ⟨"MovingGuest", "crash", "(I)Z"⟩
def ws_G_crash : List Cond := .code y_G_crash b_G_crash 2 (some .boolean) :: wAll
abbrev b_G_back : ByteArray := prog_1_method_14_code
def y_G_back : MethodName := ⟨"MovingGuest", "back", "(I)Z"⟩
def ws_G_back : List Cond := .code y_G_back b_G_back 2 (some .boolean) :: wAll
abbrev b_G_takeOver : ByteArray := prog_1_method_15_code
def y_G_takeOver : MethodName := ⟨"MovingGuest", "takeOver", "()Z"⟩
def ws_G_takeOver : List Cond := .code y_G_takeOver b_G_takeOver 1 (some .boolean) :: wAll
abbrev b_G_holder : ByteArray := prog_1_method_16_code
def y_G_holder : MethodName := ⟨"MovingGuest", "holder", "()I"⟩
def ws_G_holder : List Cond := .code y_G_holder b_G_holder 2 (some .int) :: wAll
abbrev b_G_told : ByteArray := prog_1_method_17_code
def y_G_told : MethodName := ⟨"MovingGuest", "told", "(I)I"⟩
def ws_G_told : List Cond := .code y_G_told b_G_told 2 (some .int) :: wAll
abbrev b_G_piece : ByteArray := prog_1_method_18_code
def y_G_piece : MethodName := ⟨"MovingGuest", "piece", "(II)I"⟩
def ws_G_piece : List Cond := .code y_G_piece b_G_piece 4 (some .int) :: wAll
abbrev b_G_isUp : ByteArray := prog_1_method_19_code
def y_G_isUp : MethodName := ⟨"MovingGuest", "isUp", "(I)Z"⟩
def ws_G_isUp : List Cond := .code y_G_isUp b_G_isUp 2 (some .boolean) :: wAll
abbrev b_G_guest : ByteArray := prog_1_method_20_code
def y_G_guest : MethodName := ⟨"MovingGuest", "guest", "(II)I"⟩
def ws_G_guest : List Cond := .code y_G_guest b_G_guest 4 (some .int) :: wAll
abbrev b_G_memory : ByteArray := prog_1_method_21_code
def y_G_memory : MethodName := ⟨"MovingGuest", "memory", "(II)I"⟩
def ws_G_memory : List Cond := .code y_G_memory b_G_memory 4 (some .int) :: wAll
abbrev b_G_output : ByteArray := prog_1_method_22_code
def y_G_output : MethodName := ⟨"MovingGuest", "output", "(II)I"⟩
def ws_G_output : List Cond := .code y_G_output b_G_output 4 (some .int) :: wAll
abbrev b_G_block : ByteArray := prog_1_method_23_code
def y_G_block : MethodName := ⟨"MovingGuest", "block", "(I)I"⟩
def ws_G_block : List Cond := .code y_G_block b_G_block 2 (some .int) :: wAll
abbrev b_G_isBelow : ByteArray := prog_1_method_24_code
def y_G_isBelow : MethodName := ⟨"MovingGuest", "isBelow", "(II)Z"⟩
def ws_G_isBelow : List Cond := .code y_G_isBelow b_G_isBelow 2 (some .boolean) :: wAll
abbrev b_G_other : ByteArray := prog_1_method_25_code
def y_G_other : MethodName := ⟨"MovingGuest", "other", "(I)I"⟩
def ws_G_other : List Cond := .code y_G_other b_G_other 1 (some .int) :: wAll
abbrev b_G_source : ByteArray := prog_1_method_26_code
def y_G_source : MethodName := ⟨"MovingGuest", "source", "()LMovingGuest$Host;"⟩
def ws_G_source : List Cond := .code y_G_source b_G_source 1 (some (.object "MovingGuest$Host")) :: wAll
abbrev b_G_target : ByteArray := prog_1_method_27_code
def y_G_target : MethodName := ⟨"MovingGuest", "target", "()LMovingGuest$Host;"⟩
def ws_G_target : List Cond := .code y_G_target b_G_target 1 (some (.object "MovingGuest$Host")) :: wAll
abbrev b_G_holdsStopped : ByteArray := prog_1_method_28_code
def y_G_holdsStopped : MethodName := ⟨"MovingGuest", "holdsStopped", "(I)Z"⟩
def ws_G_holdsStopped : List Cond := .code y_G_holdsStopped b_G_holdsStopped 2 (some .boolean) :: wAll
abbrev b_G_runsGuest : ByteArray := prog_1_method_29_code
def y_G_runsGuest : MethodName := ⟨"MovingGuest", "runsGuest", "(I)Z"⟩
def ws_G_runsGuest : List Cond := .code y_G_runsGuest b_G_runsGuest 2 (some .boolean) :: wAll
abbrev b_G_retireNext : ByteArray := prog_1_method_30_code
def y_G_retireNext : MethodName := ⟨"MovingGuest", "retireNext", "(LMovingGuest$Host;)Z"⟩
def ws_G_retireNext : List Cond := .code y_G_retireNext b_G_retireNext 4 (some .boolean) :: wAll
abbrev b_G_perform : ByteArray := prog_1_method_31_code
def y_G_perform : MethodName := ⟨"MovingGuest", "perform", "(LMovingGuest$Host;I)V"⟩
def ws_G_perform : List Cond := .code y_G_perform b_G_perform 6 none :: wAll
abbrev b_G_storeWord : ByteArray := prog_1_method_32_code
def y_G_storeWord : MethodName := ⟨"MovingGuest", "storeWord", "(LMovingGuest$Machine;II)V"⟩
def ws_G_storeWord : List Cond := .code y_G_storeWord b_G_storeWord 4 none :: wAll
abbrev b_G_sendPage : ByteArray := prog_1_method_33_code
def y_G_sendPage : MethodName := ⟨"MovingGuest", "sendPage", "(I)V"⟩
def ws_G_sendPage : List Cond := .code y_G_sendPage b_G_sendPage 4 none :: wAll
abbrev b_G_arrive : ByteArray := prog_1_method_34_code
def y_G_arrive : MethodName := ⟨"MovingGuest", "arrive", "(LMovingGuest$Piece;)V"⟩
def ws_G_arrive : List Cond := .code y_G_arrive b_G_arrive 2 none :: wAll
abbrev b_G_pageArrives : ByteArray := prog_1_method_35_code
def y_G_pageArrives : MethodName := ⟨"MovingGuest", "pageArrives", "(LMovingGuest$Piece;)V"⟩
def ws_G_pageArrives : List Cond := .code y_G_pageArrives b_G_pageArrives 3 none :: wAll
abbrev b_G_stateArrives : ByteArray := prog_1_method_36_code
def y_G_stateArrives : MethodName := ⟨"MovingGuest", "stateArrives", "(LMovingGuest$Piece;)V"⟩
def ws_G_stateArrives : List Cond := .code y_G_stateArrives b_G_stateArrives 3 none :: wAll
abbrev b_G_handOver : ByteArray := prog_1_method_37_code
def y_G_handOver : MethodName := ⟨"MovingGuest", "handOver", "()V"⟩
def ws_G_handOver : List Cond := .code y_G_handOver b_G_handOver 2 none :: wAll
abbrev b_G_endMove : ByteArray := prog_1_method_38_code
def y_G_endMove : MethodName := ⟨"MovingGuest", "endMove", "()V"⟩
def ws_G_endMove : List Cond := .code y_G_endMove b_G_endMove 1 none :: wAll
abbrev b_G_renewNumber : ByteArray := prog_1_method_39_code
def y_G_renewNumber : MethodName := ⟨"MovingGuest", "renewNumber", "(LMovingGuest$Host;)V"⟩
def ws_G_renewNumber : List Cond := .code y_G_renewNumber b_G_renewNumber 2 none :: wAll
abbrev b_M_init : ByteArray := prog_8_method_1_code
def y_M_init : MethodName := ⟨"MovingGuestModel", "<init>", "()V"⟩
def ws_M_init : List Cond := .code y_M_init b_M_init 1 none :: wAll
abbrev b_M_isHost : ByteArray := prog_8_method_2_code
def y_M_isHost : MethodName := ⟨"MovingGuestModel", "isHost", "(I)Z"⟩
def ws_M_isHost : List Cond := .code y_M_isHost b_M_isHost 1 (some .boolean) :: wAll
abbrev b_M_runs : ByteArray := prog_8_method_3_code
def y_M_runs : MethodName := ⟨"MovingGuestModel", "runs", "(I)Z"⟩
def ws_M_runs : List Cond := .code y_M_runs b_M_runs 2 (some .boolean) :: wAll
abbrev b_M_image : ByteArray := prog_8_method_4_code
def y_M_image : MethodName := ⟨"MovingGuestModel", "image", "(II)Z"⟩
def ws_M_image : List Cond := .code y_M_image b_M_image 3 (some .boolean) :: wAll
abbrev b_M_create : ByteArray := prog_8_method_5_code
def y_M_create : MethodName := ⟨"MovingGuestModel", "create", "(I)I"⟩
def ws_M_create : List Cond := .code y_M_create b_M_create 3 (some .int) :: wAll
abbrev b_M_order : ByteArray := prog_8_method_6_code
def y_M_order : MethodName := ⟨"MovingGuestModel", "order", "(I)V"⟩
def ws_M_order : List Cond := .code y_M_order b_M_order 2 none :: wAll
abbrev b_M_taken : ByteArray := prog_8_method_7_code
def y_M_taken : MethodName := ⟨"MovingGuestModel", "taken", "(I)I"⟩
def ws_M_taken : List Cond := .code y_M_taken b_M_taken 4 (some .int) :: wAll
abbrev b_M_written : ByteArray := prog_8_method_8_code
def y_M_written : MethodName := ⟨"MovingGuestModel", "written", "(III)V"⟩
def ws_M_written : List Cond := .code y_M_written b_M_written 4 none :: wAll
abbrev b_M_instruct : ByteArray := prog_8_method_9_code
def y_M_instruct : MethodName := ⟨"MovingGuestModel", "instruct", "(I)Z"⟩
def ws_M_instruct : List Cond := .code y_M_instruct b_M_instruct 10 (some .boolean) :: wAll
abbrev b_M_tick : ByteArray := prog_8_method_10_code
def y_M_tick : MethodName := ⟨"MovingGuestModel", "tick", "(I)V"⟩
def ws_M_tick : List Cond := .code y_M_tick b_M_tick 2 none :: wAll
abbrev b_M_run : ByteArray := prog_8_method_11_code
def y_M_run : MethodName := ⟨"MovingGuestModel", "run", "(II)I"⟩
def ws_M_run : List Cond := .code y_M_run b_M_run 4 (some .int) :: wAll
abbrev b_M_input : ByteArray := prog_8_method_12_code
def y_M_input : MethodName := ⟨"MovingGuestModel", "input", "(II)I"⟩
def ws_M_input : List Cond := .code y_M_input b_M_input 4 (some .int) :: wAll
abbrev b_M_disk : ByteArray := prog_8_method_13_code
def y_M_disk : MethodName := ⟨"MovingGuestModel", "disk", "(I)I"⟩
def ws_M_disk : List Cond := .code y_M_disk b_M_disk 2 (some .int) :: wAll
abbrev b_M_end : ByteArray := prog_8_method_14_code
def y_M_end : MethodName := ⟨"MovingGuestModel", "end", "()V"⟩
def ws_M_end : List Cond := .code y_M_end b_M_end 1 none :: wAll
abbrev b_M_move : ByteArray := prog_8_method_15_code
def y_M_move : MethodName := ⟨"MovingGuestModel", "move", "()I"⟩
def ws_M_move : List Cond := .code y_M_move b_M_move 2 (some .int) :: wAll
abbrev b_M_unknown : ByteArray := prog_8_method_16_code
def y_M_unknown : MethodName := ⟨"MovingGuestModel", "unknown", "()I"⟩
def ws_M_unknown : List Cond := .code y_M_unknown b_M_unknown 3 (some .int) :: wAll
abbrev b_M_due : ByteArray := prog_8_method_17_code
def y_M_due : MethodName := ⟨"MovingGuestModel", "due", "()I"⟩
def ws_M_due : List Cond := .code y_M_due b_M_due 2 (some .int) :: wAll
abbrev b_M_come : ByteArray := prog_8_method_18_code
def y_M_come : MethodName := ⟨"MovingGuestModel", "come", "(IIII)I"⟩
def ws_M_come : List Cond := .code y_M_come b_M_come 6 (some .int) :: wAll
abbrev b_M_sendPage : ByteArray := prog_8_method_19_code
def y_M_sendPage : MethodName := ⟨"MovingGuestModel", "sendPage", "(I)V"⟩
def ws_M_sendPage : List Cond := .code y_M_sendPage b_M_sendPage 4 none :: wAll
abbrev b_M_step : ByteArray := prog_8_method_20_code
def y_M_step : MethodName := ⟨"MovingGuestModel", "step", "()I"⟩
def ws_M_step : List Cond := .code y_M_step b_M_step 4 (some .int) :: wAll
abbrev b_M_handOver : ByteArray := prog_8_method_21_code
def y_M_handOver : MethodName := ⟨"MovingGuestModel", "handOver", "()V"⟩
def ws_M_handOver : List Cond := .code y_M_handOver b_M_handOver 3 none :: wAll
abbrev b_M_isPiece : ByteArray := prog_8_method_22_code
def y_M_isPiece : MethodName := ⟨"MovingGuestModel", "isPiece", "(I)Z"⟩
def ws_M_isPiece : List Cond := .code y_M_isPiece b_M_isPiece 2 (some .boolean) :: wAll
abbrev b_M_copy : ByteArray := prog_8_method_23_code
def y_M_copy : MethodName := ⟨"MovingGuestModel", "copy", "(II)V"⟩
def ws_M_copy : List Cond := .code y_M_copy b_M_copy 4 none :: wAll
abbrev b_M_leave : ByteArray := prog_8_method_24_code
def y_M_leave : MethodName := ⟨"MovingGuestModel", "leave", "(I)V"⟩
def ws_M_leave : List Cond := .code y_M_leave b_M_leave 3 none :: wAll
abbrev b_M_pageArrives : ByteArray := prog_8_method_25_code
def y_M_pageArrives : MethodName := ⟨"MovingGuestModel", "pageArrives", "(III)V"⟩
def ws_M_pageArrives : List Cond := .code y_M_pageArrives b_M_pageArrives 5 none :: wAll
abbrev b_M_stateArrives : ByteArray := prog_8_method_26_code
def y_M_stateArrives : MethodName := ⟨"MovingGuestModel", "stateArrives", "(I)V"⟩
def ws_M_stateArrives : List Cond := .code y_M_stateArrives b_M_stateArrives 3 none :: wAll
abbrev b_M_arrive : ByteArray := prog_8_method_27_code
def y_M_arrive : MethodName := ⟨"MovingGuestModel", "arrive", "()V"⟩
def ws_M_arrive : List Cond := .code y_M_arrive b_M_arrive 4 none :: wAll
abbrev b_M_deliver : ByteArray := prog_8_method_28_code
def y_M_deliver : MethodName := ⟨"MovingGuestModel", "deliver", "(I)I"⟩
def ws_M_deliver : List Cond := .code y_M_deliver b_M_deliver 3 (some .int) :: wAll
abbrev b_M_lose : ByteArray := prog_8_method_29_code
def y_M_lose : MethodName := ⟨"MovingGuestModel", "lose", "(I)I"⟩
def ws_M_lose : List Cond := .code y_M_lose b_M_lose 3 (some .int) :: wAll
abbrev b_M_twice : ByteArray := prog_8_method_30_code
def y_M_twice : MethodName := ⟨"MovingGuestModel", "twice", "(I)I"⟩
def ws_M_twice : List Cond := .code y_M_twice b_M_twice 2 (some .int) :: wAll
abbrev b_M_abort : ByteArray := prog_8_method_31_code
def y_M_abort : MethodName := ⟨"MovingGuestModel", "abort", "()Z"⟩
def ws_M_abort : List Cond := .code y_M_abort b_M_abort 2 (some .boolean) :: wAll
abbrev b_M_crash : ByteArray := prog_8_method_32_code
def y_M_crash : MethodName := ⟨"MovingGuestModel", "crash", "(I)Z"⟩
def ws_M_crash : List Cond := .code y_M_crash b_M_crash 2 (some .boolean) :: wAll
abbrev b_M_back : ByteArray := prog_8_method_33_code
def y_M_back : MethodName := ⟨"MovingGuestModel", "back", "(I)Z"⟩
def ws_M_back : List Cond := .code y_M_back b_M_back 2 (some .boolean) :: wAll
abbrev b_M_takeOver : ByteArray := prog_8_method_34_code
def y_M_takeOver : MethodName := ⟨"MovingGuestModel", "takeOver", "()Z"⟩
def ws_M_takeOver : List Cond := .code y_M_takeOver b_M_takeOver 1 (some .boolean) :: wAll
abbrev b_M_holder : ByteArray := prog_8_method_35_code
def y_M_holder : MethodName := ⟨"MovingGuestModel", "holder", "()I"⟩
def ws_M_holder : List Cond := .code y_M_holder b_M_holder 1 (some .int) :: wAll
abbrev b_M_told : ByteArray := prog_8_method_36_code
def y_M_told : MethodName := ⟨"MovingGuestModel", "told", "(I)I"⟩
def ws_M_told : List Cond := .code y_M_told b_M_told 2 (some .int) :: wAll
abbrev b_M_piece : ByteArray := prog_8_method_37_code
def y_M_piece : MethodName := ⟨"MovingGuestModel", "piece", "(II)I"⟩
def ws_M_piece : List Cond := .code y_M_piece b_M_piece 3 (some .int) :: wAll
abbrev b_M_isUp : ByteArray := prog_8_method_38_code
def y_M_isUp : MethodName := ⟨"MovingGuestModel", "isUp", "(I)Z"⟩
def ws_M_isUp : List Cond := .code y_M_isUp b_M_isUp 2 (some .boolean) :: wAll
abbrev b_M_guest : ByteArray := prog_8_method_39_code
def y_M_guest : MethodName := ⟨"MovingGuestModel", "guest", "(II)I"⟩
def ws_M_guest : List Cond := .code y_M_guest b_M_guest 4 (some .int) :: wAll
abbrev b_M_memory : ByteArray := prog_8_method_40_code
def y_M_memory : MethodName := ⟨"MovingGuestModel", "memory", "(II)I"⟩
def ws_M_memory : List Cond := .code y_M_memory b_M_memory 3 (some .int) :: wAll
abbrev b_M_output : ByteArray := prog_8_method_41_code
def y_M_output : MethodName := ⟨"MovingGuestModel", "output", "(II)I"⟩
def ws_M_output : List Cond := .code y_M_output b_M_output 3 (some .int) :: wAll
abbrev b_M_block : ByteArray := prog_8_method_42_code
def y_M_block : MethodName := ⟨"MovingGuestModel", "block", "(I)I"⟩
def ws_M_block : List Cond := .code y_M_block b_M_block 2 (some .int) :: wAll
abbrev b_H_init : ByteArray := prog_2_method_1_code
def y_H_init : MethodName := ⟨"MovingGuest$Host", "<init>", "()V"⟩
def ws_H_init : List Cond := .code y_H_init b_H_init 1 none :: wAll
abbrev b_H_order : ByteArray := prog_2_method_2_code
def y_H_order : MethodName := ⟨"MovingGuest$Host", "order", "(I)V"⟩
def ws_H_order : List Cond := .code y_H_order b_H_order 2 none :: wAll
abbrev b_H_joinAsTarget : ByteArray := prog_2_method_3_code
def y_H_joinAsTarget : MethodName := ⟨"MovingGuest$Host", "joinAsTarget", "()V"⟩
def ws_H_joinAsTarget : List Cond := .code y_H_joinAsTarget b_H_joinAsTarget 1 none :: wAll
abbrev b_H_leaveMove : ByteArray := prog_2_method_4_code
def y_H_leaveMove : MethodName := ⟨"MovingGuest$Host", "leaveMove", "()V"⟩
def ws_H_leaveMove : List Cond := .code y_H_leaveMove b_H_leaveMove 1 none :: wAll
abbrev b_H_fall : ByteArray := prog_2_method_5_code
def y_H_fall : MethodName := ⟨"MovingGuest$Host", "fall", "()V"⟩
def ws_H_fall : List Cond := .code y_H_fall b_H_fall 1 none :: wAll
abbrev b_L_init : ByteArray := prog_3_method_1_code
def y_L_init : MethodName := ⟨"MovingGuest$Link", "<init>", "()V"⟩
def ws_L_init : List Cond := .code y_L_init b_L_init 1 none :: wAll
abbrev b_L_add : ByteArray := prog_3_method_2_code
def y_L_add : MethodName := ⟨"MovingGuest$Link", "add", "(LMovingGuest$Piece;)V"⟩
def ws_L_add : List Cond := .code y_L_add b_L_add 2 none :: wAll
abbrev b_L_remove : ByteArray := prog_3_method_3_code
def y_L_remove : MethodName := ⟨"MovingGuest$Link", "remove", "(I)LMovingGuest$Piece;"⟩
def ws_L_remove : List Cond := .code y_L_remove b_L_remove 4 (some (.object "MovingGuest$Piece")) :: wAll
abbrev b_A_init : ByteArray := prog_4_method_1_code
def y_A_init : MethodName := ⟨"MovingGuest$Machine", "<init>", "()V"⟩
def ws_A_init : List Cond := .code y_A_init b_A_init 1 none :: wAll
abbrev b_A_clear : ByteArray := prog_4_method_2_code
def y_A_clear : MethodName := ⟨"MovingGuest$Machine", "clear", "()V"⟩
def ws_A_clear : List Cond := .code y_A_clear b_A_clear 1 none :: wAll
abbrev b_A_takeState : ByteArray := prog_4_method_3_code
def y_A_takeState : MethodName := ⟨"MovingGuest$Machine", "takeState", "(LMovingGuest$Machine;)V"⟩
def ws_A_takeState : List Cond := .code y_A_takeState b_A_takeState 2 none :: wAll
abbrev b_A_haltsOrWaits : ByteArray := prog_4_method_4_code
def y_A_haltsOrWaits : MethodName := ⟨"MovingGuest$Machine", "haltsOrWaits", "(I)Z"⟩
def ws_A_haltsOrWaits : List Cond := .code y_A_haltsOrWaits b_A_haltsOrWaits 4 (some .boolean) :: wAll
abbrev b_A_address : ByteArray := prog_4_method_5_code
def y_A_address : MethodName := ⟨"MovingGuest$Machine", "address", "(I)I"⟩
def ws_A_address : List Cond := .code y_A_address b_A_address 2 (some .int) :: wAll
abbrev b_A_request : ByteArray := prog_4_method_6_code
def y_A_request : MethodName := ⟨"MovingGuest$Machine", "request", "(II)V"⟩
def ws_A_request : List Cond := .code y_A_request b_A_request 3 none :: wAll
abbrev b_A_compute : ByteArray := prog_4_method_7_code
def y_A_compute : MethodName := ⟨"MovingGuest$Machine", "compute", "(I)V"⟩
def ws_A_compute : List Cond := .code y_A_compute b_A_compute 5 none :: wAll
abbrev b_A_write : ByteArray := prog_4_method_8_code
def y_A_write : MethodName := ⟨"MovingGuest$Machine", "write", "(I)V"⟩
def ws_A_write : List Cond := .code y_A_write b_A_write 2 none :: wAll
abbrev b_A_readOldest : ByteArray := prog_4_method_9_code
def y_A_readOldest : MethodName := ⟨"MovingGuest$Machine", "readOldest", "()I"⟩
def ws_A_readOldest : List Cond := .code y_A_readOldest b_A_readOldest 2 (some .int) :: wAll
abbrev b_A_tick : ByteArray := prog_4_method_10_code
def y_A_tick : MethodName := ⟨"MovingGuest$Machine", "tick", "()V"⟩
def ws_A_tick : List Cond := .code y_A_tick b_A_tick 1 none :: wAll
abbrev b_V_init : ByteArray := prog_5_method_1_code
def y_V_init : MethodName := ⟨"MovingGuest$Move", "<init>", "()V"⟩
def ws_V_init : List Cond := .code y_V_init b_V_init 1 none :: wAll
abbrev b_V_begin : ByteArray := prog_5_method_2_code
def y_V_begin : MethodName := ⟨"MovingGuest$Move", "begin", "(I)V"⟩
def ws_V_begin : List Cond := .code y_V_begin b_V_begin 2 none :: wAll
abbrev b_V_mustStop : ByteArray := prog_5_method_3_code
def y_V_mustStop : MethodName := ⟨"MovingGuest$Move", "mustStop", "()Z"⟩
def ws_V_mustStop : List Cond := .code y_V_mustStop b_V_mustStop 1 (some .boolean) :: wAll
abbrev b_V_unknownPages : ByteArray := prog_5_method_4_code
def y_V_unknownPages : MethodName := ⟨"MovingGuest$Move", "unknownPages", "()I"⟩
def ws_V_unknownPages : List Cond := .code y_V_unknownPages b_V_unknownPages 3 (some .int) :: wAll
abbrev b_V_nextDue : ByteArray := prog_5_method_5_code
def y_V_nextDue : MethodName := ⟨"MovingGuest$Move", "nextDue", "()I"⟩
def ws_V_nextDue : List Cond := .code y_V_nextDue b_V_nextDue 3 (some .int) :: wAll
abbrev b_V_markChanged : ByteArray := prog_5_method_6_code
def y_V_markChanged : MethodName := ⟨"MovingGuest$Move", "markChanged", "(I)V"⟩
def ws_V_markChanged : List Cond := .code y_V_markChanged b_V_markChanged 2 none :: wAll
abbrev b_V_markSent : ByteArray := prog_5_method_7_code
def y_V_markSent : MethodName := ⟨"MovingGuest$Move", "markSent", "(I)V"⟩
def ws_V_markSent : List Cond := .code y_V_markSent b_V_markSent 2 none :: wAll
abbrev b_V_makeSentDue : ByteArray := prog_5_method_8_code
def y_V_makeSentDue : MethodName := ⟨"MovingGuest$Move", "makeSentDue", "()V"⟩
def ws_V_makeSentDue : List Cond := .code y_V_makeSentDue b_V_makeSentDue 2 none :: wAll
abbrev b_V_markSeen : ByteArray := prog_5_method_9_code
def y_V_markSeen : MethodName := ⟨"MovingGuest$Move", "markSeen", "(II)V"⟩
def ws_V_markSeen : List Cond := .code y_V_markSeen b_V_markSeen 3 none :: wAll
abbrev b_P_init : ByteArray := prog_6_method_1_code
def y_P_init : MethodName := ⟨"MovingGuest$Piece", "<init>", "(IIII[I)V"⟩
def ws_P_init : List Cond := .code y_P_init b_P_init 6 none :: wAll
abbrev b_W_law : ByteArray := code
def y_W_law : MethodName := ⟨"MovingGuestLaw", "law", "([I)Z"⟩
def ws_W_law : List Cond := .code y_W_law b_W_law 4 (some .boolean) :: wAll
abbrev b_T_min : ByteArray := prog_10_method_69_code
def y_T_min : MethodName := ⟨"java/lang/Math", "min", "(II)I"⟩
def ws_T_min : List Cond := .code y_T_min b_T_min 2 (some .int) :: wAll
abbrev b_J_copyOfRange : ByteArray := prog_12_method_136_code
def y_J_copyOfRange : MethodName := ⟨"java/util/Arrays", "copyOfRange", "([III)[I"⟩
def ws_J_copyOfRange : List Cond := .code y_J_copyOfRange b_J_copyOfRange 3 (some (.array .int)) :: wAll
abbrev b_J_fill : ByteArray := prog_12_method_103_code
def y_J_fill : MethodName := ⟨"java/util/Arrays", "fill", "([II)V"⟩
def ws_J_fill : List Cond := .code y_J_fill b_J_fill 4 none :: wAll
abbrev b_J_copyOfRangeInt : ByteArray := prog_12_method_137_code
def y_J_copyOfRangeInt : MethodName := ⟨"java/util/Arrays", "copyOfRangeInt", "([III)[I"⟩
def ws_J_copyOfRangeInt : List Cond := .code y_J_copyOfRangeInt b_J_copyOfRangeInt 5 (some (.array .int)) :: wAll
abbrev b_J_checkLength : ByteArray := prog_12_method_131_code
def y_J_checkLength : MethodName := ⟨"java/util/Arrays", "checkLength", "(II)V"⟩
def ws_J_checkLength : List Cond := .code y_J_checkLength b_J_checkLength 2 none :: wAll
