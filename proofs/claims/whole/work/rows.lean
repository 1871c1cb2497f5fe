section
-- ===== PART A: goes FIRST, ahead of the names: the tables' words, and 'selects' of the private methods out of them =====
/-- a private method of a class that the tables say can be made, by its rows of tables_1 -/
def lw_okq (q : MethodName × Nat) : Prop := (q.1.cls ≠ "java/lang/invoke/MethodHandle" ∧ q.1.cls ≠ "java/lang/invoke/VarHandle") ∧ Cond.instantiable q.1.cls q.2 ∈ tables_1 ∧ Cond.privateMethod q.1 ∈ tables_1 ∧ Cond.instanceMethod q.1 ∈ tables_1
theorem lw_p0 : lw_okq (⟨"StripeFiles", "isRefused", "(III)Z"⟩, 6) := ⟨⟨by decide +kernel, by decide +kernel⟩, List.mem_of_getElem? (i := 18) (by decide +kernel), List.mem_of_getElem? (i := 155) (by decide +kernel), List.mem_of_getElem? (i := 156) (by decide +kernel)⟩
theorem lw_p1 : lw_okq (⟨"StripeFiles", "makeFile", "(I)I"⟩, 6) := ⟨⟨by decide +kernel, by decide +kernel⟩, List.mem_of_getElem? (i := 18) (by decide +kernel), List.mem_of_getElem? (i := 163) (by decide +kernel), List.mem_of_getElem? (i := 164) (by decide +kernel)⟩
theorem lw_p2 : lw_okq (⟨"StripeFiles$Shelf", "indexOf", "(LStripeFiles$Row;)I"⟩, 3) := ⟨⟨by decide +kernel, by decide +kernel⟩, List.mem_of_getElem? (i := 40) (by decide +kernel), List.mem_of_getElem? (i := 171) (by decide +kernel), List.mem_of_getElem? (i := 172) (by decide +kernel)⟩
theorem lw_p3 : lw_okq (⟨"StripeFiles$Shelf", "placeOf", "(LStripeFiles$Row;)I"⟩, 3) := ⟨⟨by decide +kernel, by decide +kernel⟩, List.mem_of_getElem? (i := 40) (by decide +kernel), List.mem_of_getElem? (i := 175) (by decide +kernel), List.mem_of_getElem? (i := 176) (by decide +kernel)⟩
theorem lw_p4 : lw_okq (⟨"StripeFiles$Shelf", "isAt", "(ILStripeFiles$Row;)Z"⟩, 3) := ⟨⟨by decide +kernel, by decide +kernel⟩, List.mem_of_getElem? (i := 40) (by decide +kernel), List.mem_of_getElem? (i := 209) (by decide +kernel), List.mem_of_getElem? (i := 210) (by decide +kernel)⟩
theorem lw_p5 : lw_okq (⟨"java/util/ArrayList", "fastRemove", "([Ljava/lang/Object;I)V"⟩, 3) := ⟨⟨by decide +kernel, by decide +kernel⟩, List.mem_of_getElem? (i := 46) (by decide +kernel), List.mem_of_getElem? (i := 258) (by decide +kernel), List.mem_of_getElem? (i := 259) (by decide +kernel)⟩
theorem lw_p6 : lw_okq (⟨"java/util/ArrayList", "rangeCheckForAdd", "(I)V"⟩, 3) := ⟨⟨by decide +kernel, by decide +kernel⟩, List.mem_of_getElem? (i := 46) (by decide +kernel), List.mem_of_getElem? (i := 272) (by decide +kernel), List.mem_of_getElem? (i := 273) (by decide +kernel)⟩
theorem lw_p7 : lw_okq (⟨"java/util/ArrayList", "grow", "()[Ljava/lang/Object;"⟩, 3) := ⟨⟨by decide +kernel, by decide +kernel⟩, List.mem_of_getElem? (i := 46) (by decide +kernel), List.mem_of_getElem? (i := 276) (by decide +kernel), List.mem_of_getElem? (i := 277) (by decide +kernel)⟩
theorem lw_p8 : lw_okq (⟨"java/util/ArrayList", "grow", "(I)[Ljava/lang/Object;"⟩, 3) := ⟨⟨by decide +kernel, by decide +kernel⟩, List.mem_of_getElem? (i := 46) (by decide +kernel), List.mem_of_getElem? (i := 280) (by decide +kernel), List.mem_of_getElem? (i := 281) (by decide +kernel)⟩
theorem lw_p9 : lw_okq (⟨"StripeFiles", "writeTape", "(III)I"⟩, 6) := ⟨⟨by decide +kernel, by decide +kernel⟩, List.mem_of_getElem? (i := 18) (by decide +kernel), List.mem_of_getElem? (i := 319) (by decide +kernel), List.mem_of_getElem? (i := 320) (by decide +kernel)⟩
theorem lw_p10 : lw_okq (⟨"StripeFiles$StripedFile", "lay", "(I)LStripeFiles$Piece;"⟩, 5) := ⟨⟨by decide +kernel, by decide +kernel⟩, List.mem_of_getElem? (i := 228) (by decide +kernel), List.mem_of_getElem? (i := 345) (by decide +kernel), List.mem_of_getElem? (i := 346) (by decide +kernel)⟩
theorem lw_p11 : lw_okq (⟨"StripeFiles", "renameFile", "()I"⟩, 6) := ⟨⟨by decide +kernel, by decide +kernel⟩, List.mem_of_getElem? (i := 18) (by decide +kernel), List.mem_of_getElem? (i := 373) (by decide +kernel), List.mem_of_getElem? (i := 374) (by decide +kernel)⟩
theorem lw_p12 : lw_okq (⟨"StripeFiles$StripedFile", "cutStripe", "(II)V"⟩, 5) := ⟨⟨by decide +kernel, by decide +kernel⟩, List.mem_of_getElem? (i := 228) (by decide +kernel), List.mem_of_getElem? (i := 386) (by decide +kernel), List.mem_of_getElem? (i := 387) (by decide +kernel)⟩
theorem lw_p13 : lw_okq (⟨"java/util/ArrayList", "add", "(Ljava/lang/Object;[Ljava/lang/Object;I)V"⟩, 3) := ⟨⟨by decide +kernel, by decide +kernel⟩, List.mem_of_getElem? (i := 46) (by decide +kernel), List.mem_of_getElem? (i := 405) (by decide +kernel), List.mem_of_getElem? (i := 406) (by decide +kernel)⟩
theorem lw_p14 : lw_okq (⟨"StripeFiles", "swapFiles", "()I"⟩, 6) := ⟨⟨by decide +kernel, by decide +kernel⟩, List.mem_of_getElem? (i := 18) (by decide +kernel), List.mem_of_getElem? (i := 415) (by decide +kernel), List.mem_of_getElem? (i := 416) (by decide +kernel)⟩
theorem lw_p15 : lw_okq (⟨"StripeFiles", "tellNextName", "()I"⟩, 6) := ⟨⟨by decide +kernel, by decide +kernel⟩, List.mem_of_getElem? (i := 18) (by decide +kernel), List.mem_of_getElem? (i := 427) (by decide +kernel), List.mem_of_getElem? (i := 428) (by decide +kernel)⟩
def lw_privs_1 : List (MethodName × Nat) := [(⟨"StripeFiles", "isRefused", "(III)Z"⟩, 6), (⟨"StripeFiles", "makeFile", "(I)I"⟩, 6), (⟨"StripeFiles$Shelf", "indexOf", "(LStripeFiles$Row;)I"⟩, 3), (⟨"StripeFiles$Shelf", "placeOf", "(LStripeFiles$Row;)I"⟩, 3), (⟨"StripeFiles$Shelf", "isAt", "(ILStripeFiles$Row;)Z"⟩, 3), (⟨"java/util/ArrayList", "fastRemove", "([Ljava/lang/Object;I)V"⟩, 3), (⟨"java/util/ArrayList", "rangeCheckForAdd", "(I)V"⟩, 3), (⟨"java/util/ArrayList", "grow", "()[Ljava/lang/Object;"⟩, 3), (⟨"java/util/ArrayList", "grow", "(I)[Ljava/lang/Object;"⟩, 3), (⟨"StripeFiles", "writeTape", "(III)I"⟩, 6), (⟨"StripeFiles$StripedFile", "lay", "(I)LStripeFiles$Piece;"⟩, 5), (⟨"StripeFiles", "renameFile", "()I"⟩, 6), (⟨"StripeFiles$StripedFile", "cutStripe", "(II)V"⟩, 5), (⟨"java/util/ArrayList", "add", "(Ljava/lang/Object;[Ljava/lang/Object;I)V"⟩, 3), (⟨"StripeFiles", "swapFiles", "()I"⟩, 6), (⟨"StripeFiles", "tellNextName", "()I"⟩, 6)]
theorem lw_r1 : ∀ q ∈ lw_privs_1, lw_okq q := List.forall_mem_cons.mpr ⟨lw_p0, List.forall_mem_cons.mpr ⟨lw_p1, List.forall_mem_cons.mpr ⟨lw_p2, List.forall_mem_cons.mpr ⟨lw_p3, List.forall_mem_cons.mpr ⟨lw_p4, List.forall_mem_cons.mpr ⟨lw_p5, List.forall_mem_cons.mpr ⟨lw_p6, List.forall_mem_cons.mpr ⟨lw_p7, List.forall_mem_cons.mpr ⟨lw_p8, List.forall_mem_cons.mpr ⟨lw_p9, List.forall_mem_cons.mpr ⟨lw_p10, List.forall_mem_cons.mpr ⟨lw_p11, List.forall_mem_cons.mpr ⟨lw_p12, List.forall_mem_cons.mpr ⟨lw_p13, List.forall_mem_cons.mpr ⟨lw_p14, List.forall_mem_cons.mpr ⟨lw_p15, fun _ h => absurd h List.not_mem_nil⟩⟩⟩⟩⟩⟩⟩⟩⟩⟩⟩⟩⟩⟩⟩⟩
theorem lw_p16 : lw_okq (⟨"StripeFiles", "runOnFile", "(III)I"⟩, 6) := ⟨⟨by decide +kernel, by decide +kernel⟩, List.mem_of_getElem? (i := 18) (by decide +kernel), List.mem_of_getElem? (i := 436) (by decide +kernel), List.mem_of_getElem? (i := 437) (by decide +kernel)⟩
theorem lw_p17 : lw_okq (⟨"StripeFiles", "cutFile", "(LStripeFiles$StripedFile;I)I"⟩, 6) := ⟨⟨by decide +kernel, by decide +kernel⟩, List.mem_of_getElem? (i := 18) (by decide +kernel), List.mem_of_getElem? (i := 440) (by decide +kernel), List.mem_of_getElem? (i := 441) (by decide +kernel)⟩
theorem lw_p18 : lw_okq (⟨"StripeFiles$StripedFile", "tell", "(IIILStripeFiles$Row;)V"⟩, 5) := ⟨⟨by decide +kernel, by decide +kernel⟩, List.mem_of_getElem? (i := 228) (by decide +kernel), List.mem_of_getElem? (i := 449) (by decide +kernel), List.mem_of_getElem? (i := 450) (by decide +kernel)⟩
theorem lw_p19 : lw_okq (⟨"StripeFilesModel", "put", "(I)V"⟩, 17) := ⟨⟨by decide +kernel, by decide +kernel⟩, List.mem_of_getElem? (i := 502) (by decide +kernel), List.mem_of_getElem? (i := 567) (by decide +kernel), List.mem_of_getElem? (i := 568) (by decide +kernel)⟩
theorem lw_p20 : lw_okq (⟨"StripeFilesModel", "find", "(I)I"⟩, 17) := ⟨⟨by decide +kernel, by decide +kernel⟩, List.mem_of_getElem? (i := 502) (by decide +kernel), List.mem_of_getElem? (i := 583) (by decide +kernel), List.mem_of_getElem? (i := 584) (by decide +kernel)⟩
theorem lw_p21 : lw_okq (⟨"StripeFilesModel", "compare", "(II)I"⟩, 17) := ⟨⟨by decide +kernel, by decide +kernel⟩, List.mem_of_getElem? (i := 502) (by decide +kernel), List.mem_of_getElem? (i := 587) (by decide +kernel), List.mem_of_getElem? (i := 588) (by decide +kernel)⟩
theorem lw_p22 : lw_okq (⟨"StripeFilesModel", "made", "(I)I"⟩, 17) := ⟨⟨by decide +kernel, by decide +kernel⟩, List.mem_of_getElem? (i := 502) (by decide +kernel), List.mem_of_getElem? (i := 591) (by decide +kernel), List.mem_of_getElem? (i := 592) (by decide +kernel)⟩
theorem lw_p23 : lw_okq (⟨"StripeFilesModel", "enter", "(II)V"⟩, 17) := ⟨⟨by decide +kernel, by decide +kernel⟩, List.mem_of_getElem? (i := 502) (by decide +kernel), List.mem_of_getElem? (i := 595) (by decide +kernel), List.mem_of_getElem? (i := 596) (by decide +kernel)⟩
theorem lw_p24 : lw_okq (⟨"StripeFilesModel", "write", "(IIZ)I"⟩, 17) := ⟨⟨by decide +kernel, by decide +kernel⟩, List.mem_of_getElem? (i := 502) (by decide +kernel), List.mem_of_getElem? (i := 599) (by decide +kernel), List.mem_of_getElem? (i := 600) (by decide +kernel)⟩
theorem lw_p25 : lw_okq (⟨"StripeFilesModel", "resize", "(II)V"⟩, 17) := ⟨⟨by decide +kernel, by decide +kernel⟩, List.mem_of_getElem? (i := 502) (by decide +kernel), List.mem_of_getElem? (i := 604) (by decide +kernel), List.mem_of_getElem? (i := 605) (by decide +kernel)⟩
theorem lw_p26 : lw_okq (⟨"StripeFilesModel", "cut", "(I)I"⟩, 17) := ⟨⟨by decide +kernel, by decide +kernel⟩, List.mem_of_getElem? (i := 502) (by decide +kernel), List.mem_of_getElem? (i := 608) (by decide +kernel), List.mem_of_getElem? (i := 609) (by decide +kernel)⟩
theorem lw_p27 : lw_okq (⟨"StripeFilesModel", "read", "(II)I"⟩, 17) := ⟨⟨by decide +kernel, by decide +kernel⟩, List.mem_of_getElem? (i := 502) (by decide +kernel), List.mem_of_getElem? (i := 612) (by decide +kernel), List.mem_of_getElem? (i := 613) (by decide +kernel)⟩
theorem lw_p28 : lw_okq (⟨"StripeFilesModel", "gone", "(I)I"⟩, 17) := ⟨⟨by decide +kernel, by decide +kernel⟩, List.mem_of_getElem? (i := 502) (by decide +kernel), List.mem_of_getElem? (i := 616) (by decide +kernel), List.mem_of_getElem? (i := 617) (by decide +kernel)⟩
theorem lw_p29 : lw_okq (⟨"StripeFilesModel", "leave", "(I)V"⟩, 17) := ⟨⟨by decide +kernel, by decide +kernel⟩, List.mem_of_getElem? (i := 502) (by decide +kernel), List.mem_of_getElem? (i := 620) (by decide +kernel), List.mem_of_getElem? (i := 621) (by decide +kernel)⟩
theorem lw_p30 : lw_okq (⟨"StripeFilesModel", "rename", "()I"⟩, 17) := ⟨⟨by decide +kernel, by decide +kernel⟩, List.mem_of_getElem? (i := 502) (by decide +kernel), List.mem_of_getElem? (i := 624) (by decide +kernel), List.mem_of_getElem? (i := 625) (by decide +kernel)⟩
theorem lw_p31 : lw_okq (⟨"StripeFilesModel", "swap", "()I"⟩, 17) := ⟨⟨by decide +kernel, by decide +kernel⟩, List.mem_of_getElem? (i := 502) (by decide +kernel), List.mem_of_getElem? (i := 628) (by decide +kernel), List.mem_of_getElem? (i := 629) (by decide +kernel)⟩
def lw_privs_2 : List (MethodName × Nat) := [(⟨"StripeFiles", "runOnFile", "(III)I"⟩, 6), (⟨"StripeFiles", "cutFile", "(LStripeFiles$StripedFile;I)I"⟩, 6), (⟨"StripeFiles$StripedFile", "tell", "(IIILStripeFiles$Row;)V"⟩, 5), (⟨"StripeFilesModel", "put", "(I)V"⟩, 17), (⟨"StripeFilesModel", "find", "(I)I"⟩, 17), (⟨"StripeFilesModel", "compare", "(II)I"⟩, 17), (⟨"StripeFilesModel", "made", "(I)I"⟩, 17), (⟨"StripeFilesModel", "enter", "(II)V"⟩, 17), (⟨"StripeFilesModel", "write", "(IIZ)I"⟩, 17), (⟨"StripeFilesModel", "resize", "(II)V"⟩, 17), (⟨"StripeFilesModel", "cut", "(I)I"⟩, 17), (⟨"StripeFilesModel", "read", "(II)I"⟩, 17), (⟨"StripeFilesModel", "gone", "(I)I"⟩, 17), (⟨"StripeFilesModel", "leave", "(I)V"⟩, 17), (⟨"StripeFilesModel", "rename", "()I"⟩, 17), (⟨"StripeFilesModel", "swap", "()I"⟩, 17)]
theorem lw_r2 : ∀ q ∈ lw_privs_2, lw_okq q := List.forall_mem_cons.mpr ⟨lw_p16, List.forall_mem_cons.mpr ⟨lw_p17, List.forall_mem_cons.mpr ⟨lw_p18, List.forall_mem_cons.mpr ⟨lw_p19, List.forall_mem_cons.mpr ⟨lw_p20, List.forall_mem_cons.mpr ⟨lw_p21, List.forall_mem_cons.mpr ⟨lw_p22, List.forall_mem_cons.mpr ⟨lw_p23, List.forall_mem_cons.mpr ⟨lw_p24, List.forall_mem_cons.mpr ⟨lw_p25, List.forall_mem_cons.mpr ⟨lw_p26, List.forall_mem_cons.mpr ⟨lw_p27, List.forall_mem_cons.mpr ⟨lw_p28, List.forall_mem_cons.mpr ⟨lw_p29, List.forall_mem_cons.mpr ⟨lw_p30, List.forall_mem_cons.mpr ⟨lw_p31, fun _ h => absurd h List.not_mem_nil⟩⟩⟩⟩⟩⟩⟩⟩⟩⟩⟩⟩⟩⟩⟩⟩
theorem lw_p32 : lw_okq (⟨"StripeFilesModel", "next", "()I"⟩, 17) := ⟨⟨by decide +kernel, by decide +kernel⟩, List.mem_of_getElem? (i := 502) (by decide +kernel), List.mem_of_getElem? (i := 632) (by decide +kernel), List.mem_of_getElem? (i := 633) (by decide +kernel)⟩
theorem lw_p33 : lw_okq (⟨"StripeFilesModel", "stripes", "(I)I"⟩, 17) := ⟨⟨by decide +kernel, by decide +kernel⟩, List.mem_of_getElem? (i := 502) (by decide +kernel), List.mem_of_getElem? (i := 644) (by decide +kernel), List.mem_of_getElem? (i := 645) (by decide +kernel)⟩
def lw_privs_3 : List (MethodName × Nat) := [(⟨"StripeFilesModel", "next", "()I"⟩, 17), (⟨"StripeFilesModel", "stripes", "(I)I"⟩, 17)]
theorem lw_r3 : ∀ q ∈ lw_privs_3, lw_okq q := List.forall_mem_cons.mpr ⟨lw_p32, List.forall_mem_cons.mpr ⟨lw_p33, fun _ h => absurd h List.not_mem_nil⟩⟩
def lw_privs : List (MethodName × Nat) := lw_privs_1 ++ (lw_privs_2 ++ (lw_privs_3))
def lw_tbl : List Cond := k2_sels lw_privs ++ tables_1
theorem lw_privs_ok : ∀ q ∈ lw_privs, lw_okq q := by
  show ∀ q ∈ lw_privs_1 ++ (lw_privs_2 ++ (lw_privs_3)), lw_okq q
  exact List.forall_mem_append.mpr ⟨lw_r1, List.forall_mem_append.mpr ⟨lw_r2, lw_r3⟩⟩
end
section
/-! NAMES: by program (wip/gen/names.py) out of the printed claim -/
def R_SF : String := "StripeFiles"
def R_Row : String := "StripeFiles$Row"
def R_Piece : String := "StripeFiles$Piece"
def R_Pool : String := "StripeFiles$PiecePool"
def R_File : String := "StripeFiles$StripedFile"
def R_Shelf : String := "StripeFiles$Shelf"
def R_Mdl : String := "StripeFilesModel"
def R_Law : String := "StripeFilesLaw"
def R_AL : String := "java/util/ArrayList"
def R_AbL : String := "java/util/AbstractList"
def R_AbC : String := "java/util/AbstractCollection"
def R_Objs : String := "java/util/Objects"
def R_Prec : String := "jdk/internal/util/Preconditions"
def R_ASup : String := "jdk/internal/util/ArraysSupport"
def R_Arrs : String := "java/util/Arrays"
def R_Math : String := "java/lang/Math"
def R_Obj : String := "java/lang/Object"
def R_Sys : String := "java/lang/System"
def F_SF : u_T := fun k => match k with
  | 0 => ("StripeFiles", "tape", "LStripeFiles$Row;", true)
  | 1 => ("StripeFiles", "firstName", "LStripeFiles$Row;", true)
  | 2 => ("StripeFiles", "secondName", "LStripeFiles$Row;", true)
  | 3 => ("StripeFiles", "latestTold", "LStripeFiles$Row;", true)
  | 4 => ("StripeFiles", "shelf", "LStripeFiles$Shelf;", true)
  | _ => ("StripeFiles", "operations", "I", false)
def t_SF : Nat → FieldType := fun k => match k with
  | 0 => (.object "StripeFiles$Row")
  | 1 => (.object "StripeFiles$Row")
  | 2 => (.object "StripeFiles$Row")
  | 3 => (.object "StripeFiles$Row")
  | 4 => (.object "StripeFiles$Shelf")
  | _ => .int
theorem n_SF : ∀ a, a < 6 → ∀ b, b < 6 → a ≠ b → (F_SF a).2.1 ≠ (F_SF b).2.1 := by decide +kernel
theorem tk_SF : ∀ k, k < 6 → parseFieldDescriptor (F_SF k).2.2.1 = some (t_SF k) := by decide +kernel
def F_Row : u_T := fun k => match k with
  | 0 => ("StripeFiles$Row", "bytes", "[B", true)
  | _ => ("StripeFiles$Row", "length", "I", false)
def t_Row : Nat → FieldType := fun k => match k with
  | 0 => (.array .byte)
  | _ => .int
theorem n_Row : ∀ a, a < 2 → ∀ b, b < 2 → a ≠ b → (F_Row a).2.1 ≠ (F_Row b).2.1 := by decide +kernel
theorem tk_Row : ∀ k, k < 2 → parseFieldDescriptor (F_Row k).2.2.1 = some (t_Row k) := by decide +kernel
def F_Piece : u_T := fun k => match k with
  | _ => ("StripeFiles$Piece", "bytes", "[B", true)
def t_Piece : Nat → FieldType := fun k => match k with
  | _ => (.array .byte)
theorem n_Piece : ∀ a, a < 1 → ∀ b, b < 1 → a ≠ b → (F_Piece a).2.1 ≠ (F_Piece b).2.1 := by decide +kernel
theorem tk_Piece : ∀ k, k < 1 → parseFieldDescriptor (F_Piece k).2.2.1 = some (t_Piece k) := by decide +kernel
def F_Pool : u_T := fun k => match k with
  | _ => ("StripeFiles$PiecePool", "spare", "Ljava/util/ArrayList;", true)
def t_Pool : Nat → FieldType := fun k => match k with
  | _ => (.object "java/util/ArrayList")
theorem n_Pool : ∀ a, a < 1 → ∀ b, b < 1 → a ≠ b → (F_Pool a).2.1 ≠ (F_Pool b).2.1 := by decide +kernel
theorem tk_Pool : ∀ k, k < 1 → parseFieldDescriptor (F_Pool k).2.2.1 = some (t_Pool k) := by decide +kernel
def F_File : u_T := fun k => match k with
  | 0 => ("StripeFiles$StripedFile", "pool", "LStripeFiles$PiecePool;", true)
  | 1 => ("StripeFiles$StripedFile", "title", "LStripeFiles$Row;", true)
  | 2 => ("StripeFiles$StripedFile", "pieces", "[LStripeFiles$Piece;", true)
  | 3 => ("StripeFiles$StripedFile", "id", "I", false)
  | _ => ("StripeFiles$StripedFile", "length", "I", false)
def t_File : Nat → FieldType := fun k => match k with
  | 0 => (.object "StripeFiles$PiecePool")
  | 1 => (.object "StripeFiles$Row")
  | 2 => (.array (.object "StripeFiles$Piece"))
  | 3 => .int
  | _ => .int
theorem n_File : ∀ a, a < 5 → ∀ b, b < 5 → a ≠ b → (F_File a).2.1 ≠ (F_File b).2.1 := by decide +kernel
theorem tk_File : ∀ k, k < 5 → parseFieldDescriptor (F_File k).2.2.1 = some (t_File k) := by decide +kernel
def F_Shelf : u_T := fun k => match k with
  | 0 => ("StripeFiles$Shelf", "ordered", "Ljava/util/ArrayList;", true)
  | 1 => ("StripeFiles$Shelf", "spare", "Ljava/util/ArrayList;", true)
  | _ => ("StripeFiles$Shelf", "pool", "LStripeFiles$PiecePool;", true)
def t_Shelf : Nat → FieldType := fun k => match k with
  | 0 => (.object "java/util/ArrayList")
  | 1 => (.object "java/util/ArrayList")
  | _ => (.object "StripeFiles$PiecePool")
theorem n_Shelf : ∀ a, a < 3 → ∀ b, b < 3 → a ≠ b → (F_Shelf a).2.1 ≠ (F_Shelf b).2.1 := by decide +kernel
theorem tk_Shelf : ∀ k, k < 3 → parseFieldDescriptor (F_Shelf k).2.2.1 = some (t_Shelf k) := by decide +kernel
def F_AL : u_T := fun k => match k with
  | 0 => ("java/util/AbstractList", "modCount", "I", false)
  | 1 => ("java/util/ArrayList", "elementData", "[Ljava/lang/Object;", false)
  | _ => ("java/util/ArrayList", "size", "I", false)
def t_AL : Nat → FieldType := fun k => match k with
  | 0 => .int
  | 1 => (.array (.object "java/lang/Object"))
  | _ => .int
theorem n_AL : ∀ a, a < 3 → ∀ b, b < 3 → a ≠ b → (F_AL a).2.1 ≠ (F_AL b).2.1 := by decide +kernel
theorem tk_AL : ∀ k, k < 3 → parseFieldDescriptor (F_AL k).2.2.1 = some (t_AL k) := by decide +kernel
def F_Mdl : u_T := fun k => match k with
  | 0 => ("StripeFilesModel", "tape", "[B", true)
  | 1 => ("StripeFilesModel", "tapeLength", "I", false)
  | 2 => ("StripeFilesModel", "names", "[B", true)
  | 3 => ("StripeFilesModel", "nameLength", "[I", true)
  | 4 => ("StripeFilesModel", "order", "[I", true)
  | 5 => ("StripeFilesModel", "used", "[Z", true)
  | 6 => ("StripeFilesModel", "fileName", "[B", true)
  | 7 => ("StripeFilesModel", "fileNameLength", "[I", true)
  | 8 => ("StripeFilesModel", "fileId", "[I", true)
  | 9 => ("StripeFilesModel", "fileSize", "[I", true)
  | 10 => ("StripeFilesModel", "bytes", "[B", true)
  | 11 => ("StripeFilesModel", "laid", "[Z", true)
  | 12 => ("StripeFilesModel", "files", "I", false)
  | 13 => ("StripeFilesModel", "total", "I", false)
  | 14 => ("StripeFilesModel", "operations", "I", false)
  | 15 => ("StripeFilesModel", "told", "[I", true)
  | _ => ("StripeFilesModel", "toldLength", "I", false)
def t_Mdl : Nat → FieldType := fun k => match k with
  | 0 => (.array .byte)
  | 1 => .int
  | 2 => (.array .byte)
  | 3 => (.array .int)
  | 4 => (.array .int)
  | 5 => (.array .boolean)
  | 6 => (.array .byte)
  | 7 => (.array .int)
  | 8 => (.array .int)
  | 9 => (.array .int)
  | 10 => (.array .byte)
  | 11 => (.array .boolean)
  | 12 => .int
  | 13 => .int
  | 14 => .int
  | 15 => (.array .int)
  | _ => .int
theorem n_Mdl : ∀ a, a < 17 → ∀ b, b < 17 → a ≠ b → (F_Mdl a).2.1 ≠ (F_Mdl b).2.1 := by decide +kernel
theorem tk_Mdl : ∀ k, k < 17 → parseFieldDescriptor (F_Mdl k).2.2.1 = some (t_Mdl k) := by decide +kernel
abbrev gcl : List vw_C := [(R_SF, F_SF, 6), (R_Row, F_Row, 2), (R_Piece, F_Piece, 1), (R_Pool, F_Pool, 1), (R_File, F_File, 5), (R_Shelf, F_Shelf, 3), (R_AL, F_AL, 3), (R_Mdl, F_Mdl, 17)]
/-- the words that every method may take along -/
def gw : List Cond := lw_tbl.filter goodWord
theorem gw_in {w : Cond} (h : w ∈ gw) : w ∈ lw_tbl := (List.mem_filter.mp h).1
theorem gw_ok {w : Cond} (h : w ∈ gw) : goodWord w = true := (List.mem_filter.mp h).2
theorem gw_1 {w : Cond} (i : Nat) (h : tables_1_1[i]? = some w) (hg : goodWord w = true) : w ∈ gw := List.mem_filter.mpr ⟨List.mem_append_right _ (show w ∈ tables_1_1 ++ (tables_1_2 ++ tables_1_3) from List.mem_append_left _ (List.mem_of_getElem? h)), hg⟩
theorem tw_1 {w : Cond} (i : Nat) (h : tables_1_1[i]? = some w) : w ∈ lw_tbl := List.mem_append_right _ (show w ∈ tables_1_1 ++ (tables_1_2 ++ tables_1_3) from List.mem_append_left _ (List.mem_of_getElem? h))
theorem gw_2 {w : Cond} (i : Nat) (h : tables_1_2[i]? = some w) (hg : goodWord w = true) : w ∈ gw := List.mem_filter.mpr ⟨List.mem_append_right _ (show w ∈ tables_1_1 ++ (tables_1_2 ++ tables_1_3) from List.mem_append_right _ (List.mem_append_left _ (List.mem_of_getElem? h))), hg⟩
theorem tw_2 {w : Cond} (i : Nat) (h : tables_1_2[i]? = some w) : w ∈ lw_tbl := List.mem_append_right _ (show w ∈ tables_1_1 ++ (tables_1_2 ++ tables_1_3) from List.mem_append_right _ (List.mem_append_left _ (List.mem_of_getElem? h)))
theorem gw_3 {w : Cond} (i : Nat) (h : tables_1_3[i]? = some w) (hg : goodWord w = true) : w ∈ gw := List.mem_filter.mpr ⟨List.mem_append_right _ (show w ∈ tables_1_1 ++ (tables_1_2 ++ tables_1_3) from List.mem_append_right _ (List.mem_append_right _ (List.mem_of_getElem? h))), hg⟩
theorem tw_3 {w : Cond} (i : Nat) (h : tables_1_3[i]? = some w) : w ∈ lw_tbl := List.mem_append_right _ (show w ∈ tables_1_1 ++ (tables_1_2 ++ tables_1_3) from List.mem_append_right _ (List.mem_append_right _ (List.mem_of_getElem? h)))
abbrev b_SF_init : ByteArray := prog_1_method_1_code
def y_SF_init : MethodName := ⟨R_SF, "<init>", "()V"⟩
abbrev b_Obj_init : ByteArray := object_method_1_code
def y_Obj_init : MethodName := ⟨R_Obj, "<init>", "()V"⟩
abbrev b_Row_init : ByteArray := prog_4_method_1_code
def y_Row_init : MethodName := ⟨R_Row, "<init>", "(I)V"⟩
abbrev b_Shelf_init : ByteArray := prog_5_method_1_code
def y_Shelf_init : MethodName := ⟨R_Shelf, "<init>", "()V"⟩
abbrev b_AL_init : ByteArray := prog_16_method_2_code
def y_AL_init : MethodName := ⟨R_AL, "<init>", "()V"⟩
abbrev b_AbL_init : ByteArray := prog_15_method_1_code
def y_AbL_init : MethodName := ⟨R_AbL, "<init>", "()V"⟩
abbrev b_AbC_init : ByteArray := prog_14_method_1_code
def y_AbC_init : MethodName := ⟨R_AbC, "<init>", "()V"⟩
abbrev b_Pool_init : ByteArray := prog_3_method_1_code
def y_Pool_init : MethodName := ⟨R_Pool, "<init>", "()V"⟩
abbrev b_SF_feed : ByteArray := prog_1_method_2_code
def y_SF_feed : MethodName := ⟨R_SF, "feed", "(IIIII)I"⟩
abbrev b_Row_length : ByteArray := prog_4_method_2_code
def y_Row_length : MethodName := ⟨R_Row, "length", "()I"⟩
abbrev b_Row_addWord : ByteArray := prog_4_method_6_code
def y_Row_addWord : MethodName := ⟨R_Row, "addWord", "(I)V"⟩
abbrev b_SF_end : ByteArray := prog_1_method_3_code
def y_SF_end : MethodName := ⟨R_SF, "end", "(I)I"⟩
abbrev b_SF_isWithin : ByteArray := prog_1_method_11_code
def y_SF_isWithin : MethodName := ⟨R_SF, "isWithin", "(II)Z"⟩
abbrev b_Row_shorten : ByteArray := prog_4_method_5_code
def y_Row_shorten : MethodName := ⟨R_Row, "shorten", "(I)V"⟩
abbrev b_SF_name : ByteArray := prog_1_method_4_code
def y_SF_name : MethodName := ⟨R_SF, "name", "(I)I"⟩
abbrev b_Row_become : ByteArray := prog_4_method_9_code
def y_Row_become : MethodName := ⟨R_Row, "become", "(LStripeFiles$Row;)V"⟩
abbrev b_Row_addBytes : ByteArray := prog_4_method_7_code
def y_Row_addBytes : MethodName := ⟨R_Row, "addBytes", "([BII)V"⟩
abbrev b_SF_run : ByteArray := prog_1_method_5_code
def y_SF_run : MethodName := ⟨R_SF, "run", "(III)I"⟩
abbrev b_SF_isRefused : ByteArray := prog_1_method_10_code
def y_SF_isRefused : MethodName := ⟨R_SF, "isRefused", "(III)Z"⟩
abbrev b_Row_isEmpty : ByteArray := prog_4_method_3_code
def y_Row_isEmpty : MethodName := ⟨R_Row, "isEmpty", "()Z"⟩
abbrev b_SF_makeFile : ByteArray := prog_1_method_12_code
def y_SF_makeFile : MethodName := ⟨R_SF, "makeFile", "(I)I"⟩
abbrev b_Shelf_find : ByteArray := prog_5_method_8_code
def y_Shelf_find : MethodName := ⟨R_Shelf, "find", "(LStripeFiles$Row;)LStripeFiles$StripedFile;"⟩
abbrev b_Shelf_indexOf : ByteArray := prog_5_method_14_code
def y_Shelf_indexOf : MethodName := ⟨R_Shelf, "indexOf", "(LStripeFiles$Row;)I"⟩
abbrev b_Shelf_placeOf : ByteArray := prog_5_method_16_code
def y_Shelf_placeOf : MethodName := ⟨R_Shelf, "placeOf", "(LStripeFiles$Row;)I"⟩
abbrev b_AL_size : ByteArray := prog_16_method_8_code
def y_AL_size : MethodName := ⟨R_AL, "size", "()I"⟩
abbrev b_AL_get : ByteArray := prog_16_method_20_code
def y_AL_get : MethodName := ⟨R_AL, "get", "(I)Ljava/lang/Object;"⟩
abbrev b_Objs_checkIndex : ByteArray := prog_20_method_17_code
def y_Objs_checkIndex : MethodName := ⟨R_Objs, "checkIndex", "(II)I"⟩
abbrev b_Prec_checkIndex : ByteArray := prog_24_method_11_code
def y_Prec_checkIndex : MethodName := ⟨R_Prec, "checkIndex", "(IILjava/util/function/BiFunction;)I"⟩
abbrev b_AL_elementData : ByteArray := prog_16_method_18_code
def y_AL_elementData : MethodName := ⟨R_AL, "elementData", "(I)Ljava/lang/Object;"⟩
abbrev b_File_title : ByteArray := prog_6_method_3_code
def y_File_title : MethodName := ⟨R_File, "title", "()LStripeFiles$Row;"⟩
abbrev b_Row_compareWith : ByteArray := prog_4_method_11_code
def y_Row_compareWith : MethodName := ⟨R_Row, "compareWith", "(LStripeFiles$Row;)I"⟩
abbrev b_Math_min : ByteArray := prog_12_method_69_code
def y_Math_min : MethodName := ⟨R_Math, "min", "(II)I"⟩
abbrev b_Shelf_isAt : ByteArray := prog_5_method_15_code
def y_Shelf_isAt : MethodName := ⟨R_Shelf, "isAt", "(ILStripeFiles$Row;)Z"⟩
abbrev b_Shelf_fileAt : ByteArray := prog_5_method_7_code
def y_Shelf_fileAt : MethodName := ⟨R_Shelf, "fileAt", "(I)LStripeFiles$StripedFile;"⟩
abbrev b_Shelf_isFull : ByteArray := prog_5_method_3_code
def y_Shelf_isFull : MethodName := ⟨R_Shelf, "isFull", "()Z"⟩
abbrev b_Shelf_make : ByteArray := prog_5_method_10_code
def y_Shelf_make : MethodName := ⟨R_Shelf, "make", "(LStripeFiles$Row;I)LStripeFiles$StripedFile;"⟩
abbrev b_AL_isEmpty : ByteArray := prog_16_method_9_code
def y_AL_isEmpty : MethodName := ⟨R_AL, "isEmpty", "()Z"⟩
abbrev b_File_init : ByteArray := prog_6_method_1_code
def y_File_init : MethodName := ⟨R_File, "<init>", "(LStripeFiles$PiecePool;)V"⟩
abbrev b_AL_remove : ByteArray := prog_16_method_29_code
def y_AL_remove : MethodName := ⟨R_AL, "remove", "(I)Ljava/lang/Object;"⟩
abbrev b_AL_fastRemove : ByteArray := prog_16_method_39_code
def y_AL_fastRemove : MethodName := ⟨R_AL, "fastRemove", "([Ljava/lang/Object;I)V"⟩
abbrev b_File_begin : ByteArray := prog_6_method_2_code
def y_File_begin : MethodName := ⟨R_File, "begin", "(LStripeFiles$Row;I)V"⟩
abbrev b_AL_add1 : ByteArray := prog_16_method_26_code
def y_AL_add1 : MethodName := ⟨R_AL, "add", "(ILjava/lang/Object;)V"⟩
abbrev b_AL_rangeCheckForAdd : ByteArray := prog_16_method_45_code
def y_AL_rangeCheckForAdd : MethodName := ⟨R_AL, "rangeCheckForAdd", "(I)V"⟩
abbrev b_AL_grow1 : ByteArray := prog_16_method_7_code
def y_AL_grow1 : MethodName := ⟨R_AL, "grow", "()[Ljava/lang/Object;"⟩
abbrev b_AL_grow2 : ByteArray := prog_16_method_6_code
def y_AL_grow2 : MethodName := ⟨R_AL, "grow", "(I)[Ljava/lang/Object;"⟩
abbrev b_ASup_newLength : ByteArray := prog_23_method_27_code
def y_ASup_newLength : MethodName := ⟨R_ASup, "newLength", "(III)I"⟩
abbrev b_Math_max : ByteArray := prog_12_method_65_code
def y_Math_max : MethodName := ⟨R_Math, "max", "(II)I"⟩
abbrev b_ASup_hugeLength : ByteArray := prog_23_method_28_code
def y_ASup_hugeLength : MethodName := ⟨R_ASup, "hugeLength", "(II)I"⟩
abbrev b_Arrs_copyOf1 : ByteArray := prog_17_method_119_code
def y_Arrs_copyOf1 : MethodName := ⟨R_Arrs, "copyOf", "([Ljava/lang/Object;I)[Ljava/lang/Object;"⟩
abbrev b_Arrs_copyOf2 : ByteArray := prog_17_method_120_code
def y_Arrs_copyOf2 : MethodName := ⟨R_Arrs, "copyOf", "([Ljava/lang/Object;ILjava/lang/Class;)[Ljava/lang/Object;"⟩
abbrev b_SF_writeTape : ByteArray := prog_1_method_13_code
def y_SF_writeTape : MethodName := ⟨R_SF, "writeTape", "(III)I"⟩
abbrev b_File_length : ByteArray := prog_6_method_5_code
def y_File_length : MethodName := ⟨R_File, "length", "()I"⟩
abbrev b_Shelf_hasRoom : ByteArray := prog_5_method_6_code
def y_Shelf_hasRoom : MethodName := ⟨R_Shelf, "hasRoom", "(II)Z"⟩
abbrev b_Shelf_allBytes : ByteArray := prog_5_method_4_code
def y_Shelf_allBytes : MethodName := ⟨R_Shelf, "allBytes", "()I"⟩
abbrev b_File_write : ByteArray := prog_6_method_8_code
def y_File_write : MethodName := ⟨R_File, "write", "(ILStripeFiles$Row;)V"⟩
abbrev b_File_lay : ByteArray := prog_6_method_9_code
def y_File_lay : MethodName := ⟨R_File, "lay", "(I)LStripeFiles$Piece;"⟩
abbrev b_Pool_takeBlank : ByteArray := prog_3_method_2_code
def y_Pool_takeBlank : MethodName := ⟨R_Pool, "takeBlank", "()LStripeFiles$Piece;"⟩
abbrev b_Piece_init : ByteArray := prog_2_method_1_code
def y_Piece_init : MethodName := ⟨R_Piece, "<init>", "()V"⟩
abbrev b_Row_copyTo : ByteArray := prog_4_method_10_code
def y_Row_copyTo : MethodName := ⟨R_Row, "copyTo", "([BIII)V"⟩
abbrev b_SF_renameFile : ByteArray := prog_1_method_16_code
def y_SF_renameFile : MethodName := ⟨R_SF, "renameFile", "()I"⟩
abbrev b_Shelf_remove : ByteArray := prog_5_method_11_code
def y_Shelf_remove : MethodName := ⟨R_Shelf, "remove", "(LStripeFiles$Row;)Z"⟩
abbrev b_File_cut : ByteArray := prog_6_method_12_code
def y_File_cut : MethodName := ⟨R_File, "cut", "(I)V"⟩
abbrev b_File_cutStripe : ByteArray := prog_6_method_13_code
def y_File_cutStripe : MethodName := ⟨R_File, "cutStripe", "(II)V"⟩
abbrev b_Arrs_fill : ByteArray := prog_17_method_110_code
def y_Arrs_fill : MethodName := ⟨R_Arrs, "fill", "([BIIB)V"⟩
abbrev b_Arrs_rangeCheck : ByteArray := prog_17_method_30_code
def y_Arrs_rangeCheck : MethodName := ⟨R_Arrs, "rangeCheck", "(III)V"⟩
abbrev b_Pool_giveBack : ByteArray := prog_3_method_3_code
def y_Pool_giveBack : MethodName := ⟨R_Pool, "giveBack", "(LStripeFiles$Piece;)V"⟩
abbrev b_AL_add2 : ByteArray := prog_16_method_25_code
def y_AL_add2 : MethodName := ⟨R_AL, "add", "(Ljava/lang/Object;)Z"⟩
abbrev b_AL_add3 : ByteArray := prog_16_method_24_code
def y_AL_add3 : MethodName := ⟨R_AL, "add", "(Ljava/lang/Object;[Ljava/lang/Object;I)V"⟩
abbrev b_Shelf_rename : ByteArray := prog_5_method_12_code
def y_Shelf_rename : MethodName := ⟨R_Shelf, "rename", "(LStripeFiles$Row;LStripeFiles$Row;)V"⟩
abbrev b_SF_swapFiles : ByteArray := prog_1_method_17_code
def y_SF_swapFiles : MethodName := ⟨R_SF, "swapFiles", "()I"⟩
abbrev b_Shelf_swap : ByteArray := prog_5_method_13_code
def y_Shelf_swap : MethodName := ⟨R_Shelf, "swap", "(LStripeFiles$Row;LStripeFiles$Row;)Z"⟩
abbrev b_AL_set : ByteArray := prog_16_method_23_code
def y_AL_set : MethodName := ⟨R_AL, "set", "(ILjava/lang/Object;)Ljava/lang/Object;"⟩
abbrev b_SF_tellNextName : ByteArray := prog_1_method_18_code
def y_SF_tellNextName : MethodName := ⟨R_SF, "tellNextName", "()I"⟩
abbrev b_Shelf_findAfter : ByteArray := prog_5_method_9_code
def y_Shelf_findAfter : MethodName := ⟨R_Shelf, "findAfter", "(LStripeFiles$Row;)LStripeFiles$StripedFile;"⟩
abbrev b_SF_runOnFile : ByteArray := prog_1_method_14_code
def y_SF_runOnFile : MethodName := ⟨R_SF, "runOnFile", "(III)I"⟩
abbrev b_SF_cutFile : ByteArray := prog_1_method_15_code
def y_SF_cutFile : MethodName := ⟨R_SF, "cutFile", "(LStripeFiles$StripedFile;I)I"⟩
abbrev b_File_read : ByteArray := prog_6_method_10_code
def y_File_read : MethodName := ⟨R_File, "read", "(IILStripeFiles$Row;)V"⟩
abbrev b_File_tell : ByteArray := prog_6_method_11_code
def y_File_tell : MethodName := ⟨R_File, "tell", "(IIILStripeFiles$Row;)V"⟩
abbrev b_Row_addZeros : ByteArray := prog_4_method_8_code
def y_Row_addZeros : MethodName := ⟨R_Row, "addZeros", "(I)V"⟩
abbrev b_SF_told : ByteArray := prog_1_method_6_code
def y_SF_told : MethodName := ⟨R_SF, "told", "(I)I"⟩
abbrev b_Row_byteAt : ByteArray := prog_4_method_4_code
def y_Row_byteAt : MethodName := ⟨R_Row, "byteAt", "(I)I"⟩
abbrev b_SF_file : ByteArray := prog_1_method_7_code
def y_SF_file : MethodName := ⟨R_SF, "file", "(II)I"⟩
abbrev b_File_id : ByteArray := prog_6_method_4_code
def y_File_id : MethodName := ⟨R_File, "id", "()I"⟩
abbrev b_File_laidStripes : ByteArray := prog_6_method_6_code
def y_File_laidStripes : MethodName := ⟨R_File, "laidStripes", "()I"⟩
abbrev b_SF_piece : ByteArray := prog_1_method_8_code
def y_SF_piece : MethodName := ⟨R_SF, "piece", "(III)I"⟩
abbrev b_File_keptByte : ByteArray := prog_6_method_7_code
def y_File_keptByte : MethodName := ⟨R_File, "keptByte", "(II)I"⟩
abbrev b_SF_count : ByteArray := prog_1_method_9_code
def y_SF_count : MethodName := ⟨R_SF, "count", "(I)I"⟩
abbrev b_Shelf_size : ByteArray := prog_5_method_2_code
def y_Shelf_size : MethodName := ⟨R_Shelf, "size", "()I"⟩
abbrev b_Shelf_laidStripes : ByteArray := prog_5_method_5_code
def y_Shelf_laidStripes : MethodName := ⟨R_Shelf, "laidStripes", "()I"⟩
abbrev b_Mdl_init : ByteArray := prog_8_method_1_code
def y_Mdl_init : MethodName := ⟨R_Mdl, "<init>", "()V"⟩
abbrev b_Mdl_feed : ByteArray := prog_8_method_3_code
def y_Mdl_feed : MethodName := ⟨R_Mdl, "feed", "(IIIII)I"⟩
abbrev b_Mdl_put : ByteArray := prog_8_method_2_code
def y_Mdl_put : MethodName := ⟨R_Mdl, "put", "(I)V"⟩
abbrev b_Mdl_end : ByteArray := prog_8_method_4_code
def y_Mdl_end : MethodName := ⟨R_Mdl, "end", "(I)I"⟩
abbrev b_Mdl_name : ByteArray := prog_8_method_5_code
def y_Mdl_name : MethodName := ⟨R_Mdl, "name", "(I)I"⟩
abbrev b_Mdl_run : ByteArray := prog_8_method_19_code
def y_Mdl_run : MethodName := ⟨R_Mdl, "run", "(III)I"⟩
abbrev b_Mdl_find : ByteArray := prog_8_method_7_code
def y_Mdl_find : MethodName := ⟨R_Mdl, "find", "(I)I"⟩
abbrev b_Mdl_compare : ByteArray := prog_8_method_6_code
def y_Mdl_compare : MethodName := ⟨R_Mdl, "compare", "(II)I"⟩
abbrev b_Mdl_made : ByteArray := prog_8_method_10_code
def y_Mdl_made : MethodName := ⟨R_Mdl, "made", "(I)I"⟩
abbrev b_Mdl_enter : ByteArray := prog_8_method_9_code
def y_Mdl_enter : MethodName := ⟨R_Mdl, "enter", "(II)V"⟩
abbrev b_Mdl_write : ByteArray := prog_8_method_13_code
def y_Mdl_write : MethodName := ⟨R_Mdl, "write", "(IIZ)I"⟩
abbrev b_Mdl_resize : ByteArray := prog_8_method_12_code
def y_Mdl_resize : MethodName := ⟨R_Mdl, "resize", "(II)V"⟩
abbrev b_Mdl_cut : ByteArray := prog_8_method_14_code
def y_Mdl_cut : MethodName := ⟨R_Mdl, "cut", "(I)I"⟩
abbrev b_Mdl_read : ByteArray := prog_8_method_15_code
def y_Mdl_read : MethodName := ⟨R_Mdl, "read", "(II)I"⟩
abbrev b_Mdl_gone : ByteArray := prog_8_method_11_code
def y_Mdl_gone : MethodName := ⟨R_Mdl, "gone", "(I)I"⟩
abbrev b_Mdl_leave : ByteArray := prog_8_method_8_code
def y_Mdl_leave : MethodName := ⟨R_Mdl, "leave", "(I)V"⟩
abbrev b_Mdl_rename : ByteArray := prog_8_method_16_code
def y_Mdl_rename : MethodName := ⟨R_Mdl, "rename", "()I"⟩
abbrev b_Mdl_swap : ByteArray := prog_8_method_17_code
def y_Mdl_swap : MethodName := ⟨R_Mdl, "swap", "()I"⟩
abbrev b_Mdl_next : ByteArray := prog_8_method_18_code
def y_Mdl_next : MethodName := ⟨R_Mdl, "next", "()I"⟩
abbrev b_Mdl_told : ByteArray := prog_8_method_20_code
def y_Mdl_told : MethodName := ⟨R_Mdl, "told", "(I)I"⟩
abbrev b_Mdl_file : ByteArray := prog_8_method_22_code
def y_Mdl_file : MethodName := ⟨R_Mdl, "file", "(II)I"⟩
abbrev b_Mdl_stripes : ByteArray := prog_8_method_21_code
def y_Mdl_stripes : MethodName := ⟨R_Mdl, "stripes", "(I)I"⟩
abbrev b_Mdl_piece : ByteArray := prog_8_method_23_code
def y_Mdl_piece : MethodName := ⟨R_Mdl, "piece", "(III)I"⟩
abbrev b_Mdl_count : ByteArray := prog_8_method_24_code
def y_Mdl_count : MethodName := ⟨R_Mdl, "count", "(I)I"⟩
end
section
theorem wi_0 : Cond.initialized R_Law ∈ gw := gw_1 0 rfl rfl
theorem wi_1 : Cond.initialized R_SF ∈ gw := gw_1 1 rfl rfl
theorem wi_2 : Cond.initialized R_Row ∈ gw := gw_1 2 rfl rfl
theorem wi_3 : Cond.initialized R_Shelf ∈ gw := gw_1 3 rfl rfl
theorem wi_4 : Cond.initialized R_AbC ∈ gw := gw_1 4 rfl rfl
theorem wi_5 : Cond.initialized R_AbL ∈ gw := gw_1 5 rfl rfl
theorem wi_6 : Cond.initialized R_AL ∈ gw := gw_1 6 rfl rfl
theorem wi_7 : Cond.initialized R_Pool ∈ gw := gw_1 7 rfl rfl
theorem wi_8 : Cond.initialized R_Mdl ∈ gw := gw_1 8 rfl rfl
theorem wi_9 : Cond.initialized R_Sys ∈ gw := gw_1 9 rfl rfl
theorem wi_10 : Cond.initialized R_Objs ∈ gw := gw_1 10 rfl rfl
theorem wi_11 : Cond.initialized R_Prec ∈ gw := gw_1 11 rfl rfl
theorem wi_12 : Cond.initialized R_Math ∈ gw := gw_1 12 rfl rfl
theorem wi_13 : Cond.initialized R_File ∈ gw := gw_1 13 rfl rfl
theorem wi_14 : Cond.initialized R_ASup ∈ gw := gw_1 14 rfl rfl
theorem wi_15 : Cond.initialized R_Arrs ∈ gw := gw_1 15 rfl rfl
theorem wi_16 : Cond.initialized R_Piece ∈ gw := gw_1 16 rfl rfl
theorem wi_17 : Cond.classLink R_Law 7 R_SF ∈ gw := gw_1 17 rfl rfl
theorem wi_18 : Cond.instantiable R_SF 6 ∈ gw := gw_1 18 rfl rfl
theorem wi_19 : Cond.methodLink R_Law 9 y_SF_init ∈ gw := gw_1 19 rfl rfl
theorem wi_20 : Cond.instanceMethod y_SF_init ∈ gw := gw_1 20 rfl rfl
theorem wi_21 : Cond.code y_SF_init b_SF_init 1 none ∈ gw := gw_1 21 rfl rfl
theorem wi_22 : Cond.methodLink R_SF 3 y_Obj_init ∈ gw := gw_1 22 rfl rfl
theorem wi_23 : Cond.instanceMethod y_Obj_init ∈ gw := gw_1 23 rfl rfl
theorem wi_24 : Cond.code y_Obj_init b_Obj_init 1 none ∈ gw := gw_1 24 rfl rfl
theorem wi_25 : Cond.classLink R_SF 9 R_Row ∈ gw := gw_1 25 rfl rfl
theorem wi_26 : Cond.instantiable R_Row 2 ∈ gw := gw_1 26 rfl rfl
theorem wi_27 : Cond.methodLink R_SF 11 y_Row_init ∈ gw := gw_1 27 rfl rfl
theorem wi_28 : Cond.instanceMethod y_Row_init ∈ gw := gw_1 28 rfl rfl
theorem wi_29 : Cond.code y_Row_init b_Row_init 2 none ∈ gw := gw_1 29 rfl rfl
theorem wi_30 : Cond.methodLink R_Row 3 y_Obj_init ∈ gw := gw_1 30 rfl rfl
theorem wi_31 : Cond.fieldLink R_Row 9 R_Row "bytes" "[B" ∈ gw := gw_1 31 rfl rfl
theorem wi_32 : Cond.fieldLink R_Row 15 R_Row "length" "I" ∈ gw := gw_1 32 rfl rfl
theorem wi_33 : Cond.arrayClass .byte ∈ gw := gw_1 38 rfl rfl
theorem wi_34 : Cond.classLink R_SF 27 R_Shelf ∈ gw := gw_1 39 rfl rfl
theorem wi_35 : Cond.instantiable R_Shelf 3 ∈ gw := gw_1 40 rfl rfl
theorem wi_36 : Cond.methodLink R_SF 29 y_Shelf_init ∈ gw := gw_1 41 rfl rfl
theorem wi_37 : Cond.instanceMethod y_Shelf_init ∈ gw := gw_1 42 rfl rfl
theorem wi_38 : Cond.code y_Shelf_init b_Shelf_init 1 none ∈ gw := gw_1 43 rfl rfl
theorem wi_39 : Cond.methodLink R_Shelf 3 y_Obj_init ∈ gw := gw_1 44 rfl rfl
theorem wi_40 : Cond.classLink R_Shelf 9 R_AL ∈ gw := gw_1 45 rfl rfl
theorem wi_41 : Cond.instantiable R_AL 3 ∈ gw := gw_1 46 rfl rfl
theorem wi_42 : Cond.methodLink R_Shelf 11 y_AL_init ∈ gw := gw_1 47 rfl rfl
theorem wi_43 : Cond.instanceMethod y_AL_init ∈ gw := gw_1 48 rfl rfl
theorem wi_44 : Cond.code y_AL_init b_AL_init 1 none ∈ gw := gw_1 49 rfl rfl
theorem wi_45 : Cond.methodLink R_AL 1 y_AbL_init ∈ gw := gw_1 50 rfl rfl
theorem wi_46 : Cond.instanceMethod y_AbL_init ∈ gw := gw_1 51 rfl rfl
theorem wi_47 : Cond.code y_AbL_init b_AbL_init 1 none ∈ gw := gw_1 52 rfl rfl
theorem wi_48 : Cond.methodLink R_AbL 1 y_AbC_init ∈ gw := gw_1 53 rfl rfl
theorem wi_49 : Cond.instanceMethod y_AbC_init ∈ gw := gw_1 54 rfl rfl
theorem wi_50 : Cond.code y_AbC_init b_AbC_init 1 none ∈ gw := gw_1 55 rfl rfl
theorem wi_51 : Cond.methodLink R_AbC 1 y_Obj_init ∈ gw := gw_1 56 rfl rfl
theorem wi_52 : Cond.fieldLink R_AL 39 R_AL "DEFAULTCAPACITY_EMPTY_ELEMENTDATA" "[Ljava/lang/Object;" ∈ gw := gw_1 57 rfl rfl
theorem wi_53 : Cond.fieldLink R_AL 9 R_AL "elementData" "[Ljava/lang/Object;" ∈ gw := gw_1 59 rfl rfl
theorem wi_54 : Cond.fieldLink R_AL 48 R_AL "size" "I" ∈ gw := gw_1 60 rfl rfl
theorem wi_55 : Cond.fieldLink R_AbL 7 R_AbL "modCount" "I" ∈ gw := gw_1 61 rfl rfl
theorem wi_56 : Cond.fieldLink R_AL 63 R_AL "modCount" "I" ∈ gw := gw_1 62 rfl rfl
theorem wi_57 : Cond.sameField R_AL R_AbL "modCount" "I" ∈ gw := gw_1 63 rfl rfl
theorem wi_58 : Cond.classLink R_Shelf 21 R_Pool ∈ gw := gw_1 71 rfl rfl
theorem wi_59 : Cond.instantiable R_Pool 1 ∈ gw := gw_1 72 rfl rfl
theorem wi_60 : Cond.methodLink R_Shelf 23 y_Pool_init ∈ gw := gw_1 73 rfl rfl
theorem wi_61 : Cond.instanceMethod y_Pool_init ∈ gw := gw_1 74 rfl rfl
theorem wi_62 : Cond.code y_Pool_init b_Pool_init 1 none ∈ gw := gw_1 75 rfl rfl
theorem wi_63 : Cond.methodLink R_Pool 3 y_Obj_init ∈ gw := gw_1 76 rfl rfl
theorem wi_64 : Cond.classLink R_Pool 9 R_AL ∈ gw := gw_1 77 rfl rfl
theorem wi_65 : Cond.methodLink R_Pool 11 y_AL_init ∈ gw := gw_1 78 rfl rfl
theorem wi_66 : Cond.fieldLink R_Pool 12 R_Pool "spare" "Ljava/util/ArrayList;" ∈ gw := gw_1 79 rfl rfl
theorem wi_67 : Cond.fieldLink R_Shelf 12 R_Shelf "ordered" "Ljava/util/ArrayList;" ∈ gw := gw_1 83 rfl rfl
theorem wi_68 : Cond.fieldLink R_Shelf 18 R_Shelf "spare" "Ljava/util/ArrayList;" ∈ gw := gw_1 84 rfl rfl
theorem wi_69 : Cond.fieldLink R_Shelf 24 R_Shelf "pool" "LStripeFiles$PiecePool;" ∈ gw := gw_1 85 rfl rfl
theorem wi_70 : Cond.fieldLink R_SF 14 R_SF "tape" "LStripeFiles$Row;" ∈ gw := gw_1 93 rfl rfl
theorem wi_71 : Cond.fieldLink R_SF 18 R_SF "firstName" "LStripeFiles$Row;" ∈ gw := gw_1 94 rfl rfl
theorem wi_72 : Cond.fieldLink R_SF 21 R_SF "secondName" "LStripeFiles$Row;" ∈ gw := gw_1 95 rfl rfl
theorem wi_73 : Cond.fieldLink R_SF 24 R_SF "latestTold" "LStripeFiles$Row;" ∈ gw := gw_1 96 rfl rfl
theorem wi_74 : Cond.fieldLink R_SF 30 R_SF "shelf" "LStripeFiles$Shelf;" ∈ gw := gw_1 97 rfl rfl
theorem wi_75 : Cond.fieldLink R_SF 34 R_SF "operations" "I" ∈ gw := gw_1 98 rfl rfl
theorem wi_76 : Cond.methodLink R_Law 13 y_SF_feed ∈ gw := gw_1 112 rfl rfl
theorem wi_77 : Cond.instanceMethod y_SF_feed ∈ gw := gw_1 113 rfl rfl
theorem wi_78 : Cond.selects R_SF y_SF_feed y_SF_feed ∈ gw := gw_1 114 rfl rfl
theorem wi_79 : Cond.code y_SF_feed b_SF_feed 6 (some .int) ∈ gw := gw_1 115 rfl rfl
theorem wi_80 : Cond.methodLink R_SF 38 y_Row_length ∈ gw := gw_1 116 rfl rfl
theorem wi_81 : Cond.instanceMethod y_Row_length ∈ gw := gw_1 117 rfl rfl
theorem wi_82 : Cond.selects R_Row y_Row_length y_Row_length ∈ gw := gw_1 118 rfl rfl
theorem wi_83 : Cond.code y_Row_length b_Row_length 1 (some .int) ∈ gw := gw_1 119 rfl rfl
theorem wi_84 : Cond.methodLink R_SF 42 y_Row_addWord ∈ gw := gw_1 120 rfl rfl
theorem wi_85 : Cond.instanceMethod y_Row_addWord ∈ gw := gw_1 121 rfl rfl
theorem wi_86 : Cond.selects R_Row y_Row_addWord y_Row_addWord ∈ gw := gw_1 122 rfl rfl
theorem wi_87 : Cond.code y_Row_addWord b_Row_addWord 3 none ∈ gw := gw_1 123 rfl rfl
theorem wi_88 : Cond.methodLink R_Law 18 y_SF_end ∈ gw := gw_1 124 rfl rfl
theorem wi_89 : Cond.instanceMethod y_SF_end ∈ gw := gw_1 125 rfl rfl
theorem wi_90 : Cond.selects R_SF y_SF_end y_SF_end ∈ gw := gw_1 126 rfl rfl
theorem wi_91 : Cond.code y_SF_end b_SF_end 2 (some .int) ∈ gw := gw_1 127 rfl rfl
theorem wi_92 : Cond.methodLink R_SF 45 y_SF_isWithin ∈ gw := gw_1 128 rfl rfl
theorem wi_93 : Cond.static y_SF_isWithin ∈ gw := gw_1 129 rfl rfl
theorem wi_94 : Cond.code y_SF_isWithin b_SF_isWithin 2 (some .boolean) ∈ gw := gw_1 130 rfl rfl
theorem wi_95 : Cond.methodLink R_SF 49 y_Row_shorten ∈ gw := gw_1 131 rfl rfl
theorem wi_96 : Cond.instanceMethod y_Row_shorten ∈ gw := gw_1 132 rfl rfl
theorem wi_97 : Cond.selects R_Row y_Row_shorten y_Row_shorten ∈ gw := gw_1 133 rfl rfl
theorem wi_98 : Cond.code y_Row_shorten b_Row_shorten 2 none ∈ gw := gw_1 134 rfl rfl
theorem wi_99 : Cond.methodLink R_Law 23 y_SF_name ∈ gw := gw_1 135 rfl rfl
theorem wi_100 : Cond.instanceMethod y_SF_name ∈ gw := gw_1 136 rfl rfl
theorem wi_101 : Cond.selects R_SF y_SF_name y_SF_name ∈ gw := gw_1 137 rfl rfl
theorem wi_102 : Cond.code y_SF_name b_SF_name 3 (some .int) ∈ gw := gw_1 138 rfl rfl
theorem wi_103 : Cond.methodLink R_SF 52 y_Row_become ∈ gw := gw_1 139 rfl rfl
theorem wi_104 : Cond.instanceMethod y_Row_become ∈ gw := gw_1 140 rfl rfl
theorem wi_105 : Cond.selects R_Row y_Row_become y_Row_become ∈ gw := gw_1 141 rfl rfl
theorem wi_106 : Cond.code y_Row_become b_Row_become 2 none ∈ gw := gw_1 142 rfl rfl
theorem wi_107 : Cond.methodLink R_Row 31 y_Row_addBytes ∈ gw := gw_1 143 rfl rfl
theorem wi_108 : Cond.instanceMethod y_Row_addBytes ∈ gw := gw_1 144 rfl rfl
theorem wi_109 : Cond.selects R_Row y_Row_addBytes y_Row_addBytes ∈ gw := gw_1 145 rfl rfl
theorem wi_110 : Cond.code y_Row_addBytes b_Row_addBytes 4 none ∈ gw := gw_1 146 rfl rfl
theorem wi_111 : Cond.methodLink R_Row 19 ⟨R_Sys, "arraycopy", "(Ljava/lang/Object;ILjava/lang/Object;II)V"⟩ ∈ gw := gw_1 147 rfl rfl
theorem wi_112 : Cond.static ⟨R_Sys, "arraycopy", "(Ljava/lang/Object;ILjava/lang/Object;II)V"⟩ ∈ gw := gw_1 148 rfl rfl
theorem wi_113 : Cond.native ⟨R_Sys, "arraycopy", "(Ljava/lang/Object;ILjava/lang/Object;II)V"⟩ ∈ gw := gw_1 149 rfl rfl
theorem wi_114 : Cond.methodLink R_Law 27 y_SF_run ∈ gw := gw_1 150 rfl rfl
theorem wi_115 : Cond.instanceMethod y_SF_run ∈ gw := gw_1 151 rfl rfl
theorem wi_116 : Cond.selects R_SF y_SF_run y_SF_run ∈ gw := gw_1 152 rfl rfl
theorem wi_117 : Cond.code y_SF_run b_SF_run 5 (some .int) ∈ gw := gw_1 153 rfl rfl
theorem wi_118 : Cond.methodLink R_SF 56 y_SF_isRefused ∈ gw := gw_1 154 rfl rfl
theorem wi_119 : Cond.instanceMethod y_SF_isRefused ∈ gw := gw_1 156 rfl rfl
theorem wi_120 : Cond.code y_SF_isRefused b_SF_isRefused 4 (some .boolean) ∈ gw := gw_1 157 rfl rfl
theorem wi_121 : Cond.methodLink R_SF 111 y_Row_isEmpty ∈ gw := gw_1 158 rfl rfl
theorem wi_122 : Cond.instanceMethod y_Row_isEmpty ∈ gw := gw_1 159 rfl rfl
theorem wi_123 : Cond.selects R_Row y_Row_isEmpty y_Row_isEmpty ∈ gw := gw_1 160 rfl rfl
theorem wi_124 : Cond.code y_Row_isEmpty b_Row_isEmpty 1 (some .boolean) ∈ gw := gw_1 161 rfl rfl
theorem wi_125 : Cond.methodLink R_SF 60 y_SF_makeFile ∈ gw := gw_1 162 rfl rfl
theorem wi_126 : Cond.instanceMethod y_SF_makeFile ∈ gw := gw_1 164 rfl rfl
theorem wi_127 : Cond.code y_SF_makeFile b_SF_makeFile 2 (some .int) ∈ gw := gw_1 165 rfl rfl
theorem wi_128 : Cond.methodLink R_SF 115 y_Shelf_find ∈ gw := gw_1 166 rfl rfl
theorem wi_129 : Cond.instanceMethod y_Shelf_find ∈ gw := gw_1 167 rfl rfl
theorem wi_130 : Cond.selects R_Shelf y_Shelf_find y_Shelf_find ∈ gw := gw_1 168 rfl rfl
theorem wi_131 : Cond.code y_Shelf_find b_Shelf_find 2 (some (.object "StripeFiles$StripedFile")) ∈ gw := gw_1 169 rfl rfl
theorem wi_132 : Cond.methodLink R_Shelf 48 y_Shelf_indexOf ∈ gw := gw_1 170 rfl rfl
theorem wi_133 : Cond.instanceMethod y_Shelf_indexOf ∈ gw := gw_1 172 rfl rfl
theorem wi_134 : Cond.code y_Shelf_indexOf b_Shelf_indexOf 3 (some .int) ∈ gw := gw_1 173 rfl rfl
theorem wi_135 : Cond.methodLink R_Shelf 56 y_Shelf_placeOf ∈ gw := gw_1 174 rfl rfl
theorem wi_136 : Cond.instanceMethod y_Shelf_placeOf ∈ gw := gw_1 176 rfl rfl
theorem wi_137 : Cond.code y_Shelf_placeOf b_Shelf_placeOf 3 (some .int) ∈ gw := gw_1 177 rfl rfl
theorem wi_138 : Cond.methodLink R_Shelf 28 y_AL_size ∈ gw := gw_1 178 rfl rfl
theorem wi_139 : Cond.instanceMethod y_AL_size ∈ gw := gw_1 179 rfl rfl
theorem wi_140 : Cond.selects R_AL y_AL_size y_AL_size ∈ gw := gw_1 180 rfl rfl
theorem wi_141 : Cond.code y_AL_size b_AL_size 1 (some .int) ∈ gw := gw_1 181 rfl rfl
theorem wi_142 : Cond.methodLink R_Shelf 32 y_AL_get ∈ gw := gw_1 182 rfl rfl
theorem wi_143 : Cond.instanceMethod y_AL_get ∈ gw := gw_1 183 rfl rfl
theorem wi_144 : Cond.selects R_AL y_AL_get y_AL_get ∈ gw := gw_1 184 rfl rfl
theorem wi_145 : Cond.code y_AL_get b_AL_get 2 (some (.object "java/lang/Object")) ∈ gw := gw_1 185 rfl rfl
theorem wi_146 : Cond.methodLink R_AL 118 y_Objs_checkIndex ∈ gw := gw_1 186 rfl rfl
theorem wi_147 : Cond.static y_Objs_checkIndex ∈ gw := gw_1 187 rfl rfl
theorem wi_148 : Cond.code y_Objs_checkIndex b_Objs_checkIndex 2 (some .int) ∈ gw := gw_1 188 rfl rfl
theorem wi_149 : Cond.methodLink R_Objs 105 y_Prec_checkIndex ∈ gw := gw_1 189 rfl rfl
theorem wi_150 : Cond.static y_Prec_checkIndex ∈ gw := gw_1 190 rfl rfl
theorem wi_151 : Cond.code y_Prec_checkIndex b_Prec_checkIndex 3 (some .int) ∈ gw := gw_1 191 rfl rfl
theorem wi_152 : Cond.methodLink R_AL 123 y_AL_elementData ∈ gw := gw_1 192 rfl rfl
theorem wi_153 : Cond.instanceMethod y_AL_elementData ∈ gw := gw_1 193 rfl rfl
theorem wi_154 : Cond.selects R_AL y_AL_elementData y_AL_elementData ∈ gw := gw_1 194 rfl rfl
theorem wi_155 : Cond.code y_AL_elementData b_AL_elementData 2 (some (.object "java/lang/Object")) ∈ gw := gw_1 195 rfl rfl
theorem wi_156 : Cond.classLink R_Shelf 36 R_File ∈ gw := gw_1 196 rfl rfl
theorem wi_157 : Cond.methodLink R_Shelf 88 y_File_title ∈ gw := gw_1 197 rfl rfl
theorem wi_158 : Cond.instanceMethod y_File_title ∈ gw := gw_1 198 rfl rfl
theorem wi_159 : Cond.selects R_File y_File_title y_File_title ∈ gw := gw_1 199 rfl rfl
theorem wi_160 : Cond.code y_File_title b_File_title 1 (some (.object "StripeFiles$Row")) ∈ gw := gw_1 200 rfl rfl
theorem wi_161 : Cond.methodLink R_Shelf 102 y_Row_compareWith ∈ gw := gw_1 201 rfl rfl
theorem wi_162 : Cond.instanceMethod y_Row_compareWith ∈ gw := gw_1 202 rfl rfl
theorem wi_163 : Cond.selects R_Row y_Row_compareWith y_Row_compareWith ∈ gw := gw_1 203 rfl rfl
theorem wi_164 : Cond.code y_Row_compareWith b_Row_compareWith 5 (some .int) ∈ gw := gw_1 204 rfl rfl
theorem wi_165 : Cond.methodLink R_Row 35 y_Math_min ∈ gw := gw_1 205 rfl rfl
theorem wi_166 : Cond.static y_Math_min ∈ gw := gw_1 206 rfl rfl
theorem wi_167 : Cond.code y_Math_min b_Math_min 2 (some .int) ∈ gw := gw_1 207 rfl rfl
theorem wi_168 : Cond.methodLink R_Shelf 59 y_Shelf_isAt ∈ gw := gw_1 208 rfl rfl
theorem wi_169 : Cond.instanceMethod y_Shelf_isAt ∈ gw := gw_1 210 rfl rfl
theorem wi_170 : Cond.code y_Shelf_isAt b_Shelf_isAt 3 (some .boolean) ∈ gw := gw_1 211 rfl rfl
theorem wi_171 : Cond.methodLink R_Shelf 52 y_Shelf_fileAt ∈ gw := gw_1 212 rfl rfl
theorem wi_172 : Cond.instanceMethod y_Shelf_fileAt ∈ gw := gw_1 213 rfl rfl
theorem wi_173 : Cond.selects R_Shelf y_Shelf_fileAt y_Shelf_fileAt ∈ gw := gw_1 214 rfl rfl
theorem wi_174 : Cond.code y_Shelf_fileAt b_Shelf_fileAt 2 (some (.object "StripeFiles$StripedFile")) ∈ gw := gw_1 215 rfl rfl
theorem wi_175 : Cond.methodLink R_SF 119 y_Shelf_isFull ∈ gw := gw_1 216 rfl rfl
theorem wi_176 : Cond.instanceMethod y_Shelf_isFull ∈ gw := gw_1 217 rfl rfl
theorem wi_177 : Cond.selects R_Shelf y_Shelf_isFull y_Shelf_isFull ∈ gw := gw_1 218 rfl rfl
theorem wi_178 : Cond.code y_Shelf_isFull b_Shelf_isFull 1 (some .boolean) ∈ gw := gw_1 219 rfl rfl
theorem wi_179 : Cond.methodLink R_SF 122 y_Shelf_make ∈ gw := gw_1 220 rfl rfl
theorem wi_180 : Cond.instanceMethod y_Shelf_make ∈ gw := gw_1 221 rfl rfl
theorem wi_181 : Cond.selects R_Shelf y_Shelf_make y_Shelf_make ∈ gw := gw_1 222 rfl rfl
theorem wi_182 : Cond.code y_Shelf_make b_Shelf_make 4 (some (.object "StripeFiles$StripedFile")) ∈ gw := gw_1 223 rfl rfl
theorem wi_183 : Cond.methodLink R_Shelf 63 y_AL_isEmpty ∈ gw := gw_1 224 rfl rfl
theorem wi_184 : Cond.instanceMethod y_AL_isEmpty ∈ gw := gw_1 225 rfl rfl
theorem wi_185 : Cond.selects R_AL y_AL_isEmpty y_AL_isEmpty ∈ gw := gw_1 226 rfl rfl
theorem wi_186 : Cond.code y_AL_isEmpty b_AL_isEmpty 1 (some .boolean) ∈ gw := gw_1 227 rfl rfl
theorem wi_187 : Cond.instantiable R_File 5 ∈ gw := gw_1 228 rfl rfl
theorem wi_188 : Cond.methodLink R_Shelf 67 y_File_init ∈ gw := gw_1 229 rfl rfl
theorem wi_189 : Cond.instanceMethod y_File_init ∈ gw := gw_1 230 rfl rfl
theorem wi_190 : Cond.code y_File_init b_File_init 2 none ∈ gw := gw_1 231 rfl rfl
theorem wi_191 : Cond.methodLink R_File 3 y_Obj_init ∈ gw := gw_1 232 rfl rfl
theorem wi_192 : Cond.classLink R_File 15 R_Row ∈ gw := gw_1 233 rfl rfl
theorem wi_193 : Cond.methodLink R_File 17 y_Row_init ∈ gw := gw_1 234 rfl rfl
theorem wi_194 : Cond.classLink R_File 24 R_Piece ∈ gw := gw_1 235 rfl rfl
theorem wi_195 : Cond.fieldLink R_File 9 R_File "pool" "LStripeFiles$PiecePool;" ∈ gw := gw_1 237 rfl rfl
theorem wi_196 : Cond.fieldLink R_File 20 R_File "title" "LStripeFiles$Row;" ∈ gw := gw_1 238 rfl rfl
theorem wi_197 : Cond.fieldLink R_File 26 R_File "pieces" "[LStripeFiles$Piece;" ∈ gw := gw_1 239 rfl rfl
theorem wi_198 : Cond.fieldLink R_File 30 R_File "id" "I" ∈ gw := gw_2 0 rfl rfl
theorem wi_199 : Cond.fieldLink R_File 34 R_File "length" "I" ∈ gw := gw_2 1 rfl rfl
theorem wi_200 : Cond.methodLink R_Shelf 70 y_AL_remove ∈ gw := gw_2 13 rfl rfl
theorem wi_201 : Cond.instanceMethod y_AL_remove ∈ gw := gw_2 14 rfl rfl
theorem wi_202 : Cond.selects R_AL y_AL_remove y_AL_remove ∈ gw := gw_2 15 rfl rfl
theorem wi_203 : Cond.code y_AL_remove b_AL_remove 4 (some (.object "java/lang/Object")) ∈ gw := gw_2 16 rfl rfl
theorem wi_204 : Cond.methodLink R_AL 144 y_AL_fastRemove ∈ gw := gw_2 17 rfl rfl
theorem wi_205 : Cond.instanceMethod y_AL_fastRemove ∈ gw := gw_2 19 rfl rfl
theorem wi_206 : Cond.code y_AL_fastRemove b_AL_fastRemove 4 none ∈ gw := gw_2 20 rfl rfl
theorem wi_207 : Cond.methodLink R_AL 112 ⟨R_Sys, "arraycopy", "(Ljava/lang/Object;ILjava/lang/Object;II)V"⟩ ∈ gw := gw_2 21 rfl rfl
theorem wi_208 : Cond.methodLink R_Shelf 73 y_File_begin ∈ gw := gw_2 22 rfl rfl
theorem wi_209 : Cond.instanceMethod y_File_begin ∈ gw := gw_2 23 rfl rfl
theorem wi_210 : Cond.selects R_File y_File_begin y_File_begin ∈ gw := gw_2 24 rfl rfl
theorem wi_211 : Cond.code y_File_begin b_File_begin 3 none ∈ gw := gw_2 25 rfl rfl
theorem wi_212 : Cond.methodLink R_File 37 y_Row_become ∈ gw := gw_2 26 rfl rfl
theorem wi_213 : Cond.methodLink R_Shelf 77 y_AL_add1 ∈ gw := gw_2 27 rfl rfl
theorem wi_214 : Cond.instanceMethod y_AL_add1 ∈ gw := gw_2 28 rfl rfl
theorem wi_215 : Cond.selects R_AL y_AL_add1 y_AL_add1 ∈ gw := gw_2 29 rfl rfl
theorem wi_216 : Cond.code y_AL_add1 b_AL_add1 5 none ∈ gw := gw_2 30 rfl rfl
theorem wi_217 : Cond.methodLink R_AL 135 y_AL_rangeCheckForAdd ∈ gw := gw_2 31 rfl rfl
theorem wi_218 : Cond.instanceMethod y_AL_rangeCheckForAdd ∈ gw := gw_2 33 rfl rfl
theorem wi_219 : Cond.code y_AL_rangeCheckForAdd b_AL_rangeCheckForAdd 2 none ∈ gw := gw_2 34 rfl rfl
theorem wi_220 : Cond.methodLink R_AL 129 y_AL_grow1 ∈ gw := gw_2 35 rfl rfl
theorem wi_221 : Cond.instanceMethod y_AL_grow1 ∈ gw := gw_2 37 rfl rfl
theorem wi_222 : Cond.code y_AL_grow1 b_AL_grow1 1 (some (.array (.object "java/lang/Object"))) ∈ gw := gw_2 38 rfl rfl
theorem wi_223 : Cond.methodLink R_AL 69 y_AL_grow2 ∈ gw := gw_2 39 rfl rfl
theorem wi_224 : Cond.instanceMethod y_AL_grow2 ∈ gw := gw_2 41 rfl rfl
theorem wi_225 : Cond.code y_AL_grow2 b_AL_grow2 4 (some (.array (.object "java/lang/Object"))) ∈ gw := gw_2 42 rfl rfl
theorem wi_226 : Cond.methodLink R_AL 73 y_ASup_newLength ∈ gw := gw_2 43 rfl rfl
theorem wi_227 : Cond.static y_ASup_newLength ∈ gw := gw_2 44 rfl rfl
theorem wi_228 : Cond.code y_ASup_newLength b_ASup_newLength 4 (some .int) ∈ gw := gw_2 45 rfl rfl
theorem wi_229 : Cond.methodLink R_ASup 194 y_Math_max ∈ gw := gw_2 46 rfl rfl
theorem wi_230 : Cond.static y_Math_max ∈ gw := gw_2 47 rfl rfl
theorem wi_231 : Cond.code y_Math_max b_Math_max 2 (some .int) ∈ gw := gw_2 48 rfl rfl
theorem wi_232 : Cond.constant R_ASup 200 2147483639 ∈ gw := gw_2 49 rfl rfl
theorem wi_233 : Cond.methodLink R_ASup 201 y_ASup_hugeLength ∈ gw := gw_2 50 rfl rfl
theorem wi_234 : Cond.static y_ASup_hugeLength ∈ gw := gw_2 51 rfl rfl
theorem wi_235 : Cond.code y_ASup_hugeLength b_ASup_hugeLength 3 (some .int) ∈ gw := gw_2 52 rfl rfl
theorem wi_236 : Cond.methodLink R_AL 66 y_Arrs_copyOf1 ∈ gw := gw_2 53 rfl rfl
theorem wi_237 : Cond.static y_Arrs_copyOf1 ∈ gw := gw_2 54 rfl rfl
theorem wi_238 : Cond.code y_Arrs_copyOf1 b_Arrs_copyOf1 2 (some (.array (.object "java/lang/Object"))) ∈ gw := gw_2 55 rfl rfl
theorem wi_239 : Cond.methodLink R_Arrs 86 ⟨R_Obj, "getClass", "()Ljava/lang/Class;"⟩ ∈ gw := gw_2 56 rfl rfl
theorem wi_240 : Cond.instanceMethod ⟨R_Obj, "getClass", "()Ljava/lang/Class;"⟩ ∈ gw := gw_2 57 rfl rfl
theorem wi_241 : Cond.sameMethod R_Obj R_Obj "getClass" "()Ljava/lang/Class;" ∈ gw := gw_2 58 rfl rfl
theorem wi_242 : Cond.selects R_SF ⟨R_Obj, "getClass", "()Ljava/lang/Class;"⟩ ⟨R_Obj, "getClass", "()Ljava/lang/Class;"⟩ ∈ gw := gw_2 59 rfl rfl
theorem wi_243 : Cond.selects R_Piece ⟨R_Obj, "getClass", "()Ljava/lang/Class;"⟩ ⟨R_Obj, "getClass", "()Ljava/lang/Class;"⟩ ∈ gw := gw_2 60 rfl rfl
theorem wi_244 : Cond.selects R_Pool ⟨R_Obj, "getClass", "()Ljava/lang/Class;"⟩ ⟨R_Obj, "getClass", "()Ljava/lang/Class;"⟩ ∈ gw := gw_2 61 rfl rfl
theorem wi_245 : Cond.selects R_Row ⟨R_Obj, "getClass", "()Ljava/lang/Class;"⟩ ⟨R_Obj, "getClass", "()Ljava/lang/Class;"⟩ ∈ gw := gw_2 62 rfl rfl
theorem wi_246 : Cond.selects R_Shelf ⟨R_Obj, "getClass", "()Ljava/lang/Class;"⟩ ⟨R_Obj, "getClass", "()Ljava/lang/Class;"⟩ ∈ gw := gw_2 63 rfl rfl
theorem wi_247 : Cond.selects R_File ⟨R_Obj, "getClass", "()Ljava/lang/Class;"⟩ ⟨R_Obj, "getClass", "()Ljava/lang/Class;"⟩ ∈ gw := gw_2 64 rfl rfl
theorem wi_248 : Cond.selects R_Mdl ⟨R_Obj, "getClass", "()Ljava/lang/Class;"⟩ ⟨R_Obj, "getClass", "()Ljava/lang/Class;"⟩ ∈ gw := gw_2 65 rfl rfl
theorem wi_249 : Cond.selects R_AL ⟨R_Obj, "getClass", "()Ljava/lang/Class;"⟩ ⟨R_Obj, "getClass", "()Ljava/lang/Class;"⟩ ∈ gw := gw_2 66 rfl rfl
theorem wi_250 : Cond.native ⟨R_Obj, "getClass", "()Ljava/lang/Class;"⟩ ∈ gw := gw_2 67 rfl rfl
theorem wi_251 : Cond.methodLink R_Arrs 300 y_Arrs_copyOf2 ∈ gw := gw_2 68 rfl rfl
theorem wi_252 : Cond.static y_Arrs_copyOf2 ∈ gw := gw_2 69 rfl rfl
theorem wi_253 : Cond.code y_Arrs_copyOf2 b_Arrs_copyOf2 4 (some (.array (.object "java/lang/Object"))) ∈ gw := gw_2 70 rfl rfl
theorem wi_254 : Cond.classLink R_Arrs 110 "[Ljava/lang/Object;" ∈ gw := gw_2 71 rfl rfl
theorem wi_255 : Cond.classLink R_Arrs 2 R_Obj ∈ gw := gw_2 73 rfl rfl
theorem wi_256 : Cond.methodLink R_Arrs 304 y_Math_min ∈ gw := gw_2 74 rfl rfl
theorem wi_257 : Cond.methodLink R_Arrs 150 ⟨R_Sys, "arraycopy", "(Ljava/lang/Object;ILjava/lang/Object;II)V"⟩ ∈ gw := gw_2 75 rfl rfl
theorem wi_258 : Cond.methodLink R_AL 79 y_Math_max ∈ gw := gw_2 76 rfl rfl
theorem wi_259 : Cond.classLink R_AL 7 R_Obj ∈ gw := gw_2 77 rfl rfl
theorem wi_260 : Cond.methodLink R_SF 64 y_SF_writeTape ∈ gw := gw_2 78 rfl rfl
theorem wi_261 : Cond.instanceMethod y_SF_writeTape ∈ gw := gw_2 80 rfl rfl
theorem wi_262 : Cond.code y_SF_writeTape b_SF_writeTape 11 (some .int) ∈ gw := gw_2 81 rfl rfl
theorem wi_263 : Cond.methodLink R_SF 87 y_File_length ∈ gw := gw_2 82 rfl rfl
theorem wi_264 : Cond.instanceMethod y_File_length ∈ gw := gw_2 83 rfl rfl
theorem wi_265 : Cond.selects R_File y_File_length y_File_length ∈ gw := gw_2 84 rfl rfl
theorem wi_266 : Cond.code y_File_length b_File_length 1 (some .int) ∈ gw := gw_2 85 rfl rfl
theorem wi_267 : Cond.methodLink R_SF 126 y_Math_max ∈ gw := gw_2 86 rfl rfl
theorem wi_268 : Cond.methodLink R_SF 131 y_Shelf_hasRoom ∈ gw := gw_2 87 rfl rfl
theorem wi_269 : Cond.instanceMethod y_Shelf_hasRoom ∈ gw := gw_2 88 rfl rfl
theorem wi_270 : Cond.selects R_Shelf y_Shelf_hasRoom y_Shelf_hasRoom ∈ gw := gw_2 89 rfl rfl
theorem wi_271 : Cond.code y_Shelf_hasRoom b_Shelf_hasRoom 3 (some .boolean) ∈ gw := gw_2 90 rfl rfl
theorem wi_272 : Cond.methodLink R_Shelf 44 y_Shelf_allBytes ∈ gw := gw_2 91 rfl rfl
theorem wi_273 : Cond.instanceMethod y_Shelf_allBytes ∈ gw := gw_2 92 rfl rfl
theorem wi_274 : Cond.selects R_Shelf y_Shelf_allBytes y_Shelf_allBytes ∈ gw := gw_2 93 rfl rfl
theorem wi_275 : Cond.code y_Shelf_allBytes b_Shelf_allBytes 3 (some .int) ∈ gw := gw_2 94 rfl rfl
theorem wi_276 : Cond.methodLink R_Shelf 38 y_File_length ∈ gw := gw_2 95 rfl rfl
theorem wi_277 : Cond.constant R_Shelf 47 32768 ∈ gw := gw_2 96 rfl rfl
theorem wi_278 : Cond.methodLink R_SF 134 y_File_write ∈ gw := gw_2 97 rfl rfl
theorem wi_279 : Cond.instanceMethod y_File_write ∈ gw := gw_2 98 rfl rfl
theorem wi_280 : Cond.selects R_File y_File_write y_File_write ∈ gw := gw_2 99 rfl rfl
theorem wi_281 : Cond.code y_File_write b_File_write 8 none ∈ gw := gw_2 100 rfl rfl
theorem wi_282 : Cond.methodLink R_File 45 y_Row_length ∈ gw := gw_2 101 rfl rfl
theorem wi_283 : Cond.methodLink R_File 48 y_Math_max ∈ gw := gw_2 102 rfl rfl
theorem wi_284 : Cond.methodLink R_File 54 y_Math_min ∈ gw := gw_2 103 rfl rfl
theorem wi_285 : Cond.methodLink R_File 57 y_File_lay ∈ gw := gw_2 104 rfl rfl
theorem wi_286 : Cond.instanceMethod y_File_lay ∈ gw := gw_2 106 rfl rfl
theorem wi_287 : Cond.code y_File_lay b_File_lay 2 (some (.object "StripeFiles$Piece")) ∈ gw := gw_2 107 rfl rfl
theorem wi_288 : Cond.methodLink R_File 69 y_Pool_takeBlank ∈ gw := gw_2 108 rfl rfl
theorem wi_289 : Cond.instanceMethod y_Pool_takeBlank ∈ gw := gw_2 109 rfl rfl
theorem wi_290 : Cond.selects R_Pool y_Pool_takeBlank y_Pool_takeBlank ∈ gw := gw_2 110 rfl rfl
theorem wi_291 : Cond.code y_Pool_takeBlank b_Pool_takeBlank 1 (some (.object "StripeFiles$Piece")) ∈ gw := gw_2 111 rfl rfl
theorem wi_292 : Cond.methodLink R_Pool 18 y_AL_isEmpty ∈ gw := gw_2 112 rfl rfl
theorem wi_293 : Cond.classLink R_Pool 22 R_Piece ∈ gw := gw_2 113 rfl rfl
theorem wi_294 : Cond.instantiable R_Piece 1 ∈ gw := gw_2 114 rfl rfl
theorem wi_295 : Cond.methodLink R_Pool 24 y_Piece_init ∈ gw := gw_2 115 rfl rfl
theorem wi_296 : Cond.instanceMethod y_Piece_init ∈ gw := gw_2 116 rfl rfl
theorem wi_297 : Cond.code y_Piece_init b_Piece_init 1 none ∈ gw := gw_2 117 rfl rfl
theorem wi_298 : Cond.methodLink R_Piece 3 y_Obj_init ∈ gw := gw_2 118 rfl rfl
theorem wi_299 : Cond.fieldLink R_Piece 9 R_Piece "bytes" "[B" ∈ gw := gw_2 119 rfl rfl
theorem wi_300 : Cond.methodLink R_Pool 25 y_AL_size ∈ gw := gw_2 125 rfl rfl
theorem wi_301 : Cond.methodLink R_Pool 29 y_AL_remove ∈ gw := gw_2 126 rfl rfl
theorem wi_302 : Cond.methodLink R_File 61 y_Row_copyTo ∈ gw := gw_2 127 rfl rfl
theorem wi_303 : Cond.instanceMethod y_Row_copyTo ∈ gw := gw_2 128 rfl rfl
theorem wi_304 : Cond.selects R_Row y_Row_copyTo y_Row_copyTo ∈ gw := gw_2 129 rfl rfl
theorem wi_305 : Cond.code y_Row_copyTo b_Row_copyTo 5 none ∈ gw := gw_2 130 rfl rfl
theorem wi_306 : Cond.methodLink R_File 65 y_Row_isEmpty ∈ gw := gw_2 131 rfl rfl
theorem wi_307 : Cond.methodLink R_SF 68 y_SF_renameFile ∈ gw := gw_2 132 rfl rfl
theorem wi_308 : Cond.instanceMethod y_SF_renameFile ∈ gw := gw_2 134 rfl rfl
theorem wi_309 : Cond.code y_SF_renameFile b_SF_renameFile 2 (some .int) ∈ gw := gw_2 135 rfl rfl
theorem wi_310 : Cond.methodLink R_SF 153 y_Row_compareWith ∈ gw := gw_2 136 rfl rfl
theorem wi_311 : Cond.methodLink R_SF 146 y_Shelf_remove ∈ gw := gw_2 137 rfl rfl
theorem wi_312 : Cond.instanceMethod y_Shelf_remove ∈ gw := gw_2 138 rfl rfl
theorem wi_313 : Cond.selects R_Shelf y_Shelf_remove y_Shelf_remove ∈ gw := gw_2 139 rfl rfl
theorem wi_314 : Cond.code y_Shelf_remove b_Shelf_remove 4 (some .boolean) ∈ gw := gw_2 140 rfl rfl
theorem wi_315 : Cond.methodLink R_Shelf 81 y_File_cut ∈ gw := gw_2 141 rfl rfl
theorem wi_316 : Cond.instanceMethod y_File_cut ∈ gw := gw_2 142 rfl rfl
theorem wi_317 : Cond.selects R_File y_File_cut y_File_cut ∈ gw := gw_2 143 rfl rfl
theorem wi_318 : Cond.code y_File_cut b_File_cut 3 none ∈ gw := gw_2 144 rfl rfl
theorem wi_319 : Cond.methodLink R_File 86 y_File_cutStripe ∈ gw := gw_2 145 rfl rfl
theorem wi_320 : Cond.instanceMethod y_File_cutStripe ∈ gw := gw_2 147 rfl rfl
theorem wi_321 : Cond.code y_File_cutStripe b_File_cutStripe 4 none ∈ gw := gw_2 148 rfl rfl
theorem wi_322 : Cond.methodLink R_File 90 y_Arrs_fill ∈ gw := gw_2 149 rfl rfl
theorem wi_323 : Cond.static y_Arrs_fill ∈ gw := gw_2 150 rfl rfl
theorem wi_324 : Cond.code y_Arrs_fill b_Arrs_fill 5 none ∈ gw := gw_2 151 rfl rfl
theorem wi_325 : Cond.methodLink R_Arrs 13 y_Arrs_rangeCheck ∈ gw := gw_2 152 rfl rfl
theorem wi_326 : Cond.static y_Arrs_rangeCheck ∈ gw := gw_2 153 rfl rfl
theorem wi_327 : Cond.code y_Arrs_rangeCheck b_Arrs_rangeCheck 3 none ∈ gw := gw_2 154 rfl rfl
theorem wi_328 : Cond.methodLink R_File 96 y_Pool_giveBack ∈ gw := gw_2 155 rfl rfl
theorem wi_329 : Cond.instanceMethod y_Pool_giveBack ∈ gw := gw_2 156 rfl rfl
theorem wi_330 : Cond.selects R_Pool y_Pool_giveBack y_Pool_giveBack ∈ gw := gw_2 157 rfl rfl
theorem wi_331 : Cond.code y_Pool_giveBack b_Pool_giveBack 2 none ∈ gw := gw_2 158 rfl rfl
theorem wi_332 : Cond.methodLink R_Pool 37 y_Arrs_fill ∈ gw := gw_2 159 rfl rfl
theorem wi_333 : Cond.methodLink R_Pool 43 y_AL_add2 ∈ gw := gw_2 160 rfl rfl
theorem wi_334 : Cond.instanceMethod y_AL_add2 ∈ gw := gw_2 161 rfl rfl
theorem wi_335 : Cond.selects R_AL y_AL_add2 y_AL_add2 ∈ gw := gw_2 162 rfl rfl
theorem wi_336 : Cond.code y_AL_add2 b_AL_add2 2 (some .boolean) ∈ gw := gw_2 163 rfl rfl
theorem wi_337 : Cond.methodLink R_AL 131 y_AL_add3 ∈ gw := gw_2 164 rfl rfl
theorem wi_338 : Cond.instanceMethod y_AL_add3 ∈ gw := gw_2 166 rfl rfl
theorem wi_339 : Cond.code y_AL_add3 b_AL_add3 4 none ∈ gw := gw_2 167 rfl rfl
theorem wi_340 : Cond.methodLink R_Shelf 85 y_AL_add2 ∈ gw := gw_2 168 rfl rfl
theorem wi_341 : Cond.methodLink R_SF 157 y_Shelf_rename ∈ gw := gw_2 169 rfl rfl
theorem wi_342 : Cond.instanceMethod y_Shelf_rename ∈ gw := gw_2 170 rfl rfl
theorem wi_343 : Cond.selects R_Shelf y_Shelf_rename y_Shelf_rename ∈ gw := gw_2 171 rfl rfl
theorem wi_344 : Cond.code y_Shelf_rename b_Shelf_rename 5 none ∈ gw := gw_2 172 rfl rfl
theorem wi_345 : Cond.methodLink R_Shelf 92 y_Row_become ∈ gw := gw_2 173 rfl rfl
theorem wi_346 : Cond.methodLink R_SF 71 y_SF_swapFiles ∈ gw := gw_2 174 rfl rfl
theorem wi_347 : Cond.instanceMethod y_SF_swapFiles ∈ gw := gw_2 176 rfl rfl
theorem wi_348 : Cond.code y_SF_swapFiles b_SF_swapFiles 1 (some .int) ∈ gw := gw_2 177 rfl rfl
theorem wi_349 : Cond.methodLink R_SF 161 y_Shelf_swap ∈ gw := gw_2 178 rfl rfl
theorem wi_350 : Cond.instanceMethod y_Shelf_swap ∈ gw := gw_2 179 rfl rfl
theorem wi_351 : Cond.selects R_Shelf y_Shelf_swap y_Shelf_swap ∈ gw := gw_2 180 rfl rfl
theorem wi_352 : Cond.code y_Shelf_swap b_Shelf_swap 7 (some .boolean) ∈ gw := gw_2 181 rfl rfl
theorem wi_353 : Cond.methodLink R_Shelf 98 y_AL_set ∈ gw := gw_2 182 rfl rfl
theorem wi_354 : Cond.instanceMethod y_AL_set ∈ gw := gw_2 183 rfl rfl
theorem wi_355 : Cond.selects R_AL y_AL_set y_AL_set ∈ gw := gw_2 184 rfl rfl
theorem wi_356 : Cond.code y_AL_set b_AL_set 4 (some (.object "java/lang/Object")) ∈ gw := gw_2 185 rfl rfl
theorem wi_357 : Cond.methodLink R_SF 74 y_SF_tellNextName ∈ gw := gw_2 186 rfl rfl
theorem wi_358 : Cond.instanceMethod y_SF_tellNextName ∈ gw := gw_2 188 rfl rfl
theorem wi_359 : Cond.code y_SF_tellNextName b_SF_tellNextName 2 (some .int) ∈ gw := gw_2 189 rfl rfl
theorem wi_360 : Cond.methodLink R_SF 165 y_Shelf_findAfter ∈ gw := gw_2 190 rfl rfl
theorem wi_361 : Cond.instanceMethod y_Shelf_findAfter ∈ gw := gw_2 191 rfl rfl
theorem wi_362 : Cond.selects R_Shelf y_Shelf_findAfter y_Shelf_findAfter ∈ gw := gw_2 192 rfl rfl
theorem wi_363 : Cond.code y_Shelf_findAfter b_Shelf_findAfter 3 (some (.object "StripeFiles$StripedFile")) ∈ gw := gw_2 193 rfl rfl
theorem wi_364 : Cond.methodLink R_SF 93 y_File_title ∈ gw := gw_2 194 rfl rfl
theorem wi_365 : Cond.methodLink R_SF 77 y_SF_runOnFile ∈ gw := gw_2 195 rfl rfl
theorem wi_366 : Cond.instanceMethod y_SF_runOnFile ∈ gw := gw_2 197 rfl rfl
theorem wi_367 : Cond.code y_SF_runOnFile b_SF_runOnFile 6 (some .int) ∈ gw := gw_2 198 rfl rfl
theorem wi_368 : Cond.methodLink R_SF 138 y_SF_cutFile ∈ gw := gw_2 199 rfl rfl
theorem wi_369 : Cond.instanceMethod y_SF_cutFile ∈ gw := gw_2 201 rfl rfl
theorem wi_370 : Cond.code y_SF_cutFile b_SF_cutFile 4 (some .int) ∈ gw := gw_2 202 rfl rfl
theorem wi_371 : Cond.methodLink R_SF 150 y_File_cut ∈ gw := gw_2 203 rfl rfl
theorem wi_372 : Cond.methodLink R_SF 142 y_File_read ∈ gw := gw_2 204 rfl rfl
theorem wi_373 : Cond.instanceMethod y_File_read ∈ gw := gw_2 205 rfl rfl
theorem wi_374 : Cond.selects R_File y_File_read y_File_read ∈ gw := gw_2 206 rfl rfl
theorem wi_375 : Cond.code y_File_read b_File_read 9 none ∈ gw := gw_2 207 rfl rfl
theorem wi_376 : Cond.methodLink R_File 75 y_File_tell ∈ gw := gw_2 208 rfl rfl
theorem wi_377 : Cond.instanceMethod y_File_tell ∈ gw := gw_2 210 rfl rfl
theorem wi_378 : Cond.code y_File_tell b_File_tell 6 none ∈ gw := gw_2 211 rfl rfl
theorem wi_379 : Cond.methodLink R_File 79 y_Row_addZeros ∈ gw := gw_2 212 rfl rfl
theorem wi_380 : Cond.instanceMethod y_Row_addZeros ∈ gw := gw_2 213 rfl rfl
theorem wi_381 : Cond.selects R_Row y_Row_addZeros y_Row_addZeros ∈ gw := gw_2 214 rfl rfl
theorem wi_382 : Cond.code y_Row_addZeros b_Row_addZeros 2 none ∈ gw := gw_2 215 rfl rfl
theorem wi_383 : Cond.methodLink R_Row 25 y_Arrs_fill ∈ gw := gw_2 216 rfl rfl
theorem wi_384 : Cond.methodLink R_File 82 y_Row_addBytes ∈ gw := gw_2 217 rfl rfl
theorem wi_385 : Cond.methodLink R_Law 32 y_SF_told ∈ gw := gw_2 218 rfl rfl
theorem wi_386 : Cond.instanceMethod y_SF_told ∈ gw := gw_2 219 rfl rfl
theorem wi_387 : Cond.selects R_SF y_SF_told y_SF_told ∈ gw := gw_2 220 rfl rfl
theorem wi_388 : Cond.code y_SF_told b_SF_told 2 (some .int) ∈ gw := gw_2 221 rfl rfl
theorem wi_389 : Cond.methodLink R_SF 80 y_Row_byteAt ∈ gw := gw_2 222 rfl rfl
theorem wi_390 : Cond.instanceMethod y_Row_byteAt ∈ gw := gw_2 223 rfl rfl
theorem wi_391 : Cond.selects R_Row y_Row_byteAt y_Row_byteAt ∈ gw := gw_2 224 rfl rfl
theorem wi_392 : Cond.code y_Row_byteAt b_Row_byteAt 2 (some .int) ∈ gw := gw_2 225 rfl rfl
theorem wi_393 : Cond.methodLink R_Law 36 y_SF_file ∈ gw := gw_2 226 rfl rfl
theorem wi_394 : Cond.instanceMethod y_SF_file ∈ gw := gw_2 227 rfl rfl
theorem wi_395 : Cond.selects R_SF y_SF_file y_SF_file ∈ gw := gw_2 228 rfl rfl
theorem wi_396 : Cond.code y_SF_file b_SF_file 4 (some .int) ∈ gw := gw_2 229 rfl rfl
theorem wi_397 : Cond.methodLink R_SF 83 y_Shelf_fileAt ∈ gw := gw_2 230 rfl rfl
theorem wi_398 : Cond.methodLink R_SF 90 y_File_id ∈ gw := gw_2 231 rfl rfl
theorem wi_399 : Cond.instanceMethod y_File_id ∈ gw := gw_2 232 rfl rfl
theorem wi_400 : Cond.selects R_File y_File_id y_File_id ∈ gw := gw_2 233 rfl rfl
theorem wi_401 : Cond.code y_File_id b_File_id 1 (some .int) ∈ gw := gw_2 234 rfl rfl
theorem wi_402 : Cond.methodLink R_SF 97 y_File_laidStripes ∈ gw := gw_2 235 rfl rfl
theorem wi_403 : Cond.instanceMethod y_File_laidStripes ∈ gw := gw_2 236 rfl rfl
theorem wi_404 : Cond.selects R_File y_File_laidStripes y_File_laidStripes ∈ gw := gw_2 237 rfl rfl
theorem wi_405 : Cond.code y_File_laidStripes b_File_laidStripes 3 (some .int) ∈ gw := gw_2 238 rfl rfl
theorem wi_406 : Cond.methodLink R_Law 41 y_SF_piece ∈ gw := gw_2 239 rfl rfl
theorem wi_407 : Cond.instanceMethod y_SF_piece ∈ gw := gw_3 0 rfl rfl
theorem wi_408 : Cond.selects R_SF y_SF_piece y_SF_piece ∈ gw := gw_3 1 rfl rfl
theorem wi_409 : Cond.code y_SF_piece b_SF_piece 5 (some .int) ∈ gw := gw_3 2 rfl rfl
theorem wi_410 : Cond.methodLink R_SF 100 y_File_keptByte ∈ gw := gw_3 3 rfl rfl
theorem wi_411 : Cond.instanceMethod y_File_keptByte ∈ gw := gw_3 4 rfl rfl
theorem wi_412 : Cond.selects R_File y_File_keptByte y_File_keptByte ∈ gw := gw_3 5 rfl rfl
theorem wi_413 : Cond.code y_File_keptByte b_File_keptByte 4 (some .int) ∈ gw := gw_3 6 rfl rfl
theorem wi_414 : Cond.methodLink R_Law 45 y_SF_count ∈ gw := gw_3 7 rfl rfl
theorem wi_415 : Cond.instanceMethod y_SF_count ∈ gw := gw_3 8 rfl rfl
theorem wi_416 : Cond.selects R_SF y_SF_count y_SF_count ∈ gw := gw_3 9 rfl rfl
theorem wi_417 : Cond.code y_SF_count b_SF_count 2 (some .int) ∈ gw := gw_3 10 rfl rfl
theorem wi_418 : Cond.methodLink R_SF 104 y_Shelf_size ∈ gw := gw_3 11 rfl rfl
theorem wi_419 : Cond.instanceMethod y_Shelf_size ∈ gw := gw_3 12 rfl rfl
theorem wi_420 : Cond.selects R_Shelf y_Shelf_size y_Shelf_size ∈ gw := gw_3 13 rfl rfl
theorem wi_421 : Cond.code y_Shelf_size b_Shelf_size 1 (some .int) ∈ gw := gw_3 14 rfl rfl
theorem wi_422 : Cond.methodLink R_SF 107 y_Shelf_allBytes ∈ gw := gw_3 15 rfl rfl
theorem wi_423 : Cond.methodLink R_SF 110 y_Shelf_laidStripes ∈ gw := gw_3 16 rfl rfl
theorem wi_424 : Cond.instanceMethod y_Shelf_laidStripes ∈ gw := gw_3 17 rfl rfl
theorem wi_425 : Cond.selects R_Shelf y_Shelf_laidStripes y_Shelf_laidStripes ∈ gw := gw_3 18 rfl rfl
theorem wi_426 : Cond.code y_Shelf_laidStripes b_Shelf_laidStripes 3 (some .int) ∈ gw := gw_3 19 rfl rfl
theorem wi_427 : Cond.methodLink R_Shelf 41 y_File_laidStripes ∈ gw := gw_3 20 rfl rfl
theorem wi_428 : Cond.classLink R_Law 10 R_Mdl ∈ gw := gw_3 21 rfl rfl
theorem wi_429 : Cond.instantiable R_Mdl 17 ∈ gw := gw_3 22 rfl rfl
theorem wi_430 : Cond.methodLink R_Law 12 y_Mdl_init ∈ gw := gw_3 23 rfl rfl
theorem wi_431 : Cond.instanceMethod y_Mdl_init ∈ gw := gw_3 24 rfl rfl
theorem wi_432 : Cond.code y_Mdl_init b_Mdl_init 1 none ∈ gw := gw_3 25 rfl rfl
theorem wi_433 : Cond.methodLink R_Mdl 1 y_Obj_init ∈ gw := gw_3 26 rfl rfl
theorem wi_434 : Cond.constant R_Mdl 39 393216 ∈ gw := gw_3 27 rfl rfl
theorem wi_435 : Cond.fieldLink R_Mdl 7 R_Mdl "tape" "[B" ∈ gw := gw_3 28 rfl rfl
theorem wi_436 : Cond.fieldLink R_Mdl 49 R_Mdl "tapeLength" "I" ∈ gw := gw_3 29 rfl rfl
theorem wi_437 : Cond.fieldLink R_Mdl 13 R_Mdl "names" "[B" ∈ gw := gw_3 30 rfl rfl
theorem wi_438 : Cond.fieldLink R_Mdl 16 R_Mdl "nameLength" "[I" ∈ gw := gw_3 31 rfl rfl
theorem wi_439 : Cond.fieldLink R_Mdl 20 R_Mdl "order" "[I" ∈ gw := gw_3 32 rfl rfl
theorem wi_440 : Cond.fieldLink R_Mdl 23 R_Mdl "used" "[Z" ∈ gw := gw_3 33 rfl rfl
theorem wi_441 : Cond.fieldLink R_Mdl 27 R_Mdl "fileName" "[B" ∈ gw := gw_3 34 rfl rfl
theorem wi_442 : Cond.fieldLink R_Mdl 30 R_Mdl "fileNameLength" "[I" ∈ gw := gw_3 35 rfl rfl
theorem wi_443 : Cond.fieldLink R_Mdl 33 R_Mdl "fileId" "[I" ∈ gw := gw_3 36 rfl rfl
theorem wi_444 : Cond.fieldLink R_Mdl 36 R_Mdl "fileSize" "[I" ∈ gw := gw_3 37 rfl rfl
theorem wi_445 : Cond.fieldLink R_Mdl 40 R_Mdl "bytes" "[B" ∈ gw := gw_3 38 rfl rfl
theorem wi_446 : Cond.fieldLink R_Mdl 43 R_Mdl "laid" "[Z" ∈ gw := gw_3 39 rfl rfl
theorem wi_447 : Cond.fieldLink R_Mdl 57 R_Mdl "files" "I" ∈ gw := gw_3 40 rfl rfl
theorem wi_448 : Cond.fieldLink R_Mdl 71 R_Mdl "total" "I" ∈ gw := gw_3 41 rfl rfl
theorem wi_449 : Cond.fieldLink R_Mdl 91 R_Mdl "operations" "I" ∈ gw := gw_3 42 rfl rfl
theorem wi_450 : Cond.fieldLink R_Mdl 46 R_Mdl "told" "[I" ∈ gw := gw_3 43 rfl rfl
theorem wi_451 : Cond.fieldLink R_Mdl 85 R_Mdl "toldLength" "I" ∈ gw := gw_3 44 rfl rfl
theorem wi_452 : Cond.arrayClass .int ∈ gw := gw_3 80 rfl rfl
theorem wi_453 : Cond.arrayClass .boolean ∈ gw := gw_3 81 rfl rfl
theorem wi_454 : Cond.methodLink R_Law 17 y_Mdl_feed ∈ gw := gw_3 82 rfl rfl
theorem wi_455 : Cond.instanceMethod y_Mdl_feed ∈ gw := gw_3 83 rfl rfl
theorem wi_456 : Cond.selects R_Mdl y_Mdl_feed y_Mdl_feed ∈ gw := gw_3 84 rfl rfl
theorem wi_457 : Cond.code y_Mdl_feed b_Mdl_feed 6 (some .int) ∈ gw := gw_3 85 rfl rfl
theorem wi_458 : Cond.methodLink R_Mdl 53 y_Mdl_put ∈ gw := gw_3 86 rfl rfl
theorem wi_459 : Cond.instanceMethod y_Mdl_put ∈ gw := gw_3 88 rfl rfl
theorem wi_460 : Cond.code y_Mdl_put b_Mdl_put 3 none ∈ gw := gw_3 89 rfl rfl
theorem wi_461 : Cond.methodLink R_Law 22 y_Mdl_end ∈ gw := gw_3 90 rfl rfl
theorem wi_462 : Cond.instanceMethod y_Mdl_end ∈ gw := gw_3 91 rfl rfl
theorem wi_463 : Cond.selects R_Mdl y_Mdl_end y_Mdl_end ∈ gw := gw_3 92 rfl rfl
theorem wi_464 : Cond.code y_Mdl_end b_Mdl_end 2 (some .int) ∈ gw := gw_3 93 rfl rfl
theorem wi_465 : Cond.methodLink R_Law 26 y_Mdl_name ∈ gw := gw_3 94 rfl rfl
theorem wi_466 : Cond.instanceMethod y_Mdl_name ∈ gw := gw_3 95 rfl rfl
theorem wi_467 : Cond.selects R_Mdl y_Mdl_name y_Mdl_name ∈ gw := gw_3 96 rfl rfl
theorem wi_468 : Cond.code y_Mdl_name b_Mdl_name 3 (some .int) ∈ gw := gw_3 97 rfl rfl
theorem wi_469 : Cond.methodLink R_Law 31 y_Mdl_run ∈ gw := gw_3 98 rfl rfl
theorem wi_470 : Cond.instanceMethod y_Mdl_run ∈ gw := gw_3 99 rfl rfl
theorem wi_471 : Cond.selects R_Mdl y_Mdl_run y_Mdl_run ∈ gw := gw_3 100 rfl rfl
theorem wi_472 : Cond.code y_Mdl_run b_Mdl_run 6 (some .int) ∈ gw := gw_3 101 rfl rfl
theorem wi_473 : Cond.methodLink R_Mdl 74 y_Mdl_find ∈ gw := gw_3 102 rfl rfl
theorem wi_474 : Cond.instanceMethod y_Mdl_find ∈ gw := gw_3 104 rfl rfl
theorem wi_475 : Cond.code y_Mdl_find b_Mdl_find 3 (some .int) ∈ gw := gw_3 105 rfl rfl
theorem wi_476 : Cond.methodLink R_Mdl 60 y_Mdl_compare ∈ gw := gw_3 106 rfl rfl
theorem wi_477 : Cond.instanceMethod y_Mdl_compare ∈ gw := gw_3 108 rfl rfl
theorem wi_478 : Cond.code y_Mdl_compare b_Mdl_compare 8 (some .int) ∈ gw := gw_3 109 rfl rfl
theorem wi_479 : Cond.methodLink R_Mdl 79 y_Mdl_made ∈ gw := gw_3 110 rfl rfl
theorem wi_480 : Cond.instanceMethod y_Mdl_made ∈ gw := gw_3 112 rfl rfl
theorem wi_481 : Cond.code y_Mdl_made b_Mdl_made 4 (some .int) ∈ gw := gw_3 113 rfl rfl
theorem wi_482 : Cond.methodLink R_Mdl 64 y_Mdl_enter ∈ gw := gw_3 114 rfl rfl
theorem wi_483 : Cond.instanceMethod y_Mdl_enter ∈ gw := gw_3 116 rfl rfl
theorem wi_484 : Cond.code y_Mdl_enter b_Mdl_enter 5 none ∈ gw := gw_3 117 rfl rfl
theorem wi_485 : Cond.methodLink R_Mdl 94 y_Mdl_write ∈ gw := gw_3 118 rfl rfl
theorem wi_486 : Cond.instanceMethod y_Mdl_write ∈ gw := gw_3 120 rfl rfl
theorem wi_487 : Cond.code y_Mdl_write b_Mdl_write 10 (some .int) ∈ gw := gw_3 121 rfl rfl
theorem wi_488 : Cond.constant R_Mdl 78 32768 ∈ gw := gw_3 122 rfl rfl
theorem wi_489 : Cond.methodLink R_Mdl 82 y_Mdl_resize ∈ gw := gw_3 123 rfl rfl
theorem wi_490 : Cond.instanceMethod y_Mdl_resize ∈ gw := gw_3 125 rfl rfl
theorem wi_491 : Cond.code y_Mdl_resize b_Mdl_resize 4 none ∈ gw := gw_3 126 rfl rfl
theorem wi_492 : Cond.methodLink R_Mdl 98 y_Mdl_cut ∈ gw := gw_3 127 rfl rfl
theorem wi_493 : Cond.instanceMethod y_Mdl_cut ∈ gw := gw_3 129 rfl rfl
theorem wi_494 : Cond.code y_Mdl_cut b_Mdl_cut 4 (some .int) ∈ gw := gw_3 130 rfl rfl
theorem wi_495 : Cond.methodLink R_Mdl 101 y_Mdl_read ∈ gw := gw_3 131 rfl rfl
theorem wi_496 : Cond.instanceMethod y_Mdl_read ∈ gw := gw_3 133 rfl rfl
theorem wi_497 : Cond.code y_Mdl_read b_Mdl_read 6 (some .int) ∈ gw := gw_3 134 rfl rfl
theorem wi_498 : Cond.methodLink R_Mdl 88 y_Mdl_gone ∈ gw := gw_3 135 rfl rfl
theorem wi_499 : Cond.instanceMethod y_Mdl_gone ∈ gw := gw_3 137 rfl rfl
theorem wi_500 : Cond.code y_Mdl_gone b_Mdl_gone 2 (some .int) ∈ gw := gw_3 138 rfl rfl
theorem wi_501 : Cond.methodLink R_Mdl 68 y_Mdl_leave ∈ gw := gw_3 139 rfl rfl
theorem wi_502 : Cond.instanceMethod y_Mdl_leave ∈ gw := gw_3 141 rfl rfl
theorem wi_503 : Cond.code y_Mdl_leave b_Mdl_leave 4 none ∈ gw := gw_3 142 rfl rfl
theorem wi_504 : Cond.methodLink R_Mdl 104 y_Mdl_rename ∈ gw := gw_3 143 rfl rfl
theorem wi_505 : Cond.instanceMethod y_Mdl_rename ∈ gw := gw_3 145 rfl rfl
theorem wi_506 : Cond.code y_Mdl_rename b_Mdl_rename 3 (some .int) ∈ gw := gw_3 146 rfl rfl
theorem wi_507 : Cond.methodLink R_Mdl 108 y_Mdl_swap ∈ gw := gw_3 147 rfl rfl
theorem wi_508 : Cond.instanceMethod y_Mdl_swap ∈ gw := gw_3 149 rfl rfl
theorem wi_509 : Cond.code y_Mdl_swap b_Mdl_swap 3 (some .int) ∈ gw := gw_3 150 rfl rfl
theorem wi_510 : Cond.methodLink R_Mdl 111 y_Mdl_next ∈ gw := gw_3 151 rfl rfl
theorem wi_511 : Cond.instanceMethod y_Mdl_next ∈ gw := gw_3 153 rfl rfl
theorem wi_512 : Cond.code y_Mdl_next b_Mdl_next 4 (some .int) ∈ gw := gw_3 154 rfl rfl
theorem wi_513 : Cond.methodLink R_Law 35 y_Mdl_told ∈ gw := gw_3 155 rfl rfl
theorem wi_514 : Cond.instanceMethod y_Mdl_told ∈ gw := gw_3 156 rfl rfl
theorem wi_515 : Cond.selects R_Mdl y_Mdl_told y_Mdl_told ∈ gw := gw_3 157 rfl rfl
theorem wi_516 : Cond.code y_Mdl_told b_Mdl_told 2 (some .int) ∈ gw := gw_3 158 rfl rfl
theorem wi_517 : Cond.methodLink R_Law 40 y_Mdl_file ∈ gw := gw_3 159 rfl rfl
theorem wi_518 : Cond.instanceMethod y_Mdl_file ∈ gw := gw_3 160 rfl rfl
theorem wi_519 : Cond.selects R_Mdl y_Mdl_file y_Mdl_file ∈ gw := gw_3 161 rfl rfl
theorem wi_520 : Cond.code y_Mdl_file b_Mdl_file 4 (some .int) ∈ gw := gw_3 162 rfl rfl
theorem wi_521 : Cond.methodLink R_Mdl 114 y_Mdl_stripes ∈ gw := gw_3 163 rfl rfl
theorem wi_522 : Cond.instanceMethod y_Mdl_stripes ∈ gw := gw_3 165 rfl rfl
theorem wi_523 : Cond.code y_Mdl_stripes b_Mdl_stripes 4 (some .int) ∈ gw := gw_3 166 rfl rfl
theorem wi_524 : Cond.methodLink R_Law 44 y_Mdl_piece ∈ gw := gw_3 167 rfl rfl
theorem wi_525 : Cond.instanceMethod y_Mdl_piece ∈ gw := gw_3 168 rfl rfl
theorem wi_526 : Cond.selects R_Mdl y_Mdl_piece y_Mdl_piece ∈ gw := gw_3 169 rfl rfl
theorem wi_527 : Cond.code y_Mdl_piece b_Mdl_piece 6 (some .int) ∈ gw := gw_3 170 rfl rfl
theorem wi_528 : Cond.methodLink R_Law 48 y_Mdl_count ∈ gw := gw_3 171 rfl rfl
theorem wi_529 : Cond.instanceMethod y_Mdl_count ∈ gw := gw_3 172 rfl rfl
theorem wi_530 : Cond.selects R_Mdl y_Mdl_count y_Mdl_count ∈ gw := gw_3 173 rfl rfl
theorem wi_531 : Cond.code y_Mdl_count b_Mdl_count 4 (some .int) ∈ gw := gw_3 174 rfl rfl
theorem wi_532 : Cond.sameMethod "[Ljava/lang/Object;" R_Obj "getClass" "()Ljava/lang/Class;" ∈ gw := gw_3 177 rfl rfl
theorem wi_533 : Cond.selects "[Ljava/lang/Object;" ⟨R_Obj, "getClass", "()Ljava/lang/Class;"⟩ ⟨R_Obj, "getClass", "()Ljava/lang/Class;"⟩ ∈ gw := gw_3 178 rfl rfl
theorem wi_534 : Cond.selects R_SF y_SF_isRefused y_SF_isRefused ∈ gw := List.mem_filter.mpr ⟨List.mem_append_left _ (List.mem_map.mpr ⟨_, List.mem_of_getElem? (l := lw_privs) (i := 0) rfl, rfl⟩), rfl⟩
theorem wi_535 : Cond.selects R_SF y_SF_makeFile y_SF_makeFile ∈ gw := List.mem_filter.mpr ⟨List.mem_append_left _ (List.mem_map.mpr ⟨_, List.mem_of_getElem? (l := lw_privs) (i := 1) rfl, rfl⟩), rfl⟩
theorem wi_536 : Cond.selects R_Shelf y_Shelf_indexOf y_Shelf_indexOf ∈ gw := List.mem_filter.mpr ⟨List.mem_append_left _ (List.mem_map.mpr ⟨_, List.mem_of_getElem? (l := lw_privs) (i := 2) rfl, rfl⟩), rfl⟩
theorem wi_537 : Cond.selects R_Shelf y_Shelf_placeOf y_Shelf_placeOf ∈ gw := List.mem_filter.mpr ⟨List.mem_append_left _ (List.mem_map.mpr ⟨_, List.mem_of_getElem? (l := lw_privs) (i := 3) rfl, rfl⟩), rfl⟩
theorem wi_538 : Cond.selects R_Shelf y_Shelf_isAt y_Shelf_isAt ∈ gw := List.mem_filter.mpr ⟨List.mem_append_left _ (List.mem_map.mpr ⟨_, List.mem_of_getElem? (l := lw_privs) (i := 4) rfl, rfl⟩), rfl⟩
theorem wi_539 : Cond.selects R_AL y_AL_fastRemove y_AL_fastRemove ∈ gw := List.mem_filter.mpr ⟨List.mem_append_left _ (List.mem_map.mpr ⟨_, List.mem_of_getElem? (l := lw_privs) (i := 5) rfl, rfl⟩), rfl⟩
theorem wi_540 : Cond.selects R_AL y_AL_rangeCheckForAdd y_AL_rangeCheckForAdd ∈ gw := List.mem_filter.mpr ⟨List.mem_append_left _ (List.mem_map.mpr ⟨_, List.mem_of_getElem? (l := lw_privs) (i := 6) rfl, rfl⟩), rfl⟩
theorem wi_541 : Cond.selects R_AL y_AL_grow1 y_AL_grow1 ∈ gw := List.mem_filter.mpr ⟨List.mem_append_left _ (List.mem_map.mpr ⟨_, List.mem_of_getElem? (l := lw_privs) (i := 7) rfl, rfl⟩), rfl⟩
theorem wi_542 : Cond.selects R_AL y_AL_grow2 y_AL_grow2 ∈ gw := List.mem_filter.mpr ⟨List.mem_append_left _ (List.mem_map.mpr ⟨_, List.mem_of_getElem? (l := lw_privs) (i := 8) rfl, rfl⟩), rfl⟩
theorem wi_543 : Cond.selects R_SF y_SF_writeTape y_SF_writeTape ∈ gw := List.mem_filter.mpr ⟨List.mem_append_left _ (List.mem_map.mpr ⟨_, List.mem_of_getElem? (l := lw_privs) (i := 9) rfl, rfl⟩), rfl⟩
theorem wi_544 : Cond.selects R_File y_File_lay y_File_lay ∈ gw := List.mem_filter.mpr ⟨List.mem_append_left _ (List.mem_map.mpr ⟨_, List.mem_of_getElem? (l := lw_privs) (i := 10) rfl, rfl⟩), rfl⟩
theorem wi_545 : Cond.selects R_SF y_SF_renameFile y_SF_renameFile ∈ gw := List.mem_filter.mpr ⟨List.mem_append_left _ (List.mem_map.mpr ⟨_, List.mem_of_getElem? (l := lw_privs) (i := 11) rfl, rfl⟩), rfl⟩
theorem wi_546 : Cond.selects R_File y_File_cutStripe y_File_cutStripe ∈ gw := List.mem_filter.mpr ⟨List.mem_append_left _ (List.mem_map.mpr ⟨_, List.mem_of_getElem? (l := lw_privs) (i := 12) rfl, rfl⟩), rfl⟩
theorem wi_547 : Cond.selects R_AL y_AL_add3 y_AL_add3 ∈ gw := List.mem_filter.mpr ⟨List.mem_append_left _ (List.mem_map.mpr ⟨_, List.mem_of_getElem? (l := lw_privs) (i := 13) rfl, rfl⟩), rfl⟩
theorem wi_548 : Cond.selects R_SF y_SF_swapFiles y_SF_swapFiles ∈ gw := List.mem_filter.mpr ⟨List.mem_append_left _ (List.mem_map.mpr ⟨_, List.mem_of_getElem? (l := lw_privs) (i := 14) rfl, rfl⟩), rfl⟩
theorem wi_549 : Cond.selects R_SF y_SF_tellNextName y_SF_tellNextName ∈ gw := List.mem_filter.mpr ⟨List.mem_append_left _ (List.mem_map.mpr ⟨_, List.mem_of_getElem? (l := lw_privs) (i := 15) rfl, rfl⟩), rfl⟩
theorem wi_550 : Cond.selects R_SF y_SF_runOnFile y_SF_runOnFile ∈ gw := List.mem_filter.mpr ⟨List.mem_append_left _ (List.mem_map.mpr ⟨_, List.mem_of_getElem? (l := lw_privs) (i := 16) rfl, rfl⟩), rfl⟩
theorem wi_551 : Cond.selects R_SF y_SF_cutFile y_SF_cutFile ∈ gw := List.mem_filter.mpr ⟨List.mem_append_left _ (List.mem_map.mpr ⟨_, List.mem_of_getElem? (l := lw_privs) (i := 17) rfl, rfl⟩), rfl⟩
theorem wi_552 : Cond.selects R_File y_File_tell y_File_tell ∈ gw := List.mem_filter.mpr ⟨List.mem_append_left _ (List.mem_map.mpr ⟨_, List.mem_of_getElem? (l := lw_privs) (i := 18) rfl, rfl⟩), rfl⟩
theorem wi_553 : Cond.selects R_Mdl y_Mdl_put y_Mdl_put ∈ gw := List.mem_filter.mpr ⟨List.mem_append_left _ (List.mem_map.mpr ⟨_, List.mem_of_getElem? (l := lw_privs) (i := 19) rfl, rfl⟩), rfl⟩
theorem wi_554 : Cond.selects R_Mdl y_Mdl_find y_Mdl_find ∈ gw := List.mem_filter.mpr ⟨List.mem_append_left _ (List.mem_map.mpr ⟨_, List.mem_of_getElem? (l := lw_privs) (i := 20) rfl, rfl⟩), rfl⟩
theorem wi_555 : Cond.selects R_Mdl y_Mdl_compare y_Mdl_compare ∈ gw := List.mem_filter.mpr ⟨List.mem_append_left _ (List.mem_map.mpr ⟨_, List.mem_of_getElem? (l := lw_privs) (i := 21) rfl, rfl⟩), rfl⟩
theorem wi_556 : Cond.selects R_Mdl y_Mdl_made y_Mdl_made ∈ gw := List.mem_filter.mpr ⟨List.mem_append_left _ (List.mem_map.mpr ⟨_, List.mem_of_getElem? (l := lw_privs) (i := 22) rfl, rfl⟩), rfl⟩
theorem wi_557 : Cond.selects R_Mdl y_Mdl_enter y_Mdl_enter ∈ gw := List.mem_filter.mpr ⟨List.mem_append_left _ (List.mem_map.mpr ⟨_, List.mem_of_getElem? (l := lw_privs) (i := 23) rfl, rfl⟩), rfl⟩
theorem wi_558 : Cond.selects R_Mdl y_Mdl_write y_Mdl_write ∈ gw := List.mem_filter.mpr ⟨List.mem_append_left _ (List.mem_map.mpr ⟨_, List.mem_of_getElem? (l := lw_privs) (i := 24) rfl, rfl⟩), rfl⟩
theorem wi_559 : Cond.selects R_Mdl y_Mdl_resize y_Mdl_resize ∈ gw := List.mem_filter.mpr ⟨List.mem_append_left _ (List.mem_map.mpr ⟨_, List.mem_of_getElem? (l := lw_privs) (i := 25) rfl, rfl⟩), rfl⟩
theorem wi_560 : Cond.selects R_Mdl y_Mdl_cut y_Mdl_cut ∈ gw := List.mem_filter.mpr ⟨List.mem_append_left _ (List.mem_map.mpr ⟨_, List.mem_of_getElem? (l := lw_privs) (i := 26) rfl, rfl⟩), rfl⟩
theorem wi_561 : Cond.selects R_Mdl y_Mdl_read y_Mdl_read ∈ gw := List.mem_filter.mpr ⟨List.mem_append_left _ (List.mem_map.mpr ⟨_, List.mem_of_getElem? (l := lw_privs) (i := 27) rfl, rfl⟩), rfl⟩
theorem wi_562 : Cond.selects R_Mdl y_Mdl_gone y_Mdl_gone ∈ gw := List.mem_filter.mpr ⟨List.mem_append_left _ (List.mem_map.mpr ⟨_, List.mem_of_getElem? (l := lw_privs) (i := 28) rfl, rfl⟩), rfl⟩
theorem wi_563 : Cond.selects R_Mdl y_Mdl_leave y_Mdl_leave ∈ gw := List.mem_filter.mpr ⟨List.mem_append_left _ (List.mem_map.mpr ⟨_, List.mem_of_getElem? (l := lw_privs) (i := 29) rfl, rfl⟩), rfl⟩
theorem wi_564 : Cond.selects R_Mdl y_Mdl_rename y_Mdl_rename ∈ gw := List.mem_filter.mpr ⟨List.mem_append_left _ (List.mem_map.mpr ⟨_, List.mem_of_getElem? (l := lw_privs) (i := 30) rfl, rfl⟩), rfl⟩
theorem wi_565 : Cond.selects R_Mdl y_Mdl_swap y_Mdl_swap ∈ gw := List.mem_filter.mpr ⟨List.mem_append_left _ (List.mem_map.mpr ⟨_, List.mem_of_getElem? (l := lw_privs) (i := 31) rfl, rfl⟩), rfl⟩
theorem wi_566 : Cond.selects R_Mdl y_Mdl_next y_Mdl_next ∈ gw := List.mem_filter.mpr ⟨List.mem_append_left _ (List.mem_map.mpr ⟨_, List.mem_of_getElem? (l := lw_privs) (i := 32) rfl, rfl⟩), rfl⟩
theorem wi_567 : Cond.selects R_Mdl y_Mdl_stripes y_Mdl_stripes ∈ gw := List.mem_filter.mpr ⟨List.mem_append_left _ (List.mem_map.mpr ⟨_, List.mem_of_getElem? (l := lw_privs) (i := 33) rfl, rfl⟩), rfl⟩
theorem i_SF : ∀ w ∈ u_ws R_SF F_SF 6, w ∈ gw := by decide +kernel
theorem i_Row : ∀ w ∈ u_ws R_Row F_Row 2, w ∈ gw := by decide +kernel
theorem i_Piece : ∀ w ∈ u_ws R_Piece F_Piece 1, w ∈ gw := by decide +kernel
theorem i_Pool : ∀ w ∈ u_ws R_Pool F_Pool 1, w ∈ gw := by decide +kernel
theorem i_File : ∀ w ∈ u_ws R_File F_File 5, w ∈ gw := by decide +kernel
theorem i_Shelf : ∀ w ∈ u_ws R_Shelf F_Shelf 3, w ∈ gw := by decide +kernel
theorem i_AL : ∀ w ∈ u_ws R_AL F_AL 3, w ∈ gw := by decide +kernel
theorem i_Mdl : ∀ w ∈ u_ws R_Mdl F_Mdl 17, w ∈ gw := by decide +kernel
end
section
/-! THE GHOST HEAP: a partial function from addresses to what the owned cells hold; every row below speaks of it alone. -/
abbrev gM : Type := Nat → Option va_E
def gh_F (f : gM) (a : Nat) : va_E := (f a).getD (.inr (0, []))
def gh_H (D : va_G) (cl : List vw_C) (A : Nat → Prop) (f : gM) (H : Heap) : Prop :=
  ∃ L : List Nat, (∀ a, a ∈ L ↔ f a ≠ none) ∧ va_P D cl ([] ++ va_pl L (gh_F f)) H ∧ va_D A ([] ++ va_pl L (gh_F f))
theorem gh_F_of {f : gM} {a : Nat} {e : va_E} (h : f a = some e) : gh_F f a = e := by
  unfold gh_F; rw [h]; rfl
theorem gh_F_up (f : gM) (a : Nat) (e : va_E) : gh_F (va_up f a (some e)) = va_up (gh_F f) a e := by
  funext b
  unfold gh_F va_up
  by_cases h : b = a
  · simp [h]
  · simp [h]
theorem gh_open {D : va_G} {cl : List vw_C} {A : Nat → Prop} {f : gM} {H : Heap} (h : gh_H D cl A f H) {a : Nat} {e : va_E} (ha : f a = some e) :
    ∃ (L : List Nat) (k : Nat), (∀ b, b ∈ L ↔ f b ≠ none) ∧ va_P D cl ([] ++ va_pl L (gh_F f)) H ∧ va_D A ([] ++ va_pl L (gh_F f)) ∧ ([] ++ va_pl L (gh_F f))[k]? = some (a, e) := by
  obtain ⟨L, hL, hP, hD⟩ := h
  have hm : a ∈ L := (hL a).mpr (by rw [ha]; exact Option.some_ne_none e)
  obtain ⟨k, hk⟩ := va_pl_get (X := []) (f := gh_F f) hm
  rw [gh_F_of ha] at hk
  exact ⟨L, k, hL, hP, hD, hk⟩
theorem gh_idx {f : gM} {L : List Nat} (hL : ∀ b, b ∈ L ↔ f b ≠ none) {a : Nat} {e : va_E} (ha : f a = some e) : ∃ k : Nat, ([] ++ va_pl L (gh_F f))[k]? = some (a, e) := by
  have hm : a ∈ L := (hL a).mpr (by rw [ha]; exact Option.some_ne_none e)
  obtain ⟨k, hk⟩ := va_pl_get (X := []) (f := gh_F f) hm
  rw [gh_F_of ha] at hk
  exact ⟨k, hk⟩
theorem gh_close {D : va_G} {cl : List vw_C} {A : Nat → Prop} {f : gM} {L : List Nat} {k a : Nat} {e0 e1 : va_E} {H1 : Heap} (hL : ∀ b, b ∈ L ↔ f b ≠ none) (hD : va_D A ([] ++ va_pl L (gh_F f))) (ha : f a = some e0) (hk : ([] ++ va_pl L (gh_F f))[k]? = some (a, e0))
    (hP1 : va_P D cl (([] ++ va_pl L (gh_F f)).set k (a, e1)) H1) (hD1 : va_D A (([] ++ va_pl L (gh_F f)).set k (a, e1))) : gh_H D cl A (va_up f a (some e1)) H1 := by
  have hm : a ∈ L := (hL a).mpr (by rw [ha]; exact Option.some_ne_none e0)
  have e : ([] ++ va_pl L (gh_F f)).set k (a, e1) = [] ++ va_pl L (gh_F (va_up f a (some e1))) := by
    rw [va_pl_set hD hm (by rw [gh_F_of ha]; exact hk), gh_F_up]
  rw [e] at hP1 hD1
  refine ⟨L, fun b => ?_, hP1, hD1⟩
  by_cases hb : b = a
  · subst hb
    rw [va_up_self]
    exact ⟨fun _ => Option.some_ne_none e1, fun _ => hm⟩
  · rw [va_up_ne _ _ hb]
    exact hL b
theorem gh_push {D : va_G} {cl : List vw_C} {A : Nat → Prop} {f : gM} {L : List Nat} {q : Nat} {e : va_E} {H1 : Heap} (hL : ∀ b, b ∈ L ↔ f b ≠ none)
    (hP1 : va_P D cl (([] ++ va_pl L (gh_F f)) ++ [(q, e)]) H1) (hD1 : va_D A (([] ++ va_pl L (gh_F f)) ++ [(q, e)])) : gh_H D cl A (va_up f q (some e)) H1 ∧ f q = none := by
  have hq : q ∉ L := va_pl_fresh2 (X := []) hD1
  have e2 : ([] ++ va_pl L (gh_F f)) ++ [(q, e)] = [] ++ va_pl (L ++ [q]) (gh_F (va_up f q (some e))) := by
    rw [List.nil_append, List.nil_append, va_pl_push hq, gh_F_up]
  rw [e2] at hP1 hD1
  have hn : f q = none := Classical.byContradiction fun h => hq ((hL q).mpr h)
  refine ⟨⟨L ++ [q], fun b => ?_, hP1, hD1⟩, hn⟩
  by_cases hb : b = q
  · subst hb
    rw [va_up_self]
    exact ⟨fun _ => Option.some_ne_none e, fun _ => List.mem_append_right _ (List.mem_singleton.mpr rfl)⟩
  · rw [va_up_ne _ _ hb, ← hL b]
    exact ⟨fun h => (List.mem_append.mp h).elim id (fun z => absurd (List.mem_singleton.mp z) hb), fun h => List.mem_append_left _ h⟩
/-- two cells that hold different things lie apart -/
theorem gh_ne {f : gM} {a b : Nat} {x y : Option va_E} (ha : f a = x) (hb : f b = y) (h : x ≠ y) : a ≠ b := fun e => h (by rw [← ha, ← hb, e])
/-- the parameters of all contracts: class and slot numbers, array classes, the cells that may change, the empty list's array, the mirror -/
abbrev gPar : Type := va_G × (Nat → ClassId) × (Nat → Prop) × Nat × Nat
abbrev gD (P : gPar) : va_G := P.1
abbrev gA (P : gPar) : Nat → Prop := P.2.2.1
abbrev gty (P : gPar) : List (ClassId × FieldType) := [(P.2.1 0, .byte), (P.2.1 1, .int), (P.2.1 2, .boolean), (P.2.1 3, .object "StripeFiles$Piece"), (P.2.1 4, .object "java/lang/Object")]
def gnF : List Cond := [.fieldLinkNest R_Pool 33 R_Piece "bytes" "[B" R_SF, .fieldLinkNest R_File 41 R_Piece "bytes" "[B" R_SF]
/-- what all states keep: tables, the static empty array, the words of nest mates and casts -/
def gX (P : gPar) (U : State) : Prop :=
  va_K (gD P) gcl (gty P) U ∧ (∀ q, U.heap.size ≤ q → gA P q) ∧
  (va_Nw (.fieldLinkNest R_Pool 33 R_Piece "bytes" "[B" R_SF) U ∧ va_Nw (.fieldLinkNest R_File 41 R_Piece "bytes" "[B" R_SF) U ∧ va_Nw (.castable R_File R_File) U ∧ va_Nw (.castable R_Piece R_Piece) U ∧ va_Nw (.castable R_File R_Obj) U ∧ va_Nw (.castable R_Piece R_Obj) U) ∧
  va_AO "StripeFiles$Piece" U ∧ va_AO "java/lang/Object" U ∧ va_Dc U ∧ va_Mi "[Ljava/lang/Object;" P.2.2.2.2 U ∧
  va_Z "java/util/ArrayList" "DEFAULTCAPACITY_EMPTY_ELEMENTDATA" "[Ljava/lang/Object;" (.ref P.2.2.2.1) (gA P) U U.heap ∧ va_T (.object "java/lang/Object") P.2.2.2.1 0 (fun _ => .null) (gA P) U U.heap ∧ va_O "[Ljava/lang/Object;" P.2.2.2.1 (gA P) U U.heap
theorem gX.to {P : gPar} {s U : State} {H : Heap} {locs : List Loc} (h : gX P s) (hS : va_S (gA P) s.heap H locs) (hU : U.heap = H) (hW : s.WarmedH U.vm) : gX P U := by
  obtain ⟨hK, hA, ⟨n1, n2, n3, n4, n5, n6⟩, a1, a2, hc, hm, hz, ht, ho⟩ := h
  subst hU
  exact ⟨va_K.moved hW.alike hK, fun q hq => hA q (Nat.le_trans hS.1 hq), ⟨va_Nw.warmF hW n1, va_Nw.warmF hW n2, va_Nw.warmC hW n3, va_Nw.warmC hW n4, va_Nw.warmC hW n5, va_Nw.warmC hW n6⟩, va_AO.moved hW.alike a1, va_AO.moved hW.alike a2, va_Dc.moved hW.alike hc, va_Mi.moved hW.alike hm,
    va_Z.moved hW.alike (va_Z.kept hz hS.2.1), va_T.moved hW.alike (va_T.kept ht hS.2.1), va_O.moved hW.alike (va_O.kept ho hS.2.1)⟩
theorem gX.call {P : gPar} {U : State} {g : JFrame} {mk : MethodId} {a : Array Value} (h : gX P U) : gX P (U.calling g mk a) := by
  obtain ⟨hK, hA, ⟨n1, n2, n3, n4, n5, n6⟩, a1, a2, hc, hm, hz, ht, ho⟩ := h
  exact ⟨va_K.moved (u := U) (U := U.calling g mk a) (Vm.Alike.refl U.vm) hK, hA, ⟨va_Nw.same rfl rfl n1, va_Nw.same rfl rfl n2, va_Nw.same rfl rfl n3, va_Nw.same rfl rfl n4, va_Nw.same rfl rfl n5, va_Nw.same rfl rfl n6⟩, va_AO.moved (u := U) (Vm.Alike.refl U.vm) a1, va_AO.moved (u := U) (Vm.Alike.refl U.vm) a2, va_Dc.moved (u := U) (Vm.Alike.refl U.vm) hc, va_Mi.moved (u := U) (Vm.Alike.refl U.vm) hm,
    va_Z.moved (u := U) (Vm.Alike.refl U.vm) hz, va_T.moved (u := U) (Vm.Alike.refl U.vm) ht, va_O.moved (u := U) (Vm.Alike.refl U.vm) ho⟩
/-- a state that holds the owned cells f -/
def gS (P : gPar) (f : gM) (U : State) : Prop := gX P U ∧ gh_H (gD P) gcl (gA P) f U.heap
/-- a point of a method's body -/
def gB (P : gPar) (f : gM) (s : State) (H : Heap) (locs : List Loc) : Prop := gX P s ∧ gh_H (gD P) gcl (gA P) f H ∧ va_S (gA P) s.heap H locs
section GHR
variable {p : Program} {l : Launch} {e : Env} {R : Room} {s : State} {m : MethodId} {args : Array Value} {below : List Frame} {meth : Method} {c : Code} {H : Heap} {locs : List Loc} {cells slots : Nat} {Q : State → Prop}
variable {cc : ByteArray} {pc : Nat} {ls : Array Slot} {rest : List Value} {P : gPar} {a : Nat} {f : gM} {own ref C : String} {T : u_T} {N ci index nL : Nat}
theorem gh_get (S : CallFix p m c cc nL s args gw own) (hI : gB P f s H locs) {fs : List Value} (he : f a = some (.inr (ci, fs))) (hc : gcl[ci]? = some (C, T, N)) (hin : ∀ w ∈ u_ws C T N, w ∈ gw) (k : Nat) (hk : k < N) (hlink : Cond.fieldLink own index (T k).1 (T k).2.1 (T k).2.2.1 ∈ gw) {v : Value} (hv : fs[k]? = some v) (hdg : decode cc pc = .ok (.getfield index, 3))
    (kk : W p l e R s m args below meth c H locs cells slots Q (F0 m (pc + 3) ls (v :: rest))) : W p l e R s m args below meth c H locs cells slots Q (F0 m pc ls (.ref a :: rest)) := by
  obtain ⟨hX, hH, hS⟩ := hI
  have hK := hX.1
  obtain ⟨L, k0, hL, hP, hD, h0⟩ := gh_open hH he
  exact va_get S.1 S.2.1 S.2.2.2.2 hin S.2.2.2.1 hK hP k0 h0 hc k hk (S.2.2.2.2 _ hlink) (fun _ h => h) hv hdg kk
theorem gh_getN {host : String} (S : CallFix p m c cc nL s args gw own) (hI : gB P f s H locs) {fs : List Value} (he : f a = some (.inr (ci, fs))) (hc : gcl[ci]? = some (C, T, N)) (hin : ∀ w ∈ u_ws C T N, w ∈ gw) (k : Nat) (hk : k < N) (hlink : va_Nw (.fieldLinkNest own index (T k).1 (T k).2.1 (T k).2.2.1 host) s) {v : Value} (hv : fs[k]? = some v) (hdg : decode cc pc = .ok (.getfield index, 3))
    (kk : W p l e R s m args below meth c H locs cells slots Q (F0 m (pc + 3) ls (v :: rest))) : W p l e R s m args below meth c H locs cells slots Q (F0 m pc ls (.ref a :: rest)) := by
  obtain ⟨hX, hH, hS⟩ := hI
  have hK := hX.1
  obtain ⟨L, k0, hL, hP, hD, h0⟩ := gh_open hH he
  exact va_getN S.1 S.2.1 S.2.2.2.2 hin S.2.2.2.1 hK hP k0 h0 hc k hk (va_Nw.use rfl hlink) (fun _ h => h) hv hdg kk
theorem gh_put (S : CallFix p m c cc nL s args gw own) (hI : gB P f s H locs) {fs : List Value} (he : f a = some (.inr (ci, fs))) (hc : gcl[ci]? = some (C, T, N)) (hin : ∀ w ∈ u_ws C T N, w ∈ gw) (ty0 : Nat → FieldType) (hty : ∀ k, k < N → parseFieldDescriptor (T k).2.2.1 = some (ty0 k)) (hnm : ∀ a, a < N → ∀ b, b < N → a ≠ b → (T a).2.1 ≠ (T b).2.1) (k : Nat) (hk : k < N) (hlink : Cond.fieldLink own index (T k).1 (T k).2.1 (T k).2.2.1 ∈ gw) (hfin : (T k).2.2.2 = false) {v : Value} (hn : narrow (ty0 k) v = v) (hfit : fits (ty0 k) v = true) (hl : k < fs.length) (hdg : decode cc pc = .ok (.putfield index, 3))
    (kk : ∀ (H1 : Heap) (locs1 : List Loc), gB P (va_up f a (some (.inr (ci, fs.set k v)))) s H1 locs1 → W p l e R s m args below meth c H1 locs1 cells slots Q (F0 m (pc + 3) ls rest)) : W p l e R s m args below meth c H locs cells slots Q (F0 m pc ls (v :: .ref a :: rest)) := by
  obtain ⟨hX, hH, hS⟩ := hI
  have hK := hX.1
  obtain ⟨L, k0, hL, hP, hD, h0⟩ := gh_open hH he
  exact va_put S.1 S.2.1 S.2.2.2.2 hin ty0 hty hnm S.2.2.2.1 hK hP hD hS k0 h0 hc k hk (S.2.2.2.2 _ hlink) (fun _ h => h) hfin (hty k hk) hn hfit hl hdg (fun H1 locs1 hP1 hD1 hS1 => kk H1 locs1 ⟨hX, gh_close hL hD he h0 hP1 hD1, hS1⟩)
theorem gh_putF (S : CallFix p m c cc nL s args gw own) (hI : gB P f s H locs) {fs : List Value} (he : f a = some (.inr (ci, fs))) (hc : gcl[ci]? = some (C, T, N)) (hin : ∀ w ∈ u_ws C T N, w ∈ gw) (ty0 : Nat → FieldType) (hty : ∀ k, k < N → parseFieldDescriptor (T k).2.2.1 = some (ty0 k)) (hnm : ∀ a, a < N → ∀ b, b < N → a ≠ b → (T a).2.1 ≠ (T b).2.1) (k : Nat) (hk : k < N) (hlink : Cond.fieldLink own index (T k).1 (T k).2.1 (T k).2.2.1 ∈ gw) (hfin : (T k).2.2.2 = true) (hin2 : meth.name = "<init>") (hdecl : (T k).1 = own) {v : Value} (hn : narrow (ty0 k) v = v) (hfit : fits (ty0 k) v = true) (hl : k < fs.length) (hdg : decode cc pc = .ok (.putfield index, 3))
    (kk : ∀ (H1 : Heap) (locs1 : List Loc), gB P (va_up f a (some (.inr (ci, fs.set k v)))) s H1 locs1 → W p l e R s m args below meth c H1 locs1 cells slots Q (F0 m (pc + 3) ls rest)) : W p l e R s m args below meth c H locs cells slots Q (F0 m pc ls (v :: .ref a :: rest)) := by
  obtain ⟨hX, hH, hS⟩ := hI
  have hK := hX.1
  obtain ⟨L, k0, hL, hP, hD, h0⟩ := gh_open hH he
  exact va_putF S.1 S.2.1 S.2.2.2.2 hin ty0 hty hnm S.2.2.2.1 hK hP hD hS k0 h0 hc k hk (S.2.2.2.2 _ hlink) (fun _ h => h) hfin hin2 hdecl (hty k hk) hn hfit hl hdg (fun H1 locs1 hP1 hD1 hS1 => kk H1 locs1 ⟨hX, gh_close hL hD he h0 hP1 hD1, hS1⟩)
/-- array reads: bytes, ints, references; the index is a natural number -/
theorem gh_bald (S : CallFix p m c cc nL s args gw own) (hI : gB P f s H locs) (t0 : Nat) {cA : ClassId} {n : Nat} {g : Nat → Int32} (he : f a = some (.inl (cA, n, .inl g))) (ht : (gty P)[t0]? = some (cA, .byte)) {i : Int32} {j : Nat} (hi : i = nI j) (hj : j < n) (hn : n < 2 ^ 31) (hdg : decode cc pc = .ok (.baload, 1))
    (kk : W p l e R s m args below meth c H locs cells slots Q (F0 m (pc + 1) ls (.int (g j) :: rest))) : W p l e R s m args below meth c H locs cells slots Q (F0 m pc ls (.int i :: .ref a :: rest)) := by
  subst hi
  obtain ⟨hX, hH, hS⟩ := hI
  have hK := hX.1
  obtain ⟨L, k0, hL, hP, hD, h0⟩ := gh_open hH he
  exact va_bald S.1 S.2.1 hK hP k0 t0 h0 ht (vp_in_nI hj hn) hdg (by rw [nI_clamp (by omega)]; exact kk)
theorem gh_iald (S : CallFix p m c cc nL s args gw own) (hI : gB P f s H locs) (t0 : Nat) {cA : ClassId} {n : Nat} {g : Nat → Int32} (he : f a = some (.inl (cA, n, .inl g))) (ht : (gty P)[t0]? = some (cA, .int)) {i : Int32} {j : Nat} (hi : i = nI j) (hj : j < n) (hn : n < 2 ^ 31) (hdg : decode cc pc = .ok (.iaload, 1))
    (kk : W p l e R s m args below meth c H locs cells slots Q (F0 m (pc + 1) ls (.int (g j) :: rest))) : W p l e R s m args below meth c H locs cells slots Q (F0 m pc ls (.int i :: .ref a :: rest)) := by
  subst hi
  obtain ⟨hX, hH, hS⟩ := hI
  have hK := hX.1
  obtain ⟨L, k0, hL, hP, hD, h0⟩ := gh_open hH he
  exact va_iald S.1 S.2.1 hK hP k0 t0 h0 ht (vp_in_nI hj hn) hdg (by rw [nI_clamp (by omega)]; exact kk)
theorem gh_aald (S : CallFix p m c cc nL s args gw own) (hI : gB P f s H locs) (t0 : Nat) {cA : ClassId} {E : String} {n : Nat} {g : Nat → Option Nat} (he : f a = some (.inl (cA, n, .inr (.inr (.inr (.inr g)))))) (ht : (gty P)[t0]? = some (cA, .object E)) {i : Int32} {j : Nat} (hi : i = nI j) (hj : j < n) (hn : n < 2 ^ 31) (hdg : decode cc pc = .ok (.aaload, 1))
    (kk : W p l e R s m args below meth c H locs cells slots Q (F0 m (pc + 1) ls (va_rf (g j) :: rest))) : W p l e R s m args below meth c H locs cells slots Q (F0 m pc ls (.int i :: .ref a :: rest)) := by
  subst hi
  obtain ⟨hX, hH, hS⟩ := hI
  have hK := hX.1
  obtain ⟨L, k0, hL, hP, hD, h0⟩ := gh_open hH he
  exact va_aldq S.1 S.2.1 hK hP k0 t0 h0 ht (vp_in_nI hj hn) hdg (by rw [nI_clamp (by omega)]; exact kk)
theorem gh_alen (S : CallFix p m c cc nL s args gw own) (hI : gB P f s H locs) (t0 : Nat) {cA : ClassId} {x : vp_A} (he : f a = some (.inl (cA, x))) {ty : FieldType} (ht : (gty P)[t0]? = some (cA, ty)) (hdg : decode cc pc = .ok (.arraylength, 1))
    (kk : W p l e R s m args below meth c H locs cells slots Q (F0 m (pc + 1) ls (.int (nI x.1) :: rest))) : W p l e R s m args below meth c H locs cells slots Q (F0 m pc ls (.ref a :: rest)) := by
  obtain ⟨hX, hH, hS⟩ := hI
  have hK := hX.1
  obtain ⟨L, k0, hL, hP, hD, h0⟩ := gh_open hH he
  exact va_alen S.1 S.2.1 hK hP k0 t0 h0 ht rfl hdg kk
theorem gh_bast (S : CallFix p m c cc nL s args gw own) (hI : gB P f s H locs) (t0 : Nat) {cA : ClassId} {n : Nat} {g : Nat → Int32} (he : f a = some (.inl (cA, n, .inl g))) (ht : (gty P)[t0]? = some (cA, .byte)) {i x : Int32} {j : Nat} (hi : i = nI j) (hj : j < n) (hn : n < 2 ^ 31) (hdg : decode cc pc = .ok (.bastore, 1))
    (kk : ∀ (H1 : Heap) (locs1 : List Loc), gB P (va_up f a (some (.inl (cA, n, .inl (upd g j (x.toInt8.toInt32)))))) s H1 locs1 → W p l e R s m args below meth c H1 locs1 cells slots Q (F0 m (pc + 1) ls rest)) : W p l e R s m args below meth c H locs cells slots Q (F0 m pc ls (.int x :: .int i :: .ref a :: rest)) := by
  subst hi
  obtain ⟨hX, hH, hS⟩ := hI
  have hK := hX.1
  obtain ⟨L, k0, hL, hP, hD, h0⟩ := gh_open hH he
  exact va_bast S.1 S.2.1 hK hP hD hS k0 t0 h0 ht (vp_in_nI hj hn) hdg (fun H1 locs1 hP1 hD1 hS1 => kk H1 locs1 ⟨hX, by
    rw [nI_clamp (by omega)] at hP1 hD1
    exact gh_close hL hD he h0 hP1 hD1, hS1⟩)
theorem gh_iast (S : CallFix p m c cc nL s args gw own) (hI : gB P f s H locs) (t0 : Nat) {cA : ClassId} {n : Nat} {g : Nat → Int32} (he : f a = some (.inl (cA, n, .inl g))) (ht : (gty P)[t0]? = some (cA, .int)) {i x : Int32} {j : Nat} (hi : i = nI j) (hj : j < n) (hn : n < 2 ^ 31) (hdg : decode cc pc = .ok (.iastore, 1))
    (kk : ∀ (H1 : Heap) (locs1 : List Loc), gB P (va_up f a (some (.inl (cA, n, .inl (upd g j x))))) s H1 locs1 → W p l e R s m args below meth c H1 locs1 cells slots Q (F0 m (pc + 1) ls rest)) : W p l e R s m args below meth c H locs cells slots Q (F0 m pc ls (.int x :: .int i :: .ref a :: rest)) := by
  subst hi
  obtain ⟨hX, hH, hS⟩ := hI
  have hK := hX.1
  obtain ⟨L, k0, hL, hP, hD, h0⟩ := gh_open hH he
  exact va_iast S.1 S.2.1 hK hP hD hS k0 t0 h0 ht (vp_in_nI hj hn) hdg (fun H1 locs1 hP1 hD1 hS1 => kk H1 locs1 ⟨hX, by
    rw [nI_clamp (by omega)] at hP1 hD1
    exact gh_close hL hD he h0 hP1 hD1, hS1⟩)
theorem gh_zald (S : CallFix p m c cc nL s args gw own) (hI : gB P f s H locs) (t0 : Nat) {cA : ClassId} {n : Nat} {g : Nat → Int32} (he : f a = some (.inl (cA, n, .inl g))) (ht : (gty P)[t0]? = some (cA, .boolean)) {i : Int32} {j : Nat} (hi : i = nI j) (hj : j < n) (hn : n < 2 ^ 31) (hdg : decode cc pc = .ok (.baload, 1))
    (kk : W p l e R s m args below meth c H locs cells slots Q (F0 m (pc + 1) ls (.int (g j) :: rest))) : W p l e R s m args below meth c H locs cells slots Q (F0 m pc ls (.int i :: .ref a :: rest)) := by
  subst hi
  obtain ⟨hX, hH, hS⟩ := hI
  have hK := hX.1
  obtain ⟨L, k0, hL, hP, hD, h0⟩ := gh_open hH he
  exact va_zald S.1 S.2.1 hK hP k0 t0 h0 ht (vp_in_nI hj hn) hdg (by rw [nI_clamp (by omega)]; exact kk)
theorem gh_zast (S : CallFix p m c cc nL s args gw own) (hI : gB P f s H locs) (t0 : Nat) {cA : ClassId} {n : Nat} {g : Nat → Int32} (he : f a = some (.inl (cA, n, .inl g))) (ht : (gty P)[t0]? = some (cA, .boolean)) {i x : Int32} {j : Nat} (hx : x = 0 ∨ x = 1) (hi : i = nI j) (hj : j < n) (hn : n < 2 ^ 31) (hdg : decode cc pc = .ok (.bastore, 1))
    (kk : ∀ (H1 : Heap) (locs1 : List Loc), gB P (va_up f a (some (.inl (cA, n, .inl (upd g j (x)))))) s H1 locs1 → W p l e R s m args below meth c H1 locs1 cells slots Q (F0 m (pc + 1) ls rest)) : W p l e R s m args below meth c H locs cells slots Q (F0 m pc ls (.int x :: .int i :: .ref a :: rest)) := by
  subst hi
  obtain ⟨hX, hH, hS⟩ := hI
  have hK := hX.1
  obtain ⟨L, k0, hL, hP, hD, h0⟩ := gh_open hH he
  exact va_zast S.1 S.2.1 hK hP hD hS k0 t0 h0 ht (vp_in_nI hj hn) hdg (fun H1 locs1 hP1 hD1 hS1 => kk H1 locs1 ⟨hX, by
    rw [nI_clamp (by omega), show vp_nar .boolean x = x by rcases hx with rfl | rfl <;> rfl] at hP1 hD1
    exact gh_close hL hD he h0 hP1 hD1, hS1⟩)
/-- a reference comes into an array of its class -/
theorem gh_aast (S : CallFix p m c cc nL s args gw own) (hI : gB P f s H locs) (t0 : Nat) {cA : ClassId} {r : vw_C} {n v : Nat} {vs : List Value} {g : Nat → Option Nat} (he : f a = some (.inl (cA, n, .inr (.inr (.inr (.inr g)))))) (ht : (gty P)[t0]? = some (cA, .object r.1)) (hv : f v = some (.inr (ci, vs))) (hc : gcl[ci]? = some r) {i : Int32} {j : Nat} (hi : i = nI j) (hj : j < n) (hn : n < 2 ^ 31) (hdg : decode cc pc = .ok (.aastore, 1))
    (kk : ∀ (H1 : Heap) (locs1 : List Loc), gB P (va_up f a (some (.inl (cA, n, .inr (.inr (.inr (.inr (va_up g j (some v))))))))) s H1 locs1 → W p l e R s m args below meth c H1 locs1 cells slots Q (F0 m (pc + 1) ls rest)) : W p l e R s m args below meth c H locs cells slots Q (F0 m pc ls (.ref v :: .int i :: .ref a :: rest)) := by
  subst hi
  obtain ⟨hX, hH, hS⟩ := hI
  have hK := hX.1
  obtain ⟨L, k0, hL, hP, hD, h0⟩ := gh_open hH he
  obtain ⟨k1, h1⟩ := gh_idx hL hv
  exact va_astq S.1 S.2.1 hK hP hD hS k0 t0 k1 ci h0 ht h1 hc (vp_in_nI hj hn) hdg (fun H1 locs1 hP1 hD1 hS1 => kk H1 locs1 ⟨hX, by
    rw [nI_clamp (by omega)] at hP1 hD1
    exact gh_close hL hD he h0 hP1 hD1, hS1⟩)
/-- a reference comes into an array of a wider class -/
theorem gh_aastO (S : CallFix p m c cc nL s args gw own) (hI : gB P f s H locs) (t0 : Nat) {E : String} {cA : ClassId} {r : vw_C} {n v : Nat} {vs : List Value} {g : Nat → Option Nat} (he : f a = some (.inl (cA, n, .inr (.inr (.inr (.inr g)))))) (ht : (gty P)[t0]? = some (cA, .object E)) (hca : va_Nw (.castable r.1 E) s) (hv : f v = some (.inr (ci, vs))) (hc : gcl[ci]? = some r) {i : Int32} {j : Nat} (hi : i = nI j) (hj : j < n) (hn : n < 2 ^ 31) (hdg : decode cc pc = .ok (.aastore, 1))
    (kk : ∀ (H1 : Heap) (locs1 : List Loc), gB P (va_up f a (some (.inl (cA, n, .inr (.inr (.inr (.inr (va_up g j (some v))))))))) s H1 locs1 → W p l e R s m args below meth c H1 locs1 cells slots Q (F0 m (pc + 1) ls rest)) : W p l e R s m args below meth c H locs cells slots Q (F0 m pc ls (.ref v :: .int i :: .ref a :: rest)) := by
  subst hi
  obtain ⟨hX, hH, hS⟩ := hI
  have hK := hX.1
  obtain ⟨L, k0, hL, hP, hD, h0⟩ := gh_open hH he
  obtain ⟨k1, h1⟩ := gh_idx hL hv
  exact va_astqO S.1 S.2.1 hK hP hD hS k0 t0 k1 ci h0 ht hca h1 hc (vp_in_nI hj hn) hdg (fun H1 locs1 hP1 hD1 hS1 => kk H1 locs1 ⟨hX, by
    rw [nI_clamp (by omega)] at hP1 hD1
    exact gh_close hL hD he h0 hP1 hD1, hS1⟩)
theorem gh_aastN (S : CallFix p m c cc nL s args gw own) (hI : gB P f s H locs) (t0 : Nat) {E : String} {cA : ClassId} {n : Nat} {g : Nat → Option Nat} (he : f a = some (.inl (cA, n, .inr (.inr (.inr (.inr g)))))) (ht : (gty P)[t0]? = some (cA, .object E)) {i : Int32} {j : Nat} (hi : i = nI j) (hj : j < n) (hn : n < 2 ^ 31) (hdg : decode cc pc = .ok (.aastore, 1))
    (kk : ∀ (H1 : Heap) (locs1 : List Loc), gB P (va_up f a (some (.inl (cA, n, .inr (.inr (.inr (.inr (va_up g j none)))))))) s H1 locs1 → W p l e R s m args below meth c H1 locs1 cells slots Q (F0 m (pc + 1) ls rest)) : W p l e R s m args below meth c H locs cells slots Q (F0 m pc ls (.null :: .int i :: .ref a :: rest)) := by
  subst hi
  obtain ⟨hX, hH, hS⟩ := hI
  have hK := hX.1
  obtain ⟨L, k0, hL, hP, hD, h0⟩ := gh_open hH he
  exact va_astqN S.1 S.2.1 hK hP hD hS k0 t0 h0 ht (vp_in_nI hj hn) hdg (fun H1 locs1 hP1 hD1 hS1 => kk H1 locs1 ⟨hX, by
    rw [nI_clamp (by omega)] at hP1 hD1
    exact gh_close hL hD he h0 hP1 hD1, hS1⟩)
/-- a new object -/
theorem gh_new (S : CallFix p m c cc nL s args gw own) (hI : gB P f s H locs) (hc : gcl[ci]? = some (C, T, N)) (hin : ∀ w ∈ u_ws C T N, w ∈ gw) (ty0 : Nat → FieldType) (hty : ∀ k, k < N → parseFieldDescriptor (T k).2.2.1 = some (ty0 k)) (hcl : Cond.classLink own index C ∈ gw) (hinst : Cond.instantiable C N ∈ gw) (hini : Cond.initialized C ∈ gw) {fs : List Value} (hfs : ∀ j, j < N → defaultValue (ty0 j) = vp_V fs j) (hcells : cells + 1 ≤ R.cells) (hslots : slots + N ≤ R.slots) (hdg : decode cc pc = .ok (.new index, 3))
    (kk : ∀ (q : Nat) (H1 : Heap), f q = none → gB P (va_up f q (some (.inr (ci, fs)))) s H1 locs → W p l e R s m args below meth c H1 locs (cells + 1) (slots + N) Q (F0 m (pc + 3) ls (.ref q :: rest))) : W p l e R s m args below meth c H locs cells slots Q (F0 m pc ls rest) := by
  obtain ⟨hX, ⟨L, hL, hP, hD⟩, hS⟩ := hI
  have hK := hX.1
  have hA := hX.2.1
  refine va_new S.1 S.2.1 S.2.2.2.2 hin ty0 hty S.2.2.2.1 (S.2.2.2.2 _ hcl) (S.2.2.2.2 _ hinst) (S.2.2.2.2 _ hini) hK hP hD hS hA hc hfs hcells hslots hdg (fun q H1 hP1 hD1 hS1 => ?_)
  obtain ⟨g1, g2⟩ := gh_push hL hP1 hD1
  exact kk q H1 g2 ⟨hX, g1, hS1⟩
/-- the class of an array of a kind is one -/
theorem gh_cA {cA cB : ClassId} {ty : FieldType} (h1 : va_RA s cA ty) (h2 : va_RA s cB ty) : cA = cB := by
  cases ty with
  | object E =>
    obtain ⟨_, _, -, -, -, h1⟩ := h1
    obtain ⟨_, _, -, -, -, h2⟩ := h2
    exact Option.some.inj (h1.symm.trans h2)
  | _ => exact Option.some.inj (Eq.trans (Eq.symm h1) h2)
theorem gh_newb (S : CallFix p m c cc nL s args gw own) (hI : gB P f s H locs) (t0 : Nat) {cA : ClassId} (ht : (gty P)[t0]? = some (cA, .byte)) (hw : Cond.arrayClass .byte ∈ gw) {i : Int32} {n : Nat} (hi : i = nI n) (hn : n < 2 ^ 20) (hcells : cells + 1 ≤ R.cells) (hslots : slots + n ≤ R.slots) (hdg : decode cc pc = .ok (.newarray .byte, 2))
    (kk : ∀ (q : Nat) (H1 : Heap), f q = none → gB P (va_up f q (some (.inl (cA, n, .inl (fun _ => 0))))) s H1 locs → W p l e R s m args below meth c H1 locs (cells + 1) (slots + n) Q (F0 m (pc + 2) ls (.ref q :: rest))) : W p l e R s m args below meth c H locs cells slots Q (F0 m pc ls (.int i :: rest)) := by
  subst hi
  obtain ⟨hX, ⟨L, hL, hP, hD⟩, hS⟩ := hI
  have hK := hX.1
  have hA := hX.2.1
  refine va_newa (atype := .byte) S.1 S.2.1 (S.2.2.2.2 _ hw) (ty := .byte) rfl hK hP hD hS hA (n := nI n) (N' := n) (a0 := (n, .inl (fun _ => 0))) (fun _ => rfl) (nI_pos (by omega)) (nI_clamp (by omega)) (by show n * 1 ≤ _; omega) hcells hslots hdg (fun q cA' H1 hK1 hP1 hD1 hS1 => ?_)
  have hr := (hK1.2 (gty P).length (cA', .byte) (by rw [List.getElem?_append_right (Nat.le_refl _), Nat.sub_self]; rfl)).2
  have hc : cA' = cA := gh_cA hr (hK.2 t0 _ ht).2
  subst hc
  obtain ⟨g1, g2⟩ := gh_push hL hP1 hD1
  exact kk q H1 g2 ⟨hX, g1, hS1⟩
theorem gh_newz (S : CallFix p m c cc nL s args gw own) (hI : gB P f s H locs) (t0 : Nat) {cA : ClassId} (ht : (gty P)[t0]? = some (cA, .boolean)) (hw : Cond.arrayClass .boolean ∈ gw) {i : Int32} {n : Nat} (hi : i = nI n) (hn : n < 2 ^ 20) (hcells : cells + 1 ≤ R.cells) (hslots : slots + n ≤ R.slots) (hdg : decode cc pc = .ok (.newarray .boolean, 2))
    (kk : ∀ (q : Nat) (H1 : Heap), f q = none → gB P (va_up f q (some (.inl (cA, n, .inl (fun _ => 0))))) s H1 locs → W p l e R s m args below meth c H1 locs (cells + 1) (slots + n) Q (F0 m (pc + 2) ls (.ref q :: rest))) : W p l e R s m args below meth c H locs cells slots Q (F0 m pc ls (.int i :: rest)) := by
  subst hi
  obtain ⟨hX, ⟨L, hL, hP, hD⟩, hS⟩ := hI
  have hK := hX.1
  have hA := hX.2.1
  refine va_newa (atype := .boolean) S.1 S.2.1 (S.2.2.2.2 _ hw) (ty := .boolean) rfl hK hP hD hS hA (n := nI n) (N' := n) (a0 := (n, .inl (fun _ => 0))) (fun _ => rfl) (nI_pos (by omega)) (nI_clamp (by omega)) (by show n * 1 ≤ _; omega) hcells hslots hdg (fun q cA' H1 hK1 hP1 hD1 hS1 => ?_)
  have hr := (hK1.2 (gty P).length (cA', .boolean) (by rw [List.getElem?_append_right (Nat.le_refl _), Nat.sub_self]; rfl)).2
  have hc : cA' = cA := gh_cA hr (hK.2 t0 _ ht).2
  subst hc
  obtain ⟨g1, g2⟩ := gh_push hL hP1 hD1
  exact kk q H1 g2 ⟨hX, g1, hS1⟩
theorem gh_newi (S : CallFix p m c cc nL s args gw own) (hI : gB P f s H locs) (t0 : Nat) {cA : ClassId} (ht : (gty P)[t0]? = some (cA, .int)) (hw : Cond.arrayClass .int ∈ gw) {i : Int32} {n : Nat} (hi : i = nI n) (hn : n < 2 ^ 20) (hcells : cells + 1 ≤ R.cells) (hslots : slots + n ≤ R.slots) (hdg : decode cc pc = .ok (.newarray .int, 2))
    (kk : ∀ (q : Nat) (H1 : Heap), f q = none → gB P (va_up f q (some (.inl (cA, n, .inl (fun _ => 0))))) s H1 locs → W p l e R s m args below meth c H1 locs (cells + 1) (slots + n) Q (F0 m (pc + 2) ls (.ref q :: rest))) : W p l e R s m args below meth c H locs cells slots Q (F0 m pc ls (.int i :: rest)) := by
  subst hi
  obtain ⟨hX, ⟨L, hL, hP, hD⟩, hS⟩ := hI
  have hK := hX.1
  have hA := hX.2.1
  refine va_newa (atype := .int) S.1 S.2.1 (S.2.2.2.2 _ hw) (ty := .int) rfl hK hP hD hS hA (n := nI n) (N' := n) (a0 := (n, .inl (fun _ => 0))) (fun _ => rfl) (nI_pos (by omega)) (nI_clamp (by omega)) (by show n * 4 ≤ _; omega) hcells hslots hdg (fun q cA' H1 hK1 hP1 hD1 hS1 => ?_)
  have hr := (hK1.2 (gty P).length (cA', .int) (by rw [List.getElem?_append_right (Nat.le_refl _), Nat.sub_self]; rfl)).2
  have hc : cA' = cA := gh_cA hr (hK.2 t0 _ ht).2
  subst hc
  obtain ⟨g1, g2⟩ := gh_push hL hP1 hD1
  exact kk q H1 g2 ⟨hX, g1, hS1⟩
theorem gh_newq (S : CallFix p m c cc nL s args gw own) (hI : gB P f s H locs) (t0 : Nat) {cA : ClassId} {E : String} (ht : (gty P)[t0]? = some (cA, .object E)) (hcl : Cond.classLink own index E ∈ gw) (hover : va_AO E s) {i : Int32} {n : Nat} (hi : i = nI n) (hn : n < 2 ^ 20) (hcells : cells + 1 ≤ R.cells) (hslots : slots + n ≤ R.slots) (hdg : decode cc pc = .ok (.anewarray index, 3))
    (kk : ∀ (q : Nat) (H1 : Heap), f q = none → gB P (va_up f q (some (.inl (cA, n, .inr (.inr (.inr (.inr (fun _ => none)))))))) s H1 locs → W p l e R s m args below meth c H1 locs (cells + 1) (slots + n) Q (F0 m (pc + 3) ls (.ref q :: rest))) : W p l e R s m args below meth c H locs cells slots Q (F0 m pc ls (.int i :: rest)) := by
  subst hi
  obtain ⟨hX, ⟨L, hL, hP, hD⟩, hS⟩ := hI
  have hK := hX.1
  have hA := hX.2.1
  refine va_newq S.1 S.2.1 S.2.2.2.1 (S.2.2.2.2 _ hcl) hover hK hP hD hS hA (n := nI n) (N' := n) (nI_pos (by omega)) (nI_clamp (by omega)) (by omega) hcells hslots hdg (fun q cA' H1 hK1 hP1 hD1 hS1 => ?_)
  have hr := (hK1.2 (gty P).length (cA', .object E) (by rw [List.getElem?_append_right (Nat.le_refl _), Nat.sub_self]; rfl)).2
  have hc : cA' = cA := gh_cA hr (hK.2 t0 _ ht).2
  subst hc
  obtain ⟨g1, g2⟩ := gh_push hL hP1 hD1
  exact kk q H1 g2 ⟨hX, g1, hS1⟩
/-- System.arraycopy of bytes -/
theorem gh_copyb (S : CallFix p m c cc nL s args gw own) (hI : gB P f s H locs) (hlsz : ls.size = nL) (hlink : Cond.methodLink own index arraycopyName ∈ gw) (hnat : Cond.native arraycopyName ∈ gw) (hstat : Cond.static arraycopyName ∈ gw) (hini : Cond.initialized "java/lang/System" ∈ gw) (t0 : Nat) {a0 : Nat} {cA : ClassId} {n0 n1 : Nat} {g0 g1 : Nat → Int32} (he0 : f a0 = some (.inl (cA, n0, .inl g0))) (he : f a = some (.inl (cA, n1, .inl g1))) (ht : (gty P)[t0]? = some (cA, .byte))
    {i0 i1 i2 : Int32} {sp dp n : Nat} (h0 : i0 = nI sp) (h1 : i1 = nI dp) (h2 : i2 = nI n) (h4 : sp + n ≤ n0) (h5 : dp + n ≤ n1) (hn0 : n0 < 2 ^ 31) (hn1 : n1 < 2 ^ 31) (hfit : ∀ i, i < n → fits .byte (.int (g0 (sp + i))) = true)
    (hframes : 1 ≤ R.frames) (hlocals : (rest.map fun v => v.category).sum + (nativeFrameWords "java/lang/System" "arraycopy" 5 + 11) ≤ R.locals) (hdg : decode cc pc = .ok (.invokestatic index, 3))
    (kk : ∀ (H1 : Heap) (locs1 : List Loc), gB P (va_up f a (some (.inl (cA, n1, .inl (va_cpy g0 g1 sp dp n))))) s H1 locs1 → W p l e R s m args below meth c H1 locs1 cells slots Q (F0 m (pc + 3) ls rest)) : W p l e R s m args below meth c H locs cells slots Q (F0 m pc ls (.int i2 :: .int i1 :: .ref a :: .int i0 :: .ref a0 :: rest)) := by
  subst h0 h1 h2
  obtain ⟨hX, hH, hS⟩ := hI
  have hK := hX.1
  obtain ⟨L, k0, hL, hP, hD, z0⟩ := gh_open hH he
  obtain ⟨k1, z1⟩ := gh_idx hL he0
  have c0 : (nI sp).toNatClampNeg = sp := nI_clamp (by omega)
  have c1 : (nI dp).toNatClampNeg = dp := nI_clamp (by omega)
  have c2 : (nI n).toNatClampNeg = n := nI_clamp (by omega)
  refine va_copyi S.1 S.2.1 (S.2.2.1.trans hlsz.symm) S.2.2.2.1 (S.2.2.2.2 _ hlink) (S.2.2.2.2 _ hnat) (S.2.2.2.2 _ hstat) (S.2.2.2.2 _ hini) hK hP hD hS k1 k0 t0 t0 z1 z0 ht ht rfl (nI_pos (by omega)) (nI_pos (by omega)) (nI_pos (by omega)) (by rw [c0, c2]; exact h4) (by rw [c1, c2]; exact h5) (by rw [c0, c2]; exact hfit) hframes hlocals hdg (fun H1 locs1 hP1 hD1 hS1 => ?_)
  rw [c0, c1, c2] at hP1 hD1
  exact kk H1 locs1 ⟨hX, gh_close hL hD he z0 hP1 hD1, hS1⟩
theorem gh_any {E : String} {r : vw_C} (hI : gB P f s H locs) {fs : List Value} (he : f a = some (.inr (ci, fs))) (hc : gcl[ci]? = some r) (hca : va_Nw (.castable r.1 E) s) : va_Any E s H a := by
  obtain ⟨hX, hH, hS⟩ := hI
  have hK := hX.1
  obtain ⟨L, k0, hL, hP, hD, h0⟩ := gh_open hH he
  exact va_rAny hK hP h0 hc (vb_asgC hca)
/-- System.arraycopy of references, within one array or between two of a kind -/
theorem gh_copyq (S : CallFix p m c cc nL s args gw own) (hI : gB P f s H locs) (hlsz : ls.size = nL) (hlink : Cond.methodLink own index arraycopyName ∈ gw) (hnat : Cond.native arraycopyName ∈ gw) (hstat : Cond.static arraycopyName ∈ gw) (hini : Cond.initialized "java/lang/System" ∈ gw) (t0 : Nat) {a0 : Nat} {cA : ClassId} {E : String} {n0 n1 : Nat} {g0 g1 : Nat → Option Nat} (he0 : f a0 = some (.inl (cA, n0, .inr (.inr (.inr (.inr g0)))))) (he : f a = some (.inl (cA, n1, .inr (.inr (.inr (.inr g1)))))) (ht : (gty P)[t0]? = some (cA, .object E))
    {i0 i1 i2 : Int32} {sp dp n : Nat} (h0 : i0 = nI sp) (h1 : i1 = nI dp) (h2 : i2 = nI n) (h4 : sp + n ≤ n0) (h5 : dp + n ≤ n1) (hn0 : n0 < 2 ^ 31) (hn1 : n1 < 2 ^ 31) (hel : ∀ i : Nat, i < n → ∀ y : Nat, g0 (sp + i) = some y → va_Any E s H y)
    (hframes : 1 ≤ R.frames) (hlocals : (rest.map fun v => v.category).sum + (nativeFrameWords "java/lang/System" "arraycopy" 5 + 11) ≤ R.locals) (hdg : decode cc pc = .ok (.invokestatic index, 3))
    (kk : ∀ (H1 : Heap) (locs1 : List Loc), gB P (va_up f a (some (.inl (cA, n1, .inr (.inr (.inr (.inr (va_cpy g0 g1 sp dp n)))))))) s H1 locs1 → W p l e R s m args below meth c H1 locs1 cells slots Q (F0 m (pc + 3) ls rest)) : W p l e R s m args below meth c H locs cells slots Q (F0 m pc ls (.int i2 :: .int i1 :: .ref a :: .int i0 :: .ref a0 :: rest)) := by
  subst h0 h1 h2
  obtain ⟨hX, hH, hS⟩ := hI
  have hK := hX.1
  obtain ⟨L, k0, hL, hP, hD, z0⟩ := gh_open hH he
  obtain ⟨k1, z1⟩ := gh_idx hL he0
  have c0 : (nI sp).toNatClampNeg = sp := nI_clamp (by omega)
  have c1 : (nI dp).toNatClampNeg = dp := nI_clamp (by omega)
  have c2 : (nI n).toNatClampNeg = n := nI_clamp (by omega)
  refine va_copyM S.1 S.2.1 (S.2.2.1.trans hlsz.symm) S.2.2.2.1 (S.2.2.2.2 _ hlink) (S.2.2.2.2 _ hnat) (S.2.2.2.2 _ hstat) (S.2.2.2.2 _ hini) hK hP hD hS k1 k0 t0 t0 z1 z0 ht ht (nI_pos (by omega)) (nI_pos (by omega)) (nI_pos (by omega)) (by rw [c0, c2]; exact h4) (by rw [c1, c2]; exact h5) (by rw [c0, c2]; exact hel) hframes hlocals hdg (fun H1 locs1 hP1 hD1 hS1 => ?_)
  rw [c0, c1, c2] at hP1 hD1
  exact kk H1 locs1 ⟨hX, gh_close hL hD he z0 hP1 hD1, hS1⟩
theorem gh_recv {q : vw_C} {fs : List Value} (hI : gB P f s H locs) (hc : gcl[ci]? = some q) (he : f a = some (.inr (ci, fs))) : ∃ cell : Cell, H[a]? = some cell ∧ cell.vm.isStatics = false ∧ s.vm.findClass q.1 = some cell.cls := by
  obtain ⟨hX, hH, hS⟩ := hI
  have hK := hX.1
  obtain ⟨L, k0, hL, hP, hD, h0⟩ := gh_open hH he
  exact va_recv hK hP hc h0
end GHR
end
section
/-! CONTRACTS over the ghost heap, their opening, their ends, their calls -/
def grm (d mc ms : Nat) : Room := { frames := d, cells := mc, slots := ms, locals := 40 * d }
def gQv (P : gPar) (post : gM → Prop) : Array Value → State → Outcome → State → Prop := va_Qv post (gS P) (gA P)
def gQi (P : gPar) (post : Int32 → gM → Prop) : Array Value → State → Outcome → State → Prop := va_Qi post (gS P) (gA P)
def gQq (P : gPar) (post : Option Nat → gM → Prop) : Array Value → State → Outcome → State → Prop := va_Qq post (gS P) (gA P)
def gC (l : Launch) (P : gPar) (y : MethodName) (b : ByteArray) (maxL : Nat) (ret : Option FieldType) (d mc ms : Nat) (av : List Value) (f : gM) (Qc : Array Value → State → Outcome → State → Prop) : Prop :=
  Met l y (.code y b maxL ret :: gw) (grm d mc ms) (va_Pc av (gS P f)) Qc mc ms (gA P)
theorem gC_of {l : Launch} {P : gPar} {y : MethodName} {b : ByteArray} {maxL : Nat} {ret : Option FieldType} {d mc ms : Nat} {av : List Value} {f : gM} {Qc : Array Value → State → Outcome → State → Prop} (hy : plainName y.cls = true) (hsz : (lg_sl av).length ≤ maxL)
    (body : ∀ (p : Program) (e : Env) (s : State) (m : MethodId) (below : List Frame) (meth : Method) (c : Code), CallFix p m c b maxL s av.toArray gw y.cls → meth.sig.returnType = ret → meth.locks = false → meth.name = y.name → gB P f s s.heap [] →
      ∀ ls : Array Slot, lv_has ls maxL (lv_args 0 av) → W p l e (grm d mc ms) s m av.toArray below meth c s.heap [] 0 0 (MQ below Qc av.toArray s mc ms (gA P)) (F0 m 0 ls [])) : gC l P y b maxL ret d mc ms av f Qc := by
  refine Met.ofW (cc := b) (maxL := maxL) (ret := ret) hy rfl ?_
  intro p e s m args below meth c s₁ B hml hv
  obtain ⟨rfl, hX, hH⟩ := hv
  have hts := atoms_spec (ws := .code y b maxL ret :: gw) B.pre
  have hown : s.vm.findClass y.cls = some m.cls := findClass_of_methodNamed B.named
  have hin : meth.name = y.name := (name_of_methodNamed B.named B.method).1
  have hl := lv_entry av (n := maxL) hsz
  have hB : gB P f s s.heap [] := ⟨hX, hH, va_S.rf⟩
  have K := body p e s m below meth c ⟨B.exec, B.bytes, hml, hown, fun w h => hts w (List.mem_cons_of_mem _ h)⟩ B.returns B.notSynchronized hin hB _ hl
  rw [lg_entry_eq]
  exact K
/-- what a method's words say for its callers -/
def gV (y : MethodName) (b : ByteArray) (maxL : Nat) (ret : Option FieldType) (n : Nat) : Prop :=
  Cond.code y b maxL ret ∈ gw ∧ Cond.instanceMethod y ∈ gw ∧ Cond.selects y.cls y y ∈ gw ∧ Cond.initialized y.cls ∈ gw ∧ y.cls ≠ "java/lang/invoke/MethodHandle" ∧ y.cls ≠ "java/lang/invoke/VarHandle" ∧ (parseMethodDescriptor y.desc).map (fun d => d.parameters.length) = some n
def gVs (y : MethodName) (b : ByteArray) (maxL : Nat) (ret : Option FieldType) (n : Nat) : Prop :=
  Cond.code y b maxL ret ∈ gw ∧ Cond.static y ∈ gw ∧ Cond.initialized y.cls ∈ gw ∧ y.cls ≠ "java/lang/invoke/MethodHandle" ∧ y.cls ≠ "java/lang/invoke/VarHandle" ∧ (parseMethodDescriptor y.desc).map (fun d => d.parameters.length) = some n
def gVi (y : MethodName) (b : ByteArray) (maxL : Nat) (n : Nat) : Prop :=
  Cond.code y b maxL none ∈ gw ∧ Cond.instanceMethod y ∈ gw ∧ Cond.initialized y.cls ∈ gw ∧ y.name = "<init>" ∧ y.cls ≠ "java/lang/invoke/MethodHandle" ∧ y.cls ≠ "java/lang/invoke/VarHandle" ∧ (parseMethodDescriptor y.desc).map (fun d => d.parameters.length) = some n
theorem gw_good {y : MethodName} {b : ByteArray} {maxL : Nat} {ret : Option FieldType} (h : Cond.code y b maxL ret ∈ gw) : GoodIn gw (Cond.code y b maxL ret :: gw) := by
  intro w hw
  rcases List.mem_cons.mp hw with rfl | hw
  · exact ⟨h, good_of_word (gw_ok h)⟩
  · exact ⟨hw, good_of_word (gw_ok hw)⟩
section GCL
variable {p : Program} {l : Launch} {e : Env} {R : Room} {s : State} {m : MethodId} {args : Array Value} {below : List Frame} {meth : Method} {c : Code} {H : Heap} {locs : List Loc} {cells slots : Nat} {Q : State → Prop}
variable {cc : ByteArray} {pc : Nat} {ls : Array Slot} {rest st0 : List Value} {P : gPar} {a : Nat} {f : gM} {own : String} {ci index nL : Nat} {y : MethodName} {b : ByteArray} {maxL n d mc ms : Nat} {ret : Option FieldType} {As : List Value} {q : vw_C} {fs : List Value}
theorem gc_cw (S : CallFix p m c cc nL s args gw own) (hk : gV y b maxL ret n) (hlink : Cond.methodLink own index y ∈ gw) (hd : d + 1 ≤ R.frames ∧ 8 + (maxL + 11) + 40 * d ≤ R.locals) : CallW R s args own y.cls index y b maxL ret (.code y b maxL ret :: gw) (grm d mc ms) mc ms n :=
  ⟨callB_of n S.2.2.2.2 (gw_good hk.1) rfl rfl rfl (S.2.2.2.2 _ hk.2.2.2.1) (S.2.2.2.2 _ hlink) hk.2.2.2.2 hd, S.2.2.2.2 _ hk.2.1, S.2.2.2.2 _ hk.2.2.1⟩
theorem gc_pv (hI : gB P f s H locs) (hc : gcl[ci]? = some q) (hq : q.1 = y.cls) (he : f a = some (.inr (ci, fs))) : PreV s H y.cls a (va_Pc (.ref a :: As) (gS P f)) As := by
  obtain ⟨hX, hH, hS⟩ := id hI
  refine ⟨fun _ U g mk q => ⟨q.1, q.2.1.call, q.2.2⟩, ?_, fun U hU hW => ⟨rfl, hX.to hS hU hW, by rw [hU]; exact hH⟩⟩
  rw [← hq]
  exact gh_recv hI hc he
theorem gc_ps (hI : gB P f s H locs) : PreS s H (va_Pc As (gS P f)) As := by
  obtain ⟨hX, hH, hS⟩ := hI
  exact ⟨fun _ U g mk q => ⟨q.1, q.2.1.call, q.2.2⟩, fun U hU hW => ⟨rfl, hX.to hS hU hW, by rw [hU]; exact hH⟩⟩
theorem gc_Vi {post : Int32 → gM → Prop} (S : CallFix p m c cc nL s args gw own) (hI : gB P f s H locs) (hM : gC l P y b maxL ret d mc ms (.ref a :: As) f (gQi P post)) (hk : gV y b maxL ret n) (hlink : Cond.methodLink own index y ∈ gw) (he : f a = some (.inr (ci, fs))) (hc : gcl[ci]? = some q) (hq : q.1 = y.cls) (hn : As.length = n) (hls : ls.size = nL) (hst : st0 = As.reverse ++ .ref a :: rest) (hrest : (rest.map fun v => v.category).sum ≤ 8) (hd : d + 1 ≤ R.frames ∧ 8 + (maxL + 11) + 40 * d ≤ R.locals) (hf : cells + mc ≤ R.cells ∧ slots + ms ≤ R.slots) (hdg : decode cc pc = .ok (.invokevirtual index, 3))
    (kk : ∀ (r : Int32) (f1 : gM) (H1 : Heap) (locs1 : List Loc), post r f1 → gB P f1 s H1 locs1 → W p l e R s m args below meth c H1 locs1 (cells + mc) (slots + ms) Q (F0 m (pc + 3) ls (.int r :: rest))) : W p l e R s m args below meth c H locs cells slots Q (F0 m pc ls st0) :=
  va_calli (va_runV S hM (gc_cw S hk hlink hd) (gc_pv hI hc hq he) rfl hn hls hst (lv_room hrest) hdg hf) hI.2.2 (fun _ _ h => h) (fun _ h => h) (fun r u t H1 locs1 ht _ hw hB _ _ hS1 => kk r u H1 locs1 hw ⟨hI.1, by rw [← ht]; exact hB.2, hS1⟩)
theorem gc_Vv {post : gM → Prop} (S : CallFix p m c cc nL s args gw own) (hI : gB P f s H locs) (hM : gC l P y b maxL ret d mc ms (.ref a :: As) f (gQv P post)) (hk : gV y b maxL ret n) (hlink : Cond.methodLink own index y ∈ gw) (he : f a = some (.inr (ci, fs))) (hc : gcl[ci]? = some q) (hq : q.1 = y.cls) (hn : As.length = n) (hls : ls.size = nL) (hst : st0 = As.reverse ++ .ref a :: rest) (hrest : (rest.map fun v => v.category).sum ≤ 8) (hd : d + 1 ≤ R.frames ∧ 8 + (maxL + 11) + 40 * d ≤ R.locals) (hf : cells + mc ≤ R.cells ∧ slots + ms ≤ R.slots) (hdg : decode cc pc = .ok (.invokevirtual index, 3))
    (kk : ∀ (f1 : gM) (H1 : Heap) (locs1 : List Loc), post f1 → gB P f1 s H1 locs1 → W p l e R s m args below meth c H1 locs1 (cells + mc) (slots + ms) Q (F0 m (pc + 3) ls rest)) : W p l e R s m args below meth c H locs cells slots Q (F0 m pc ls st0) :=
  va_callv (va_runV S hM (gc_cw S hk hlink hd) (gc_pv hI hc hq he) rfl hn hls hst (lv_room hrest) hdg hf) hI.2.2 (fun _ _ h => h) (fun _ h => h) (fun u t H1 locs1 ht _ hw hB _ _ hS1 => kk u H1 locs1 hw ⟨hI.1, by rw [← ht]; exact hB.2, hS1⟩)
theorem gc_Vq {post : Option Nat → gM → Prop} (S : CallFix p m c cc nL s args gw own) (hI : gB P f s H locs) (hM : gC l P y b maxL ret d mc ms (.ref a :: As) f (gQq P post)) (hk : gV y b maxL ret n) (hlink : Cond.methodLink own index y ∈ gw) (he : f a = some (.inr (ci, fs))) (hc : gcl[ci]? = some q) (hq : q.1 = y.cls) (hn : As.length = n) (hls : ls.size = nL) (hst : st0 = As.reverse ++ .ref a :: rest) (hrest : (rest.map fun v => v.category).sum ≤ 8) (hd : d + 1 ≤ R.frames ∧ 8 + (maxL + 11) + 40 * d ≤ R.locals) (hf : cells + mc ≤ R.cells ∧ slots + ms ≤ R.slots) (hdg : decode cc pc = .ok (.invokevirtual index, 3))
    (kk : ∀ (r : Option Nat) (f1 : gM) (H1 : Heap) (locs1 : List Loc), post r f1 → gB P f1 s H1 locs1 → W p l e R s m args below meth c H1 locs1 (cells + mc) (slots + ms) Q (F0 m (pc + 3) ls (va_rf r :: rest))) : W p l e R s m args below meth c H locs cells slots Q (F0 m pc ls st0) :=
  va_callq (va_runV S hM (gc_cw S hk hlink hd) (gc_pv hI hc hq he) rfl hn hls hst (lv_room hrest) hdg hf) hI.2.2 (fun _ _ h => h) (fun _ h => h) (fun r u t H1 locs1 ht _ hw hB _ _ hS1 => kk r u H1 locs1 hw ⟨hI.1, by rw [← ht]; exact hB.2, hS1⟩)
/-- the answer is a cell -/
theorem gc_Vr {post : Nat → gM → Prop} (S : CallFix p m c cc nL s args gw own) (hI : gB P f s H locs) (hM : gC l P y b maxL ret d mc ms (.ref a :: As) f (gQq P (fun r f1 => ∃ x, r = some x ∧ post x f1))) (hk : gV y b maxL ret n) (hlink : Cond.methodLink own index y ∈ gw) (he : f a = some (.inr (ci, fs))) (hc : gcl[ci]? = some q) (hq : q.1 = y.cls) (hn : As.length = n) (hls : ls.size = nL) (hst : st0 = As.reverse ++ .ref a :: rest) (hrest : (rest.map fun v => v.category).sum ≤ 8) (hd : d + 1 ≤ R.frames ∧ 8 + (maxL + 11) + 40 * d ≤ R.locals) (hf : cells + mc ≤ R.cells ∧ slots + ms ≤ R.slots) (hdg : decode cc pc = .ok (.invokevirtual index, 3))
    (kk : ∀ (x : Nat) (f1 : gM) (H1 : Heap) (locs1 : List Loc), post x f1 → gB P f1 s H1 locs1 → W p l e R s m args below meth c H1 locs1 (cells + mc) (slots + ms) Q (F0 m (pc + 3) ls (.ref x :: rest))) : W p l e R s m args below meth c H locs cells slots Q (F0 m pc ls st0) :=
  gc_Vq S hI hM hk hlink he hc hq hn hls hst hrest hd hf hdg (fun r f1 H1 locs1 hp hI1 => by
    obtain ⟨x, rfl, hp⟩ := hp
    exact kk x f1 H1 locs1 hp hI1)
theorem gc_Iv {post : gM → Prop} (S : CallFix p m c cc nL s args gw own) (hI : gB P f s H locs) (hM : gC l P y b maxL none d mc ms (.ref a :: As) f (gQv P post)) (hk : gVi y b maxL n) (hlink : Cond.methodLink own index y ∈ gw) (hn : As.length = n) (hls : ls.size = nL) (hst : st0 = As.reverse ++ .ref a :: rest) (hrest : (rest.map fun v => v.category).sum ≤ 8) (hd : d + 1 ≤ R.frames ∧ 8 + (maxL + 11) + 40 * d ≤ R.locals) (hf : cells + mc ≤ R.cells ∧ slots + ms ≤ R.slots) (hdg : decode cc pc = .ok (.invokespecial index, 3))
    (kk : ∀ (f1 : gM) (H1 : Heap) (locs1 : List Loc), post f1 → gB P f1 s H1 locs1 → W p l e R s m args below meth c H1 locs1 (cells + mc) (slots + ms) Q (F0 m (pc + 3) ls rest)) : W p l e R s m args below meth c H locs cells slots Q (F0 m pc ls st0) :=
  va_callv (va_runI S hM (cwI n S.2.2.2.2 (gw_good hk.1) rfl rfl rfl (S.2.2.2.2 _ hk.2.2.1) (S.2.2.2.2 _ hlink) (S.2.2.2.2 _ hk.2.1) hk.2.2.2.1 hk.2.2.2.2 hd) (gc_ps hI) rfl hn hls hst (lv_room hrest) hdg hf) hI.2.2 (fun _ _ h => h) (fun _ h => h) (fun u t H1 locs1 ht _ hw hB _ _ hS1 => kk u H1 locs1 hw ⟨hI.1, by rw [← ht]; exact hB.2, hS1⟩)
theorem gc_sw (S : CallFix p m c cc nL s args gw own) (hk : gVs y b maxL ret n) (hlink : Cond.methodLink own index y ∈ gw) (hd : d + 1 ≤ R.frames ∧ 8 + (maxL + 11) + 40 * d ≤ R.locals) : CallB R s args own index y b maxL ret (.code y b maxL ret :: gw) (grm d mc ms) mc ms n ∧ (Cond.static y).before args s = true :=
  ⟨callB_of n S.2.2.2.2 (gw_good hk.1) rfl rfl rfl (S.2.2.2.2 _ hk.2.2.1) (S.2.2.2.2 _ hlink) hk.2.2.2 hd, S.2.2.2.2 _ hk.2.1⟩
theorem gc_Si {post : Int32 → gM → Prop} (S : CallFix p m c cc nL s args gw own) (hI : gB P f s H locs) (hM : gC l P y b maxL ret d mc ms As f (gQi P post)) (hk : gVs y b maxL ret n) (hlink : Cond.methodLink own index y ∈ gw) (hn : As.length = n) (hls : ls.size = nL) (hst : st0 = As.reverse ++ rest) (hrest : (rest.map fun v => v.category).sum ≤ 8) (hd : d + 1 ≤ R.frames ∧ 8 + (maxL + 11) + 40 * d ≤ R.locals) (hf : cells + mc ≤ R.cells ∧ slots + ms ≤ R.slots) (hdg : decode cc pc = .ok (.invokestatic index, 3))
    (kk : ∀ (r : Int32) (f1 : gM) (H1 : Heap) (locs1 : List Loc), post r f1 → gB P f1 s H1 locs1 → W p l e R s m args below meth c H1 locs1 (cells + mc) (slots + ms) Q (F0 m (pc + 3) ls (.int r :: rest))) : W p l e R s m args below meth c H locs cells slots Q (F0 m pc ls st0) :=
  va_calli (va_runS S hM (gc_sw S hk hlink hd) (gc_ps hI) rfl hn hls hst (lv_room hrest) hdg hf) hI.2.2 (fun _ _ h => h) (fun _ h => h) (fun r u t H1 locs1 ht _ hw hB _ _ hS1 => kk r u H1 locs1 hw ⟨hI.1, by rw [← ht]; exact hB.2, hS1⟩)
theorem gc_Sv {post : gM → Prop} (S : CallFix p m c cc nL s args gw own) (hI : gB P f s H locs) (hM : gC l P y b maxL ret d mc ms As f (gQv P post)) (hk : gVs y b maxL ret n) (hlink : Cond.methodLink own index y ∈ gw) (hn : As.length = n) (hls : ls.size = nL) (hst : st0 = As.reverse ++ rest) (hrest : (rest.map fun v => v.category).sum ≤ 8) (hd : d + 1 ≤ R.frames ∧ 8 + (maxL + 11) + 40 * d ≤ R.locals) (hf : cells + mc ≤ R.cells ∧ slots + ms ≤ R.slots) (hdg : decode cc pc = .ok (.invokestatic index, 3))
    (kk : ∀ (f1 : gM) (H1 : Heap) (locs1 : List Loc), post f1 → gB P f1 s H1 locs1 → W p l e R s m args below meth c H1 locs1 (cells + mc) (slots + ms) Q (F0 m (pc + 3) ls rest)) : W p l e R s m args below meth c H locs cells slots Q (F0 m pc ls st0) :=
  va_callv (va_runS S hM (gc_sw S hk hlink hd) (gc_ps hI) rfl hn hls hst (lv_room hrest) hdg hf) hI.2.2 (fun _ _ h => h) (fun _ h => h) (fun u t H1 locs1 ht _ hw hB _ _ hS1 => kk u H1 locs1 hw ⟨hI.1, by rw [← ht]; exact hB.2, hS1⟩)
theorem gc_Sr {post : Nat → gM → Prop} (S : CallFix p m c cc nL s args gw own) (hI : gB P f s H locs) (hM : gC l P y b maxL ret d mc ms As f (gQq P (fun r f1 => ∃ x, r = some x ∧ post x f1))) (hk : gVs y b maxL ret n) (hlink : Cond.methodLink own index y ∈ gw) (hn : As.length = n) (hls : ls.size = nL) (hst : st0 = As.reverse ++ rest) (hrest : (rest.map fun v => v.category).sum ≤ 8) (hd : d + 1 ≤ R.frames ∧ 8 + (maxL + 11) + 40 * d ≤ R.locals) (hf : cells + mc ≤ R.cells ∧ slots + ms ≤ R.slots) (hdg : decode cc pc = .ok (.invokestatic index, 3))
    (kk : ∀ (x : Nat) (f1 : gM) (H1 : Heap) (locs1 : List Loc), post x f1 → gB P f1 s H1 locs1 → W p l e R s m args below meth c H1 locs1 (cells + mc) (slots + ms) Q (F0 m (pc + 3) ls (.ref x :: rest))) : W p l e R s m args below meth c H locs cells slots Q (F0 m pc ls st0) :=
  va_callq (va_runS S hM (gc_sw S hk hlink hd) (gc_ps hI) rfl hn hls hst (lv_room hrest) hdg hf) hI.2.2 (fun _ _ h => h) (fun _ h => h) (fun r u t H1 locs1 ht _ hw hB _ _ hS1 => by
    obtain ⟨x, rfl, hp⟩ := hw
    exact kk x u H1 locs1 hp ⟨hI.1, by rw [← ht]; exact hB.2, hS1⟩)
/-- ends -/
theorem gr_i {post : Int32 → gM → Prop} {v : Int32} (S : CallFix p m c cc nL s args gw own) (hr : meth.sig.returnType = some .int) (hlk : meth.locks = false) (hI : gB P f s H locs) (hp : post v f) (hdg : decode cc pc = .ok (.ireturn, 1)) : W p l e R s m args below meth c H locs cells slots (MQ below (gQi P post) args s cells slots (gA P)) (F0 m pc ls [.int v]) :=
  W.iret S.1 S.2.1 hr (fun t ht hW => ⟨⟨v, f, rfl, hp, hI.1.to hI.2.2 ht hW, by rw [ht]; exact hI.2.1⟩, hI.2.2.F ht⟩) hI.2.2.2.2 hdg hlk
theorem gr_z {post : Int32 → gM → Prop} {v : Int32} (S : CallFix p m c cc nL s args gw own) (hr : meth.sig.returnType = some .boolean) (hlk : meth.locks = false) (hI : gB P f s H locs) (hv : v = 0 ∨ v = 1) (hp : post v f) (hdg : decode cc pc = .ok (.ireturn, 1)) : W p l e R s m args below meth c H locs cells slots (MQ below (gQi P post) args s cells slots (gA P)) (F0 m pc ls [.int v]) :=
  W.zret S.1 S.2.1 hr (by rcases hv with rfl | rfl <;> rfl) (fun t ht hW => ⟨⟨v, f, rfl, hp, hI.1.to hI.2.2 ht hW, by rw [ht]; exact hI.2.1⟩, hI.2.2.F ht⟩) hI.2.2.2.2 hdg hlk
theorem gr_v {post : gM → Prop} (S : CallFix p m c cc nL s args gw own) (hr : meth.sig.returnType = none) (hlk : meth.locks = false) (hI : gB P f s H locs) (hp : post f) (hdg : decode cc pc = .ok (.return_, 1)) : W p l e R s m args below meth c H locs cells slots (MQ below (gQv P post) args s cells slots (gA P)) (F0 m pc ls []) :=
  W.vret S.1 S.2.1 hr (fun t ht hW => ⟨⟨f, rfl, hp, hI.1.to hI.2.2 ht hW, by rw [ht]; exact hI.2.1⟩, hI.2.2.F ht⟩) hI.2.2.2.2 hdg hlk
theorem gr_q {post : Option Nat → gM → Prop} {r : Option Nat} {rt : FieldType} (S : CallFix p m c cc nL s args gw own) (hr : meth.sig.returnType = some rt) (hrt : (∃ n, rt = .object n) ∨ ∃ t, rt = .array t) (hlk : meth.locks = false) (hI : gB P f s H locs) (hp : post r f) (hdg : decode cc pc = .ok (.areturn, 1)) : W p l e R s m args below meth c H locs cells slots (MQ below (gQq P post) args s cells slots (gA P)) (F0 m pc ls [va_rf r]) :=
  W.aret S.1 S.2.1 hr hrt (va_rf_or r) (fun t ht hW => ⟨⟨r, f, rfl, hp, hI.1.to hI.2.2 ht hW, by rw [ht]; exact hI.2.1⟩, hI.2.2.F ht⟩) hI.2.2.2.2 hdg hlk
theorem gr_r {post : Nat → gM → Prop} {x : Nat} {rt : FieldType} (S : CallFix p m c cc nL s args gw own) (hr : meth.sig.returnType = some rt) (hrt : (∃ n, rt = .object n) ∨ ∃ t, rt = .array t) (hlk : meth.locks = false) (hI : gB P f s H locs) (hp : post x f) (hdg : decode cc pc = .ok (.areturn, 1)) : W p l e R s m args below meth c H locs cells slots (MQ below (gQq P (fun r f1 => ∃ x, r = some x ∧ post x f1)) args s cells slots (gA P)) (F0 m pc ls [.ref x]) :=
  gr_q (r := some x) S hr hrt hlk hI ⟨x, rfl, hp⟩ hdg
/-- Object's constructor -/
theorem gc_obj (S : CallFix p m c cc nL s args gw own) (hlink : Cond.methodLink own index y_Obj_init ∈ gw) (hls : ls.size = nL) (hdg : decode cc pc = .ok (.invokespecial index, 3)) (hf : 1 ≤ R.frames) (hrest : (rest.map fun v => v.category).sum + 12 ≤ R.locals)
    (kk : W p l e R s m args below meth c H locs cells slots Q (F0 m (pc + 3) ls rest)) : W p l e R s m args below meth c H locs cells slots Q (F0 m pc ls (.ref a :: rest)) :=
  W.objInit S.1 S.2.1 S.2.2.2.1 (S.2.2.2.2 _ hlink) (S.2.2.2.2 _ wi_23) (S.2.2.2.2 _ wi_24) rfl (by rw [S.2.2.1]; exact hls) rfl hdg hf (by show 2 * 0 + _ + 12 ≤ _; omega) kk
theorem gc_max (S : CallFix p m c cc nL s args gw own) (hlink : Cond.methodLink own index y_Math_max ∈ gw) (hls : ls.size = nL) (hdg : decode cc pc = .ok (.invokestatic index, 3)) {x z : Nat} (hx : x < 2 ^ 31) (hz : z < 2 ^ 31) (hf : 1 ≤ R.frames) (hrest : (rest.map fun v => v.category).sum + 13 ≤ R.locals) (h1 : cells ≤ R.cells) (h2 : slots ≤ R.slots)
    (kk : W p l e R s m args below meth c H locs cells slots Q (F0 m (pc + 3) ls (.int (nI (max x z)) :: rest))) : W p l e R s m args below meth c H locs cells slots Q (F0 m pc ls (.int (nI z) :: .int (nI x) :: rest)) := by
  refine va_mmax S.1 S.2.1 (S.2.2.1.trans hls.symm) S.2.2.2.1 (S.2.2.2.2 _ hlink) (S.2.2.2.2 _ wi_230) (S.2.2.2.2 _ wi_12) (S.2.2.2.2 _ wi_231) hf hrest h1 h2 hdg ?_
  have e1 : (if nI x < nI z then nI z else nI x) = nI (max x z) := by
    by_cases h : x < z
    · rw [if_pos (nI_lt h hz), Nat.max_eq_right (Nat.le_of_lt h)]
    · rw [if_neg (nI_nlt (by omega) hx), Nat.max_eq_left (by omega)]
  rw [e1]
  exact kk
theorem gc_min (S : CallFix p m c cc nL s args gw own) (hlink : Cond.methodLink own index y_Math_min ∈ gw) (hls : ls.size = nL) (hdg : decode cc pc = .ok (.invokestatic index, 3)) {x z : Nat} (hx : x < 2 ^ 31) (hz : z < 2 ^ 31) (hf : 1 ≤ R.frames) (hrest : (rest.map fun v => v.category).sum + 13 ≤ R.locals) (h1 : cells ≤ R.cells) (h2 : slots ≤ R.slots)
    (kk : W p l e R s m args below meth c H locs cells slots Q (F0 m (pc + 3) ls (.int (nI (min x z)) :: rest))) : W p l e R s m args below meth c H locs cells slots Q (F0 m pc ls (.int (nI z) :: .int (nI x) :: rest)) := by
  refine va_mmin S.1 S.2.1 (S.2.2.1.trans hls.symm) S.2.2.2.1 (S.2.2.2.2 _ hlink) (S.2.2.2.2 _ wi_166) (S.2.2.2.2 _ wi_12) (S.2.2.2.2 _ wi_167) hf hrest h1 h2 hdg ?_
  have e1 : (if nI z < nI x then nI z else nI x) = nI (min x z) := by
    by_cases h : z < x
    · rw [if_pos (nI_lt h hx), Nat.min_eq_right (Nat.le_of_lt h)]
    · rw [if_neg (nI_nlt (by omega) hz), Nat.min_eq_left (by omega)]
  rw [e1]
  exact kk
end GCL
end
