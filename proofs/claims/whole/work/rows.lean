section
-- ===== PART A: goes FIRST, ahead of the names: the tables' words, and 'selects' of the private methods out of them =====
/-- a private method of a class that the tables say can be made, by its rows of tables_1 -/
def lw_okq (q : MethodName × Nat) : Prop := (q.1.cls ≠ "java/lang/invoke/MethodHandle" ∧ q.1.cls ≠ "java/lang/invoke/VarHandle") ∧ Cond.instantiable q.1.cls q.2 ∈ tables_1 ∧ Cond.privateMethod q.1 ∈ tables_1 ∧ Cond.instanceMethod q.1 ∈ tables_1
theorem lw_p0 : lw_okq (⟨"StripeFiles", "isRefused", "(III)Z"⟩, 6) := ⟨⟨by decide +kernel, by decide +kernel⟩, List.mem_of_getElem? (i := 18) (by decide +kernel), List.mem_of_getElem? (i := 155) (by decide +kernel), List.mem_of_getElem? (i := 156) (by decide +kernel)⟩
theorem lw_p1 : lw_okq (⟨"StripeFiles", "makeFile", "(I)I"⟩, 6) := ⟨⟨by decide +kernel, by decide +kernel⟩, List.mem_of_getElem? (i := 18) (by decide +kernel), List.mem_of_getElem? (i := 163) (by decide +kernel), List.mem_of_getElem? (i := 164) (by decide +kernel)⟩
theorem lw_p2 : lw_okq (⟨"StripeFiles$Shelf", "indexOf", "(LStripeFiles$Row;)I"⟩, 3) := ⟨⟨by decide +kernel, by decide +kernel⟩, List.mem_of_getElem? (i := 40) (by decide +kernel), List.mem_of_getElem? (i := 171) (by decide +kernel), List.mem_of_getElem? (i := 172) (by decide +kernel)⟩
theorem lw_p3 : lw_okq (⟨"StripeFiles$Shelf", "placeOf", "(LStripeFiles$Row;)I"⟩, 3) := ⟨⟨by decide +kernel, by decide +kernel⟩, List.mem_of_getElem? (i := 40) (by decide +kernel), List.mem_of_getElem? (i := 175) (by decide +kernel), List.mem_of_getElem? (i := 176) (by decide +kernel)⟩
theorem lw_p4 : lw_okq (⟨"StripeFiles$Shelf", "isAt", "(ILStripeFiles$Row;)Z"⟩, 3) := ⟨⟨by decide +kernel, by decide +kernel⟩, List.mem_of_getElem? (i := 40) (by decide +kernel), List.mem_of_getElem? (i := 209) (by decide +kernel), List.mem_of_getElem? (i := 210) (by decide +kernel)⟩
theorem lw_p5 : lw_okq (⟨"java/util/ArrayList", "fastRemove", "([Ljava/lang/Object;I)V"⟩, 3) := ⟨⟨by decide +kernel, by decide +kernel⟩, List.mem_of_getElem? (i := 46) (by decide +kernel), List.mem_of_getElem? (i := 258) (by decide +kernel), List.mem_of_getElem? (i := 259) (by decide +kernel)⟩
theorem lw_p6 : lw_okq (⟨"java/util/ArrayList", "rangeCheckForAdd", "(I)V"⟩, 3) := ⟨⟨by decide +kernel, by decide +kernel⟩, List.mem_of_getElem? (i := 46) (by decide +kernel), List.mem_of_getElem? (i := 272) (by decide +kernel), List.mem_of_getElem? (i := 273) (by decide +kernel)⟩
theorem lw_p7 : lw_okq (⟨"java/util/ArrayList", "grow", "()[Ljava/lang/Object;"⟩, 3) := ⟨⟨by decide +kernel, by decide +kernel⟩, List.mem_of_getElem? (i := 46) (by decide +kernel), List.mem_of_getElem? (i := 276) (by decide +kernel), List.mem_of_getElem? (i := 277) (by decide +kernel)⟩
theorem lw_p8 : lw_okq (⟨"java/util/ArrayList", "grow", "(I)[Ljava/lang/Object;"⟩, 3) := ⟨⟨by decide +kernel, by decide +kernel⟩, List.mem_of_getElem? (i := 46) (by decide +kernel), List.mem_of_getElem? (i := 280) (by decide +kernel), List.mem_of_getElem? (i := 281) (by decide +kernel)⟩
theorem lw_p9 : lw_okq (⟨"StripeFiles", "writeTape", "(III)I"⟩, 6) := ⟨⟨by decide +kernel, by decide +kernel⟩, List.mem_of_getElem? (i := 18) (by decide +kernel), List.mem_of_getElem? (i := 319) (by decide +kernel), List.mem_of_getElem? (i := 320) (by decide +kernel)⟩
theorem lw_p10 : lw_okq (⟨"StripeFiles$StripedFile", "lay", "(I)LStripeFiles$Piece;"⟩, 5) := ⟨⟨by decide +kernel, by decide +kernel⟩, List.mem_of_getElem? (i := 228) (by decide +kernel), List.mem_of_getElem? (i := 345) (by decide +kernel), List.mem_of_getElem? (i := 346) (by decide +kernel)⟩
theorem lw_p11 : lw_okq (⟨"StripeFiles", "renameFile", "()I"⟩, 6) := ⟨⟨by decide +kernel, by decide +kernel⟩, List.mem_of_getElem? (i := 18) (by decide +kernel), List.mem_of_getElem? (i := 373) (by decide +kernel), List.mem_of_getElem? (i := 374) (by decide +kernel)⟩
theorem lw_p12 : lw_okq (⟨"StripeFiles$StripedFile", "cutStripe", "(II)V"⟩, 5) := ⟨⟨by decide +kernel, by decide +kernel⟩, List.mem_of_getElem? (i := 228) (by decide +kernel), List.mem_of_getElem? (i := 386) (by decide +kernel), List.mem_of_getElem? (i := 387) (by decide +kernel)⟩
theorem lw_p13 : lw_okq (⟨"java/util/ArrayList", "add", "(Ljava/lang/Object;[Ljava/lang/Object;I)V"⟩, 3) := ⟨⟨by decide +kernel, by decide +kernel⟩, List.mem_of_getElem? (i := 46) (by decide +kernel), List.mem_of_getElem? (i := 405) (by decide +kernel), List.mem_of_getElem? (i := 406) (by decide +kernel)⟩
theorem lw_p14 : lw_okq (⟨"StripeFiles", "swapFiles", "()I"⟩, 6) := ⟨⟨by decide +kernel, by decide +kernel⟩, List.mem_of_getElem? (i := 18) (by decide +kernel), List.mem_of_getElem? (i := 415) (by decide +kernel), List.mem_of_getElem? (i := 416) (by decide +kernel)⟩
theorem lw_p15 : lw_okq (⟨"StripeFiles", "tellNextName", "()I"⟩, 6) := ⟨⟨by decide +kernel, by decide +kernel⟩, List.mem_of_getElem? (i := 18) (by decide +kernel), List.mem_of_getElem? (i := 427) (by decide +kernel), List.mem_of_getElem? (i := 428) (by decide +kernel)⟩
def lw_privs_1 : List (MethodName × Nat) := [(⟨"StripeFiles", "isRefused", "(III)Z"⟩, 6), (⟨"StripeFiles", "makeFile", "(I)I"⟩, 6), (⟨"StripeFiles$Shelf", "indexOf", "(LStripeFiles$Row;)I"⟩, 3), (⟨"StripeFiles$Shelf", "placeOf", "(LStripeFiles$Row;)I"⟩, 3), (⟨"StripeFiles$Shelf", "isAt", "(ILStripeFiles$Row;)Z"⟩, 3), (⟨"java/util/ArrayList", "fastRemove", "([Ljava/lang/Object;I)V"⟩, 3), (⟨"java/util/ArrayList", "rangeCheckForAdd", "(I)V"⟩, 3), (⟨"java/util/ArrayList", "grow", "()[Ljava/lang/Object;"⟩, 3), (⟨"java/util/ArrayList", "grow", "(I)[Ljava/lang/Object;"⟩, 3), (⟨"StripeFiles", "writeTape", "(III)I"⟩, 6), (⟨"StripeFiles$StripedFile", "lay", "(I)LStripeFiles$Piece;"⟩, 5), (⟨"StripeFiles", "renameFile", "()I"⟩, 6), (⟨"StripeFiles$StripedFile", "cutStripe", "(II)V"⟩, 5), (⟨"java/util/ArrayList", "add", "(Ljava/lang/Object;[Ljava/lang/Object;I)V"⟩, 3), (⟨"StripeFiles", "swapFiles", "()I"⟩, 6), (⟨"StripeFiles", "tellNextName", "()I"⟩, 6)]
theorem lw_r1 : ∀ q ∈ lw_privs_1, lw_okq q := List.forall_mem_cons.mpr ⟨lw_p0, List.forall_mem_cons.mpr ⟨lw_p1, List.forall_mem_cons.mpr ⟨lw_p2, List.forall_mem_cons.mpr ⟨lw_p3, List.forall_mem_cons.mpr ⟨lw_p4, List.forall_mem_cons.mpr ⟨lw_p5, List.forall_mem_cons.mpr ⟨lw_p6, List.forall_mem_cons.mpr ⟨lw_p7, List.forall_mem_cons.mpr ⟨lw_p8, List.forall_mem_cons.mpr ⟨lw_p9, List.forall_mem_cons.mpr ⟨lw_p10, List.forall_mem_cons.mpr ⟨lw_p11, List.forall_mem_cons.mpr ⟨lw_p12, List.forall_mem_cons.mpr ⟨lw_p13, List.forall_mem_cons.mpr ⟨lw_p14, List.forall_mem_cons.mpr ⟨lw_p15, fun _ h => absurd h List.not_mem_nil⟩⟩⟩⟩⟩⟩⟩⟩⟩⟩⟩⟩⟩⟩⟩⟩
theorem lw_p16 : lw_okq (⟨"StripeFiles", "runOnFile", "(III)I"⟩, 6) := ⟨⟨by decide +kernel, by decide +kernel⟩, List.mem_of_getElem? (i := 18) (by decide +kernel), List.mem_of_getElem? (i := 436) (by decide +kernel), List.mem_of_getElem? (i := 437) (by decide +kernel)⟩
theorem lw_p17 : lw_okq (⟨"StripeFiles", "cutFile", "(LStripeFiles$StripedFile;I)I"⟩, 6) := ⟨⟨by decide +kernel, by decide +kernel⟩, List.mem_of_getElem? (i := 18) (by decide +kernel), List.mem_of_getElem? (i := 440) (by decide +kernel), List.mem_of_getElem? (i := 441) (by decide +kernel)⟩
theorem lw_p18 : lw_okq (⟨"StripeFiles$StripedFile", "tell", "(IIILStripeFiles$Row;)V"⟩, 5) := ⟨⟨by decide +kernel, by decide +kernel⟩, List.mem_of_getElem? (i := 228) (by decide +kernel), List.mem_of_getElem? (i := 449) (by decide +kernel), List.mem_of_getElem? (i := 450) (by decide +kernel)⟩
theorem lw_p19 : lw_okq (⟨"StripeFilesModel", "put", "(I)V"⟩, 17) := ⟨⟨by decide +kernel, by decide +kernel⟩, List.mem_of_getElem? (i := 502) (by decide +kernel), List.mem_of_getElem? (i := 567) (by decide +kernel), List.mem_of_getElem? (i := 568) (by decide +kernel)⟩
theorem lw_p20 : lw_okq (⟨"StripeFilesModel", "find", "(I)I"⟩, 17) := ⟨⟨by decide +kernel, by decide +kernel⟩, List.mem_of_getElem? (i := 502) (by decide +kernel), List.mem_of_getElem? (i := 583) (by decide +kernel), List.mem_of_getElem? (i := 584) (by decide +kernel)⟩
theorem lw_p21 : lw_okq (⟨"StripeFilesModel", "compare", "(II)I"⟩, 17) := ⟨⟨by decide +kernel, by decide +kernel⟩, List.mem_of_getElem? (i := 502) (by decide +kernel), List.mem_of_getElem? (i := 587) (by decide +kernel), List.mem_of_getElem? (i := 588) (by decide +kernel)⟩
theorem lw_p22 : lw_okq (⟨"StripeFilesModel", "made", "(I)I"⟩, 17) := ⟨⟨by decide +kernel, by decide +kernel⟩, List.mem_of_getElem? (i := 502) (by decide +kernel), List.mem_of_getElem? (i := 591) (by decide +kernel), List.mem_of_getElem? (i := 592) (by decide +kernel)⟩
theorem lw_p23 : lw_okq (⟨"StripeFilesModel", "enter", "(II)V"⟩, 17) := ⟨⟨by decide +kernel, by decide +kernel⟩, List.mem_of_getElem? (i := 502) (by decide +kernel), List.mem_of_getElem? (i := 595) (by decide +kernel), List.mem_of_getElem? (i := 596) (by decide +kernel)⟩
theorem lw_p24 : lw_okq (⟨"StripeFilesModel", "write", "(IIZ)I"⟩, 17) := ⟨⟨by decide +kernel, by decide +kernel⟩, List.mem_of_getElem? (i := 502) (by decide +kernel), List.mem_of_getElem? (i := 599) (by decide +kernel), List.mem_of_getElem? (i := 600) (by decide +kernel)⟩
theorem lw_p25 : lw_okq (⟨"StripeFilesModel", "resize", "(II)V"⟩, 17) := ⟨⟨by decide +kernel, by decide +kernel⟩, List.mem_of_getElem? (i := 502) (by decide +kernel), List.mem_of_getElem? (i := 604) (by decide +kernel), List.mem_of_getElem? (i := 605) (by decide +kernel)⟩
theorem lw_p26 : lw_okq (⟨"StripeFilesModel", "cut", "(I)I"⟩, 17) := ⟨⟨by decide +kernel, by decide +kernel⟩, List.mem_of_getElem? (i := 502) (by decide +kernel), List.mem_of_getElem? (i := 608) (by decide +kernel), List.mem_of_getElem? (i := 609) (by decide +kernel)⟩
theorem lw_p27 : lw_okq (⟨"StripeFilesModel", "read", "(II)I"⟩, 17) := ⟨⟨by decide +kernel, by decide +kernel⟩, List.mem_of_getElem? (i := 502) (by decide +kernel), List.mem_of_getElem? (i := 612) (by decide +kernel), List.mem_of_getElem? (i := 613) (by decide +kernel)⟩
theorem lw_p28 : lw_okq (⟨"StripeFilesModel", "gone", "(I)I"⟩, 17) := ⟨⟨by decide +kernel, by decide +kernel⟩, List.mem_of_getElem? (i := 502) (by decide +kernel), List.mem_of_getElem? (i := 616) (by decide +kernel), List.mem_of_getElem? (i := 617) (by decide +kernel)⟩
theorem lw_p29 : lw_okq (⟨"StripeFilesModel", "leave", "(I)V"⟩, 17) := ⟨⟨by decide +kernel, by decide +kernel⟩, List.mem_of_getElem? (i := 502) (by decide +kernel), List.mem_of_getElem? (i := 620) (by decide +kernel), List.mem_of_getElem? (i := 621) (by decide +kernel)⟩
theorem lw_p30 : lw_okq (⟨"StripeFilesModel", "rename", "()I"⟩, 17) := ⟨⟨by decide +kernel, by decide +kernel⟩, List.mem_of_getElem? (i := 502) (by decide +kernel), List.mem_of_getElem? (i := 624) (by decide +kernel), List.mem_of_getElem? (i := 625) (by decide +kernel)⟩
theorem lw_p31 : lw_okq (⟨"StripeFilesModel", "swap", "()I"⟩, 17) := ⟨⟨by decide +kernel, by decide +kernel⟩, List.mem_of_getElem? (i := 502) (by decide +kernel), List.mem_of_getElem? (i := 628) (by decide +kernel), List.mem_of_getElem? (i := 629) (by decide +kernel)⟩
def lw_privs_2 : List (MethodName × Nat) := [(⟨"StripeFiles", "runOnFile", "(III)I"⟩, 6), (⟨"StripeFiles", "cutFile", "(LStripeFiles$StripedFile;I)I"⟩, 6), (⟨"StripeFiles$StripedFile", "tell", "(IIILStripeFiles$Row;)V"⟩, 5), (⟨"StripeFilesModel", "put", "(I)V"⟩, 17), (⟨"StripeFilesModel", "find", "(I)I"⟩, 17), (⟨"StripeFilesModel", "compare", "(II)I"⟩, 17), (⟨"StripeFilesModel", "made", "(I)I"⟩, 17), (⟨"StripeFilesModel", "enter", "(II)V"⟩, 17), (⟨"StripeFilesModel", "write", "(IIZ)I"⟩, 17), (⟨"StripeFilesModel", "resize", "(II)V"⟩, 17), (⟨"StripeFilesModel", "cut", "(I)I"⟩, 17), (⟨"StripeFilesModel", "read", "(II)I"⟩, 17), (⟨"StripeFilesModel", "gone", "(I)I"⟩, 17), (⟨"StripeFilesModel", "leave", "(I)V"⟩, 17), (⟨"StripeFilesModel", "rename", "()I"⟩, 17), (⟨"StripeFilesModel", "swap", "()I"⟩, 17)]
theorem lw_r2 : ∀ q ∈ lw_privs_2, lw_okq q := List.forall_mem_cons.mpr ⟨lw_p16, List.forall_mem_cons.mpr ⟨lw_p17, List.forall_mem_cons.mpr ⟨lw_p18, List.forall_mem_cons.mpr ⟨lw_p19, List.forall_mem_cons.mpr ⟨lw_p20, List.forall_mem_cons.mpr ⟨lw_p21, List.forall_mem_cons.mpr ⟨lw_p22, List.forall_mem_cons.mpr ⟨lw_p23, List.forall_mem_cons.mpr ⟨lw_p24, List.forall_mem_cons.mpr ⟨lw_p25, List.forall_mem_cons.mpr ⟨lw_p26, List.forall_mem_cons.mpr ⟨lw_p27, List.forall_mem_cons.mpr ⟨lw_p28, List.forall_mem_cons.mpr ⟨lw_p29, List.forall_mem_cons.mpr ⟨lw_p30, List.forall_mem_cons.mpr ⟨lw_p31, fun _ h => absurd h List.not_mem_nil⟩⟩⟩⟩⟩⟩⟩⟩⟩⟩⟩⟩⟩⟩⟩⟩
theorem lw_p32 : lw_okq (⟨"StripeFilesModel", "next", "()I"⟩, 17) := ⟨⟨by decide +kernel, by decide +kernel⟩, List.mem_of_getElem? (i := 502) (by decide +kernel), List.mem_of_getElem? (i := 632) (by decide +kernel), List.mem_of_getElem? (i := 633) (by decide +kernel)⟩
theorem lw_p33 : lw_okq (⟨"StripeFilesModel", "stripes", "(I)I"⟩, 17) := ⟨⟨by decide +kernel, by decide +kernel⟩, List.mem_of_getElem? (i := 502) (by decide +kernel), List.mem_of_getElem? (i := 644) (by decide +kernel), List.mem_of_getElem? (i := 645) (by decide +kernel)⟩
def lw_privs_3 : List (MethodName × Nat) := [(⟨"StripeFilesModel", "next", "()I"⟩, 17), (⟨"StripeFilesModel", "stripes", "(I)I"⟩, 17)]
theorem lw_r3 : ∀ q ∈ lw_privs_3, lw_okq q := List.forall_mem_cons.mpr ⟨lw_p32, List.forall_mem_cons.mpr ⟨lw_p33, fun _ h => absurd h List.not_mem_nil⟩⟩
def lw_privs : List (MethodName × Nat) := lw_privs_1 ++ (lw_privs_2 ++ (lw_privs_3))
def lw_tbl : List Cond := k2_sels lw_privs ++ tables_1
theorem lw_privs_ok : ∀ q ∈ lw_privs, lw_okq q := by
  show ∀ q ∈ lw_privs_1 ++ (lw_privs_2 ++ (lw_privs_3)), lw_okq q
  exact List.forall_mem_append.mpr ⟨lw_r1, List.forall_mem_append.mpr ⟨lw_r2, lw_r3⟩⟩
end
section
/-! NAMES: by program (wip/gen/names.py) out of the printed claim -/
def R_SF : String := "StripeFiles"
def R_Row : String := "StripeFiles$Row"
def R_Piece : String := "StripeFiles$Piece"
def R_Pool : String := "StripeFiles$PiecePool"
def R_File : String := "StripeFiles$StripedFile"
def R_Shelf : String := "StripeFiles$Shelf"
def R_Mdl : String := "StripeFilesModel"
def R_Law : String := "StripeFilesLaw"
def R_AL : String := "java/util/ArrayList"
def R_AbL : String := "java/util/AbstractList"
def R_AbC : String := "java/util/AbstractCollection"
def R_Objs : String := "java/util/Objects"
def R_Prec : String := "jdk/internal/util/Preconditions"
def R_ASup : String := "jdk/internal/util/ArraysSupport"
def R_Arrs : String := "java/util/Arrays"
def R_Math : String := "java/lang/Math"
def R_Obj : String := "java/lang/Object"
def R_Sys : String := "java/lang/System"
def F_SF : u_T := fun k => match k with
  | 0 => ("StripeFiles", "tape", "LStripeFiles$Row;", true)
  | 1 => ("StripeFiles", "firstName", "LStripeFiles$Row;", true)
  | 2 => ("StripeFiles", "secondName", "LStripeFiles$Row;", true)
  | 3 => ("StripeFiles", "latestTold", "LStripeFiles$Row;", true)
  | 4 => ("StripeFiles", "shelf", "LStripeFiles$Shelf;", true)
  | _ => ("StripeFiles", "operations", "I", false)
def t_SF : Nat → FieldType := fun k => match k with
  | 0 => (.object "StripeFiles$Row")
  | 1 => (.object "StripeFiles$Row")
  | 2 => (.object "StripeFiles$Row")
  | 3 => (.object "StripeFiles$Row")
  | 4 => (.object "StripeFiles$Shelf")
  | _ => .int
theorem n_SF : ∀ a, a < 6 → ∀ b, b < 6 → a ≠ b → (F_SF a).2.1 ≠ (F_SF b).2.1 := by decide +kernel
theorem tk_SF : ∀ k, k < 6 → parseFieldDescriptor (F_SF k).2.2.1 = some (t_SF k) := by decide +kernel
def F_Row : u_T := fun k => match k with
  | 0 => ("StripeFiles$Row", "bytes", "[B", true)
  | _ => ("StripeFiles$Row", "length", "I", false)
def t_Row : Nat → FieldType := fun k => match k with
  | 0 => (.array .byte)
  | _ => .int
theorem n_Row : ∀ a, a < 2 → ∀ b, b < 2 → a ≠ b → (F_Row a).2.1 ≠ (F_Row b).2.1 := by decide +kernel
theorem tk_Row : ∀ k, k < 2 → parseFieldDescriptor (F_Row k).2.2.1 = some (t_Row k) := by decide +kernel
def F_Piece : u_T := fun k => match k with
  | _ => ("StripeFiles$Piece", "bytes", "[B", true)
def t_Piece : Nat → FieldType := fun k => match k with
  | _ => (.array .byte)
theorem n_Piece : ∀ a, a < 1 → ∀ b, b < 1 → a ≠ b → (F_Piece a).2.1 ≠ (F_Piece b).2.1 := by decide +kernel
theorem tk_Piece : ∀ k, k < 1 → parseFieldDescriptor (F_Piece k).2.2.1 = some (t_Piece k) := by decide +kernel
def F_Pool : u_T := fun k => match k with
  | _ => ("StripeFiles$PiecePool", "spare", "Ljava/util/ArrayList;", true)
def t_Pool : Nat → FieldType := fun k => match k with
  | _ => (.object "java/util/ArrayList")
theorem n_Pool : ∀ a, a < 1 → ∀ b, b < 1 → a ≠ b → (F_Pool a).2.1 ≠ (F_Pool b).2.1 := by decide +kernel
theorem tk_Pool : ∀ k, k < 1 → parseFieldDescriptor (F_Pool k).2.2.1 = some (t_Pool k) := by decide +kernel
def F_File : u_T := fun k => match k with
  | 0 => ("StripeFiles$StripedFile", "pool", "LStripeFiles$PiecePool;", true)
  | 1 => ("StripeFiles$StripedFile", "title", "LStripeFiles$Row;", true)
  | 2 => ("StripeFiles$StripedFile", "pieces", "[LStripeFiles$Piece;", true)
  | 3 => ("StripeFiles$StripedFile", "id", "I", false)
  | _ => ("StripeFiles$StripedFile", "length", "I", false)
def t_File : Nat → FieldType := fun k => match k with
  | 0 => (.object "StripeFiles$PiecePool")
  | 1 => (.object "StripeFiles$Row")
  | 2 => (.array (.object "StripeFiles$Piece"))
  | 3 => .int
  | _ => .int
theorem n_File : ∀ a, a < 5 → ∀ b, b < 5 → a ≠ b → (F_File a).2.1 ≠ (F_File b).2.1 := by decide +kernel
theorem tk_File : ∀ k, k < 5 → parseFieldDescriptor (F_File k).2.2.1 = some (t_File k) := by decide +kernel
def F_Shelf : u_T := fun k => match k with
  | 0 => ("StripeFiles$Shelf", "ordered", "Ljava/util/ArrayList;", true)
  | 1 => ("StripeFiles$Shelf", "spare", "Ljava/util/ArrayList;", true)
  | _ => ("StripeFiles$Shelf", "pool", "LStripeFiles$PiecePool;", true)
def t_Shelf : Nat → FieldType := fun k => match k with
  | 0 => (.object "java/util/ArrayList")
  | 1 => (.object "java/util/ArrayList")
  | _ => (.object "StripeFiles$PiecePool")
theorem n_Shelf : ∀ a, a < 3 → ∀ b, b < 3 → a ≠ b → (F_Shelf a).2.1 ≠ (F_Shelf b).2.1 := by decide +kernel
theorem tk_Shelf : ∀ k, k < 3 → parseFieldDescriptor (F_Shelf k).2.2.1 = some (t_Shelf k) := by decide +kernel
def F_AL : u_T := fun k => match k with
  | 0 => ("java/util/AbstractList", "modCount", "I", false)
  | 1 => ("java/util/ArrayList", "elementData", "[Ljava/lang/Object;", false)
  | _ => ("java/util/ArrayList", "size", "I", false)
def t_AL : Nat → FieldType := fun k => match k with
  | 0 => .int
  | 1 => (.array (.object "java/lang/Object"))
  | _ => .int
theorem n_AL : ∀ a, a < 3 → ∀ b, b < 3 → a ≠ b → (F_AL a).2.1 ≠ (F_AL b).2.1 := by decide +kernel
theorem tk_AL : ∀ k, k < 3 → parseFieldDescriptor (F_AL k).2.2.1 = some (t_AL k) := by decide +kernel
def F_Mdl : u_T := fun k => match k with
  | 0 => ("StripeFilesModel", "tape", "[B", true)
  | 1 => ("StripeFilesModel", "tapeLength", "I", false)
  | 2 => ("StripeFilesModel", "names", "[B", true)
  | 3 => ("StripeFilesModel", "nameLength", "[I", true)
  | 4 => ("StripeFilesModel", "order", "[I", true)
  | 5 => ("StripeFilesModel", "used", "[Z", true)
  | 6 => ("StripeFilesModel", "fileName", "[B", true)
  | 7 => ("StripeFilesModel", "fileNameLength", "[I", true)
  | 8 => ("StripeFilesModel", "fileId", "[I", true)
  | 9 => ("StripeFilesModel", "fileSize", "[I", true)
  | 10 => ("StripeFilesModel", "bytes", "[B", true)
  | 11 => ("StripeFilesModel", "laid", "[Z", true)
  | 12 => ("StripeFilesModel", "files", "I", false)
  | 13 => ("StripeFilesModel", "total", "I", false)
  | 14 => ("StripeFilesModel", "operations", "I", false)
  | 15 => ("StripeFilesModel", "told", "[I", true)
  | _ => ("StripeFilesModel", "toldLength", "I", false)
def t_Mdl : Nat → FieldType := fun k => match k with
  | 0 => (.array .byte)
  | 1 => .int
  | 2 => (.array .byte)
  | 3 => (.array .int)
  | 4 => (.array .int)
  | 5 => (.array .boolean)
  | 6 => (.array .byte)
  | 7 => (.array .int)
  | 8 => (.array .int)
  | 9 => (.array .int)
  | 10 => (.array .byte)
  | 11 => (.array .boolean)
  | 12 => .int
  | 13 => .int
  | 14 => .int
  | 15 => (.array .int)
  | _ => .int
theorem n_Mdl : ∀ a, a < 17 → ∀ b, b < 17 → a ≠ b → (F_Mdl a).2.1 ≠ (F_Mdl b).2.1 := by decide +kernel
theorem tk_Mdl : ∀ k, k < 17 → parseFieldDescriptor (F_Mdl k).2.2.1 = some (t_Mdl k) := by decide +kernel
abbrev gcl : List vw_C := [(R_SF, F_SF, 6), (R_Row, F_Row, 2), (R_Piece, F_Piece, 1), (R_Pool, F_Pool, 1), (R_File, F_File, 5), (R_Shelf, F_Shelf, 3), (R_AL, F_AL, 3), (R_Mdl, F_Mdl, 17)]
/-- the words that every method may take along -/
def gw : List Cond := lw_tbl.filter goodWord
theorem gw_in {w : Cond} (h : w ∈ gw) : w ∈ lw_tbl := (List.mem_filter.mp h).1
theorem gw_ok {w : Cond} (h : w ∈ gw) : goodWord w = true := (List.mem_filter.mp h).2
theorem gw_1 {w : Cond} (i : Nat) (h : tables_1_1[i]? = some w) (hg : goodWord w = true) : w ∈ gw := List.mem_filter.mpr ⟨List.mem_append_right _ (show w ∈ tables_1_1 ++ (tables_1_2 ++ tables_1_3) from List.mem_append_left _ (List.mem_of_getElem? h)), hg⟩
theorem tw_1 {w : Cond} (i : Nat) (h : tables_1_1[i]? = some w) : w ∈ lw_tbl := List.mem_append_right _ (show w ∈ tables_1_1 ++ (tables_1_2 ++ tables_1_3) from List.mem_append_left _ (List.mem_of_getElem? h))
theorem gw_2 {w : Cond} (i : Nat) (h : tables_1_2[i]? = some w) (hg : goodWord w = true) : w ∈ gw := List.mem_filter.mpr ⟨List.mem_append_right _ (show w ∈ tables_1_1 ++ (tables_1_2 ++ tables_1_3) from List.mem_append_right _ (List.mem_append_left _ (List.mem_of_getElem? h))), hg⟩
theorem tw_2 {w : Cond} (i : Nat) (h : tables_1_2[i]? = some w) : w ∈ lw_tbl := List.mem_append_right _ (show w ∈ tables_1_1 ++ (tables_1_2 ++ tables_1_3) from List.mem_append_right _ (List.mem_append_left _ (List.mem_of_getElem? h)))
theorem gw_3 {w : Cond} (i : Nat) (h : tables_1_3[i]? = some w) (hg : goodWord w = true) : w ∈ gw := List.mem_filter.mpr ⟨List.mem_append_right _ (show w ∈ tables_1_1 ++ (tables_1_2 ++ tables_1_3) from List.mem_append_right _ (List.mem_append_right _ (List.mem_of_getElem? h))), hg⟩
theorem tw_3 {w : Cond} (i : Nat) (h : tables_1_3[i]? = some w) : w ∈ lw_tbl := List.mem_append_right _ (show w ∈ tables_1_1 ++ (tables_1_2 ++ tables_1_3) from List.mem_append_right _ (List.mem_append_right _ (List.mem_of_getElem? h)))
abbrev b_SF_init : ByteArray := prog_1_method_1_code
def y_SF_init : MethodName := ⟨R_SF, "<init>", "()V"⟩
abbrev b_Obj_init : ByteArray := object_method_1_code
def y_Obj_init : MethodName := ⟨R_Obj, "<init>", "()V"⟩
abbrev b_Row_init : ByteArray := prog_4_method_1_code
def y_Row_init : MethodName := ⟨R_Row, "<init>", "(I)V"⟩
abbrev b_Shelf_init : ByteArray := prog_5_method_1_code
def y_Shelf_init : MethodName := ⟨R_Shelf, "<init>", "()V"⟩
abbrev b_AL_init : ByteArray := prog_16_method_2_code
def y_AL_init : MethodName := ⟨R_AL, "<init>", "()V"⟩
abbrev b_AbL_init : ByteArray := prog_15_method_1_code
def y_AbL_init : MethodName := ⟨R_AbL, "<init>", "()V"⟩
abbrev b_AbC_init : ByteArray := prog_14_method_1_code
def y_AbC_init : MethodName := ⟨R_AbC, "<init>", "()V"⟩
abbrev b_Pool_init : ByteArray := prog_3_method_1_code
def y_Pool_init : MethodName := ⟨R_Pool, "<init>", "()V"⟩
abbrev b_SF_feed : ByteArray := prog_1_method_2_code
def y_SF_feed : MethodName := ⟨R_SF, "feed", "(IIIII)I"⟩
abbrev b_Row_length : ByteArray := prog_4_method_2_code
def y_Row_length : MethodName := ⟨R_Row, "length", "()I"⟩
abbrev b_Row_addWord : ByteArray := prog_4_method_6_code
def y_Row_addWord : MethodName := ⟨R_Row, "addWord", "(I)V"⟩
abbrev b_SF_end : ByteArray := prog_1_method_3_code
def y_SF_end : MethodName := ⟨R_SF, "end", "(I)I"⟩
abbrev b_SF_isWithin : ByteArray := prog_1_method_11_code
def y_SF_isWithin : MethodName := ⟨R_SF, "isWithin", "(II)Z"⟩
abbrev b_Row_shorten : ByteArray := prog_4_method_5_code
def y_Row_shorten : MethodName := ⟨R_Row, "shorten", "(I)V"⟩
abbrev b_SF_name : ByteArray := prog_1_method_4_code
def y_SF_name : MethodName := ⟨R_SF, "name", "(I)I"⟩
abbrev b_Row_become : ByteArray := prog_4_method_9_code
def y_Row_become : MethodName := ⟨R_Row, "become", "(LStripeFiles$Row;)V"⟩
abbrev b_Row_addBytes : ByteArray := prog_4_method_7_code
def y_Row_addBytes : MethodName := ⟨R_Row, "addBytes", "([BII)V"⟩
abbrev b_SF_run : ByteArray := prog_1_method_5_code
def y_SF_run : MethodName := ⟨R_SF, "run", "(III)I"⟩
abbrev b_SF_isRefused : ByteArray := prog_1_method_10_code
def y_SF_isRefused : MethodName := ⟨R_SF, "isRefused", "(III)Z"⟩
abbrev b_Row_isEmpty : ByteArray := prog_4_method_3_code
def y_Row_isEmpty : MethodName := ⟨R_Row, "isEmpty", "()Z"⟩
abbrev b_SF_makeFile : ByteArray := prog_1_method_12_code
def y_SF_makeFile : MethodName := ⟨R_SF, "makeFile", "(I)I"⟩
abbrev b_Shelf_find : ByteArray := prog_5_method_8_code
def y_Shelf_find : MethodName := ⟨R_Shelf, "find", "(LStripeFiles$Row;)LStripeFiles$StripedFile;"⟩
abbrev b_Shelf_indexOf : ByteArray := prog_5_method_14_code
def y_Shelf_indexOf : MethodName := ⟨R_Shelf, "indexOf", "(LStripeFiles$Row;)I"⟩
abbrev b_Shelf_placeOf : ByteArray := prog_5_method_16_code
def y_Shelf_placeOf : MethodName := ⟨R_Shelf, "placeOf", "(LStripeFiles$Row;)I"⟩
abbrev b_AL_size : ByteArray := prog_16_method_8_code
def y_AL_size : MethodName := ⟨R_AL, "size", "()I"⟩
abbrev b_AL_get : ByteArray := prog_16_method_20_code
def y_AL_get : MethodName := ⟨R_AL, "get", "(I)Ljava/lang/Object;"⟩
abbrev b_Objs_checkIndex : ByteArray := prog_20_method_17_code
def y_Objs_checkIndex : MethodName := ⟨R_Objs, "checkIndex", "(II)I"⟩
abbrev b_Prec_checkIndex : ByteArray := prog_24_method_11_code
def y_Prec_checkIndex : MethodName := ⟨R_Prec, "checkIndex", "(IILjava/util/function/BiFunction;)I"⟩
abbrev b_AL_elementData : ByteArray := prog_16_method_18_code
def y_AL_elementData : MethodName := ⟨R_AL, "elementData", "(I)Ljava/lang/Object;"⟩
abbrev b_File_title : ByteArray := prog_6_method_3_code
def y_File_title : MethodName := ⟨R_File, "title", "()LStripeFiles$Row;"⟩
abbrev b_Row_compareWith : ByteArray := prog_4_method_11_code
def y_Row_compareWith : MethodName := ⟨R_Row, "compareWith", "(LStripeFiles$Row;)I"⟩
abbrev b_Math_min : ByteArray := prog_12_method_69_code
def y_Math_min : MethodName := ⟨R_Math, "min", "(II)I"⟩
abbrev b_Shelf_isAt : ByteArray := prog_5_method_15_code
def y_Shelf_isAt : MethodName := ⟨R_Shelf, "isAt", "(ILStripeFiles$Row;)Z"⟩
abbrev b_Shelf_fileAt : ByteArray := prog_5_method_7_code
def y_Shelf_fileAt : MethodName := ⟨R_Shelf, "fileAt", "(I)LStripeFiles$StripedFile;"⟩
abbrev b_Shelf_isFull : ByteArray := prog_5_method_3_code
def y_Shelf_isFull : MethodName := ⟨R_Shelf, "isFull", "()Z"⟩
abbrev b_Shelf_make : ByteArray := prog_5_method_10_code
def y_Shelf_make : MethodName := ⟨R_Shelf, "make", "(LStripeFiles$Row;I)LStripeFiles$StripedFile;"⟩
abbrev b_AL_isEmpty : ByteArray := prog_16_method_9_code
def y_AL_isEmpty : MethodName := ⟨R_AL, "isEmpty", "()Z"⟩
abbrev b_File_init : ByteArray := prog_6_method_1_code
def y_File_init : MethodName := ⟨R_File, "<init>", "(LStripeFiles$PiecePool;)V"⟩
abbrev b_AL_remove : ByteArray := prog_16_method_29_code
def y_AL_remove : MethodName := ⟨R_AL, "remove", "(I)Ljava/lang/Object;"⟩
abbrev b_AL_fastRemove : ByteArray := prog_16_method_39_code
def y_AL_fastRemove : MethodName := ⟨R_AL, "fastRemove", "([Ljava/lang/Object;I)V"⟩
abbrev b_File_begin : ByteArray := prog_6_method_2_code
def y_File_begin : MethodName := ⟨R_File, "begin", "(LStripeFiles$Row;I)V"⟩
abbrev b_AL_add1 : ByteArray := prog_16_method_26_code
def y_AL_add1 : MethodName := ⟨R_AL, "add", "(ILjava/lang/Object;)V"⟩
abbrev b_AL_rangeCheckForAdd : ByteArray := prog_16_method_45_code
def y_AL_rangeCheckForAdd : MethodName := ⟨R_AL, "rangeCheckForAdd", "(I)V"⟩
abbrev b_AL_grow1 : ByteArray := prog_16_method_7_code
def y_AL_grow1 : MethodName := ⟨R_AL, "grow", "()[Ljava/lang/Object;"⟩
abbrev b_AL_grow2 : ByteArray := prog_16_method_6_code
def y_AL_grow2 : MethodName := ⟨R_AL, "grow", "(I)[Ljava/lang/Object;"⟩
abbrev b_ASup_newLength : ByteArray := prog_23_method_27_code
def y_ASup_newLength : MethodName := ⟨R_ASup, "newLength", "(III)I"⟩
abbrev b_Math_max : ByteArray := prog_12_method_65_code
def y_Math_max : MethodName := ⟨R_Math, "max", "(II)I"⟩
abbrev b_ASup_hugeLength : ByteArray := prog_23_method_28_code
def y_ASup_hugeLength : MethodName := ⟨R_ASup, "hugeLength", "(II)I"⟩
abbrev b_Arrs_copyOf1 : ByteArray := prog_17_method_119_code
def y_Arrs_copyOf1 : MethodName := ⟨R_Arrs, "copyOf", "([Ljava/lang/Object;I)[Ljava/lang/Object;"⟩
abbrev b_Arrs_copyOf2 : ByteArray := prog_17_method_120_code
def y_Arrs_copyOf2 : MethodName := ⟨R_Arrs, "copyOf", "([Ljava/lang/Object;ILjava/lang/Class;)[Ljava/lang/Object;"⟩
abbrev b_SF_writeTape : ByteArray := prog_1_method_13_code
def y_SF_writeTape : MethodName := ⟨R_SF, "writeTape", "(III)I"⟩
abbrev b_File_length : ByteArray := prog_6_method_5_code
def y_File_length : MethodName := ⟨R_File, "length", "()I"⟩
abbrev b_Shelf_hasRoom : ByteArray := prog_5_method_6_code
def y_Shelf_hasRoom : MethodName := ⟨R_Shelf, "hasRoom", "(II)Z"⟩
abbrev b_Shelf_allBytes : ByteArray := prog_5_method_4_code
def y_Shelf_allBytes : MethodName := ⟨R_Shelf, "allBytes", "()I"⟩
abbrev b_File_write : ByteArray := prog_6_method_8_code
def y_File_write : MethodName := ⟨R_File, "write", "(ILStripeFiles$Row;)V"⟩
abbrev b_File_lay : ByteArray := prog_6_method_9_code
def y_File_lay : MethodName := ⟨R_File, "lay", "(I)LStripeFiles$Piece;"⟩
abbrev b_Pool_takeBlank : ByteArray := prog_3_method_2_code
def y_Pool_takeBlank : MethodName := ⟨R_Pool, "takeBlank", "()LStripeFiles$Piece;"⟩
abbrev b_Piece_init : ByteArray := prog_2_method_1_code
def y_Piece_init : MethodName := ⟨R_Piece, "<init>", "()V"⟩
abbrev b_Row_copyTo : ByteArray := prog_4_method_10_code
def y_Row_copyTo : MethodName := ⟨R_Row, "copyTo", "([BIII)V"⟩
abbrev b_SF_renameFile : ByteArray := prog_1_method_16_code
def y_SF_renameFile : MethodName := ⟨R_SF, "renameFile", "()I"⟩
abbrev b_Shelf_remove : ByteArray := prog_5_method_11_code
def y_Shelf_remove : MethodName := ⟨R_Shelf, "remove", "(LStripeFiles$Row;)Z"⟩
abbrev b_File_cut : ByteArray := prog_6_method_12_code
def y_File_cut : MethodName := ⟨R_File, "cut", "(I)V"⟩
abbrev b_File_cutStripe : ByteArray := prog_6_method_13_code
def y_File_cutStripe : MethodName := ⟨R_File, "cutStripe", "(II)V"⟩
abbrev b_Arrs_fill : ByteArray := prog_17_method_110_code
def y_Arrs_fill : MethodName := ⟨R_Arrs, "fill", "([BIIB)V"⟩
abbrev b_Arrs_rangeCheck : ByteArray := prog_17_method_30_code
def y_Arrs_rangeCheck : MethodName := ⟨R_Arrs, "rangeCheck", "(III)V"⟩
abbrev b_Pool_giveBack : ByteArray := prog_3_method_3_code
def y_Pool_giveBack : MethodName := ⟨R_Pool, "giveBack", "(LStripeFiles$Piece;)V"⟩
abbrev b_AL_add2 : ByteArray := prog_16_method_25_code
def y_AL_add2 : MethodName := ⟨R_AL, "add", "(Ljava/lang/Object;)Z"⟩
abbrev b_AL_add3 : ByteArray := prog_16_method_24_code
def y_AL_add3 : MethodName := ⟨R_AL, "add", "(Ljava/lang/Object;[Ljava/lang/Object;I)V"⟩
abbrev b_Shelf_rename : ByteArray := prog_5_method_12_code
def y_Shelf_rename : MethodName := ⟨R_Shelf, "rename", "(LStripeFiles$Row;LStripeFiles$Row;)V"⟩
abbrev b_SF_swapFiles : ByteArray := prog_1_method_17_code
def y_SF_swapFiles : MethodName := ⟨R_SF, "swapFiles", "()I"⟩
abbrev b_Shelf_swap : ByteArray := prog_5_method_13_code
def y_Shelf_swap : MethodName := ⟨R_Shelf, "swap", "(LStripeFiles$Row;LStripeFiles$Row;)Z"⟩
abbrev b_AL_set : ByteArray := prog_16_method_23_code
def y_AL_set : MethodName := ⟨R_AL, "set", "(ILjava/lang/Object;)Ljava/lang/Object;"⟩
abbrev b_SF_tellNextName : ByteArray := prog_1_method_18_code
def y_SF_tellNextName : MethodName := ⟨R_SF, "tellNextName", "()I"⟩
abbrev b_Shelf_findAfter : ByteArray := prog_5_method_9_code
def y_Shelf_findAfter : MethodName := ⟨R_Shelf, "findAfter", "(LStripeFiles$Row;)LStripeFiles$StripedFile;"⟩
abbrev b_SF_runOnFile : ByteArray := prog_1_method_14_code
def y_SF_runOnFile : MethodName := ⟨R_SF, "runOnFile", "(III)I"⟩
abbrev b_SF_cutFile : ByteArray := prog_1_method_15_code
def y_SF_cutFile : MethodName := ⟨R_SF, "cutFile", "(LStripeFiles$StripedFile;I)I"⟩
abbrev b_File_read : ByteArray := prog_6_method_10_code
def y_File_read : MethodName := ⟨R_File, "read", "(IILStripeFiles$Row;)V"⟩
abbrev b_File_tell : ByteArray := prog_6_method_11_code
def y_File_tell : MethodName := ⟨R_File, "tell", "(IIILStripeFiles$Row;)V"⟩
abbrev b_Row_addZeros : ByteArray := prog_4_method_8_code
def y_Row_addZeros : MethodName := ⟨R_Row, "addZeros", "(I)V"⟩
abbrev b_SF_told : ByteArray := prog_1_method_6_code
def y_SF_told : MethodName := ⟨R_SF, "told", "(I)I"⟩
abbrev b_Row_byteAt : ByteArray := prog_4_method_4_code
def y_Row_byteAt : MethodName := ⟨R_Row, "byteAt", "(I)I"⟩
abbrev b_SF_file : ByteArray := prog_1_method_7_code
def y_SF_file : MethodName := ⟨R_SF, "file", "(II)I"⟩
abbrev b_File_id : ByteArray := prog_6_method_4_code
def y_File_id : MethodName := ⟨R_File, "id", "()I"⟩
abbrev b_File_laidStripes : ByteArray := prog_6_method_6_code
def y_File_laidStripes : MethodName := ⟨R_File, "laidStripes", "()I"⟩
abbrev b_SF_piece : ByteArray := prog_1_method_8_code
def y_SF_piece : MethodName := ⟨R_SF, "piece", "(III)I"⟩
abbrev b_File_keptByte : ByteArray := prog_6_method_7_code
def y_File_keptByte : MethodName := ⟨R_File, "keptByte", "(II)I"⟩
abbrev b_SF_count : ByteArray := prog_1_method_9_code
def y_SF_count : MethodName := ⟨R_SF, "count", "(I)I"⟩
abbrev b_Shelf_size : ByteArray := prog_5_method_2_code
def y_Shelf_size : MethodName := ⟨R_Shelf, "size", "()I"⟩
abbrev b_Shelf_laidStripes : ByteArray := prog_5_method_5_code
def y_Shelf_laidStripes : MethodName := ⟨R_Shelf, "laidStripes", "()I"⟩
abbrev b_Mdl_init : ByteArray := prog_8_method_1_code
def y_Mdl_init : MethodName := ⟨R_Mdl, "<init>", "()V"⟩
abbrev b_Mdl_feed : ByteArray := prog_8_method_3_code
def y_Mdl_feed : MethodName := ⟨R_Mdl, "feed", "(IIIII)I"⟩
abbrev b_Mdl_put : ByteArray := prog_8_method_2_code
def y_Mdl_put : MethodName := ⟨R_Mdl, "put", "(I)V"⟩
abbrev b_Mdl_end : ByteArray := prog_8_method_4_code
def y_Mdl_end : MethodName := ⟨R_Mdl, "end", "(I)I"⟩
abbrev b_Mdl_name : ByteArray := prog_8_method_5_code
def y_Mdl_name : MethodName := ⟨R_Mdl, "name", "(I)I"⟩
abbrev b_Mdl_run : ByteArray := prog_8_method_19_code
def y_Mdl_run : MethodName := ⟨R_Mdl, "run", "(III)I"⟩
abbrev b_Mdl_find : ByteArray := prog_8_method_7_code
def y_Mdl_find : MethodName := ⟨R_Mdl, "find", "(I)I"⟩
abbrev b_Mdl_compare : ByteArray := prog_8_method_6_code
def y_Mdl_compare : MethodName := ⟨R_Mdl, "compare", "(II)I"⟩
abbrev b_Mdl_made : ByteArray := prog_8_method_10_code
def y_Mdl_made : MethodName := ⟨R_Mdl, "made", "(I)I"⟩
abbrev b_Mdl_enter : ByteArray := prog_8_method_9_code
def y_Mdl_enter : MethodName := ⟨R_Mdl, "enter", "(II)V"⟩
abbrev b_Mdl_write : ByteArray := prog_8_method_13_code
def y_Mdl_write : MethodName := ⟨R_Mdl, "write", "(IIZ)I"⟩
abbrev b_Mdl_resize : ByteArray := prog_8_method_12_code
def y_Mdl_resize : MethodName := ⟨R_Mdl, "resize", "(II)V"⟩
abbrev b_Mdl_cut : ByteArray := prog_8_method_14_code
def y_Mdl_cut : MethodName := ⟨R_Mdl, "cut", "(I)I"⟩
abbrev b_Mdl_read : ByteArray := prog_8_method_15_code
def y_Mdl_read : MethodName := ⟨R_Mdl, "read", "(II)I"⟩
abbrev b_Mdl_gone : ByteArray := prog_8_method_11_code
def y_Mdl_gone : MethodName := ⟨R_Mdl, "gone", "(I)I"⟩
abbrev b_Mdl_leave : ByteArray := prog_8_method_8_code
def y_Mdl_leave : MethodName := ⟨R_Mdl, "leave", "(I)V"⟩
abbrev b_Mdl_rename : ByteArray := prog_8_method_16_code
def y_Mdl_rename : MethodName := ⟨R_Mdl, "rename", "()I"⟩
abbrev b_Mdl_swap : ByteArray := prog_8_method_17_code
def y_Mdl_swap : MethodName := ⟨R_Mdl, "swap", "()I"⟩
abbrev b_Mdl_next : ByteArray := prog_8_method_18_code
def y_Mdl_next : MethodName := ⟨R_Mdl, "next", "()I"⟩
abbrev b_Mdl_told : ByteArray := prog_8_method_20_code
def y_Mdl_told : MethodName := ⟨R_Mdl, "told", "(I)I"⟩
abbrev b_Mdl_file : ByteArray := prog_8_method_22_code
def y_Mdl_file : MethodName := ⟨R_Mdl, "file", "(II)I"⟩
abbrev b_Mdl_stripes : ByteArray := prog_8_method_21_code
def y_Mdl_stripes : MethodName := ⟨R_Mdl, "stripes", "(I)I"⟩
abbrev b_Mdl_piece : ByteArray := prog_8_method_23_code
def y_Mdl_piece : MethodName := ⟨R_Mdl, "piece", "(III)I"⟩
abbrev b_Mdl_count : ByteArray := prog_8_method_24_code
def y_Mdl_count : MethodName := ⟨R_Mdl, "count", "(I)I"⟩
end
section
theorem d_SF_init_0 : decode b_SF_init 0 = .ok (.aload_n 0, 1) := by decide +kernel
theorem d_SF_init_1 : decode b_SF_init 1 = .ok (.invokespecial 3, 3) := by decide +kernel
theorem d_SF_init_4 : decode b_SF_init 4 = .ok (.aload_n 0, 1) := by decide +kernel
theorem d_SF_init_5 : decode b_SF_init 5 = .ok (.new 9, 3) := by decide +kernel
theorem d_SF_init_8 : decode b_SF_init 8 = .ok (.dup, 1) := by decide +kernel
theorem d_SF_init_9 : decode b_SF_init 9 = .ok (.sipush 2048, 3) := by decide +kernel
theorem d_SF_init_12 : decode b_SF_init 12 = .ok (.invokespecial 11, 3) := by decide +kernel
theorem d_SF_init_15 : decode b_SF_init 15 = .ok (.putfield 14, 3) := by decide +kernel
theorem d_SF_init_18 : decode b_SF_init 18 = .ok (.aload_n 0, 1) := by decide +kernel
theorem d_SF_init_19 : decode b_SF_init 19 = .ok (.new 9, 3) := by decide +kernel
theorem d_SF_init_22 : decode b_SF_init 22 = .ok (.dup, 1) := by decide +kernel
theorem d_SF_init_23 : decode b_SF_init 23 = .ok (.sipush 200, 3) := by decide +kernel
theorem d_SF_init_26 : decode b_SF_init 26 = .ok (.invokespecial 11, 3) := by decide +kernel
theorem d_SF_init_29 : decode b_SF_init 29 = .ok (.putfield 18, 3) := by decide +kernel
theorem d_SF_init_32 : decode b_SF_init 32 = .ok (.aload_n 0, 1) := by decide +kernel
theorem d_SF_init_33 : decode b_SF_init 33 = .ok (.new 9, 3) := by decide +kernel
theorem d_SF_init_36 : decode b_SF_init 36 = .ok (.dup, 1) := by decide +kernel
theorem d_SF_init_37 : decode b_SF_init 37 = .ok (.sipush 200, 3) := by decide +kernel
theorem d_SF_init_40 : decode b_SF_init 40 = .ok (.invokespecial 11, 3) := by decide +kernel
theorem d_SF_init_43 : decode b_SF_init 43 = .ok (.putfield 21, 3) := by decide +kernel
theorem d_SF_init_46 : decode b_SF_init 46 = .ok (.aload_n 0, 1) := by decide +kernel
theorem d_SF_init_47 : decode b_SF_init 47 = .ok (.new 9, 3) := by decide +kernel
theorem d_SF_init_50 : decode b_SF_init 50 = .ok (.dup, 1) := by decide +kernel
theorem d_SF_init_51 : decode b_SF_init 51 = .ok (.sipush 2048, 3) := by decide +kernel
theorem d_SF_init_54 : decode b_SF_init 54 = .ok (.invokespecial 11, 3) := by decide +kernel
theorem d_SF_init_57 : decode b_SF_init 57 = .ok (.putfield 24, 3) := by decide +kernel
theorem d_SF_init_60 : decode b_SF_init 60 = .ok (.aload_n 0, 1) := by decide +kernel
theorem d_SF_init_61 : decode b_SF_init 61 = .ok (.new 27, 3) := by decide +kernel
theorem d_SF_init_64 : decode b_SF_init 64 = .ok (.dup, 1) := by decide +kernel
theorem d_SF_init_65 : decode b_SF_init 65 = .ok (.invokespecial 29, 3) := by decide +kernel
theorem d_SF_init_68 : decode b_SF_init 68 = .ok (.putfield 30, 3) := by decide +kernel
theorem d_SF_init_71 : decode b_SF_init 71 = .ok (.aload_n 0, 1) := by decide +kernel
theorem d_SF_init_72 : decode b_SF_init 72 = .ok (.iconst 0, 1) := by decide +kernel
theorem d_SF_init_73 : decode b_SF_init 73 = .ok (.putfield 34, 3) := by decide +kernel
theorem d_SF_init_76 : decode b_SF_init 76 = .ok (.return_, 1) := by decide +kernel
theorem d_Obj_init_0 : decode b_Obj_init 0 = .ok (.return_, 1) := by decide +kernel
theorem d_Row_init_0 : decode b_Row_init 0 = .ok (.aload_n 0, 1) := by decide +kernel
theorem d_Row_init_1 : decode b_Row_init 1 = .ok (.invokespecial 3, 3) := by decide +kernel
theorem d_Row_init_4 : decode b_Row_init 4 = .ok (.aload_n 0, 1) := by decide +kernel
theorem d_Row_init_5 : decode b_Row_init 5 = .ok (.iload_n 1, 1) := by decide +kernel
theorem d_Row_init_6 : decode b_Row_init 6 = .ok (.newarray .byte, 2) := by decide +kernel
theorem d_Row_init_8 : decode b_Row_init 8 = .ok (.putfield 9, 3) := by decide +kernel
theorem d_Row_init_11 : decode b_Row_init 11 = .ok (.aload_n 0, 1) := by decide +kernel
theorem d_Row_init_12 : decode b_Row_init 12 = .ok (.iconst 0, 1) := by decide +kernel
theorem d_Row_init_13 : decode b_Row_init 13 = .ok (.putfield 15, 3) := by decide +kernel
theorem d_Row_init_16 : decode b_Row_init 16 = .ok (.return_, 1) := by decide +kernel
theorem d_Shelf_init_0 : decode b_Shelf_init 0 = .ok (.aload_n 0, 1) := by decide +kernel
theorem d_Shelf_init_1 : decode b_Shelf_init 1 = .ok (.invokespecial 3, 3) := by decide +kernel
theorem d_Shelf_init_4 : decode b_Shelf_init 4 = .ok (.aload_n 0, 1) := by decide +kernel
theorem d_Shelf_init_5 : decode b_Shelf_init 5 = .ok (.new 9, 3) := by decide +kernel
theorem d_Shelf_init_8 : decode b_Shelf_init 8 = .ok (.dup, 1) := by decide +kernel
theorem d_Shelf_init_9 : decode b_Shelf_init 9 = .ok (.invokespecial 11, 3) := by decide +kernel
theorem d_Shelf_init_12 : decode b_Shelf_init 12 = .ok (.putfield 12, 3) := by decide +kernel
theorem d_Shelf_init_15 : decode b_Shelf_init 15 = .ok (.aload_n 0, 1) := by decide +kernel
theorem d_Shelf_init_16 : decode b_Shelf_init 16 = .ok (.new 9, 3) := by decide +kernel
theorem d_Shelf_init_19 : decode b_Shelf_init 19 = .ok (.dup, 1) := by decide +kernel
theorem d_Shelf_init_20 : decode b_Shelf_init 20 = .ok (.invokespecial 11, 3) := by decide +kernel
theorem d_Shelf_init_23 : decode b_Shelf_init 23 = .ok (.putfield 18, 3) := by decide +kernel
theorem d_Shelf_init_26 : decode b_Shelf_init 26 = .ok (.aload_n 0, 1) := by decide +kernel
theorem d_Shelf_init_27 : decode b_Shelf_init 27 = .ok (.new 21, 3) := by decide +kernel
theorem d_Shelf_init_30 : decode b_Shelf_init 30 = .ok (.dup, 1) := by decide +kernel
theorem d_Shelf_init_31 : decode b_Shelf_init 31 = .ok (.invokespecial 23, 3) := by decide +kernel
theorem d_Shelf_init_34 : decode b_Shelf_init 34 = .ok (.putfield 24, 3) := by decide +kernel
theorem d_Shelf_init_37 : decode b_Shelf_init 37 = .ok (.return_, 1) := by decide +kernel
theorem d_AL_init_0 : decode b_AL_init 0 = .ok (.aload_n 0, 1) := by decide +kernel
theorem d_AL_init_1 : decode b_AL_init 1 = .ok (.invokespecial 1, 3) := by decide +kernel
theorem d_AL_init_4 : decode b_AL_init 4 = .ok (.aload_n 0, 1) := by decide +kernel
theorem d_AL_init_5 : decode b_AL_init 5 = .ok (.getstatic 39, 3) := by decide +kernel
theorem d_AL_init_8 : decode b_AL_init 8 = .ok (.putfield 9, 3) := by decide +kernel
theorem d_AL_init_11 : decode b_AL_init 11 = .ok (.return_, 1) := by decide +kernel
theorem d_AbL_init_0 : decode b_AbL_init 0 = .ok (.aload_n 0, 1) := by decide +kernel
theorem d_AbL_init_1 : decode b_AbL_init 1 = .ok (.invokespecial 1, 3) := by decide +kernel
theorem d_AbL_init_4 : decode b_AbL_init 4 = .ok (.aload_n 0, 1) := by decide +kernel
theorem d_AbL_init_5 : decode b_AbL_init 5 = .ok (.iconst 0, 1) := by decide +kernel
theorem d_AbL_init_6 : decode b_AbL_init 6 = .ok (.putfield 7, 3) := by decide +kernel
theorem d_AbL_init_9 : decode b_AbL_init 9 = .ok (.return_, 1) := by decide +kernel
theorem d_AbC_init_0 : decode b_AbC_init 0 = .ok (.aload_n 0, 1) := by decide +kernel
theorem d_AbC_init_1 : decode b_AbC_init 1 = .ok (.invokespecial 1, 3) := by decide +kernel
theorem d_AbC_init_4 : decode b_AbC_init 4 = .ok (.return_, 1) := by decide +kernel
theorem d_Pool_init_0 : decode b_Pool_init 0 = .ok (.aload_n 0, 1) := by decide +kernel
theorem d_Pool_init_1 : decode b_Pool_init 1 = .ok (.invokespecial 3, 3) := by decide +kernel
theorem d_Pool_init_4 : decode b_Pool_init 4 = .ok (.aload_n 0, 1) := by decide +kernel
theorem d_Pool_init_5 : decode b_Pool_init 5 = .ok (.new 9, 3) := by decide +kernel
theorem d_Pool_init_8 : decode b_Pool_init 8 = .ok (.dup, 1) := by decide +kernel
theorem d_Pool_init_9 : decode b_Pool_init 9 = .ok (.invokespecial 11, 3) := by decide +kernel
theorem d_Pool_init_12 : decode b_Pool_init 12 = .ok (.putfield 12, 3) := by decide +kernel
theorem d_Pool_init_15 : decode b_Pool_init 15 = .ok (.return_, 1) := by decide +kernel
theorem d_SF_feed_0 : decode b_SF_feed 0 = .ok (.aload_n 0, 1) := by decide +kernel
theorem d_SF_feed_1 : decode b_SF_feed 1 = .ok (.getfield 14, 3) := by decide +kernel
theorem d_SF_feed_4 : decode b_SF_feed 4 = .ok (.invokevirtual 38, 3) := by decide +kernel
theorem d_SF_feed_7 : decode b_SF_feed 7 = .ok (.bipush 20, 2) := by decide +kernel
theorem d_SF_feed_9 : decode b_SF_feed 9 = .ok (.iadd, 1) := by decide +kernel
theorem d_SF_feed_10 : decode b_SF_feed 10 = .ok (.sipush 2048, 3) := by decide +kernel
theorem d_SF_feed_13 : decode b_SF_feed 13 = .ok (.if_icmp .le 6, 3) := by decide +kernel
theorem d_SF_feed_16 : decode b_SF_feed 16 = .ok (.bipush (-4), 2) := by decide +kernel
theorem d_SF_feed_18 : decode b_SF_feed 18 = .ok (.ireturn, 1) := by decide +kernel
theorem d_SF_feed_19 : decode b_SF_feed 19 = .ok (.aload_n 0, 1) := by decide +kernel
theorem d_SF_feed_20 : decode b_SF_feed 20 = .ok (.getfield 14, 3) := by decide +kernel
theorem d_SF_feed_23 : decode b_SF_feed 23 = .ok (.iload_n 1, 1) := by decide +kernel
theorem d_SF_feed_24 : decode b_SF_feed 24 = .ok (.invokevirtual 42, 3) := by decide +kernel
theorem d_SF_feed_27 : decode b_SF_feed 27 = .ok (.aload_n 0, 1) := by decide +kernel
theorem d_SF_feed_28 : decode b_SF_feed 28 = .ok (.getfield 14, 3) := by decide +kernel
theorem d_SF_feed_31 : decode b_SF_feed 31 = .ok (.iload_n 2, 1) := by decide +kernel
theorem d_SF_feed_32 : decode b_SF_feed 32 = .ok (.invokevirtual 42, 3) := by decide +kernel
theorem d_SF_feed_35 : decode b_SF_feed 35 = .ok (.aload_n 0, 1) := by decide +kernel
theorem d_SF_feed_36 : decode b_SF_feed 36 = .ok (.getfield 14, 3) := by decide +kernel
theorem d_SF_feed_39 : decode b_SF_feed 39 = .ok (.iload_n 3, 1) := by decide +kernel
theorem d_SF_feed_40 : decode b_SF_feed 40 = .ok (.invokevirtual 42, 3) := by decide +kernel
theorem d_SF_feed_43 : decode b_SF_feed 43 = .ok (.aload_n 0, 1) := by decide +kernel
theorem d_SF_feed_44 : decode b_SF_feed 44 = .ok (.getfield 14, 3) := by decide +kernel
theorem d_SF_feed_47 : decode b_SF_feed 47 = .ok (.iload 4, 2) := by decide +kernel
theorem d_SF_feed_49 : decode b_SF_feed 49 = .ok (.invokevirtual 42, 3) := by decide +kernel
theorem d_SF_feed_52 : decode b_SF_feed 52 = .ok (.aload_n 0, 1) := by decide +kernel
theorem d_SF_feed_53 : decode b_SF_feed 53 = .ok (.getfield 14, 3) := by decide +kernel
theorem d_SF_feed_56 : decode b_SF_feed 56 = .ok (.iload 5, 2) := by decide +kernel
theorem d_SF_feed_58 : decode b_SF_feed 58 = .ok (.invokevirtual 42, 3) := by decide +kernel
theorem d_SF_feed_61 : decode b_SF_feed 61 = .ok (.aload_n 0, 1) := by decide +kernel
theorem d_SF_feed_62 : decode b_SF_feed 62 = .ok (.getfield 14, 3) := by decide +kernel
theorem d_SF_feed_65 : decode b_SF_feed 65 = .ok (.invokevirtual 38, 3) := by decide +kernel
theorem d_SF_feed_68 : decode b_SF_feed 68 = .ok (.ireturn, 1) := by decide +kernel
theorem d_Row_length_0 : decode b_Row_length 0 = .ok (.aload_n 0, 1) := by decide +kernel
theorem d_Row_length_1 : decode b_Row_length 1 = .ok (.getfield 15, 3) := by decide +kernel
theorem d_Row_length_4 : decode b_Row_length 4 = .ok (.ireturn, 1) := by decide +kernel
theorem d_Row_addWord_0 : decode b_Row_addWord 0 = .ok (.bipush 24, 2) := by decide +kernel
theorem d_Row_addWord_2 : decode b_Row_addWord 2 = .ok (.istore_n 2, 1) := by decide +kernel
theorem d_Row_addWord_3 : decode b_Row_addWord 3 = .ok (.iload_n 2, 1) := by decide +kernel
theorem d_Row_addWord_4 : decode b_Row_addWord 4 = .ok (.ifCond .lt 32, 3) := by decide +kernel
theorem d_Row_addWord_7 : decode b_Row_addWord 7 = .ok (.aload_n 0, 1) := by decide +kernel
theorem d_Row_addWord_8 : decode b_Row_addWord 8 = .ok (.getfield 9, 3) := by decide +kernel
theorem d_Row_addWord_11 : decode b_Row_addWord 11 = .ok (.aload_n 0, 1) := by decide +kernel
theorem d_Row_addWord_12 : decode b_Row_addWord 12 = .ok (.getfield 15, 3) := by decide +kernel
theorem d_Row_addWord_15 : decode b_Row_addWord 15 = .ok (.iload_n 1, 1) := by decide +kernel
theorem d_Row_addWord_16 : decode b_Row_addWord 16 = .ok (.iload_n 2, 1) := by decide +kernel
theorem d_Row_addWord_17 : decode b_Row_addWord 17 = .ok (.iushr, 1) := by decide +kernel
theorem d_Row_addWord_18 : decode b_Row_addWord 18 = .ok (.i2b, 1) := by decide +kernel
theorem d_Row_addWord_19 : decode b_Row_addWord 19 = .ok (.bastore, 1) := by decide +kernel
theorem d_Row_addWord_20 : decode b_Row_addWord 20 = .ok (.aload_n 0, 1) := by decide +kernel
theorem d_Row_addWord_21 : decode b_Row_addWord 21 = .ok (.dup, 1) := by decide +kernel
theorem d_Row_addWord_22 : decode b_Row_addWord 22 = .ok (.getfield 15, 3) := by decide +kernel
theorem d_Row_addWord_25 : decode b_Row_addWord 25 = .ok (.iconst 1, 1) := by decide +kernel
theorem d_Row_addWord_26 : decode b_Row_addWord 26 = .ok (.iadd, 1) := by decide +kernel
theorem d_Row_addWord_27 : decode b_Row_addWord 27 = .ok (.putfield 15, 3) := by decide +kernel
theorem d_Row_addWord_30 : decode b_Row_addWord 30 = .ok (.iinc 2 (-8), 3) := by decide +kernel
theorem d_Row_addWord_33 : decode b_Row_addWord 33 = .ok (.goto (-30), 3) := by decide +kernel
theorem d_Row_addWord_36 : decode b_Row_addWord 36 = .ok (.return_, 1) := by decide +kernel
theorem d_SF_end_0 : decode b_SF_end 0 = .ok (.iload_n 1, 1) := by decide +kernel
theorem d_SF_end_1 : decode b_SF_end 1 = .ok (.aload_n 0, 1) := by decide +kernel
theorem d_SF_end_2 : decode b_SF_end 2 = .ok (.getfield 14, 3) := by decide +kernel
theorem d_SF_end_5 : decode b_SF_end 5 = .ok (.invokevirtual 38, 3) := by decide +kernel
theorem d_SF_end_8 : decode b_SF_end 8 = .ok (.invokestatic 45, 3) := by decide +kernel
theorem d_SF_end_11 : decode b_SF_end 11 = .ok (.ifCond .ne 5, 3) := by decide +kernel
theorem d_SF_end_14 : decode b_SF_end 14 = .ok (.iconst (-1), 1) := by decide +kernel
theorem d_SF_end_15 : decode b_SF_end 15 = .ok (.ireturn, 1) := by decide +kernel
theorem d_SF_end_16 : decode b_SF_end 16 = .ok (.aload_n 0, 1) := by decide +kernel
theorem d_SF_end_17 : decode b_SF_end 17 = .ok (.getfield 14, 3) := by decide +kernel
theorem d_SF_end_20 : decode b_SF_end 20 = .ok (.iload_n 1, 1) := by decide +kernel
theorem d_SF_end_21 : decode b_SF_end 21 = .ok (.invokevirtual 49, 3) := by decide +kernel
theorem d_SF_end_24 : decode b_SF_end 24 = .ok (.iload_n 1, 1) := by decide +kernel
theorem d_SF_end_25 : decode b_SF_end 25 = .ok (.ireturn, 1) := by decide +kernel
theorem d_SF_isWithin_0 : decode b_SF_isWithin 0 = .ok (.iload_n 0, 1) := by decide +kernel
theorem d_SF_isWithin_1 : decode b_SF_isWithin 1 = .ok (.ifCond .lt 12, 3) := by decide +kernel
theorem d_SF_isWithin_4 : decode b_SF_isWithin 4 = .ok (.iload_n 0, 1) := by decide +kernel
theorem d_SF_isWithin_5 : decode b_SF_isWithin 5 = .ok (.iload_n 1, 1) := by decide +kernel
theorem d_SF_isWithin_6 : decode b_SF_isWithin 6 = .ok (.if_icmp .gt 7, 3) := by decide +kernel
theorem d_SF_isWithin_9 : decode b_SF_isWithin 9 = .ok (.iconst 1, 1) := by decide +kernel
theorem d_SF_isWithin_10 : decode b_SF_isWithin 10 = .ok (.goto 4, 3) := by decide +kernel
theorem d_SF_isWithin_13 : decode b_SF_isWithin 13 = .ok (.iconst 0, 1) := by decide +kernel
theorem d_SF_isWithin_14 : decode b_SF_isWithin 14 = .ok (.ireturn, 1) := by decide +kernel
theorem d_Row_shorten_0 : decode b_Row_shorten 0 = .ok (.aload_n 0, 1) := by decide +kernel
theorem d_Row_shorten_1 : decode b_Row_shorten 1 = .ok (.iload_n 1, 1) := by decide +kernel
theorem d_Row_shorten_2 : decode b_Row_shorten 2 = .ok (.putfield 15, 3) := by decide +kernel
theorem d_Row_shorten_5 : decode b_Row_shorten 5 = .ok (.return_, 1) := by decide +kernel
theorem d_SF_name_0 : decode b_SF_name 0 = .ok (.iload_n 1, 1) := by decide +kernel
theorem d_SF_name_1 : decode b_SF_name 1 = .ok (.iconst 1, 1) := by decide +kernel
theorem d_SF_name_2 : decode b_SF_name 2 = .ok (.invokestatic 45, 3) := by decide +kernel
theorem d_SF_name_5 : decode b_SF_name 5 = .ok (.ifCond .eq 16, 3) := by decide +kernel
theorem d_SF_name_8 : decode b_SF_name 8 = .ok (.aload_n 0, 1) := by decide +kernel
theorem d_SF_name_9 : decode b_SF_name 9 = .ok (.getfield 14, 3) := by decide +kernel
theorem d_SF_name_12 : decode b_SF_name 12 = .ok (.invokevirtual 38, 3) := by decide +kernel
theorem d_SF_name_15 : decode b_SF_name 15 = .ok (.sipush 200, 3) := by decide +kernel
theorem d_SF_name_18 : decode b_SF_name 18 = .ok (.if_icmp .le 5, 3) := by decide +kernel
theorem d_SF_name_21 : decode b_SF_name 21 = .ok (.iconst (-1), 1) := by decide +kernel
theorem d_SF_name_22 : decode b_SF_name 22 = .ok (.ireturn, 1) := by decide +kernel
theorem d_SF_name_23 : decode b_SF_name 23 = .ok (.iload_n 1, 1) := by decide +kernel
theorem d_SF_name_24 : decode b_SF_name 24 = .ok (.ifCond .ne 10, 3) := by decide +kernel
theorem d_SF_name_27 : decode b_SF_name 27 = .ok (.aload_n 0, 1) := by decide +kernel
theorem d_SF_name_28 : decode b_SF_name 28 = .ok (.getfield 18, 3) := by decide +kernel
theorem d_SF_name_31 : decode b_SF_name 31 = .ok (.goto 7, 3) := by decide +kernel
theorem d_SF_name_34 : decode b_SF_name 34 = .ok (.aload_n 0, 1) := by decide +kernel
theorem d_SF_name_35 : decode b_SF_name 35 = .ok (.getfield 21, 3) := by decide +kernel
theorem d_SF_name_38 : decode b_SF_name 38 = .ok (.astore_n 2, 1) := by decide +kernel
theorem d_SF_name_39 : decode b_SF_name 39 = .ok (.aload_n 2, 1) := by decide +kernel
theorem d_SF_name_40 : decode b_SF_name 40 = .ok (.aload_n 0, 1) := by decide +kernel
theorem d_SF_name_41 : decode b_SF_name 41 = .ok (.getfield 14, 3) := by decide +kernel
theorem d_SF_name_44 : decode b_SF_name 44 = .ok (.invokevirtual 52, 3) := by decide +kernel
theorem d_SF_name_47 : decode b_SF_name 47 = .ok (.aload_n 0, 1) := by decide +kernel
theorem d_SF_name_48 : decode b_SF_name 48 = .ok (.getfield 14, 3) := by decide +kernel
theorem d_SF_name_51 : decode b_SF_name 51 = .ok (.iconst 0, 1) := by decide +kernel
theorem d_SF_name_52 : decode b_SF_name 52 = .ok (.invokevirtual 49, 3) := by decide +kernel
theorem d_SF_name_55 : decode b_SF_name 55 = .ok (.aload_n 2, 1) := by decide +kernel
theorem d_SF_name_56 : decode b_SF_name 56 = .ok (.invokevirtual 38, 3) := by decide +kernel
theorem d_SF_name_59 : decode b_SF_name 59 = .ok (.ireturn, 1) := by decide +kernel
theorem d_Row_become_0 : decode b_Row_become 0 = .ok (.aload_n 0, 1) := by decide +kernel
theorem d_Row_become_1 : decode b_Row_become 1 = .ok (.iconst 0, 1) := by decide +kernel
theorem d_Row_become_2 : decode b_Row_become 2 = .ok (.putfield 15, 3) := by decide +kernel
theorem d_Row_become_5 : decode b_Row_become 5 = .ok (.aload_n 0, 1) := by decide +kernel
theorem d_Row_become_6 : decode b_Row_become 6 = .ok (.aload_n 1, 1) := by decide +kernel
theorem d_Row_become_7 : decode b_Row_become 7 = .ok (.getfield 9, 3) := by decide +kernel
theorem d_Row_become_10 : decode b_Row_become 10 = .ok (.iconst 0, 1) := by decide +kernel
theorem d_Row_become_11 : decode b_Row_become 11 = .ok (.aload_n 1, 1) := by decide +kernel
theorem d_Row_become_12 : decode b_Row_become 12 = .ok (.getfield 15, 3) := by decide +kernel
theorem d_Row_become_15 : decode b_Row_become 15 = .ok (.invokevirtual 31, 3) := by decide +kernel
theorem d_Row_become_18 : decode b_Row_become 18 = .ok (.return_, 1) := by decide +kernel
theorem d_Row_addBytes_0 : decode b_Row_addBytes 0 = .ok (.aload_n 1, 1) := by decide +kernel
theorem d_Row_addBytes_1 : decode b_Row_addBytes 1 = .ok (.iload_n 2, 1) := by decide +kernel
theorem d_Row_addBytes_2 : decode b_Row_addBytes 2 = .ok (.aload_n 0, 1) := by decide +kernel
theorem d_Row_addBytes_3 : decode b_Row_addBytes 3 = .ok (.getfield 9, 3) := by decide +kernel
theorem d_Row_addBytes_6 : decode b_Row_addBytes 6 = .ok (.aload_n 0, 1) := by decide +kernel
theorem d_Row_addBytes_7 : decode b_Row_addBytes 7 = .ok (.getfield 15, 3) := by decide +kernel
theorem d_Row_addBytes_10 : decode b_Row_addBytes 10 = .ok (.iload_n 3, 1) := by decide +kernel
theorem d_Row_addBytes_11 : decode b_Row_addBytes 11 = .ok (.invokestatic 19, 3) := by decide +kernel
theorem d_Row_addBytes_14 : decode b_Row_addBytes 14 = .ok (.aload_n 0, 1) := by decide +kernel
theorem d_Row_addBytes_15 : decode b_Row_addBytes 15 = .ok (.dup, 1) := by decide +kernel
theorem d_Row_addBytes_16 : decode b_Row_addBytes 16 = .ok (.getfield 15, 3) := by decide +kernel
theorem d_Row_addBytes_19 : decode b_Row_addBytes 19 = .ok (.iload_n 3, 1) := by decide +kernel
theorem d_Row_addBytes_20 : decode b_Row_addBytes 20 = .ok (.iadd, 1) := by decide +kernel
theorem d_Row_addBytes_21 : decode b_Row_addBytes 21 = .ok (.putfield 15, 3) := by decide +kernel
theorem d_Row_addBytes_24 : decode b_Row_addBytes 24 = .ok (.return_, 1) := by decide +kernel
theorem d_SF_run_0 : decode b_SF_run 0 = .ok (.aload_n 0, 1) := by decide +kernel
theorem d_SF_run_1 : decode b_SF_run 1 = .ok (.iload_n 1, 1) := by decide +kernel
theorem d_SF_run_2 : decode b_SF_run 2 = .ok (.iload_n 2, 1) := by decide +kernel
theorem d_SF_run_3 : decode b_SF_run 3 = .ok (.iload_n 3, 1) := by decide +kernel
theorem d_SF_run_4 : decode b_SF_run 4 = .ok (.invokevirtual 56, 3) := by decide +kernel
theorem d_SF_run_7 : decode b_SF_run 7 = .ok (.ifCond .eq 5, 3) := by decide +kernel
theorem d_SF_run_10 : decode b_SF_run 10 = .ok (.iconst (-1), 1) := by decide +kernel
theorem d_SF_run_11 : decode b_SF_run 11 = .ok (.ireturn, 1) := by decide +kernel
theorem d_SF_run_12 : decode b_SF_run 12 = .ok (.aload_n 0, 1) := by decide +kernel
theorem d_SF_run_13 : decode b_SF_run 13 = .ok (.getfield 34, 3) := by decide +kernel
theorem d_SF_run_16 : decode b_SF_run 16 = .ok (.istore 4, 2) := by decide +kernel
theorem d_SF_run_18 : decode b_SF_run 18 = .ok (.aload_n 0, 1) := by decide +kernel
theorem d_SF_run_19 : decode b_SF_run 19 = .ok (.aload_n 0, 1) := by decide +kernel
theorem d_SF_run_20 : decode b_SF_run 20 = .ok (.getfield 34, 3) := by decide +kernel
theorem d_SF_run_23 : decode b_SF_run 23 = .ok (.iconst 1, 1) := by decide +kernel
theorem d_SF_run_24 : decode b_SF_run 24 = .ok (.iadd, 1) := by decide +kernel
theorem d_SF_run_25 : decode b_SF_run 25 = .ok (.putfield 34, 3) := by decide +kernel
theorem d_SF_run_28 : decode b_SF_run 28 = .ok (.aload_n 0, 1) := by decide +kernel
theorem d_SF_run_29 : decode b_SF_run 29 = .ok (.getfield 24, 3) := by decide +kernel
theorem d_SF_run_32 : decode b_SF_run 32 = .ok (.iconst 0, 1) := by decide +kernel
theorem d_SF_run_33 : decode b_SF_run 33 = .ok (.invokevirtual 49, 3) := by decide +kernel
theorem d_SF_run_36 : decode b_SF_run 36 = .ok (.iload_n 1, 1) := by decide +kernel
theorem d_SF_run_37 : decode b_SF_run 37 = .ok (.tableswitch 86 0 9 #[55, 62, 62, 86, 86, 86, 71, 76, 86, 81], 55) := by decide +kernel
theorem d_SF_run_92 : decode b_SF_run 92 = .ok (.aload_n 0, 1) := by decide +kernel
theorem d_SF_run_93 : decode b_SF_run 93 = .ok (.iload 4, 2) := by decide +kernel
theorem d_SF_run_95 : decode b_SF_run 95 = .ok (.invokevirtual 60, 3) := by decide +kernel
theorem d_SF_run_98 : decode b_SF_run 98 = .ok (.ireturn, 1) := by decide +kernel
theorem d_SF_run_99 : decode b_SF_run 99 = .ok (.aload_n 0, 1) := by decide +kernel
theorem d_SF_run_100 : decode b_SF_run 100 = .ok (.iload_n 1, 1) := by decide +kernel
theorem d_SF_run_101 : decode b_SF_run 101 = .ok (.iload_n 2, 1) := by decide +kernel
theorem d_SF_run_102 : decode b_SF_run 102 = .ok (.iload 4, 2) := by decide +kernel
theorem d_SF_run_104 : decode b_SF_run 104 = .ok (.invokevirtual 64, 3) := by decide +kernel
theorem d_SF_run_107 : decode b_SF_run 107 = .ok (.ireturn, 1) := by decide +kernel
theorem d_SF_run_108 : decode b_SF_run 108 = .ok (.aload_n 0, 1) := by decide +kernel
theorem d_SF_run_109 : decode b_SF_run 109 = .ok (.invokevirtual 68, 3) := by decide +kernel
theorem d_SF_run_112 : decode b_SF_run 112 = .ok (.ireturn, 1) := by decide +kernel
theorem d_SF_run_113 : decode b_SF_run 113 = .ok (.aload_n 0, 1) := by decide +kernel
theorem d_SF_run_114 : decode b_SF_run 114 = .ok (.invokevirtual 71, 3) := by decide +kernel
theorem d_SF_run_117 : decode b_SF_run 117 = .ok (.ireturn, 1) := by decide +kernel
theorem d_SF_run_118 : decode b_SF_run 118 = .ok (.aload_n 0, 1) := by decide +kernel
theorem d_SF_run_119 : decode b_SF_run 119 = .ok (.invokevirtual 74, 3) := by decide +kernel
theorem d_SF_run_122 : decode b_SF_run 122 = .ok (.ireturn, 1) := by decide +kernel
theorem d_SF_run_123 : decode b_SF_run 123 = .ok (.aload_n 0, 1) := by decide +kernel
theorem d_SF_run_124 : decode b_SF_run 124 = .ok (.iload_n 1, 1) := by decide +kernel
theorem d_SF_run_125 : decode b_SF_run 125 = .ok (.iload_n 2, 1) := by decide +kernel
theorem d_SF_run_126 : decode b_SF_run 126 = .ok (.iload_n 3, 1) := by decide +kernel
theorem d_SF_run_127 : decode b_SF_run 127 = .ok (.invokevirtual 77, 3) := by decide +kernel
theorem d_SF_run_130 : decode b_SF_run 130 = .ok (.ireturn, 1) := by decide +kernel
theorem d_SF_isRefused_0 : decode b_SF_isRefused 0 = .ok (.iload_n 1, 1) := by decide +kernel
theorem d_SF_isRefused_1 : decode b_SF_isRefused 1 = .ok (.bipush 9, 2) := by decide +kernel
theorem d_SF_isRefused_3 : decode b_SF_isRefused 3 = .ok (.invokestatic 45, 3) := by decide +kernel
theorem d_SF_isRefused_6 : decode b_SF_isRefused 6 = .ok (.ifCond .ne 5, 3) := by decide +kernel
theorem d_SF_isRefused_9 : decode b_SF_isRefused 9 = .ok (.iconst 1, 1) := by decide +kernel
theorem d_SF_isRefused_10 : decode b_SF_isRefused 10 = .ok (.ireturn, 1) := by decide +kernel
theorem d_SF_isRefused_11 : decode b_SF_isRefused 11 = .ok (.iload_n 1, 1) := by decide +kernel
theorem d_SF_isRefused_12 : decode b_SF_isRefused 12 = .ok (.bipush 9, 2) := by decide +kernel
theorem d_SF_isRefused_14 : decode b_SF_isRefused 14 = .ok (.if_icmp .eq 15, 3) := by decide +kernel
theorem d_SF_isRefused_17 : decode b_SF_isRefused 17 = .ok (.aload_n 0, 1) := by decide +kernel
theorem d_SF_isRefused_18 : decode b_SF_isRefused 18 = .ok (.getfield 18, 3) := by decide +kernel
theorem d_SF_isRefused_21 : decode b_SF_isRefused 21 = .ok (.invokevirtual 111, 3) := by decide +kernel
theorem d_SF_isRefused_24 : decode b_SF_isRefused 24 = .ok (.ifCond .eq 5, 3) := by decide +kernel
theorem d_SF_isRefused_27 : decode b_SF_isRefused 27 = .ok (.iconst 1, 1) := by decide +kernel
theorem d_SF_isRefused_28 : decode b_SF_isRefused 28 = .ok (.ireturn, 1) := by decide +kernel
theorem d_SF_isRefused_29 : decode b_SF_isRefused 29 = .ok (.iload_n 1, 1) := by decide +kernel
theorem d_SF_isRefused_30 : decode b_SF_isRefused 30 = .ok (.bipush 6, 2) := by decide +kernel
theorem d_SF_isRefused_32 : decode b_SF_isRefused 32 = .ok (.if_icmp .eq 9, 3) := by decide +kernel
theorem d_SF_isRefused_35 : decode b_SF_isRefused 35 = .ok (.iload_n 1, 1) := by decide +kernel
theorem d_SF_isRefused_36 : decode b_SF_isRefused 36 = .ok (.bipush 7, 2) := by decide +kernel
theorem d_SF_isRefused_38 : decode b_SF_isRefused 38 = .ok (.if_icmp .ne 15, 3) := by decide +kernel
theorem d_SF_isRefused_41 : decode b_SF_isRefused 41 = .ok (.aload_n 0, 1) := by decide +kernel
theorem d_SF_isRefused_42 : decode b_SF_isRefused 42 = .ok (.getfield 21, 3) := by decide +kernel
theorem d_SF_isRefused_45 : decode b_SF_isRefused 45 = .ok (.invokevirtual 111, 3) := by decide +kernel
theorem d_SF_isRefused_48 : decode b_SF_isRefused 48 = .ok (.ifCond .eq 5, 3) := by decide +kernel
theorem d_SF_isRefused_51 : decode b_SF_isRefused 51 = .ok (.iconst 1, 1) := by decide +kernel
theorem d_SF_isRefused_52 : decode b_SF_isRefused 52 = .ok (.ireturn, 1) := by decide +kernel
theorem d_SF_isRefused_53 : decode b_SF_isRefused 53 = .ok (.iload_n 1, 1) := by decide +kernel
theorem d_SF_isRefused_54 : decode b_SF_isRefused 54 = .ok (.iconst 1, 1) := by decide +kernel
theorem d_SF_isRefused_55 : decode b_SF_isRefused 55 = .ok (.if_icmp .eq 13, 3) := by decide +kernel
theorem d_SF_isRefused_58 : decode b_SF_isRefused 58 = .ok (.iload_n 1, 1) := by decide +kernel
theorem d_SF_isRefused_59 : decode b_SF_isRefused 59 = .ok (.iconst 3, 1) := by decide +kernel
theorem d_SF_isRefused_60 : decode b_SF_isRefused 60 = .ok (.if_icmp .eq 8, 3) := by decide +kernel
theorem d_SF_isRefused_63 : decode b_SF_isRefused 63 = .ok (.iload_n 1, 1) := by decide +kernel
theorem d_SF_isRefused_64 : decode b_SF_isRefused 64 = .ok (.iconst 4, 1) := by decide +kernel
theorem d_SF_isRefused_65 : decode b_SF_isRefused 65 = .ok (.if_icmp .ne 15, 3) := by decide +kernel
theorem d_SF_isRefused_68 : decode b_SF_isRefused 68 = .ok (.iload_n 2, 1) := by decide +kernel
theorem d_SF_isRefused_69 : decode b_SF_isRefused 69 = .ok (.sipush 8192, 3) := by decide +kernel
theorem d_SF_isRefused_72 : decode b_SF_isRefused 72 = .ok (.invokestatic 45, 3) := by decide +kernel
theorem d_SF_isRefused_75 : decode b_SF_isRefused 75 = .ok (.ifCond .ne 5, 3) := by decide +kernel
theorem d_SF_isRefused_78 : decode b_SF_isRefused 78 = .ok (.iconst 1, 1) := by decide +kernel
theorem d_SF_isRefused_79 : decode b_SF_isRefused 79 = .ok (.ireturn, 1) := by decide +kernel
theorem d_SF_isRefused_80 : decode b_SF_isRefused 80 = .ok (.iload_n 1, 1) := by decide +kernel
theorem d_SF_isRefused_81 : decode b_SF_isRefused 81 = .ok (.iconst 4, 1) := by decide +kernel
theorem d_SF_isRefused_82 : decode b_SF_isRefused 82 = .ok (.if_icmp .ne 17, 3) := by decide +kernel
theorem d_SF_isRefused_85 : decode b_SF_isRefused 85 = .ok (.iload_n 3, 1) := by decide +kernel
theorem d_SF_isRefused_86 : decode b_SF_isRefused 86 = .ok (.sipush 2048, 3) := by decide +kernel
theorem d_SF_isRefused_89 : decode b_SF_isRefused 89 = .ok (.invokestatic 45, 3) := by decide +kernel
theorem d_SF_isRefused_92 : decode b_SF_isRefused 92 = .ok (.ifCond .ne 7, 3) := by decide +kernel
theorem d_SF_isRefused_95 : decode b_SF_isRefused 95 = .ok (.iconst 1, 1) := by decide +kernel
theorem d_SF_isRefused_96 : decode b_SF_isRefused 96 = .ok (.goto 4, 3) := by decide +kernel
theorem d_SF_isRefused_99 : decode b_SF_isRefused 99 = .ok (.iconst 0, 1) := by decide +kernel
theorem d_SF_isRefused_100 : decode b_SF_isRefused 100 = .ok (.ireturn, 1) := by decide +kernel
theorem d_Row_isEmpty_0 : decode b_Row_isEmpty 0 = .ok (.aload_n 0, 1) := by decide +kernel
theorem d_Row_isEmpty_1 : decode b_Row_isEmpty 1 = .ok (.getfield 15, 3) := by decide +kernel
theorem d_Row_isEmpty_4 : decode b_Row_isEmpty 4 = .ok (.ifCond .ne 7, 3) := by decide +kernel
theorem d_Row_isEmpty_7 : decode b_Row_isEmpty 7 = .ok (.iconst 1, 1) := by decide +kernel
theorem d_Row_isEmpty_8 : decode b_Row_isEmpty 8 = .ok (.goto 4, 3) := by decide +kernel
theorem d_Row_isEmpty_11 : decode b_Row_isEmpty 11 = .ok (.iconst 0, 1) := by decide +kernel
theorem d_Row_isEmpty_12 : decode b_Row_isEmpty 12 = .ok (.ireturn, 1) := by decide +kernel
theorem d_SF_makeFile_0 : decode b_SF_makeFile 0 = .ok (.aload_n 0, 1) := by decide +kernel
theorem d_SF_makeFile_1 : decode b_SF_makeFile 1 = .ok (.getfield 30, 3) := by decide +kernel
theorem d_SF_makeFile_4 : decode b_SF_makeFile 4 = .ok (.aload_n 0, 1) := by decide +kernel
theorem d_SF_makeFile_5 : decode b_SF_makeFile 5 = .ok (.getfield 18, 3) := by decide +kernel
theorem d_SF_makeFile_8 : decode b_SF_makeFile 8 = .ok (.invokevirtual 115, 3) := by decide +kernel
theorem d_SF_makeFile_11 : decode b_SF_makeFile 11 = .ok (.ifnull 6, 3) := by decide +kernel
theorem d_SF_makeFile_14 : decode b_SF_makeFile 14 = .ok (.bipush (-3), 2) := by decide +kernel
theorem d_SF_makeFile_16 : decode b_SF_makeFile 16 = .ok (.ireturn, 1) := by decide +kernel
theorem d_SF_makeFile_17 : decode b_SF_makeFile 17 = .ok (.aload_n 0, 1) := by decide +kernel
theorem d_SF_makeFile_18 : decode b_SF_makeFile 18 = .ok (.getfield 30, 3) := by decide +kernel
theorem d_SF_makeFile_21 : decode b_SF_makeFile 21 = .ok (.invokevirtual 119, 3) := by decide +kernel
theorem d_SF_makeFile_24 : decode b_SF_makeFile 24 = .ok (.ifCond .eq 6, 3) := by decide +kernel
theorem d_SF_makeFile_27 : decode b_SF_makeFile 27 = .ok (.bipush (-4), 2) := by decide +kernel
theorem d_SF_makeFile_29 : decode b_SF_makeFile 29 = .ok (.ireturn, 1) := by decide +kernel
theorem d_SF_makeFile_30 : decode b_SF_makeFile 30 = .ok (.aload_n 0, 1) := by decide +kernel
theorem d_SF_makeFile_31 : decode b_SF_makeFile 31 = .ok (.getfield 30, 3) := by decide +kernel
theorem d_SF_makeFile_34 : decode b_SF_makeFile 34 = .ok (.aload_n 0, 1) := by decide +kernel
theorem d_SF_makeFile_35 : decode b_SF_makeFile 35 = .ok (.getfield 18, 3) := by decide +kernel
theorem d_SF_makeFile_38 : decode b_SF_makeFile 38 = .ok (.iload_n 1, 1) := by decide +kernel
theorem d_SF_makeFile_39 : decode b_SF_makeFile 39 = .ok (.invokevirtual 122, 3) := by decide +kernel
theorem d_SF_makeFile_42 : decode b_SF_makeFile 42 = .ok (.pop, 1) := by decide +kernel
theorem d_SF_makeFile_43 : decode b_SF_makeFile 43 = .ok (.iconst 0, 1) := by decide +kernel
theorem d_SF_makeFile_44 : decode b_SF_makeFile 44 = .ok (.ireturn, 1) := by decide +kernel
theorem d_Shelf_find_0 : decode b_Shelf_find 0 = .ok (.aload_n 0, 1) := by decide +kernel
theorem d_Shelf_find_1 : decode b_Shelf_find 1 = .ok (.aload_n 0, 1) := by decide +kernel
theorem d_Shelf_find_2 : decode b_Shelf_find 2 = .ok (.aload_n 1, 1) := by decide +kernel
theorem d_Shelf_find_3 : decode b_Shelf_find 3 = .ok (.invokevirtual 48, 3) := by decide +kernel
theorem d_Shelf_find_6 : decode b_Shelf_find 6 = .ok (.invokevirtual 52, 3) := by decide +kernel
theorem d_Shelf_find_9 : decode b_Shelf_find 9 = .ok (.areturn, 1) := by decide +kernel
theorem d_Shelf_indexOf_0 : decode b_Shelf_indexOf 0 = .ok (.aload_n 0, 1) := by decide +kernel
theorem d_Shelf_indexOf_1 : decode b_Shelf_indexOf 1 = .ok (.aload_n 1, 1) := by decide +kernel
theorem d_Shelf_indexOf_2 : decode b_Shelf_indexOf 2 = .ok (.invokevirtual 56, 3) := by decide +kernel
theorem d_Shelf_indexOf_5 : decode b_Shelf_indexOf 5 = .ok (.istore_n 2, 1) := by decide +kernel
theorem d_Shelf_indexOf_6 : decode b_Shelf_indexOf 6 = .ok (.aload_n 0, 1) := by decide +kernel
theorem d_Shelf_indexOf_7 : decode b_Shelf_indexOf 7 = .ok (.iload_n 2, 1) := by decide +kernel
theorem d_Shelf_indexOf_8 : decode b_Shelf_indexOf 8 = .ok (.aload_n 1, 1) := by decide +kernel
theorem d_Shelf_indexOf_9 : decode b_Shelf_indexOf 9 = .ok (.invokevirtual 59, 3) := by decide +kernel
theorem d_Shelf_indexOf_12 : decode b_Shelf_indexOf 12 = .ok (.ifCond .eq 7, 3) := by decide +kernel
theorem d_Shelf_indexOf_15 : decode b_Shelf_indexOf 15 = .ok (.iload_n 2, 1) := by decide +kernel
theorem d_Shelf_indexOf_16 : decode b_Shelf_indexOf 16 = .ok (.goto 5, 3) := by decide +kernel
theorem d_Shelf_indexOf_19 : decode b_Shelf_indexOf 19 = .ok (.bipush (-2), 2) := by decide +kernel
theorem d_Shelf_indexOf_21 : decode b_Shelf_indexOf 21 = .ok (.ireturn, 1) := by decide +kernel
theorem d_Shelf_placeOf_0 : decode b_Shelf_placeOf 0 = .ok (.iconst 0, 1) := by decide +kernel
theorem d_Shelf_placeOf_1 : decode b_Shelf_placeOf 1 = .ok (.istore_n 2, 1) := by decide +kernel
theorem d_Shelf_placeOf_2 : decode b_Shelf_placeOf 2 = .ok (.iload_n 2, 1) := by decide +kernel
theorem d_Shelf_placeOf_3 : decode b_Shelf_placeOf 3 = .ok (.aload_n 0, 1) := by decide +kernel
theorem d_Shelf_placeOf_4 : decode b_Shelf_placeOf 4 = .ok (.getfield 12, 3) := by decide +kernel
theorem d_Shelf_placeOf_7 : decode b_Shelf_placeOf 7 = .ok (.invokevirtual 28, 3) := by decide +kernel
theorem d_Shelf_placeOf_10 : decode b_Shelf_placeOf 10 = .ok (.if_icmp .ge 30, 3) := by decide +kernel
theorem d_Shelf_placeOf_13 : decode b_Shelf_placeOf 13 = .ok (.aload_n 0, 1) := by decide +kernel
theorem d_Shelf_placeOf_14 : decode b_Shelf_placeOf 14 = .ok (.getfield 12, 3) := by decide +kernel
theorem d_Shelf_placeOf_17 : decode b_Shelf_placeOf 17 = .ok (.iload_n 2, 1) := by decide +kernel
theorem d_Shelf_placeOf_18 : decode b_Shelf_placeOf 18 = .ok (.invokevirtual 32, 3) := by decide +kernel
theorem d_Shelf_placeOf_21 : decode b_Shelf_placeOf 21 = .ok (.checkcast 36, 3) := by decide +kernel
theorem d_Shelf_placeOf_24 : decode b_Shelf_placeOf 24 = .ok (.invokevirtual 88, 3) := by decide +kernel
theorem d_Shelf_placeOf_27 : decode b_Shelf_placeOf 27 = .ok (.aload_n 1, 1) := by decide +kernel
theorem d_Shelf_placeOf_28 : decode b_Shelf_placeOf 28 = .ok (.invokevirtual 102, 3) := by decide +kernel
theorem d_Shelf_placeOf_31 : decode b_Shelf_placeOf 31 = .ok (.ifCond .ge 9, 3) := by decide +kernel
theorem d_Shelf_placeOf_34 : decode b_Shelf_placeOf 34 = .ok (.iinc 2 1, 3) := by decide +kernel
theorem d_Shelf_placeOf_37 : decode b_Shelf_placeOf 37 = .ok (.goto (-35), 3) := by decide +kernel
theorem d_Shelf_placeOf_40 : decode b_Shelf_placeOf 40 = .ok (.iload_n 2, 1) := by decide +kernel
theorem d_Shelf_placeOf_41 : decode b_Shelf_placeOf 41 = .ok (.ireturn, 1) := by decide +kernel
theorem d_AL_size_0 : decode b_AL_size 0 = .ok (.aload_n 0, 1) := by decide +kernel
theorem d_AL_size_1 : decode b_AL_size 1 = .ok (.getfield 48, 3) := by decide +kernel
theorem d_AL_size_4 : decode b_AL_size 4 = .ok (.ireturn, 1) := by decide +kernel
theorem d_AL_get_0 : decode b_AL_get 0 = .ok (.iload_n 1, 1) := by decide +kernel
theorem d_AL_get_1 : decode b_AL_get 1 = .ok (.aload_n 0, 1) := by decide +kernel
theorem d_AL_get_2 : decode b_AL_get 2 = .ok (.getfield 48, 3) := by decide +kernel
theorem d_AL_get_5 : decode b_AL_get 5 = .ok (.invokestatic 118, 3) := by decide +kernel
theorem d_AL_get_8 : decode b_AL_get 8 = .ok (.pop, 1) := by decide +kernel
theorem d_AL_get_9 : decode b_AL_get 9 = .ok (.aload_n 0, 1) := by decide +kernel
theorem d_AL_get_10 : decode b_AL_get 10 = .ok (.iload_n 1, 1) := by decide +kernel
theorem d_AL_get_11 : decode b_AL_get 11 = .ok (.invokevirtual 123, 3) := by decide +kernel
theorem d_AL_get_14 : decode b_AL_get 14 = .ok (.areturn, 1) := by decide +kernel
theorem d_Objs_checkIndex_0 : decode b_Objs_checkIndex 0 = .ok (.iload_n 0, 1) := by decide +kernel
theorem d_Objs_checkIndex_1 : decode b_Objs_checkIndex 1 = .ok (.iload_n 1, 1) := by decide +kernel
theorem d_Objs_checkIndex_2 : decode b_Objs_checkIndex 2 = .ok (.aconst_null, 1) := by decide +kernel
theorem d_Objs_checkIndex_3 : decode b_Objs_checkIndex 3 = .ok (.invokestatic 105, 3) := by decide +kernel
theorem d_Objs_checkIndex_6 : decode b_Objs_checkIndex 6 = .ok (.ireturn, 1) := by decide +kernel
theorem d_Prec_checkIndex_0 : decode b_Prec_checkIndex 0 = .ok (.iload_n 0, 1) := by decide +kernel
theorem d_Prec_checkIndex_1 : decode b_Prec_checkIndex 1 = .ok (.ifCond .lt 8, 3) := by decide +kernel
theorem d_Prec_checkIndex_4 : decode b_Prec_checkIndex 4 = .ok (.iload_n 0, 1) := by decide +kernel
theorem d_Prec_checkIndex_5 : decode b_Prec_checkIndex 5 = .ok (.iload_n 1, 1) := by decide +kernel
theorem d_Prec_checkIndex_6 : decode b_Prec_checkIndex 6 = .ok (.if_icmp .lt 10, 3) := by decide +kernel
theorem d_Prec_checkIndex_9 : decode b_Prec_checkIndex 9 = .ok (.aload_n 2, 1) := by decide +kernel
theorem d_Prec_checkIndex_10 : decode b_Prec_checkIndex 10 = .ok (.iload_n 0, 1) := by decide +kernel
theorem d_Prec_checkIndex_11 : decode b_Prec_checkIndex 11 = .ok (.iload_n 1, 1) := by decide +kernel
theorem d_Prec_checkIndex_12 : decode b_Prec_checkIndex 12 = .ok (.invokestatic 95, 3) := by decide +kernel
theorem d_Prec_checkIndex_15 : decode b_Prec_checkIndex 15 = .ok (.athrow, 1) := by decide +kernel
theorem d_Prec_checkIndex_16 : decode b_Prec_checkIndex 16 = .ok (.iload_n 0, 1) := by decide +kernel
theorem d_Prec_checkIndex_17 : decode b_Prec_checkIndex 17 = .ok (.ireturn, 1) := by decide +kernel
theorem d_AL_elementData_0 : decode b_AL_elementData 0 = .ok (.aload_n 0, 1) := by decide +kernel
theorem d_AL_elementData_1 : decode b_AL_elementData 1 = .ok (.getfield 9, 3) := by decide +kernel
theorem d_AL_elementData_4 : decode b_AL_elementData 4 = .ok (.iload_n 1, 1) := by decide +kernel
theorem d_AL_elementData_5 : decode b_AL_elementData 5 = .ok (.aaload, 1) := by decide +kernel
theorem d_AL_elementData_6 : decode b_AL_elementData 6 = .ok (.areturn, 1) := by decide +kernel
theorem d_File_title_0 : decode b_File_title 0 = .ok (.aload_n 0, 1) := by decide +kernel
theorem d_File_title_1 : decode b_File_title 1 = .ok (.getfield 20, 3) := by decide +kernel
theorem d_File_title_4 : decode b_File_title 4 = .ok (.areturn, 1) := by decide +kernel
theorem d_Row_compareWith_0 : decode b_Row_compareWith 0 = .ok (.aload_n 0, 1) := by decide +kernel
theorem d_Row_compareWith_1 : decode b_Row_compareWith 1 = .ok (.getfield 15, 3) := by decide +kernel
theorem d_Row_compareWith_4 : decode b_Row_compareWith 4 = .ok (.aload_n 1, 1) := by decide +kernel
theorem d_Row_compareWith_5 : decode b_Row_compareWith 5 = .ok (.getfield 15, 3) := by decide +kernel
theorem d_Row_compareWith_8 : decode b_Row_compareWith 8 = .ok (.invokestatic 35, 3) := by decide +kernel
theorem d_Row_compareWith_11 : decode b_Row_compareWith 11 = .ok (.istore_n 2, 1) := by decide +kernel
theorem d_Row_compareWith_12 : decode b_Row_compareWith 12 = .ok (.iconst 0, 1) := by decide +kernel
theorem d_Row_compareWith_13 : decode b_Row_compareWith 13 = .ok (.istore_n 3, 1) := by decide +kernel
theorem d_Row_compareWith_14 : decode b_Row_compareWith 14 = .ok (.iload_n 3, 1) := by decide +kernel
theorem d_Row_compareWith_15 : decode b_Row_compareWith 15 = .ok (.iload_n 2, 1) := by decide +kernel
theorem d_Row_compareWith_16 : decode b_Row_compareWith 16 = .ok (.if_icmp .ge 40, 3) := by decide +kernel
theorem d_Row_compareWith_19 : decode b_Row_compareWith 19 = .ok (.aload_n 0, 1) := by decide +kernel
theorem d_Row_compareWith_20 : decode b_Row_compareWith 20 = .ok (.getfield 9, 3) := by decide +kernel
theorem d_Row_compareWith_23 : decode b_Row_compareWith 23 = .ok (.iload_n 3, 1) := by decide +kernel
theorem d_Row_compareWith_24 : decode b_Row_compareWith 24 = .ok (.baload, 1) := by decide +kernel
theorem d_Row_compareWith_25 : decode b_Row_compareWith 25 = .ok (.sipush 255, 3) := by decide +kernel
theorem d_Row_compareWith_28 : decode b_Row_compareWith 28 = .ok (.iand, 1) := by decide +kernel
theorem d_Row_compareWith_29 : decode b_Row_compareWith 29 = .ok (.aload_n 1, 1) := by decide +kernel
theorem d_Row_compareWith_30 : decode b_Row_compareWith 30 = .ok (.getfield 9, 3) := by decide +kernel
theorem d_Row_compareWith_33 : decode b_Row_compareWith 33 = .ok (.iload_n 3, 1) := by decide +kernel
theorem d_Row_compareWith_34 : decode b_Row_compareWith 34 = .ok (.baload, 1) := by decide +kernel
theorem d_Row_compareWith_35 : decode b_Row_compareWith 35 = .ok (.sipush 255, 3) := by decide +kernel
theorem d_Row_compareWith_38 : decode b_Row_compareWith 38 = .ok (.iand, 1) := by decide +kernel
theorem d_Row_compareWith_39 : decode b_Row_compareWith 39 = .ok (.isub, 1) := by decide +kernel
theorem d_Row_compareWith_40 : decode b_Row_compareWith 40 = .ok (.istore 4, 2) := by decide +kernel
theorem d_Row_compareWith_42 : decode b_Row_compareWith 42 = .ok (.iload 4, 2) := by decide +kernel
theorem d_Row_compareWith_44 : decode b_Row_compareWith 44 = .ok (.ifCond .eq 6, 3) := by decide +kernel
theorem d_Row_compareWith_47 : decode b_Row_compareWith 47 = .ok (.iload 4, 2) := by decide +kernel
theorem d_Row_compareWith_49 : decode b_Row_compareWith 49 = .ok (.ireturn, 1) := by decide +kernel
theorem d_Row_compareWith_50 : decode b_Row_compareWith 50 = .ok (.iinc 3 1, 3) := by decide +kernel
theorem d_Row_compareWith_53 : decode b_Row_compareWith 53 = .ok (.goto (-39), 3) := by decide +kernel
theorem d_Row_compareWith_56 : decode b_Row_compareWith 56 = .ok (.aload_n 0, 1) := by decide +kernel
theorem d_Row_compareWith_57 : decode b_Row_compareWith 57 = .ok (.getfield 15, 3) := by decide +kernel
theorem d_Row_compareWith_60 : decode b_Row_compareWith 60 = .ok (.aload_n 1, 1) := by decide +kernel
theorem d_Row_compareWith_61 : decode b_Row_compareWith 61 = .ok (.getfield 15, 3) := by decide +kernel
theorem d_Row_compareWith_64 : decode b_Row_compareWith 64 = .ok (.isub, 1) := by decide +kernel
theorem d_Row_compareWith_65 : decode b_Row_compareWith 65 = .ok (.ireturn, 1) := by decide +kernel
theorem d_Math_min_0 : decode b_Math_min 0 = .ok (.iload_n 0, 1) := by decide +kernel
theorem d_Math_min_1 : decode b_Math_min 1 = .ok (.iload_n 1, 1) := by decide +kernel
theorem d_Math_min_2 : decode b_Math_min 2 = .ok (.if_icmp .gt 7, 3) := by decide +kernel
theorem d_Math_min_5 : decode b_Math_min 5 = .ok (.iload_n 0, 1) := by decide +kernel
theorem d_Math_min_6 : decode b_Math_min 6 = .ok (.goto 4, 3) := by decide +kernel
theorem d_Math_min_9 : decode b_Math_min 9 = .ok (.iload_n 1, 1) := by decide +kernel
theorem d_Math_min_10 : decode b_Math_min 10 = .ok (.ireturn, 1) := by decide +kernel
theorem d_Shelf_isAt_0 : decode b_Shelf_isAt 0 = .ok (.iload_n 1, 1) := by decide +kernel
theorem d_Shelf_isAt_1 : decode b_Shelf_isAt 1 = .ok (.aload_n 0, 1) := by decide +kernel
theorem d_Shelf_isAt_2 : decode b_Shelf_isAt 2 = .ok (.getfield 12, 3) := by decide +kernel
theorem d_Shelf_isAt_5 : decode b_Shelf_isAt 5 = .ok (.invokevirtual 28, 3) := by decide +kernel
theorem d_Shelf_isAt_8 : decode b_Shelf_isAt 8 = .ok (.if_icmp .ge 28, 3) := by decide +kernel
theorem d_Shelf_isAt_11 : decode b_Shelf_isAt 11 = .ok (.aload_n 0, 1) := by decide +kernel
theorem d_Shelf_isAt_12 : decode b_Shelf_isAt 12 = .ok (.getfield 12, 3) := by decide +kernel
theorem d_Shelf_isAt_15 : decode b_Shelf_isAt 15 = .ok (.iload_n 1, 1) := by decide +kernel
theorem d_Shelf_isAt_16 : decode b_Shelf_isAt 16 = .ok (.invokevirtual 32, 3) := by decide +kernel
theorem d_Shelf_isAt_19 : decode b_Shelf_isAt 19 = .ok (.checkcast 36, 3) := by decide +kernel
theorem d_Shelf_isAt_22 : decode b_Shelf_isAt 22 = .ok (.invokevirtual 88, 3) := by decide +kernel
theorem d_Shelf_isAt_25 : decode b_Shelf_isAt 25 = .ok (.aload_n 2, 1) := by decide +kernel
theorem d_Shelf_isAt_26 : decode b_Shelf_isAt 26 = .ok (.invokevirtual 102, 3) := by decide +kernel
theorem d_Shelf_isAt_29 : decode b_Shelf_isAt 29 = .ok (.ifCond .ne 7, 3) := by decide +kernel
theorem d_Shelf_isAt_32 : decode b_Shelf_isAt 32 = .ok (.iconst 1, 1) := by decide +kernel
theorem d_Shelf_isAt_33 : decode b_Shelf_isAt 33 = .ok (.goto 4, 3) := by decide +kernel
theorem d_Shelf_isAt_36 : decode b_Shelf_isAt 36 = .ok (.iconst 0, 1) := by decide +kernel
theorem d_Shelf_isAt_37 : decode b_Shelf_isAt 37 = .ok (.ireturn, 1) := by decide +kernel
theorem d_Shelf_fileAt_0 : decode b_Shelf_fileAt 0 = .ok (.iload_n 1, 1) := by decide +kernel
theorem d_Shelf_fileAt_1 : decode b_Shelf_fileAt 1 = .ok (.ifCond .lt 28, 3) := by decide +kernel
theorem d_Shelf_fileAt_4 : decode b_Shelf_fileAt 4 = .ok (.iload_n 1, 1) := by decide +kernel
theorem d_Shelf_fileAt_5 : decode b_Shelf_fileAt 5 = .ok (.aload_n 0, 1) := by decide +kernel
theorem d_Shelf_fileAt_6 : decode b_Shelf_fileAt 6 = .ok (.getfield 12, 3) := by decide +kernel
theorem d_Shelf_fileAt_9 : decode b_Shelf_fileAt 9 = .ok (.invokevirtual 28, 3) := by decide +kernel
theorem d_Shelf_fileAt_12 : decode b_Shelf_fileAt 12 = .ok (.if_icmp .ge 17, 3) := by decide +kernel
theorem d_Shelf_fileAt_15 : decode b_Shelf_fileAt 15 = .ok (.aload_n 0, 1) := by decide +kernel
theorem d_Shelf_fileAt_16 : decode b_Shelf_fileAt 16 = .ok (.getfield 12, 3) := by decide +kernel
theorem d_Shelf_fileAt_19 : decode b_Shelf_fileAt 19 = .ok (.iload_n 1, 1) := by decide +kernel
theorem d_Shelf_fileAt_20 : decode b_Shelf_fileAt 20 = .ok (.invokevirtual 32, 3) := by decide +kernel
theorem d_Shelf_fileAt_23 : decode b_Shelf_fileAt 23 = .ok (.checkcast 36, 3) := by decide +kernel
theorem d_Shelf_fileAt_26 : decode b_Shelf_fileAt 26 = .ok (.goto 4, 3) := by decide +kernel
theorem d_Shelf_fileAt_29 : decode b_Shelf_fileAt 29 = .ok (.aconst_null, 1) := by decide +kernel
theorem d_Shelf_fileAt_30 : decode b_Shelf_fileAt 30 = .ok (.areturn, 1) := by decide +kernel
theorem d_Shelf_isFull_0 : decode b_Shelf_isFull 0 = .ok (.aload_n 0, 1) := by decide +kernel
theorem d_Shelf_isFull_1 : decode b_Shelf_isFull 1 = .ok (.getfield 12, 3) := by decide +kernel
theorem d_Shelf_isFull_4 : decode b_Shelf_isFull 4 = .ok (.invokevirtual 28, 3) := by decide +kernel
theorem d_Shelf_isFull_7 : decode b_Shelf_isFull 7 = .ok (.bipush 48, 2) := by decide +kernel
theorem d_Shelf_isFull_9 : decode b_Shelf_isFull 9 = .ok (.if_icmp .lt 7, 3) := by decide +kernel
theorem d_Shelf_isFull_12 : decode b_Shelf_isFull 12 = .ok (.iconst 1, 1) := by decide +kernel
theorem d_Shelf_isFull_13 : decode b_Shelf_isFull 13 = .ok (.goto 4, 3) := by decide +kernel
theorem d_Shelf_isFull_16 : decode b_Shelf_isFull 16 = .ok (.iconst 0, 1) := by decide +kernel
end
section
theorem d_Shelf_isFull_17 : decode b_Shelf_isFull 17 = .ok (.ireturn, 1) := by decide +kernel
theorem d_Shelf_make_0 : decode b_Shelf_make 0 = .ok (.aload_n 0, 1) := by decide +kernel
theorem d_Shelf_make_1 : decode b_Shelf_make 1 = .ok (.getfield 18, 3) := by decide +kernel
theorem d_Shelf_make_4 : decode b_Shelf_make 4 = .ok (.invokevirtual 63, 3) := by decide +kernel
theorem d_Shelf_make_7 : decode b_Shelf_make 7 = .ok (.ifCond .eq 17, 3) := by decide +kernel
theorem d_Shelf_make_10 : decode b_Shelf_make 10 = .ok (.new 36, 3) := by decide +kernel
theorem d_Shelf_make_13 : decode b_Shelf_make 13 = .ok (.dup, 1) := by decide +kernel
theorem d_Shelf_make_14 : decode b_Shelf_make 14 = .ok (.aload_n 0, 1) := by decide +kernel
theorem d_Shelf_make_15 : decode b_Shelf_make 15 = .ok (.getfield 24, 3) := by decide +kernel
theorem d_Shelf_make_18 : decode b_Shelf_make 18 = .ok (.invokespecial 67, 3) := by decide +kernel
theorem d_Shelf_make_21 : decode b_Shelf_make 21 = .ok (.goto 22, 3) := by decide +kernel
theorem d_Shelf_make_24 : decode b_Shelf_make 24 = .ok (.aload_n 0, 1) := by decide +kernel
theorem d_Shelf_make_25 : decode b_Shelf_make 25 = .ok (.getfield 18, 3) := by decide +kernel
theorem d_Shelf_make_28 : decode b_Shelf_make 28 = .ok (.aload_n 0, 1) := by decide +kernel
theorem d_Shelf_make_29 : decode b_Shelf_make 29 = .ok (.getfield 18, 3) := by decide +kernel
theorem d_Shelf_make_32 : decode b_Shelf_make 32 = .ok (.invokevirtual 28, 3) := by decide +kernel
theorem d_Shelf_make_35 : decode b_Shelf_make 35 = .ok (.iconst 1, 1) := by decide +kernel
theorem d_Shelf_make_36 : decode b_Shelf_make 36 = .ok (.isub, 1) := by decide +kernel
theorem d_Shelf_make_37 : decode b_Shelf_make 37 = .ok (.invokevirtual 70, 3) := by decide +kernel
theorem d_Shelf_make_40 : decode b_Shelf_make 40 = .ok (.checkcast 36, 3) := by decide +kernel
theorem d_Shelf_make_43 : decode b_Shelf_make 43 = .ok (.astore_n 3, 1) := by decide +kernel
theorem d_Shelf_make_44 : decode b_Shelf_make 44 = .ok (.aload_n 3, 1) := by decide +kernel
theorem d_Shelf_make_45 : decode b_Shelf_make 45 = .ok (.aload_n 1, 1) := by decide +kernel
theorem d_Shelf_make_46 : decode b_Shelf_make 46 = .ok (.iload_n 2, 1) := by decide +kernel
theorem d_Shelf_make_47 : decode b_Shelf_make 47 = .ok (.invokevirtual 73, 3) := by decide +kernel
theorem d_Shelf_make_50 : decode b_Shelf_make 50 = .ok (.aload_n 0, 1) := by decide +kernel
theorem d_Shelf_make_51 : decode b_Shelf_make 51 = .ok (.getfield 12, 3) := by decide +kernel
theorem d_Shelf_make_54 : decode b_Shelf_make 54 = .ok (.aload_n 0, 1) := by decide +kernel
theorem d_Shelf_make_55 : decode b_Shelf_make 55 = .ok (.aload_n 1, 1) := by decide +kernel
theorem d_Shelf_make_56 : decode b_Shelf_make 56 = .ok (.invokevirtual 56, 3) := by decide +kernel
theorem d_Shelf_make_59 : decode b_Shelf_make 59 = .ok (.aload_n 3, 1) := by decide +kernel
theorem d_Shelf_make_60 : decode b_Shelf_make 60 = .ok (.invokevirtual 77, 3) := by decide +kernel
theorem d_Shelf_make_63 : decode b_Shelf_make 63 = .ok (.aload_n 3, 1) := by decide +kernel
theorem d_Shelf_make_64 : decode b_Shelf_make 64 = .ok (.areturn, 1) := by decide +kernel
theorem d_AL_isEmpty_0 : decode b_AL_isEmpty 0 = .ok (.aload_n 0, 1) := by decide +kernel
theorem d_AL_isEmpty_1 : decode b_AL_isEmpty 1 = .ok (.getfield 48, 3) := by decide +kernel
theorem d_AL_isEmpty_4 : decode b_AL_isEmpty 4 = .ok (.ifCond .ne 7, 3) := by decide +kernel
theorem d_AL_isEmpty_7 : decode b_AL_isEmpty 7 = .ok (.iconst 1, 1) := by decide +kernel
theorem d_AL_isEmpty_8 : decode b_AL_isEmpty 8 = .ok (.goto 4, 3) := by decide +kernel
theorem d_AL_isEmpty_11 : decode b_AL_isEmpty 11 = .ok (.iconst 0, 1) := by decide +kernel
theorem d_AL_isEmpty_12 : decode b_AL_isEmpty 12 = .ok (.ireturn, 1) := by decide +kernel
theorem d_File_init_0 : decode b_File_init 0 = .ok (.aload_n 0, 1) := by decide +kernel
theorem d_File_init_1 : decode b_File_init 1 = .ok (.invokespecial 3, 3) := by decide +kernel
theorem d_File_init_4 : decode b_File_init 4 = .ok (.aload_n 0, 1) := by decide +kernel
theorem d_File_init_5 : decode b_File_init 5 = .ok (.aload_n 1, 1) := by decide +kernel
theorem d_File_init_6 : decode b_File_init 6 = .ok (.putfield 9, 3) := by decide +kernel
theorem d_File_init_9 : decode b_File_init 9 = .ok (.aload_n 0, 1) := by decide +kernel
theorem d_File_init_10 : decode b_File_init 10 = .ok (.new 15, 3) := by decide +kernel
theorem d_File_init_13 : decode b_File_init 13 = .ok (.dup, 1) := by decide +kernel
theorem d_File_init_14 : decode b_File_init 14 = .ok (.sipush 200, 3) := by decide +kernel
theorem d_File_init_17 : decode b_File_init 17 = .ok (.invokespecial 17, 3) := by decide +kernel
theorem d_File_init_20 : decode b_File_init 20 = .ok (.putfield 20, 3) := by decide +kernel
theorem d_File_init_23 : decode b_File_init 23 = .ok (.aload_n 0, 1) := by decide +kernel
theorem d_File_init_24 : decode b_File_init 24 = .ok (.bipush 19, 2) := by decide +kernel
theorem d_File_init_26 : decode b_File_init 26 = .ok (.anewarray 24, 3) := by decide +kernel
theorem d_File_init_29 : decode b_File_init 29 = .ok (.putfield 26, 3) := by decide +kernel
theorem d_File_init_32 : decode b_File_init 32 = .ok (.aload_n 0, 1) := by decide +kernel
theorem d_File_init_33 : decode b_File_init 33 = .ok (.iconst 0, 1) := by decide +kernel
theorem d_File_init_34 : decode b_File_init 34 = .ok (.putfield 30, 3) := by decide +kernel
theorem d_File_init_37 : decode b_File_init 37 = .ok (.aload_n 0, 1) := by decide +kernel
theorem d_File_init_38 : decode b_File_init 38 = .ok (.iconst 0, 1) := by decide +kernel
theorem d_File_init_39 : decode b_File_init 39 = .ok (.putfield 34, 3) := by decide +kernel
theorem d_File_init_42 : decode b_File_init 42 = .ok (.return_, 1) := by decide +kernel
theorem d_AL_remove_0 : decode b_AL_remove 0 = .ok (.iload_n 1, 1) := by decide +kernel
theorem d_AL_remove_1 : decode b_AL_remove 1 = .ok (.aload_n 0, 1) := by decide +kernel
theorem d_AL_remove_2 : decode b_AL_remove 2 = .ok (.getfield 48, 3) := by decide +kernel
theorem d_AL_remove_5 : decode b_AL_remove 5 = .ok (.invokestatic 118, 3) := by decide +kernel
theorem d_AL_remove_8 : decode b_AL_remove 8 = .ok (.pop, 1) := by decide +kernel
theorem d_AL_remove_9 : decode b_AL_remove 9 = .ok (.aload_n 0, 1) := by decide +kernel
theorem d_AL_remove_10 : decode b_AL_remove 10 = .ok (.getfield 9, 3) := by decide +kernel
theorem d_AL_remove_13 : decode b_AL_remove 13 = .ok (.astore_n 2, 1) := by decide +kernel
theorem d_AL_remove_14 : decode b_AL_remove 14 = .ok (.aload_n 2, 1) := by decide +kernel
theorem d_AL_remove_15 : decode b_AL_remove 15 = .ok (.iload_n 1, 1) := by decide +kernel
theorem d_AL_remove_16 : decode b_AL_remove 16 = .ok (.aaload, 1) := by decide +kernel
theorem d_AL_remove_17 : decode b_AL_remove 17 = .ok (.astore_n 3, 1) := by decide +kernel
theorem d_AL_remove_18 : decode b_AL_remove 18 = .ok (.aload_n 0, 1) := by decide +kernel
theorem d_AL_remove_19 : decode b_AL_remove 19 = .ok (.aload_n 2, 1) := by decide +kernel
theorem d_AL_remove_20 : decode b_AL_remove 20 = .ok (.iload_n 1, 1) := by decide +kernel
theorem d_AL_remove_21 : decode b_AL_remove 21 = .ok (.invokevirtual 144, 3) := by decide +kernel
theorem d_AL_remove_24 : decode b_AL_remove 24 = .ok (.aload_n 3, 1) := by decide +kernel
theorem d_AL_remove_25 : decode b_AL_remove 25 = .ok (.areturn, 1) := by decide +kernel
theorem d_AL_fastRemove_0 : decode b_AL_fastRemove 0 = .ok (.aload_n 0, 1) := by decide +kernel
theorem d_AL_fastRemove_1 : decode b_AL_fastRemove 1 = .ok (.dup, 1) := by decide +kernel
theorem d_AL_fastRemove_2 : decode b_AL_fastRemove 2 = .ok (.getfield 63, 3) := by decide +kernel
theorem d_AL_fastRemove_5 : decode b_AL_fastRemove 5 = .ok (.iconst 1, 1) := by decide +kernel
theorem d_AL_fastRemove_6 : decode b_AL_fastRemove 6 = .ok (.iadd, 1) := by decide +kernel
theorem d_AL_fastRemove_7 : decode b_AL_fastRemove 7 = .ok (.putfield 63, 3) := by decide +kernel
theorem d_AL_fastRemove_10 : decode b_AL_fastRemove 10 = .ok (.aload_n 0, 1) := by decide +kernel
theorem d_AL_fastRemove_11 : decode b_AL_fastRemove 11 = .ok (.getfield 48, 3) := by decide +kernel
theorem d_AL_fastRemove_14 : decode b_AL_fastRemove 14 = .ok (.iconst 1, 1) := by decide +kernel
theorem d_AL_fastRemove_15 : decode b_AL_fastRemove 15 = .ok (.isub, 1) := by decide +kernel
theorem d_AL_fastRemove_16 : decode b_AL_fastRemove 16 = .ok (.dup, 1) := by decide +kernel
theorem d_AL_fastRemove_17 : decode b_AL_fastRemove 17 = .ok (.istore_n 3, 1) := by decide +kernel
theorem d_AL_fastRemove_18 : decode b_AL_fastRemove 18 = .ok (.iload_n 2, 1) := by decide +kernel
theorem d_AL_fastRemove_19 : decode b_AL_fastRemove 19 = .ok (.if_icmp .le 15, 3) := by decide +kernel
theorem d_AL_fastRemove_22 : decode b_AL_fastRemove 22 = .ok (.aload_n 1, 1) := by decide +kernel
theorem d_AL_fastRemove_23 : decode b_AL_fastRemove 23 = .ok (.iload_n 2, 1) := by decide +kernel
theorem d_AL_fastRemove_24 : decode b_AL_fastRemove 24 = .ok (.iconst 1, 1) := by decide +kernel
theorem d_AL_fastRemove_25 : decode b_AL_fastRemove 25 = .ok (.iadd, 1) := by decide +kernel
theorem d_AL_fastRemove_26 : decode b_AL_fastRemove 26 = .ok (.aload_n 1, 1) := by decide +kernel
theorem d_AL_fastRemove_27 : decode b_AL_fastRemove 27 = .ok (.iload_n 2, 1) := by decide +kernel
theorem d_AL_fastRemove_28 : decode b_AL_fastRemove 28 = .ok (.iload_n 3, 1) := by decide +kernel
theorem d_AL_fastRemove_29 : decode b_AL_fastRemove 29 = .ok (.iload_n 2, 1) := by decide +kernel
theorem d_AL_fastRemove_30 : decode b_AL_fastRemove 30 = .ok (.isub, 1) := by decide +kernel
theorem d_AL_fastRemove_31 : decode b_AL_fastRemove 31 = .ok (.invokestatic 112, 3) := by decide +kernel
theorem d_AL_fastRemove_34 : decode b_AL_fastRemove 34 = .ok (.aload_n 1, 1) := by decide +kernel
theorem d_AL_fastRemove_35 : decode b_AL_fastRemove 35 = .ok (.aload_n 0, 1) := by decide +kernel
theorem d_AL_fastRemove_36 : decode b_AL_fastRemove 36 = .ok (.iload_n 3, 1) := by decide +kernel
theorem d_AL_fastRemove_37 : decode b_AL_fastRemove 37 = .ok (.dup_x1, 1) := by decide +kernel
theorem d_AL_fastRemove_38 : decode b_AL_fastRemove 38 = .ok (.putfield 48, 3) := by decide +kernel
theorem d_AL_fastRemove_41 : decode b_AL_fastRemove 41 = .ok (.aconst_null, 1) := by decide +kernel
theorem d_AL_fastRemove_42 : decode b_AL_fastRemove 42 = .ok (.aastore, 1) := by decide +kernel
theorem d_AL_fastRemove_43 : decode b_AL_fastRemove 43 = .ok (.return_, 1) := by decide +kernel
theorem d_File_begin_0 : decode b_File_begin 0 = .ok (.aload_n 0, 1) := by decide +kernel
theorem d_File_begin_1 : decode b_File_begin 1 = .ok (.getfield 20, 3) := by decide +kernel
theorem d_File_begin_4 : decode b_File_begin 4 = .ok (.aload_n 1, 1) := by decide +kernel
theorem d_File_begin_5 : decode b_File_begin 5 = .ok (.invokevirtual 37, 3) := by decide +kernel
theorem d_File_begin_8 : decode b_File_begin 8 = .ok (.aload_n 0, 1) := by decide +kernel
theorem d_File_begin_9 : decode b_File_begin 9 = .ok (.iload_n 2, 1) := by decide +kernel
theorem d_File_begin_10 : decode b_File_begin 10 = .ok (.putfield 30, 3) := by decide +kernel
theorem d_File_begin_13 : decode b_File_begin 13 = .ok (.return_, 1) := by decide +kernel
theorem d_AL_add1_0 : decode b_AL_add1 0 = .ok (.aload_n 0, 1) := by decide +kernel
theorem d_AL_add1_1 : decode b_AL_add1 1 = .ok (.iload_n 1, 1) := by decide +kernel
theorem d_AL_add1_2 : decode b_AL_add1 2 = .ok (.invokevirtual 135, 3) := by decide +kernel
theorem d_AL_add1_5 : decode b_AL_add1 5 = .ok (.aload_n 0, 1) := by decide +kernel
theorem d_AL_add1_6 : decode b_AL_add1 6 = .ok (.dup, 1) := by decide +kernel
theorem d_AL_add1_7 : decode b_AL_add1 7 = .ok (.getfield 63, 3) := by decide +kernel
theorem d_AL_add1_10 : decode b_AL_add1 10 = .ok (.iconst 1, 1) := by decide +kernel
theorem d_AL_add1_11 : decode b_AL_add1 11 = .ok (.iadd, 1) := by decide +kernel
theorem d_AL_add1_12 : decode b_AL_add1 12 = .ok (.putfield 63, 3) := by decide +kernel
theorem d_AL_add1_15 : decode b_AL_add1 15 = .ok (.aload_n 0, 1) := by decide +kernel
theorem d_AL_add1_16 : decode b_AL_add1 16 = .ok (.getfield 48, 3) := by decide +kernel
theorem d_AL_add1_19 : decode b_AL_add1 19 = .ok (.dup, 1) := by decide +kernel
theorem d_AL_add1_20 : decode b_AL_add1 20 = .ok (.istore_n 3, 1) := by decide +kernel
theorem d_AL_add1_21 : decode b_AL_add1 21 = .ok (.aload_n 0, 1) := by decide +kernel
theorem d_AL_add1_22 : decode b_AL_add1 22 = .ok (.getfield 9, 3) := by decide +kernel
theorem d_AL_add1_25 : decode b_AL_add1 25 = .ok (.dup, 1) := by decide +kernel
theorem d_AL_add1_26 : decode b_AL_add1 26 = .ok (.astore 4, 2) := by decide +kernel
theorem d_AL_add1_28 : decode b_AL_add1 28 = .ok (.arraylength, 1) := by decide +kernel
theorem d_AL_add1_29 : decode b_AL_add1 29 = .ok (.if_icmp .ne 9, 3) := by decide +kernel
theorem d_AL_add1_32 : decode b_AL_add1 32 = .ok (.aload_n 0, 1) := by decide +kernel
theorem d_AL_add1_33 : decode b_AL_add1 33 = .ok (.invokevirtual 129, 3) := by decide +kernel
theorem d_AL_add1_36 : decode b_AL_add1 36 = .ok (.astore 4, 2) := by decide +kernel
theorem d_AL_add1_38 : decode b_AL_add1 38 = .ok (.aload 4, 2) := by decide +kernel
theorem d_AL_add1_40 : decode b_AL_add1 40 = .ok (.iload_n 1, 1) := by decide +kernel
theorem d_AL_add1_41 : decode b_AL_add1 41 = .ok (.aload 4, 2) := by decide +kernel
theorem d_AL_add1_43 : decode b_AL_add1 43 = .ok (.iload_n 1, 1) := by decide +kernel
theorem d_AL_add1_44 : decode b_AL_add1 44 = .ok (.iconst 1, 1) := by decide +kernel
theorem d_AL_add1_45 : decode b_AL_add1 45 = .ok (.iadd, 1) := by decide +kernel
theorem d_AL_add1_46 : decode b_AL_add1 46 = .ok (.iload_n 3, 1) := by decide +kernel
theorem d_AL_add1_47 : decode b_AL_add1 47 = .ok (.iload_n 1, 1) := by decide +kernel
theorem d_AL_add1_48 : decode b_AL_add1 48 = .ok (.isub, 1) := by decide +kernel
theorem d_AL_add1_49 : decode b_AL_add1 49 = .ok (.invokestatic 112, 3) := by decide +kernel
theorem d_AL_add1_52 : decode b_AL_add1 52 = .ok (.aload 4, 2) := by decide +kernel
theorem d_AL_add1_54 : decode b_AL_add1 54 = .ok (.iload_n 1, 1) := by decide +kernel
theorem d_AL_add1_55 : decode b_AL_add1 55 = .ok (.aload_n 2, 1) := by decide +kernel
theorem d_AL_add1_56 : decode b_AL_add1 56 = .ok (.aastore, 1) := by decide +kernel
theorem d_AL_add1_57 : decode b_AL_add1 57 = .ok (.aload_n 0, 1) := by decide +kernel
theorem d_AL_add1_58 : decode b_AL_add1 58 = .ok (.iload_n 3, 1) := by decide +kernel
theorem d_AL_add1_59 : decode b_AL_add1 59 = .ok (.iconst 1, 1) := by decide +kernel
theorem d_AL_add1_60 : decode b_AL_add1 60 = .ok (.iadd, 1) := by decide +kernel
theorem d_AL_add1_61 : decode b_AL_add1 61 = .ok (.putfield 48, 3) := by decide +kernel
theorem d_AL_add1_64 : decode b_AL_add1 64 = .ok (.return_, 1) := by decide +kernel
theorem d_AL_rangeCheckForAdd_0 : decode b_AL_rangeCheckForAdd 0 = .ok (.iload_n 1, 1) := by decide +kernel
theorem d_AL_rangeCheckForAdd_1 : decode b_AL_rangeCheckForAdd 1 = .ok (.aload_n 0, 1) := by decide +kernel
theorem d_AL_rangeCheckForAdd_2 : decode b_AL_rangeCheckForAdd 2 = .ok (.getfield 48, 3) := by decide +kernel
theorem d_AL_rangeCheckForAdd_5 : decode b_AL_rangeCheckForAdd 5 = .ok (.if_icmp .gt 7, 3) := by decide +kernel
theorem d_AL_rangeCheckForAdd_8 : decode b_AL_rangeCheckForAdd 8 = .ok (.iload_n 1, 1) := by decide +kernel
theorem d_AL_rangeCheckForAdd_9 : decode b_AL_rangeCheckForAdd 9 = .ok (.ifCond .ge 16, 3) := by decide +kernel
theorem d_AL_rangeCheckForAdd_12 : decode b_AL_rangeCheckForAdd 12 = .ok (.new 187, 3) := by decide +kernel
theorem d_AL_rangeCheckForAdd_15 : decode b_AL_rangeCheckForAdd 15 = .ok (.dup, 1) := by decide +kernel
theorem d_AL_rangeCheckForAdd_16 : decode b_AL_rangeCheckForAdd 16 = .ok (.aload_n 0, 1) := by decide +kernel
theorem d_AL_rangeCheckForAdd_17 : decode b_AL_rangeCheckForAdd 17 = .ok (.iload_n 1, 1) := by decide +kernel
theorem d_AL_rangeCheckForAdd_18 : decode b_AL_rangeCheckForAdd 18 = .ok (.invokevirtual 198, 3) := by decide +kernel
theorem d_AL_rangeCheckForAdd_21 : decode b_AL_rangeCheckForAdd 21 = .ok (.invokespecial 193, 3) := by decide +kernel
theorem d_AL_rangeCheckForAdd_24 : decode b_AL_rangeCheckForAdd 24 = .ok (.athrow, 1) := by decide +kernel
theorem d_AL_rangeCheckForAdd_25 : decode b_AL_rangeCheckForAdd 25 = .ok (.return_, 1) := by decide +kernel
theorem d_AL_grow1_0 : decode b_AL_grow1 0 = .ok (.aload_n 0, 1) := by decide +kernel
theorem d_AL_grow1_1 : decode b_AL_grow1 1 = .ok (.aload_n 0, 1) := by decide +kernel
theorem d_AL_grow1_2 : decode b_AL_grow1 2 = .ok (.getfield 48, 3) := by decide +kernel
theorem d_AL_grow1_5 : decode b_AL_grow1 5 = .ok (.iconst 1, 1) := by decide +kernel
theorem d_AL_grow1_6 : decode b_AL_grow1 6 = .ok (.iadd, 1) := by decide +kernel
theorem d_AL_grow1_7 : decode b_AL_grow1 7 = .ok (.invokevirtual 69, 3) := by decide +kernel
theorem d_AL_grow1_10 : decode b_AL_grow1 10 = .ok (.areturn, 1) := by decide +kernel
theorem d_AL_grow2_0 : decode b_AL_grow2 0 = .ok (.aload_n 0, 1) := by decide +kernel
theorem d_AL_grow2_1 : decode b_AL_grow2 1 = .ok (.getfield 9, 3) := by decide +kernel
theorem d_AL_grow2_4 : decode b_AL_grow2 4 = .ok (.arraylength, 1) := by decide +kernel
theorem d_AL_grow2_5 : decode b_AL_grow2 5 = .ok (.istore_n 2, 1) := by decide +kernel
theorem d_AL_grow2_6 : decode b_AL_grow2 6 = .ok (.iload_n 2, 1) := by decide +kernel
theorem d_AL_grow2_7 : decode b_AL_grow2 7 = .ok (.ifCond .gt 13, 3) := by decide +kernel
theorem d_AL_grow2_10 : decode b_AL_grow2 10 = .ok (.aload_n 0, 1) := by decide +kernel
theorem d_AL_grow2_11 : decode b_AL_grow2 11 = .ok (.getfield 9, 3) := by decide +kernel
theorem d_AL_grow2_14 : decode b_AL_grow2 14 = .ok (.getstatic 39, 3) := by decide +kernel
theorem d_AL_grow2_17 : decode b_AL_grow2 17 = .ok (.if_acmp .eq 28, 3) := by decide +kernel
theorem d_AL_grow2_20 : decode b_AL_grow2 20 = .ok (.iload_n 2, 1) := by decide +kernel
theorem d_AL_grow2_21 : decode b_AL_grow2 21 = .ok (.iload_n 1, 1) := by decide +kernel
theorem d_AL_grow2_22 : decode b_AL_grow2 22 = .ok (.iload_n 2, 1) := by decide +kernel
theorem d_AL_grow2_23 : decode b_AL_grow2 23 = .ok (.isub, 1) := by decide +kernel
theorem d_AL_grow2_24 : decode b_AL_grow2 24 = .ok (.iload_n 2, 1) := by decide +kernel
theorem d_AL_grow2_25 : decode b_AL_grow2 25 = .ok (.iconst 1, 1) := by decide +kernel
theorem d_AL_grow2_26 : decode b_AL_grow2 26 = .ok (.ishr, 1) := by decide +kernel
theorem d_AL_grow2_27 : decode b_AL_grow2 27 = .ok (.invokestatic 73, 3) := by decide +kernel
theorem d_AL_grow2_30 : decode b_AL_grow2 30 = .ok (.istore_n 3, 1) := by decide +kernel
theorem d_AL_grow2_31 : decode b_AL_grow2 31 = .ok (.aload_n 0, 1) := by decide +kernel
theorem d_AL_grow2_32 : decode b_AL_grow2 32 = .ok (.aload_n 0, 1) := by decide +kernel
theorem d_AL_grow2_33 : decode b_AL_grow2 33 = .ok (.getfield 9, 3) := by decide +kernel
theorem d_AL_grow2_36 : decode b_AL_grow2 36 = .ok (.iload_n 3, 1) := by decide +kernel
theorem d_AL_grow2_37 : decode b_AL_grow2 37 = .ok (.invokestatic 66, 3) := by decide +kernel
theorem d_AL_grow2_40 : decode b_AL_grow2 40 = .ok (.dup_x1, 1) := by decide +kernel
theorem d_AL_grow2_41 : decode b_AL_grow2 41 = .ok (.putfield 9, 3) := by decide +kernel
theorem d_AL_grow2_44 : decode b_AL_grow2 44 = .ok (.areturn, 1) := by decide +kernel
theorem d_AL_grow2_45 : decode b_AL_grow2 45 = .ok (.aload_n 0, 1) := by decide +kernel
theorem d_AL_grow2_46 : decode b_AL_grow2 46 = .ok (.bipush 10, 2) := by decide +kernel
theorem d_AL_grow2_48 : decode b_AL_grow2 48 = .ok (.iload_n 1, 1) := by decide +kernel
theorem d_AL_grow2_49 : decode b_AL_grow2 49 = .ok (.invokestatic 79, 3) := by decide +kernel
theorem d_AL_grow2_52 : decode b_AL_grow2 52 = .ok (.anewarray 7, 3) := by decide +kernel
theorem d_AL_grow2_55 : decode b_AL_grow2 55 = .ok (.dup_x1, 1) := by decide +kernel
theorem d_AL_grow2_56 : decode b_AL_grow2 56 = .ok (.putfield 9, 3) := by decide +kernel
theorem d_AL_grow2_59 : decode b_AL_grow2 59 = .ok (.areturn, 1) := by decide +kernel
theorem d_ASup_newLength_0 : decode b_ASup_newLength 0 = .ok (.iload_n 0, 1) := by decide +kernel
theorem d_ASup_newLength_1 : decode b_ASup_newLength 1 = .ok (.iload_n 1, 1) := by decide +kernel
theorem d_ASup_newLength_2 : decode b_ASup_newLength 2 = .ok (.iload_n 2, 1) := by decide +kernel
theorem d_ASup_newLength_3 : decode b_ASup_newLength 3 = .ok (.invokestatic 194, 3) := by decide +kernel
theorem d_ASup_newLength_6 : decode b_ASup_newLength 6 = .ok (.iadd, 1) := by decide +kernel
theorem d_ASup_newLength_7 : decode b_ASup_newLength 7 = .ok (.istore_n 3, 1) := by decide +kernel
theorem d_ASup_newLength_8 : decode b_ASup_newLength 8 = .ok (.iconst 0, 1) := by decide +kernel
theorem d_ASup_newLength_9 : decode b_ASup_newLength 9 = .ok (.iload_n 3, 1) := by decide +kernel
theorem d_ASup_newLength_10 : decode b_ASup_newLength 10 = .ok (.if_icmp .ge 11, 3) := by decide +kernel
theorem d_ASup_newLength_13 : decode b_ASup_newLength 13 = .ok (.iload_n 3, 1) := by decide +kernel
theorem d_ASup_newLength_14 : decode b_ASup_newLength 14 = .ok (.ldc 200, 2) := by decide +kernel
theorem d_ASup_newLength_16 : decode b_ASup_newLength 16 = .ok (.if_icmp .gt 5, 3) := by decide +kernel
theorem d_ASup_newLength_19 : decode b_ASup_newLength 19 = .ok (.iload_n 3, 1) := by decide +kernel
theorem d_ASup_newLength_20 : decode b_ASup_newLength 20 = .ok (.ireturn, 1) := by decide +kernel
theorem d_ASup_newLength_21 : decode b_ASup_newLength 21 = .ok (.iload_n 0, 1) := by decide +kernel
theorem d_ASup_newLength_22 : decode b_ASup_newLength 22 = .ok (.iload_n 1, 1) := by decide +kernel
theorem d_ASup_newLength_23 : decode b_ASup_newLength 23 = .ok (.invokestatic 201, 3) := by decide +kernel
theorem d_ASup_newLength_26 : decode b_ASup_newLength 26 = .ok (.ireturn, 1) := by decide +kernel
theorem d_Math_max_0 : decode b_Math_max 0 = .ok (.iload_n 0, 1) := by decide +kernel
theorem d_Math_max_1 : decode b_Math_max 1 = .ok (.iload_n 1, 1) := by decide +kernel
theorem d_Math_max_2 : decode b_Math_max 2 = .ok (.if_icmp .lt 7, 3) := by decide +kernel
theorem d_Math_max_5 : decode b_Math_max 5 = .ok (.iload_n 0, 1) := by decide +kernel
theorem d_Math_max_6 : decode b_Math_max 6 = .ok (.goto 4, 3) := by decide +kernel
theorem d_Math_max_9 : decode b_Math_max 9 = .ok (.iload_n 1, 1) := by decide +kernel
theorem d_Math_max_10 : decode b_Math_max 10 = .ok (.ireturn, 1) := by decide +kernel
theorem d_ASup_hugeLength_0 : decode b_ASup_hugeLength 0 = .ok (.iload_n 0, 1) := by decide +kernel
theorem d_ASup_hugeLength_1 : decode b_ASup_hugeLength 1 = .ok (.iload_n 1, 1) := by decide +kernel
theorem d_ASup_hugeLength_2 : decode b_ASup_hugeLength 2 = .ok (.iadd, 1) := by decide +kernel
theorem d_ASup_hugeLength_3 : decode b_ASup_hugeLength 3 = .ok (.istore_n 2, 1) := by decide +kernel
theorem d_ASup_hugeLength_4 : decode b_ASup_hugeLength 4 = .ok (.iload_n 2, 1) := by decide +kernel
theorem d_ASup_hugeLength_5 : decode b_ASup_hugeLength 5 = .ok (.ifCond .ge 44, 3) := by decide +kernel
theorem d_ASup_hugeLength_8 : decode b_ASup_hugeLength 8 = .ok (.new 204, 3) := by decide +kernel
theorem d_ASup_hugeLength_11 : decode b_ASup_hugeLength 11 = .ok (.dup, 1) := by decide +kernel
theorem d_ASup_hugeLength_12 : decode b_ASup_hugeLength 12 = .ok (.new 89, 3) := by decide +kernel
theorem d_ASup_hugeLength_15 : decode b_ASup_hugeLength 15 = .ok (.dup, 1) := by decide +kernel
theorem d_ASup_hugeLength_16 : decode b_ASup_hugeLength 16 = .ok (.invokespecial 91, 3) := by decide +kernel
theorem d_ASup_hugeLength_19 : decode b_ASup_hugeLength 19 = .ok (.ldc 206, 2) := by decide +kernel
theorem d_ASup_hugeLength_21 : decode b_ASup_hugeLength 21 = .ok (.invokevirtual 94, 3) := by decide +kernel
theorem d_ASup_hugeLength_24 : decode b_ASup_hugeLength 24 = .ok (.iload_n 0, 1) := by decide +kernel
theorem d_ASup_hugeLength_25 : decode b_ASup_hugeLength 25 = .ok (.invokevirtual 98, 3) := by decide +kernel
theorem d_ASup_hugeLength_28 : decode b_ASup_hugeLength 28 = .ok (.ldc 208, 2) := by decide +kernel
theorem d_ASup_hugeLength_30 : decode b_ASup_hugeLength 30 = .ok (.invokevirtual 94, 3) := by decide +kernel
theorem d_ASup_hugeLength_33 : decode b_ASup_hugeLength 33 = .ok (.iload_n 1, 1) := by decide +kernel
theorem d_ASup_hugeLength_34 : decode b_ASup_hugeLength 34 = .ok (.invokevirtual 98, 3) := by decide +kernel
theorem d_ASup_hugeLength_37 : decode b_ASup_hugeLength 37 = .ok (.ldc 210, 2) := by decide +kernel
theorem d_ASup_hugeLength_39 : decode b_ASup_hugeLength 39 = .ok (.invokevirtual 94, 3) := by decide +kernel
theorem d_ASup_hugeLength_42 : decode b_ASup_hugeLength 42 = .ok (.invokevirtual 101, 3) := by decide +kernel
theorem d_ASup_hugeLength_45 : decode b_ASup_hugeLength 45 = .ok (.invokespecial 212, 3) := by decide +kernel
theorem d_ASup_hugeLength_48 : decode b_ASup_hugeLength 48 = .ok (.athrow, 1) := by decide +kernel
theorem d_ASup_hugeLength_49 : decode b_ASup_hugeLength 49 = .ok (.iload_n 2, 1) := by decide +kernel
theorem d_ASup_hugeLength_50 : decode b_ASup_hugeLength 50 = .ok (.ldc 200, 2) := by decide +kernel
theorem d_ASup_hugeLength_52 : decode b_ASup_hugeLength 52 = .ok (.if_icmp .gt 6, 3) := by decide +kernel
theorem d_ASup_hugeLength_55 : decode b_ASup_hugeLength 55 = .ok (.ldc 200, 2) := by decide +kernel
theorem d_ASup_hugeLength_57 : decode b_ASup_hugeLength 57 = .ok (.ireturn, 1) := by decide +kernel
theorem d_ASup_hugeLength_58 : decode b_ASup_hugeLength 58 = .ok (.iload_n 2, 1) := by decide +kernel
theorem d_ASup_hugeLength_59 : decode b_ASup_hugeLength 59 = .ok (.ireturn, 1) := by decide +kernel
theorem d_Arrs_copyOf1_0 : decode b_Arrs_copyOf1 0 = .ok (.aload_n 0, 1) := by decide +kernel
theorem d_Arrs_copyOf1_1 : decode b_Arrs_copyOf1 1 = .ok (.iload_n 1, 1) := by decide +kernel
theorem d_Arrs_copyOf1_2 : decode b_Arrs_copyOf1 2 = .ok (.aload_n 0, 1) := by decide +kernel
theorem d_Arrs_copyOf1_3 : decode b_Arrs_copyOf1 3 = .ok (.invokevirtual 86, 3) := by decide +kernel
theorem d_Arrs_copyOf1_6 : decode b_Arrs_copyOf1 6 = .ok (.invokestatic 300, 3) := by decide +kernel
theorem d_Arrs_copyOf1_9 : decode b_Arrs_copyOf1 9 = .ok (.areturn, 1) := by decide +kernel
theorem d_Arrs_copyOf2_0 : decode b_Arrs_copyOf2 0 = .ok (.aload_n 2, 1) := by decide +kernel
theorem d_Arrs_copyOf2_1 : decode b_Arrs_copyOf2 1 = .ok (.ldc 110, 2) := by decide +kernel
theorem d_Arrs_copyOf2_3 : decode b_Arrs_copyOf2 3 = .ok (.if_acmp .ne 10, 3) := by decide +kernel
theorem d_Arrs_copyOf2_6 : decode b_Arrs_copyOf2 6 = .ok (.iload_n 1, 1) := by decide +kernel
theorem d_Arrs_copyOf2_7 : decode b_Arrs_copyOf2 7 = .ok (.anewarray 2, 3) := by decide +kernel
theorem d_Arrs_copyOf2_10 : decode b_Arrs_copyOf2 10 = .ok (.goto 14, 3) := by decide +kernel
theorem d_Arrs_copyOf2_13 : decode b_Arrs_copyOf2 13 = .ok (.aload_n 2, 1) := by decide +kernel
theorem d_Arrs_copyOf2_14 : decode b_Arrs_copyOf2 14 = .ok (.invokevirtual 90, 3) := by decide +kernel
theorem d_Arrs_copyOf2_17 : decode b_Arrs_copyOf2 17 = .ok (.iload_n 1, 1) := by decide +kernel
theorem d_Arrs_copyOf2_18 : decode b_Arrs_copyOf2 18 = .ok (.invokestatic 95, 3) := by decide +kernel
theorem d_Arrs_copyOf2_21 : decode b_Arrs_copyOf2 21 = .ok (.checkcast 110, 3) := by decide +kernel
theorem d_Arrs_copyOf2_24 : decode b_Arrs_copyOf2 24 = .ok (.astore_n 3, 1) := by decide +kernel
theorem d_Arrs_copyOf2_25 : decode b_Arrs_copyOf2 25 = .ok (.aload_n 0, 1) := by decide +kernel
theorem d_Arrs_copyOf2_26 : decode b_Arrs_copyOf2 26 = .ok (.iconst 0, 1) := by decide +kernel
theorem d_Arrs_copyOf2_27 : decode b_Arrs_copyOf2 27 = .ok (.aload_n 3, 1) := by decide +kernel
theorem d_Arrs_copyOf2_28 : decode b_Arrs_copyOf2 28 = .ok (.iconst 0, 1) := by decide +kernel
theorem d_Arrs_copyOf2_29 : decode b_Arrs_copyOf2 29 = .ok (.aload_n 0, 1) := by decide +kernel
theorem d_Arrs_copyOf2_30 : decode b_Arrs_copyOf2 30 = .ok (.arraylength, 1) := by decide +kernel
theorem d_Arrs_copyOf2_31 : decode b_Arrs_copyOf2 31 = .ok (.iload_n 1, 1) := by decide +kernel
theorem d_Arrs_copyOf2_32 : decode b_Arrs_copyOf2 32 = .ok (.invokestatic 304, 3) := by decide +kernel
theorem d_Arrs_copyOf2_35 : decode b_Arrs_copyOf2 35 = .ok (.invokestatic 150, 3) := by decide +kernel
theorem d_Arrs_copyOf2_38 : decode b_Arrs_copyOf2 38 = .ok (.aload_n 3, 1) := by decide +kernel
theorem d_Arrs_copyOf2_39 : decode b_Arrs_copyOf2 39 = .ok (.areturn, 1) := by decide +kernel
theorem d_SF_writeTape_0 : decode b_SF_writeTape 0 = .ok (.aload_n 0, 1) := by decide +kernel
theorem d_SF_writeTape_1 : decode b_SF_writeTape 1 = .ok (.getfield 30, 3) := by decide +kernel
theorem d_SF_writeTape_4 : decode b_SF_writeTape 4 = .ok (.aload_n 0, 1) := by decide +kernel
theorem d_SF_writeTape_5 : decode b_SF_writeTape 5 = .ok (.getfield 18, 3) := by decide +kernel
theorem d_SF_writeTape_8 : decode b_SF_writeTape 8 = .ok (.invokevirtual 115, 3) := by decide +kernel
theorem d_SF_writeTape_11 : decode b_SF_writeTape 11 = .ok (.astore 4, 2) := by decide +kernel
theorem d_SF_writeTape_13 : decode b_SF_writeTape 13 = .ok (.aload 4, 2) := by decide +kernel
theorem d_SF_writeTape_15 : decode b_SF_writeTape 15 = .ok (.ifnonnull 7, 3) := by decide +kernel
theorem d_SF_writeTape_18 : decode b_SF_writeTape 18 = .ok (.iconst 0, 1) := by decide +kernel
theorem d_SF_writeTape_19 : decode b_SF_writeTape 19 = .ok (.goto 8, 3) := by decide +kernel
theorem d_SF_writeTape_22 : decode b_SF_writeTape 22 = .ok (.aload 4, 2) := by decide +kernel
theorem d_SF_writeTape_24 : decode b_SF_writeTape 24 = .ok (.invokevirtual 87, 3) := by decide +kernel
theorem d_SF_writeTape_27 : decode b_SF_writeTape 27 = .ok (.istore 5, 2) := by decide +kernel
theorem d_SF_writeTape_29 : decode b_SF_writeTape 29 = .ok (.iload_n 1, 1) := by decide +kernel
theorem d_SF_writeTape_30 : decode b_SF_writeTape 30 = .ok (.iconst 2, 1) := by decide +kernel
theorem d_SF_writeTape_31 : decode b_SF_writeTape 31 = .ok (.if_icmp .ne 8, 3) := by decide +kernel
theorem d_SF_writeTape_34 : decode b_SF_writeTape 34 = .ok (.iload 5, 2) := by decide +kernel
theorem d_SF_writeTape_36 : decode b_SF_writeTape 36 = .ok (.goto 4, 3) := by decide +kernel
theorem d_SF_writeTape_39 : decode b_SF_writeTape 39 = .ok (.iload_n 2, 1) := by decide +kernel
theorem d_SF_writeTape_40 : decode b_SF_writeTape 40 = .ok (.istore 6, 2) := by decide +kernel
theorem d_SF_writeTape_42 : decode b_SF_writeTape 42 = .ok (.aload_n 0, 1) := by decide +kernel
theorem d_SF_writeTape_43 : decode b_SF_writeTape 43 = .ok (.getfield 14, 3) := by decide +kernel
theorem d_SF_writeTape_46 : decode b_SF_writeTape 46 = .ok (.invokevirtual 111, 3) := by decide +kernel
theorem d_SF_writeTape_49 : decode b_SF_writeTape 49 = .ok (.ifCond .eq 8, 3) := by decide +kernel
theorem d_SF_writeTape_52 : decode b_SF_writeTape 52 = .ok (.iload 5, 2) := by decide +kernel
theorem d_SF_writeTape_54 : decode b_SF_writeTape 54 = .ok (.goto 18, 3) := by decide +kernel
theorem d_SF_writeTape_57 : decode b_SF_writeTape 57 = .ok (.iload 5, 2) := by decide +kernel
theorem d_SF_writeTape_59 : decode b_SF_writeTape 59 = .ok (.iload 6, 2) := by decide +kernel
theorem d_SF_writeTape_61 : decode b_SF_writeTape 61 = .ok (.aload_n 0, 1) := by decide +kernel
theorem d_SF_writeTape_62 : decode b_SF_writeTape 62 = .ok (.getfield 14, 3) := by decide +kernel
theorem d_SF_writeTape_65 : decode b_SF_writeTape 65 = .ok (.invokevirtual 38, 3) := by decide +kernel
theorem d_SF_writeTape_68 : decode b_SF_writeTape 68 = .ok (.iadd, 1) := by decide +kernel
theorem d_SF_writeTape_69 : decode b_SF_writeTape 69 = .ok (.invokestatic 126, 3) := by decide +kernel
theorem d_SF_writeTape_72 : decode b_SF_writeTape 72 = .ok (.istore 7, 2) := by decide +kernel
theorem d_SF_writeTape_74 : decode b_SF_writeTape 74 = .ok (.aload 4, 2) := by decide +kernel
theorem d_SF_writeTape_76 : decode b_SF_writeTape 76 = .ok (.ifnonnull 13, 3) := by decide +kernel
theorem d_SF_writeTape_79 : decode b_SF_writeTape 79 = .ok (.aload_n 0, 1) := by decide +kernel
theorem d_SF_writeTape_80 : decode b_SF_writeTape 80 = .ok (.getfield 30, 3) := by decide +kernel
theorem d_SF_writeTape_83 : decode b_SF_writeTape 83 = .ok (.invokevirtual 119, 3) := by decide +kernel
theorem d_SF_writeTape_86 : decode b_SF_writeTape 86 = .ok (.ifCond .ne 7, 3) := by decide +kernel
theorem d_SF_writeTape_89 : decode b_SF_writeTape 89 = .ok (.iconst 1, 1) := by decide +kernel
theorem d_SF_writeTape_90 : decode b_SF_writeTape 90 = .ok (.goto 4, 3) := by decide +kernel
theorem d_SF_writeTape_93 : decode b_SF_writeTape 93 = .ok (.iconst 0, 1) := by decide +kernel
theorem d_SF_writeTape_94 : decode b_SF_writeTape 94 = .ok (.istore 8, 2) := by decide +kernel
theorem d_SF_writeTape_96 : decode b_SF_writeTape 96 = .ok (.bipush (-4), 2) := by decide +kernel
theorem d_SF_writeTape_98 : decode b_SF_writeTape 98 = .ok (.istore 9, 2) := by decide +kernel
theorem d_SF_writeTape_100 : decode b_SF_writeTape 100 = .ok (.iload 8, 2) := by decide +kernel
theorem d_SF_writeTape_102 : decode b_SF_writeTape 102 = .ok (.ifCond .eq 61, 3) := by decide +kernel
theorem d_SF_writeTape_105 : decode b_SF_writeTape 105 = .ok (.aload_n 0, 1) := by decide +kernel
theorem d_SF_writeTape_106 : decode b_SF_writeTape 106 = .ok (.getfield 30, 3) := by decide +kernel
theorem d_SF_writeTape_109 : decode b_SF_writeTape 109 = .ok (.iload 5, 2) := by decide +kernel
theorem d_SF_writeTape_111 : decode b_SF_writeTape 111 = .ok (.iload 7, 2) := by decide +kernel
theorem d_SF_writeTape_113 : decode b_SF_writeTape 113 = .ok (.invokevirtual 131, 3) := by decide +kernel
theorem d_SF_writeTape_116 : decode b_SF_writeTape 116 = .ok (.ifCond .eq 47, 3) := by decide +kernel
theorem d_SF_writeTape_119 : decode b_SF_writeTape 119 = .ok (.aload 4, 2) := by decide +kernel
theorem d_SF_writeTape_121 : decode b_SF_writeTape 121 = .ok (.ifnonnull 18, 3) := by decide +kernel
theorem d_SF_writeTape_124 : decode b_SF_writeTape 124 = .ok (.aload_n 0, 1) := by decide +kernel
theorem d_SF_writeTape_125 : decode b_SF_writeTape 125 = .ok (.getfield 30, 3) := by decide +kernel
theorem d_SF_writeTape_128 : decode b_SF_writeTape 128 = .ok (.aload_n 0, 1) := by decide +kernel
theorem d_SF_writeTape_129 : decode b_SF_writeTape 129 = .ok (.getfield 18, 3) := by decide +kernel
theorem d_SF_writeTape_132 : decode b_SF_writeTape 132 = .ok (.iload_n 3, 1) := by decide +kernel
theorem d_SF_writeTape_133 : decode b_SF_writeTape 133 = .ok (.invokevirtual 122, 3) := by decide +kernel
theorem d_SF_writeTape_136 : decode b_SF_writeTape 136 = .ok (.goto 5, 3) := by decide +kernel
theorem d_SF_writeTape_139 : decode b_SF_writeTape 139 = .ok (.aload 4, 2) := by decide +kernel
theorem d_SF_writeTape_141 : decode b_SF_writeTape 141 = .ok (.astore 10, 2) := by decide +kernel
theorem d_SF_writeTape_143 : decode b_SF_writeTape 143 = .ok (.aload 10, 2) := by decide +kernel
theorem d_SF_writeTape_145 : decode b_SF_writeTape 145 = .ok (.iload 6, 2) := by decide +kernel
theorem d_SF_writeTape_147 : decode b_SF_writeTape 147 = .ok (.aload_n 0, 1) := by decide +kernel
theorem d_SF_writeTape_148 : decode b_SF_writeTape 148 = .ok (.getfield 14, 3) := by decide +kernel
theorem d_SF_writeTape_151 : decode b_SF_writeTape 151 = .ok (.invokevirtual 134, 3) := by decide +kernel
theorem d_SF_writeTape_154 : decode b_SF_writeTape 154 = .ok (.aload_n 0, 1) := by decide +kernel
theorem d_SF_writeTape_155 : decode b_SF_writeTape 155 = .ok (.getfield 14, 3) := by decide +kernel
theorem d_SF_writeTape_158 : decode b_SF_writeTape 158 = .ok (.invokevirtual 38, 3) := by decide +kernel
theorem d_SF_writeTape_161 : decode b_SF_writeTape 161 = .ok (.istore 9, 2) := by decide +kernel
theorem d_SF_writeTape_163 : decode b_SF_writeTape 163 = .ok (.aload_n 0, 1) := by decide +kernel
theorem d_SF_writeTape_164 : decode b_SF_writeTape 164 = .ok (.getfield 14, 3) := by decide +kernel
theorem d_SF_writeTape_167 : decode b_SF_writeTape 167 = .ok (.iconst 0, 1) := by decide +kernel
theorem d_SF_writeTape_168 : decode b_SF_writeTape 168 = .ok (.invokevirtual 49, 3) := by decide +kernel
theorem d_SF_writeTape_171 : decode b_SF_writeTape 171 = .ok (.iload 9, 2) := by decide +kernel
theorem d_SF_writeTape_173 : decode b_SF_writeTape 173 = .ok (.ireturn, 1) := by decide +kernel
theorem d_File_length_0 : decode b_File_length 0 = .ok (.aload_n 0, 1) := by decide +kernel
theorem d_File_length_1 : decode b_File_length 1 = .ok (.getfield 34, 3) := by decide +kernel
theorem d_File_length_4 : decode b_File_length 4 = .ok (.ireturn, 1) := by decide +kernel
theorem d_Shelf_hasRoom_0 : decode b_Shelf_hasRoom 0 = .ok (.iload_n 2, 1) := by decide +kernel
theorem d_Shelf_hasRoom_1 : decode b_Shelf_hasRoom 1 = .ok (.sipush 8192, 3) := by decide +kernel
theorem d_Shelf_hasRoom_4 : decode b_Shelf_hasRoom 4 = .ok (.if_icmp .gt 20, 3) := by decide +kernel
theorem d_Shelf_hasRoom_7 : decode b_Shelf_hasRoom 7 = .ok (.aload_n 0, 1) := by decide +kernel
theorem d_Shelf_hasRoom_8 : decode b_Shelf_hasRoom 8 = .ok (.invokevirtual 44, 3) := by decide +kernel
theorem d_Shelf_hasRoom_11 : decode b_Shelf_hasRoom 11 = .ok (.iload_n 1, 1) := by decide +kernel
theorem d_Shelf_hasRoom_12 : decode b_Shelf_hasRoom 12 = .ok (.isub, 1) := by decide +kernel
theorem d_Shelf_hasRoom_13 : decode b_Shelf_hasRoom 13 = .ok (.iload_n 2, 1) := by decide +kernel
theorem d_Shelf_hasRoom_14 : decode b_Shelf_hasRoom 14 = .ok (.iadd, 1) := by decide +kernel
theorem d_Shelf_hasRoom_15 : decode b_Shelf_hasRoom 15 = .ok (.ldc 47, 2) := by decide +kernel
theorem d_Shelf_hasRoom_17 : decode b_Shelf_hasRoom 17 = .ok (.if_icmp .gt 7, 3) := by decide +kernel
theorem d_Shelf_hasRoom_20 : decode b_Shelf_hasRoom 20 = .ok (.iconst 1, 1) := by decide +kernel
theorem d_Shelf_hasRoom_21 : decode b_Shelf_hasRoom 21 = .ok (.goto 4, 3) := by decide +kernel
theorem d_Shelf_hasRoom_24 : decode b_Shelf_hasRoom 24 = .ok (.iconst 0, 1) := by decide +kernel
theorem d_Shelf_hasRoom_25 : decode b_Shelf_hasRoom 25 = .ok (.ireturn, 1) := by decide +kernel
theorem d_Shelf_allBytes_0 : decode b_Shelf_allBytes 0 = .ok (.iconst 0, 1) := by decide +kernel
theorem d_Shelf_allBytes_1 : decode b_Shelf_allBytes 1 = .ok (.istore_n 1, 1) := by decide +kernel
theorem d_Shelf_allBytes_2 : decode b_Shelf_allBytes 2 = .ok (.iconst 0, 1) := by decide +kernel
theorem d_Shelf_allBytes_3 : decode b_Shelf_allBytes 3 = .ok (.istore_n 2, 1) := by decide +kernel
theorem d_Shelf_allBytes_4 : decode b_Shelf_allBytes 4 = .ok (.iload_n 2, 1) := by decide +kernel
theorem d_Shelf_allBytes_5 : decode b_Shelf_allBytes 5 = .ok (.aload_n 0, 1) := by decide +kernel
theorem d_Shelf_allBytes_6 : decode b_Shelf_allBytes 6 = .ok (.getfield 12, 3) := by decide +kernel
theorem d_Shelf_allBytes_9 : decode b_Shelf_allBytes 9 = .ok (.invokevirtual 28, 3) := by decide +kernel
theorem d_Shelf_allBytes_12 : decode b_Shelf_allBytes 12 = .ok (.if_icmp .ge 26, 3) := by decide +kernel
theorem d_Shelf_allBytes_15 : decode b_Shelf_allBytes 15 = .ok (.iload_n 1, 1) := by decide +kernel
theorem d_Shelf_allBytes_16 : decode b_Shelf_allBytes 16 = .ok (.aload_n 0, 1) := by decide +kernel
theorem d_Shelf_allBytes_17 : decode b_Shelf_allBytes 17 = .ok (.getfield 12, 3) := by decide +kernel
theorem d_Shelf_allBytes_20 : decode b_Shelf_allBytes 20 = .ok (.iload_n 2, 1) := by decide +kernel
theorem d_Shelf_allBytes_21 : decode b_Shelf_allBytes 21 = .ok (.invokevirtual 32, 3) := by decide +kernel
theorem d_Shelf_allBytes_24 : decode b_Shelf_allBytes 24 = .ok (.checkcast 36, 3) := by decide +kernel
theorem d_Shelf_allBytes_27 : decode b_Shelf_allBytes 27 = .ok (.invokevirtual 38, 3) := by decide +kernel
theorem d_Shelf_allBytes_30 : decode b_Shelf_allBytes 30 = .ok (.iadd, 1) := by decide +kernel
theorem d_Shelf_allBytes_31 : decode b_Shelf_allBytes 31 = .ok (.istore_n 1, 1) := by decide +kernel
theorem d_Shelf_allBytes_32 : decode b_Shelf_allBytes 32 = .ok (.iinc 2 1, 3) := by decide +kernel
theorem d_Shelf_allBytes_35 : decode b_Shelf_allBytes 35 = .ok (.goto (-31), 3) := by decide +kernel
theorem d_Shelf_allBytes_38 : decode b_Shelf_allBytes 38 = .ok (.iload_n 1, 1) := by decide +kernel
theorem d_Shelf_allBytes_39 : decode b_Shelf_allBytes 39 = .ok (.ireturn, 1) := by decide +kernel
theorem d_File_write_0 : decode b_File_write 0 = .ok (.iload_n 1, 1) := by decide +kernel
theorem d_File_write_1 : decode b_File_write 1 = .ok (.aload_n 2, 1) := by decide +kernel
theorem d_File_write_2 : decode b_File_write 2 = .ok (.invokevirtual 45, 3) := by decide +kernel
theorem d_File_write_5 : decode b_File_write 5 = .ok (.iadd, 1) := by decide +kernel
theorem d_File_write_6 : decode b_File_write 6 = .ok (.istore_n 3, 1) := by decide +kernel
theorem d_File_write_7 : decode b_File_write 7 = .ok (.iconst 0, 1) := by decide +kernel
theorem d_File_write_8 : decode b_File_write 8 = .ok (.istore 4, 2) := by decide +kernel
theorem d_File_write_10 : decode b_File_write 10 = .ok (.iload 4, 2) := by decide +kernel
theorem d_File_write_12 : decode b_File_write 12 = .ok (.bipush 19, 2) := by decide +kernel
theorem d_File_write_14 : decode b_File_write 14 = .ok (.if_icmp .ge 71, 3) := by decide +kernel
theorem d_File_write_17 : decode b_File_write 17 = .ok (.iload 4, 2) := by decide +kernel
theorem d_File_write_19 : decode b_File_write 19 = .ok (.sipush 448, 3) := by decide +kernel
theorem d_File_write_22 : decode b_File_write 22 = .ok (.imul, 1) := by decide +kernel
theorem d_File_write_23 : decode b_File_write 23 = .ok (.istore 5, 2) := by decide +kernel
theorem d_File_write_25 : decode b_File_write 25 = .ok (.iload_n 1, 1) := by decide +kernel
theorem d_File_write_26 : decode b_File_write 26 = .ok (.iload 5, 2) := by decide +kernel
theorem d_File_write_28 : decode b_File_write 28 = .ok (.invokestatic 48, 3) := by decide +kernel
theorem d_File_write_31 : decode b_File_write 31 = .ok (.istore 6, 2) := by decide +kernel
theorem d_File_write_33 : decode b_File_write 33 = .ok (.iload_n 3, 1) := by decide +kernel
theorem d_File_write_34 : decode b_File_write 34 = .ok (.iload 5, 2) := by decide +kernel
theorem d_File_write_36 : decode b_File_write 36 = .ok (.sipush 448, 3) := by decide +kernel
theorem d_File_write_39 : decode b_File_write 39 = .ok (.iadd, 1) := by decide +kernel
theorem d_File_write_40 : decode b_File_write 40 = .ok (.invokestatic 54, 3) := by decide +kernel
theorem d_File_write_43 : decode b_File_write 43 = .ok (.istore 7, 2) := by decide +kernel
theorem d_File_write_45 : decode b_File_write 45 = .ok (.iload 6, 2) := by decide +kernel
theorem d_File_write_47 : decode b_File_write 47 = .ok (.iload 7, 2) := by decide +kernel
theorem d_File_write_49 : decode b_File_write 49 = .ok (.if_icmp .ge 30, 3) := by decide +kernel
theorem d_File_write_52 : decode b_File_write 52 = .ok (.aload_n 2, 1) := by decide +kernel
theorem d_File_write_53 : decode b_File_write 53 = .ok (.aload_n 0, 1) := by decide +kernel
theorem d_File_write_54 : decode b_File_write 54 = .ok (.iload 4, 2) := by decide +kernel
theorem d_File_write_56 : decode b_File_write 56 = .ok (.invokevirtual 57, 3) := by decide +kernel
theorem d_File_write_59 : decode b_File_write 59 = .ok (.getfield 41, 3) := by decide +kernel
theorem d_File_write_62 : decode b_File_write 62 = .ok (.iload 6, 2) := by decide +kernel
theorem d_File_write_64 : decode b_File_write 64 = .ok (.iload 5, 2) := by decide +kernel
theorem d_File_write_66 : decode b_File_write 66 = .ok (.isub, 1) := by decide +kernel
theorem d_File_write_67 : decode b_File_write 67 = .ok (.iload 6, 2) := by decide +kernel
theorem d_File_write_69 : decode b_File_write 69 = .ok (.iload_n 1, 1) := by decide +kernel
theorem d_File_write_70 : decode b_File_write 70 = .ok (.isub, 1) := by decide +kernel
theorem d_File_write_71 : decode b_File_write 71 = .ok (.iload 7, 2) := by decide +kernel
theorem d_File_write_73 : decode b_File_write 73 = .ok (.iload 6, 2) := by decide +kernel
theorem d_File_write_75 : decode b_File_write 75 = .ok (.isub, 1) := by decide +kernel
theorem d_File_write_76 : decode b_File_write 76 = .ok (.invokevirtual 61, 3) := by decide +kernel
theorem d_File_write_79 : decode b_File_write 79 = .ok (.iinc 4 1, 3) := by decide +kernel
theorem d_File_write_82 : decode b_File_write 82 = .ok (.goto (-72), 3) := by decide +kernel
theorem d_File_write_85 : decode b_File_write 85 = .ok (.aload_n 2, 1) := by decide +kernel
theorem d_File_write_86 : decode b_File_write 86 = .ok (.invokevirtual 65, 3) := by decide +kernel
theorem d_File_write_89 : decode b_File_write 89 = .ok (.ifCond .ne 15, 3) := by decide +kernel
theorem d_File_write_92 : decode b_File_write 92 = .ok (.aload_n 0, 1) := by decide +kernel
theorem d_File_write_93 : decode b_File_write 93 = .ok (.aload_n 0, 1) := by decide +kernel
theorem d_File_write_94 : decode b_File_write 94 = .ok (.getfield 34, 3) := by decide +kernel
theorem d_File_write_97 : decode b_File_write 97 = .ok (.iload_n 3, 1) := by decide +kernel
theorem d_File_write_98 : decode b_File_write 98 = .ok (.invokestatic 48, 3) := by decide +kernel
theorem d_File_write_101 : decode b_File_write 101 = .ok (.putfield 34, 3) := by decide +kernel
theorem d_File_write_104 : decode b_File_write 104 = .ok (.return_, 1) := by decide +kernel
theorem d_File_lay_0 : decode b_File_lay 0 = .ok (.aload_n 0, 1) := by decide +kernel
theorem d_File_lay_1 : decode b_File_lay 1 = .ok (.getfield 26, 3) := by decide +kernel
theorem d_File_lay_4 : decode b_File_lay 4 = .ok (.iload_n 1, 1) := by decide +kernel
theorem d_File_lay_5 : decode b_File_lay 5 = .ok (.aaload, 1) := by decide +kernel
theorem d_File_lay_6 : decode b_File_lay 6 = .ok (.ifnonnull 16, 3) := by decide +kernel
theorem d_File_lay_9 : decode b_File_lay 9 = .ok (.aload_n 0, 1) := by decide +kernel
theorem d_File_lay_10 : decode b_File_lay 10 = .ok (.getfield 26, 3) := by decide +kernel
theorem d_File_lay_13 : decode b_File_lay 13 = .ok (.iload_n 1, 1) := by decide +kernel
theorem d_File_lay_14 : decode b_File_lay 14 = .ok (.aload_n 0, 1) := by decide +kernel
theorem d_File_lay_15 : decode b_File_lay 15 = .ok (.getfield 9, 3) := by decide +kernel
theorem d_File_lay_18 : decode b_File_lay 18 = .ok (.invokevirtual 69, 3) := by decide +kernel
theorem d_File_lay_21 : decode b_File_lay 21 = .ok (.aastore, 1) := by decide +kernel
theorem d_File_lay_22 : decode b_File_lay 22 = .ok (.aload_n 0, 1) := by decide +kernel
theorem d_File_lay_23 : decode b_File_lay 23 = .ok (.getfield 26, 3) := by decide +kernel
theorem d_File_lay_26 : decode b_File_lay 26 = .ok (.iload_n 1, 1) := by decide +kernel
theorem d_File_lay_27 : decode b_File_lay 27 = .ok (.aaload, 1) := by decide +kernel
theorem d_File_lay_28 : decode b_File_lay 28 = .ok (.areturn, 1) := by decide +kernel
theorem d_Pool_takeBlank_0 : decode b_Pool_takeBlank 0 = .ok (.aload_n 0, 1) := by decide +kernel
theorem d_Pool_takeBlank_1 : decode b_Pool_takeBlank 1 = .ok (.getfield 12, 3) := by decide +kernel
theorem d_Pool_takeBlank_4 : decode b_Pool_takeBlank 4 = .ok (.invokevirtual 18, 3) := by decide +kernel
theorem d_Pool_takeBlank_7 : decode b_Pool_takeBlank 7 = .ok (.ifCond .eq 11, 3) := by decide +kernel
theorem d_Pool_takeBlank_10 : decode b_Pool_takeBlank 10 = .ok (.new 22, 3) := by decide +kernel
theorem d_Pool_takeBlank_13 : decode b_Pool_takeBlank 13 = .ok (.dup, 1) := by decide +kernel
theorem d_Pool_takeBlank_14 : decode b_Pool_takeBlank 14 = .ok (.invokespecial 24, 3) := by decide +kernel
theorem d_Pool_takeBlank_17 : decode b_Pool_takeBlank 17 = .ok (.areturn, 1) := by decide +kernel
theorem d_Pool_takeBlank_18 : decode b_Pool_takeBlank 18 = .ok (.aload_n 0, 1) := by decide +kernel
theorem d_Pool_takeBlank_19 : decode b_Pool_takeBlank 19 = .ok (.getfield 12, 3) := by decide +kernel
theorem d_Pool_takeBlank_22 : decode b_Pool_takeBlank 22 = .ok (.aload_n 0, 1) := by decide +kernel
theorem d_Pool_takeBlank_23 : decode b_Pool_takeBlank 23 = .ok (.getfield 12, 3) := by decide +kernel
theorem d_Pool_takeBlank_26 : decode b_Pool_takeBlank 26 = .ok (.invokevirtual 25, 3) := by decide +kernel
theorem d_Pool_takeBlank_29 : decode b_Pool_takeBlank 29 = .ok (.iconst 1, 1) := by decide +kernel
theorem d_Pool_takeBlank_30 : decode b_Pool_takeBlank 30 = .ok (.isub, 1) := by decide +kernel
theorem d_Pool_takeBlank_31 : decode b_Pool_takeBlank 31 = .ok (.invokevirtual 29, 3) := by decide +kernel
theorem d_Pool_takeBlank_34 : decode b_Pool_takeBlank 34 = .ok (.checkcast 22, 3) := by decide +kernel
theorem d_Pool_takeBlank_37 : decode b_Pool_takeBlank 37 = .ok (.areturn, 1) := by decide +kernel
theorem d_Piece_init_0 : decode b_Piece_init 0 = .ok (.aload_n 0, 1) := by decide +kernel
theorem d_Piece_init_1 : decode b_Piece_init 1 = .ok (.invokespecial 3, 3) := by decide +kernel
theorem d_Piece_init_4 : decode b_Piece_init 4 = .ok (.aload_n 0, 1) := by decide +kernel
theorem d_Piece_init_5 : decode b_Piece_init 5 = .ok (.sipush 448, 3) := by decide +kernel
theorem d_Piece_init_8 : decode b_Piece_init 8 = .ok (.newarray .byte, 2) := by decide +kernel
theorem d_Piece_init_10 : decode b_Piece_init 10 = .ok (.putfield 9, 3) := by decide +kernel
theorem d_Piece_init_13 : decode b_Piece_init 13 = .ok (.return_, 1) := by decide +kernel
end
section
theorem d_Row_copyTo_0 : decode b_Row_copyTo 0 = .ok (.aload_n 0, 1) := by decide +kernel
theorem d_Row_copyTo_1 : decode b_Row_copyTo 1 = .ok (.getfield 9, 3) := by decide +kernel
theorem d_Row_copyTo_4 : decode b_Row_copyTo 4 = .ok (.iload_n 3, 1) := by decide +kernel
theorem d_Row_copyTo_5 : decode b_Row_copyTo 5 = .ok (.aload_n 1, 1) := by decide +kernel
theorem d_Row_copyTo_6 : decode b_Row_copyTo 6 = .ok (.iload_n 2, 1) := by decide +kernel
theorem d_Row_copyTo_7 : decode b_Row_copyTo 7 = .ok (.iload 4, 2) := by decide +kernel
theorem d_Row_copyTo_9 : decode b_Row_copyTo 9 = .ok (.invokestatic 19, 3) := by decide +kernel
theorem d_Row_copyTo_12 : decode b_Row_copyTo 12 = .ok (.return_, 1) := by decide +kernel
theorem d_SF_renameFile_0 : decode b_SF_renameFile 0 = .ok (.aload_n 0, 1) := by decide +kernel
theorem d_SF_renameFile_1 : decode b_SF_renameFile 1 = .ok (.getfield 30, 3) := by decide +kernel
theorem d_SF_renameFile_4 : decode b_SF_renameFile 4 = .ok (.aload_n 0, 1) := by decide +kernel
theorem d_SF_renameFile_5 : decode b_SF_renameFile 5 = .ok (.getfield 18, 3) := by decide +kernel
theorem d_SF_renameFile_8 : decode b_SF_renameFile 8 = .ok (.invokevirtual 115, 3) := by decide +kernel
theorem d_SF_renameFile_11 : decode b_SF_renameFile 11 = .ok (.ifnonnull 6, 3) := by decide +kernel
theorem d_SF_renameFile_14 : decode b_SF_renameFile 14 = .ok (.bipush (-2), 2) := by decide +kernel
theorem d_SF_renameFile_16 : decode b_SF_renameFile 16 = .ok (.ireturn, 1) := by decide +kernel
theorem d_SF_renameFile_17 : decode b_SF_renameFile 17 = .ok (.aload_n 0, 1) := by decide +kernel
theorem d_SF_renameFile_18 : decode b_SF_renameFile 18 = .ok (.getfield 18, 3) := by decide +kernel
theorem d_SF_renameFile_21 : decode b_SF_renameFile 21 = .ok (.aload_n 0, 1) := by decide +kernel
theorem d_SF_renameFile_22 : decode b_SF_renameFile 22 = .ok (.getfield 21, 3) := by decide +kernel
theorem d_SF_renameFile_25 : decode b_SF_renameFile 25 = .ok (.invokevirtual 153, 3) := by decide +kernel
theorem d_SF_renameFile_28 : decode b_SF_renameFile 28 = .ok (.ifCond .ne 5, 3) := by decide +kernel
theorem d_SF_renameFile_31 : decode b_SF_renameFile 31 = .ok (.iconst 0, 1) := by decide +kernel
theorem d_SF_renameFile_32 : decode b_SF_renameFile 32 = .ok (.ireturn, 1) := by decide +kernel
theorem d_SF_renameFile_33 : decode b_SF_renameFile 33 = .ok (.aload_n 0, 1) := by decide +kernel
theorem d_SF_renameFile_34 : decode b_SF_renameFile 34 = .ok (.getfield 30, 3) := by decide +kernel
theorem d_SF_renameFile_37 : decode b_SF_renameFile 37 = .ok (.aload_n 0, 1) := by decide +kernel
theorem d_SF_renameFile_38 : decode b_SF_renameFile 38 = .ok (.getfield 21, 3) := by decide +kernel
theorem d_SF_renameFile_41 : decode b_SF_renameFile 41 = .ok (.invokevirtual 146, 3) := by decide +kernel
theorem d_SF_renameFile_44 : decode b_SF_renameFile 44 = .ok (.istore_n 1, 1) := by decide +kernel
theorem d_SF_renameFile_45 : decode b_SF_renameFile 45 = .ok (.aload_n 0, 1) := by decide +kernel
theorem d_SF_renameFile_46 : decode b_SF_renameFile 46 = .ok (.getfield 30, 3) := by decide +kernel
theorem d_SF_renameFile_49 : decode b_SF_renameFile 49 = .ok (.aload_n 0, 1) := by decide +kernel
theorem d_SF_renameFile_50 : decode b_SF_renameFile 50 = .ok (.getfield 18, 3) := by decide +kernel
theorem d_SF_renameFile_53 : decode b_SF_renameFile 53 = .ok (.aload_n 0, 1) := by decide +kernel
theorem d_SF_renameFile_54 : decode b_SF_renameFile 54 = .ok (.getfield 21, 3) := by decide +kernel
theorem d_SF_renameFile_57 : decode b_SF_renameFile 57 = .ok (.invokevirtual 157, 3) := by decide +kernel
theorem d_SF_renameFile_60 : decode b_SF_renameFile 60 = .ok (.iload_n 1, 1) := by decide +kernel
theorem d_SF_renameFile_61 : decode b_SF_renameFile 61 = .ok (.ifCond .eq 7, 3) := by decide +kernel
theorem d_SF_renameFile_64 : decode b_SF_renameFile 64 = .ok (.iconst 1, 1) := by decide +kernel
theorem d_SF_renameFile_65 : decode b_SF_renameFile 65 = .ok (.goto 4, 3) := by decide +kernel
theorem d_SF_renameFile_68 : decode b_SF_renameFile 68 = .ok (.iconst 0, 1) := by decide +kernel
theorem d_SF_renameFile_69 : decode b_SF_renameFile 69 = .ok (.ireturn, 1) := by decide +kernel
theorem d_Shelf_remove_0 : decode b_Shelf_remove 0 = .ok (.aload_n 0, 1) := by decide +kernel
theorem d_Shelf_remove_1 : decode b_Shelf_remove 1 = .ok (.aload_n 1, 1) := by decide +kernel
theorem d_Shelf_remove_2 : decode b_Shelf_remove 2 = .ok (.invokevirtual 48, 3) := by decide +kernel
theorem d_Shelf_remove_5 : decode b_Shelf_remove 5 = .ok (.istore_n 2, 1) := by decide +kernel
theorem d_Shelf_remove_6 : decode b_Shelf_remove 6 = .ok (.iload_n 2, 1) := by decide +kernel
theorem d_Shelf_remove_7 : decode b_Shelf_remove 7 = .ok (.ifCond .ge 5, 3) := by decide +kernel
theorem d_Shelf_remove_10 : decode b_Shelf_remove 10 = .ok (.iconst 0, 1) := by decide +kernel
theorem d_Shelf_remove_11 : decode b_Shelf_remove 11 = .ok (.ireturn, 1) := by decide +kernel
theorem d_Shelf_remove_12 : decode b_Shelf_remove 12 = .ok (.aload_n 0, 1) := by decide +kernel
theorem d_Shelf_remove_13 : decode b_Shelf_remove 13 = .ok (.getfield 12, 3) := by decide +kernel
theorem d_Shelf_remove_16 : decode b_Shelf_remove 16 = .ok (.iload_n 2, 1) := by decide +kernel
theorem d_Shelf_remove_17 : decode b_Shelf_remove 17 = .ok (.invokevirtual 70, 3) := by decide +kernel
theorem d_Shelf_remove_20 : decode b_Shelf_remove 20 = .ok (.checkcast 36, 3) := by decide +kernel
theorem d_Shelf_remove_23 : decode b_Shelf_remove 23 = .ok (.astore_n 3, 1) := by decide +kernel
theorem d_Shelf_remove_24 : decode b_Shelf_remove 24 = .ok (.aload_n 3, 1) := by decide +kernel
theorem d_Shelf_remove_25 : decode b_Shelf_remove 25 = .ok (.iconst 0, 1) := by decide +kernel
theorem d_Shelf_remove_26 : decode b_Shelf_remove 26 = .ok (.invokevirtual 81, 3) := by decide +kernel
theorem d_Shelf_remove_29 : decode b_Shelf_remove 29 = .ok (.aload_n 0, 1) := by decide +kernel
theorem d_Shelf_remove_30 : decode b_Shelf_remove 30 = .ok (.getfield 18, 3) := by decide +kernel
theorem d_Shelf_remove_33 : decode b_Shelf_remove 33 = .ok (.aload_n 3, 1) := by decide +kernel
theorem d_Shelf_remove_34 : decode b_Shelf_remove 34 = .ok (.invokevirtual 85, 3) := by decide +kernel
theorem d_Shelf_remove_37 : decode b_Shelf_remove 37 = .ok (.pop, 1) := by decide +kernel
theorem d_Shelf_remove_38 : decode b_Shelf_remove 38 = .ok (.iconst 1, 1) := by decide +kernel
theorem d_Shelf_remove_39 : decode b_Shelf_remove 39 = .ok (.ireturn, 1) := by decide +kernel
theorem d_File_cut_0 : decode b_File_cut 0 = .ok (.iconst 0, 1) := by decide +kernel
theorem d_File_cut_1 : decode b_File_cut 1 = .ok (.istore_n 2, 1) := by decide +kernel
theorem d_File_cut_2 : decode b_File_cut 2 = .ok (.iload_n 2, 1) := by decide +kernel
theorem d_File_cut_3 : decode b_File_cut 3 = .ok (.bipush 19, 2) := by decide +kernel
theorem d_File_cut_5 : decode b_File_cut 5 = .ok (.if_icmp .ge 21, 3) := by decide +kernel
theorem d_File_cut_8 : decode b_File_cut 8 = .ok (.aload_n 0, 1) := by decide +kernel
theorem d_File_cut_9 : decode b_File_cut 9 = .ok (.iload_n 2, 1) := by decide +kernel
theorem d_File_cut_10 : decode b_File_cut 10 = .ok (.iload_n 1, 1) := by decide +kernel
theorem d_File_cut_11 : decode b_File_cut 11 = .ok (.iload_n 2, 1) := by decide +kernel
theorem d_File_cut_12 : decode b_File_cut 12 = .ok (.sipush 448, 3) := by decide +kernel
theorem d_File_cut_15 : decode b_File_cut 15 = .ok (.imul, 1) := by decide +kernel
theorem d_File_cut_16 : decode b_File_cut 16 = .ok (.isub, 1) := by decide +kernel
theorem d_File_cut_17 : decode b_File_cut 17 = .ok (.invokevirtual 86, 3) := by decide +kernel
theorem d_File_cut_20 : decode b_File_cut 20 = .ok (.iinc 2 1, 3) := by decide +kernel
theorem d_File_cut_23 : decode b_File_cut 23 = .ok (.goto (-21), 3) := by decide +kernel
theorem d_File_cut_26 : decode b_File_cut 26 = .ok (.aload_n 0, 1) := by decide +kernel
theorem d_File_cut_27 : decode b_File_cut 27 = .ok (.iload_n 1, 1) := by decide +kernel
theorem d_File_cut_28 : decode b_File_cut 28 = .ok (.putfield 34, 3) := by decide +kernel
theorem d_File_cut_31 : decode b_File_cut 31 = .ok (.return_, 1) := by decide +kernel
theorem d_File_cutStripe_0 : decode b_File_cutStripe 0 = .ok (.aload_n 0, 1) := by decide +kernel
theorem d_File_cutStripe_1 : decode b_File_cutStripe 1 = .ok (.getfield 26, 3) := by decide +kernel
theorem d_File_cutStripe_4 : decode b_File_cutStripe 4 = .ok (.iload_n 1, 1) := by decide +kernel
theorem d_File_cutStripe_5 : decode b_File_cutStripe 5 = .ok (.aaload, 1) := by decide +kernel
theorem d_File_cutStripe_6 : decode b_File_cutStripe 6 = .ok (.astore_n 3, 1) := by decide +kernel
theorem d_File_cutStripe_7 : decode b_File_cutStripe 7 = .ok (.aload_n 3, 1) := by decide +kernel
theorem d_File_cutStripe_8 : decode b_File_cutStripe 8 = .ok (.ifnull 10, 3) := by decide +kernel
theorem d_File_cutStripe_11 : decode b_File_cutStripe 11 = .ok (.iload_n 2, 1) := by decide +kernel
theorem d_File_cutStripe_12 : decode b_File_cutStripe 12 = .ok (.sipush 448, 3) := by decide +kernel
theorem d_File_cutStripe_15 : decode b_File_cutStripe 15 = .ok (.if_icmp .lt 4, 3) := by decide +kernel
theorem d_File_cutStripe_18 : decode b_File_cutStripe 18 = .ok (.return_, 1) := by decide +kernel
theorem d_File_cutStripe_19 : decode b_File_cutStripe 19 = .ok (.iload_n 2, 1) := by decide +kernel
theorem d_File_cutStripe_20 : decode b_File_cutStripe 20 = .ok (.ifCond .le 18, 3) := by decide +kernel
theorem d_File_cutStripe_23 : decode b_File_cutStripe 23 = .ok (.aload_n 3, 1) := by decide +kernel
theorem d_File_cutStripe_24 : decode b_File_cutStripe 24 = .ok (.getfield 41, 3) := by decide +kernel
theorem d_File_cutStripe_27 : decode b_File_cutStripe 27 = .ok (.iload_n 2, 1) := by decide +kernel
theorem d_File_cutStripe_28 : decode b_File_cutStripe 28 = .ok (.sipush 448, 3) := by decide +kernel
theorem d_File_cutStripe_31 : decode b_File_cutStripe 31 = .ok (.iconst 0, 1) := by decide +kernel
theorem d_File_cutStripe_32 : decode b_File_cutStripe 32 = .ok (.invokestatic 90, 3) := by decide +kernel
theorem d_File_cutStripe_35 : decode b_File_cutStripe 35 = .ok (.goto 18, 3) := by decide +kernel
theorem d_File_cutStripe_38 : decode b_File_cutStripe 38 = .ok (.aload_n 0, 1) := by decide +kernel
theorem d_File_cutStripe_39 : decode b_File_cutStripe 39 = .ok (.getfield 26, 3) := by decide +kernel
theorem d_File_cutStripe_42 : decode b_File_cutStripe 42 = .ok (.iload_n 1, 1) := by decide +kernel
theorem d_File_cutStripe_43 : decode b_File_cutStripe 43 = .ok (.aconst_null, 1) := by decide +kernel
theorem d_File_cutStripe_44 : decode b_File_cutStripe 44 = .ok (.aastore, 1) := by decide +kernel
theorem d_File_cutStripe_45 : decode b_File_cutStripe 45 = .ok (.aload_n 0, 1) := by decide +kernel
theorem d_File_cutStripe_46 : decode b_File_cutStripe 46 = .ok (.getfield 9, 3) := by decide +kernel
theorem d_File_cutStripe_49 : decode b_File_cutStripe 49 = .ok (.aload_n 3, 1) := by decide +kernel
theorem d_File_cutStripe_50 : decode b_File_cutStripe 50 = .ok (.invokevirtual 96, 3) := by decide +kernel
theorem d_File_cutStripe_53 : decode b_File_cutStripe 53 = .ok (.return_, 1) := by decide +kernel
theorem d_Arrs_fill_0 : decode b_Arrs_fill 0 = .ok (.aload_n 0, 1) := by decide +kernel
theorem d_Arrs_fill_1 : decode b_Arrs_fill 1 = .ok (.arraylength, 1) := by decide +kernel
theorem d_Arrs_fill_2 : decode b_Arrs_fill 2 = .ok (.iload_n 1, 1) := by decide +kernel
theorem d_Arrs_fill_3 : decode b_Arrs_fill 3 = .ok (.iload_n 2, 1) := by decide +kernel
theorem d_Arrs_fill_4 : decode b_Arrs_fill 4 = .ok (.invokestatic 13, 3) := by decide +kernel
theorem d_Arrs_fill_7 : decode b_Arrs_fill 7 = .ok (.iload_n 1, 1) := by decide +kernel
theorem d_Arrs_fill_8 : decode b_Arrs_fill 8 = .ok (.istore 4, 2) := by decide +kernel
theorem d_Arrs_fill_10 : decode b_Arrs_fill 10 = .ok (.iload 4, 2) := by decide +kernel
theorem d_Arrs_fill_12 : decode b_Arrs_fill 12 = .ok (.iload_n 2, 1) := by decide +kernel
theorem d_Arrs_fill_13 : decode b_Arrs_fill 13 = .ok (.if_icmp .ge 14, 3) := by decide +kernel
theorem d_Arrs_fill_16 : decode b_Arrs_fill 16 = .ok (.aload_n 0, 1) := by decide +kernel
theorem d_Arrs_fill_17 : decode b_Arrs_fill 17 = .ok (.iload 4, 2) := by decide +kernel
theorem d_Arrs_fill_19 : decode b_Arrs_fill 19 = .ok (.iload_n 3, 1) := by decide +kernel
theorem d_Arrs_fill_20 : decode b_Arrs_fill 20 = .ok (.bastore, 1) := by decide +kernel
theorem d_Arrs_fill_21 : decode b_Arrs_fill 21 = .ok (.iinc 4 1, 3) := by decide +kernel
theorem d_Arrs_fill_24 : decode b_Arrs_fill 24 = .ok (.goto (-14), 3) := by decide +kernel
theorem d_Arrs_fill_27 : decode b_Arrs_fill 27 = .ok (.return_, 1) := by decide +kernel
theorem d_Arrs_rangeCheck_0 : decode b_Arrs_rangeCheck 0 = .ok (.iload_n 1, 1) := by decide +kernel
theorem d_Arrs_rangeCheck_1 : decode b_Arrs_rangeCheck 1 = .ok (.iload_n 2, 1) := by decide +kernel
theorem d_Arrs_rangeCheck_2 : decode b_Arrs_rangeCheck 2 = .ok (.if_icmp .le 44, 3) := by decide +kernel
theorem d_Arrs_rangeCheck_5 : decode b_Arrs_rangeCheck 5 = .ok (.new 43, 3) := by decide +kernel
theorem d_Arrs_rangeCheck_8 : decode b_Arrs_rangeCheck 8 = .ok (.dup, 1) := by decide +kernel
theorem d_Arrs_rangeCheck_9 : decode b_Arrs_rangeCheck 9 = .ok (.new 45, 3) := by decide +kernel
theorem d_Arrs_rangeCheck_12 : decode b_Arrs_rangeCheck 12 = .ok (.dup, 1) := by decide +kernel
theorem d_Arrs_rangeCheck_13 : decode b_Arrs_rangeCheck 13 = .ok (.invokespecial 47, 3) := by decide +kernel
theorem d_Arrs_rangeCheck_16 : decode b_Arrs_rangeCheck 16 = .ok (.ldc 48, 2) := by decide +kernel
theorem d_Arrs_rangeCheck_18 : decode b_Arrs_rangeCheck 18 = .ok (.invokevirtual 50, 3) := by decide +kernel
theorem d_Arrs_rangeCheck_21 : decode b_Arrs_rangeCheck 21 = .ok (.iload_n 1, 1) := by decide +kernel
theorem d_Arrs_rangeCheck_22 : decode b_Arrs_rangeCheck 22 = .ok (.invokevirtual 54, 3) := by decide +kernel
theorem d_Arrs_rangeCheck_25 : decode b_Arrs_rangeCheck 25 = .ok (.ldc 57, 2) := by decide +kernel
theorem d_Arrs_rangeCheck_27 : decode b_Arrs_rangeCheck 27 = .ok (.invokevirtual 50, 3) := by decide +kernel
theorem d_Arrs_rangeCheck_30 : decode b_Arrs_rangeCheck 30 = .ok (.iload_n 2, 1) := by decide +kernel
theorem d_Arrs_rangeCheck_31 : decode b_Arrs_rangeCheck 31 = .ok (.invokevirtual 54, 3) := by decide +kernel
theorem d_Arrs_rangeCheck_34 : decode b_Arrs_rangeCheck 34 = .ok (.ldc 59, 2) := by decide +kernel
theorem d_Arrs_rangeCheck_36 : decode b_Arrs_rangeCheck 36 = .ok (.invokevirtual 50, 3) := by decide +kernel
theorem d_Arrs_rangeCheck_39 : decode b_Arrs_rangeCheck 39 = .ok (.invokevirtual 61, 3) := by decide +kernel
theorem d_Arrs_rangeCheck_42 : decode b_Arrs_rangeCheck 42 = .ok (.invokespecial 65, 3) := by decide +kernel
theorem d_Arrs_rangeCheck_45 : decode b_Arrs_rangeCheck 45 = .ok (.athrow, 1) := by decide +kernel
theorem d_Arrs_rangeCheck_46 : decode b_Arrs_rangeCheck 46 = .ok (.iload_n 1, 1) := by decide +kernel
theorem d_Arrs_rangeCheck_47 : decode b_Arrs_rangeCheck 47 = .ok (.ifCond .ge 12, 3) := by decide +kernel
theorem d_Arrs_rangeCheck_50 : decode b_Arrs_rangeCheck 50 = .ok (.new 68, 3) := by decide +kernel
theorem d_Arrs_rangeCheck_53 : decode b_Arrs_rangeCheck 53 = .ok (.dup, 1) := by decide +kernel
theorem d_Arrs_rangeCheck_54 : decode b_Arrs_rangeCheck 54 = .ok (.iload_n 1, 1) := by decide +kernel
theorem d_Arrs_rangeCheck_55 : decode b_Arrs_rangeCheck 55 = .ok (.invokespecial 70, 3) := by decide +kernel
theorem d_Arrs_rangeCheck_58 : decode b_Arrs_rangeCheck 58 = .ok (.athrow, 1) := by decide +kernel
theorem d_Arrs_rangeCheck_59 : decode b_Arrs_rangeCheck 59 = .ok (.iload_n 2, 1) := by decide +kernel
theorem d_Arrs_rangeCheck_60 : decode b_Arrs_rangeCheck 60 = .ok (.iload_n 0, 1) := by decide +kernel
theorem d_Arrs_rangeCheck_61 : decode b_Arrs_rangeCheck 61 = .ok (.if_icmp .le 12, 3) := by decide +kernel
theorem d_Arrs_rangeCheck_64 : decode b_Arrs_rangeCheck 64 = .ok (.new 68, 3) := by decide +kernel
theorem d_Arrs_rangeCheck_67 : decode b_Arrs_rangeCheck 67 = .ok (.dup, 1) := by decide +kernel
theorem d_Arrs_rangeCheck_68 : decode b_Arrs_rangeCheck 68 = .ok (.iload_n 2, 1) := by decide +kernel
theorem d_Arrs_rangeCheck_69 : decode b_Arrs_rangeCheck 69 = .ok (.invokespecial 70, 3) := by decide +kernel
theorem d_Arrs_rangeCheck_72 : decode b_Arrs_rangeCheck 72 = .ok (.athrow, 1) := by decide +kernel
theorem d_Arrs_rangeCheck_73 : decode b_Arrs_rangeCheck 73 = .ok (.return_, 1) := by decide +kernel
theorem d_Pool_giveBack_0 : decode b_Pool_giveBack 0 = .ok (.aload_n 1, 1) := by decide +kernel
theorem d_Pool_giveBack_1 : decode b_Pool_giveBack 1 = .ok (.getfield 33, 3) := by decide +kernel
theorem d_Pool_giveBack_4 : decode b_Pool_giveBack 4 = .ok (.iconst 0, 1) := by decide +kernel
theorem d_Pool_giveBack_5 : decode b_Pool_giveBack 5 = .ok (.sipush 448, 3) := by decide +kernel
theorem d_Pool_giveBack_8 : decode b_Pool_giveBack 8 = .ok (.iconst 0, 1) := by decide +kernel
theorem d_Pool_giveBack_9 : decode b_Pool_giveBack 9 = .ok (.invokestatic 37, 3) := by decide +kernel
theorem d_Pool_giveBack_12 : decode b_Pool_giveBack 12 = .ok (.aload_n 0, 1) := by decide +kernel
theorem d_Pool_giveBack_13 : decode b_Pool_giveBack 13 = .ok (.getfield 12, 3) := by decide +kernel
theorem d_Pool_giveBack_16 : decode b_Pool_giveBack 16 = .ok (.aload_n 1, 1) := by decide +kernel
theorem d_Pool_giveBack_17 : decode b_Pool_giveBack 17 = .ok (.invokevirtual 43, 3) := by decide +kernel
theorem d_Pool_giveBack_20 : decode b_Pool_giveBack 20 = .ok (.pop, 1) := by decide +kernel
theorem d_Pool_giveBack_21 : decode b_Pool_giveBack 21 = .ok (.return_, 1) := by decide +kernel
theorem d_AL_add2_0 : decode b_AL_add2 0 = .ok (.aload_n 0, 1) := by decide +kernel
theorem d_AL_add2_1 : decode b_AL_add2 1 = .ok (.dup, 1) := by decide +kernel
theorem d_AL_add2_2 : decode b_AL_add2 2 = .ok (.getfield 63, 3) := by decide +kernel
theorem d_AL_add2_5 : decode b_AL_add2 5 = .ok (.iconst 1, 1) := by decide +kernel
theorem d_AL_add2_6 : decode b_AL_add2 6 = .ok (.iadd, 1) := by decide +kernel
theorem d_AL_add2_7 : decode b_AL_add2 7 = .ok (.putfield 63, 3) := by decide +kernel
theorem d_AL_add2_10 : decode b_AL_add2 10 = .ok (.aload_n 0, 1) := by decide +kernel
theorem d_AL_add2_11 : decode b_AL_add2 11 = .ok (.aload_n 1, 1) := by decide +kernel
theorem d_AL_add2_12 : decode b_AL_add2 12 = .ok (.aload_n 0, 1) := by decide +kernel
theorem d_AL_add2_13 : decode b_AL_add2 13 = .ok (.getfield 9, 3) := by decide +kernel
theorem d_AL_add2_16 : decode b_AL_add2 16 = .ok (.aload_n 0, 1) := by decide +kernel
theorem d_AL_add2_17 : decode b_AL_add2 17 = .ok (.getfield 48, 3) := by decide +kernel
theorem d_AL_add2_20 : decode b_AL_add2 20 = .ok (.invokevirtual 131, 3) := by decide +kernel
theorem d_AL_add2_23 : decode b_AL_add2 23 = .ok (.iconst 1, 1) := by decide +kernel
theorem d_AL_add2_24 : decode b_AL_add2 24 = .ok (.ireturn, 1) := by decide +kernel
theorem d_AL_add3_0 : decode b_AL_add3 0 = .ok (.iload_n 3, 1) := by decide +kernel
theorem d_AL_add3_1 : decode b_AL_add3 1 = .ok (.aload_n 2, 1) := by decide +kernel
theorem d_AL_add3_2 : decode b_AL_add3 2 = .ok (.arraylength, 1) := by decide +kernel
theorem d_AL_add3_3 : decode b_AL_add3 3 = .ok (.if_icmp .ne 8, 3) := by decide +kernel
theorem d_AL_add3_6 : decode b_AL_add3 6 = .ok (.aload_n 0, 1) := by decide +kernel
theorem d_AL_add3_7 : decode b_AL_add3 7 = .ok (.invokevirtual 129, 3) := by decide +kernel
theorem d_AL_add3_10 : decode b_AL_add3 10 = .ok (.astore_n 2, 1) := by decide +kernel
theorem d_AL_add3_11 : decode b_AL_add3 11 = .ok (.aload_n 2, 1) := by decide +kernel
theorem d_AL_add3_12 : decode b_AL_add3 12 = .ok (.iload_n 3, 1) := by decide +kernel
theorem d_AL_add3_13 : decode b_AL_add3 13 = .ok (.aload_n 1, 1) := by decide +kernel
theorem d_AL_add3_14 : decode b_AL_add3 14 = .ok (.aastore, 1) := by decide +kernel
theorem d_AL_add3_15 : decode b_AL_add3 15 = .ok (.aload_n 0, 1) := by decide +kernel
theorem d_AL_add3_16 : decode b_AL_add3 16 = .ok (.iload_n 3, 1) := by decide +kernel
theorem d_AL_add3_17 : decode b_AL_add3 17 = .ok (.iconst 1, 1) := by decide +kernel
theorem d_AL_add3_18 : decode b_AL_add3 18 = .ok (.iadd, 1) := by decide +kernel
theorem d_AL_add3_19 : decode b_AL_add3 19 = .ok (.putfield 48, 3) := by decide +kernel
theorem d_AL_add3_22 : decode b_AL_add3 22 = .ok (.return_, 1) := by decide +kernel
theorem d_Shelf_rename_0 : decode b_Shelf_rename 0 = .ok (.aload_n 0, 1) := by decide +kernel
theorem d_Shelf_rename_1 : decode b_Shelf_rename 1 = .ok (.aload_n 1, 1) := by decide +kernel
theorem d_Shelf_rename_2 : decode b_Shelf_rename 2 = .ok (.invokevirtual 48, 3) := by decide +kernel
theorem d_Shelf_rename_5 : decode b_Shelf_rename 5 = .ok (.istore_n 3, 1) := by decide +kernel
theorem d_Shelf_rename_6 : decode b_Shelf_rename 6 = .ok (.iload_n 3, 1) := by decide +kernel
theorem d_Shelf_rename_7 : decode b_Shelf_rename 7 = .ok (.ifCond .ge 4, 3) := by decide +kernel
theorem d_Shelf_rename_10 : decode b_Shelf_rename 10 = .ok (.return_, 1) := by decide +kernel
theorem d_Shelf_rename_11 : decode b_Shelf_rename 11 = .ok (.aload_n 0, 1) := by decide +kernel
theorem d_Shelf_rename_12 : decode b_Shelf_rename 12 = .ok (.getfield 12, 3) := by decide +kernel
theorem d_Shelf_rename_15 : decode b_Shelf_rename 15 = .ok (.iload_n 3, 1) := by decide +kernel
theorem d_Shelf_rename_16 : decode b_Shelf_rename 16 = .ok (.invokevirtual 70, 3) := by decide +kernel
theorem d_Shelf_rename_19 : decode b_Shelf_rename 19 = .ok (.checkcast 36, 3) := by decide +kernel
theorem d_Shelf_rename_22 : decode b_Shelf_rename 22 = .ok (.astore 4, 2) := by decide +kernel
theorem d_Shelf_rename_24 : decode b_Shelf_rename 24 = .ok (.aload 4, 2) := by decide +kernel
theorem d_Shelf_rename_26 : decode b_Shelf_rename 26 = .ok (.invokevirtual 88, 3) := by decide +kernel
theorem d_Shelf_rename_29 : decode b_Shelf_rename 29 = .ok (.aload_n 2, 1) := by decide +kernel
theorem d_Shelf_rename_30 : decode b_Shelf_rename 30 = .ok (.invokevirtual 92, 3) := by decide +kernel
theorem d_Shelf_rename_33 : decode b_Shelf_rename 33 = .ok (.aload_n 0, 1) := by decide +kernel
theorem d_Shelf_rename_34 : decode b_Shelf_rename 34 = .ok (.getfield 12, 3) := by decide +kernel
theorem d_Shelf_rename_37 : decode b_Shelf_rename 37 = .ok (.aload_n 0, 1) := by decide +kernel
theorem d_Shelf_rename_38 : decode b_Shelf_rename 38 = .ok (.aload_n 2, 1) := by decide +kernel
theorem d_Shelf_rename_39 : decode b_Shelf_rename 39 = .ok (.invokevirtual 56, 3) := by decide +kernel
theorem d_Shelf_rename_42 : decode b_Shelf_rename 42 = .ok (.aload 4, 2) := by decide +kernel
theorem d_Shelf_rename_44 : decode b_Shelf_rename 44 = .ok (.invokevirtual 77, 3) := by decide +kernel
theorem d_Shelf_rename_47 : decode b_Shelf_rename 47 = .ok (.return_, 1) := by decide +kernel
theorem d_SF_swapFiles_0 : decode b_SF_swapFiles 0 = .ok (.aload_n 0, 1) := by decide +kernel
theorem d_SF_swapFiles_1 : decode b_SF_swapFiles 1 = .ok (.getfield 30, 3) := by decide +kernel
theorem d_SF_swapFiles_4 : decode b_SF_swapFiles 4 = .ok (.aload_n 0, 1) := by decide +kernel
theorem d_SF_swapFiles_5 : decode b_SF_swapFiles 5 = .ok (.getfield 18, 3) := by decide +kernel
theorem d_SF_swapFiles_8 : decode b_SF_swapFiles 8 = .ok (.aload_n 0, 1) := by decide +kernel
theorem d_SF_swapFiles_9 : decode b_SF_swapFiles 9 = .ok (.getfield 21, 3) := by decide +kernel
theorem d_SF_swapFiles_12 : decode b_SF_swapFiles 12 = .ok (.invokevirtual 161, 3) := by decide +kernel
theorem d_SF_swapFiles_15 : decode b_SF_swapFiles 15 = .ok (.ifCond .eq 7, 3) := by decide +kernel
theorem d_SF_swapFiles_18 : decode b_SF_swapFiles 18 = .ok (.iconst 0, 1) := by decide +kernel
theorem d_SF_swapFiles_19 : decode b_SF_swapFiles 19 = .ok (.goto 5, 3) := by decide +kernel
theorem d_SF_swapFiles_22 : decode b_SF_swapFiles 22 = .ok (.bipush (-2), 2) := by decide +kernel
theorem d_SF_swapFiles_24 : decode b_SF_swapFiles 24 = .ok (.ireturn, 1) := by decide +kernel
theorem d_Shelf_swap_0 : decode b_Shelf_swap 0 = .ok (.aload_n 0, 1) := by decide +kernel
theorem d_Shelf_swap_1 : decode b_Shelf_swap 1 = .ok (.aload_n 1, 1) := by decide +kernel
theorem d_Shelf_swap_2 : decode b_Shelf_swap 2 = .ok (.invokevirtual 48, 3) := by decide +kernel
theorem d_Shelf_swap_5 : decode b_Shelf_swap 5 = .ok (.istore_n 3, 1) := by decide +kernel
theorem d_Shelf_swap_6 : decode b_Shelf_swap 6 = .ok (.aload_n 0, 1) := by decide +kernel
theorem d_Shelf_swap_7 : decode b_Shelf_swap 7 = .ok (.aload_n 2, 1) := by decide +kernel
theorem d_Shelf_swap_8 : decode b_Shelf_swap 8 = .ok (.invokevirtual 48, 3) := by decide +kernel
theorem d_Shelf_swap_11 : decode b_Shelf_swap 11 = .ok (.istore 4, 2) := by decide +kernel
theorem d_Shelf_swap_13 : decode b_Shelf_swap 13 = .ok (.iload_n 3, 1) := by decide +kernel
theorem d_Shelf_swap_14 : decode b_Shelf_swap 14 = .ok (.ifCond .lt 8, 3) := by decide +kernel
theorem d_Shelf_swap_17 : decode b_Shelf_swap 17 = .ok (.iload 4, 2) := by decide +kernel
theorem d_Shelf_swap_19 : decode b_Shelf_swap 19 = .ok (.ifCond .ge 5, 3) := by decide +kernel
theorem d_Shelf_swap_22 : decode b_Shelf_swap 22 = .ok (.iconst 0, 1) := by decide +kernel
theorem d_Shelf_swap_23 : decode b_Shelf_swap 23 = .ok (.ireturn, 1) := by decide +kernel
theorem d_Shelf_swap_24 : decode b_Shelf_swap 24 = .ok (.aload_n 0, 1) := by decide +kernel
theorem d_Shelf_swap_25 : decode b_Shelf_swap 25 = .ok (.getfield 12, 3) := by decide +kernel
theorem d_Shelf_swap_28 : decode b_Shelf_swap 28 = .ok (.iload_n 3, 1) := by decide +kernel
theorem d_Shelf_swap_29 : decode b_Shelf_swap 29 = .ok (.invokevirtual 32, 3) := by decide +kernel
theorem d_Shelf_swap_32 : decode b_Shelf_swap 32 = .ok (.checkcast 36, 3) := by decide +kernel
theorem d_Shelf_swap_35 : decode b_Shelf_swap 35 = .ok (.astore 5, 2) := by decide +kernel
theorem d_Shelf_swap_37 : decode b_Shelf_swap 37 = .ok (.aload_n 0, 1) := by decide +kernel
theorem d_Shelf_swap_38 : decode b_Shelf_swap 38 = .ok (.getfield 12, 3) := by decide +kernel
theorem d_Shelf_swap_41 : decode b_Shelf_swap 41 = .ok (.iload 4, 2) := by decide +kernel
theorem d_Shelf_swap_43 : decode b_Shelf_swap 43 = .ok (.invokevirtual 32, 3) := by decide +kernel
theorem d_Shelf_swap_46 : decode b_Shelf_swap 46 = .ok (.checkcast 36, 3) := by decide +kernel
theorem d_Shelf_swap_49 : decode b_Shelf_swap 49 = .ok (.astore 6, 2) := by decide +kernel
theorem d_Shelf_swap_51 : decode b_Shelf_swap 51 = .ok (.aload 5, 2) := by decide +kernel
theorem d_Shelf_swap_53 : decode b_Shelf_swap 53 = .ok (.invokevirtual 88, 3) := by decide +kernel
theorem d_Shelf_swap_56 : decode b_Shelf_swap 56 = .ok (.aload_n 2, 1) := by decide +kernel
theorem d_Shelf_swap_57 : decode b_Shelf_swap 57 = .ok (.invokevirtual 92, 3) := by decide +kernel
theorem d_Shelf_swap_60 : decode b_Shelf_swap 60 = .ok (.aload 6, 2) := by decide +kernel
theorem d_Shelf_swap_62 : decode b_Shelf_swap 62 = .ok (.invokevirtual 88, 3) := by decide +kernel
theorem d_Shelf_swap_65 : decode b_Shelf_swap 65 = .ok (.aload_n 1, 1) := by decide +kernel
theorem d_Shelf_swap_66 : decode b_Shelf_swap 66 = .ok (.invokevirtual 92, 3) := by decide +kernel
theorem d_Shelf_swap_69 : decode b_Shelf_swap 69 = .ok (.aload_n 0, 1) := by decide +kernel
theorem d_Shelf_swap_70 : decode b_Shelf_swap 70 = .ok (.getfield 12, 3) := by decide +kernel
theorem d_Shelf_swap_73 : decode b_Shelf_swap 73 = .ok (.iload_n 3, 1) := by decide +kernel
theorem d_Shelf_swap_74 : decode b_Shelf_swap 74 = .ok (.aload 6, 2) := by decide +kernel
theorem d_Shelf_swap_76 : decode b_Shelf_swap 76 = .ok (.invokevirtual 98, 3) := by decide +kernel
theorem d_Shelf_swap_79 : decode b_Shelf_swap 79 = .ok (.pop, 1) := by decide +kernel
theorem d_Shelf_swap_80 : decode b_Shelf_swap 80 = .ok (.aload_n 0, 1) := by decide +kernel
theorem d_Shelf_swap_81 : decode b_Shelf_swap 81 = .ok (.getfield 12, 3) := by decide +kernel
theorem d_Shelf_swap_84 : decode b_Shelf_swap 84 = .ok (.iload 4, 2) := by decide +kernel
theorem d_Shelf_swap_86 : decode b_Shelf_swap 86 = .ok (.aload 5, 2) := by decide +kernel
theorem d_Shelf_swap_88 : decode b_Shelf_swap 88 = .ok (.invokevirtual 98, 3) := by decide +kernel
theorem d_Shelf_swap_91 : decode b_Shelf_swap 91 = .ok (.pop, 1) := by decide +kernel
theorem d_Shelf_swap_92 : decode b_Shelf_swap 92 = .ok (.iconst 1, 1) := by decide +kernel
theorem d_Shelf_swap_93 : decode b_Shelf_swap 93 = .ok (.ireturn, 1) := by decide +kernel
theorem d_AL_set_0 : decode b_AL_set 0 = .ok (.iload_n 1, 1) := by decide +kernel
theorem d_AL_set_1 : decode b_AL_set 1 = .ok (.aload_n 0, 1) := by decide +kernel
theorem d_AL_set_2 : decode b_AL_set 2 = .ok (.getfield 48, 3) := by decide +kernel
theorem d_AL_set_5 : decode b_AL_set 5 = .ok (.invokestatic 118, 3) := by decide +kernel
theorem d_AL_set_8 : decode b_AL_set 8 = .ok (.pop, 1) := by decide +kernel
theorem d_AL_set_9 : decode b_AL_set 9 = .ok (.aload_n 0, 1) := by decide +kernel
theorem d_AL_set_10 : decode b_AL_set 10 = .ok (.iload_n 1, 1) := by decide +kernel
theorem d_AL_set_11 : decode b_AL_set 11 = .ok (.invokevirtual 123, 3) := by decide +kernel
theorem d_AL_set_14 : decode b_AL_set 14 = .ok (.astore_n 3, 1) := by decide +kernel
theorem d_AL_set_15 : decode b_AL_set 15 = .ok (.aload_n 0, 1) := by decide +kernel
theorem d_AL_set_16 : decode b_AL_set 16 = .ok (.getfield 9, 3) := by decide +kernel
theorem d_AL_set_19 : decode b_AL_set 19 = .ok (.iload_n 1, 1) := by decide +kernel
theorem d_AL_set_20 : decode b_AL_set 20 = .ok (.aload_n 2, 1) := by decide +kernel
theorem d_AL_set_21 : decode b_AL_set 21 = .ok (.aastore, 1) := by decide +kernel
theorem d_AL_set_22 : decode b_AL_set 22 = .ok (.aload_n 3, 1) := by decide +kernel
theorem d_AL_set_23 : decode b_AL_set 23 = .ok (.areturn, 1) := by decide +kernel
theorem d_SF_tellNextName_0 : decode b_SF_tellNextName 0 = .ok (.aload_n 0, 1) := by decide +kernel
theorem d_SF_tellNextName_1 : decode b_SF_tellNextName 1 = .ok (.getfield 30, 3) := by decide +kernel
theorem d_SF_tellNextName_4 : decode b_SF_tellNextName 4 = .ok (.aload_n 0, 1) := by decide +kernel
theorem d_SF_tellNextName_5 : decode b_SF_tellNextName 5 = .ok (.getfield 18, 3) := by decide +kernel
theorem d_SF_tellNextName_8 : decode b_SF_tellNextName 8 = .ok (.invokevirtual 165, 3) := by decide +kernel
theorem d_SF_tellNextName_11 : decode b_SF_tellNextName 11 = .ok (.astore_n 1, 1) := by decide +kernel
theorem d_SF_tellNextName_12 : decode b_SF_tellNextName 12 = .ok (.aload_n 1, 1) := by decide +kernel
theorem d_SF_tellNextName_13 : decode b_SF_tellNextName 13 = .ok (.ifnonnull 6, 3) := by decide +kernel
theorem d_SF_tellNextName_16 : decode b_SF_tellNextName 16 = .ok (.bipush (-2), 2) := by decide +kernel
theorem d_SF_tellNextName_18 : decode b_SF_tellNextName 18 = .ok (.ireturn, 1) := by decide +kernel
theorem d_SF_tellNextName_19 : decode b_SF_tellNextName 19 = .ok (.aload_n 0, 1) := by decide +kernel
theorem d_SF_tellNextName_20 : decode b_SF_tellNextName 20 = .ok (.getfield 24, 3) := by decide +kernel
theorem d_SF_tellNextName_23 : decode b_SF_tellNextName 23 = .ok (.aload_n 1, 1) := by decide +kernel
theorem d_SF_tellNextName_24 : decode b_SF_tellNextName 24 = .ok (.invokevirtual 93, 3) := by decide +kernel
theorem d_SF_tellNextName_27 : decode b_SF_tellNextName 27 = .ok (.invokevirtual 52, 3) := by decide +kernel
theorem d_SF_tellNextName_30 : decode b_SF_tellNextName 30 = .ok (.aload_n 0, 1) := by decide +kernel
theorem d_SF_tellNextName_31 : decode b_SF_tellNextName 31 = .ok (.getfield 24, 3) := by decide +kernel
theorem d_SF_tellNextName_34 : decode b_SF_tellNextName 34 = .ok (.invokevirtual 38, 3) := by decide +kernel
theorem d_SF_tellNextName_37 : decode b_SF_tellNextName 37 = .ok (.ireturn, 1) := by decide +kernel
theorem d_Shelf_findAfter_0 : decode b_Shelf_findAfter 0 = .ok (.aload_n 0, 1) := by decide +kernel
theorem d_Shelf_findAfter_1 : decode b_Shelf_findAfter 1 = .ok (.aload_n 1, 1) := by decide +kernel
theorem d_Shelf_findAfter_2 : decode b_Shelf_findAfter 2 = .ok (.invokevirtual 56, 3) := by decide +kernel
theorem d_Shelf_findAfter_5 : decode b_Shelf_findAfter 5 = .ok (.istore_n 2, 1) := by decide +kernel
theorem d_Shelf_findAfter_6 : decode b_Shelf_findAfter 6 = .ok (.aload_n 0, 1) := by decide +kernel
theorem d_Shelf_findAfter_7 : decode b_Shelf_findAfter 7 = .ok (.aload_n 0, 1) := by decide +kernel
theorem d_Shelf_findAfter_8 : decode b_Shelf_findAfter 8 = .ok (.iload_n 2, 1) := by decide +kernel
theorem d_Shelf_findAfter_9 : decode b_Shelf_findAfter 9 = .ok (.aload_n 1, 1) := by decide +kernel
theorem d_Shelf_findAfter_10 : decode b_Shelf_findAfter 10 = .ok (.invokevirtual 59, 3) := by decide +kernel
theorem d_Shelf_findAfter_13 : decode b_Shelf_findAfter 13 = .ok (.ifCond .eq 9, 3) := by decide +kernel
theorem d_Shelf_findAfter_16 : decode b_Shelf_findAfter 16 = .ok (.iload_n 2, 1) := by decide +kernel
theorem d_Shelf_findAfter_17 : decode b_Shelf_findAfter 17 = .ok (.iconst 1, 1) := by decide +kernel
theorem d_Shelf_findAfter_18 : decode b_Shelf_findAfter 18 = .ok (.iadd, 1) := by decide +kernel
theorem d_Shelf_findAfter_19 : decode b_Shelf_findAfter 19 = .ok (.goto 4, 3) := by decide +kernel
theorem d_Shelf_findAfter_22 : decode b_Shelf_findAfter 22 = .ok (.iload_n 2, 1) := by decide +kernel
theorem d_Shelf_findAfter_23 : decode b_Shelf_findAfter 23 = .ok (.invokevirtual 52, 3) := by decide +kernel
theorem d_Shelf_findAfter_26 : decode b_Shelf_findAfter 26 = .ok (.areturn, 1) := by decide +kernel
theorem d_SF_runOnFile_0 : decode b_SF_runOnFile 0 = .ok (.aload_n 0, 1) := by decide +kernel
theorem d_SF_runOnFile_1 : decode b_SF_runOnFile 1 = .ok (.getfield 30, 3) := by decide +kernel
theorem d_SF_runOnFile_4 : decode b_SF_runOnFile 4 = .ok (.aload_n 0, 1) := by decide +kernel
theorem d_SF_runOnFile_5 : decode b_SF_runOnFile 5 = .ok (.getfield 18, 3) := by decide +kernel
theorem d_SF_runOnFile_8 : decode b_SF_runOnFile 8 = .ok (.invokevirtual 115, 3) := by decide +kernel
theorem d_SF_runOnFile_11 : decode b_SF_runOnFile 11 = .ok (.astore 4, 2) := by decide +kernel
theorem d_SF_runOnFile_13 : decode b_SF_runOnFile 13 = .ok (.aload 4, 2) := by decide +kernel
theorem d_SF_runOnFile_15 : decode b_SF_runOnFile 15 = .ok (.ifnonnull 6, 3) := by decide +kernel
theorem d_SF_runOnFile_18 : decode b_SF_runOnFile 18 = .ok (.bipush (-2), 2) := by decide +kernel
theorem d_SF_runOnFile_20 : decode b_SF_runOnFile 20 = .ok (.ireturn, 1) := by decide +kernel
theorem d_SF_runOnFile_21 : decode b_SF_runOnFile 21 = .ok (.aload 4, 2) := by decide +kernel
theorem d_SF_runOnFile_23 : decode b_SF_runOnFile 23 = .ok (.invokevirtual 87, 3) := by decide +kernel
theorem d_SF_runOnFile_26 : decode b_SF_runOnFile 26 = .ok (.istore 5, 2) := by decide +kernel
theorem d_SF_runOnFile_28 : decode b_SF_runOnFile 28 = .ok (.iload_n 1, 1) := by decide +kernel
theorem d_SF_runOnFile_29 : decode b_SF_runOnFile 29 = .ok (.tableswitch 81 3 8 #[39, 47, 66, 81, 81, 81], 39) := by decide +kernel
theorem d_SF_runOnFile_68 : decode b_SF_runOnFile 68 = .ok (.aload_n 0, 1) := by decide +kernel
theorem d_SF_runOnFile_69 : decode b_SF_runOnFile 69 = .ok (.aload 4, 2) := by decide +kernel
theorem d_SF_runOnFile_71 : decode b_SF_runOnFile 71 = .ok (.iload_n 2, 1) := by decide +kernel
theorem d_SF_runOnFile_72 : decode b_SF_runOnFile 72 = .ok (.invokevirtual 138, 3) := by decide +kernel
theorem d_SF_runOnFile_75 : decode b_SF_runOnFile 75 = .ok (.ireturn, 1) := by decide +kernel
theorem d_SF_runOnFile_76 : decode b_SF_runOnFile 76 = .ok (.aload 4, 2) := by decide +kernel
theorem d_SF_runOnFile_78 : decode b_SF_runOnFile 78 = .ok (.iload_n 2, 1) := by decide +kernel
theorem d_SF_runOnFile_79 : decode b_SF_runOnFile 79 = .ok (.iload_n 3, 1) := by decide +kernel
theorem d_SF_runOnFile_80 : decode b_SF_runOnFile 80 = .ok (.aload_n 0, 1) := by decide +kernel
theorem d_SF_runOnFile_81 : decode b_SF_runOnFile 81 = .ok (.getfield 24, 3) := by decide +kernel
theorem d_SF_runOnFile_84 : decode b_SF_runOnFile 84 = .ok (.invokevirtual 142, 3) := by decide +kernel
theorem d_SF_runOnFile_87 : decode b_SF_runOnFile 87 = .ok (.aload_n 0, 1) := by decide +kernel
theorem d_SF_runOnFile_88 : decode b_SF_runOnFile 88 = .ok (.getfield 24, 3) := by decide +kernel
theorem d_SF_runOnFile_91 : decode b_SF_runOnFile 91 = .ok (.invokevirtual 38, 3) := by decide +kernel
theorem d_SF_runOnFile_94 : decode b_SF_runOnFile 94 = .ok (.ireturn, 1) := by decide +kernel
theorem d_SF_runOnFile_95 : decode b_SF_runOnFile 95 = .ok (.aload_n 0, 1) := by decide +kernel
theorem d_SF_runOnFile_96 : decode b_SF_runOnFile 96 = .ok (.getfield 30, 3) := by decide +kernel
theorem d_SF_runOnFile_99 : decode b_SF_runOnFile 99 = .ok (.aload_n 0, 1) := by decide +kernel
theorem d_SF_runOnFile_100 : decode b_SF_runOnFile 100 = .ok (.getfield 18, 3) := by decide +kernel
theorem d_SF_runOnFile_103 : decode b_SF_runOnFile 103 = .ok (.invokevirtual 146, 3) := by decide +kernel
theorem d_SF_runOnFile_106 : decode b_SF_runOnFile 106 = .ok (.pop, 1) := by decide +kernel
theorem d_SF_runOnFile_107 : decode b_SF_runOnFile 107 = .ok (.iload 5, 2) := by decide +kernel
theorem d_SF_runOnFile_109 : decode b_SF_runOnFile 109 = .ok (.ireturn, 1) := by decide +kernel
theorem d_SF_runOnFile_110 : decode b_SF_runOnFile 110 = .ok (.iload 5, 2) := by decide +kernel
theorem d_SF_runOnFile_112 : decode b_SF_runOnFile 112 = .ok (.ireturn, 1) := by decide +kernel
theorem d_SF_cutFile_0 : decode b_SF_cutFile 0 = .ok (.aload_n 1, 1) := by decide +kernel
theorem d_SF_cutFile_1 : decode b_SF_cutFile 1 = .ok (.invokevirtual 87, 3) := by decide +kernel
theorem d_SF_cutFile_4 : decode b_SF_cutFile 4 = .ok (.istore_n 3, 1) := by decide +kernel
theorem d_SF_cutFile_5 : decode b_SF_cutFile 5 = .ok (.iload_n 2, 1) := by decide +kernel
theorem d_SF_cutFile_6 : decode b_SF_cutFile 6 = .ok (.iload_n 3, 1) := by decide +kernel
theorem d_SF_cutFile_7 : decode b_SF_cutFile 7 = .ok (.if_icmp .le 18, 3) := by decide +kernel
theorem d_SF_cutFile_10 : decode b_SF_cutFile 10 = .ok (.aload_n 0, 1) := by decide +kernel
theorem d_SF_cutFile_11 : decode b_SF_cutFile 11 = .ok (.getfield 30, 3) := by decide +kernel
theorem d_SF_cutFile_14 : decode b_SF_cutFile 14 = .ok (.iload_n 3, 1) := by decide +kernel
theorem d_SF_cutFile_15 : decode b_SF_cutFile 15 = .ok (.iload_n 2, 1) := by decide +kernel
theorem d_SF_cutFile_16 : decode b_SF_cutFile 16 = .ok (.invokevirtual 131, 3) := by decide +kernel
theorem d_SF_cutFile_19 : decode b_SF_cutFile 19 = .ok (.ifCond .ne 6, 3) := by decide +kernel
theorem d_SF_cutFile_22 : decode b_SF_cutFile 22 = .ok (.bipush (-4), 2) := by decide +kernel
theorem d_SF_cutFile_24 : decode b_SF_cutFile 24 = .ok (.ireturn, 1) := by decide +kernel
theorem d_SF_cutFile_25 : decode b_SF_cutFile 25 = .ok (.aload_n 1, 1) := by decide +kernel
theorem d_SF_cutFile_26 : decode b_SF_cutFile 26 = .ok (.iload_n 2, 1) := by decide +kernel
theorem d_SF_cutFile_27 : decode b_SF_cutFile 27 = .ok (.invokevirtual 150, 3) := by decide +kernel
theorem d_SF_cutFile_30 : decode b_SF_cutFile 30 = .ok (.iload_n 3, 1) := by decide +kernel
theorem d_SF_cutFile_31 : decode b_SF_cutFile 31 = .ok (.ireturn, 1) := by decide +kernel
theorem d_File_read_0 : decode b_File_read 0 = .ok (.aload_n 0, 1) := by decide +kernel
theorem d_File_read_1 : decode b_File_read 1 = .ok (.getfield 34, 3) := by decide +kernel
theorem d_File_read_4 : decode b_File_read 4 = .ok (.iload_n 1, 1) := by decide +kernel
theorem d_File_read_5 : decode b_File_read 5 = .ok (.iload_n 2, 1) := by decide +kernel
theorem d_File_read_6 : decode b_File_read 6 = .ok (.iadd, 1) := by decide +kernel
theorem d_File_read_7 : decode b_File_read 7 = .ok (.invokestatic 54, 3) := by decide +kernel
theorem d_File_read_10 : decode b_File_read 10 = .ok (.istore 4, 2) := by decide +kernel
theorem d_File_read_12 : decode b_File_read 12 = .ok (.iconst 0, 1) := by decide +kernel
theorem d_File_read_13 : decode b_File_read 13 = .ok (.istore 5, 2) := by decide +kernel
theorem d_File_read_15 : decode b_File_read 15 = .ok (.iload 5, 2) := by decide +kernel
theorem d_File_read_17 : decode b_File_read 17 = .ok (.bipush 19, 2) := by decide +kernel
theorem d_File_read_19 : decode b_File_read 19 = .ok (.if_icmp .ge 62, 3) := by decide +kernel
theorem d_File_read_22 : decode b_File_read 22 = .ok (.iload 5, 2) := by decide +kernel
theorem d_File_read_24 : decode b_File_read 24 = .ok (.sipush 448, 3) := by decide +kernel
theorem d_File_read_27 : decode b_File_read 27 = .ok (.imul, 1) := by decide +kernel
theorem d_File_read_28 : decode b_File_read 28 = .ok (.istore 6, 2) := by decide +kernel
theorem d_File_read_30 : decode b_File_read 30 = .ok (.iload_n 1, 1) := by decide +kernel
theorem d_File_read_31 : decode b_File_read 31 = .ok (.iload 6, 2) := by decide +kernel
theorem d_File_read_33 : decode b_File_read 33 = .ok (.invokestatic 48, 3) := by decide +kernel
theorem d_File_read_36 : decode b_File_read 36 = .ok (.istore 7, 2) := by decide +kernel
theorem d_File_read_38 : decode b_File_read 38 = .ok (.iload 4, 2) := by decide +kernel
theorem d_File_read_40 : decode b_File_read 40 = .ok (.iload 6, 2) := by decide +kernel
theorem d_File_read_42 : decode b_File_read 42 = .ok (.sipush 448, 3) := by decide +kernel
theorem d_File_read_45 : decode b_File_read 45 = .ok (.iadd, 1) := by decide +kernel
theorem d_File_read_46 : decode b_File_read 46 = .ok (.invokestatic 54, 3) := by decide +kernel
theorem d_File_read_49 : decode b_File_read 49 = .ok (.istore 8, 2) := by decide +kernel
theorem d_File_read_51 : decode b_File_read 51 = .ok (.iload 7, 2) := by decide +kernel
theorem d_File_read_53 : decode b_File_read 53 = .ok (.iload 8, 2) := by decide +kernel
theorem d_File_read_55 : decode b_File_read 55 = .ok (.if_icmp .ge 20, 3) := by decide +kernel
theorem d_File_read_58 : decode b_File_read 58 = .ok (.aload_n 0, 1) := by decide +kernel
theorem d_File_read_59 : decode b_File_read 59 = .ok (.iload 5, 2) := by decide +kernel
theorem d_File_read_61 : decode b_File_read 61 = .ok (.iload 7, 2) := by decide +kernel
theorem d_File_read_63 : decode b_File_read 63 = .ok (.iload 6, 2) := by decide +kernel
theorem d_File_read_65 : decode b_File_read 65 = .ok (.isub, 1) := by decide +kernel
theorem d_File_read_66 : decode b_File_read 66 = .ok (.iload 8, 2) := by decide +kernel
theorem d_File_read_68 : decode b_File_read 68 = .ok (.iload 7, 2) := by decide +kernel
theorem d_File_read_70 : decode b_File_read 70 = .ok (.isub, 1) := by decide +kernel
theorem d_File_read_71 : decode b_File_read 71 = .ok (.aload_n 3, 1) := by decide +kernel
theorem d_File_read_72 : decode b_File_read 72 = .ok (.invokevirtual 75, 3) := by decide +kernel
theorem d_File_read_75 : decode b_File_read 75 = .ok (.iinc 5 1, 3) := by decide +kernel
theorem d_File_read_78 : decode b_File_read 78 = .ok (.goto (-63), 3) := by decide +kernel
theorem d_File_read_81 : decode b_File_read 81 = .ok (.return_, 1) := by decide +kernel
theorem d_File_tell_0 : decode b_File_tell 0 = .ok (.aload_n 0, 1) := by decide +kernel
theorem d_File_tell_1 : decode b_File_tell 1 = .ok (.getfield 26, 3) := by decide +kernel
theorem d_File_tell_4 : decode b_File_tell 4 = .ok (.iload_n 1, 1) := by decide +kernel
theorem d_File_tell_5 : decode b_File_tell 5 = .ok (.aaload, 1) := by decide +kernel
theorem d_File_tell_6 : decode b_File_tell 6 = .ok (.astore 5, 2) := by decide +kernel
theorem d_File_tell_8 : decode b_File_tell 8 = .ok (.aload 5, 2) := by decide +kernel
theorem d_File_tell_10 : decode b_File_tell 10 = .ok (.ifnonnull 12, 3) := by decide +kernel
theorem d_File_tell_13 : decode b_File_tell 13 = .ok (.aload 4, 2) := by decide +kernel
theorem d_File_tell_15 : decode b_File_tell 15 = .ok (.iload_n 3, 1) := by decide +kernel
theorem d_File_tell_16 : decode b_File_tell 16 = .ok (.invokevirtual 79, 3) := by decide +kernel
theorem d_File_tell_19 : decode b_File_tell 19 = .ok (.goto 15, 3) := by decide +kernel
theorem d_File_tell_22 : decode b_File_tell 22 = .ok (.aload 4, 2) := by decide +kernel
theorem d_File_tell_24 : decode b_File_tell 24 = .ok (.aload 5, 2) := by decide +kernel
theorem d_File_tell_26 : decode b_File_tell 26 = .ok (.getfield 41, 3) := by decide +kernel
theorem d_File_tell_29 : decode b_File_tell 29 = .ok (.iload_n 2, 1) := by decide +kernel
theorem d_File_tell_30 : decode b_File_tell 30 = .ok (.iload_n 3, 1) := by decide +kernel
theorem d_File_tell_31 : decode b_File_tell 31 = .ok (.invokevirtual 82, 3) := by decide +kernel
theorem d_File_tell_34 : decode b_File_tell 34 = .ok (.return_, 1) := by decide +kernel
theorem d_Row_addZeros_0 : decode b_Row_addZeros 0 = .ok (.aload_n 0, 1) := by decide +kernel
theorem d_Row_addZeros_1 : decode b_Row_addZeros 1 = .ok (.getfield 9, 3) := by decide +kernel
theorem d_Row_addZeros_4 : decode b_Row_addZeros 4 = .ok (.aload_n 0, 1) := by decide +kernel
theorem d_Row_addZeros_5 : decode b_Row_addZeros 5 = .ok (.getfield 15, 3) := by decide +kernel
theorem d_Row_addZeros_8 : decode b_Row_addZeros 8 = .ok (.aload_n 0, 1) := by decide +kernel
theorem d_Row_addZeros_9 : decode b_Row_addZeros 9 = .ok (.getfield 15, 3) := by decide +kernel
theorem d_Row_addZeros_12 : decode b_Row_addZeros 12 = .ok (.iload_n 1, 1) := by decide +kernel
theorem d_Row_addZeros_13 : decode b_Row_addZeros 13 = .ok (.iadd, 1) := by decide +kernel
theorem d_Row_addZeros_14 : decode b_Row_addZeros 14 = .ok (.iconst 0, 1) := by decide +kernel
theorem d_Row_addZeros_15 : decode b_Row_addZeros 15 = .ok (.invokestatic 25, 3) := by decide +kernel
theorem d_Row_addZeros_18 : decode b_Row_addZeros 18 = .ok (.aload_n 0, 1) := by decide +kernel
theorem d_Row_addZeros_19 : decode b_Row_addZeros 19 = .ok (.dup, 1) := by decide +kernel
theorem d_Row_addZeros_20 : decode b_Row_addZeros 20 = .ok (.getfield 15, 3) := by decide +kernel
theorem d_Row_addZeros_23 : decode b_Row_addZeros 23 = .ok (.iload_n 1, 1) := by decide +kernel
theorem d_Row_addZeros_24 : decode b_Row_addZeros 24 = .ok (.iadd, 1) := by decide +kernel
theorem d_Row_addZeros_25 : decode b_Row_addZeros 25 = .ok (.putfield 15, 3) := by decide +kernel
theorem d_Row_addZeros_28 : decode b_Row_addZeros 28 = .ok (.return_, 1) := by decide +kernel
theorem d_SF_told_0 : decode b_SF_told 0 = .ok (.aload_n 0, 1) := by decide +kernel
theorem d_SF_told_1 : decode b_SF_told 1 = .ok (.getfield 24, 3) := by decide +kernel
theorem d_SF_told_4 : decode b_SF_told 4 = .ok (.iload_n 1, 1) := by decide +kernel
theorem d_SF_told_5 : decode b_SF_told 5 = .ok (.invokevirtual 80, 3) := by decide +kernel
theorem d_SF_told_8 : decode b_SF_told 8 = .ok (.ireturn, 1) := by decide +kernel
theorem d_Row_byteAt_0 : decode b_Row_byteAt 0 = .ok (.iload_n 1, 1) := by decide +kernel
theorem d_Row_byteAt_1 : decode b_Row_byteAt 1 = .ok (.ifCond .lt 24, 3) := by decide +kernel
theorem d_Row_byteAt_4 : decode b_Row_byteAt 4 = .ok (.iload_n 1, 1) := by decide +kernel
theorem d_Row_byteAt_5 : decode b_Row_byteAt 5 = .ok (.aload_n 0, 1) := by decide +kernel
theorem d_Row_byteAt_6 : decode b_Row_byteAt 6 = .ok (.getfield 15, 3) := by decide +kernel
theorem d_Row_byteAt_9 : decode b_Row_byteAt 9 = .ok (.if_icmp .ge 16, 3) := by decide +kernel
theorem d_Row_byteAt_12 : decode b_Row_byteAt 12 = .ok (.aload_n 0, 1) := by decide +kernel
theorem d_Row_byteAt_13 : decode b_Row_byteAt 13 = .ok (.getfield 9, 3) := by decide +kernel
theorem d_Row_byteAt_16 : decode b_Row_byteAt 16 = .ok (.iload_n 1, 1) := by decide +kernel
theorem d_Row_byteAt_17 : decode b_Row_byteAt 17 = .ok (.baload, 1) := by decide +kernel
theorem d_Row_byteAt_18 : decode b_Row_byteAt 18 = .ok (.sipush 255, 3) := by decide +kernel
theorem d_Row_byteAt_21 : decode b_Row_byteAt 21 = .ok (.iand, 1) := by decide +kernel
theorem d_Row_byteAt_22 : decode b_Row_byteAt 22 = .ok (.goto 5, 3) := by decide +kernel
theorem d_Row_byteAt_25 : decode b_Row_byteAt 25 = .ok (.bipush (-2), 2) := by decide +kernel
theorem d_Row_byteAt_27 : decode b_Row_byteAt 27 = .ok (.ireturn, 1) := by decide +kernel
theorem d_SF_file_0 : decode b_SF_file 0 = .ok (.iload_n 2, 1) := by decide +kernel
theorem d_SF_file_1 : decode b_SF_file 1 = .ok (.iconst 3, 1) := by decide +kernel
theorem d_SF_file_2 : decode b_SF_file 2 = .ok (.invokestatic 45, 3) := by decide +kernel
theorem d_SF_file_5 : decode b_SF_file 5 = .ok (.ifCond .ne 5, 3) := by decide +kernel
theorem d_SF_file_8 : decode b_SF_file 8 = .ok (.iconst (-1), 1) := by decide +kernel
theorem d_SF_file_9 : decode b_SF_file 9 = .ok (.ireturn, 1) := by decide +kernel
theorem d_SF_file_10 : decode b_SF_file 10 = .ok (.aload_n 0, 1) := by decide +kernel
theorem d_SF_file_11 : decode b_SF_file 11 = .ok (.getfield 30, 3) := by decide +kernel
theorem d_SF_file_14 : decode b_SF_file 14 = .ok (.iload_n 1, 1) := by decide +kernel
theorem d_SF_file_15 : decode b_SF_file 15 = .ok (.invokevirtual 83, 3) := by decide +kernel
theorem d_SF_file_18 : decode b_SF_file 18 = .ok (.astore_n 3, 1) := by decide +kernel
theorem d_SF_file_19 : decode b_SF_file 19 = .ok (.aload_n 3, 1) := by decide +kernel
theorem d_SF_file_20 : decode b_SF_file 20 = .ok (.ifnonnull 6, 3) := by decide +kernel
end
section
theorem d_SF_file_23 : decode b_SF_file 23 = .ok (.bipush (-2), 2) := by decide +kernel
theorem d_SF_file_25 : decode b_SF_file 25 = .ok (.ireturn, 1) := by decide +kernel
theorem d_SF_file_26 : decode b_SF_file 26 = .ok (.iload_n 2, 1) := by decide +kernel
theorem d_SF_file_27 : decode b_SF_file 27 = .ok (.tableswitch 43 0 2 #[25, 30, 35], 25) := by decide +kernel
theorem d_SF_file_52 : decode b_SF_file 52 = .ok (.aload_n 3, 1) := by decide +kernel
theorem d_SF_file_53 : decode b_SF_file 53 = .ok (.invokevirtual 87, 3) := by decide +kernel
theorem d_SF_file_56 : decode b_SF_file 56 = .ok (.ireturn, 1) := by decide +kernel
theorem d_SF_file_57 : decode b_SF_file 57 = .ok (.aload_n 3, 1) := by decide +kernel
theorem d_SF_file_58 : decode b_SF_file 58 = .ok (.invokevirtual 90, 3) := by decide +kernel
theorem d_SF_file_61 : decode b_SF_file 61 = .ok (.ireturn, 1) := by decide +kernel
theorem d_SF_file_62 : decode b_SF_file 62 = .ok (.aload_n 3, 1) := by decide +kernel
theorem d_SF_file_63 : decode b_SF_file 63 = .ok (.invokevirtual 93, 3) := by decide +kernel
theorem d_SF_file_66 : decode b_SF_file 66 = .ok (.invokevirtual 38, 3) := by decide +kernel
theorem d_SF_file_69 : decode b_SF_file 69 = .ok (.ireturn, 1) := by decide +kernel
theorem d_SF_file_70 : decode b_SF_file 70 = .ok (.aload_n 3, 1) := by decide +kernel
theorem d_SF_file_71 : decode b_SF_file 71 = .ok (.invokevirtual 97, 3) := by decide +kernel
theorem d_SF_file_74 : decode b_SF_file 74 = .ok (.ireturn, 1) := by decide +kernel
theorem d_File_id_0 : decode b_File_id 0 = .ok (.aload_n 0, 1) := by decide +kernel
theorem d_File_id_1 : decode b_File_id 1 = .ok (.getfield 30, 3) := by decide +kernel
theorem d_File_id_4 : decode b_File_id 4 = .ok (.ireturn, 1) := by decide +kernel
theorem d_File_laidStripes_0 : decode b_File_laidStripes 0 = .ok (.iconst 0, 1) := by decide +kernel
theorem d_File_laidStripes_1 : decode b_File_laidStripes 1 = .ok (.istore_n 1, 1) := by decide +kernel
theorem d_File_laidStripes_2 : decode b_File_laidStripes 2 = .ok (.iconst 0, 1) := by decide +kernel
theorem d_File_laidStripes_3 : decode b_File_laidStripes 3 = .ok (.istore_n 2, 1) := by decide +kernel
theorem d_File_laidStripes_4 : decode b_File_laidStripes 4 = .ok (.iload_n 2, 1) := by decide +kernel
theorem d_File_laidStripes_5 : decode b_File_laidStripes 5 = .ok (.bipush 19, 2) := by decide +kernel
theorem d_File_laidStripes_7 : decode b_File_laidStripes 7 = .ok (.if_icmp .ge 21, 3) := by decide +kernel
theorem d_File_laidStripes_10 : decode b_File_laidStripes 10 = .ok (.aload_n 0, 1) := by decide +kernel
theorem d_File_laidStripes_11 : decode b_File_laidStripes 11 = .ok (.getfield 26, 3) := by decide +kernel
theorem d_File_laidStripes_14 : decode b_File_laidStripes 14 = .ok (.iload_n 2, 1) := by decide +kernel
theorem d_File_laidStripes_15 : decode b_File_laidStripes 15 = .ok (.aaload, 1) := by decide +kernel
theorem d_File_laidStripes_16 : decode b_File_laidStripes 16 = .ok (.ifnull 6, 3) := by decide +kernel
theorem d_File_laidStripes_19 : decode b_File_laidStripes 19 = .ok (.iinc 1 1, 3) := by decide +kernel
theorem d_File_laidStripes_22 : decode b_File_laidStripes 22 = .ok (.iinc 2 1, 3) := by decide +kernel
theorem d_File_laidStripes_25 : decode b_File_laidStripes 25 = .ok (.goto (-21), 3) := by decide +kernel
theorem d_File_laidStripes_28 : decode b_File_laidStripes 28 = .ok (.iload_n 1, 1) := by decide +kernel
theorem d_File_laidStripes_29 : decode b_File_laidStripes 29 = .ok (.ireturn, 1) := by decide +kernel
theorem d_SF_piece_0 : decode b_SF_piece 0 = .ok (.aload_n 0, 1) := by decide +kernel
theorem d_SF_piece_1 : decode b_SF_piece 1 = .ok (.getfield 30, 3) := by decide +kernel
theorem d_SF_piece_4 : decode b_SF_piece 4 = .ok (.iload_n 1, 1) := by decide +kernel
theorem d_SF_piece_5 : decode b_SF_piece 5 = .ok (.invokevirtual 83, 3) := by decide +kernel
theorem d_SF_piece_8 : decode b_SF_piece 8 = .ok (.astore 4, 2) := by decide +kernel
theorem d_SF_piece_10 : decode b_SF_piece 10 = .ok (.aload 4, 2) := by decide +kernel
theorem d_SF_piece_12 : decode b_SF_piece 12 = .ok (.ifnonnull 6, 3) := by decide +kernel
theorem d_SF_piece_15 : decode b_SF_piece 15 = .ok (.bipush (-2), 2) := by decide +kernel
theorem d_SF_piece_17 : decode b_SF_piece 17 = .ok (.ireturn, 1) := by decide +kernel
theorem d_SF_piece_18 : decode b_SF_piece 18 = .ok (.aload 4, 2) := by decide +kernel
theorem d_SF_piece_20 : decode b_SF_piece 20 = .ok (.iload_n 2, 1) := by decide +kernel
theorem d_SF_piece_21 : decode b_SF_piece 21 = .ok (.iload_n 3, 1) := by decide +kernel
theorem d_SF_piece_22 : decode b_SF_piece 22 = .ok (.invokevirtual 100, 3) := by decide +kernel
theorem d_SF_piece_25 : decode b_SF_piece 25 = .ok (.ireturn, 1) := by decide +kernel
theorem d_File_keptByte_0 : decode b_File_keptByte 0 = .ok (.iload_n 1, 1) := by decide +kernel
theorem d_File_keptByte_1 : decode b_File_keptByte 1 = .ok (.ifCond .lt 20, 3) := by decide +kernel
theorem d_File_keptByte_4 : decode b_File_keptByte 4 = .ok (.iload_n 1, 1) := by decide +kernel
theorem d_File_keptByte_5 : decode b_File_keptByte 5 = .ok (.bipush 19, 2) := by decide +kernel
theorem d_File_keptByte_7 : decode b_File_keptByte 7 = .ok (.if_icmp .ge 14, 3) := by decide +kernel
theorem d_File_keptByte_10 : decode b_File_keptByte 10 = .ok (.iload_n 2, 1) := by decide +kernel
theorem d_File_keptByte_11 : decode b_File_keptByte 11 = .ok (.ifCond .lt 10, 3) := by decide +kernel
theorem d_File_keptByte_14 : decode b_File_keptByte 14 = .ok (.iload_n 2, 1) := by decide +kernel
theorem d_File_keptByte_15 : decode b_File_keptByte 15 = .ok (.sipush 448, 3) := by decide +kernel
theorem d_File_keptByte_18 : decode b_File_keptByte 18 = .ok (.if_icmp .lt 6, 3) := by decide +kernel
theorem d_File_keptByte_21 : decode b_File_keptByte 21 = .ok (.bipush (-2), 2) := by decide +kernel
theorem d_File_keptByte_23 : decode b_File_keptByte 23 = .ok (.ireturn, 1) := by decide +kernel
theorem d_File_keptByte_24 : decode b_File_keptByte 24 = .ok (.aload_n 0, 1) := by decide +kernel
theorem d_File_keptByte_25 : decode b_File_keptByte 25 = .ok (.getfield 26, 3) := by decide +kernel
theorem d_File_keptByte_28 : decode b_File_keptByte 28 = .ok (.iload_n 1, 1) := by decide +kernel
theorem d_File_keptByte_29 : decode b_File_keptByte 29 = .ok (.aaload, 1) := by decide +kernel
theorem d_File_keptByte_30 : decode b_File_keptByte 30 = .ok (.astore_n 3, 1) := by decide +kernel
theorem d_File_keptByte_31 : decode b_File_keptByte 31 = .ok (.aload_n 3, 1) := by decide +kernel
theorem d_File_keptByte_32 : decode b_File_keptByte 32 = .ok (.ifnull 17, 3) := by decide +kernel
theorem d_File_keptByte_35 : decode b_File_keptByte 35 = .ok (.iload_n 1, 1) := by decide +kernel
theorem d_File_keptByte_36 : decode b_File_keptByte 36 = .ok (.sipush 448, 3) := by decide +kernel
theorem d_File_keptByte_39 : decode b_File_keptByte 39 = .ok (.imul, 1) := by decide +kernel
theorem d_File_keptByte_40 : decode b_File_keptByte 40 = .ok (.iload_n 2, 1) := by decide +kernel
theorem d_File_keptByte_41 : decode b_File_keptByte 41 = .ok (.iadd, 1) := by decide +kernel
theorem d_File_keptByte_42 : decode b_File_keptByte 42 = .ok (.aload_n 0, 1) := by decide +kernel
theorem d_File_keptByte_43 : decode b_File_keptByte 43 = .ok (.getfield 34, 3) := by decide +kernel
theorem d_File_keptByte_46 : decode b_File_keptByte 46 = .ok (.if_icmp .lt 6, 3) := by decide +kernel
theorem d_File_keptByte_49 : decode b_File_keptByte 49 = .ok (.bipush (-2), 2) := by decide +kernel
theorem d_File_keptByte_51 : decode b_File_keptByte 51 = .ok (.ireturn, 1) := by decide +kernel
theorem d_File_keptByte_52 : decode b_File_keptByte 52 = .ok (.aload_n 3, 1) := by decide +kernel
theorem d_File_keptByte_53 : decode b_File_keptByte 53 = .ok (.getfield 41, 3) := by decide +kernel
theorem d_File_keptByte_56 : decode b_File_keptByte 56 = .ok (.iload_n 2, 1) := by decide +kernel
theorem d_File_keptByte_57 : decode b_File_keptByte 57 = .ok (.baload, 1) := by decide +kernel
theorem d_File_keptByte_58 : decode b_File_keptByte 58 = .ok (.sipush 255, 3) := by decide +kernel
theorem d_File_keptByte_61 : decode b_File_keptByte 61 = .ok (.iand, 1) := by decide +kernel
theorem d_File_keptByte_62 : decode b_File_keptByte 62 = .ok (.ireturn, 1) := by decide +kernel
theorem d_SF_count_0 : decode b_SF_count 0 = .ok (.iload_n 1, 1) := by decide +kernel
theorem d_SF_count_1 : decode b_SF_count 1 = .ok (.tableswitch 72 0 4 #[35, 43, 51, 59, 64], 35) := by decide +kernel
theorem d_SF_count_36 : decode b_SF_count 36 = .ok (.aload_n 0, 1) := by decide +kernel
theorem d_SF_count_37 : decode b_SF_count 37 = .ok (.getfield 30, 3) := by decide +kernel
theorem d_SF_count_40 : decode b_SF_count 40 = .ok (.invokevirtual 104, 3) := by decide +kernel
theorem d_SF_count_43 : decode b_SF_count 43 = .ok (.ireturn, 1) := by decide +kernel
theorem d_SF_count_44 : decode b_SF_count 44 = .ok (.aload_n 0, 1) := by decide +kernel
theorem d_SF_count_45 : decode b_SF_count 45 = .ok (.getfield 30, 3) := by decide +kernel
theorem d_SF_count_48 : decode b_SF_count 48 = .ok (.invokevirtual 107, 3) := by decide +kernel
theorem d_SF_count_51 : decode b_SF_count 51 = .ok (.ireturn, 1) := by decide +kernel
theorem d_SF_count_52 : decode b_SF_count 52 = .ok (.aload_n 0, 1) := by decide +kernel
theorem d_SF_count_53 : decode b_SF_count 53 = .ok (.getfield 30, 3) := by decide +kernel
theorem d_SF_count_56 : decode b_SF_count 56 = .ok (.invokevirtual 110, 3) := by decide +kernel
theorem d_SF_count_59 : decode b_SF_count 59 = .ok (.ireturn, 1) := by decide +kernel
theorem d_SF_count_60 : decode b_SF_count 60 = .ok (.aload_n 0, 1) := by decide +kernel
theorem d_SF_count_61 : decode b_SF_count 61 = .ok (.getfield 34, 3) := by decide +kernel
theorem d_SF_count_64 : decode b_SF_count 64 = .ok (.ireturn, 1) := by decide +kernel
theorem d_SF_count_65 : decode b_SF_count 65 = .ok (.aload_n 0, 1) := by decide +kernel
theorem d_SF_count_66 : decode b_SF_count 66 = .ok (.getfield 14, 3) := by decide +kernel
theorem d_SF_count_69 : decode b_SF_count 69 = .ok (.invokevirtual 38, 3) := by decide +kernel
theorem d_SF_count_72 : decode b_SF_count 72 = .ok (.ireturn, 1) := by decide +kernel
theorem d_SF_count_73 : decode b_SF_count 73 = .ok (.iconst (-1), 1) := by decide +kernel
theorem d_SF_count_74 : decode b_SF_count 74 = .ok (.ireturn, 1) := by decide +kernel
theorem d_Shelf_size_0 : decode b_Shelf_size 0 = .ok (.aload_n 0, 1) := by decide +kernel
theorem d_Shelf_size_1 : decode b_Shelf_size 1 = .ok (.getfield 12, 3) := by decide +kernel
theorem d_Shelf_size_4 : decode b_Shelf_size 4 = .ok (.invokevirtual 28, 3) := by decide +kernel
theorem d_Shelf_size_7 : decode b_Shelf_size 7 = .ok (.ireturn, 1) := by decide +kernel
theorem d_Shelf_laidStripes_0 : decode b_Shelf_laidStripes 0 = .ok (.iconst 0, 1) := by decide +kernel
theorem d_Shelf_laidStripes_1 : decode b_Shelf_laidStripes 1 = .ok (.istore_n 1, 1) := by decide +kernel
theorem d_Shelf_laidStripes_2 : decode b_Shelf_laidStripes 2 = .ok (.iconst 0, 1) := by decide +kernel
theorem d_Shelf_laidStripes_3 : decode b_Shelf_laidStripes 3 = .ok (.istore_n 2, 1) := by decide +kernel
theorem d_Shelf_laidStripes_4 : decode b_Shelf_laidStripes 4 = .ok (.iload_n 2, 1) := by decide +kernel
theorem d_Shelf_laidStripes_5 : decode b_Shelf_laidStripes 5 = .ok (.aload_n 0, 1) := by decide +kernel
theorem d_Shelf_laidStripes_6 : decode b_Shelf_laidStripes 6 = .ok (.getfield 12, 3) := by decide +kernel
theorem d_Shelf_laidStripes_9 : decode b_Shelf_laidStripes 9 = .ok (.invokevirtual 28, 3) := by decide +kernel
theorem d_Shelf_laidStripes_12 : decode b_Shelf_laidStripes 12 = .ok (.if_icmp .ge 26, 3) := by decide +kernel
theorem d_Shelf_laidStripes_15 : decode b_Shelf_laidStripes 15 = .ok (.iload_n 1, 1) := by decide +kernel
theorem d_Shelf_laidStripes_16 : decode b_Shelf_laidStripes 16 = .ok (.aload_n 0, 1) := by decide +kernel
theorem d_Shelf_laidStripes_17 : decode b_Shelf_laidStripes 17 = .ok (.getfield 12, 3) := by decide +kernel
theorem d_Shelf_laidStripes_20 : decode b_Shelf_laidStripes 20 = .ok (.iload_n 2, 1) := by decide +kernel
theorem d_Shelf_laidStripes_21 : decode b_Shelf_laidStripes 21 = .ok (.invokevirtual 32, 3) := by decide +kernel
theorem d_Shelf_laidStripes_24 : decode b_Shelf_laidStripes 24 = .ok (.checkcast 36, 3) := by decide +kernel
theorem d_Shelf_laidStripes_27 : decode b_Shelf_laidStripes 27 = .ok (.invokevirtual 41, 3) := by decide +kernel
theorem d_Shelf_laidStripes_30 : decode b_Shelf_laidStripes 30 = .ok (.iadd, 1) := by decide +kernel
theorem d_Shelf_laidStripes_31 : decode b_Shelf_laidStripes 31 = .ok (.istore_n 1, 1) := by decide +kernel
theorem d_Shelf_laidStripes_32 : decode b_Shelf_laidStripes 32 = .ok (.iinc 2 1, 3) := by decide +kernel
theorem d_Shelf_laidStripes_35 : decode b_Shelf_laidStripes 35 = .ok (.goto (-31), 3) := by decide +kernel
theorem d_Shelf_laidStripes_38 : decode b_Shelf_laidStripes 38 = .ok (.iload_n 1, 1) := by decide +kernel
theorem d_Shelf_laidStripes_39 : decode b_Shelf_laidStripes 39 = .ok (.ireturn, 1) := by decide +kernel
theorem d_Mdl_init_0 : decode b_Mdl_init 0 = .ok (.aload_n 0, 1) := by decide +kernel
theorem d_Mdl_init_1 : decode b_Mdl_init 1 = .ok (.invokespecial 1, 3) := by decide +kernel
theorem d_Mdl_init_4 : decode b_Mdl_init 4 = .ok (.aload_n 0, 1) := by decide +kernel
theorem d_Mdl_init_5 : decode b_Mdl_init 5 = .ok (.sipush 2048, 3) := by decide +kernel
theorem d_Mdl_init_8 : decode b_Mdl_init 8 = .ok (.newarray .byte, 2) := by decide +kernel
theorem d_Mdl_init_10 : decode b_Mdl_init 10 = .ok (.putfield 7, 3) := by decide +kernel
theorem d_Mdl_init_13 : decode b_Mdl_init 13 = .ok (.aload_n 0, 1) := by decide +kernel
theorem d_Mdl_init_14 : decode b_Mdl_init 14 = .ok (.sipush 400, 3) := by decide +kernel
theorem d_Mdl_init_17 : decode b_Mdl_init 17 = .ok (.newarray .byte, 2) := by decide +kernel
theorem d_Mdl_init_19 : decode b_Mdl_init 19 = .ok (.putfield 13, 3) := by decide +kernel
theorem d_Mdl_init_22 : decode b_Mdl_init 22 = .ok (.aload_n 0, 1) := by decide +kernel
theorem d_Mdl_init_23 : decode b_Mdl_init 23 = .ok (.iconst 2, 1) := by decide +kernel
theorem d_Mdl_init_24 : decode b_Mdl_init 24 = .ok (.newarray .int, 2) := by decide +kernel
theorem d_Mdl_init_26 : decode b_Mdl_init 26 = .ok (.putfield 16, 3) := by decide +kernel
theorem d_Mdl_init_29 : decode b_Mdl_init 29 = .ok (.aload_n 0, 1) := by decide +kernel
theorem d_Mdl_init_30 : decode b_Mdl_init 30 = .ok (.bipush 48, 2) := by decide +kernel
theorem d_Mdl_init_32 : decode b_Mdl_init 32 = .ok (.newarray .int, 2) := by decide +kernel
theorem d_Mdl_init_34 : decode b_Mdl_init 34 = .ok (.putfield 20, 3) := by decide +kernel
theorem d_Mdl_init_37 : decode b_Mdl_init 37 = .ok (.aload_n 0, 1) := by decide +kernel
theorem d_Mdl_init_38 : decode b_Mdl_init 38 = .ok (.bipush 48, 2) := by decide +kernel
theorem d_Mdl_init_40 : decode b_Mdl_init 40 = .ok (.newarray .boolean, 2) := by decide +kernel
theorem d_Mdl_init_42 : decode b_Mdl_init 42 = .ok (.putfield 23, 3) := by decide +kernel
theorem d_Mdl_init_45 : decode b_Mdl_init 45 = .ok (.aload_n 0, 1) := by decide +kernel
theorem d_Mdl_init_46 : decode b_Mdl_init 46 = .ok (.sipush 9600, 3) := by decide +kernel
theorem d_Mdl_init_49 : decode b_Mdl_init 49 = .ok (.newarray .byte, 2) := by decide +kernel
theorem d_Mdl_init_51 : decode b_Mdl_init 51 = .ok (.putfield 27, 3) := by decide +kernel
theorem d_Mdl_init_54 : decode b_Mdl_init 54 = .ok (.aload_n 0, 1) := by decide +kernel
theorem d_Mdl_init_55 : decode b_Mdl_init 55 = .ok (.bipush 48, 2) := by decide +kernel
theorem d_Mdl_init_57 : decode b_Mdl_init 57 = .ok (.newarray .int, 2) := by decide +kernel
theorem d_Mdl_init_59 : decode b_Mdl_init 59 = .ok (.putfield 30, 3) := by decide +kernel
theorem d_Mdl_init_62 : decode b_Mdl_init 62 = .ok (.aload_n 0, 1) := by decide +kernel
theorem d_Mdl_init_63 : decode b_Mdl_init 63 = .ok (.bipush 48, 2) := by decide +kernel
theorem d_Mdl_init_65 : decode b_Mdl_init 65 = .ok (.newarray .int, 2) := by decide +kernel
theorem d_Mdl_init_67 : decode b_Mdl_init 67 = .ok (.putfield 33, 3) := by decide +kernel
theorem d_Mdl_init_70 : decode b_Mdl_init 70 = .ok (.aload_n 0, 1) := by decide +kernel
theorem d_Mdl_init_71 : decode b_Mdl_init 71 = .ok (.bipush 48, 2) := by decide +kernel
theorem d_Mdl_init_73 : decode b_Mdl_init 73 = .ok (.newarray .int, 2) := by decide +kernel
theorem d_Mdl_init_75 : decode b_Mdl_init 75 = .ok (.putfield 36, 3) := by decide +kernel
theorem d_Mdl_init_78 : decode b_Mdl_init 78 = .ok (.aload_n 0, 1) := by decide +kernel
theorem d_Mdl_init_79 : decode b_Mdl_init 79 = .ok (.ldc 39, 2) := by decide +kernel
theorem d_Mdl_init_81 : decode b_Mdl_init 81 = .ok (.newarray .byte, 2) := by decide +kernel
theorem d_Mdl_init_83 : decode b_Mdl_init 83 = .ok (.putfield 40, 3) := by decide +kernel
theorem d_Mdl_init_86 : decode b_Mdl_init 86 = .ok (.aload_n 0, 1) := by decide +kernel
theorem d_Mdl_init_87 : decode b_Mdl_init 87 = .ok (.sipush 912, 3) := by decide +kernel
theorem d_Mdl_init_90 : decode b_Mdl_init 90 = .ok (.newarray .boolean, 2) := by decide +kernel
theorem d_Mdl_init_92 : decode b_Mdl_init 92 = .ok (.putfield 43, 3) := by decide +kernel
theorem d_Mdl_init_95 : decode b_Mdl_init 95 = .ok (.aload_n 0, 1) := by decide +kernel
theorem d_Mdl_init_96 : decode b_Mdl_init 96 = .ok (.sipush 2048, 3) := by decide +kernel
theorem d_Mdl_init_99 : decode b_Mdl_init 99 = .ok (.newarray .int, 2) := by decide +kernel
theorem d_Mdl_init_101 : decode b_Mdl_init 101 = .ok (.putfield 46, 3) := by decide +kernel
theorem d_Mdl_init_104 : decode b_Mdl_init 104 = .ok (.return_, 1) := by decide +kernel
theorem d_Mdl_feed_0 : decode b_Mdl_feed 0 = .ok (.aload_n 0, 1) := by decide +kernel
theorem d_Mdl_feed_1 : decode b_Mdl_feed 1 = .ok (.getfield 49, 3) := by decide +kernel
theorem d_Mdl_feed_4 : decode b_Mdl_feed 4 = .ok (.bipush 20, 2) := by decide +kernel
theorem d_Mdl_feed_6 : decode b_Mdl_feed 6 = .ok (.iadd, 1) := by decide +kernel
theorem d_Mdl_feed_7 : decode b_Mdl_feed 7 = .ok (.sipush 2048, 3) := by decide +kernel
theorem d_Mdl_feed_10 : decode b_Mdl_feed 10 = .ok (.if_icmp .le 6, 3) := by decide +kernel
theorem d_Mdl_feed_13 : decode b_Mdl_feed 13 = .ok (.bipush (-4), 2) := by decide +kernel
theorem d_Mdl_feed_15 : decode b_Mdl_feed 15 = .ok (.ireturn, 1) := by decide +kernel
theorem d_Mdl_feed_16 : decode b_Mdl_feed 16 = .ok (.aload_n 0, 1) := by decide +kernel
theorem d_Mdl_feed_17 : decode b_Mdl_feed 17 = .ok (.iload_n 1, 1) := by decide +kernel
theorem d_Mdl_feed_18 : decode b_Mdl_feed 18 = .ok (.invokevirtual 53, 3) := by decide +kernel
theorem d_Mdl_feed_21 : decode b_Mdl_feed 21 = .ok (.aload_n 0, 1) := by decide +kernel
theorem d_Mdl_feed_22 : decode b_Mdl_feed 22 = .ok (.iload_n 2, 1) := by decide +kernel
theorem d_Mdl_feed_23 : decode b_Mdl_feed 23 = .ok (.invokevirtual 53, 3) := by decide +kernel
theorem d_Mdl_feed_26 : decode b_Mdl_feed 26 = .ok (.aload_n 0, 1) := by decide +kernel
theorem d_Mdl_feed_27 : decode b_Mdl_feed 27 = .ok (.iload_n 3, 1) := by decide +kernel
theorem d_Mdl_feed_28 : decode b_Mdl_feed 28 = .ok (.invokevirtual 53, 3) := by decide +kernel
theorem d_Mdl_feed_31 : decode b_Mdl_feed 31 = .ok (.aload_n 0, 1) := by decide +kernel
theorem d_Mdl_feed_32 : decode b_Mdl_feed 32 = .ok (.iload 4, 2) := by decide +kernel
theorem d_Mdl_feed_34 : decode b_Mdl_feed 34 = .ok (.invokevirtual 53, 3) := by decide +kernel
theorem d_Mdl_feed_37 : decode b_Mdl_feed 37 = .ok (.aload_n 0, 1) := by decide +kernel
theorem d_Mdl_feed_38 : decode b_Mdl_feed 38 = .ok (.iload 5, 2) := by decide +kernel
theorem d_Mdl_feed_40 : decode b_Mdl_feed 40 = .ok (.invokevirtual 53, 3) := by decide +kernel
theorem d_Mdl_feed_43 : decode b_Mdl_feed 43 = .ok (.aload_n 0, 1) := by decide +kernel
theorem d_Mdl_feed_44 : decode b_Mdl_feed 44 = .ok (.getfield 49, 3) := by decide +kernel
theorem d_Mdl_feed_47 : decode b_Mdl_feed 47 = .ok (.ireturn, 1) := by decide +kernel
theorem d_Mdl_put_0 : decode b_Mdl_put 0 = .ok (.bipush 24, 2) := by decide +kernel
theorem d_Mdl_put_2 : decode b_Mdl_put 2 = .ok (.istore_n 2, 1) := by decide +kernel
theorem d_Mdl_put_3 : decode b_Mdl_put 3 = .ok (.iload_n 2, 1) := by decide +kernel
theorem d_Mdl_put_4 : decode b_Mdl_put 4 = .ok (.ifCond .lt 32, 3) := by decide +kernel
theorem d_Mdl_put_7 : decode b_Mdl_put 7 = .ok (.aload_n 0, 1) := by decide +kernel
theorem d_Mdl_put_8 : decode b_Mdl_put 8 = .ok (.getfield 7, 3) := by decide +kernel
theorem d_Mdl_put_11 : decode b_Mdl_put 11 = .ok (.aload_n 0, 1) := by decide +kernel
theorem d_Mdl_put_12 : decode b_Mdl_put 12 = .ok (.getfield 49, 3) := by decide +kernel
theorem d_Mdl_put_15 : decode b_Mdl_put 15 = .ok (.iload_n 1, 1) := by decide +kernel
theorem d_Mdl_put_16 : decode b_Mdl_put 16 = .ok (.iload_n 2, 1) := by decide +kernel
theorem d_Mdl_put_17 : decode b_Mdl_put 17 = .ok (.ishr, 1) := by decide +kernel
theorem d_Mdl_put_18 : decode b_Mdl_put 18 = .ok (.i2b, 1) := by decide +kernel
theorem d_Mdl_put_19 : decode b_Mdl_put 19 = .ok (.bastore, 1) := by decide +kernel
theorem d_Mdl_put_20 : decode b_Mdl_put 20 = .ok (.aload_n 0, 1) := by decide +kernel
theorem d_Mdl_put_21 : decode b_Mdl_put 21 = .ok (.dup, 1) := by decide +kernel
theorem d_Mdl_put_22 : decode b_Mdl_put 22 = .ok (.getfield 49, 3) := by decide +kernel
theorem d_Mdl_put_25 : decode b_Mdl_put 25 = .ok (.iconst 1, 1) := by decide +kernel
theorem d_Mdl_put_26 : decode b_Mdl_put 26 = .ok (.iadd, 1) := by decide +kernel
theorem d_Mdl_put_27 : decode b_Mdl_put 27 = .ok (.putfield 49, 3) := by decide +kernel
theorem d_Mdl_put_30 : decode b_Mdl_put 30 = .ok (.iinc 2 (-8), 3) := by decide +kernel
theorem d_Mdl_put_33 : decode b_Mdl_put 33 = .ok (.goto (-30), 3) := by decide +kernel
theorem d_Mdl_put_36 : decode b_Mdl_put 36 = .ok (.return_, 1) := by decide +kernel
theorem d_Mdl_end_0 : decode b_Mdl_end 0 = .ok (.iload_n 1, 1) := by decide +kernel
theorem d_Mdl_end_1 : decode b_Mdl_end 1 = .ok (.ifCond .lt 11, 3) := by decide +kernel
theorem d_Mdl_end_4 : decode b_Mdl_end 4 = .ok (.iload_n 1, 1) := by decide +kernel
theorem d_Mdl_end_5 : decode b_Mdl_end 5 = .ok (.aload_n 0, 1) := by decide +kernel
theorem d_Mdl_end_6 : decode b_Mdl_end 6 = .ok (.getfield 49, 3) := by decide +kernel
theorem d_Mdl_end_9 : decode b_Mdl_end 9 = .ok (.if_icmp .le 5, 3) := by decide +kernel
theorem d_Mdl_end_12 : decode b_Mdl_end 12 = .ok (.iconst (-1), 1) := by decide +kernel
theorem d_Mdl_end_13 : decode b_Mdl_end 13 = .ok (.ireturn, 1) := by decide +kernel
theorem d_Mdl_end_14 : decode b_Mdl_end 14 = .ok (.aload_n 0, 1) := by decide +kernel
theorem d_Mdl_end_15 : decode b_Mdl_end 15 = .ok (.iload_n 1, 1) := by decide +kernel
theorem d_Mdl_end_16 : decode b_Mdl_end 16 = .ok (.putfield 49, 3) := by decide +kernel
theorem d_Mdl_end_19 : decode b_Mdl_end 19 = .ok (.iload_n 1, 1) := by decide +kernel
theorem d_Mdl_end_20 : decode b_Mdl_end 20 = .ok (.ireturn, 1) := by decide +kernel
theorem d_Mdl_name_0 : decode b_Mdl_name 0 = .ok (.iload_n 1, 1) := by decide +kernel
theorem d_Mdl_name_1 : decode b_Mdl_name 1 = .ok (.ifCond .lt 18, 3) := by decide +kernel
theorem d_Mdl_name_4 : decode b_Mdl_name 4 = .ok (.iload_n 1, 1) := by decide +kernel
theorem d_Mdl_name_5 : decode b_Mdl_name 5 = .ok (.iconst 1, 1) := by decide +kernel
theorem d_Mdl_name_6 : decode b_Mdl_name 6 = .ok (.if_icmp .gt 13, 3) := by decide +kernel
theorem d_Mdl_name_9 : decode b_Mdl_name 9 = .ok (.aload_n 0, 1) := by decide +kernel
theorem d_Mdl_name_10 : decode b_Mdl_name 10 = .ok (.getfield 49, 3) := by decide +kernel
theorem d_Mdl_name_13 : decode b_Mdl_name 13 = .ok (.sipush 200, 3) := by decide +kernel
theorem d_Mdl_name_16 : decode b_Mdl_name 16 = .ok (.if_icmp .le 5, 3) := by decide +kernel
theorem d_Mdl_name_19 : decode b_Mdl_name 19 = .ok (.iconst (-1), 1) := by decide +kernel
theorem d_Mdl_name_20 : decode b_Mdl_name 20 = .ok (.ireturn, 1) := by decide +kernel
theorem d_Mdl_name_21 : decode b_Mdl_name 21 = .ok (.iconst 0, 1) := by decide +kernel
theorem d_Mdl_name_22 : decode b_Mdl_name 22 = .ok (.istore_n 2, 1) := by decide +kernel
theorem d_Mdl_name_23 : decode b_Mdl_name 23 = .ok (.iload_n 2, 1) := by decide +kernel
theorem d_Mdl_name_24 : decode b_Mdl_name 24 = .ok (.aload_n 0, 1) := by decide +kernel
theorem d_Mdl_name_25 : decode b_Mdl_name 25 = .ok (.getfield 49, 3) := by decide +kernel
theorem d_Mdl_name_28 : decode b_Mdl_name 28 = .ok (.if_icmp .ge 27, 3) := by decide +kernel
theorem d_Mdl_name_31 : decode b_Mdl_name 31 = .ok (.aload_n 0, 1) := by decide +kernel
theorem d_Mdl_name_32 : decode b_Mdl_name 32 = .ok (.getfield 13, 3) := by decide +kernel
theorem d_Mdl_name_35 : decode b_Mdl_name 35 = .ok (.sipush 200, 3) := by decide +kernel
theorem d_Mdl_name_38 : decode b_Mdl_name 38 = .ok (.iload_n 1, 1) := by decide +kernel
theorem d_Mdl_name_39 : decode b_Mdl_name 39 = .ok (.imul, 1) := by decide +kernel
theorem d_Mdl_name_40 : decode b_Mdl_name 40 = .ok (.iload_n 2, 1) := by decide +kernel
theorem d_Mdl_name_41 : decode b_Mdl_name 41 = .ok (.iadd, 1) := by decide +kernel
theorem d_Mdl_name_42 : decode b_Mdl_name 42 = .ok (.aload_n 0, 1) := by decide +kernel
theorem d_Mdl_name_43 : decode b_Mdl_name 43 = .ok (.getfield 7, 3) := by decide +kernel
theorem d_Mdl_name_46 : decode b_Mdl_name 46 = .ok (.iload_n 2, 1) := by decide +kernel
theorem d_Mdl_name_47 : decode b_Mdl_name 47 = .ok (.baload, 1) := by decide +kernel
theorem d_Mdl_name_48 : decode b_Mdl_name 48 = .ok (.bastore, 1) := by decide +kernel
theorem d_Mdl_name_49 : decode b_Mdl_name 49 = .ok (.iinc 2 1, 3) := by decide +kernel
theorem d_Mdl_name_52 : decode b_Mdl_name 52 = .ok (.goto (-29), 3) := by decide +kernel
theorem d_Mdl_name_55 : decode b_Mdl_name 55 = .ok (.aload_n 0, 1) := by decide +kernel
theorem d_Mdl_name_56 : decode b_Mdl_name 56 = .ok (.getfield 16, 3) := by decide +kernel
theorem d_Mdl_name_59 : decode b_Mdl_name 59 = .ok (.iload_n 1, 1) := by decide +kernel
theorem d_Mdl_name_60 : decode b_Mdl_name 60 = .ok (.aload_n 0, 1) := by decide +kernel
theorem d_Mdl_name_61 : decode b_Mdl_name 61 = .ok (.getfield 49, 3) := by decide +kernel
theorem d_Mdl_name_64 : decode b_Mdl_name 64 = .ok (.iastore, 1) := by decide +kernel
theorem d_Mdl_name_65 : decode b_Mdl_name 65 = .ok (.aload_n 0, 1) := by decide +kernel
theorem d_Mdl_name_66 : decode b_Mdl_name 66 = .ok (.iconst 0, 1) := by decide +kernel
theorem d_Mdl_name_67 : decode b_Mdl_name 67 = .ok (.putfield 49, 3) := by decide +kernel
theorem d_Mdl_name_70 : decode b_Mdl_name 70 = .ok (.aload_n 0, 1) := by decide +kernel
theorem d_Mdl_name_71 : decode b_Mdl_name 71 = .ok (.getfield 16, 3) := by decide +kernel
theorem d_Mdl_name_74 : decode b_Mdl_name 74 = .ok (.iload_n 1, 1) := by decide +kernel
theorem d_Mdl_name_75 : decode b_Mdl_name 75 = .ok (.iaload, 1) := by decide +kernel
theorem d_Mdl_name_76 : decode b_Mdl_name 76 = .ok (.ireturn, 1) := by decide +kernel
theorem d_Mdl_run_0 : decode b_Mdl_run 0 = .ok (.iload_n 1, 1) := by decide +kernel
theorem d_Mdl_run_1 : decode b_Mdl_run 1 = .ok (.ifCond .lt 45, 3) := by decide +kernel
theorem d_Mdl_run_4 : decode b_Mdl_run 4 = .ok (.iload_n 1, 1) := by decide +kernel
theorem d_Mdl_run_5 : decode b_Mdl_run 5 = .ok (.bipush 9, 2) := by decide +kernel
theorem d_Mdl_run_7 : decode b_Mdl_run 7 = .ok (.if_icmp .gt 39, 3) := by decide +kernel
theorem d_Mdl_run_10 : decode b_Mdl_run 10 = .ok (.iload_n 1, 1) := by decide +kernel
theorem d_Mdl_run_11 : decode b_Mdl_run 11 = .ok (.bipush 9, 2) := by decide +kernel
theorem d_Mdl_run_13 : decode b_Mdl_run 13 = .ok (.if_icmp .eq 12, 3) := by decide +kernel
theorem d_Mdl_run_16 : decode b_Mdl_run 16 = .ok (.aload_n 0, 1) := by decide +kernel
theorem d_Mdl_run_17 : decode b_Mdl_run 17 = .ok (.getfield 16, 3) := by decide +kernel
theorem d_Mdl_run_20 : decode b_Mdl_run 20 = .ok (.iconst 0, 1) := by decide +kernel
theorem d_Mdl_run_21 : decode b_Mdl_run 21 = .ok (.iaload, 1) := by decide +kernel
theorem d_Mdl_run_22 : decode b_Mdl_run 22 = .ok (.ifCond .eq 24, 3) := by decide +kernel
theorem d_Mdl_run_25 : decode b_Mdl_run 25 = .ok (.iload_n 1, 1) := by decide +kernel
theorem d_Mdl_run_26 : decode b_Mdl_run 26 = .ok (.bipush 6, 2) := by decide +kernel
theorem d_Mdl_run_28 : decode b_Mdl_run 28 = .ok (.if_icmp .eq 9, 3) := by decide +kernel
theorem d_Mdl_run_31 : decode b_Mdl_run 31 = .ok (.iload_n 1, 1) := by decide +kernel
theorem d_Mdl_run_32 : decode b_Mdl_run 32 = .ok (.bipush 7, 2) := by decide +kernel
theorem d_Mdl_run_34 : decode b_Mdl_run 34 = .ok (.if_icmp .ne 14, 3) := by decide +kernel
theorem d_Mdl_run_37 : decode b_Mdl_run 37 = .ok (.aload_n 0, 1) := by decide +kernel
theorem d_Mdl_run_38 : decode b_Mdl_run 38 = .ok (.getfield 16, 3) := by decide +kernel
theorem d_Mdl_run_41 : decode b_Mdl_run 41 = .ok (.iconst 1, 1) := by decide +kernel
theorem d_Mdl_run_42 : decode b_Mdl_run 42 = .ok (.iaload, 1) := by decide +kernel
theorem d_Mdl_run_43 : decode b_Mdl_run 43 = .ok (.ifCond .ne 5, 3) := by decide +kernel
theorem d_Mdl_run_46 : decode b_Mdl_run 46 = .ok (.iconst (-1), 1) := by decide +kernel
theorem d_Mdl_run_47 : decode b_Mdl_run 47 = .ok (.ireturn, 1) := by decide +kernel
theorem d_Mdl_run_48 : decode b_Mdl_run 48 = .ok (.iload_n 1, 1) := by decide +kernel
theorem d_Mdl_run_49 : decode b_Mdl_run 49 = .ok (.iconst 1, 1) := by decide +kernel
theorem d_Mdl_run_50 : decode b_Mdl_run 50 = .ok (.if_icmp .eq 13, 3) := by decide +kernel
theorem d_Mdl_run_53 : decode b_Mdl_run 53 = .ok (.iload_n 1, 1) := by decide +kernel
theorem d_Mdl_run_54 : decode b_Mdl_run 54 = .ok (.iconst 3, 1) := by decide +kernel
theorem d_Mdl_run_55 : decode b_Mdl_run 55 = .ok (.if_icmp .eq 8, 3) := by decide +kernel
theorem d_Mdl_run_58 : decode b_Mdl_run 58 = .ok (.iload_n 1, 1) := by decide +kernel
theorem d_Mdl_run_59 : decode b_Mdl_run 59 = .ok (.iconst 4, 1) := by decide +kernel
theorem d_Mdl_run_60 : decode b_Mdl_run 60 = .ok (.if_icmp .ne 14, 3) := by decide +kernel
theorem d_Mdl_run_63 : decode b_Mdl_run 63 = .ok (.iload_n 2, 1) := by decide +kernel
theorem d_Mdl_run_64 : decode b_Mdl_run 64 = .ok (.ifCond .lt 26, 3) := by decide +kernel
theorem d_Mdl_run_67 : decode b_Mdl_run 67 = .ok (.iload_n 2, 1) := by decide +kernel
theorem d_Mdl_run_68 : decode b_Mdl_run 68 = .ok (.sipush 8192, 3) := by decide +kernel
theorem d_Mdl_run_71 : decode b_Mdl_run 71 = .ok (.if_icmp .gt 19, 3) := by decide +kernel
theorem d_Mdl_run_74 : decode b_Mdl_run 74 = .ok (.iload_n 1, 1) := by decide +kernel
theorem d_Mdl_run_75 : decode b_Mdl_run 75 = .ok (.iconst 4, 1) := by decide +kernel
theorem d_Mdl_run_76 : decode b_Mdl_run 76 = .ok (.if_icmp .ne 16, 3) := by decide +kernel
theorem d_Mdl_run_79 : decode b_Mdl_run 79 = .ok (.iload_n 3, 1) := by decide +kernel
theorem d_Mdl_run_80 : decode b_Mdl_run 80 = .ok (.ifCond .lt 10, 3) := by decide +kernel
theorem d_Mdl_run_83 : decode b_Mdl_run 83 = .ok (.iload_n 3, 1) := by decide +kernel
theorem d_Mdl_run_84 : decode b_Mdl_run 84 = .ok (.sipush 2048, 3) := by decide +kernel
theorem d_Mdl_run_87 : decode b_Mdl_run 87 = .ok (.if_icmp .le 5, 3) := by decide +kernel
theorem d_Mdl_run_90 : decode b_Mdl_run 90 = .ok (.iconst (-1), 1) := by decide +kernel
theorem d_Mdl_run_91 : decode b_Mdl_run 91 = .ok (.ireturn, 1) := by decide +kernel
theorem d_Mdl_run_92 : decode b_Mdl_run 92 = .ok (.aload_n 0, 1) := by decide +kernel
theorem d_Mdl_run_93 : decode b_Mdl_run 93 = .ok (.iconst 0, 1) := by decide +kernel
theorem d_Mdl_run_94 : decode b_Mdl_run 94 = .ok (.putfield 85, 3) := by decide +kernel
theorem d_Mdl_run_97 : decode b_Mdl_run 97 = .ok (.aload_n 0, 1) := by decide +kernel
theorem d_Mdl_run_98 : decode b_Mdl_run 98 = .ok (.getfield 91, 3) := by decide +kernel
theorem d_Mdl_run_101 : decode b_Mdl_run 101 = .ok (.istore 4, 2) := by decide +kernel
theorem d_Mdl_run_103 : decode b_Mdl_run 103 = .ok (.aload_n 0, 1) := by decide +kernel
theorem d_Mdl_run_104 : decode b_Mdl_run 104 = .ok (.dup, 1) := by decide +kernel
theorem d_Mdl_run_105 : decode b_Mdl_run 105 = .ok (.getfield 91, 3) := by decide +kernel
theorem d_Mdl_run_108 : decode b_Mdl_run 108 = .ok (.iconst 1, 1) := by decide +kernel
theorem d_Mdl_run_109 : decode b_Mdl_run 109 = .ok (.iadd, 1) := by decide +kernel
theorem d_Mdl_run_110 : decode b_Mdl_run 110 = .ok (.putfield 91, 3) := by decide +kernel
theorem d_Mdl_run_113 : decode b_Mdl_run 113 = .ok (.aload_n 0, 1) := by decide +kernel
theorem d_Mdl_run_114 : decode b_Mdl_run 114 = .ok (.iconst 0, 1) := by decide +kernel
theorem d_Mdl_run_115 : decode b_Mdl_run 115 = .ok (.invokevirtual 74, 3) := by decide +kernel
theorem d_Mdl_run_118 : decode b_Mdl_run 118 = .ok (.istore 5, 2) := by decide +kernel
theorem d_Mdl_run_120 : decode b_Mdl_run 120 = .ok (.iload_n 1, 1) := by decide +kernel
theorem d_Mdl_run_121 : decode b_Mdl_run 121 = .ok (.tableswitch 156 0 8 #[51, 80, 89, 98, 104, 111, 128, 133, 138], 51) := by decide +kernel
theorem d_Mdl_run_172 : decode b_Mdl_run 172 = .ok (.iload 5, 2) := by decide +kernel
theorem d_Mdl_run_174 : decode b_Mdl_run 174 = .ok (.ifCond .lt 6, 3) := by decide +kernel
theorem d_Mdl_run_177 : decode b_Mdl_run 177 = .ok (.bipush (-3), 2) := by decide +kernel
theorem d_Mdl_run_179 : decode b_Mdl_run 179 = .ok (.ireturn, 1) := by decide +kernel
theorem d_Mdl_run_180 : decode b_Mdl_run 180 = .ok (.aload_n 0, 1) := by decide +kernel
theorem d_Mdl_run_181 : decode b_Mdl_run 181 = .ok (.getfield 57, 3) := by decide +kernel
theorem d_Mdl_run_184 : decode b_Mdl_run 184 = .ok (.bipush 48, 2) := by decide +kernel
theorem d_Mdl_run_186 : decode b_Mdl_run 186 = .ok (.if_icmp .ne 6, 3) := by decide +kernel
theorem d_Mdl_run_189 : decode b_Mdl_run 189 = .ok (.bipush (-4), 2) := by decide +kernel
theorem d_Mdl_run_191 : decode b_Mdl_run 191 = .ok (.ireturn, 1) := by decide +kernel
theorem d_Mdl_run_192 : decode b_Mdl_run 192 = .ok (.aload_n 0, 1) := by decide +kernel
theorem d_Mdl_run_193 : decode b_Mdl_run 193 = .ok (.iload 4, 2) := by decide +kernel
theorem d_Mdl_run_195 : decode b_Mdl_run 195 = .ok (.invokevirtual 79, 3) := by decide +kernel
theorem d_Mdl_run_198 : decode b_Mdl_run 198 = .ok (.pop, 1) := by decide +kernel
theorem d_Mdl_run_199 : decode b_Mdl_run 199 = .ok (.iconst 0, 1) := by decide +kernel
theorem d_Mdl_run_200 : decode b_Mdl_run 200 = .ok (.ireturn, 1) := by decide +kernel
theorem d_Mdl_run_201 : decode b_Mdl_run 201 = .ok (.aload_n 0, 1) := by decide +kernel
theorem d_Mdl_run_202 : decode b_Mdl_run 202 = .ok (.iload 4, 2) := by decide +kernel
theorem d_Mdl_run_204 : decode b_Mdl_run 204 = .ok (.iload_n 2, 1) := by decide +kernel
theorem d_Mdl_run_205 : decode b_Mdl_run 205 = .ok (.iconst 0, 1) := by decide +kernel
theorem d_Mdl_run_206 : decode b_Mdl_run 206 = .ok (.invokevirtual 94, 3) := by decide +kernel
theorem d_Mdl_run_209 : decode b_Mdl_run 209 = .ok (.ireturn, 1) := by decide +kernel
theorem d_Mdl_run_210 : decode b_Mdl_run 210 = .ok (.aload_n 0, 1) := by decide +kernel
theorem d_Mdl_run_211 : decode b_Mdl_run 211 = .ok (.iload 4, 2) := by decide +kernel
theorem d_Mdl_run_213 : decode b_Mdl_run 213 = .ok (.iconst 0, 1) := by decide +kernel
theorem d_Mdl_run_214 : decode b_Mdl_run 214 = .ok (.iconst 1, 1) := by decide +kernel
theorem d_Mdl_run_215 : decode b_Mdl_run 215 = .ok (.invokevirtual 94, 3) := by decide +kernel
theorem d_Mdl_run_218 : decode b_Mdl_run 218 = .ok (.ireturn, 1) := by decide +kernel
theorem d_Mdl_run_219 : decode b_Mdl_run 219 = .ok (.aload_n 0, 1) := by decide +kernel
theorem d_Mdl_run_220 : decode b_Mdl_run 220 = .ok (.iload_n 2, 1) := by decide +kernel
theorem d_Mdl_run_221 : decode b_Mdl_run 221 = .ok (.invokevirtual 98, 3) := by decide +kernel
theorem d_Mdl_run_224 : decode b_Mdl_run 224 = .ok (.ireturn, 1) := by decide +kernel
theorem d_Mdl_run_225 : decode b_Mdl_run 225 = .ok (.aload_n 0, 1) := by decide +kernel
theorem d_Mdl_run_226 : decode b_Mdl_run 226 = .ok (.iload_n 2, 1) := by decide +kernel
theorem d_Mdl_run_227 : decode b_Mdl_run 227 = .ok (.iload_n 3, 1) := by decide +kernel
theorem d_Mdl_run_228 : decode b_Mdl_run 228 = .ok (.invokevirtual 101, 3) := by decide +kernel
theorem d_Mdl_run_231 : decode b_Mdl_run 231 = .ok (.ireturn, 1) := by decide +kernel
theorem d_Mdl_run_232 : decode b_Mdl_run 232 = .ok (.iload 5, 2) := by decide +kernel
theorem d_Mdl_run_234 : decode b_Mdl_run 234 = .ok (.ifCond .ge 8, 3) := by decide +kernel
theorem d_Mdl_run_237 : decode b_Mdl_run 237 = .ok (.bipush (-2), 2) := by decide +kernel
theorem d_Mdl_run_239 : decode b_Mdl_run 239 = .ok (.goto 9, 3) := by decide +kernel
theorem d_Mdl_run_242 : decode b_Mdl_run 242 = .ok (.aload_n 0, 1) := by decide +kernel
theorem d_Mdl_run_243 : decode b_Mdl_run 243 = .ok (.iload 5, 2) := by decide +kernel
theorem d_Mdl_run_245 : decode b_Mdl_run 245 = .ok (.invokevirtual 88, 3) := by decide +kernel
theorem d_Mdl_run_248 : decode b_Mdl_run 248 = .ok (.ireturn, 1) := by decide +kernel
theorem d_Mdl_run_249 : decode b_Mdl_run 249 = .ok (.aload_n 0, 1) := by decide +kernel
theorem d_Mdl_run_250 : decode b_Mdl_run 250 = .ok (.invokevirtual 104, 3) := by decide +kernel
theorem d_Mdl_run_253 : decode b_Mdl_run 253 = .ok (.ireturn, 1) := by decide +kernel
theorem d_Mdl_run_254 : decode b_Mdl_run 254 = .ok (.aload_n 0, 1) := by decide +kernel
theorem d_Mdl_run_255 : decode b_Mdl_run 255 = .ok (.invokevirtual 108, 3) := by decide +kernel
theorem d_Mdl_run_258 : decode b_Mdl_run 258 = .ok (.ireturn, 1) := by decide +kernel
theorem d_Mdl_run_259 : decode b_Mdl_run 259 = .ok (.iload 5, 2) := by decide +kernel
theorem d_Mdl_run_261 : decode b_Mdl_run 261 = .ok (.ifCond .ge 8, 3) := by decide +kernel
theorem d_Mdl_run_264 : decode b_Mdl_run 264 = .ok (.bipush (-2), 2) := by decide +kernel
theorem d_Mdl_run_266 : decode b_Mdl_run 266 = .ok (.goto 10, 3) := by decide +kernel
theorem d_Mdl_run_269 : decode b_Mdl_run 269 = .ok (.aload_n 0, 1) := by decide +kernel
theorem d_Mdl_run_270 : decode b_Mdl_run 270 = .ok (.getfield 36, 3) := by decide +kernel
theorem d_Mdl_run_273 : decode b_Mdl_run 273 = .ok (.iload 5, 2) := by decide +kernel
theorem d_Mdl_run_275 : decode b_Mdl_run 275 = .ok (.iaload, 1) := by decide +kernel
theorem d_Mdl_run_276 : decode b_Mdl_run 276 = .ok (.ireturn, 1) := by decide +kernel
theorem d_Mdl_run_277 : decode b_Mdl_run 277 = .ok (.aload_n 0, 1) := by decide +kernel
theorem d_Mdl_run_278 : decode b_Mdl_run 278 = .ok (.invokevirtual 111, 3) := by decide +kernel
theorem d_Mdl_run_281 : decode b_Mdl_run 281 = .ok (.ireturn, 1) := by decide +kernel
theorem d_Mdl_find_0 : decode b_Mdl_find 0 = .ok (.iconst 0, 1) := by decide +kernel
theorem d_Mdl_find_1 : decode b_Mdl_find 1 = .ok (.istore_n 2, 1) := by decide +kernel
theorem d_Mdl_find_2 : decode b_Mdl_find 2 = .ok (.iload_n 2, 1) := by decide +kernel
theorem d_Mdl_find_3 : decode b_Mdl_find 3 = .ok (.aload_n 0, 1) := by decide +kernel
theorem d_Mdl_find_4 : decode b_Mdl_find 4 = .ok (.getfield 57, 3) := by decide +kernel
theorem d_Mdl_find_7 : decode b_Mdl_find 7 = .ok (.if_icmp .ge 30, 3) := by decide +kernel
theorem d_Mdl_find_10 : decode b_Mdl_find 10 = .ok (.aload_n 0, 1) := by decide +kernel
theorem d_Mdl_find_11 : decode b_Mdl_find 11 = .ok (.aload_n 0, 1) := by decide +kernel
theorem d_Mdl_find_12 : decode b_Mdl_find 12 = .ok (.getfield 20, 3) := by decide +kernel
theorem d_Mdl_find_15 : decode b_Mdl_find 15 = .ok (.iload_n 2, 1) := by decide +kernel
theorem d_Mdl_find_16 : decode b_Mdl_find 16 = .ok (.iaload, 1) := by decide +kernel
theorem d_Mdl_find_17 : decode b_Mdl_find 17 = .ok (.iload_n 1, 1) := by decide +kernel
theorem d_Mdl_find_18 : decode b_Mdl_find 18 = .ok (.invokevirtual 60, 3) := by decide +kernel
theorem d_Mdl_find_21 : decode b_Mdl_find 21 = .ok (.ifCond .ne 10, 3) := by decide +kernel
theorem d_Mdl_find_24 : decode b_Mdl_find 24 = .ok (.aload_n 0, 1) := by decide +kernel
theorem d_Mdl_find_25 : decode b_Mdl_find 25 = .ok (.getfield 20, 3) := by decide +kernel
theorem d_Mdl_find_28 : decode b_Mdl_find 28 = .ok (.iload_n 2, 1) := by decide +kernel
theorem d_Mdl_find_29 : decode b_Mdl_find 29 = .ok (.iaload, 1) := by decide +kernel
theorem d_Mdl_find_30 : decode b_Mdl_find 30 = .ok (.ireturn, 1) := by decide +kernel
theorem d_Mdl_find_31 : decode b_Mdl_find 31 = .ok (.iinc 2 1, 3) := by decide +kernel
theorem d_Mdl_find_34 : decode b_Mdl_find 34 = .ok (.goto (-32), 3) := by decide +kernel
theorem d_Mdl_find_37 : decode b_Mdl_find 37 = .ok (.iconst (-1), 1) := by decide +kernel
theorem d_Mdl_find_38 : decode b_Mdl_find 38 = .ok (.ireturn, 1) := by decide +kernel
theorem d_Mdl_compare_0 : decode b_Mdl_compare 0 = .ok (.aload_n 0, 1) := by decide +kernel
theorem d_Mdl_compare_1 : decode b_Mdl_compare 1 = .ok (.getfield 16, 3) := by decide +kernel
theorem d_Mdl_compare_4 : decode b_Mdl_compare 4 = .ok (.iload_n 2, 1) := by decide +kernel
theorem d_Mdl_compare_5 : decode b_Mdl_compare 5 = .ok (.iaload, 1) := by decide +kernel
theorem d_Mdl_compare_6 : decode b_Mdl_compare 6 = .ok (.istore_n 3, 1) := by decide +kernel
theorem d_Mdl_compare_7 : decode b_Mdl_compare 7 = .ok (.aload_n 0, 1) := by decide +kernel
theorem d_Mdl_compare_8 : decode b_Mdl_compare 8 = .ok (.getfield 30, 3) := by decide +kernel
theorem d_Mdl_compare_11 : decode b_Mdl_compare 11 = .ok (.iload_n 1, 1) := by decide +kernel
theorem d_Mdl_compare_12 : decode b_Mdl_compare 12 = .ok (.iaload, 1) := by decide +kernel
theorem d_Mdl_compare_13 : decode b_Mdl_compare 13 = .ok (.istore 4, 2) := by decide +kernel
theorem d_Mdl_compare_15 : decode b_Mdl_compare 15 = .ok (.iconst 0, 1) := by decide +kernel
theorem d_Mdl_compare_16 : decode b_Mdl_compare 16 = .ok (.istore 5, 2) := by decide +kernel
theorem d_Mdl_compare_18 : decode b_Mdl_compare 18 = .ok (.iload 5, 2) := by decide +kernel
theorem d_Mdl_compare_20 : decode b_Mdl_compare 20 = .ok (.iload_n 3, 1) := by decide +kernel
theorem d_Mdl_compare_21 : decode b_Mdl_compare 21 = .ok (.if_icmp .ge 67, 3) := by decide +kernel
theorem d_Mdl_compare_24 : decode b_Mdl_compare 24 = .ok (.iload 5, 2) := by decide +kernel
theorem d_Mdl_compare_26 : decode b_Mdl_compare 26 = .ok (.iload 4, 2) := by decide +kernel
theorem d_Mdl_compare_28 : decode b_Mdl_compare 28 = .ok (.if_icmp .ge 60, 3) := by decide +kernel
theorem d_Mdl_compare_31 : decode b_Mdl_compare 31 = .ok (.aload_n 0, 1) := by decide +kernel
theorem d_Mdl_compare_32 : decode b_Mdl_compare 32 = .ok (.getfield 27, 3) := by decide +kernel
theorem d_Mdl_compare_35 : decode b_Mdl_compare 35 = .ok (.sipush 200, 3) := by decide +kernel
theorem d_Mdl_compare_38 : decode b_Mdl_compare 38 = .ok (.iload_n 1, 1) := by decide +kernel
theorem d_Mdl_compare_39 : decode b_Mdl_compare 39 = .ok (.imul, 1) := by decide +kernel
theorem d_Mdl_compare_40 : decode b_Mdl_compare 40 = .ok (.iload 5, 2) := by decide +kernel
theorem d_Mdl_compare_42 : decode b_Mdl_compare 42 = .ok (.iadd, 1) := by decide +kernel
theorem d_Mdl_compare_43 : decode b_Mdl_compare 43 = .ok (.baload, 1) := by decide +kernel
theorem d_Mdl_compare_44 : decode b_Mdl_compare 44 = .ok (.sipush 255, 3) := by decide +kernel
theorem d_Mdl_compare_47 : decode b_Mdl_compare 47 = .ok (.iand, 1) := by decide +kernel
theorem d_Mdl_compare_48 : decode b_Mdl_compare 48 = .ok (.istore 6, 2) := by decide +kernel
theorem d_Mdl_compare_50 : decode b_Mdl_compare 50 = .ok (.aload_n 0, 1) := by decide +kernel
theorem d_Mdl_compare_51 : decode b_Mdl_compare 51 = .ok (.getfield 13, 3) := by decide +kernel
theorem d_Mdl_compare_54 : decode b_Mdl_compare 54 = .ok (.sipush 200, 3) := by decide +kernel
theorem d_Mdl_compare_57 : decode b_Mdl_compare 57 = .ok (.iload_n 2, 1) := by decide +kernel
theorem d_Mdl_compare_58 : decode b_Mdl_compare 58 = .ok (.imul, 1) := by decide +kernel
theorem d_Mdl_compare_59 : decode b_Mdl_compare 59 = .ok (.iload 5, 2) := by decide +kernel
theorem d_Mdl_compare_61 : decode b_Mdl_compare 61 = .ok (.iadd, 1) := by decide +kernel
theorem d_Mdl_compare_62 : decode b_Mdl_compare 62 = .ok (.baload, 1) := by decide +kernel
theorem d_Mdl_compare_63 : decode b_Mdl_compare 63 = .ok (.sipush 255, 3) := by decide +kernel
theorem d_Mdl_compare_66 : decode b_Mdl_compare 66 = .ok (.iand, 1) := by decide +kernel
theorem d_Mdl_compare_67 : decode b_Mdl_compare 67 = .ok (.istore 7, 2) := by decide +kernel
theorem d_Mdl_compare_69 : decode b_Mdl_compare 69 = .ok (.iload 6, 2) := by decide +kernel
theorem d_Mdl_compare_71 : decode b_Mdl_compare 71 = .ok (.iload 7, 2) := by decide +kernel
theorem d_Mdl_compare_73 : decode b_Mdl_compare 73 = .ok (.if_icmp .eq 9, 3) := by decide +kernel
theorem d_Mdl_compare_76 : decode b_Mdl_compare 76 = .ok (.iload 6, 2) := by decide +kernel
theorem d_Mdl_compare_78 : decode b_Mdl_compare 78 = .ok (.iload 7, 2) := by decide +kernel
theorem d_Mdl_compare_80 : decode b_Mdl_compare 80 = .ok (.isub, 1) := by decide +kernel
theorem d_Mdl_compare_81 : decode b_Mdl_compare 81 = .ok (.ireturn, 1) := by decide +kernel
theorem d_Mdl_compare_82 : decode b_Mdl_compare 82 = .ok (.iinc 5 1, 3) := by decide +kernel
theorem d_Mdl_compare_85 : decode b_Mdl_compare 85 = .ok (.goto (-67), 3) := by decide +kernel
theorem d_Mdl_compare_88 : decode b_Mdl_compare 88 = .ok (.iload 4, 2) := by decide +kernel
theorem d_Mdl_compare_90 : decode b_Mdl_compare 90 = .ok (.iload_n 3, 1) := by decide +kernel
theorem d_Mdl_compare_91 : decode b_Mdl_compare 91 = .ok (.isub, 1) := by decide +kernel
theorem d_Mdl_compare_92 : decode b_Mdl_compare 92 = .ok (.ireturn, 1) := by decide +kernel
theorem d_Mdl_made_0 : decode b_Mdl_made 0 = .ok (.iconst 0, 1) := by decide +kernel
theorem d_Mdl_made_1 : decode b_Mdl_made 1 = .ok (.istore_n 2, 1) := by decide +kernel
theorem d_Mdl_made_2 : decode b_Mdl_made 2 = .ok (.aload_n 0, 1) := by decide +kernel
theorem d_Mdl_made_3 : decode b_Mdl_made 3 = .ok (.getfield 23, 3) := by decide +kernel
theorem d_Mdl_made_6 : decode b_Mdl_made 6 = .ok (.iload_n 2, 1) := by decide +kernel
theorem d_Mdl_made_7 : decode b_Mdl_made 7 = .ok (.baload, 1) := by decide +kernel
theorem d_Mdl_made_8 : decode b_Mdl_made 8 = .ok (.ifCond .eq 9, 3) := by decide +kernel
theorem d_Mdl_made_11 : decode b_Mdl_made 11 = .ok (.iinc 2 1, 3) := by decide +kernel
theorem d_Mdl_made_14 : decode b_Mdl_made 14 = .ok (.goto (-12), 3) := by decide +kernel
theorem d_Mdl_made_17 : decode b_Mdl_made 17 = .ok (.aload_n 0, 1) := by decide +kernel
theorem d_Mdl_made_18 : decode b_Mdl_made 18 = .ok (.getfield 23, 3) := by decide +kernel
theorem d_Mdl_made_21 : decode b_Mdl_made 21 = .ok (.iload_n 2, 1) := by decide +kernel
theorem d_Mdl_made_22 : decode b_Mdl_made 22 = .ok (.iconst 1, 1) := by decide +kernel
theorem d_Mdl_made_23 : decode b_Mdl_made 23 = .ok (.bastore, 1) := by decide +kernel
theorem d_Mdl_made_24 : decode b_Mdl_made 24 = .ok (.aload_n 0, 1) := by decide +kernel
theorem d_Mdl_made_25 : decode b_Mdl_made 25 = .ok (.getfield 33, 3) := by decide +kernel
theorem d_Mdl_made_28 : decode b_Mdl_made 28 = .ok (.iload_n 2, 1) := by decide +kernel
theorem d_Mdl_made_29 : decode b_Mdl_made 29 = .ok (.iload_n 1, 1) := by decide +kernel
theorem d_Mdl_made_30 : decode b_Mdl_made 30 = .ok (.iastore, 1) := by decide +kernel
theorem d_Mdl_made_31 : decode b_Mdl_made 31 = .ok (.aload_n 0, 1) := by decide +kernel
end
section
theorem d_Mdl_made_32 : decode b_Mdl_made 32 = .ok (.getfield 36, 3) := by decide +kernel
theorem d_Mdl_made_35 : decode b_Mdl_made 35 = .ok (.iload_n 2, 1) := by decide +kernel
theorem d_Mdl_made_36 : decode b_Mdl_made 36 = .ok (.iconst 0, 1) := by decide +kernel
theorem d_Mdl_made_37 : decode b_Mdl_made 37 = .ok (.iastore, 1) := by decide +kernel
theorem d_Mdl_made_38 : decode b_Mdl_made 38 = .ok (.iconst 0, 1) := by decide +kernel
theorem d_Mdl_made_39 : decode b_Mdl_made 39 = .ok (.istore_n 3, 1) := by decide +kernel
theorem d_Mdl_made_40 : decode b_Mdl_made 40 = .ok (.iload_n 3, 1) := by decide +kernel
theorem d_Mdl_made_41 : decode b_Mdl_made 41 = .ok (.bipush 19, 2) := by decide +kernel
theorem d_Mdl_made_43 : decode b_Mdl_made 43 = .ok (.if_icmp .ge 21, 3) := by decide +kernel
theorem d_Mdl_made_46 : decode b_Mdl_made 46 = .ok (.aload_n 0, 1) := by decide +kernel
theorem d_Mdl_made_47 : decode b_Mdl_made 47 = .ok (.getfield 43, 3) := by decide +kernel
theorem d_Mdl_made_50 : decode b_Mdl_made 50 = .ok (.bipush 19, 2) := by decide +kernel
theorem d_Mdl_made_52 : decode b_Mdl_made 52 = .ok (.iload_n 2, 1) := by decide +kernel
theorem d_Mdl_made_53 : decode b_Mdl_made 53 = .ok (.imul, 1) := by decide +kernel
theorem d_Mdl_made_54 : decode b_Mdl_made 54 = .ok (.iload_n 3, 1) := by decide +kernel
theorem d_Mdl_made_55 : decode b_Mdl_made 55 = .ok (.iadd, 1) := by decide +kernel
theorem d_Mdl_made_56 : decode b_Mdl_made 56 = .ok (.iconst 0, 1) := by decide +kernel
theorem d_Mdl_made_57 : decode b_Mdl_made 57 = .ok (.bastore, 1) := by decide +kernel
theorem d_Mdl_made_58 : decode b_Mdl_made 58 = .ok (.iinc 3 1, 3) := by decide +kernel
theorem d_Mdl_made_61 : decode b_Mdl_made 61 = .ok (.goto (-21), 3) := by decide +kernel
theorem d_Mdl_made_64 : decode b_Mdl_made 64 = .ok (.aload_n 0, 1) := by decide +kernel
theorem d_Mdl_made_65 : decode b_Mdl_made 65 = .ok (.iload_n 2, 1) := by decide +kernel
theorem d_Mdl_made_66 : decode b_Mdl_made 66 = .ok (.iconst 0, 1) := by decide +kernel
theorem d_Mdl_made_67 : decode b_Mdl_made 67 = .ok (.invokevirtual 64, 3) := by decide +kernel
theorem d_Mdl_made_70 : decode b_Mdl_made 70 = .ok (.iload_n 2, 1) := by decide +kernel
theorem d_Mdl_made_71 : decode b_Mdl_made 71 = .ok (.ireturn, 1) := by decide +kernel
theorem d_Mdl_enter_0 : decode b_Mdl_enter 0 = .ok (.aload_n 0, 1) := by decide +kernel
theorem d_Mdl_enter_1 : decode b_Mdl_enter 1 = .ok (.getfield 57, 3) := by decide +kernel
theorem d_Mdl_enter_4 : decode b_Mdl_enter 4 = .ok (.istore_n 3, 1) := by decide +kernel
theorem d_Mdl_enter_5 : decode b_Mdl_enter 5 = .ok (.iload_n 3, 1) := by decide +kernel
theorem d_Mdl_enter_6 : decode b_Mdl_enter 6 = .ok (.ifCond .le 39, 3) := by decide +kernel
theorem d_Mdl_enter_9 : decode b_Mdl_enter 9 = .ok (.aload_n 0, 1) := by decide +kernel
theorem d_Mdl_enter_10 : decode b_Mdl_enter 10 = .ok (.aload_n 0, 1) := by decide +kernel
theorem d_Mdl_enter_11 : decode b_Mdl_enter 11 = .ok (.getfield 20, 3) := by decide +kernel
theorem d_Mdl_enter_14 : decode b_Mdl_enter 14 = .ok (.iload_n 3, 1) := by decide +kernel
theorem d_Mdl_enter_15 : decode b_Mdl_enter 15 = .ok (.iconst 1, 1) := by decide +kernel
theorem d_Mdl_enter_16 : decode b_Mdl_enter 16 = .ok (.isub, 1) := by decide +kernel
theorem d_Mdl_enter_17 : decode b_Mdl_enter 17 = .ok (.iaload, 1) := by decide +kernel
theorem d_Mdl_enter_18 : decode b_Mdl_enter 18 = .ok (.iload_n 2, 1) := by decide +kernel
theorem d_Mdl_enter_19 : decode b_Mdl_enter 19 = .ok (.invokevirtual 60, 3) := by decide +kernel
theorem d_Mdl_enter_22 : decode b_Mdl_enter 22 = .ok (.ifCond .le 23, 3) := by decide +kernel
theorem d_Mdl_enter_25 : decode b_Mdl_enter 25 = .ok (.aload_n 0, 1) := by decide +kernel
theorem d_Mdl_enter_26 : decode b_Mdl_enter 26 = .ok (.getfield 20, 3) := by decide +kernel
theorem d_Mdl_enter_29 : decode b_Mdl_enter 29 = .ok (.iload_n 3, 1) := by decide +kernel
theorem d_Mdl_enter_30 : decode b_Mdl_enter 30 = .ok (.aload_n 0, 1) := by decide +kernel
theorem d_Mdl_enter_31 : decode b_Mdl_enter 31 = .ok (.getfield 20, 3) := by decide +kernel
theorem d_Mdl_enter_34 : decode b_Mdl_enter 34 = .ok (.iload_n 3, 1) := by decide +kernel
theorem d_Mdl_enter_35 : decode b_Mdl_enter 35 = .ok (.iconst 1, 1) := by decide +kernel
theorem d_Mdl_enter_36 : decode b_Mdl_enter 36 = .ok (.isub, 1) := by decide +kernel
theorem d_Mdl_enter_37 : decode b_Mdl_enter 37 = .ok (.iaload, 1) := by decide +kernel
theorem d_Mdl_enter_38 : decode b_Mdl_enter 38 = .ok (.iastore, 1) := by decide +kernel
theorem d_Mdl_enter_39 : decode b_Mdl_enter 39 = .ok (.iinc 3 (-1), 3) := by decide +kernel
theorem d_Mdl_enter_42 : decode b_Mdl_enter 42 = .ok (.goto (-37), 3) := by decide +kernel
theorem d_Mdl_enter_45 : decode b_Mdl_enter 45 = .ok (.aload_n 0, 1) := by decide +kernel
theorem d_Mdl_enter_46 : decode b_Mdl_enter 46 = .ok (.getfield 20, 3) := by decide +kernel
theorem d_Mdl_enter_49 : decode b_Mdl_enter 49 = .ok (.iload_n 3, 1) := by decide +kernel
theorem d_Mdl_enter_50 : decode b_Mdl_enter 50 = .ok (.iload_n 1, 1) := by decide +kernel
theorem d_Mdl_enter_51 : decode b_Mdl_enter 51 = .ok (.iastore, 1) := by decide +kernel
theorem d_Mdl_enter_52 : decode b_Mdl_enter 52 = .ok (.aload_n 0, 1) := by decide +kernel
theorem d_Mdl_enter_53 : decode b_Mdl_enter 53 = .ok (.dup, 1) := by decide +kernel
theorem d_Mdl_enter_54 : decode b_Mdl_enter 54 = .ok (.getfield 57, 3) := by decide +kernel
theorem d_Mdl_enter_57 : decode b_Mdl_enter 57 = .ok (.iconst 1, 1) := by decide +kernel
theorem d_Mdl_enter_58 : decode b_Mdl_enter 58 = .ok (.iadd, 1) := by decide +kernel
theorem d_Mdl_enter_59 : decode b_Mdl_enter 59 = .ok (.putfield 57, 3) := by decide +kernel
theorem d_Mdl_enter_62 : decode b_Mdl_enter 62 = .ok (.iconst 0, 1) := by decide +kernel
theorem d_Mdl_enter_63 : decode b_Mdl_enter 63 = .ok (.istore 4, 2) := by decide +kernel
theorem d_Mdl_enter_65 : decode b_Mdl_enter 65 = .ok (.iload 4, 2) := by decide +kernel
theorem d_Mdl_enter_67 : decode b_Mdl_enter 67 = .ok (.aload_n 0, 1) := by decide +kernel
theorem d_Mdl_enter_68 : decode b_Mdl_enter 68 = .ok (.getfield 16, 3) := by decide +kernel
theorem d_Mdl_enter_71 : decode b_Mdl_enter 71 = .ok (.iload_n 2, 1) := by decide +kernel
theorem d_Mdl_enter_72 : decode b_Mdl_enter 72 = .ok (.iaload, 1) := by decide +kernel
theorem d_Mdl_enter_73 : decode b_Mdl_enter 73 = .ok (.if_icmp .ge 35, 3) := by decide +kernel
theorem d_Mdl_enter_76 : decode b_Mdl_enter 76 = .ok (.aload_n 0, 1) := by decide +kernel
theorem d_Mdl_enter_77 : decode b_Mdl_enter 77 = .ok (.getfield 27, 3) := by decide +kernel
theorem d_Mdl_enter_80 : decode b_Mdl_enter 80 = .ok (.sipush 200, 3) := by decide +kernel
theorem d_Mdl_enter_83 : decode b_Mdl_enter 83 = .ok (.iload_n 1, 1) := by decide +kernel
theorem d_Mdl_enter_84 : decode b_Mdl_enter 84 = .ok (.imul, 1) := by decide +kernel
theorem d_Mdl_enter_85 : decode b_Mdl_enter 85 = .ok (.iload 4, 2) := by decide +kernel
theorem d_Mdl_enter_87 : decode b_Mdl_enter 87 = .ok (.iadd, 1) := by decide +kernel
theorem d_Mdl_enter_88 : decode b_Mdl_enter 88 = .ok (.aload_n 0, 1) := by decide +kernel
theorem d_Mdl_enter_89 : decode b_Mdl_enter 89 = .ok (.getfield 13, 3) := by decide +kernel
theorem d_Mdl_enter_92 : decode b_Mdl_enter 92 = .ok (.sipush 200, 3) := by decide +kernel
theorem d_Mdl_enter_95 : decode b_Mdl_enter 95 = .ok (.iload_n 2, 1) := by decide +kernel
theorem d_Mdl_enter_96 : decode b_Mdl_enter 96 = .ok (.imul, 1) := by decide +kernel
theorem d_Mdl_enter_97 : decode b_Mdl_enter 97 = .ok (.iload 4, 2) := by decide +kernel
theorem d_Mdl_enter_99 : decode b_Mdl_enter 99 = .ok (.iadd, 1) := by decide +kernel
theorem d_Mdl_enter_100 : decode b_Mdl_enter 100 = .ok (.baload, 1) := by decide +kernel
theorem d_Mdl_enter_101 : decode b_Mdl_enter 101 = .ok (.bastore, 1) := by decide +kernel
theorem d_Mdl_enter_102 : decode b_Mdl_enter 102 = .ok (.iinc 4 1, 3) := by decide +kernel
theorem d_Mdl_enter_105 : decode b_Mdl_enter 105 = .ok (.goto (-40), 3) := by decide +kernel
theorem d_Mdl_enter_108 : decode b_Mdl_enter 108 = .ok (.aload_n 0, 1) := by decide +kernel
theorem d_Mdl_enter_109 : decode b_Mdl_enter 109 = .ok (.getfield 30, 3) := by decide +kernel
theorem d_Mdl_enter_112 : decode b_Mdl_enter 112 = .ok (.iload_n 1, 1) := by decide +kernel
theorem d_Mdl_enter_113 : decode b_Mdl_enter 113 = .ok (.aload_n 0, 1) := by decide +kernel
theorem d_Mdl_enter_114 : decode b_Mdl_enter 114 = .ok (.getfield 16, 3) := by decide +kernel
theorem d_Mdl_enter_117 : decode b_Mdl_enter 117 = .ok (.iload_n 2, 1) := by decide +kernel
theorem d_Mdl_enter_118 : decode b_Mdl_enter 118 = .ok (.iaload, 1) := by decide +kernel
theorem d_Mdl_enter_119 : decode b_Mdl_enter 119 = .ok (.iastore, 1) := by decide +kernel
theorem d_Mdl_enter_120 : decode b_Mdl_enter 120 = .ok (.return_, 1) := by decide +kernel
theorem d_Mdl_write_0 : decode b_Mdl_write 0 = .ok (.aload_n 0, 1) := by decide +kernel
theorem d_Mdl_write_1 : decode b_Mdl_write 1 = .ok (.getfield 49, 3) := by decide +kernel
theorem d_Mdl_write_4 : decode b_Mdl_write 4 = .ok (.istore 4, 2) := by decide +kernel
theorem d_Mdl_write_6 : decode b_Mdl_write 6 = .ok (.aload_n 0, 1) := by decide +kernel
theorem d_Mdl_write_7 : decode b_Mdl_write 7 = .ok (.iconst 0, 1) := by decide +kernel
theorem d_Mdl_write_8 : decode b_Mdl_write 8 = .ok (.putfield 49, 3) := by decide +kernel
theorem d_Mdl_write_11 : decode b_Mdl_write 11 = .ok (.aload_n 0, 1) := by decide +kernel
theorem d_Mdl_write_12 : decode b_Mdl_write 12 = .ok (.iconst 0, 1) := by decide +kernel
theorem d_Mdl_write_13 : decode b_Mdl_write 13 = .ok (.invokevirtual 74, 3) := by decide +kernel
theorem d_Mdl_write_16 : decode b_Mdl_write 16 = .ok (.istore 5, 2) := by decide +kernel
theorem d_Mdl_write_18 : decode b_Mdl_write 18 = .ok (.iload 5, 2) := by decide +kernel
theorem d_Mdl_write_20 : decode b_Mdl_write 20 = .ok (.ifCond .ge 7, 3) := by decide +kernel
theorem d_Mdl_write_23 : decode b_Mdl_write 23 = .ok (.iconst 0, 1) := by decide +kernel
theorem d_Mdl_write_24 : decode b_Mdl_write 24 = .ok (.goto 10, 3) := by decide +kernel
theorem d_Mdl_write_27 : decode b_Mdl_write 27 = .ok (.aload_n 0, 1) := by decide +kernel
theorem d_Mdl_write_28 : decode b_Mdl_write 28 = .ok (.getfield 36, 3) := by decide +kernel
theorem d_Mdl_write_31 : decode b_Mdl_write 31 = .ok (.iload 5, 2) := by decide +kernel
theorem d_Mdl_write_33 : decode b_Mdl_write 33 = .ok (.iaload, 1) := by decide +kernel
theorem d_Mdl_write_34 : decode b_Mdl_write 34 = .ok (.istore 6, 2) := by decide +kernel
theorem d_Mdl_write_36 : decode b_Mdl_write 36 = .ok (.iload_n 3, 1) := by decide +kernel
theorem d_Mdl_write_37 : decode b_Mdl_write 37 = .ok (.ifCond .eq 8, 3) := by decide +kernel
theorem d_Mdl_write_40 : decode b_Mdl_write 40 = .ok (.iload 6, 2) := by decide +kernel
theorem d_Mdl_write_42 : decode b_Mdl_write 42 = .ok (.goto 4, 3) := by decide +kernel
theorem d_Mdl_write_45 : decode b_Mdl_write 45 = .ok (.iload_n 2, 1) := by decide +kernel
theorem d_Mdl_write_46 : decode b_Mdl_write 46 = .ok (.istore 7, 2) := by decide +kernel
theorem d_Mdl_write_48 : decode b_Mdl_write 48 = .ok (.iload 4, 2) := by decide +kernel
theorem d_Mdl_write_50 : decode b_Mdl_write 50 = .ok (.ifCond .eq 13, 3) := by decide +kernel
theorem d_Mdl_write_53 : decode b_Mdl_write 53 = .ok (.iload 7, 2) := by decide +kernel
theorem d_Mdl_write_55 : decode b_Mdl_write 55 = .ok (.iload 4, 2) := by decide +kernel
theorem d_Mdl_write_57 : decode b_Mdl_write 57 = .ok (.iadd, 1) := by decide +kernel
theorem d_Mdl_write_58 : decode b_Mdl_write 58 = .ok (.iload 6, 2) := by decide +kernel
theorem d_Mdl_write_60 : decode b_Mdl_write 60 = .ok (.if_icmp .ge 8, 3) := by decide +kernel
theorem d_Mdl_write_63 : decode b_Mdl_write 63 = .ok (.iload 6, 2) := by decide +kernel
theorem d_Mdl_write_65 : decode b_Mdl_write 65 = .ok (.goto 8, 3) := by decide +kernel
theorem d_Mdl_write_68 : decode b_Mdl_write 68 = .ok (.iload 7, 2) := by decide +kernel
theorem d_Mdl_write_70 : decode b_Mdl_write 70 = .ok (.iload 4, 2) := by decide +kernel
theorem d_Mdl_write_72 : decode b_Mdl_write 72 = .ok (.iadd, 1) := by decide +kernel
theorem d_Mdl_write_73 : decode b_Mdl_write 73 = .ok (.istore 8, 2) := by decide +kernel
theorem d_Mdl_write_75 : decode b_Mdl_write 75 = .ok (.iload 5, 2) := by decide +kernel
theorem d_Mdl_write_77 : decode b_Mdl_write 77 = .ok (.ifCond .ge 12, 3) := by decide +kernel
theorem d_Mdl_write_80 : decode b_Mdl_write 80 = .ok (.aload_n 0, 1) := by decide +kernel
theorem d_Mdl_write_81 : decode b_Mdl_write 81 = .ok (.getfield 57, 3) := by decide +kernel
theorem d_Mdl_write_84 : decode b_Mdl_write 84 = .ok (.bipush 48, 2) := by decide +kernel
theorem d_Mdl_write_86 : decode b_Mdl_write 86 = .ok (.if_icmp .eq 26, 3) := by decide +kernel
theorem d_Mdl_write_89 : decode b_Mdl_write 89 = .ok (.iload 8, 2) := by decide +kernel
theorem d_Mdl_write_91 : decode b_Mdl_write 91 = .ok (.sipush 8192, 3) := by decide +kernel
theorem d_Mdl_write_94 : decode b_Mdl_write 94 = .ok (.if_icmp .gt 18, 3) := by decide +kernel
theorem d_Mdl_write_97 : decode b_Mdl_write 97 = .ok (.aload_n 0, 1) := by decide +kernel
theorem d_Mdl_write_98 : decode b_Mdl_write 98 = .ok (.getfield 71, 3) := by decide +kernel
theorem d_Mdl_write_101 : decode b_Mdl_write 101 = .ok (.iload 6, 2) := by decide +kernel
theorem d_Mdl_write_103 : decode b_Mdl_write 103 = .ok (.isub, 1) := by decide +kernel
theorem d_Mdl_write_104 : decode b_Mdl_write 104 = .ok (.iload 8, 2) := by decide +kernel
theorem d_Mdl_write_106 : decode b_Mdl_write 106 = .ok (.iadd, 1) := by decide +kernel
theorem d_Mdl_write_107 : decode b_Mdl_write 107 = .ok (.ldc 78, 2) := by decide +kernel
theorem d_Mdl_write_109 : decode b_Mdl_write 109 = .ok (.if_icmp .le 6, 3) := by decide +kernel
theorem d_Mdl_write_112 : decode b_Mdl_write 112 = .ok (.bipush (-4), 2) := by decide +kernel
theorem d_Mdl_write_114 : decode b_Mdl_write 114 = .ok (.ireturn, 1) := by decide +kernel
theorem d_Mdl_write_115 : decode b_Mdl_write 115 = .ok (.iload 5, 2) := by decide +kernel
theorem d_Mdl_write_117 : decode b_Mdl_write 117 = .ok (.ifCond .ge 10, 3) := by decide +kernel
theorem d_Mdl_write_120 : decode b_Mdl_write 120 = .ok (.aload_n 0, 1) := by decide +kernel
theorem d_Mdl_write_121 : decode b_Mdl_write 121 = .ok (.iload_n 1, 1) := by decide +kernel
theorem d_Mdl_write_122 : decode b_Mdl_write 122 = .ok (.invokevirtual 79, 3) := by decide +kernel
theorem d_Mdl_write_125 : decode b_Mdl_write 125 = .ok (.istore 5, 2) := by decide +kernel
theorem d_Mdl_write_127 : decode b_Mdl_write 127 = .ok (.aload_n 0, 1) := by decide +kernel
theorem d_Mdl_write_128 : decode b_Mdl_write 128 = .ok (.iload 5, 2) := by decide +kernel
theorem d_Mdl_write_130 : decode b_Mdl_write 130 = .ok (.iload 8, 2) := by decide +kernel
theorem d_Mdl_write_132 : decode b_Mdl_write 132 = .ok (.invokevirtual 82, 3) := by decide +kernel
theorem d_Mdl_write_135 : decode b_Mdl_write 135 = .ok (.iconst 0, 1) := by decide +kernel
theorem d_Mdl_write_136 : decode b_Mdl_write 136 = .ok (.istore 9, 2) := by decide +kernel
theorem d_Mdl_write_138 : decode b_Mdl_write 138 = .ok (.iload 9, 2) := by decide +kernel
theorem d_Mdl_write_140 : decode b_Mdl_write 140 = .ok (.iload 4, 2) := by decide +kernel
theorem d_Mdl_write_142 : decode b_Mdl_write 142 = .ok (.if_icmp .ge 54, 3) := by decide +kernel
theorem d_Mdl_write_145 : decode b_Mdl_write 145 = .ok (.aload_n 0, 1) := by decide +kernel
theorem d_Mdl_write_146 : decode b_Mdl_write 146 = .ok (.getfield 40, 3) := by decide +kernel
theorem d_Mdl_write_149 : decode b_Mdl_write 149 = .ok (.sipush 8192, 3) := by decide +kernel
theorem d_Mdl_write_152 : decode b_Mdl_write 152 = .ok (.iload 5, 2) := by decide +kernel
theorem d_Mdl_write_154 : decode b_Mdl_write 154 = .ok (.imul, 1) := by decide +kernel
theorem d_Mdl_write_155 : decode b_Mdl_write 155 = .ok (.iload 7, 2) := by decide +kernel
theorem d_Mdl_write_157 : decode b_Mdl_write 157 = .ok (.iadd, 1) := by decide +kernel
theorem d_Mdl_write_158 : decode b_Mdl_write 158 = .ok (.iload 9, 2) := by decide +kernel
theorem d_Mdl_write_160 : decode b_Mdl_write 160 = .ok (.iadd, 1) := by decide +kernel
theorem d_Mdl_write_161 : decode b_Mdl_write 161 = .ok (.aload_n 0, 1) := by decide +kernel
theorem d_Mdl_write_162 : decode b_Mdl_write 162 = .ok (.getfield 7, 3) := by decide +kernel
theorem d_Mdl_write_165 : decode b_Mdl_write 165 = .ok (.iload 9, 2) := by decide +kernel
theorem d_Mdl_write_167 : decode b_Mdl_write 167 = .ok (.baload, 1) := by decide +kernel
theorem d_Mdl_write_168 : decode b_Mdl_write 168 = .ok (.bastore, 1) := by decide +kernel
theorem d_Mdl_write_169 : decode b_Mdl_write 169 = .ok (.aload_n 0, 1) := by decide +kernel
theorem d_Mdl_write_170 : decode b_Mdl_write 170 = .ok (.getfield 43, 3) := by decide +kernel
theorem d_Mdl_write_173 : decode b_Mdl_write 173 = .ok (.bipush 19, 2) := by decide +kernel
theorem d_Mdl_write_175 : decode b_Mdl_write 175 = .ok (.iload 5, 2) := by decide +kernel
theorem d_Mdl_write_177 : decode b_Mdl_write 177 = .ok (.imul, 1) := by decide +kernel
theorem d_Mdl_write_178 : decode b_Mdl_write 178 = .ok (.iload 7, 2) := by decide +kernel
theorem d_Mdl_write_180 : decode b_Mdl_write 180 = .ok (.iload 9, 2) := by decide +kernel
theorem d_Mdl_write_182 : decode b_Mdl_write 182 = .ok (.iadd, 1) := by decide +kernel
theorem d_Mdl_write_183 : decode b_Mdl_write 183 = .ok (.sipush 448, 3) := by decide +kernel
theorem d_Mdl_write_186 : decode b_Mdl_write 186 = .ok (.idiv, 1) := by decide +kernel
theorem d_Mdl_write_187 : decode b_Mdl_write 187 = .ok (.iadd, 1) := by decide +kernel
theorem d_Mdl_write_188 : decode b_Mdl_write 188 = .ok (.iconst 1, 1) := by decide +kernel
theorem d_Mdl_write_189 : decode b_Mdl_write 189 = .ok (.bastore, 1) := by decide +kernel
theorem d_Mdl_write_190 : decode b_Mdl_write 190 = .ok (.iinc 9 1, 3) := by decide +kernel
theorem d_Mdl_write_193 : decode b_Mdl_write 193 = .ok (.goto (-55), 3) := by decide +kernel
theorem d_Mdl_write_196 : decode b_Mdl_write 196 = .ok (.iload 4, 2) := by decide +kernel
theorem d_Mdl_write_198 : decode b_Mdl_write 198 = .ok (.ireturn, 1) := by decide +kernel
theorem d_Mdl_resize_0 : decode b_Mdl_resize 0 = .ok (.aload_n 0, 1) := by decide +kernel
theorem d_Mdl_resize_1 : decode b_Mdl_resize 1 = .ok (.getfield 36, 3) := by decide +kernel
theorem d_Mdl_resize_4 : decode b_Mdl_resize 4 = .ok (.iload_n 1, 1) := by decide +kernel
theorem d_Mdl_resize_5 : decode b_Mdl_resize 5 = .ok (.iaload, 1) := by decide +kernel
theorem d_Mdl_resize_6 : decode b_Mdl_resize 6 = .ok (.istore_n 3, 1) := by decide +kernel
theorem d_Mdl_resize_7 : decode b_Mdl_resize 7 = .ok (.iload_n 3, 1) := by decide +kernel
theorem d_Mdl_resize_8 : decode b_Mdl_resize 8 = .ok (.iload_n 2, 1) := by decide +kernel
theorem d_Mdl_resize_9 : decode b_Mdl_resize 9 = .ok (.if_icmp .ge 22, 3) := by decide +kernel
theorem d_Mdl_resize_12 : decode b_Mdl_resize 12 = .ok (.aload_n 0, 1) := by decide +kernel
theorem d_Mdl_resize_13 : decode b_Mdl_resize 13 = .ok (.getfield 40, 3) := by decide +kernel
theorem d_Mdl_resize_16 : decode b_Mdl_resize 16 = .ok (.sipush 8192, 3) := by decide +kernel
theorem d_Mdl_resize_19 : decode b_Mdl_resize 19 = .ok (.iload_n 1, 1) := by decide +kernel
theorem d_Mdl_resize_20 : decode b_Mdl_resize 20 = .ok (.imul, 1) := by decide +kernel
theorem d_Mdl_resize_21 : decode b_Mdl_resize 21 = .ok (.iload_n 3, 1) := by decide +kernel
theorem d_Mdl_resize_22 : decode b_Mdl_resize 22 = .ok (.iadd, 1) := by decide +kernel
theorem d_Mdl_resize_23 : decode b_Mdl_resize 23 = .ok (.iconst 0, 1) := by decide +kernel
theorem d_Mdl_resize_24 : decode b_Mdl_resize 24 = .ok (.bastore, 1) := by decide +kernel
theorem d_Mdl_resize_25 : decode b_Mdl_resize 25 = .ok (.iinc 3 1, 3) := by decide +kernel
theorem d_Mdl_resize_28 : decode b_Mdl_resize 28 = .ok (.goto (-21), 3) := by decide +kernel
theorem d_Mdl_resize_31 : decode b_Mdl_resize 31 = .ok (.iconst 0, 1) := by decide +kernel
theorem d_Mdl_resize_32 : decode b_Mdl_resize 32 = .ok (.istore_n 3, 1) := by decide +kernel
theorem d_Mdl_resize_33 : decode b_Mdl_resize 33 = .ok (.iload_n 3, 1) := by decide +kernel
theorem d_Mdl_resize_34 : decode b_Mdl_resize 34 = .ok (.bipush 19, 2) := by decide +kernel
theorem d_Mdl_resize_36 : decode b_Mdl_resize 36 = .ok (.if_icmp .ge 30, 3) := by decide +kernel
theorem d_Mdl_resize_39 : decode b_Mdl_resize 39 = .ok (.sipush 448, 3) := by decide +kernel
theorem d_Mdl_resize_42 : decode b_Mdl_resize 42 = .ok (.iload_n 3, 1) := by decide +kernel
theorem d_Mdl_resize_43 : decode b_Mdl_resize 43 = .ok (.imul, 1) := by decide +kernel
theorem d_Mdl_resize_44 : decode b_Mdl_resize 44 = .ok (.iload_n 2, 1) := by decide +kernel
theorem d_Mdl_resize_45 : decode b_Mdl_resize 45 = .ok (.if_icmp .lt 15, 3) := by decide +kernel
theorem d_Mdl_resize_48 : decode b_Mdl_resize 48 = .ok (.aload_n 0, 1) := by decide +kernel
theorem d_Mdl_resize_49 : decode b_Mdl_resize 49 = .ok (.getfield 43, 3) := by decide +kernel
theorem d_Mdl_resize_52 : decode b_Mdl_resize 52 = .ok (.bipush 19, 2) := by decide +kernel
theorem d_Mdl_resize_54 : decode b_Mdl_resize 54 = .ok (.iload_n 1, 1) := by decide +kernel
theorem d_Mdl_resize_55 : decode b_Mdl_resize 55 = .ok (.imul, 1) := by decide +kernel
theorem d_Mdl_resize_56 : decode b_Mdl_resize 56 = .ok (.iload_n 3, 1) := by decide +kernel
theorem d_Mdl_resize_57 : decode b_Mdl_resize 57 = .ok (.iadd, 1) := by decide +kernel
theorem d_Mdl_resize_58 : decode b_Mdl_resize 58 = .ok (.iconst 0, 1) := by decide +kernel
theorem d_Mdl_resize_59 : decode b_Mdl_resize 59 = .ok (.bastore, 1) := by decide +kernel
theorem d_Mdl_resize_60 : decode b_Mdl_resize 60 = .ok (.iinc 3 1, 3) := by decide +kernel
theorem d_Mdl_resize_63 : decode b_Mdl_resize 63 = .ok (.goto (-30), 3) := by decide +kernel
theorem d_Mdl_resize_66 : decode b_Mdl_resize 66 = .ok (.aload_n 0, 1) := by decide +kernel
theorem d_Mdl_resize_67 : decode b_Mdl_resize 67 = .ok (.dup, 1) := by decide +kernel
theorem d_Mdl_resize_68 : decode b_Mdl_resize 68 = .ok (.getfield 71, 3) := by decide +kernel
theorem d_Mdl_resize_71 : decode b_Mdl_resize 71 = .ok (.iload_n 2, 1) := by decide +kernel
theorem d_Mdl_resize_72 : decode b_Mdl_resize 72 = .ok (.aload_n 0, 1) := by decide +kernel
theorem d_Mdl_resize_73 : decode b_Mdl_resize 73 = .ok (.getfield 36, 3) := by decide +kernel
theorem d_Mdl_resize_76 : decode b_Mdl_resize 76 = .ok (.iload_n 1, 1) := by decide +kernel
theorem d_Mdl_resize_77 : decode b_Mdl_resize 77 = .ok (.iaload, 1) := by decide +kernel
theorem d_Mdl_resize_78 : decode b_Mdl_resize 78 = .ok (.isub, 1) := by decide +kernel
theorem d_Mdl_resize_79 : decode b_Mdl_resize 79 = .ok (.iadd, 1) := by decide +kernel
theorem d_Mdl_resize_80 : decode b_Mdl_resize 80 = .ok (.putfield 71, 3) := by decide +kernel
theorem d_Mdl_resize_83 : decode b_Mdl_resize 83 = .ok (.aload_n 0, 1) := by decide +kernel
theorem d_Mdl_resize_84 : decode b_Mdl_resize 84 = .ok (.getfield 36, 3) := by decide +kernel
theorem d_Mdl_resize_87 : decode b_Mdl_resize 87 = .ok (.iload_n 1, 1) := by decide +kernel
theorem d_Mdl_resize_88 : decode b_Mdl_resize 88 = .ok (.iload_n 2, 1) := by decide +kernel
theorem d_Mdl_resize_89 : decode b_Mdl_resize 89 = .ok (.iastore, 1) := by decide +kernel
theorem d_Mdl_resize_90 : decode b_Mdl_resize 90 = .ok (.return_, 1) := by decide +kernel
theorem d_Mdl_cut_0 : decode b_Mdl_cut 0 = .ok (.aload_n 0, 1) := by decide +kernel
theorem d_Mdl_cut_1 : decode b_Mdl_cut 1 = .ok (.iconst 0, 1) := by decide +kernel
theorem d_Mdl_cut_2 : decode b_Mdl_cut 2 = .ok (.invokevirtual 74, 3) := by decide +kernel
theorem d_Mdl_cut_5 : decode b_Mdl_cut 5 = .ok (.istore_n 2, 1) := by decide +kernel
theorem d_Mdl_cut_6 : decode b_Mdl_cut 6 = .ok (.iload_n 2, 1) := by decide +kernel
theorem d_Mdl_cut_7 : decode b_Mdl_cut 7 = .ok (.ifCond .ge 6, 3) := by decide +kernel
theorem d_Mdl_cut_10 : decode b_Mdl_cut 10 = .ok (.bipush (-2), 2) := by decide +kernel
theorem d_Mdl_cut_12 : decode b_Mdl_cut 12 = .ok (.ireturn, 1) := by decide +kernel
theorem d_Mdl_cut_13 : decode b_Mdl_cut 13 = .ok (.aload_n 0, 1) := by decide +kernel
theorem d_Mdl_cut_14 : decode b_Mdl_cut 14 = .ok (.getfield 36, 3) := by decide +kernel
theorem d_Mdl_cut_17 : decode b_Mdl_cut 17 = .ok (.iload_n 2, 1) := by decide +kernel
theorem d_Mdl_cut_18 : decode b_Mdl_cut 18 = .ok (.iaload, 1) := by decide +kernel
theorem d_Mdl_cut_19 : decode b_Mdl_cut 19 = .ok (.istore_n 3, 1) := by decide +kernel
theorem d_Mdl_cut_20 : decode b_Mdl_cut 20 = .ok (.aload_n 0, 1) := by decide +kernel
theorem d_Mdl_cut_21 : decode b_Mdl_cut 21 = .ok (.getfield 71, 3) := by decide +kernel
theorem d_Mdl_cut_24 : decode b_Mdl_cut 24 = .ok (.iload_n 3, 1) := by decide +kernel
theorem d_Mdl_cut_25 : decode b_Mdl_cut 25 = .ok (.isub, 1) := by decide +kernel
theorem d_Mdl_cut_26 : decode b_Mdl_cut 26 = .ok (.iload_n 1, 1) := by decide +kernel
theorem d_Mdl_cut_27 : decode b_Mdl_cut 27 = .ok (.iadd, 1) := by decide +kernel
theorem d_Mdl_cut_28 : decode b_Mdl_cut 28 = .ok (.ldc 78, 2) := by decide +kernel
theorem d_Mdl_cut_30 : decode b_Mdl_cut 30 = .ok (.if_icmp .le 6, 3) := by decide +kernel
theorem d_Mdl_cut_33 : decode b_Mdl_cut 33 = .ok (.bipush (-4), 2) := by decide +kernel
theorem d_Mdl_cut_35 : decode b_Mdl_cut 35 = .ok (.ireturn, 1) := by decide +kernel
theorem d_Mdl_cut_36 : decode b_Mdl_cut 36 = .ok (.aload_n 0, 1) := by decide +kernel
theorem d_Mdl_cut_37 : decode b_Mdl_cut 37 = .ok (.iload_n 2, 1) := by decide +kernel
theorem d_Mdl_cut_38 : decode b_Mdl_cut 38 = .ok (.iload_n 1, 1) := by decide +kernel
theorem d_Mdl_cut_39 : decode b_Mdl_cut 39 = .ok (.invokevirtual 82, 3) := by decide +kernel
theorem d_Mdl_cut_42 : decode b_Mdl_cut 42 = .ok (.iload_n 3, 1) := by decide +kernel
theorem d_Mdl_cut_43 : decode b_Mdl_cut 43 = .ok (.ireturn, 1) := by decide +kernel
theorem d_Mdl_read_0 : decode b_Mdl_read 0 = .ok (.aload_n 0, 1) := by decide +kernel
theorem d_Mdl_read_1 : decode b_Mdl_read 1 = .ok (.iconst 0, 1) := by decide +kernel
theorem d_Mdl_read_2 : decode b_Mdl_read 2 = .ok (.invokevirtual 74, 3) := by decide +kernel
theorem d_Mdl_read_5 : decode b_Mdl_read 5 = .ok (.istore_n 3, 1) := by decide +kernel
theorem d_Mdl_read_6 : decode b_Mdl_read 6 = .ok (.iload_n 3, 1) := by decide +kernel
theorem d_Mdl_read_7 : decode b_Mdl_read 7 = .ok (.ifCond .ge 6, 3) := by decide +kernel
theorem d_Mdl_read_10 : decode b_Mdl_read 10 = .ok (.bipush (-2), 2) := by decide +kernel
theorem d_Mdl_read_12 : decode b_Mdl_read 12 = .ok (.ireturn, 1) := by decide +kernel
theorem d_Mdl_read_13 : decode b_Mdl_read 13 = .ok (.aload_n 0, 1) := by decide +kernel
theorem d_Mdl_read_14 : decode b_Mdl_read 14 = .ok (.getfield 36, 3) := by decide +kernel
theorem d_Mdl_read_17 : decode b_Mdl_read 17 = .ok (.iload_n 3, 1) := by decide +kernel
theorem d_Mdl_read_18 : decode b_Mdl_read 18 = .ok (.iaload, 1) := by decide +kernel
theorem d_Mdl_read_19 : decode b_Mdl_read 19 = .ok (.iload_n 1, 1) := by decide +kernel
theorem d_Mdl_read_20 : decode b_Mdl_read 20 = .ok (.isub, 1) := by decide +kernel
theorem d_Mdl_read_21 : decode b_Mdl_read 21 = .ok (.istore 4, 2) := by decide +kernel
theorem d_Mdl_read_23 : decode b_Mdl_read 23 = .ok (.iload 4, 2) := by decide +kernel
theorem d_Mdl_read_25 : decode b_Mdl_read 25 = .ok (.iload_n 2, 1) := by decide +kernel
theorem d_Mdl_read_26 : decode b_Mdl_read 26 = .ok (.if_icmp .le 6, 3) := by decide +kernel
theorem d_Mdl_read_29 : decode b_Mdl_read 29 = .ok (.iload_n 2, 1) := by decide +kernel
theorem d_Mdl_read_30 : decode b_Mdl_read 30 = .ok (.istore 4, 2) := by decide +kernel
theorem d_Mdl_read_32 : decode b_Mdl_read 32 = .ok (.iload 4, 2) := by decide +kernel
theorem d_Mdl_read_34 : decode b_Mdl_read 34 = .ok (.ifCond .ge 6, 3) := by decide +kernel
theorem d_Mdl_read_37 : decode b_Mdl_read 37 = .ok (.iconst 0, 1) := by decide +kernel
theorem d_Mdl_read_38 : decode b_Mdl_read 38 = .ok (.istore 4, 2) := by decide +kernel
theorem d_Mdl_read_40 : decode b_Mdl_read 40 = .ok (.iconst 0, 1) := by decide +kernel
theorem d_Mdl_read_41 : decode b_Mdl_read 41 = .ok (.istore 5, 2) := by decide +kernel
theorem d_Mdl_read_43 : decode b_Mdl_read 43 = .ok (.iload 5, 2) := by decide +kernel
theorem d_Mdl_read_45 : decode b_Mdl_read 45 = .ok (.iload 4, 2) := by decide +kernel
theorem d_Mdl_read_47 : decode b_Mdl_read 47 = .ok (.if_icmp .ge 35, 3) := by decide +kernel
theorem d_Mdl_read_50 : decode b_Mdl_read 50 = .ok (.aload_n 0, 1) := by decide +kernel
theorem d_Mdl_read_51 : decode b_Mdl_read 51 = .ok (.getfield 46, 3) := by decide +kernel
theorem d_Mdl_read_54 : decode b_Mdl_read 54 = .ok (.iload 5, 2) := by decide +kernel
theorem d_Mdl_read_56 : decode b_Mdl_read 56 = .ok (.aload_n 0, 1) := by decide +kernel
theorem d_Mdl_read_57 : decode b_Mdl_read 57 = .ok (.getfield 40, 3) := by decide +kernel
theorem d_Mdl_read_60 : decode b_Mdl_read 60 = .ok (.sipush 8192, 3) := by decide +kernel
theorem d_Mdl_read_63 : decode b_Mdl_read 63 = .ok (.iload_n 3, 1) := by decide +kernel
theorem d_Mdl_read_64 : decode b_Mdl_read 64 = .ok (.imul, 1) := by decide +kernel
theorem d_Mdl_read_65 : decode b_Mdl_read 65 = .ok (.iload_n 1, 1) := by decide +kernel
theorem d_Mdl_read_66 : decode b_Mdl_read 66 = .ok (.iadd, 1) := by decide +kernel
theorem d_Mdl_read_67 : decode b_Mdl_read 67 = .ok (.iload 5, 2) := by decide +kernel
theorem d_Mdl_read_69 : decode b_Mdl_read 69 = .ok (.iadd, 1) := by decide +kernel
theorem d_Mdl_read_70 : decode b_Mdl_read 70 = .ok (.baload, 1) := by decide +kernel
theorem d_Mdl_read_71 : decode b_Mdl_read 71 = .ok (.sipush 255, 3) := by decide +kernel
theorem d_Mdl_read_74 : decode b_Mdl_read 74 = .ok (.iand, 1) := by decide +kernel
theorem d_Mdl_read_75 : decode b_Mdl_read 75 = .ok (.iastore, 1) := by decide +kernel
theorem d_Mdl_read_76 : decode b_Mdl_read 76 = .ok (.iinc 5 1, 3) := by decide +kernel
theorem d_Mdl_read_79 : decode b_Mdl_read 79 = .ok (.goto (-36), 3) := by decide +kernel
theorem d_Mdl_read_82 : decode b_Mdl_read 82 = .ok (.aload_n 0, 1) := by decide +kernel
theorem d_Mdl_read_83 : decode b_Mdl_read 83 = .ok (.iload 4, 2) := by decide +kernel
theorem d_Mdl_read_85 : decode b_Mdl_read 85 = .ok (.putfield 85, 3) := by decide +kernel
theorem d_Mdl_read_88 : decode b_Mdl_read 88 = .ok (.iload 4, 2) := by decide +kernel
theorem d_Mdl_read_90 : decode b_Mdl_read 90 = .ok (.ireturn, 1) := by decide +kernel
theorem d_Mdl_gone_0 : decode b_Mdl_gone 0 = .ok (.aload_n 0, 1) := by decide +kernel
theorem d_Mdl_gone_1 : decode b_Mdl_gone 1 = .ok (.iload_n 1, 1) := by decide +kernel
theorem d_Mdl_gone_2 : decode b_Mdl_gone 2 = .ok (.invokevirtual 68, 3) := by decide +kernel
theorem d_Mdl_gone_5 : decode b_Mdl_gone 5 = .ok (.aload_n 0, 1) := by decide +kernel
theorem d_Mdl_gone_6 : decode b_Mdl_gone 6 = .ok (.getfield 23, 3) := by decide +kernel
theorem d_Mdl_gone_9 : decode b_Mdl_gone 9 = .ok (.iload_n 1, 1) := by decide +kernel
theorem d_Mdl_gone_10 : decode b_Mdl_gone 10 = .ok (.iconst 0, 1) := by decide +kernel
theorem d_Mdl_gone_11 : decode b_Mdl_gone 11 = .ok (.bastore, 1) := by decide +kernel
theorem d_Mdl_gone_12 : decode b_Mdl_gone 12 = .ok (.aload_n 0, 1) := by decide +kernel
theorem d_Mdl_gone_13 : decode b_Mdl_gone 13 = .ok (.dup, 1) := by decide +kernel
theorem d_Mdl_gone_14 : decode b_Mdl_gone 14 = .ok (.getfield 71, 3) := by decide +kernel
theorem d_Mdl_gone_17 : decode b_Mdl_gone 17 = .ok (.aload_n 0, 1) := by decide +kernel
theorem d_Mdl_gone_18 : decode b_Mdl_gone 18 = .ok (.getfield 36, 3) := by decide +kernel
theorem d_Mdl_gone_21 : decode b_Mdl_gone 21 = .ok (.iload_n 1, 1) := by decide +kernel
theorem d_Mdl_gone_22 : decode b_Mdl_gone 22 = .ok (.iaload, 1) := by decide +kernel
theorem d_Mdl_gone_23 : decode b_Mdl_gone 23 = .ok (.isub, 1) := by decide +kernel
theorem d_Mdl_gone_24 : decode b_Mdl_gone 24 = .ok (.putfield 71, 3) := by decide +kernel
theorem d_Mdl_gone_27 : decode b_Mdl_gone 27 = .ok (.aload_n 0, 1) := by decide +kernel
theorem d_Mdl_gone_28 : decode b_Mdl_gone 28 = .ok (.getfield 36, 3) := by decide +kernel
theorem d_Mdl_gone_31 : decode b_Mdl_gone 31 = .ok (.iload_n 1, 1) := by decide +kernel
theorem d_Mdl_gone_32 : decode b_Mdl_gone 32 = .ok (.iaload, 1) := by decide +kernel
theorem d_Mdl_gone_33 : decode b_Mdl_gone 33 = .ok (.ireturn, 1) := by decide +kernel
theorem d_Mdl_leave_0 : decode b_Mdl_leave 0 = .ok (.iconst 0, 1) := by decide +kernel
theorem d_Mdl_leave_1 : decode b_Mdl_leave 1 = .ok (.istore_n 2, 1) := by decide +kernel
theorem d_Mdl_leave_2 : decode b_Mdl_leave 2 = .ok (.iconst 0, 1) := by decide +kernel
theorem d_Mdl_leave_3 : decode b_Mdl_leave 3 = .ok (.istore_n 3, 1) := by decide +kernel
theorem d_Mdl_leave_4 : decode b_Mdl_leave 4 = .ok (.iload_n 3, 1) := by decide +kernel
theorem d_Mdl_leave_5 : decode b_Mdl_leave 5 = .ok (.aload_n 0, 1) := by decide +kernel
theorem d_Mdl_leave_6 : decode b_Mdl_leave 6 = .ok (.getfield 57, 3) := by decide +kernel
theorem d_Mdl_leave_9 : decode b_Mdl_leave 9 = .ok (.if_icmp .ge 37, 3) := by decide +kernel
theorem d_Mdl_leave_12 : decode b_Mdl_leave 12 = .ok (.aload_n 0, 1) := by decide +kernel
theorem d_Mdl_leave_13 : decode b_Mdl_leave 13 = .ok (.getfield 20, 3) := by decide +kernel
theorem d_Mdl_leave_16 : decode b_Mdl_leave 16 = .ok (.iload_n 3, 1) := by decide +kernel
theorem d_Mdl_leave_17 : decode b_Mdl_leave 17 = .ok (.iaload, 1) := by decide +kernel
theorem d_Mdl_leave_18 : decode b_Mdl_leave 18 = .ok (.iload_n 1, 1) := by decide +kernel
theorem d_Mdl_leave_19 : decode b_Mdl_leave 19 = .ok (.if_icmp .ne 6, 3) := by decide +kernel
theorem d_Mdl_leave_22 : decode b_Mdl_leave 22 = .ok (.goto 18, 3) := by decide +kernel
theorem d_Mdl_leave_25 : decode b_Mdl_leave 25 = .ok (.aload_n 0, 1) := by decide +kernel
theorem d_Mdl_leave_26 : decode b_Mdl_leave 26 = .ok (.getfield 20, 3) := by decide +kernel
theorem d_Mdl_leave_29 : decode b_Mdl_leave 29 = .ok (.iload_n 2, 1) := by decide +kernel
theorem d_Mdl_leave_30 : decode b_Mdl_leave 30 = .ok (.aload_n 0, 1) := by decide +kernel
theorem d_Mdl_leave_31 : decode b_Mdl_leave 31 = .ok (.getfield 20, 3) := by decide +kernel
theorem d_Mdl_leave_34 : decode b_Mdl_leave 34 = .ok (.iload_n 3, 1) := by decide +kernel
theorem d_Mdl_leave_35 : decode b_Mdl_leave 35 = .ok (.iaload, 1) := by decide +kernel
theorem d_Mdl_leave_36 : decode b_Mdl_leave 36 = .ok (.iastore, 1) := by decide +kernel
theorem d_Mdl_leave_37 : decode b_Mdl_leave 37 = .ok (.iinc 2 1, 3) := by decide +kernel
theorem d_Mdl_leave_40 : decode b_Mdl_leave 40 = .ok (.iinc 3 1, 3) := by decide +kernel
theorem d_Mdl_leave_43 : decode b_Mdl_leave 43 = .ok (.goto (-39), 3) := by decide +kernel
theorem d_Mdl_leave_46 : decode b_Mdl_leave 46 = .ok (.aload_n 0, 1) := by decide +kernel
theorem d_Mdl_leave_47 : decode b_Mdl_leave 47 = .ok (.iload_n 2, 1) := by decide +kernel
theorem d_Mdl_leave_48 : decode b_Mdl_leave 48 = .ok (.putfield 57, 3) := by decide +kernel
theorem d_Mdl_leave_51 : decode b_Mdl_leave 51 = .ok (.return_, 1) := by decide +kernel
theorem d_Mdl_rename_0 : decode b_Mdl_rename 0 = .ok (.aload_n 0, 1) := by decide +kernel
theorem d_Mdl_rename_1 : decode b_Mdl_rename 1 = .ok (.iconst 0, 1) := by decide +kernel
theorem d_Mdl_rename_2 : decode b_Mdl_rename 2 = .ok (.invokevirtual 74, 3) := by decide +kernel
theorem d_Mdl_rename_5 : decode b_Mdl_rename 5 = .ok (.istore_n 1, 1) := by decide +kernel
theorem d_Mdl_rename_6 : decode b_Mdl_rename 6 = .ok (.iload_n 1, 1) := by decide +kernel
theorem d_Mdl_rename_7 : decode b_Mdl_rename 7 = .ok (.ifCond .ge 6, 3) := by decide +kernel
theorem d_Mdl_rename_10 : decode b_Mdl_rename 10 = .ok (.bipush (-2), 2) := by decide +kernel
theorem d_Mdl_rename_12 : decode b_Mdl_rename 12 = .ok (.ireturn, 1) := by decide +kernel
theorem d_Mdl_rename_13 : decode b_Mdl_rename 13 = .ok (.aload_n 0, 1) := by decide +kernel
theorem d_Mdl_rename_14 : decode b_Mdl_rename 14 = .ok (.iconst 1, 1) := by decide +kernel
theorem d_Mdl_rename_15 : decode b_Mdl_rename 15 = .ok (.invokevirtual 74, 3) := by decide +kernel
theorem d_Mdl_rename_18 : decode b_Mdl_rename 18 = .ok (.istore_n 2, 1) := by decide +kernel
theorem d_Mdl_rename_19 : decode b_Mdl_rename 19 = .ok (.iload_n 2, 1) := by decide +kernel
theorem d_Mdl_rename_20 : decode b_Mdl_rename 20 = .ok (.iload_n 1, 1) := by decide +kernel
theorem d_Mdl_rename_21 : decode b_Mdl_rename 21 = .ok (.if_icmp .ne 5, 3) := by decide +kernel
theorem d_Mdl_rename_24 : decode b_Mdl_rename 24 = .ok (.iconst 0, 1) := by decide +kernel
theorem d_Mdl_rename_25 : decode b_Mdl_rename 25 = .ok (.ireturn, 1) := by decide +kernel
theorem d_Mdl_rename_26 : decode b_Mdl_rename 26 = .ok (.iload_n 2, 1) := by decide +kernel
theorem d_Mdl_rename_27 : decode b_Mdl_rename 27 = .ok (.ifCond .lt 9, 3) := by decide +kernel
theorem d_Mdl_rename_30 : decode b_Mdl_rename 30 = .ok (.aload_n 0, 1) := by decide +kernel
theorem d_Mdl_rename_31 : decode b_Mdl_rename 31 = .ok (.iload_n 2, 1) := by decide +kernel
theorem d_Mdl_rename_32 : decode b_Mdl_rename 32 = .ok (.invokevirtual 88, 3) := by decide +kernel
theorem d_Mdl_rename_35 : decode b_Mdl_rename 35 = .ok (.pop, 1) := by decide +kernel
theorem d_Mdl_rename_36 : decode b_Mdl_rename 36 = .ok (.aload_n 0, 1) := by decide +kernel
theorem d_Mdl_rename_37 : decode b_Mdl_rename 37 = .ok (.iload_n 1, 1) := by decide +kernel
theorem d_Mdl_rename_38 : decode b_Mdl_rename 38 = .ok (.invokevirtual 68, 3) := by decide +kernel
theorem d_Mdl_rename_41 : decode b_Mdl_rename 41 = .ok (.aload_n 0, 1) := by decide +kernel
theorem d_Mdl_rename_42 : decode b_Mdl_rename 42 = .ok (.iload_n 1, 1) := by decide +kernel
theorem d_Mdl_rename_43 : decode b_Mdl_rename 43 = .ok (.iconst 1, 1) := by decide +kernel
theorem d_Mdl_rename_44 : decode b_Mdl_rename 44 = .ok (.invokevirtual 64, 3) := by decide +kernel
theorem d_Mdl_rename_47 : decode b_Mdl_rename 47 = .ok (.iload_n 2, 1) := by decide +kernel
theorem d_Mdl_rename_48 : decode b_Mdl_rename 48 = .ok (.ifCond .lt 7, 3) := by decide +kernel
theorem d_Mdl_rename_51 : decode b_Mdl_rename 51 = .ok (.iconst 1, 1) := by decide +kernel
theorem d_Mdl_rename_52 : decode b_Mdl_rename 52 = .ok (.goto 4, 3) := by decide +kernel
theorem d_Mdl_rename_55 : decode b_Mdl_rename 55 = .ok (.iconst 0, 1) := by decide +kernel
theorem d_Mdl_rename_56 : decode b_Mdl_rename 56 = .ok (.ireturn, 1) := by decide +kernel
theorem d_Mdl_swap_0 : decode b_Mdl_swap 0 = .ok (.aload_n 0, 1) := by decide +kernel
theorem d_Mdl_swap_1 : decode b_Mdl_swap 1 = .ok (.iconst 0, 1) := by decide +kernel
theorem d_Mdl_swap_2 : decode b_Mdl_swap 2 = .ok (.invokevirtual 74, 3) := by decide +kernel
theorem d_Mdl_swap_5 : decode b_Mdl_swap 5 = .ok (.istore_n 1, 1) := by decide +kernel
theorem d_Mdl_swap_6 : decode b_Mdl_swap 6 = .ok (.aload_n 0, 1) := by decide +kernel
theorem d_Mdl_swap_7 : decode b_Mdl_swap 7 = .ok (.iconst 1, 1) := by decide +kernel
theorem d_Mdl_swap_8 : decode b_Mdl_swap 8 = .ok (.invokevirtual 74, 3) := by decide +kernel
theorem d_Mdl_swap_11 : decode b_Mdl_swap 11 = .ok (.istore_n 2, 1) := by decide +kernel
theorem d_Mdl_swap_12 : decode b_Mdl_swap 12 = .ok (.iload_n 1, 1) := by decide +kernel
theorem d_Mdl_swap_13 : decode b_Mdl_swap 13 = .ok (.ifCond .lt 7, 3) := by decide +kernel
theorem d_Mdl_swap_16 : decode b_Mdl_swap 16 = .ok (.iload_n 2, 1) := by decide +kernel
theorem d_Mdl_swap_17 : decode b_Mdl_swap 17 = .ok (.ifCond .ge 6, 3) := by decide +kernel
theorem d_Mdl_swap_20 : decode b_Mdl_swap 20 = .ok (.bipush (-2), 2) := by decide +kernel
theorem d_Mdl_swap_22 : decode b_Mdl_swap 22 = .ok (.ireturn, 1) := by decide +kernel
theorem d_Mdl_swap_23 : decode b_Mdl_swap 23 = .ok (.iload_n 1, 1) := by decide +kernel
theorem d_Mdl_swap_24 : decode b_Mdl_swap 24 = .ok (.iload_n 2, 1) := by decide +kernel
theorem d_Mdl_swap_25 : decode b_Mdl_swap 25 = .ok (.if_icmp .ne 5, 3) := by decide +kernel
theorem d_Mdl_swap_28 : decode b_Mdl_swap 28 = .ok (.iconst 0, 1) := by decide +kernel
theorem d_Mdl_swap_29 : decode b_Mdl_swap 29 = .ok (.ireturn, 1) := by decide +kernel
theorem d_Mdl_swap_30 : decode b_Mdl_swap 30 = .ok (.aload_n 0, 1) := by decide +kernel
theorem d_Mdl_swap_31 : decode b_Mdl_swap 31 = .ok (.iload_n 1, 1) := by decide +kernel
theorem d_Mdl_swap_32 : decode b_Mdl_swap 32 = .ok (.invokevirtual 68, 3) := by decide +kernel
theorem d_Mdl_swap_35 : decode b_Mdl_swap 35 = .ok (.aload_n 0, 1) := by decide +kernel
theorem d_Mdl_swap_36 : decode b_Mdl_swap 36 = .ok (.iload_n 2, 1) := by decide +kernel
theorem d_Mdl_swap_37 : decode b_Mdl_swap 37 = .ok (.invokevirtual 68, 3) := by decide +kernel
theorem d_Mdl_swap_40 : decode b_Mdl_swap 40 = .ok (.aload_n 0, 1) := by decide +kernel
theorem d_Mdl_swap_41 : decode b_Mdl_swap 41 = .ok (.iload_n 1, 1) := by decide +kernel
theorem d_Mdl_swap_42 : decode b_Mdl_swap 42 = .ok (.iconst 1, 1) := by decide +kernel
theorem d_Mdl_swap_43 : decode b_Mdl_swap 43 = .ok (.invokevirtual 64, 3) := by decide +kernel
theorem d_Mdl_swap_46 : decode b_Mdl_swap 46 = .ok (.aload_n 0, 1) := by decide +kernel
theorem d_Mdl_swap_47 : decode b_Mdl_swap 47 = .ok (.iload_n 2, 1) := by decide +kernel
theorem d_Mdl_swap_48 : decode b_Mdl_swap 48 = .ok (.iconst 0, 1) := by decide +kernel
theorem d_Mdl_swap_49 : decode b_Mdl_swap 49 = .ok (.invokevirtual 64, 3) := by decide +kernel
theorem d_Mdl_swap_52 : decode b_Mdl_swap 52 = .ok (.iconst 0, 1) := by decide +kernel
theorem d_Mdl_swap_53 : decode b_Mdl_swap 53 = .ok (.ireturn, 1) := by decide +kernel
theorem d_Mdl_next_0 : decode b_Mdl_next 0 = .ok (.iconst 0, 1) := by decide +kernel
theorem d_Mdl_next_1 : decode b_Mdl_next 1 = .ok (.istore_n 1, 1) := by decide +kernel
theorem d_Mdl_next_2 : decode b_Mdl_next 2 = .ok (.iload_n 1, 1) := by decide +kernel
theorem d_Mdl_next_3 : decode b_Mdl_next 3 = .ok (.aload_n 0, 1) := by decide +kernel
theorem d_Mdl_next_4 : decode b_Mdl_next 4 = .ok (.getfield 57, 3) := by decide +kernel
theorem d_Mdl_next_7 : decode b_Mdl_next 7 = .ok (.if_icmp .ge 81, 3) := by decide +kernel
theorem d_Mdl_next_10 : decode b_Mdl_next 10 = .ok (.aload_n 0, 1) := by decide +kernel
theorem d_Mdl_next_11 : decode b_Mdl_next 11 = .ok (.getfield 20, 3) := by decide +kernel
theorem d_Mdl_next_14 : decode b_Mdl_next 14 = .ok (.iload_n 1, 1) := by decide +kernel
theorem d_Mdl_next_15 : decode b_Mdl_next 15 = .ok (.iaload, 1) := by decide +kernel
theorem d_Mdl_next_16 : decode b_Mdl_next 16 = .ok (.istore_n 2, 1) := by decide +kernel
theorem d_Mdl_next_17 : decode b_Mdl_next 17 = .ok (.aload_n 0, 1) := by decide +kernel
theorem d_Mdl_next_18 : decode b_Mdl_next 18 = .ok (.iload_n 2, 1) := by decide +kernel
theorem d_Mdl_next_19 : decode b_Mdl_next 19 = .ok (.iconst 0, 1) := by decide +kernel
theorem d_Mdl_next_20 : decode b_Mdl_next 20 = .ok (.invokevirtual 60, 3) := by decide +kernel
theorem d_Mdl_next_23 : decode b_Mdl_next 23 = .ok (.ifCond .gt 6, 3) := by decide +kernel
theorem d_Mdl_next_26 : decode b_Mdl_next 26 = .ok (.goto 56, 3) := by decide +kernel
theorem d_Mdl_next_29 : decode b_Mdl_next 29 = .ok (.aload_n 0, 1) := by decide +kernel
theorem d_Mdl_next_30 : decode b_Mdl_next 30 = .ok (.aload_n 0, 1) := by decide +kernel
theorem d_Mdl_next_31 : decode b_Mdl_next 31 = .ok (.getfield 30, 3) := by decide +kernel
theorem d_Mdl_next_34 : decode b_Mdl_next 34 = .ok (.iload_n 2, 1) := by decide +kernel
theorem d_Mdl_next_35 : decode b_Mdl_next 35 = .ok (.iaload, 1) := by decide +kernel
theorem d_Mdl_next_36 : decode b_Mdl_next 36 = .ok (.putfield 85, 3) := by decide +kernel
theorem d_Mdl_next_39 : decode b_Mdl_next 39 = .ok (.iconst 0, 1) := by decide +kernel
theorem d_Mdl_next_40 : decode b_Mdl_next 40 = .ok (.istore_n 3, 1) := by decide +kernel
theorem d_Mdl_next_41 : decode b_Mdl_next 41 = .ok (.iload_n 3, 1) := by decide +kernel
theorem d_Mdl_next_42 : decode b_Mdl_next 42 = .ok (.aload_n 0, 1) := by decide +kernel
theorem d_Mdl_next_43 : decode b_Mdl_next 43 = .ok (.getfield 85, 3) := by decide +kernel
theorem d_Mdl_next_46 : decode b_Mdl_next 46 = .ok (.if_icmp .ge 31, 3) := by decide +kernel
theorem d_Mdl_next_49 : decode b_Mdl_next 49 = .ok (.aload_n 0, 1) := by decide +kernel
theorem d_Mdl_next_50 : decode b_Mdl_next 50 = .ok (.getfield 46, 3) := by decide +kernel
theorem d_Mdl_next_53 : decode b_Mdl_next 53 = .ok (.iload_n 3, 1) := by decide +kernel
theorem d_Mdl_next_54 : decode b_Mdl_next 54 = .ok (.aload_n 0, 1) := by decide +kernel
theorem d_Mdl_next_55 : decode b_Mdl_next 55 = .ok (.getfield 27, 3) := by decide +kernel
theorem d_Mdl_next_58 : decode b_Mdl_next 58 = .ok (.sipush 200, 3) := by decide +kernel
theorem d_Mdl_next_61 : decode b_Mdl_next 61 = .ok (.iload_n 2, 1) := by decide +kernel
theorem d_Mdl_next_62 : decode b_Mdl_next 62 = .ok (.imul, 1) := by decide +kernel
theorem d_Mdl_next_63 : decode b_Mdl_next 63 = .ok (.iload_n 3, 1) := by decide +kernel
theorem d_Mdl_next_64 : decode b_Mdl_next 64 = .ok (.iadd, 1) := by decide +kernel
theorem d_Mdl_next_65 : decode b_Mdl_next 65 = .ok (.baload, 1) := by decide +kernel
theorem d_Mdl_next_66 : decode b_Mdl_next 66 = .ok (.sipush 255, 3) := by decide +kernel
theorem d_Mdl_next_69 : decode b_Mdl_next 69 = .ok (.iand, 1) := by decide +kernel
theorem d_Mdl_next_70 : decode b_Mdl_next 70 = .ok (.iastore, 1) := by decide +kernel
theorem d_Mdl_next_71 : decode b_Mdl_next 71 = .ok (.iinc 3 1, 3) := by decide +kernel
theorem d_Mdl_next_74 : decode b_Mdl_next 74 = .ok (.goto (-33), 3) := by decide +kernel
theorem d_Mdl_next_77 : decode b_Mdl_next 77 = .ok (.aload_n 0, 1) := by decide +kernel
theorem d_Mdl_next_78 : decode b_Mdl_next 78 = .ok (.getfield 85, 3) := by decide +kernel
theorem d_Mdl_next_81 : decode b_Mdl_next 81 = .ok (.ireturn, 1) := by decide +kernel
theorem d_Mdl_next_82 : decode b_Mdl_next 82 = .ok (.iinc 1 1, 3) := by decide +kernel
theorem d_Mdl_next_85 : decode b_Mdl_next 85 = .ok (.goto (-83), 3) := by decide +kernel
theorem d_Mdl_next_88 : decode b_Mdl_next 88 = .ok (.bipush (-2), 2) := by decide +kernel
theorem d_Mdl_next_90 : decode b_Mdl_next 90 = .ok (.ireturn, 1) := by decide +kernel
theorem d_Mdl_told_0 : decode b_Mdl_told 0 = .ok (.iload_n 1, 1) := by decide +kernel
theorem d_Mdl_told_1 : decode b_Mdl_told 1 = .ok (.ifCond .lt 11, 3) := by decide +kernel
theorem d_Mdl_told_4 : decode b_Mdl_told 4 = .ok (.iload_n 1, 1) := by decide +kernel
theorem d_Mdl_told_5 : decode b_Mdl_told 5 = .ok (.aload_n 0, 1) := by decide +kernel
theorem d_Mdl_told_6 : decode b_Mdl_told 6 = .ok (.getfield 85, 3) := by decide +kernel
end
section
theorem d_Mdl_told_9 : decode b_Mdl_told 9 = .ok (.if_icmp .lt 8, 3) := by decide +kernel
theorem d_Mdl_told_12 : decode b_Mdl_told 12 = .ok (.bipush (-2), 2) := by decide +kernel
theorem d_Mdl_told_14 : decode b_Mdl_told 14 = .ok (.goto 9, 3) := by decide +kernel
theorem d_Mdl_told_17 : decode b_Mdl_told 17 = .ok (.aload_n 0, 1) := by decide +kernel
theorem d_Mdl_told_18 : decode b_Mdl_told 18 = .ok (.getfield 46, 3) := by decide +kernel
theorem d_Mdl_told_21 : decode b_Mdl_told 21 = .ok (.iload_n 1, 1) := by decide +kernel
theorem d_Mdl_told_22 : decode b_Mdl_told 22 = .ok (.iaload, 1) := by decide +kernel
theorem d_Mdl_told_23 : decode b_Mdl_told 23 = .ok (.ireturn, 1) := by decide +kernel
theorem d_Mdl_file_0 : decode b_Mdl_file 0 = .ok (.iload_n 2, 1) := by decide +kernel
theorem d_Mdl_file_1 : decode b_Mdl_file 1 = .ok (.ifCond .lt 8, 3) := by decide +kernel
theorem d_Mdl_file_4 : decode b_Mdl_file 4 = .ok (.iload_n 2, 1) := by decide +kernel
theorem d_Mdl_file_5 : decode b_Mdl_file 5 = .ok (.iconst 3, 1) := by decide +kernel
theorem d_Mdl_file_6 : decode b_Mdl_file 6 = .ok (.if_icmp .le 5, 3) := by decide +kernel
theorem d_Mdl_file_9 : decode b_Mdl_file 9 = .ok (.iconst (-1), 1) := by decide +kernel
theorem d_Mdl_file_10 : decode b_Mdl_file 10 = .ok (.ireturn, 1) := by decide +kernel
theorem d_Mdl_file_11 : decode b_Mdl_file 11 = .ok (.iload_n 1, 1) := by decide +kernel
theorem d_Mdl_file_12 : decode b_Mdl_file 12 = .ok (.ifCond .lt 11, 3) := by decide +kernel
theorem d_Mdl_file_15 : decode b_Mdl_file 15 = .ok (.iload_n 1, 1) := by decide +kernel
theorem d_Mdl_file_16 : decode b_Mdl_file 16 = .ok (.aload_n 0, 1) := by decide +kernel
theorem d_Mdl_file_17 : decode b_Mdl_file 17 = .ok (.getfield 57, 3) := by decide +kernel
theorem d_Mdl_file_20 : decode b_Mdl_file 20 = .ok (.if_icmp .lt 6, 3) := by decide +kernel
theorem d_Mdl_file_23 : decode b_Mdl_file 23 = .ok (.bipush (-2), 2) := by decide +kernel
theorem d_Mdl_file_25 : decode b_Mdl_file 25 = .ok (.ireturn, 1) := by decide +kernel
theorem d_Mdl_file_26 : decode b_Mdl_file 26 = .ok (.aload_n 0, 1) := by decide +kernel
theorem d_Mdl_file_27 : decode b_Mdl_file 27 = .ok (.getfield 20, 3) := by decide +kernel
theorem d_Mdl_file_30 : decode b_Mdl_file 30 = .ok (.iload_n 1, 1) := by decide +kernel
theorem d_Mdl_file_31 : decode b_Mdl_file 31 = .ok (.iaload, 1) := by decide +kernel
theorem d_Mdl_file_32 : decode b_Mdl_file 32 = .ok (.istore_n 3, 1) := by decide +kernel
theorem d_Mdl_file_33 : decode b_Mdl_file 33 = .ok (.iload_n 2, 1) := by decide +kernel
theorem d_Mdl_file_34 : decode b_Mdl_file 34 = .ok (.ifCond .ne 12, 3) := by decide +kernel
theorem d_Mdl_file_37 : decode b_Mdl_file 37 = .ok (.aload_n 0, 1) := by decide +kernel
theorem d_Mdl_file_38 : decode b_Mdl_file 38 = .ok (.getfield 36, 3) := by decide +kernel
theorem d_Mdl_file_41 : decode b_Mdl_file 41 = .ok (.iload_n 3, 1) := by decide +kernel
theorem d_Mdl_file_42 : decode b_Mdl_file 42 = .ok (.iaload, 1) := by decide +kernel
theorem d_Mdl_file_43 : decode b_Mdl_file 43 = .ok (.goto 36, 3) := by decide +kernel
theorem d_Mdl_file_46 : decode b_Mdl_file 46 = .ok (.iload_n 2, 1) := by decide +kernel
theorem d_Mdl_file_47 : decode b_Mdl_file 47 = .ok (.iconst 1, 1) := by decide +kernel
theorem d_Mdl_file_48 : decode b_Mdl_file 48 = .ok (.if_icmp .ne 12, 3) := by decide +kernel
theorem d_Mdl_file_51 : decode b_Mdl_file 51 = .ok (.aload_n 0, 1) := by decide +kernel
theorem d_Mdl_file_52 : decode b_Mdl_file 52 = .ok (.getfield 33, 3) := by decide +kernel
theorem d_Mdl_file_55 : decode b_Mdl_file 55 = .ok (.iload_n 3, 1) := by decide +kernel
theorem d_Mdl_file_56 : decode b_Mdl_file 56 = .ok (.iaload, 1) := by decide +kernel
theorem d_Mdl_file_57 : decode b_Mdl_file 57 = .ok (.goto 22, 3) := by decide +kernel
theorem d_Mdl_file_60 : decode b_Mdl_file 60 = .ok (.iload_n 2, 1) := by decide +kernel
theorem d_Mdl_file_61 : decode b_Mdl_file 61 = .ok (.iconst 2, 1) := by decide +kernel
theorem d_Mdl_file_62 : decode b_Mdl_file 62 = .ok (.if_icmp .ne 12, 3) := by decide +kernel
theorem d_Mdl_file_65 : decode b_Mdl_file 65 = .ok (.aload_n 0, 1) := by decide +kernel
theorem d_Mdl_file_66 : decode b_Mdl_file 66 = .ok (.getfield 30, 3) := by decide +kernel
theorem d_Mdl_file_69 : decode b_Mdl_file 69 = .ok (.iload_n 3, 1) := by decide +kernel
theorem d_Mdl_file_70 : decode b_Mdl_file 70 = .ok (.iaload, 1) := by decide +kernel
theorem d_Mdl_file_71 : decode b_Mdl_file 71 = .ok (.goto 8, 3) := by decide +kernel
theorem d_Mdl_file_74 : decode b_Mdl_file 74 = .ok (.aload_n 0, 1) := by decide +kernel
theorem d_Mdl_file_75 : decode b_Mdl_file 75 = .ok (.iload_n 3, 1) := by decide +kernel
theorem d_Mdl_file_76 : decode b_Mdl_file 76 = .ok (.invokevirtual 114, 3) := by decide +kernel
theorem d_Mdl_file_79 : decode b_Mdl_file 79 = .ok (.ireturn, 1) := by decide +kernel
theorem d_Mdl_stripes_0 : decode b_Mdl_stripes 0 = .ok (.iconst 0, 1) := by decide +kernel
theorem d_Mdl_stripes_1 : decode b_Mdl_stripes 1 = .ok (.istore_n 2, 1) := by decide +kernel
theorem d_Mdl_stripes_2 : decode b_Mdl_stripes 2 = .ok (.iconst 0, 1) := by decide +kernel
theorem d_Mdl_stripes_3 : decode b_Mdl_stripes 3 = .ok (.istore_n 3, 1) := by decide +kernel
theorem d_Mdl_stripes_4 : decode b_Mdl_stripes 4 = .ok (.iload_n 3, 1) := by decide +kernel
theorem d_Mdl_stripes_5 : decode b_Mdl_stripes 5 = .ok (.bipush 19, 2) := by decide +kernel
theorem d_Mdl_stripes_7 : decode b_Mdl_stripes 7 = .ok (.if_icmp .ge 31, 3) := by decide +kernel
theorem d_Mdl_stripes_10 : decode b_Mdl_stripes 10 = .ok (.iload_n 2, 1) := by decide +kernel
theorem d_Mdl_stripes_11 : decode b_Mdl_stripes 11 = .ok (.aload_n 0, 1) := by decide +kernel
theorem d_Mdl_stripes_12 : decode b_Mdl_stripes 12 = .ok (.getfield 43, 3) := by decide +kernel
theorem d_Mdl_stripes_15 : decode b_Mdl_stripes 15 = .ok (.bipush 19, 2) := by decide +kernel
theorem d_Mdl_stripes_17 : decode b_Mdl_stripes 17 = .ok (.iload_n 1, 1) := by decide +kernel
theorem d_Mdl_stripes_18 : decode b_Mdl_stripes 18 = .ok (.imul, 1) := by decide +kernel
theorem d_Mdl_stripes_19 : decode b_Mdl_stripes 19 = .ok (.iload_n 3, 1) := by decide +kernel
theorem d_Mdl_stripes_20 : decode b_Mdl_stripes 20 = .ok (.iadd, 1) := by decide +kernel
theorem d_Mdl_stripes_21 : decode b_Mdl_stripes 21 = .ok (.baload, 1) := by decide +kernel
theorem d_Mdl_stripes_22 : decode b_Mdl_stripes 22 = .ok (.ifCond .eq 7, 3) := by decide +kernel
theorem d_Mdl_stripes_25 : decode b_Mdl_stripes 25 = .ok (.iconst 1, 1) := by decide +kernel
theorem d_Mdl_stripes_26 : decode b_Mdl_stripes 26 = .ok (.goto 4, 3) := by decide +kernel
theorem d_Mdl_stripes_29 : decode b_Mdl_stripes 29 = .ok (.iconst 0, 1) := by decide +kernel
theorem d_Mdl_stripes_30 : decode b_Mdl_stripes 30 = .ok (.iadd, 1) := by decide +kernel
theorem d_Mdl_stripes_31 : decode b_Mdl_stripes 31 = .ok (.istore_n 2, 1) := by decide +kernel
theorem d_Mdl_stripes_32 : decode b_Mdl_stripes 32 = .ok (.iinc 3 1, 3) := by decide +kernel
theorem d_Mdl_stripes_35 : decode b_Mdl_stripes 35 = .ok (.goto (-31), 3) := by decide +kernel
theorem d_Mdl_stripes_38 : decode b_Mdl_stripes 38 = .ok (.iload_n 2, 1) := by decide +kernel
theorem d_Mdl_stripes_39 : decode b_Mdl_stripes 39 = .ok (.ireturn, 1) := by decide +kernel
theorem d_Mdl_piece_0 : decode b_Mdl_piece 0 = .ok (.iload_n 1, 1) := by decide +kernel
theorem d_Mdl_piece_1 : decode b_Mdl_piece 1 = .ok (.ifCond .lt 32, 3) := by decide +kernel
theorem d_Mdl_piece_4 : decode b_Mdl_piece 4 = .ok (.iload_n 1, 1) := by decide +kernel
theorem d_Mdl_piece_5 : decode b_Mdl_piece 5 = .ok (.aload_n 0, 1) := by decide +kernel
theorem d_Mdl_piece_6 : decode b_Mdl_piece 6 = .ok (.getfield 57, 3) := by decide +kernel
theorem d_Mdl_piece_9 : decode b_Mdl_piece 9 = .ok (.if_icmp .ge 24, 3) := by decide +kernel
theorem d_Mdl_piece_12 : decode b_Mdl_piece 12 = .ok (.iload_n 2, 1) := by decide +kernel
theorem d_Mdl_piece_13 : decode b_Mdl_piece 13 = .ok (.ifCond .lt 20, 3) := by decide +kernel
theorem d_Mdl_piece_16 : decode b_Mdl_piece 16 = .ok (.iload_n 2, 1) := by decide +kernel
theorem d_Mdl_piece_17 : decode b_Mdl_piece 17 = .ok (.bipush 18, 2) := by decide +kernel
theorem d_Mdl_piece_19 : decode b_Mdl_piece 19 = .ok (.if_icmp .gt 14, 3) := by decide +kernel
theorem d_Mdl_piece_22 : decode b_Mdl_piece 22 = .ok (.iload_n 3, 1) := by decide +kernel
theorem d_Mdl_piece_23 : decode b_Mdl_piece 23 = .ok (.ifCond .lt 10, 3) := by decide +kernel
theorem d_Mdl_piece_26 : decode b_Mdl_piece 26 = .ok (.iload_n 3, 1) := by decide +kernel
theorem d_Mdl_piece_27 : decode b_Mdl_piece 27 = .ok (.sipush 448, 3) := by decide +kernel
theorem d_Mdl_piece_30 : decode b_Mdl_piece 30 = .ok (.if_icmp .lt 6, 3) := by decide +kernel
theorem d_Mdl_piece_33 : decode b_Mdl_piece 33 = .ok (.bipush (-2), 2) := by decide +kernel
theorem d_Mdl_piece_35 : decode b_Mdl_piece 35 = .ok (.ireturn, 1) := by decide +kernel
theorem d_Mdl_piece_36 : decode b_Mdl_piece 36 = .ok (.aload_n 0, 1) := by decide +kernel
theorem d_Mdl_piece_37 : decode b_Mdl_piece 37 = .ok (.getfield 20, 3) := by decide +kernel
theorem d_Mdl_piece_40 : decode b_Mdl_piece 40 = .ok (.iload_n 1, 1) := by decide +kernel
theorem d_Mdl_piece_41 : decode b_Mdl_piece 41 = .ok (.iaload, 1) := by decide +kernel
theorem d_Mdl_piece_42 : decode b_Mdl_piece 42 = .ok (.istore 4, 2) := by decide +kernel
theorem d_Mdl_piece_44 : decode b_Mdl_piece 44 = .ok (.sipush 448, 3) := by decide +kernel
theorem d_Mdl_piece_47 : decode b_Mdl_piece 47 = .ok (.iload_n 2, 1) := by decide +kernel
theorem d_Mdl_piece_48 : decode b_Mdl_piece 48 = .ok (.imul, 1) := by decide +kernel
theorem d_Mdl_piece_49 : decode b_Mdl_piece 49 = .ok (.iload_n 3, 1) := by decide +kernel
theorem d_Mdl_piece_50 : decode b_Mdl_piece 50 = .ok (.iadd, 1) := by decide +kernel
theorem d_Mdl_piece_51 : decode b_Mdl_piece 51 = .ok (.istore 5, 2) := by decide +kernel
theorem d_Mdl_piece_53 : decode b_Mdl_piece 53 = .ok (.aload_n 0, 1) := by decide +kernel
theorem d_Mdl_piece_54 : decode b_Mdl_piece 54 = .ok (.getfield 43, 3) := by decide +kernel
theorem d_Mdl_piece_57 : decode b_Mdl_piece 57 = .ok (.bipush 19, 2) := by decide +kernel
theorem d_Mdl_piece_59 : decode b_Mdl_piece 59 = .ok (.iload 4, 2) := by decide +kernel
theorem d_Mdl_piece_61 : decode b_Mdl_piece 61 = .ok (.imul, 1) := by decide +kernel
theorem d_Mdl_piece_62 : decode b_Mdl_piece 62 = .ok (.iload_n 2, 1) := by decide +kernel
theorem d_Mdl_piece_63 : decode b_Mdl_piece 63 = .ok (.iadd, 1) := by decide +kernel
theorem d_Mdl_piece_64 : decode b_Mdl_piece 64 = .ok (.baload, 1) := by decide +kernel
theorem d_Mdl_piece_65 : decode b_Mdl_piece 65 = .ok (.ifCond .eq 36, 3) := by decide +kernel
theorem d_Mdl_piece_68 : decode b_Mdl_piece 68 = .ok (.iload 5, 2) := by decide +kernel
theorem d_Mdl_piece_70 : decode b_Mdl_piece 70 = .ok (.aload_n 0, 1) := by decide +kernel
theorem d_Mdl_piece_71 : decode b_Mdl_piece 71 = .ok (.getfield 36, 3) := by decide +kernel
theorem d_Mdl_piece_74 : decode b_Mdl_piece 74 = .ok (.iload 4, 2) := by decide +kernel
theorem d_Mdl_piece_76 : decode b_Mdl_piece 76 = .ok (.iaload, 1) := by decide +kernel
theorem d_Mdl_piece_77 : decode b_Mdl_piece 77 = .ok (.if_icmp .ge 24, 3) := by decide +kernel
theorem d_Mdl_piece_80 : decode b_Mdl_piece 80 = .ok (.aload_n 0, 1) := by decide +kernel
theorem d_Mdl_piece_81 : decode b_Mdl_piece 81 = .ok (.getfield 40, 3) := by decide +kernel
theorem d_Mdl_piece_84 : decode b_Mdl_piece 84 = .ok (.sipush 8192, 3) := by decide +kernel
theorem d_Mdl_piece_87 : decode b_Mdl_piece 87 = .ok (.iload 4, 2) := by decide +kernel
theorem d_Mdl_piece_89 : decode b_Mdl_piece 89 = .ok (.imul, 1) := by decide +kernel
theorem d_Mdl_piece_90 : decode b_Mdl_piece 90 = .ok (.iload 5, 2) := by decide +kernel
theorem d_Mdl_piece_92 : decode b_Mdl_piece 92 = .ok (.iadd, 1) := by decide +kernel
theorem d_Mdl_piece_93 : decode b_Mdl_piece 93 = .ok (.baload, 1) := by decide +kernel
theorem d_Mdl_piece_94 : decode b_Mdl_piece 94 = .ok (.sipush 255, 3) := by decide +kernel
theorem d_Mdl_piece_97 : decode b_Mdl_piece 97 = .ok (.iand, 1) := by decide +kernel
theorem d_Mdl_piece_98 : decode b_Mdl_piece 98 = .ok (.goto 5, 3) := by decide +kernel
theorem d_Mdl_piece_101 : decode b_Mdl_piece 101 = .ok (.bipush (-2), 2) := by decide +kernel
theorem d_Mdl_piece_103 : decode b_Mdl_piece 103 = .ok (.ireturn, 1) := by decide +kernel
theorem d_Mdl_count_0 : decode b_Mdl_count 0 = .ok (.iconst 0, 1) := by decide +kernel
theorem d_Mdl_count_1 : decode b_Mdl_count 1 = .ok (.istore_n 2, 1) := by decide +kernel
theorem d_Mdl_count_2 : decode b_Mdl_count 2 = .ok (.iconst 0, 1) := by decide +kernel
theorem d_Mdl_count_3 : decode b_Mdl_count 3 = .ok (.istore_n 3, 1) := by decide +kernel
theorem d_Mdl_count_4 : decode b_Mdl_count 4 = .ok (.iload_n 3, 1) := by decide +kernel
theorem d_Mdl_count_5 : decode b_Mdl_count 5 = .ok (.aload_n 0, 1) := by decide +kernel
theorem d_Mdl_count_6 : decode b_Mdl_count 6 = .ok (.getfield 57, 3) := by decide +kernel
theorem d_Mdl_count_9 : decode b_Mdl_count 9 = .ok (.if_icmp .ge 22, 3) := by decide +kernel
theorem d_Mdl_count_12 : decode b_Mdl_count 12 = .ok (.iload_n 2, 1) := by decide +kernel
theorem d_Mdl_count_13 : decode b_Mdl_count 13 = .ok (.aload_n 0, 1) := by decide +kernel
theorem d_Mdl_count_14 : decode b_Mdl_count 14 = .ok (.aload_n 0, 1) := by decide +kernel
theorem d_Mdl_count_15 : decode b_Mdl_count 15 = .ok (.getfield 20, 3) := by decide +kernel
theorem d_Mdl_count_18 : decode b_Mdl_count 18 = .ok (.iload_n 3, 1) := by decide +kernel
theorem d_Mdl_count_19 : decode b_Mdl_count 19 = .ok (.iaload, 1) := by decide +kernel
theorem d_Mdl_count_20 : decode b_Mdl_count 20 = .ok (.invokevirtual 114, 3) := by decide +kernel
theorem d_Mdl_count_23 : decode b_Mdl_count 23 = .ok (.iadd, 1) := by decide +kernel
theorem d_Mdl_count_24 : decode b_Mdl_count 24 = .ok (.istore_n 2, 1) := by decide +kernel
theorem d_Mdl_count_25 : decode b_Mdl_count 25 = .ok (.iinc 3 1, 3) := by decide +kernel
theorem d_Mdl_count_28 : decode b_Mdl_count 28 = .ok (.goto (-24), 3) := by decide +kernel
theorem d_Mdl_count_31 : decode b_Mdl_count 31 = .ok (.iload_n 1, 1) := by decide +kernel
theorem d_Mdl_count_32 : decode b_Mdl_count 32 = .ok (.tableswitch 58 0 4 #[36, 41, 46, 48, 53], 36) := by decide +kernel
theorem d_Mdl_count_68 : decode b_Mdl_count 68 = .ok (.aload_n 0, 1) := by decide +kernel
theorem d_Mdl_count_69 : decode b_Mdl_count 69 = .ok (.getfield 57, 3) := by decide +kernel
theorem d_Mdl_count_72 : decode b_Mdl_count 72 = .ok (.ireturn, 1) := by decide +kernel
theorem d_Mdl_count_73 : decode b_Mdl_count 73 = .ok (.aload_n 0, 1) := by decide +kernel
theorem d_Mdl_count_74 : decode b_Mdl_count 74 = .ok (.getfield 71, 3) := by decide +kernel
theorem d_Mdl_count_77 : decode b_Mdl_count 77 = .ok (.ireturn, 1) := by decide +kernel
theorem d_Mdl_count_78 : decode b_Mdl_count 78 = .ok (.iload_n 2, 1) := by decide +kernel
theorem d_Mdl_count_79 : decode b_Mdl_count 79 = .ok (.ireturn, 1) := by decide +kernel
theorem d_Mdl_count_80 : decode b_Mdl_count 80 = .ok (.aload_n 0, 1) := by decide +kernel
theorem d_Mdl_count_81 : decode b_Mdl_count 81 = .ok (.getfield 91, 3) := by decide +kernel
theorem d_Mdl_count_84 : decode b_Mdl_count 84 = .ok (.ireturn, 1) := by decide +kernel
theorem d_Mdl_count_85 : decode b_Mdl_count 85 = .ok (.aload_n 0, 1) := by decide +kernel
theorem d_Mdl_count_86 : decode b_Mdl_count 86 = .ok (.getfield 49, 3) := by decide +kernel
theorem d_Mdl_count_89 : decode b_Mdl_count 89 = .ok (.ireturn, 1) := by decide +kernel
theorem d_Mdl_count_90 : decode b_Mdl_count 90 = .ok (.iconst (-1), 1) := by decide +kernel
theorem d_Mdl_count_91 : decode b_Mdl_count 91 = .ok (.ireturn, 1) := by decide +kernel
theorem d_law_0 : decode code 0 = .ok (.new 7, 3) := by decide +kernel
theorem d_law_3 : decode code 3 = .ok (.dup, 1) := by decide +kernel
theorem d_law_4 : decode code 4 = .ok (.invokespecial 9, 3) := by decide +kernel
theorem d_law_7 : decode code 7 = .ok (.astore_n 1, 1) := by decide +kernel
theorem d_law_8 : decode code 8 = .ok (.new 10, 3) := by decide +kernel
theorem d_law_11 : decode code 11 = .ok (.dup, 1) := by decide +kernel
theorem d_law_12 : decode code 12 = .ok (.invokespecial 12, 3) := by decide +kernel
theorem d_law_15 : decode code 15 = .ok (.astore_n 2, 1) := by decide +kernel
theorem d_law_16 : decode code 16 = .ok (.iconst 0, 1) := by decide +kernel
theorem d_law_17 : decode code 17 = .ok (.istore_n 3, 1) := by decide +kernel
theorem d_law_18 : decode code 18 = .ok (.iload_n 3, 1) := by decide +kernel
theorem d_law_19 : decode code 19 = .ok (.aload_n 0, 1) := by decide +kernel
theorem d_law_20 : decode code 20 = .ok (.arraylength, 1) := by decide +kernel
theorem d_law_21 : decode code 21 = .ok (.bipush 6, 2) := by decide +kernel
theorem d_law_23 : decode code 23 = .ok (.isub, 1) := by decide +kernel
theorem d_law_24 : decode code 24 = .ok (.if_icmp .gt 336, 3) := by decide +kernel
theorem d_law_27 : decode code 27 = .ok (.aload_n 0, 1) := by decide +kernel
theorem d_law_28 : decode code 28 = .ok (.iload_n 3, 1) := by decide +kernel
theorem d_law_29 : decode code 29 = .ok (.iaload, 1) := by decide +kernel
theorem d_law_30 : decode code 30 = .ok (.bipush 7, 2) := by decide +kernel
theorem d_law_32 : decode code 32 = .ok (.iand, 1) := by decide +kernel
theorem d_law_33 : decode code 33 = .ok (.tableswitch 321 0 7 #[47, 110, 133, 156, 199, 222, 255, 298], 47) := by decide +kernel
theorem d_law_80 : decode code 80 = .ok (.aload_n 1, 1) := by decide +kernel
theorem d_law_81 : decode code 81 = .ok (.aload_n 0, 1) := by decide +kernel
theorem d_law_82 : decode code 82 = .ok (.iload_n 3, 1) := by decide +kernel
theorem d_law_83 : decode code 83 = .ok (.iconst 1, 1) := by decide +kernel
theorem d_law_84 : decode code 84 = .ok (.iadd, 1) := by decide +kernel
theorem d_law_85 : decode code 85 = .ok (.iaload, 1) := by decide +kernel
theorem d_law_86 : decode code 86 = .ok (.aload_n 0, 1) := by decide +kernel
theorem d_law_87 : decode code 87 = .ok (.iload_n 3, 1) := by decide +kernel
theorem d_law_88 : decode code 88 = .ok (.iconst 2, 1) := by decide +kernel
theorem d_law_89 : decode code 89 = .ok (.iadd, 1) := by decide +kernel
theorem d_law_90 : decode code 90 = .ok (.iaload, 1) := by decide +kernel
theorem d_law_91 : decode code 91 = .ok (.aload_n 0, 1) := by decide +kernel
theorem d_law_92 : decode code 92 = .ok (.iload_n 3, 1) := by decide +kernel
theorem d_law_93 : decode code 93 = .ok (.iconst 3, 1) := by decide +kernel
theorem d_law_94 : decode code 94 = .ok (.iadd, 1) := by decide +kernel
theorem d_law_95 : decode code 95 = .ok (.iaload, 1) := by decide +kernel
theorem d_law_96 : decode code 96 = .ok (.aload_n 0, 1) := by decide +kernel
theorem d_law_97 : decode code 97 = .ok (.iload_n 3, 1) := by decide +kernel
theorem d_law_98 : decode code 98 = .ok (.iconst 4, 1) := by decide +kernel
theorem d_law_99 : decode code 99 = .ok (.iadd, 1) := by decide +kernel
theorem d_law_100 : decode code 100 = .ok (.iaload, 1) := by decide +kernel
theorem d_law_101 : decode code 101 = .ok (.aload_n 0, 1) := by decide +kernel
theorem d_law_102 : decode code 102 = .ok (.iload_n 3, 1) := by decide +kernel
theorem d_law_103 : decode code 103 = .ok (.iconst 5, 1) := by decide +kernel
theorem d_law_104 : decode code 104 = .ok (.iadd, 1) := by decide +kernel
theorem d_law_105 : decode code 105 = .ok (.iaload, 1) := by decide +kernel
theorem d_law_106 : decode code 106 = .ok (.invokevirtual 13, 3) := by decide +kernel
theorem d_law_109 : decode code 109 = .ok (.aload_n 2, 1) := by decide +kernel
theorem d_law_110 : decode code 110 = .ok (.aload_n 0, 1) := by decide +kernel
theorem d_law_111 : decode code 111 = .ok (.iload_n 3, 1) := by decide +kernel
theorem d_law_112 : decode code 112 = .ok (.iconst 1, 1) := by decide +kernel
theorem d_law_113 : decode code 113 = .ok (.iadd, 1) := by decide +kernel
theorem d_law_114 : decode code 114 = .ok (.iaload, 1) := by decide +kernel
theorem d_law_115 : decode code 115 = .ok (.aload_n 0, 1) := by decide +kernel
theorem d_law_116 : decode code 116 = .ok (.iload_n 3, 1) := by decide +kernel
theorem d_law_117 : decode code 117 = .ok (.iconst 2, 1) := by decide +kernel
theorem d_law_118 : decode code 118 = .ok (.iadd, 1) := by decide +kernel
theorem d_law_119 : decode code 119 = .ok (.iaload, 1) := by decide +kernel
theorem d_law_120 : decode code 120 = .ok (.aload_n 0, 1) := by decide +kernel
theorem d_law_121 : decode code 121 = .ok (.iload_n 3, 1) := by decide +kernel
theorem d_law_122 : decode code 122 = .ok (.iconst 3, 1) := by decide +kernel
theorem d_law_123 : decode code 123 = .ok (.iadd, 1) := by decide +kernel
theorem d_law_124 : decode code 124 = .ok (.iaload, 1) := by decide +kernel
theorem d_law_125 : decode code 125 = .ok (.aload_n 0, 1) := by decide +kernel
theorem d_law_126 : decode code 126 = .ok (.iload_n 3, 1) := by decide +kernel
theorem d_law_127 : decode code 127 = .ok (.iconst 4, 1) := by decide +kernel
theorem d_law_128 : decode code 128 = .ok (.iadd, 1) := by decide +kernel
theorem d_law_129 : decode code 129 = .ok (.iaload, 1) := by decide +kernel
theorem d_law_130 : decode code 130 = .ok (.aload_n 0, 1) := by decide +kernel
theorem d_law_131 : decode code 131 = .ok (.iload_n 3, 1) := by decide +kernel
theorem d_law_132 : decode code 132 = .ok (.iconst 5, 1) := by decide +kernel
theorem d_law_133 : decode code 133 = .ok (.iadd, 1) := by decide +kernel
theorem d_law_134 : decode code 134 = .ok (.iaload, 1) := by decide +kernel
theorem d_law_135 : decode code 135 = .ok (.invokevirtual 17, 3) := by decide +kernel
theorem d_law_138 : decode code 138 = .ok (.if_icmp .eq 216, 3) := by decide +kernel
theorem d_law_141 : decode code 141 = .ok (.iconst 0, 1) := by decide +kernel
theorem d_law_142 : decode code 142 = .ok (.ireturn, 1) := by decide +kernel
theorem d_law_143 : decode code 143 = .ok (.aload_n 1, 1) := by decide +kernel
theorem d_law_144 : decode code 144 = .ok (.aload_n 0, 1) := by decide +kernel
theorem d_law_145 : decode code 145 = .ok (.iload_n 3, 1) := by decide +kernel
theorem d_law_146 : decode code 146 = .ok (.iconst 1, 1) := by decide +kernel
theorem d_law_147 : decode code 147 = .ok (.iadd, 1) := by decide +kernel
theorem d_law_148 : decode code 148 = .ok (.iaload, 1) := by decide +kernel
theorem d_law_149 : decode code 149 = .ok (.invokevirtual 18, 3) := by decide +kernel
theorem d_law_152 : decode code 152 = .ok (.aload_n 2, 1) := by decide +kernel
theorem d_law_153 : decode code 153 = .ok (.aload_n 0, 1) := by decide +kernel
theorem d_law_154 : decode code 154 = .ok (.iload_n 3, 1) := by decide +kernel
theorem d_law_155 : decode code 155 = .ok (.iconst 1, 1) := by decide +kernel
theorem d_law_156 : decode code 156 = .ok (.iadd, 1) := by decide +kernel
theorem d_law_157 : decode code 157 = .ok (.iaload, 1) := by decide +kernel
theorem d_law_158 : decode code 158 = .ok (.invokevirtual 22, 3) := by decide +kernel
theorem d_law_161 : decode code 161 = .ok (.if_icmp .eq 193, 3) := by decide +kernel
theorem d_law_164 : decode code 164 = .ok (.iconst 0, 1) := by decide +kernel
theorem d_law_165 : decode code 165 = .ok (.ireturn, 1) := by decide +kernel
theorem d_law_166 : decode code 166 = .ok (.aload_n 1, 1) := by decide +kernel
theorem d_law_167 : decode code 167 = .ok (.aload_n 0, 1) := by decide +kernel
theorem d_law_168 : decode code 168 = .ok (.iload_n 3, 1) := by decide +kernel
theorem d_law_169 : decode code 169 = .ok (.iconst 1, 1) := by decide +kernel
theorem d_law_170 : decode code 170 = .ok (.iadd, 1) := by decide +kernel
theorem d_law_171 : decode code 171 = .ok (.iaload, 1) := by decide +kernel
theorem d_law_172 : decode code 172 = .ok (.invokevirtual 23, 3) := by decide +kernel
theorem d_law_175 : decode code 175 = .ok (.aload_n 2, 1) := by decide +kernel
theorem d_law_176 : decode code 176 = .ok (.aload_n 0, 1) := by decide +kernel
theorem d_law_177 : decode code 177 = .ok (.iload_n 3, 1) := by decide +kernel
theorem d_law_178 : decode code 178 = .ok (.iconst 1, 1) := by decide +kernel
theorem d_law_179 : decode code 179 = .ok (.iadd, 1) := by decide +kernel
theorem d_law_180 : decode code 180 = .ok (.iaload, 1) := by decide +kernel
theorem d_law_181 : decode code 181 = .ok (.invokevirtual 26, 3) := by decide +kernel
theorem d_law_184 : decode code 184 = .ok (.if_icmp .eq 170, 3) := by decide +kernel
theorem d_law_187 : decode code 187 = .ok (.iconst 0, 1) := by decide +kernel
theorem d_law_188 : decode code 188 = .ok (.ireturn, 1) := by decide +kernel
theorem d_law_189 : decode code 189 = .ok (.aload_n 1, 1) := by decide +kernel
theorem d_law_190 : decode code 190 = .ok (.aload_n 0, 1) := by decide +kernel
theorem d_law_191 : decode code 191 = .ok (.iload_n 3, 1) := by decide +kernel
theorem d_law_192 : decode code 192 = .ok (.iconst 1, 1) := by decide +kernel
theorem d_law_193 : decode code 193 = .ok (.iadd, 1) := by decide +kernel
theorem d_law_194 : decode code 194 = .ok (.iaload, 1) := by decide +kernel
theorem d_law_195 : decode code 195 = .ok (.aload_n 0, 1) := by decide +kernel
theorem d_law_196 : decode code 196 = .ok (.iload_n 3, 1) := by decide +kernel
theorem d_law_197 : decode code 197 = .ok (.iconst 2, 1) := by decide +kernel
theorem d_law_198 : decode code 198 = .ok (.iadd, 1) := by decide +kernel
theorem d_law_199 : decode code 199 = .ok (.iaload, 1) := by decide +kernel
theorem d_law_200 : decode code 200 = .ok (.aload_n 0, 1) := by decide +kernel
theorem d_law_201 : decode code 201 = .ok (.iload_n 3, 1) := by decide +kernel
theorem d_law_202 : decode code 202 = .ok (.iconst 3, 1) := by decide +kernel
theorem d_law_203 : decode code 203 = .ok (.iadd, 1) := by decide +kernel
theorem d_law_204 : decode code 204 = .ok (.iaload, 1) := by decide +kernel
theorem d_law_205 : decode code 205 = .ok (.invokevirtual 27, 3) := by decide +kernel
theorem d_law_208 : decode code 208 = .ok (.aload_n 2, 1) := by decide +kernel
theorem d_law_209 : decode code 209 = .ok (.aload_n 0, 1) := by decide +kernel
theorem d_law_210 : decode code 210 = .ok (.iload_n 3, 1) := by decide +kernel
theorem d_law_211 : decode code 211 = .ok (.iconst 1, 1) := by decide +kernel
theorem d_law_212 : decode code 212 = .ok (.iadd, 1) := by decide +kernel
theorem d_law_213 : decode code 213 = .ok (.iaload, 1) := by decide +kernel
theorem d_law_214 : decode code 214 = .ok (.aload_n 0, 1) := by decide +kernel
theorem d_law_215 : decode code 215 = .ok (.iload_n 3, 1) := by decide +kernel
theorem d_law_216 : decode code 216 = .ok (.iconst 2, 1) := by decide +kernel
theorem d_law_217 : decode code 217 = .ok (.iadd, 1) := by decide +kernel
theorem d_law_218 : decode code 218 = .ok (.iaload, 1) := by decide +kernel
theorem d_law_219 : decode code 219 = .ok (.aload_n 0, 1) := by decide +kernel
theorem d_law_220 : decode code 220 = .ok (.iload_n 3, 1) := by decide +kernel
theorem d_law_221 : decode code 221 = .ok (.iconst 3, 1) := by decide +kernel
theorem d_law_222 : decode code 222 = .ok (.iadd, 1) := by decide +kernel
theorem d_law_223 : decode code 223 = .ok (.iaload, 1) := by decide +kernel
theorem d_law_224 : decode code 224 = .ok (.invokevirtual 31, 3) := by decide +kernel
theorem d_law_227 : decode code 227 = .ok (.if_icmp .eq 127, 3) := by decide +kernel
theorem d_law_230 : decode code 230 = .ok (.iconst 0, 1) := by decide +kernel
theorem d_law_231 : decode code 231 = .ok (.ireturn, 1) := by decide +kernel
theorem d_law_232 : decode code 232 = .ok (.aload_n 1, 1) := by decide +kernel
theorem d_law_233 : decode code 233 = .ok (.aload_n 0, 1) := by decide +kernel
theorem d_law_234 : decode code 234 = .ok (.iload_n 3, 1) := by decide +kernel
theorem d_law_235 : decode code 235 = .ok (.iconst 1, 1) := by decide +kernel
theorem d_law_236 : decode code 236 = .ok (.iadd, 1) := by decide +kernel
theorem d_law_237 : decode code 237 = .ok (.iaload, 1) := by decide +kernel
theorem d_law_238 : decode code 238 = .ok (.invokevirtual 32, 3) := by decide +kernel
theorem d_law_241 : decode code 241 = .ok (.aload_n 2, 1) := by decide +kernel
theorem d_law_242 : decode code 242 = .ok (.aload_n 0, 1) := by decide +kernel
theorem d_law_243 : decode code 243 = .ok (.iload_n 3, 1) := by decide +kernel
theorem d_law_244 : decode code 244 = .ok (.iconst 1, 1) := by decide +kernel
theorem d_law_245 : decode code 245 = .ok (.iadd, 1) := by decide +kernel
theorem d_law_246 : decode code 246 = .ok (.iaload, 1) := by decide +kernel
theorem d_law_247 : decode code 247 = .ok (.invokevirtual 35, 3) := by decide +kernel
theorem d_law_250 : decode code 250 = .ok (.if_icmp .eq 104, 3) := by decide +kernel
theorem d_law_253 : decode code 253 = .ok (.iconst 0, 1) := by decide +kernel
theorem d_law_254 : decode code 254 = .ok (.ireturn, 1) := by decide +kernel
theorem d_law_255 : decode code 255 = .ok (.aload_n 1, 1) := by decide +kernel
theorem d_law_256 : decode code 256 = .ok (.aload_n 0, 1) := by decide +kernel
theorem d_law_257 : decode code 257 = .ok (.iload_n 3, 1) := by decide +kernel
theorem d_law_258 : decode code 258 = .ok (.iconst 1, 1) := by decide +kernel
theorem d_law_259 : decode code 259 = .ok (.iadd, 1) := by decide +kernel
theorem d_law_260 : decode code 260 = .ok (.iaload, 1) := by decide +kernel
theorem d_law_261 : decode code 261 = .ok (.aload_n 0, 1) := by decide +kernel
theorem d_law_262 : decode code 262 = .ok (.iload_n 3, 1) := by decide +kernel
theorem d_law_263 : decode code 263 = .ok (.iconst 2, 1) := by decide +kernel
theorem d_law_264 : decode code 264 = .ok (.iadd, 1) := by decide +kernel
theorem d_law_265 : decode code 265 = .ok (.iaload, 1) := by decide +kernel
theorem d_law_266 : decode code 266 = .ok (.invokevirtual 36, 3) := by decide +kernel
theorem d_law_269 : decode code 269 = .ok (.aload_n 2, 1) := by decide +kernel
theorem d_law_270 : decode code 270 = .ok (.aload_n 0, 1) := by decide +kernel
theorem d_law_271 : decode code 271 = .ok (.iload_n 3, 1) := by decide +kernel
theorem d_law_272 : decode code 272 = .ok (.iconst 1, 1) := by decide +kernel
theorem d_law_273 : decode code 273 = .ok (.iadd, 1) := by decide +kernel
theorem d_law_274 : decode code 274 = .ok (.iaload, 1) := by decide +kernel
theorem d_law_275 : decode code 275 = .ok (.aload_n 0, 1) := by decide +kernel
theorem d_law_276 : decode code 276 = .ok (.iload_n 3, 1) := by decide +kernel
theorem d_law_277 : decode code 277 = .ok (.iconst 2, 1) := by decide +kernel
theorem d_law_278 : decode code 278 = .ok (.iadd, 1) := by decide +kernel
theorem d_law_279 : decode code 279 = .ok (.iaload, 1) := by decide +kernel
theorem d_law_280 : decode code 280 = .ok (.invokevirtual 40, 3) := by decide +kernel
theorem d_law_283 : decode code 283 = .ok (.if_icmp .eq 71, 3) := by decide +kernel
theorem d_law_286 : decode code 286 = .ok (.iconst 0, 1) := by decide +kernel
theorem d_law_287 : decode code 287 = .ok (.ireturn, 1) := by decide +kernel
theorem d_law_288 : decode code 288 = .ok (.aload_n 1, 1) := by decide +kernel
theorem d_law_289 : decode code 289 = .ok (.aload_n 0, 1) := by decide +kernel
theorem d_law_290 : decode code 290 = .ok (.iload_n 3, 1) := by decide +kernel
theorem d_law_291 : decode code 291 = .ok (.iconst 1, 1) := by decide +kernel
theorem d_law_292 : decode code 292 = .ok (.iadd, 1) := by decide +kernel
theorem d_law_293 : decode code 293 = .ok (.iaload, 1) := by decide +kernel
theorem d_law_294 : decode code 294 = .ok (.aload_n 0, 1) := by decide +kernel
theorem d_law_295 : decode code 295 = .ok (.iload_n 3, 1) := by decide +kernel
theorem d_law_296 : decode code 296 = .ok (.iconst 2, 1) := by decide +kernel
theorem d_law_297 : decode code 297 = .ok (.iadd, 1) := by decide +kernel
theorem d_law_298 : decode code 298 = .ok (.iaload, 1) := by decide +kernel
theorem d_law_299 : decode code 299 = .ok (.aload_n 0, 1) := by decide +kernel
theorem d_law_300 : decode code 300 = .ok (.iload_n 3, 1) := by decide +kernel
theorem d_law_301 : decode code 301 = .ok (.iconst 3, 1) := by decide +kernel
theorem d_law_302 : decode code 302 = .ok (.iadd, 1) := by decide +kernel
theorem d_law_303 : decode code 303 = .ok (.iaload, 1) := by decide +kernel
theorem d_law_304 : decode code 304 = .ok (.invokevirtual 41, 3) := by decide +kernel
theorem d_law_307 : decode code 307 = .ok (.aload_n 2, 1) := by decide +kernel
theorem d_law_308 : decode code 308 = .ok (.aload_n 0, 1) := by decide +kernel
theorem d_law_309 : decode code 309 = .ok (.iload_n 3, 1) := by decide +kernel
theorem d_law_310 : decode code 310 = .ok (.iconst 1, 1) := by decide +kernel
theorem d_law_311 : decode code 311 = .ok (.iadd, 1) := by decide +kernel
theorem d_law_312 : decode code 312 = .ok (.iaload, 1) := by decide +kernel
theorem d_law_313 : decode code 313 = .ok (.aload_n 0, 1) := by decide +kernel
theorem d_law_314 : decode code 314 = .ok (.iload_n 3, 1) := by decide +kernel
theorem d_law_315 : decode code 315 = .ok (.iconst 2, 1) := by decide +kernel
theorem d_law_316 : decode code 316 = .ok (.iadd, 1) := by decide +kernel
theorem d_law_317 : decode code 317 = .ok (.iaload, 1) := by decide +kernel
theorem d_law_318 : decode code 318 = .ok (.aload_n 0, 1) := by decide +kernel
theorem d_law_319 : decode code 319 = .ok (.iload_n 3, 1) := by decide +kernel
theorem d_law_320 : decode code 320 = .ok (.iconst 3, 1) := by decide +kernel
theorem d_law_321 : decode code 321 = .ok (.iadd, 1) := by decide +kernel
theorem d_law_322 : decode code 322 = .ok (.iaload, 1) := by decide +kernel
theorem d_law_323 : decode code 323 = .ok (.invokevirtual 44, 3) := by decide +kernel
theorem d_law_326 : decode code 326 = .ok (.if_icmp .eq 28, 3) := by decide +kernel
theorem d_law_329 : decode code 329 = .ok (.iconst 0, 1) := by decide +kernel
theorem d_law_330 : decode code 330 = .ok (.ireturn, 1) := by decide +kernel
theorem d_law_331 : decode code 331 = .ok (.aload_n 1, 1) := by decide +kernel
theorem d_law_332 : decode code 332 = .ok (.aload_n 0, 1) := by decide +kernel
theorem d_law_333 : decode code 333 = .ok (.iload_n 3, 1) := by decide +kernel
theorem d_law_334 : decode code 334 = .ok (.iconst 1, 1) := by decide +kernel
theorem d_law_335 : decode code 335 = .ok (.iadd, 1) := by decide +kernel
theorem d_law_336 : decode code 336 = .ok (.iaload, 1) := by decide +kernel
theorem d_law_337 : decode code 337 = .ok (.invokevirtual 45, 3) := by decide +kernel
theorem d_law_340 : decode code 340 = .ok (.aload_n 2, 1) := by decide +kernel
theorem d_law_341 : decode code 341 = .ok (.aload_n 0, 1) := by decide +kernel
theorem d_law_342 : decode code 342 = .ok (.iload_n 3, 1) := by decide +kernel
theorem d_law_343 : decode code 343 = .ok (.iconst 1, 1) := by decide +kernel
theorem d_law_344 : decode code 344 = .ok (.iadd, 1) := by decide +kernel
theorem d_law_345 : decode code 345 = .ok (.iaload, 1) := by decide +kernel
theorem d_law_346 : decode code 346 = .ok (.invokevirtual 48, 3) := by decide +kernel
theorem d_law_349 : decode code 349 = .ok (.if_icmp .eq 5, 3) := by decide +kernel
theorem d_law_352 : decode code 352 = .ok (.iconst 0, 1) := by decide +kernel
theorem d_law_353 : decode code 353 = .ok (.ireturn, 1) := by decide +kernel
theorem d_law_354 : decode code 354 = .ok (.iinc 3 6, 3) := by decide +kernel
theorem d_law_357 : decode code 357 = .ok (.goto (-339), 3) := by decide +kernel
theorem d_law_360 : decode code 360 = .ok (.iconst 1, 1) := by decide +kernel
theorem d_law_361 : decode code 361 = .ok (.ireturn, 1) := by decide +kernel
end
section
theorem wi_0 : Cond.initialized R_Law ∈ gw := gw_1 0 rfl rfl
theorem wi_1 : Cond.initialized R_SF ∈ gw := gw_1 1 rfl rfl
theorem wi_2 : Cond.initialized R_Row ∈ gw := gw_1 2 rfl rfl
theorem wi_3 : Cond.initialized R_Shelf ∈ gw := gw_1 3 rfl rfl
theorem wi_4 : Cond.initialized R_AbC ∈ gw := gw_1 4 rfl rfl
theorem wi_5 : Cond.initialized R_AbL ∈ gw := gw_1 5 rfl rfl
theorem wi_6 : Cond.initialized R_AL ∈ gw := gw_1 6 rfl rfl
theorem wi_7 : Cond.initialized R_Pool ∈ gw := gw_1 7 rfl rfl
theorem wi_8 : Cond.initialized R_Mdl ∈ gw := gw_1 8 rfl rfl
theorem wi_9 : Cond.initialized R_Sys ∈ gw := gw_1 9 rfl rfl
theorem wi_10 : Cond.initialized R_Objs ∈ gw := gw_1 10 rfl rfl
theorem wi_11 : Cond.initialized R_Prec ∈ gw := gw_1 11 rfl rfl
theorem wi_12 : Cond.initialized R_Math ∈ gw := gw_1 12 rfl rfl
theorem wi_13 : Cond.initialized R_File ∈ gw := gw_1 13 rfl rfl
theorem wi_14 : Cond.initialized R_ASup ∈ gw := gw_1 14 rfl rfl
theorem wi_15 : Cond.initialized R_Arrs ∈ gw := gw_1 15 rfl rfl
theorem wi_16 : Cond.initialized R_Piece ∈ gw := gw_1 16 rfl rfl
theorem wi_17 : Cond.classLink R_Law 7 R_SF ∈ gw := gw_1 17 rfl rfl
theorem wi_18 : Cond.instantiable R_SF 6 ∈ gw := gw_1 18 rfl rfl
theorem wi_19 : Cond.methodLink R_Law 9 y_SF_init ∈ gw := gw_1 19 rfl rfl
theorem wi_20 : Cond.instanceMethod y_SF_init ∈ gw := gw_1 20 rfl rfl
theorem wi_21 : Cond.code y_SF_init b_SF_init 1 none ∈ gw := gw_1 21 rfl rfl
theorem wi_22 : Cond.methodLink R_SF 3 y_Obj_init ∈ gw := gw_1 22 rfl rfl
theorem wi_23 : Cond.instanceMethod y_Obj_init ∈ gw := gw_1 23 rfl rfl
theorem wi_24 : Cond.code y_Obj_init b_Obj_init 1 none ∈ gw := gw_1 24 rfl rfl
theorem wi_25 : Cond.classLink R_SF 9 R_Row ∈ gw := gw_1 25 rfl rfl
theorem wi_26 : Cond.instantiable R_Row 2 ∈ gw := gw_1 26 rfl rfl
theorem wi_27 : Cond.methodLink R_SF 11 y_Row_init ∈ gw := gw_1 27 rfl rfl
theorem wi_28 : Cond.instanceMethod y_Row_init ∈ gw := gw_1 28 rfl rfl
theorem wi_29 : Cond.code y_Row_init b_Row_init 2 none ∈ gw := gw_1 29 rfl rfl
theorem wi_30 : Cond.methodLink R_Row 3 y_Obj_init ∈ gw := gw_1 30 rfl rfl
theorem wi_31 : Cond.fieldLink R_Row 9 R_Row "bytes" "[B" ∈ gw := gw_1 31 rfl rfl
theorem wi_32 : Cond.fieldLink R_Row 15 R_Row "length" "I" ∈ gw := gw_1 32 rfl rfl
theorem wi_33 : Cond.arrayClass .byte ∈ gw := gw_1 38 rfl rfl
theorem wi_34 : Cond.classLink R_SF 27 R_Shelf ∈ gw := gw_1 39 rfl rfl
theorem wi_35 : Cond.instantiable R_Shelf 3 ∈ gw := gw_1 40 rfl rfl
theorem wi_36 : Cond.methodLink R_SF 29 y_Shelf_init ∈ gw := gw_1 41 rfl rfl
theorem wi_37 : Cond.instanceMethod y_Shelf_init ∈ gw := gw_1 42 rfl rfl
theorem wi_38 : Cond.code y_Shelf_init b_Shelf_init 1 none ∈ gw := gw_1 43 rfl rfl
theorem wi_39 : Cond.methodLink R_Shelf 3 y_Obj_init ∈ gw := gw_1 44 rfl rfl
theorem wi_40 : Cond.classLink R_Shelf 9 R_AL ∈ gw := gw_1 45 rfl rfl
theorem wi_41 : Cond.instantiable R_AL 3 ∈ gw := gw_1 46 rfl rfl
theorem wi_42 : Cond.methodLink R_Shelf 11 y_AL_init ∈ gw := gw_1 47 rfl rfl
theorem wi_43 : Cond.instanceMethod y_AL_init ∈ gw := gw_1 48 rfl rfl
theorem wi_44 : Cond.code y_AL_init b_AL_init 1 none ∈ gw := gw_1 49 rfl rfl
theorem wi_45 : Cond.methodLink R_AL 1 y_AbL_init ∈ gw := gw_1 50 rfl rfl
theorem wi_46 : Cond.instanceMethod y_AbL_init ∈ gw := gw_1 51 rfl rfl
theorem wi_47 : Cond.code y_AbL_init b_AbL_init 1 none ∈ gw := gw_1 52 rfl rfl
theorem wi_48 : Cond.methodLink R_AbL 1 y_AbC_init ∈ gw := gw_1 53 rfl rfl
theorem wi_49 : Cond.instanceMethod y_AbC_init ∈ gw := gw_1 54 rfl rfl
theorem wi_50 : Cond.code y_AbC_init b_AbC_init 1 none ∈ gw := gw_1 55 rfl rfl
theorem wi_51 : Cond.methodLink R_AbC 1 y_Obj_init ∈ gw := gw_1 56 rfl rfl
theorem wi_52 : Cond.fieldLink R_AL 39 R_AL "DEFAULTCAPACITY_EMPTY_ELEMENTDATA" "[Ljava/lang/Object;" ∈ gw := gw_1 57 rfl rfl
theorem wi_53 : Cond.fieldLink R_AL 9 R_AL "elementData" "[Ljava/lang/Object;" ∈ gw := gw_1 59 rfl rfl
theorem wi_54 : Cond.fieldLink R_AL 48 R_AL "size" "I" ∈ gw := gw_1 60 rfl rfl
theorem wi_55 : Cond.fieldLink R_AbL 7 R_AbL "modCount" "I" ∈ gw := gw_1 61 rfl rfl
theorem wi_56 : Cond.fieldLink R_AL 63 R_AL "modCount" "I" ∈ gw := gw_1 62 rfl rfl
theorem wi_57 : Cond.sameField R_AL R_AbL "modCount" "I" ∈ gw := gw_1 63 rfl rfl
theorem wi_58 : Cond.classLink R_Shelf 21 R_Pool ∈ gw := gw_1 71 rfl rfl
theorem wi_59 : Cond.instantiable R_Pool 1 ∈ gw := gw_1 72 rfl rfl
theorem wi_60 : Cond.methodLink R_Shelf 23 y_Pool_init ∈ gw := gw_1 73 rfl rfl
theorem wi_61 : Cond.instanceMethod y_Pool_init ∈ gw := gw_1 74 rfl rfl
theorem wi_62 : Cond.code y_Pool_init b_Pool_init 1 none ∈ gw := gw_1 75 rfl rfl
theorem wi_63 : Cond.methodLink R_Pool 3 y_Obj_init ∈ gw := gw_1 76 rfl rfl
theorem wi_64 : Cond.classLink R_Pool 9 R_AL ∈ gw := gw_1 77 rfl rfl
theorem wi_65 : Cond.methodLink R_Pool 11 y_AL_init ∈ gw := gw_1 78 rfl rfl
theorem wi_66 : Cond.fieldLink R_Pool 12 R_Pool "spare" "Ljava/util/ArrayList;" ∈ gw := gw_1 79 rfl rfl
theorem wi_67 : Cond.fieldLink R_Shelf 12 R_Shelf "ordered" "Ljava/util/ArrayList;" ∈ gw := gw_1 83 rfl rfl
theorem wi_68 : Cond.fieldLink R_Shelf 18 R_Shelf "spare" "Ljava/util/ArrayList;" ∈ gw := gw_1 84 rfl rfl
theorem wi_69 : Cond.fieldLink R_Shelf 24 R_Shelf "pool" "LStripeFiles$PiecePool;" ∈ gw := gw_1 85 rfl rfl
theorem wi_70 : Cond.fieldLink R_SF 14 R_SF "tape" "LStripeFiles$Row;" ∈ gw := gw_1 93 rfl rfl
theorem wi_71 : Cond.fieldLink R_SF 18 R_SF "firstName" "LStripeFiles$Row;" ∈ gw := gw_1 94 rfl rfl
theorem wi_72 : Cond.fieldLink R_SF 21 R_SF "secondName" "LStripeFiles$Row;" ∈ gw := gw_1 95 rfl rfl
theorem wi_73 : Cond.fieldLink R_SF 24 R_SF "latestTold" "LStripeFiles$Row;" ∈ gw := gw_1 96 rfl rfl
theorem wi_74 : Cond.fieldLink R_SF 30 R_SF "shelf" "LStripeFiles$Shelf;" ∈ gw := gw_1 97 rfl rfl
theorem wi_75 : Cond.fieldLink R_SF 34 R_SF "operations" "I" ∈ gw := gw_1 98 rfl rfl
theorem wi_76 : Cond.methodLink R_Law 13 y_SF_feed ∈ gw := gw_1 112 rfl rfl
theorem wi_77 : Cond.instanceMethod y_SF_feed ∈ gw := gw_1 113 rfl rfl
theorem wi_78 : Cond.selects R_SF y_SF_feed y_SF_feed ∈ gw := gw_1 114 rfl rfl
theorem wi_79 : Cond.code y_SF_feed b_SF_feed 6 (some .int) ∈ gw := gw_1 115 rfl rfl
theorem wi_80 : Cond.methodLink R_SF 38 y_Row_length ∈ gw := gw_1 116 rfl rfl
theorem wi_81 : Cond.instanceMethod y_Row_length ∈ gw := gw_1 117 rfl rfl
theorem wi_82 : Cond.selects R_Row y_Row_length y_Row_length ∈ gw := gw_1 118 rfl rfl
theorem wi_83 : Cond.code y_Row_length b_Row_length 1 (some .int) ∈ gw := gw_1 119 rfl rfl
theorem wi_84 : Cond.methodLink R_SF 42 y_Row_addWord ∈ gw := gw_1 120 rfl rfl
theorem wi_85 : Cond.instanceMethod y_Row_addWord ∈ gw := gw_1 121 rfl rfl
theorem wi_86 : Cond.selects R_Row y_Row_addWord y_Row_addWord ∈ gw := gw_1 122 rfl rfl
theorem wi_87 : Cond.code y_Row_addWord b_Row_addWord 3 none ∈ gw := gw_1 123 rfl rfl
theorem wi_88 : Cond.methodLink R_Law 18 y_SF_end ∈ gw := gw_1 124 rfl rfl
theorem wi_89 : Cond.instanceMethod y_SF_end ∈ gw := gw_1 125 rfl rfl
theorem wi_90 : Cond.selects R_SF y_SF_end y_SF_end ∈ gw := gw_1 126 rfl rfl
theorem wi_91 : Cond.code y_SF_end b_SF_end 2 (some .int) ∈ gw := gw_1 127 rfl rfl
theorem wi_92 : Cond.methodLink R_SF 45 y_SF_isWithin ∈ gw := gw_1 128 rfl rfl
theorem wi_93 : Cond.static y_SF_isWithin ∈ gw := gw_1 129 rfl rfl
theorem wi_94 : Cond.code y_SF_isWithin b_SF_isWithin 2 (some .boolean) ∈ gw := gw_1 130 rfl rfl
theorem wi_95 : Cond.methodLink R_SF 49 y_Row_shorten ∈ gw := gw_1 131 rfl rfl
theorem wi_96 : Cond.instanceMethod y_Row_shorten ∈ gw := gw_1 132 rfl rfl
theorem wi_97 : Cond.selects R_Row y_Row_shorten y_Row_shorten ∈ gw := gw_1 133 rfl rfl
theorem wi_98 : Cond.code y_Row_shorten b_Row_shorten 2 none ∈ gw := gw_1 134 rfl rfl
theorem wi_99 : Cond.methodLink R_Law 23 y_SF_name ∈ gw := gw_1 135 rfl rfl
theorem wi_100 : Cond.instanceMethod y_SF_name ∈ gw := gw_1 136 rfl rfl
theorem wi_101 : Cond.selects R_SF y_SF_name y_SF_name ∈ gw := gw_1 137 rfl rfl
theorem wi_102 : Cond.code y_SF_name b_SF_name 3 (some .int) ∈ gw := gw_1 138 rfl rfl
theorem wi_103 : Cond.methodLink R_SF 52 y_Row_become ∈ gw := gw_1 139 rfl rfl
theorem wi_104 : Cond.instanceMethod y_Row_become ∈ gw := gw_1 140 rfl rfl
theorem wi_105 : Cond.selects R_Row y_Row_become y_Row_become ∈ gw := gw_1 141 rfl rfl
theorem wi_106 : Cond.code y_Row_become b_Row_become 2 none ∈ gw := gw_1 142 rfl rfl
theorem wi_107 : Cond.methodLink R_Row 31 y_Row_addBytes ∈ gw := gw_1 143 rfl rfl
theorem wi_108 : Cond.instanceMethod y_Row_addBytes ∈ gw := gw_1 144 rfl rfl
theorem wi_109 : Cond.selects R_Row y_Row_addBytes y_Row_addBytes ∈ gw := gw_1 145 rfl rfl
theorem wi_110 : Cond.code y_Row_addBytes b_Row_addBytes 4 none ∈ gw := gw_1 146 rfl rfl
theorem wi_111 : Cond.methodLink R_Row 19 ⟨R_Sys, "arraycopy", "(Ljava/lang/Object;ILjava/lang/Object;II)V"⟩ ∈ gw := gw_1 147 rfl rfl
theorem wi_112 : Cond.static ⟨R_Sys, "arraycopy", "(Ljava/lang/Object;ILjava/lang/Object;II)V"⟩ ∈ gw := gw_1 148 rfl rfl
theorem wi_113 : Cond.native ⟨R_Sys, "arraycopy", "(Ljava/lang/Object;ILjava/lang/Object;II)V"⟩ ∈ gw := gw_1 149 rfl rfl
theorem wi_114 : Cond.methodLink R_Law 27 y_SF_run ∈ gw := gw_1 150 rfl rfl
theorem wi_115 : Cond.instanceMethod y_SF_run ∈ gw := gw_1 151 rfl rfl
theorem wi_116 : Cond.selects R_SF y_SF_run y_SF_run ∈ gw := gw_1 152 rfl rfl
theorem wi_117 : Cond.code y_SF_run b_SF_run 5 (some .int) ∈ gw := gw_1 153 rfl rfl
theorem wi_118 : Cond.methodLink R_SF 56 y_SF_isRefused ∈ gw := gw_1 154 rfl rfl
theorem wi_119 : Cond.instanceMethod y_SF_isRefused ∈ gw := gw_1 156 rfl rfl
theorem wi_120 : Cond.code y_SF_isRefused b_SF_isRefused 4 (some .boolean) ∈ gw := gw_1 157 rfl rfl
theorem wi_121 : Cond.methodLink R_SF 111 y_Row_isEmpty ∈ gw := gw_1 158 rfl rfl
theorem wi_122 : Cond.instanceMethod y_Row_isEmpty ∈ gw := gw_1 159 rfl rfl
theorem wi_123 : Cond.selects R_Row y_Row_isEmpty y_Row_isEmpty ∈ gw := gw_1 160 rfl rfl
theorem wi_124 : Cond.code y_Row_isEmpty b_Row_isEmpty 1 (some .boolean) ∈ gw := gw_1 161 rfl rfl
theorem wi_125 : Cond.methodLink R_SF 60 y_SF_makeFile ∈ gw := gw_1 162 rfl rfl
theorem wi_126 : Cond.instanceMethod y_SF_makeFile ∈ gw := gw_1 164 rfl rfl
theorem wi_127 : Cond.code y_SF_makeFile b_SF_makeFile 2 (some .int) ∈ gw := gw_1 165 rfl rfl
theorem wi_128 : Cond.methodLink R_SF 115 y_Shelf_find ∈ gw := gw_1 166 rfl rfl
theorem wi_129 : Cond.instanceMethod y_Shelf_find ∈ gw := gw_1 167 rfl rfl
theorem wi_130 : Cond.selects R_Shelf y_Shelf_find y_Shelf_find ∈ gw := gw_1 168 rfl rfl
theorem wi_131 : Cond.code y_Shelf_find b_Shelf_find 2 (some (.object "StripeFiles$StripedFile")) ∈ gw := gw_1 169 rfl rfl
theorem wi_132 : Cond.methodLink R_Shelf 48 y_Shelf_indexOf ∈ gw := gw_1 170 rfl rfl
theorem wi_133 : Cond.instanceMethod y_Shelf_indexOf ∈ gw := gw_1 172 rfl rfl
theorem wi_134 : Cond.code y_Shelf_indexOf b_Shelf_indexOf 3 (some .int) ∈ gw := gw_1 173 rfl rfl
theorem wi_135 : Cond.methodLink R_Shelf 56 y_Shelf_placeOf ∈ gw := gw_1 174 rfl rfl
theorem wi_136 : Cond.instanceMethod y_Shelf_placeOf ∈ gw := gw_1 176 rfl rfl
theorem wi_137 : Cond.code y_Shelf_placeOf b_Shelf_placeOf 3 (some .int) ∈ gw := gw_1 177 rfl rfl
theorem wi_138 : Cond.methodLink R_Shelf 28 y_AL_size ∈ gw := gw_1 178 rfl rfl
theorem wi_139 : Cond.instanceMethod y_AL_size ∈ gw := gw_1 179 rfl rfl
theorem wi_140 : Cond.selects R_AL y_AL_size y_AL_size ∈ gw := gw_1 180 rfl rfl
theorem wi_141 : Cond.code y_AL_size b_AL_size 1 (some .int) ∈ gw := gw_1 181 rfl rfl
theorem wi_142 : Cond.methodLink R_Shelf 32 y_AL_get ∈ gw := gw_1 182 rfl rfl
theorem wi_143 : Cond.instanceMethod y_AL_get ∈ gw := gw_1 183 rfl rfl
theorem wi_144 : Cond.selects R_AL y_AL_get y_AL_get ∈ gw := gw_1 184 rfl rfl
theorem wi_145 : Cond.code y_AL_get b_AL_get 2 (some (.object "java/lang/Object")) ∈ gw := gw_1 185 rfl rfl
theorem wi_146 : Cond.methodLink R_AL 118 y_Objs_checkIndex ∈ gw := gw_1 186 rfl rfl
theorem wi_147 : Cond.static y_Objs_checkIndex ∈ gw := gw_1 187 rfl rfl
theorem wi_148 : Cond.code y_Objs_checkIndex b_Objs_checkIndex 2 (some .int) ∈ gw := gw_1 188 rfl rfl
theorem wi_149 : Cond.methodLink R_Objs 105 y_Prec_checkIndex ∈ gw := gw_1 189 rfl rfl
theorem wi_150 : Cond.static y_Prec_checkIndex ∈ gw := gw_1 190 rfl rfl
theorem wi_151 : Cond.code y_Prec_checkIndex b_Prec_checkIndex 3 (some .int) ∈ gw := gw_1 191 rfl rfl
theorem wi_152 : Cond.methodLink R_AL 123 y_AL_elementData ∈ gw := gw_1 192 rfl rfl
theorem wi_153 : Cond.instanceMethod y_AL_elementData ∈ gw := gw_1 193 rfl rfl
theorem wi_154 : Cond.selects R_AL y_AL_elementData y_AL_elementData ∈ gw := gw_1 194 rfl rfl
theorem wi_155 : Cond.code y_AL_elementData b_AL_elementData 2 (some (.object "java/lang/Object")) ∈ gw := gw_1 195 rfl rfl
theorem wi_156 : Cond.classLink R_Shelf 36 R_File ∈ gw := gw_1 196 rfl rfl
theorem wi_157 : Cond.methodLink R_Shelf 88 y_File_title ∈ gw := gw_1 197 rfl rfl
theorem wi_158 : Cond.instanceMethod y_File_title ∈ gw := gw_1 198 rfl rfl
theorem wi_159 : Cond.selects R_File y_File_title y_File_title ∈ gw := gw_1 199 rfl rfl
theorem wi_160 : Cond.code y_File_title b_File_title 1 (some (.object "StripeFiles$Row")) ∈ gw := gw_1 200 rfl rfl
theorem wi_161 : Cond.methodLink R_Shelf 102 y_Row_compareWith ∈ gw := gw_1 201 rfl rfl
theorem wi_162 : Cond.instanceMethod y_Row_compareWith ∈ gw := gw_1 202 rfl rfl
theorem wi_163 : Cond.selects R_Row y_Row_compareWith y_Row_compareWith ∈ gw := gw_1 203 rfl rfl
theorem wi_164 : Cond.code y_Row_compareWith b_Row_compareWith 5 (some .int) ∈ gw := gw_1 204 rfl rfl
theorem wi_165 : Cond.methodLink R_Row 35 y_Math_min ∈ gw := gw_1 205 rfl rfl
theorem wi_166 : Cond.static y_Math_min ∈ gw := gw_1 206 rfl rfl
theorem wi_167 : Cond.code y_Math_min b_Math_min 2 (some .int) ∈ gw := gw_1 207 rfl rfl
theorem wi_168 : Cond.methodLink R_Shelf 59 y_Shelf_isAt ∈ gw := gw_1 208 rfl rfl
theorem wi_169 : Cond.instanceMethod y_Shelf_isAt ∈ gw := gw_1 210 rfl rfl
theorem wi_170 : Cond.code y_Shelf_isAt b_Shelf_isAt 3 (some .boolean) ∈ gw := gw_1 211 rfl rfl
theorem wi_171 : Cond.methodLink R_Shelf 52 y_Shelf_fileAt ∈ gw := gw_1 212 rfl rfl
theorem wi_172 : Cond.instanceMethod y_Shelf_fileAt ∈ gw := gw_1 213 rfl rfl
theorem wi_173 : Cond.selects R_Shelf y_Shelf_fileAt y_Shelf_fileAt ∈ gw := gw_1 214 rfl rfl
theorem wi_174 : Cond.code y_Shelf_fileAt b_Shelf_fileAt 2 (some (.object "StripeFiles$StripedFile")) ∈ gw := gw_1 215 rfl rfl
theorem wi_175 : Cond.methodLink R_SF 119 y_Shelf_isFull ∈ gw := gw_1 216 rfl rfl
theorem wi_176 : Cond.instanceMethod y_Shelf_isFull ∈ gw := gw_1 217 rfl rfl
theorem wi_177 : Cond.selects R_Shelf y_Shelf_isFull y_Shelf_isFull ∈ gw := gw_1 218 rfl rfl
theorem wi_178 : Cond.code y_Shelf_isFull b_Shelf_isFull 1 (some .boolean) ∈ gw := gw_1 219 rfl rfl
theorem wi_179 : Cond.methodLink R_SF 122 y_Shelf_make ∈ gw := gw_1 220 rfl rfl
theorem wi_180 : Cond.instanceMethod y_Shelf_make ∈ gw := gw_1 221 rfl rfl
theorem wi_181 : Cond.selects R_Shelf y_Shelf_make y_Shelf_make ∈ gw := gw_1 222 rfl rfl
theorem wi_182 : Cond.code y_Shelf_make b_Shelf_make 4 (some (.object "StripeFiles$StripedFile")) ∈ gw := gw_1 223 rfl rfl
theorem wi_183 : Cond.methodLink R_Shelf 63 y_AL_isEmpty ∈ gw := gw_1 224 rfl rfl
theorem wi_184 : Cond.instanceMethod y_AL_isEmpty ∈ gw := gw_1 225 rfl rfl
theorem wi_185 : Cond.selects R_AL y_AL_isEmpty y_AL_isEmpty ∈ gw := gw_1 226 rfl rfl
theorem wi_186 : Cond.code y_AL_isEmpty b_AL_isEmpty 1 (some .boolean) ∈ gw := gw_1 227 rfl rfl
theorem wi_187 : Cond.instantiable R_File 5 ∈ gw := gw_1 228 rfl rfl
theorem wi_188 : Cond.methodLink R_Shelf 67 y_File_init ∈ gw := gw_1 229 rfl rfl
theorem wi_189 : Cond.instanceMethod y_File_init ∈ gw := gw_1 230 rfl rfl
theorem wi_190 : Cond.code y_File_init b_File_init 2 none ∈ gw := gw_1 231 rfl rfl
theorem wi_191 : Cond.methodLink R_File 3 y_Obj_init ∈ gw := gw_1 232 rfl rfl
theorem wi_192 : Cond.classLink R_File 15 R_Row ∈ gw := gw_1 233 rfl rfl
theorem wi_193 : Cond.methodLink R_File 17 y_Row_init ∈ gw := gw_1 234 rfl rfl
theorem wi_194 : Cond.classLink R_File 24 R_Piece ∈ gw := gw_1 235 rfl rfl
theorem wi_195 : Cond.fieldLink R_File 9 R_File "pool" "LStripeFiles$PiecePool;" ∈ gw := gw_1 237 rfl rfl
theorem wi_196 : Cond.fieldLink R_File 20 R_File "title" "LStripeFiles$Row;" ∈ gw := gw_1 238 rfl rfl
theorem wi_197 : Cond.fieldLink R_File 26 R_File "pieces" "[LStripeFiles$Piece;" ∈ gw := gw_1 239 rfl rfl
theorem wi_198 : Cond.fieldLink R_File 30 R_File "id" "I" ∈ gw := gw_2 0 rfl rfl
theorem wi_199 : Cond.fieldLink R_File 34 R_File "length" "I" ∈ gw := gw_2 1 rfl rfl
theorem wi_200 : Cond.methodLink R_Shelf 70 y_AL_remove ∈ gw := gw_2 13 rfl rfl
theorem wi_201 : Cond.instanceMethod y_AL_remove ∈ gw := gw_2 14 rfl rfl
theorem wi_202 : Cond.selects R_AL y_AL_remove y_AL_remove ∈ gw := gw_2 15 rfl rfl
theorem wi_203 : Cond.code y_AL_remove b_AL_remove 4 (some (.object "java/lang/Object")) ∈ gw := gw_2 16 rfl rfl
theorem wi_204 : Cond.methodLink R_AL 144 y_AL_fastRemove ∈ gw := gw_2 17 rfl rfl
theorem wi_205 : Cond.instanceMethod y_AL_fastRemove ∈ gw := gw_2 19 rfl rfl
theorem wi_206 : Cond.code y_AL_fastRemove b_AL_fastRemove 4 none ∈ gw := gw_2 20 rfl rfl
theorem wi_207 : Cond.methodLink R_AL 112 ⟨R_Sys, "arraycopy", "(Ljava/lang/Object;ILjava/lang/Object;II)V"⟩ ∈ gw := gw_2 21 rfl rfl
theorem wi_208 : Cond.methodLink R_Shelf 73 y_File_begin ∈ gw := gw_2 22 rfl rfl
theorem wi_209 : Cond.instanceMethod y_File_begin ∈ gw := gw_2 23 rfl rfl
theorem wi_210 : Cond.selects R_File y_File_begin y_File_begin ∈ gw := gw_2 24 rfl rfl
theorem wi_211 : Cond.code y_File_begin b_File_begin 3 none ∈ gw := gw_2 25 rfl rfl
theorem wi_212 : Cond.methodLink R_File 37 y_Row_become ∈ gw := gw_2 26 rfl rfl
theorem wi_213 : Cond.methodLink R_Shelf 77 y_AL_add1 ∈ gw := gw_2 27 rfl rfl
theorem wi_214 : Cond.instanceMethod y_AL_add1 ∈ gw := gw_2 28 rfl rfl
theorem wi_215 : Cond.selects R_AL y_AL_add1 y_AL_add1 ∈ gw := gw_2 29 rfl rfl
theorem wi_216 : Cond.code y_AL_add1 b_AL_add1 5 none ∈ gw := gw_2 30 rfl rfl
theorem wi_217 : Cond.methodLink R_AL 135 y_AL_rangeCheckForAdd ∈ gw := gw_2 31 rfl rfl
theorem wi_218 : Cond.instanceMethod y_AL_rangeCheckForAdd ∈ gw := gw_2 33 rfl rfl
theorem wi_219 : Cond.code y_AL_rangeCheckForAdd b_AL_rangeCheckForAdd 2 none ∈ gw := gw_2 34 rfl rfl
theorem wi_220 : Cond.methodLink R_AL 129 y_AL_grow1 ∈ gw := gw_2 35 rfl rfl
theorem wi_221 : Cond.instanceMethod y_AL_grow1 ∈ gw := gw_2 37 rfl rfl
theorem wi_222 : Cond.code y_AL_grow1 b_AL_grow1 1 (some (.array (.object "java/lang/Object"))) ∈ gw := gw_2 38 rfl rfl
theorem wi_223 : Cond.methodLink R_AL 69 y_AL_grow2 ∈ gw := gw_2 39 rfl rfl
theorem wi_224 : Cond.instanceMethod y_AL_grow2 ∈ gw := gw_2 41 rfl rfl
theorem wi_225 : Cond.code y_AL_grow2 b_AL_grow2 4 (some (.array (.object "java/lang/Object"))) ∈ gw := gw_2 42 rfl rfl
theorem wi_226 : Cond.methodLink R_AL 73 y_ASup_newLength ∈ gw := gw_2 43 rfl rfl
theorem wi_227 : Cond.static y_ASup_newLength ∈ gw := gw_2 44 rfl rfl
theorem wi_228 : Cond.code y_ASup_newLength b_ASup_newLength 4 (some .int) ∈ gw := gw_2 45 rfl rfl
theorem wi_229 : Cond.methodLink R_ASup 194 y_Math_max ∈ gw := gw_2 46 rfl rfl
theorem wi_230 : Cond.static y_Math_max ∈ gw := gw_2 47 rfl rfl
theorem wi_231 : Cond.code y_Math_max b_Math_max 2 (some .int) ∈ gw := gw_2 48 rfl rfl
theorem wi_232 : Cond.constant R_ASup 200 2147483639 ∈ gw := gw_2 49 rfl rfl
theorem wi_233 : Cond.methodLink R_ASup 201 y_ASup_hugeLength ∈ gw := gw_2 50 rfl rfl
theorem wi_234 : Cond.static y_ASup_hugeLength ∈ gw := gw_2 51 rfl rfl
theorem wi_235 : Cond.code y_ASup_hugeLength b_ASup_hugeLength 3 (some .int) ∈ gw := gw_2 52 rfl rfl
theorem wi_236 : Cond.methodLink R_AL 66 y_Arrs_copyOf1 ∈ gw := gw_2 53 rfl rfl
theorem wi_237 : Cond.static y_Arrs_copyOf1 ∈ gw := gw_2 54 rfl rfl
theorem wi_238 : Cond.code y_Arrs_copyOf1 b_Arrs_copyOf1 2 (some (.array (.object "java/lang/Object"))) ∈ gw := gw_2 55 rfl rfl
theorem wi_239 : Cond.methodLink R_Arrs 86 ⟨R_Obj, "getClass", "()Ljava/lang/Class;"⟩ ∈ gw := gw_2 56 rfl rfl
theorem wi_240 : Cond.instanceMethod ⟨R_Obj, "getClass", "()Ljava/lang/Class;"⟩ ∈ gw := gw_2 57 rfl rfl
theorem wi_241 : Cond.sameMethod R_Obj R_Obj "getClass" "()Ljava/lang/Class;" ∈ gw := gw_2 58 rfl rfl
theorem wi_242 : Cond.selects R_SF ⟨R_Obj, "getClass", "()Ljava/lang/Class;"⟩ ⟨R_Obj, "getClass", "()Ljava/lang/Class;"⟩ ∈ gw := gw_2 59 rfl rfl
theorem wi_243 : Cond.selects R_Piece ⟨R_Obj, "getClass", "()Ljava/lang/Class;"⟩ ⟨R_Obj, "getClass", "()Ljava/lang/Class;"⟩ ∈ gw := gw_2 60 rfl rfl
theorem wi_244 : Cond.selects R_Pool ⟨R_Obj, "getClass", "()Ljava/lang/Class;"⟩ ⟨R_Obj, "getClass", "()Ljava/lang/Class;"⟩ ∈ gw := gw_2 61 rfl rfl
theorem wi_245 : Cond.selects R_Row ⟨R_Obj, "getClass", "()Ljava/lang/Class;"⟩ ⟨R_Obj, "getClass", "()Ljava/lang/Class;"⟩ ∈ gw := gw_2 62 rfl rfl
theorem wi_246 : Cond.selects R_Shelf ⟨R_Obj, "getClass", "()Ljava/lang/Class;"⟩ ⟨R_Obj, "getClass", "()Ljava/lang/Class;"⟩ ∈ gw := gw_2 63 rfl rfl
theorem wi_247 : Cond.selects R_File ⟨R_Obj, "getClass", "()Ljava/lang/Class;"⟩ ⟨R_Obj, "getClass", "()Ljava/lang/Class;"⟩ ∈ gw := gw_2 64 rfl rfl
theorem wi_248 : Cond.selects R_Mdl ⟨R_Obj, "getClass", "()Ljava/lang/Class;"⟩ ⟨R_Obj, "getClass", "()Ljava/lang/Class;"⟩ ∈ gw := gw_2 65 rfl rfl
theorem wi_249 : Cond.selects R_AL ⟨R_Obj, "getClass", "()Ljava/lang/Class;"⟩ ⟨R_Obj, "getClass", "()Ljava/lang/Class;"⟩ ∈ gw := gw_2 66 rfl rfl
theorem wi_250 : Cond.native ⟨R_Obj, "getClass", "()Ljava/lang/Class;"⟩ ∈ gw := gw_2 67 rfl rfl
theorem wi_251 : Cond.methodLink R_Arrs 300 y_Arrs_copyOf2 ∈ gw := gw_2 68 rfl rfl
theorem wi_252 : Cond.static y_Arrs_copyOf2 ∈ gw := gw_2 69 rfl rfl
theorem wi_253 : Cond.code y_Arrs_copyOf2 b_Arrs_copyOf2 4 (some (.array (.object "java/lang/Object"))) ∈ gw := gw_2 70 rfl rfl
theorem wi_254 : Cond.classLink R_Arrs 110 "[Ljava/lang/Object;" ∈ gw := gw_2 71 rfl rfl
theorem wi_255 : Cond.classLink R_Arrs 2 R_Obj ∈ gw := gw_2 73 rfl rfl
theorem wi_256 : Cond.methodLink R_Arrs 304 y_Math_min ∈ gw := gw_2 74 rfl rfl
theorem wi_257 : Cond.methodLink R_Arrs 150 ⟨R_Sys, "arraycopy", "(Ljava/lang/Object;ILjava/lang/Object;II)V"⟩ ∈ gw := gw_2 75 rfl rfl
theorem wi_258 : Cond.methodLink R_AL 79 y_Math_max ∈ gw := gw_2 76 rfl rfl
theorem wi_259 : Cond.classLink R_AL 7 R_Obj ∈ gw := gw_2 77 rfl rfl
theorem wi_260 : Cond.methodLink R_SF 64 y_SF_writeTape ∈ gw := gw_2 78 rfl rfl
theorem wi_261 : Cond.instanceMethod y_SF_writeTape ∈ gw := gw_2 80 rfl rfl
theorem wi_262 : Cond.code y_SF_writeTape b_SF_writeTape 11 (some .int) ∈ gw := gw_2 81 rfl rfl
theorem wi_263 : Cond.methodLink R_SF 87 y_File_length ∈ gw := gw_2 82 rfl rfl
theorem wi_264 : Cond.instanceMethod y_File_length ∈ gw := gw_2 83 rfl rfl
theorem wi_265 : Cond.selects R_File y_File_length y_File_length ∈ gw := gw_2 84 rfl rfl
theorem wi_266 : Cond.code y_File_length b_File_length 1 (some .int) ∈ gw := gw_2 85 rfl rfl
theorem wi_267 : Cond.methodLink R_SF 126 y_Math_max ∈ gw := gw_2 86 rfl rfl
theorem wi_268 : Cond.methodLink R_SF 131 y_Shelf_hasRoom ∈ gw := gw_2 87 rfl rfl
theorem wi_269 : Cond.instanceMethod y_Shelf_hasRoom ∈ gw := gw_2 88 rfl rfl
theorem wi_270 : Cond.selects R_Shelf y_Shelf_hasRoom y_Shelf_hasRoom ∈ gw := gw_2 89 rfl rfl
theorem wi_271 : Cond.code y_Shelf_hasRoom b_Shelf_hasRoom 3 (some .boolean) ∈ gw := gw_2 90 rfl rfl
theorem wi_272 : Cond.methodLink R_Shelf 44 y_Shelf_allBytes ∈ gw := gw_2 91 rfl rfl
theorem wi_273 : Cond.instanceMethod y_Shelf_allBytes ∈ gw := gw_2 92 rfl rfl
theorem wi_274 : Cond.selects R_Shelf y_Shelf_allBytes y_Shelf_allBytes ∈ gw := gw_2 93 rfl rfl
theorem wi_275 : Cond.code y_Shelf_allBytes b_Shelf_allBytes 3 (some .int) ∈ gw := gw_2 94 rfl rfl
theorem wi_276 : Cond.methodLink R_Shelf 38 y_File_length ∈ gw := gw_2 95 rfl rfl
theorem wi_277 : Cond.constant R_Shelf 47 32768 ∈ gw := gw_2 96 rfl rfl
theorem wi_278 : Cond.methodLink R_SF 134 y_File_write ∈ gw := gw_2 97 rfl rfl
theorem wi_279 : Cond.instanceMethod y_File_write ∈ gw := gw_2 98 rfl rfl
theorem wi_280 : Cond.selects R_File y_File_write y_File_write ∈ gw := gw_2 99 rfl rfl
theorem wi_281 : Cond.code y_File_write b_File_write 8 none ∈ gw := gw_2 100 rfl rfl
theorem wi_282 : Cond.methodLink R_File 45 y_Row_length ∈ gw := gw_2 101 rfl rfl
theorem wi_283 : Cond.methodLink R_File 48 y_Math_max ∈ gw := gw_2 102 rfl rfl
theorem wi_284 : Cond.methodLink R_File 54 y_Math_min ∈ gw := gw_2 103 rfl rfl
theorem wi_285 : Cond.methodLink R_File 57 y_File_lay ∈ gw := gw_2 104 rfl rfl
theorem wi_286 : Cond.instanceMethod y_File_lay ∈ gw := gw_2 106 rfl rfl
theorem wi_287 : Cond.code y_File_lay b_File_lay 2 (some (.object "StripeFiles$Piece")) ∈ gw := gw_2 107 rfl rfl
theorem wi_288 : Cond.methodLink R_File 69 y_Pool_takeBlank ∈ gw := gw_2 108 rfl rfl
theorem wi_289 : Cond.instanceMethod y_Pool_takeBlank ∈ gw := gw_2 109 rfl rfl
theorem wi_290 : Cond.selects R_Pool y_Pool_takeBlank y_Pool_takeBlank ∈ gw := gw_2 110 rfl rfl
theorem wi_291 : Cond.code y_Pool_takeBlank b_Pool_takeBlank 1 (some (.object "StripeFiles$Piece")) ∈ gw := gw_2 111 rfl rfl
theorem wi_292 : Cond.methodLink R_Pool 18 y_AL_isEmpty ∈ gw := gw_2 112 rfl rfl
theorem wi_293 : Cond.classLink R_Pool 22 R_Piece ∈ gw := gw_2 113 rfl rfl
theorem wi_294 : Cond.instantiable R_Piece 1 ∈ gw := gw_2 114 rfl rfl
theorem wi_295 : Cond.methodLink R_Pool 24 y_Piece_init ∈ gw := gw_2 115 rfl rfl
theorem wi_296 : Cond.instanceMethod y_Piece_init ∈ gw := gw_2 116 rfl rfl
theorem wi_297 : Cond.code y_Piece_init b_Piece_init 1 none ∈ gw := gw_2 117 rfl rfl
theorem wi_298 : Cond.methodLink R_Piece 3 y_Obj_init ∈ gw := gw_2 118 rfl rfl
theorem wi_299 : Cond.fieldLink R_Piece 9 R_Piece "bytes" "[B" ∈ gw := gw_2 119 rfl rfl
theorem wi_300 : Cond.methodLink R_Pool 25 y_AL_size ∈ gw := gw_2 125 rfl rfl
theorem wi_301 : Cond.methodLink R_Pool 29 y_AL_remove ∈ gw := gw_2 126 rfl rfl
theorem wi_302 : Cond.methodLink R_File 61 y_Row_copyTo ∈ gw := gw_2 127 rfl rfl
theorem wi_303 : Cond.instanceMethod y_Row_copyTo ∈ gw := gw_2 128 rfl rfl
theorem wi_304 : Cond.selects R_Row y_Row_copyTo y_Row_copyTo ∈ gw := gw_2 129 rfl rfl
theorem wi_305 : Cond.code y_Row_copyTo b_Row_copyTo 5 none ∈ gw := gw_2 130 rfl rfl
theorem wi_306 : Cond.methodLink R_File 65 y_Row_isEmpty ∈ gw := gw_2 131 rfl rfl
theorem wi_307 : Cond.methodLink R_SF 68 y_SF_renameFile ∈ gw := gw_2 132 rfl rfl
theorem wi_308 : Cond.instanceMethod y_SF_renameFile ∈ gw := gw_2 134 rfl rfl
theorem wi_309 : Cond.code y_SF_renameFile b_SF_renameFile 2 (some .int) ∈ gw := gw_2 135 rfl rfl
theorem wi_310 : Cond.methodLink R_SF 153 y_Row_compareWith ∈ gw := gw_2 136 rfl rfl
theorem wi_311 : Cond.methodLink R_SF 146 y_Shelf_remove ∈ gw := gw_2 137 rfl rfl
theorem wi_312 : Cond.instanceMethod y_Shelf_remove ∈ gw := gw_2 138 rfl rfl
theorem wi_313 : Cond.selects R_Shelf y_Shelf_remove y_Shelf_remove ∈ gw := gw_2 139 rfl rfl
theorem wi_314 : Cond.code y_Shelf_remove b_Shelf_remove 4 (some .boolean) ∈ gw := gw_2 140 rfl rfl
theorem wi_315 : Cond.methodLink R_Shelf 81 y_File_cut ∈ gw := gw_2 141 rfl rfl
theorem wi_316 : Cond.instanceMethod y_File_cut ∈ gw := gw_2 142 rfl rfl
theorem wi_317 : Cond.selects R_File y_File_cut y_File_cut ∈ gw := gw_2 143 rfl rfl
theorem wi_318 : Cond.code y_File_cut b_File_cut 3 none ∈ gw := gw_2 144 rfl rfl
theorem wi_319 : Cond.methodLink R_File 86 y_File_cutStripe ∈ gw := gw_2 145 rfl rfl
theorem wi_320 : Cond.instanceMethod y_File_cutStripe ∈ gw := gw_2 147 rfl rfl
theorem wi_321 : Cond.code y_File_cutStripe b_File_cutStripe 4 none ∈ gw := gw_2 148 rfl rfl
theorem wi_322 : Cond.methodLink R_File 90 y_Arrs_fill ∈ gw := gw_2 149 rfl rfl
theorem wi_323 : Cond.static y_Arrs_fill ∈ gw := gw_2 150 rfl rfl
theorem wi_324 : Cond.code y_Arrs_fill b_Arrs_fill 5 none ∈ gw := gw_2 151 rfl rfl
theorem wi_325 : Cond.methodLink R_Arrs 13 y_Arrs_rangeCheck ∈ gw := gw_2 152 rfl rfl
theorem wi_326 : Cond.static y_Arrs_rangeCheck ∈ gw := gw_2 153 rfl rfl
theorem wi_327 : Cond.code y_Arrs_rangeCheck b_Arrs_rangeCheck 3 none ∈ gw := gw_2 154 rfl rfl
theorem wi_328 : Cond.methodLink R_File 96 y_Pool_giveBack ∈ gw := gw_2 155 rfl rfl
theorem wi_329 : Cond.instanceMethod y_Pool_giveBack ∈ gw := gw_2 156 rfl rfl
theorem wi_330 : Cond.selects R_Pool y_Pool_giveBack y_Pool_giveBack ∈ gw := gw_2 157 rfl rfl
theorem wi_331 : Cond.code y_Pool_giveBack b_Pool_giveBack 2 none ∈ gw := gw_2 158 rfl rfl
theorem wi_332 : Cond.methodLink R_Pool 37 y_Arrs_fill ∈ gw := gw_2 159 rfl rfl
theorem wi_333 : Cond.methodLink R_Pool 43 y_AL_add2 ∈ gw := gw_2 160 rfl rfl
theorem wi_334 : Cond.instanceMethod y_AL_add2 ∈ gw := gw_2 161 rfl rfl
theorem wi_335 : Cond.selects R_AL y_AL_add2 y_AL_add2 ∈ gw := gw_2 162 rfl rfl
theorem wi_336 : Cond.code y_AL_add2 b_AL_add2 2 (some .boolean) ∈ gw := gw_2 163 rfl rfl
theorem wi_337 : Cond.methodLink R_AL 131 y_AL_add3 ∈ gw := gw_2 164 rfl rfl
theorem wi_338 : Cond.instanceMethod y_AL_add3 ∈ gw := gw_2 166 rfl rfl
theorem wi_339 : Cond.code y_AL_add3 b_AL_add3 4 none ∈ gw := gw_2 167 rfl rfl
theorem wi_340 : Cond.methodLink R_Shelf 85 y_AL_add2 ∈ gw := gw_2 168 rfl rfl
theorem wi_341 : Cond.methodLink R_SF 157 y_Shelf_rename ∈ gw := gw_2 169 rfl rfl
theorem wi_342 : Cond.instanceMethod y_Shelf_rename ∈ gw := gw_2 170 rfl rfl
theorem wi_343 : Cond.selects R_Shelf y_Shelf_rename y_Shelf_rename ∈ gw := gw_2 171 rfl rfl
theorem wi_344 : Cond.code y_Shelf_rename b_Shelf_rename 5 none ∈ gw := gw_2 172 rfl rfl
theorem wi_345 : Cond.methodLink R_Shelf 92 y_Row_become ∈ gw := gw_2 173 rfl rfl
theorem wi_346 : Cond.methodLink R_SF 71 y_SF_swapFiles ∈ gw := gw_2 174 rfl rfl
theorem wi_347 : Cond.instanceMethod y_SF_swapFiles ∈ gw := gw_2 176 rfl rfl
theorem wi_348 : Cond.code y_SF_swapFiles b_SF_swapFiles 1 (some .int) ∈ gw := gw_2 177 rfl rfl
theorem wi_349 : Cond.methodLink R_SF 161 y_Shelf_swap ∈ gw := gw_2 178 rfl rfl
theorem wi_350 : Cond.instanceMethod y_Shelf_swap ∈ gw := gw_2 179 rfl rfl
theorem wi_351 : Cond.selects R_Shelf y_Shelf_swap y_Shelf_swap ∈ gw := gw_2 180 rfl rfl
theorem wi_352 : Cond.code y_Shelf_swap b_Shelf_swap 7 (some .boolean) ∈ gw := gw_2 181 rfl rfl
theorem wi_353 : Cond.methodLink R_Shelf 98 y_AL_set ∈ gw := gw_2 182 rfl rfl
theorem wi_354 : Cond.instanceMethod y_AL_set ∈ gw := gw_2 183 rfl rfl
theorem wi_355 : Cond.selects R_AL y_AL_set y_AL_set ∈ gw := gw_2 184 rfl rfl
theorem wi_356 : Cond.code y_AL_set b_AL_set 4 (some (.object "java/lang/Object")) ∈ gw := gw_2 185 rfl rfl
theorem wi_357 : Cond.methodLink R_SF 74 y_SF_tellNextName ∈ gw := gw_2 186 rfl rfl
theorem wi_358 : Cond.instanceMethod y_SF_tellNextName ∈ gw := gw_2 188 rfl rfl
theorem wi_359 : Cond.code y_SF_tellNextName b_SF_tellNextName 2 (some .int) ∈ gw := gw_2 189 rfl rfl
theorem wi_360 : Cond.methodLink R_SF 165 y_Shelf_findAfter ∈ gw := gw_2 190 rfl rfl
theorem wi_361 : Cond.instanceMethod y_Shelf_findAfter ∈ gw := gw_2 191 rfl rfl
theorem wi_362 : Cond.selects R_Shelf y_Shelf_findAfter y_Shelf_findAfter ∈ gw := gw_2 192 rfl rfl
theorem wi_363 : Cond.code y_Shelf_findAfter b_Shelf_findAfter 3 (some (.object "StripeFiles$StripedFile")) ∈ gw := gw_2 193 rfl rfl
theorem wi_364 : Cond.methodLink R_SF 93 y_File_title ∈ gw := gw_2 194 rfl rfl
theorem wi_365 : Cond.methodLink R_SF 77 y_SF_runOnFile ∈ gw := gw_2 195 rfl rfl
theorem wi_366 : Cond.instanceMethod y_SF_runOnFile ∈ gw := gw_2 197 rfl rfl
theorem wi_367 : Cond.code y_SF_runOnFile b_SF_runOnFile 6 (some .int) ∈ gw := gw_2 198 rfl rfl
theorem wi_368 : Cond.methodLink R_SF 138 y_SF_cutFile ∈ gw := gw_2 199 rfl rfl
theorem wi_369 : Cond.instanceMethod y_SF_cutFile ∈ gw := gw_2 201 rfl rfl
theorem wi_370 : Cond.code y_SF_cutFile b_SF_cutFile 4 (some .int) ∈ gw := gw_2 202 rfl rfl
theorem wi_371 : Cond.methodLink R_SF 150 y_File_cut ∈ gw := gw_2 203 rfl rfl
theorem wi_372 : Cond.methodLink R_SF 142 y_File_read ∈ gw := gw_2 204 rfl rfl
theorem wi_373 : Cond.instanceMethod y_File_read ∈ gw := gw_2 205 rfl rfl
theorem wi_374 : Cond.selects R_File y_File_read y_File_read ∈ gw := gw_2 206 rfl rfl
theorem wi_375 : Cond.code y_File_read b_File_read 9 none ∈ gw := gw_2 207 rfl rfl
theorem wi_376 : Cond.methodLink R_File 75 y_File_tell ∈ gw := gw_2 208 rfl rfl
theorem wi_377 : Cond.instanceMethod y_File_tell ∈ gw := gw_2 210 rfl rfl
theorem wi_378 : Cond.code y_File_tell b_File_tell 6 none ∈ gw := gw_2 211 rfl rfl
theorem wi_379 : Cond.methodLink R_File 79 y_Row_addZeros ∈ gw := gw_2 212 rfl rfl
theorem wi_380 : Cond.instanceMethod y_Row_addZeros ∈ gw := gw_2 213 rfl rfl
theorem wi_381 : Cond.selects R_Row y_Row_addZeros y_Row_addZeros ∈ gw := gw_2 214 rfl rfl
theorem wi_382 : Cond.code y_Row_addZeros b_Row_addZeros 2 none ∈ gw := gw_2 215 rfl rfl
theorem wi_383 : Cond.methodLink R_Row 25 y_Arrs_fill ∈ gw := gw_2 216 rfl rfl
theorem wi_384 : Cond.methodLink R_File 82 y_Row_addBytes ∈ gw := gw_2 217 rfl rfl
theorem wi_385 : Cond.methodLink R_Law 32 y_SF_told ∈ gw := gw_2 218 rfl rfl
theorem wi_386 : Cond.instanceMethod y_SF_told ∈ gw := gw_2 219 rfl rfl
theorem wi_387 : Cond.selects R_SF y_SF_told y_SF_told ∈ gw := gw_2 220 rfl rfl
theorem wi_388 : Cond.code y_SF_told b_SF_told 2 (some .int) ∈ gw := gw_2 221 rfl rfl
theorem wi_389 : Cond.methodLink R_SF 80 y_Row_byteAt ∈ gw := gw_2 222 rfl rfl
theorem wi_390 : Cond.instanceMethod y_Row_byteAt ∈ gw := gw_2 223 rfl rfl
theorem wi_391 : Cond.selects R_Row y_Row_byteAt y_Row_byteAt ∈ gw := gw_2 224 rfl rfl
theorem wi_392 : Cond.code y_Row_byteAt b_Row_byteAt 2 (some .int) ∈ gw := gw_2 225 rfl rfl
theorem wi_393 : Cond.methodLink R_Law 36 y_SF_file ∈ gw := gw_2 226 rfl rfl
theorem wi_394 : Cond.instanceMethod y_SF_file ∈ gw := gw_2 227 rfl rfl
theorem wi_395 : Cond.selects R_SF y_SF_file y_SF_file ∈ gw := gw_2 228 rfl rfl
theorem wi_396 : Cond.code y_SF_file b_SF_file 4 (some .int) ∈ gw := gw_2 229 rfl rfl
theorem wi_397 : Cond.methodLink R_SF 83 y_Shelf_fileAt ∈ gw := gw_2 230 rfl rfl
theorem wi_398 : Cond.methodLink R_SF 90 y_File_id ∈ gw := gw_2 231 rfl rfl
theorem wi_399 : Cond.instanceMethod y_File_id ∈ gw := gw_2 232 rfl rfl
theorem wi_400 : Cond.selects R_File y_File_id y_File_id ∈ gw := gw_2 233 rfl rfl
theorem wi_401 : Cond.code y_File_id b_File_id 1 (some .int) ∈ gw := gw_2 234 rfl rfl
theorem wi_402 : Cond.methodLink R_SF 97 y_File_laidStripes ∈ gw := gw_2 235 rfl rfl
theorem wi_403 : Cond.instanceMethod y_File_laidStripes ∈ gw := gw_2 236 rfl rfl
theorem wi_404 : Cond.selects R_File y_File_laidStripes y_File_laidStripes ∈ gw := gw_2 237 rfl rfl
theorem wi_405 : Cond.code y_File_laidStripes b_File_laidStripes 3 (some .int) ∈ gw := gw_2 238 rfl rfl
theorem wi_406 : Cond.methodLink R_Law 41 y_SF_piece ∈ gw := gw_2 239 rfl rfl
theorem wi_407 : Cond.instanceMethod y_SF_piece ∈ gw := gw_3 0 rfl rfl
theorem wi_408 : Cond.selects R_SF y_SF_piece y_SF_piece ∈ gw := gw_3 1 rfl rfl
theorem wi_409 : Cond.code y_SF_piece b_SF_piece 5 (some .int) ∈ gw := gw_3 2 rfl rfl
theorem wi_410 : Cond.methodLink R_SF 100 y_File_keptByte ∈ gw := gw_3 3 rfl rfl
theorem wi_411 : Cond.instanceMethod y_File_keptByte ∈ gw := gw_3 4 rfl rfl
theorem wi_412 : Cond.selects R_File y_File_keptByte y_File_keptByte ∈ gw := gw_3 5 rfl rfl
theorem wi_413 : Cond.code y_File_keptByte b_File_keptByte 4 (some .int) ∈ gw := gw_3 6 rfl rfl
theorem wi_414 : Cond.methodLink R_Law 45 y_SF_count ∈ gw := gw_3 7 rfl rfl
theorem wi_415 : Cond.instanceMethod y_SF_count ∈ gw := gw_3 8 rfl rfl
theorem wi_416 : Cond.selects R_SF y_SF_count y_SF_count ∈ gw := gw_3 9 rfl rfl
theorem wi_417 : Cond.code y_SF_count b_SF_count 2 (some .int) ∈ gw := gw_3 10 rfl rfl
theorem wi_418 : Cond.methodLink R_SF 104 y_Shelf_size ∈ gw := gw_3 11 rfl rfl
theorem wi_419 : Cond.instanceMethod y_Shelf_size ∈ gw := gw_3 12 rfl rfl
theorem wi_420 : Cond.selects R_Shelf y_Shelf_size y_Shelf_size ∈ gw := gw_3 13 rfl rfl
theorem wi_421 : Cond.code y_Shelf_size b_Shelf_size 1 (some .int) ∈ gw := gw_3 14 rfl rfl
theorem wi_422 : Cond.methodLink R_SF 107 y_Shelf_allBytes ∈ gw := gw_3 15 rfl rfl
theorem wi_423 : Cond.methodLink R_SF 110 y_Shelf_laidStripes ∈ gw := gw_3 16 rfl rfl
theorem wi_424 : Cond.instanceMethod y_Shelf_laidStripes ∈ gw := gw_3 17 rfl rfl
theorem wi_425 : Cond.selects R_Shelf y_Shelf_laidStripes y_Shelf_laidStripes ∈ gw := gw_3 18 rfl rfl
theorem wi_426 : Cond.code y_Shelf_laidStripes b_Shelf_laidStripes 3 (some .int) ∈ gw := gw_3 19 rfl rfl
theorem wi_427 : Cond.methodLink R_Shelf 41 y_File_laidStripes ∈ gw := gw_3 20 rfl rfl
theorem wi_428 : Cond.classLink R_Law 10 R_Mdl ∈ gw := gw_3 21 rfl rfl
theorem wi_429 : Cond.instantiable R_Mdl 17 ∈ gw := gw_3 22 rfl rfl
theorem wi_430 : Cond.methodLink R_Law 12 y_Mdl_init ∈ gw := gw_3 23 rfl rfl
theorem wi_431 : Cond.instanceMethod y_Mdl_init ∈ gw := gw_3 24 rfl rfl
theorem wi_432 : Cond.code y_Mdl_init b_Mdl_init 1 none ∈ gw := gw_3 25 rfl rfl
theorem wi_433 : Cond.methodLink R_Mdl 1 y_Obj_init ∈ gw := gw_3 26 rfl rfl
theorem wi_434 : Cond.constant R_Mdl 39 393216 ∈ gw := gw_3 27 rfl rfl
theorem wi_435 : Cond.fieldLink R_Mdl 7 R_Mdl "tape" "[B" ∈ gw := gw_3 28 rfl rfl
theorem wi_436 : Cond.fieldLink R_Mdl 49 R_Mdl "tapeLength" "I" ∈ gw := gw_3 29 rfl rfl
theorem wi_437 : Cond.fieldLink R_Mdl 13 R_Mdl "names" "[B" ∈ gw := gw_3 30 rfl rfl
theorem wi_438 : Cond.fieldLink R_Mdl 16 R_Mdl "nameLength" "[I" ∈ gw := gw_3 31 rfl rfl
theorem wi_439 : Cond.fieldLink R_Mdl 20 R_Mdl "order" "[I" ∈ gw := gw_3 32 rfl rfl
theorem wi_440 : Cond.fieldLink R_Mdl 23 R_Mdl "used" "[Z" ∈ gw := gw_3 33 rfl rfl
theorem wi_441 : Cond.fieldLink R_Mdl 27 R_Mdl "fileName" "[B" ∈ gw := gw_3 34 rfl rfl
theorem wi_442 : Cond.fieldLink R_Mdl 30 R_Mdl "fileNameLength" "[I" ∈ gw := gw_3 35 rfl rfl
theorem wi_443 : Cond.fieldLink R_Mdl 33 R_Mdl "fileId" "[I" ∈ gw := gw_3 36 rfl rfl
theorem wi_444 : Cond.fieldLink R_Mdl 36 R_Mdl "fileSize" "[I" ∈ gw := gw_3 37 rfl rfl
theorem wi_445 : Cond.fieldLink R_Mdl 40 R_Mdl "bytes" "[B" ∈ gw := gw_3 38 rfl rfl
theorem wi_446 : Cond.fieldLink R_Mdl 43 R_Mdl "laid" "[Z" ∈ gw := gw_3 39 rfl rfl
theorem wi_447 : Cond.fieldLink R_Mdl 57 R_Mdl "files" "I" ∈ gw := gw_3 40 rfl rfl
theorem wi_448 : Cond.fieldLink R_Mdl 71 R_Mdl "total" "I" ∈ gw := gw_3 41 rfl rfl
theorem wi_449 : Cond.fieldLink R_Mdl 91 R_Mdl "operations" "I" ∈ gw := gw_3 42 rfl rfl
theorem wi_450 : Cond.fieldLink R_Mdl 46 R_Mdl "told" "[I" ∈ gw := gw_3 43 rfl rfl
theorem wi_451 : Cond.fieldLink R_Mdl 85 R_Mdl "toldLength" "I" ∈ gw := gw_3 44 rfl rfl
theorem wi_452 : Cond.arrayClass .int ∈ gw := gw_3 80 rfl rfl
theorem wi_453 : Cond.arrayClass .boolean ∈ gw := gw_3 81 rfl rfl
theorem wi_454 : Cond.methodLink R_Law 17 y_Mdl_feed ∈ gw := gw_3 82 rfl rfl
theorem wi_455 : Cond.instanceMethod y_Mdl_feed ∈ gw := gw_3 83 rfl rfl
theorem wi_456 : Cond.selects R_Mdl y_Mdl_feed y_Mdl_feed ∈ gw := gw_3 84 rfl rfl
theorem wi_457 : Cond.code y_Mdl_feed b_Mdl_feed 6 (some .int) ∈ gw := gw_3 85 rfl rfl
theorem wi_458 : Cond.methodLink R_Mdl 53 y_Mdl_put ∈ gw := gw_3 86 rfl rfl
theorem wi_459 : Cond.instanceMethod y_Mdl_put ∈ gw := gw_3 88 rfl rfl
theorem wi_460 : Cond.code y_Mdl_put b_Mdl_put 3 none ∈ gw := gw_3 89 rfl rfl
theorem wi_461 : Cond.methodLink R_Law 22 y_Mdl_end ∈ gw := gw_3 90 rfl rfl
theorem wi_462 : Cond.instanceMethod y_Mdl_end ∈ gw := gw_3 91 rfl rfl
theorem wi_463 : Cond.selects R_Mdl y_Mdl_end y_Mdl_end ∈ gw := gw_3 92 rfl rfl
theorem wi_464 : Cond.code y_Mdl_end b_Mdl_end 2 (some .int) ∈ gw := gw_3 93 rfl rfl
theorem wi_465 : Cond.methodLink R_Law 26 y_Mdl_name ∈ gw := gw_3 94 rfl rfl
theorem wi_466 : Cond.instanceMethod y_Mdl_name ∈ gw := gw_3 95 rfl rfl
theorem wi_467 : Cond.selects R_Mdl y_Mdl_name y_Mdl_name ∈ gw := gw_3 96 rfl rfl
theorem wi_468 : Cond.code y_Mdl_name b_Mdl_name 3 (some .int) ∈ gw := gw_3 97 rfl rfl
theorem wi_469 : Cond.methodLink R_Law 31 y_Mdl_run ∈ gw := gw_3 98 rfl rfl
theorem wi_470 : Cond.instanceMethod y_Mdl_run ∈ gw := gw_3 99 rfl rfl
theorem wi_471 : Cond.selects R_Mdl y_Mdl_run y_Mdl_run ∈ gw := gw_3 100 rfl rfl
theorem wi_472 : Cond.code y_Mdl_run b_Mdl_run 6 (some .int) ∈ gw := gw_3 101 rfl rfl
theorem wi_473 : Cond.methodLink R_Mdl 74 y_Mdl_find ∈ gw := gw_3 102 rfl rfl
theorem wi_474 : Cond.instanceMethod y_Mdl_find ∈ gw := gw_3 104 rfl rfl
theorem wi_475 : Cond.code y_Mdl_find b_Mdl_find 3 (some .int) ∈ gw := gw_3 105 rfl rfl
theorem wi_476 : Cond.methodLink R_Mdl 60 y_Mdl_compare ∈ gw := gw_3 106 rfl rfl
theorem wi_477 : Cond.instanceMethod y_Mdl_compare ∈ gw := gw_3 108 rfl rfl
theorem wi_478 : Cond.code y_Mdl_compare b_Mdl_compare 8 (some .int) ∈ gw := gw_3 109 rfl rfl
theorem wi_479 : Cond.methodLink R_Mdl 79 y_Mdl_made ∈ gw := gw_3 110 rfl rfl
theorem wi_480 : Cond.instanceMethod y_Mdl_made ∈ gw := gw_3 112 rfl rfl
theorem wi_481 : Cond.code y_Mdl_made b_Mdl_made 4 (some .int) ∈ gw := gw_3 113 rfl rfl
theorem wi_482 : Cond.methodLink R_Mdl 64 y_Mdl_enter ∈ gw := gw_3 114 rfl rfl
theorem wi_483 : Cond.instanceMethod y_Mdl_enter ∈ gw := gw_3 116 rfl rfl
theorem wi_484 : Cond.code y_Mdl_enter b_Mdl_enter 5 none ∈ gw := gw_3 117 rfl rfl
theorem wi_485 : Cond.methodLink R_Mdl 94 y_Mdl_write ∈ gw := gw_3 118 rfl rfl
theorem wi_486 : Cond.instanceMethod y_Mdl_write ∈ gw := gw_3 120 rfl rfl
theorem wi_487 : Cond.code y_Mdl_write b_Mdl_write 10 (some .int) ∈ gw := gw_3 121 rfl rfl
theorem wi_488 : Cond.constant R_Mdl 78 32768 ∈ gw := gw_3 122 rfl rfl
theorem wi_489 : Cond.methodLink R_Mdl 82 y_Mdl_resize ∈ gw := gw_3 123 rfl rfl
theorem wi_490 : Cond.instanceMethod y_Mdl_resize ∈ gw := gw_3 125 rfl rfl
theorem wi_491 : Cond.code y_Mdl_resize b_Mdl_resize 4 none ∈ gw := gw_3 126 rfl rfl
theorem wi_492 : Cond.methodLink R_Mdl 98 y_Mdl_cut ∈ gw := gw_3 127 rfl rfl
theorem wi_493 : Cond.instanceMethod y_Mdl_cut ∈ gw := gw_3 129 rfl rfl
theorem wi_494 : Cond.code y_Mdl_cut b_Mdl_cut 4 (some .int) ∈ gw := gw_3 130 rfl rfl
theorem wi_495 : Cond.methodLink R_Mdl 101 y_Mdl_read ∈ gw := gw_3 131 rfl rfl
theorem wi_496 : Cond.instanceMethod y_Mdl_read ∈ gw := gw_3 133 rfl rfl
theorem wi_497 : Cond.code y_Mdl_read b_Mdl_read 6 (some .int) ∈ gw := gw_3 134 rfl rfl
theorem wi_498 : Cond.methodLink R_Mdl 88 y_Mdl_gone ∈ gw := gw_3 135 rfl rfl
theorem wi_499 : Cond.instanceMethod y_Mdl_gone ∈ gw := gw_3 137 rfl rfl
theorem wi_500 : Cond.code y_Mdl_gone b_Mdl_gone 2 (some .int) ∈ gw := gw_3 138 rfl rfl
theorem wi_501 : Cond.methodLink R_Mdl 68 y_Mdl_leave ∈ gw := gw_3 139 rfl rfl
theorem wi_502 : Cond.instanceMethod y_Mdl_leave ∈ gw := gw_3 141 rfl rfl
theorem wi_503 : Cond.code y_Mdl_leave b_Mdl_leave 4 none ∈ gw := gw_3 142 rfl rfl
theorem wi_504 : Cond.methodLink R_Mdl 104 y_Mdl_rename ∈ gw := gw_3 143 rfl rfl
theorem wi_505 : Cond.instanceMethod y_Mdl_rename ∈ gw := gw_3 145 rfl rfl
theorem wi_506 : Cond.code y_Mdl_rename b_Mdl_rename 3 (some .int) ∈ gw := gw_3 146 rfl rfl
theorem wi_507 : Cond.methodLink R_Mdl 108 y_Mdl_swap ∈ gw := gw_3 147 rfl rfl
theorem wi_508 : Cond.instanceMethod y_Mdl_swap ∈ gw := gw_3 149 rfl rfl
theorem wi_509 : Cond.code y_Mdl_swap b_Mdl_swap 3 (some .int) ∈ gw := gw_3 150 rfl rfl
theorem wi_510 : Cond.methodLink R_Mdl 111 y_Mdl_next ∈ gw := gw_3 151 rfl rfl
theorem wi_511 : Cond.instanceMethod y_Mdl_next ∈ gw := gw_3 153 rfl rfl
theorem wi_512 : Cond.code y_Mdl_next b_Mdl_next 4 (some .int) ∈ gw := gw_3 154 rfl rfl
theorem wi_513 : Cond.methodLink R_Law 35 y_Mdl_told ∈ gw := gw_3 155 rfl rfl
theorem wi_514 : Cond.instanceMethod y_Mdl_told ∈ gw := gw_3 156 rfl rfl
theorem wi_515 : Cond.selects R_Mdl y_Mdl_told y_Mdl_told ∈ gw := gw_3 157 rfl rfl
theorem wi_516 : Cond.code y_Mdl_told b_Mdl_told 2 (some .int) ∈ gw := gw_3 158 rfl rfl
theorem wi_517 : Cond.methodLink R_Law 40 y_Mdl_file ∈ gw := gw_3 159 rfl rfl
theorem wi_518 : Cond.instanceMethod y_Mdl_file ∈ gw := gw_3 160 rfl rfl
theorem wi_519 : Cond.selects R_Mdl y_Mdl_file y_Mdl_file ∈ gw := gw_3 161 rfl rfl
theorem wi_520 : Cond.code y_Mdl_file b_Mdl_file 4 (some .int) ∈ gw := gw_3 162 rfl rfl
theorem wi_521 : Cond.methodLink R_Mdl 114 y_Mdl_stripes ∈ gw := gw_3 163 rfl rfl
theorem wi_522 : Cond.instanceMethod y_Mdl_stripes ∈ gw := gw_3 165 rfl rfl
theorem wi_523 : Cond.code y_Mdl_stripes b_Mdl_stripes 4 (some .int) ∈ gw := gw_3 166 rfl rfl
theorem wi_524 : Cond.methodLink R_Law 44 y_Mdl_piece ∈ gw := gw_3 167 rfl rfl
theorem wi_525 : Cond.instanceMethod y_Mdl_piece ∈ gw := gw_3 168 rfl rfl
theorem wi_526 : Cond.selects R_Mdl y_Mdl_piece y_Mdl_piece ∈ gw := gw_3 169 rfl rfl
theorem wi_527 : Cond.code y_Mdl_piece b_Mdl_piece 6 (some .int) ∈ gw := gw_3 170 rfl rfl
theorem wi_528 : Cond.methodLink R_Law 48 y_Mdl_count ∈ gw := gw_3 171 rfl rfl
theorem wi_529 : Cond.instanceMethod y_Mdl_count ∈ gw := gw_3 172 rfl rfl
theorem wi_530 : Cond.selects R_Mdl y_Mdl_count y_Mdl_count ∈ gw := gw_3 173 rfl rfl
theorem wi_531 : Cond.code y_Mdl_count b_Mdl_count 4 (some .int) ∈ gw := gw_3 174 rfl rfl
theorem wi_532 : Cond.sameMethod "[Ljava/lang/Object;" R_Obj "getClass" "()Ljava/lang/Class;" ∈ gw := gw_3 177 rfl rfl
theorem wi_533 : Cond.selects "[Ljava/lang/Object;" ⟨R_Obj, "getClass", "()Ljava/lang/Class;"⟩ ⟨R_Obj, "getClass", "()Ljava/lang/Class;"⟩ ∈ gw := gw_3 178 rfl rfl
theorem wi_534 : Cond.selects R_SF y_SF_isRefused y_SF_isRefused ∈ gw := List.mem_filter.mpr ⟨List.mem_append_left _ (List.mem_map.mpr ⟨_, List.mem_of_getElem? (l := lw_privs) (i := 0) rfl, rfl⟩), rfl⟩
theorem wi_535 : Cond.selects R_SF y_SF_makeFile y_SF_makeFile ∈ gw := List.mem_filter.mpr ⟨List.mem_append_left _ (List.mem_map.mpr ⟨_, List.mem_of_getElem? (l := lw_privs) (i := 1) rfl, rfl⟩), rfl⟩
theorem wi_536 : Cond.selects R_Shelf y_Shelf_indexOf y_Shelf_indexOf ∈ gw := List.mem_filter.mpr ⟨List.mem_append_left _ (List.mem_map.mpr ⟨_, List.mem_of_getElem? (l := lw_privs) (i := 2) rfl, rfl⟩), rfl⟩
theorem wi_537 : Cond.selects R_Shelf y_Shelf_placeOf y_Shelf_placeOf ∈ gw := List.mem_filter.mpr ⟨List.mem_append_left _ (List.mem_map.mpr ⟨_, List.mem_of_getElem? (l := lw_privs) (i := 3) rfl, rfl⟩), rfl⟩
theorem wi_538 : Cond.selects R_Shelf y_Shelf_isAt y_Shelf_isAt ∈ gw := List.mem_filter.mpr ⟨List.mem_append_left _ (List.mem_map.mpr ⟨_, List.mem_of_getElem? (l := lw_privs) (i := 4) rfl, rfl⟩), rfl⟩
theorem wi_539 : Cond.selects R_AL y_AL_fastRemove y_AL_fastRemove ∈ gw := List.mem_filter.mpr ⟨List.mem_append_left _ (List.mem_map.mpr ⟨_, List.mem_of_getElem? (l := lw_privs) (i := 5) rfl, rfl⟩), rfl⟩
theorem wi_540 : Cond.selects R_AL y_AL_rangeCheckForAdd y_AL_rangeCheckForAdd ∈ gw := List.mem_filter.mpr ⟨List.mem_append_left _ (List.mem_map.mpr ⟨_, List.mem_of_getElem? (l := lw_privs) (i := 6) rfl, rfl⟩), rfl⟩
theorem wi_541 : Cond.selects R_AL y_AL_grow1 y_AL_grow1 ∈ gw := List.mem_filter.mpr ⟨List.mem_append_left _ (List.mem_map.mpr ⟨_, List.mem_of_getElem? (l := lw_privs) (i := 7) rfl, rfl⟩), rfl⟩
theorem wi_542 : Cond.selects R_AL y_AL_grow2 y_AL_grow2 ∈ gw := List.mem_filter.mpr ⟨List.mem_append_left _ (List.mem_map.mpr ⟨_, List.mem_of_getElem? (l := lw_privs) (i := 8) rfl, rfl⟩), rfl⟩
theorem wi_543 : Cond.selects R_SF y_SF_writeTape y_SF_writeTape ∈ gw := List.mem_filter.mpr ⟨List.mem_append_left _ (List.mem_map.mpr ⟨_, List.mem_of_getElem? (l := lw_privs) (i := 9) rfl, rfl⟩), rfl⟩
theorem wi_544 : Cond.selects R_File y_File_lay y_File_lay ∈ gw := List.mem_filter.mpr ⟨List.mem_append_left _ (List.mem_map.mpr ⟨_, List.mem_of_getElem? (l := lw_privs) (i := 10) rfl, rfl⟩), rfl⟩
theorem wi_545 : Cond.selects R_SF y_SF_renameFile y_SF_renameFile ∈ gw := List.mem_filter.mpr ⟨List.mem_append_left _ (List.mem_map.mpr ⟨_, List.mem_of_getElem? (l := lw_privs) (i := 11) rfl, rfl⟩), rfl⟩
theorem wi_546 : Cond.selects R_File y_File_cutStripe y_File_cutStripe ∈ gw := List.mem_filter.mpr ⟨List.mem_append_left _ (List.mem_map.mpr ⟨_, List.mem_of_getElem? (l := lw_privs) (i := 12) rfl, rfl⟩), rfl⟩
theorem wi_547 : Cond.selects R_AL y_AL_add3 y_AL_add3 ∈ gw := List.mem_filter.mpr ⟨List.mem_append_left _ (List.mem_map.mpr ⟨_, List.mem_of_getElem? (l := lw_privs) (i := 13) rfl, rfl⟩), rfl⟩
theorem wi_548 : Cond.selects R_SF y_SF_swapFiles y_SF_swapFiles ∈ gw := List.mem_filter.mpr ⟨List.mem_append_left _ (List.mem_map.mpr ⟨_, List.mem_of_getElem? (l := lw_privs) (i := 14) rfl, rfl⟩), rfl⟩
theorem wi_549 : Cond.selects R_SF y_SF_tellNextName y_SF_tellNextName ∈ gw := List.mem_filter.mpr ⟨List.mem_append_left _ (List.mem_map.mpr ⟨_, List.mem_of_getElem? (l := lw_privs) (i := 15) rfl, rfl⟩), rfl⟩
theorem wi_550 : Cond.selects R_SF y_SF_runOnFile y_SF_runOnFile ∈ gw := List.mem_filter.mpr ⟨List.mem_append_left _ (List.mem_map.mpr ⟨_, List.mem_of_getElem? (l := lw_privs) (i := 16) rfl, rfl⟩), rfl⟩
theorem wi_551 : Cond.selects R_SF y_SF_cutFile y_SF_cutFile ∈ gw := List.mem_filter.mpr ⟨List.mem_append_left _ (List.mem_map.mpr ⟨_, List.mem_of_getElem? (l := lw_privs) (i := 17) rfl, rfl⟩), rfl⟩
theorem wi_552 : Cond.selects R_File y_File_tell y_File_tell ∈ gw := List.mem_filter.mpr ⟨List.mem_append_left _ (List.mem_map.mpr ⟨_, List.mem_of_getElem? (l := lw_privs) (i := 18) rfl, rfl⟩), rfl⟩
theorem wi_553 : Cond.selects R_Mdl y_Mdl_put y_Mdl_put ∈ gw := List.mem_filter.mpr ⟨List.mem_append_left _ (List.mem_map.mpr ⟨_, List.mem_of_getElem? (l := lw_privs) (i := 19) rfl, rfl⟩), rfl⟩
theorem wi_554 : Cond.selects R_Mdl y_Mdl_find y_Mdl_find ∈ gw := List.mem_filter.mpr ⟨List.mem_append_left _ (List.mem_map.mpr ⟨_, List.mem_of_getElem? (l := lw_privs) (i := 20) rfl, rfl⟩), rfl⟩
theorem wi_555 : Cond.selects R_Mdl y_Mdl_compare y_Mdl_compare ∈ gw := List.mem_filter.mpr ⟨List.mem_append_left _ (List.mem_map.mpr ⟨_, List.mem_of_getElem? (l := lw_privs) (i := 21) rfl, rfl⟩), rfl⟩
theorem wi_556 : Cond.selects R_Mdl y_Mdl_made y_Mdl_made ∈ gw := List.mem_filter.mpr ⟨List.mem_append_left _ (List.mem_map.mpr ⟨_, List.mem_of_getElem? (l := lw_privs) (i := 22) rfl, rfl⟩), rfl⟩
theorem wi_557 : Cond.selects R_Mdl y_Mdl_enter y_Mdl_enter ∈ gw := List.mem_filter.mpr ⟨List.mem_append_left _ (List.mem_map.mpr ⟨_, List.mem_of_getElem? (l := lw_privs) (i := 23) rfl, rfl⟩), rfl⟩
theorem wi_558 : Cond.selects R_Mdl y_Mdl_write y_Mdl_write ∈ gw := List.mem_filter.mpr ⟨List.mem_append_left _ (List.mem_map.mpr ⟨_, List.mem_of_getElem? (l := lw_privs) (i := 24) rfl, rfl⟩), rfl⟩
theorem wi_559 : Cond.selects R_Mdl y_Mdl_resize y_Mdl_resize ∈ gw := List.mem_filter.mpr ⟨List.mem_append_left _ (List.mem_map.mpr ⟨_, List.mem_of_getElem? (l := lw_privs) (i := 25) rfl, rfl⟩), rfl⟩
theorem wi_560 : Cond.selects R_Mdl y_Mdl_cut y_Mdl_cut ∈ gw := List.mem_filter.mpr ⟨List.mem_append_left _ (List.mem_map.mpr ⟨_, List.mem_of_getElem? (l := lw_privs) (i := 26) rfl, rfl⟩), rfl⟩
theorem wi_561 : Cond.selects R_Mdl y_Mdl_read y_Mdl_read ∈ gw := List.mem_filter.mpr ⟨List.mem_append_left _ (List.mem_map.mpr ⟨_, List.mem_of_getElem? (l := lw_privs) (i := 27) rfl, rfl⟩), rfl⟩
theorem wi_562 : Cond.selects R_Mdl y_Mdl_gone y_Mdl_gone ∈ gw := List.mem_filter.mpr ⟨List.mem_append_left _ (List.mem_map.mpr ⟨_, List.mem_of_getElem? (l := lw_privs) (i := 28) rfl, rfl⟩), rfl⟩
theorem wi_563 : Cond.selects R_Mdl y_Mdl_leave y_Mdl_leave ∈ gw := List.mem_filter.mpr ⟨List.mem_append_left _ (List.mem_map.mpr ⟨_, List.mem_of_getElem? (l := lw_privs) (i := 29) rfl, rfl⟩), rfl⟩
theorem wi_564 : Cond.selects R_Mdl y_Mdl_rename y_Mdl_rename ∈ gw := List.mem_filter.mpr ⟨List.mem_append_left _ (List.mem_map.mpr ⟨_, List.mem_of_getElem? (l := lw_privs) (i := 30) rfl, rfl⟩), rfl⟩
theorem wi_565 : Cond.selects R_Mdl y_Mdl_swap y_Mdl_swap ∈ gw := List.mem_filter.mpr ⟨List.mem_append_left _ (List.mem_map.mpr ⟨_, List.mem_of_getElem? (l := lw_privs) (i := 31) rfl, rfl⟩), rfl⟩
theorem wi_566 : Cond.selects R_Mdl y_Mdl_next y_Mdl_next ∈ gw := List.mem_filter.mpr ⟨List.mem_append_left _ (List.mem_map.mpr ⟨_, List.mem_of_getElem? (l := lw_privs) (i := 32) rfl, rfl⟩), rfl⟩
theorem wi_567 : Cond.selects R_Mdl y_Mdl_stripes y_Mdl_stripes ∈ gw := List.mem_filter.mpr ⟨List.mem_append_left _ (List.mem_map.mpr ⟨_, List.mem_of_getElem? (l := lw_privs) (i := 33) rfl, rfl⟩), rfl⟩
theorem i_SF : ∀ w ∈ u_ws R_SF F_SF 6, w ∈ gw := by decide +kernel
theorem i_Row : ∀ w ∈ u_ws R_Row F_Row 2, w ∈ gw := by decide +kernel
theorem i_Piece : ∀ w ∈ u_ws R_Piece F_Piece 1, w ∈ gw := by decide +kernel
theorem i_Pool : ∀ w ∈ u_ws R_Pool F_Pool 1, w ∈ gw := by decide +kernel
theorem i_File : ∀ w ∈ u_ws R_File F_File 5, w ∈ gw := by decide +kernel
theorem i_Shelf : ∀ w ∈ u_ws R_Shelf F_Shelf 3, w ∈ gw := by decide +kernel
theorem i_AL : ∀ w ∈ u_ws R_AL F_AL 3, w ∈ gw := by decide +kernel
theorem i_Mdl : ∀ w ∈ u_ws R_Mdl F_Mdl 17, w ∈ gw := by decide +kernel
end
section
/-! THE GHOST HEAP: a partial function from addresses to what the owned cells hold; every row below speaks of it alone. -/
abbrev gM : Type := Nat → Option va_E
def gh_F (f : gM) (a : Nat) : va_E := (f a).getD (.inr (0, []))
def gh_H (D : va_G) (cl : List vw_C) (A : Nat → Prop) (f : gM) (H : Heap) : Prop :=
  ∃ L : List Nat, (∀ a, a ∈ L ↔ f a ≠ none) ∧ va_P D cl ([] ++ va_pl L (gh_F f)) H ∧ va_D A ([] ++ va_pl L (gh_F f))
theorem gh_F_of {f : gM} {a : Nat} {e : va_E} (h : f a = some e) : gh_F f a = e := by
  unfold gh_F; rw [h]; rfl
theorem gh_F_up (f : gM) (a : Nat) (e : va_E) : gh_F (va_up f a (some e)) = va_up (gh_F f) a e := by
  funext b
  unfold gh_F va_up
  by_cases h : b = a
  · simp [h]
  · simp [h]
theorem gh_open {D : va_G} {cl : List vw_C} {A : Nat → Prop} {f : gM} {H : Heap} (h : gh_H D cl A f H) {a : Nat} {e : va_E} (ha : f a = some e) :
    ∃ (L : List Nat) (k : Nat), (∀ b, b ∈ L ↔ f b ≠ none) ∧ va_P D cl ([] ++ va_pl L (gh_F f)) H ∧ va_D A ([] ++ va_pl L (gh_F f)) ∧ ([] ++ va_pl L (gh_F f))[k]? = some (a, e) := by
  obtain ⟨L, hL, hP, hD⟩ := h
  have hm : a ∈ L := (hL a).mpr (by rw [ha]; exact Option.some_ne_none e)
  obtain ⟨k, hk⟩ := va_pl_get (X := []) (f := gh_F f) hm
  rw [gh_F_of ha] at hk
  exact ⟨L, k, hL, hP, hD, hk⟩
theorem gh_idx {f : gM} {L : List Nat} (hL : ∀ b, b ∈ L ↔ f b ≠ none) {a : Nat} {e : va_E} (ha : f a = some e) : ∃ k : Nat, ([] ++ va_pl L (gh_F f))[k]? = some (a, e) := by
  have hm : a ∈ L := (hL a).mpr (by rw [ha]; exact Option.some_ne_none e)
  obtain ⟨k, hk⟩ := va_pl_get (X := []) (f := gh_F f) hm
  rw [gh_F_of ha] at hk
  exact ⟨k, hk⟩
theorem gh_close {D : va_G} {cl : List vw_C} {A : Nat → Prop} {f : gM} {L : List Nat} {k a : Nat} {e0 e1 : va_E} {H1 : Heap} (hL : ∀ b, b ∈ L ↔ f b ≠ none) (hD : va_D A ([] ++ va_pl L (gh_F f))) (ha : f a = some e0) (hk : ([] ++ va_pl L (gh_F f))[k]? = some (a, e0))
    (hP1 : va_P D cl (([] ++ va_pl L (gh_F f)).set k (a, e1)) H1) (hD1 : va_D A (([] ++ va_pl L (gh_F f)).set k (a, e1))) : gh_H D cl A (va_up f a (some e1)) H1 := by
  have hm : a ∈ L := (hL a).mpr (by rw [ha]; exact Option.some_ne_none e0)
  have e : ([] ++ va_pl L (gh_F f)).set k (a, e1) = [] ++ va_pl L (gh_F (va_up f a (some e1))) := by
    rw [va_pl_set hD hm (by rw [gh_F_of ha]; exact hk), gh_F_up]
  rw [e] at hP1 hD1
  refine ⟨L, fun b => ?_, hP1, hD1⟩
  by_cases hb : b = a
  · subst hb
    rw [va_up_self]
    exact ⟨fun _ => Option.some_ne_none e1, fun _ => hm⟩
  · rw [va_up_ne _ _ hb]
    exact hL b
theorem gh_push {D : va_G} {cl : List vw_C} {A : Nat → Prop} {f : gM} {L : List Nat} {q : Nat} {e : va_E} {H1 : Heap} (hL : ∀ b, b ∈ L ↔ f b ≠ none)
    (hP1 : va_P D cl (([] ++ va_pl L (gh_F f)) ++ [(q, e)]) H1) (hD1 : va_D A (([] ++ va_pl L (gh_F f)) ++ [(q, e)])) : gh_H D cl A (va_up f q (some e)) H1 ∧ f q = none := by
  have hq : q ∉ L := va_pl_fresh2 (X := []) hD1
  have e2 : ([] ++ va_pl L (gh_F f)) ++ [(q, e)] = [] ++ va_pl (L ++ [q]) (gh_F (va_up f q (some e))) := by
    rw [List.nil_append, List.nil_append, va_pl_push hq, gh_F_up]
  rw [e2] at hP1 hD1
  have hn : f q = none := Classical.byContradiction fun h => hq ((hL q).mpr h)
  refine ⟨⟨L ++ [q], fun b => ?_, hP1, hD1⟩, hn⟩
  by_cases hb : b = q
  · subst hb
    rw [va_up_self]
    exact ⟨fun _ => Option.some_ne_none e, fun _ => List.mem_append_right _ (List.mem_singleton.mpr rfl)⟩
  · rw [va_up_ne _ _ hb, ← hL b]
    exact ⟨fun h => (List.mem_append.mp h).elim id (fun z => absurd (List.mem_singleton.mp z) hb), fun h => List.mem_append_left _ h⟩
/-- two cells that hold different things lie apart -/
theorem gh_ne {f : gM} {a b : Nat} {x y : Option va_E} (ha : f a = x) (hb : f b = y) (h : x ≠ y) : a ≠ b := fun e => h (by rw [← ha, ← hb, e])
/-- the parameters of all contracts: class and slot numbers, array classes, the cells that may change, the empty list's array, the mirror -/
abbrev gPar : Type := va_G × (Nat → ClassId) × (Nat → Prop) × Nat × Nat
abbrev gD (P : gPar) : va_G := P.1
abbrev gA (P : gPar) : Nat → Prop := P.2.2.1
abbrev gty (P : gPar) : List (ClassId × FieldType) := [(P.2.1 0, .byte), (P.2.1 1, .int), (P.2.1 2, .boolean), (P.2.1 3, .object "StripeFiles$Piece"), (P.2.1 4, .object "java/lang/Object")]
def gnF : List Cond := [.fieldLinkNest R_Pool 33 R_Piece "bytes" "[B" R_SF, .fieldLinkNest R_File 41 R_Piece "bytes" "[B" R_SF]
/-- what all states keep: tables, the static empty array, the words of nest mates and casts -/
def gX (P : gPar) (U : State) : Prop :=
  va_K (gD P) gcl (gty P) U ∧ (∀ q, U.heap.size ≤ q → gA P q) ∧
  (va_Nw (.fieldLinkNest R_Pool 33 R_Piece "bytes" "[B" R_SF) U ∧ va_Nw (.fieldLinkNest R_File 41 R_Piece "bytes" "[B" R_SF) U ∧ va_Nw (.castable R_File R_File) U ∧ va_Nw (.castable R_Piece R_Piece) U ∧ va_Nw (.castable R_File R_Obj) U ∧ va_Nw (.castable R_Piece R_Obj) U) ∧
  va_AO "StripeFiles$Piece" U ∧ va_AO "java/lang/Object" U ∧ va_Dc U ∧ va_Mi "[Ljava/lang/Object;" P.2.2.2.2 U ∧
  va_Z "java/util/ArrayList" "DEFAULTCAPACITY_EMPTY_ELEMENTDATA" "[Ljava/lang/Object;" (.ref P.2.2.2.1) (gA P) U U.heap ∧ va_T (.object "java/lang/Object") P.2.2.2.1 0 (fun _ => .null) (gA P) U U.heap ∧ va_O "[Ljava/lang/Object;" P.2.2.2.1 (gA P) U U.heap
theorem gX.to {P : gPar} {s U : State} {H : Heap} {locs : List Loc} (h : gX P s) (hS : va_S (gA P) s.heap H locs) (hU : U.heap = H) (hW : s.WarmedH U.vm) : gX P U := by
  obtain ⟨hK, hA, ⟨n1, n2, n3, n4, n5, n6⟩, a1, a2, hc, hm, hz, ht, ho⟩ := h
  subst hU
  exact ⟨va_K.moved hW.alike hK, fun q hq => hA q (Nat.le_trans hS.1 hq), ⟨va_Nw.warmF hW n1, va_Nw.warmF hW n2, va_Nw.warmC hW n3, va_Nw.warmC hW n4, va_Nw.warmC hW n5, va_Nw.warmC hW n6⟩, va_AO.moved hW.alike a1, va_AO.moved hW.alike a2, va_Dc.moved hW.alike hc, va_Mi.moved hW.alike hm,
    va_Z.moved hW.alike (va_Z.kept hz hS.2.1), va_T.moved hW.alike (va_T.kept ht hS.2.1), va_O.moved hW.alike (va_O.kept ho hS.2.1)⟩
theorem gX.call {P : gPar} {U : State} {g : JFrame} {mk : MethodId} {a : Array Value} (h : gX P U) : gX P (U.calling g mk a) := by
  obtain ⟨hK, hA, ⟨n1, n2, n3, n4, n5, n6⟩, a1, a2, hc, hm, hz, ht, ho⟩ := h
  exact ⟨va_K.moved (u := U) (U := U.calling g mk a) (Vm.Alike.refl U.vm) hK, hA, ⟨va_Nw.same rfl rfl n1, va_Nw.same rfl rfl n2, va_Nw.same rfl rfl n3, va_Nw.same rfl rfl n4, va_Nw.same rfl rfl n5, va_Nw.same rfl rfl n6⟩, va_AO.moved (u := U) (Vm.Alike.refl U.vm) a1, va_AO.moved (u := U) (Vm.Alike.refl U.vm) a2, va_Dc.moved (u := U) (Vm.Alike.refl U.vm) hc, va_Mi.moved (u := U) (Vm.Alike.refl U.vm) hm,
    va_Z.moved (u := U) (Vm.Alike.refl U.vm) hz, va_T.moved (u := U) (Vm.Alike.refl U.vm) ht, va_O.moved (u := U) (Vm.Alike.refl U.vm) ho⟩
/-- a state that holds the owned cells f -/
def gS (P : gPar) (f : gM) (U : State) : Prop := gX P U ∧ gh_H (gD P) gcl (gA P) f U.heap
/-- a point of a method's body -/
def gB (P : gPar) (f : gM) (s : State) (H : Heap) (locs : List Loc) : Prop := gX P s ∧ gh_H (gD P) gcl (gA P) f H ∧ va_S (gA P) s.heap H locs
section GHR
variable {p : Program} {l : Launch} {e : Env} {R : Room} {s : State} {m : MethodId} {args : Array Value} {below : List Frame} {meth : Method} {c : Code} {H : Heap} {locs : List Loc} {cells slots : Nat} {Q : State → Prop}
variable {cc : ByteArray} {pc : Nat} {ls : Array Slot} {rest : List Value} {P : gPar} {a : Nat} {f : gM} {own ref C : String} {T : u_T} {N ci index nL : Nat}
theorem gh_get (S : CallFix p m c cc nL s args gw own) (hI : gB P f s H locs) {fs : List Value} (he : f a = some (.inr (ci, fs))) (hc : gcl[ci]? = some (C, T, N)) (hin : ∀ w ∈ u_ws C T N, w ∈ gw) (k : Nat) (hk : k < N) (hlink : Cond.fieldLink own index (T k).1 (T k).2.1 (T k).2.2.1 ∈ gw) {v : Value} (hv : fs[k]? = some v) (hdg : decode cc pc = .ok (.getfield index, 3))
    (kk : W p l e R s m args below meth c H locs cells slots Q (F0 m (pc + 3) ls (v :: rest))) : W p l e R s m args below meth c H locs cells slots Q (F0 m pc ls (.ref a :: rest)) := by
  obtain ⟨hX, hH, hS⟩ := hI
  have hK := hX.1
  obtain ⟨L, k0, hL, hP, hD, h0⟩ := gh_open hH he
  exact va_get S.1 S.2.1 S.2.2.2.2 hin S.2.2.2.1 hK hP k0 h0 hc k hk (S.2.2.2.2 _ hlink) (fun _ h => h) hv hdg kk
theorem gh_getN {host : String} (S : CallFix p m c cc nL s args gw own) (hI : gB P f s H locs) {fs : List Value} (he : f a = some (.inr (ci, fs))) (hc : gcl[ci]? = some (C, T, N)) (hin : ∀ w ∈ u_ws C T N, w ∈ gw) (k : Nat) (hk : k < N) (hlink : va_Nw (.fieldLinkNest own index (T k).1 (T k).2.1 (T k).2.2.1 host) s) {v : Value} (hv : fs[k]? = some v) (hdg : decode cc pc = .ok (.getfield index, 3))
    (kk : W p l e R s m args below meth c H locs cells slots Q (F0 m (pc + 3) ls (v :: rest))) : W p l e R s m args below meth c H locs cells slots Q (F0 m pc ls (.ref a :: rest)) := by
  obtain ⟨hX, hH, hS⟩ := hI
  have hK := hX.1
  obtain ⟨L, k0, hL, hP, hD, h0⟩ := gh_open hH he
  exact va_getN S.1 S.2.1 S.2.2.2.2 hin S.2.2.2.1 hK hP k0 h0 hc k hk (va_Nw.use rfl hlink) (fun _ h => h) hv hdg kk
theorem gh_put (S : CallFix p m c cc nL s args gw own) (hI : gB P f s H locs) {fs : List Value} (he : f a = some (.inr (ci, fs))) (hc : gcl[ci]? = some (C, T, N)) (hin : ∀ w ∈ u_ws C T N, w ∈ gw) (ty0 : Nat → FieldType) (hty : ∀ k, k < N → parseFieldDescriptor (T k).2.2.1 = some (ty0 k)) (hnm : ∀ a, a < N → ∀ b, b < N → a ≠ b → (T a).2.1 ≠ (T b).2.1) (k : Nat) (hk : k < N) (hlink : Cond.fieldLink own index (T k).1 (T k).2.1 (T k).2.2.1 ∈ gw) (hfin : (T k).2.2.2 = false) {v : Value} (hn : narrow (ty0 k) v = v) (hfit : fits (ty0 k) v = true) (hl : k < fs.length) (hdg : decode cc pc = .ok (.putfield index, 3))
    (kk : ∀ (H1 : Heap) (locs1 : List Loc), gB P (va_up f a (some (.inr (ci, fs.set k v)))) s H1 locs1 → W p l e R s m args below meth c H1 locs1 cells slots Q (F0 m (pc + 3) ls rest)) : W p l e R s m args below meth c H locs cells slots Q (F0 m pc ls (v :: .ref a :: rest)) := by
  obtain ⟨hX, hH, hS⟩ := hI
  have hK := hX.1
  obtain ⟨L, k0, hL, hP, hD, h0⟩ := gh_open hH he
  exact va_put S.1 S.2.1 S.2.2.2.2 hin ty0 hty hnm S.2.2.2.1 hK hP hD hS k0 h0 hc k hk (S.2.2.2.2 _ hlink) (fun _ h => h) hfin (hty k hk) hn hfit hl hdg (fun H1 locs1 hP1 hD1 hS1 => kk H1 locs1 ⟨hX, gh_close hL hD he h0 hP1 hD1, hS1⟩)
theorem gh_putF (S : CallFix p m c cc nL s args gw own) (hI : gB P f s H locs) {fs : List Value} (he : f a = some (.inr (ci, fs))) (hc : gcl[ci]? = some (C, T, N)) (hin : ∀ w ∈ u_ws C T N, w ∈ gw) (ty0 : Nat → FieldType) (hty : ∀ k, k < N → parseFieldDescriptor (T k).2.2.1 = some (ty0 k)) (hnm : ∀ a, a < N → ∀ b, b < N → a ≠ b → (T a).2.1 ≠ (T b).2.1) (k : Nat) (hk : k < N) (hlink : Cond.fieldLink own index (T k).1 (T k).2.1 (T k).2.2.1 ∈ gw) (hfin : (T k).2.2.2 = true) (hin2 : meth.name = "<init>") (hdecl : (T k).1 = own) {v : Value} (hn : narrow (ty0 k) v = v) (hfit : fits (ty0 k) v = true) (hl : k < fs.length) (hdg : decode cc pc = .ok (.putfield index, 3))
    (kk : ∀ (H1 : Heap) (locs1 : List Loc), gB P (va_up f a (some (.inr (ci, fs.set k v)))) s H1 locs1 → W p l e R s m args below meth c H1 locs1 cells slots Q (F0 m (pc + 3) ls rest)) : W p l e R s m args below meth c H locs cells slots Q (F0 m pc ls (v :: .ref a :: rest)) := by
  obtain ⟨hX, hH, hS⟩ := hI
  have hK := hX.1
  obtain ⟨L, k0, hL, hP, hD, h0⟩ := gh_open hH he
  exact va_putF S.1 S.2.1 S.2.2.2.2 hin ty0 hty hnm S.2.2.2.1 hK hP hD hS k0 h0 hc k hk (S.2.2.2.2 _ hlink) (fun _ h => h) hfin hin2 hdecl (hty k hk) hn hfit hl hdg (fun H1 locs1 hP1 hD1 hS1 => kk H1 locs1 ⟨hX, gh_close hL hD he h0 hP1 hD1, hS1⟩)
/-- array reads: bytes, ints, references; the index is a natural number -/
theorem gh_bald (S : CallFix p m c cc nL s args gw own) (hI : gB P f s H locs) (t0 : Nat) {cA : ClassId} {n : Nat} {g : Nat → Int32} (he : f a = some (.inl (cA, n, .inl g))) (ht : (gty P)[t0]? = some (cA, .byte)) {i : Int32} {j : Nat} (hi : i = nI j) (hj : j < n) (hn : n < 2 ^ 31) (hdg : decode cc pc = .ok (.baload, 1))
    (kk : W p l e R s m args below meth c H locs cells slots Q (F0 m (pc + 1) ls (.int (g j) :: rest))) : W p l e R s m args below meth c H locs cells slots Q (F0 m pc ls (.int i :: .ref a :: rest)) := by
  subst hi
  obtain ⟨hX, hH, hS⟩ := hI
  have hK := hX.1
  obtain ⟨L, k0, hL, hP, hD, h0⟩ := gh_open hH he
  exact va_bald S.1 S.2.1 hK hP k0 t0 h0 ht (vp_in_nI hj hn) hdg (by rw [nI_clamp (by omega)]; exact kk)
theorem gh_iald (S : CallFix p m c cc nL s args gw own) (hI : gB P f s H locs) (t0 : Nat) {cA : ClassId} {n : Nat} {g : Nat → Int32} (he : f a = some (.inl (cA, n, .inl g))) (ht : (gty P)[t0]? = some (cA, .int)) {i : Int32} {j : Nat} (hi : i = nI j) (hj : j < n) (hn : n < 2 ^ 31) (hdg : decode cc pc = .ok (.iaload, 1))
    (kk : W p l e R s m args below meth c H locs cells slots Q (F0 m (pc + 1) ls (.int (g j) :: rest))) : W p l e R s m args below meth c H locs cells slots Q (F0 m pc ls (.int i :: .ref a :: rest)) := by
  subst hi
  obtain ⟨hX, hH, hS⟩ := hI
  have hK := hX.1
  obtain ⟨L, k0, hL, hP, hD, h0⟩ := gh_open hH he
  exact va_iald S.1 S.2.1 hK hP k0 t0 h0 ht (vp_in_nI hj hn) hdg (by rw [nI_clamp (by omega)]; exact kk)
theorem gh_aald (S : CallFix p m c cc nL s args gw own) (hI : gB P f s H locs) (t0 : Nat) {cA : ClassId} {E : String} {n : Nat} {g : Nat → Option Nat} (he : f a = some (.inl (cA, n, .inr (.inr (.inr (.inr g)))))) (ht : (gty P)[t0]? = some (cA, .object E)) {i : Int32} {j : Nat} (hi : i = nI j) (hj : j < n) (hn : n < 2 ^ 31) (hdg : decode cc pc = .ok (.aaload, 1))
    (kk : W p l e R s m args below meth c H locs cells slots Q (F0 m (pc + 1) ls (va_rf (g j) :: rest))) : W p l e R s m args below meth c H locs cells slots Q (F0 m pc ls (.int i :: .ref a :: rest)) := by
  subst hi
  obtain ⟨hX, hH, hS⟩ := hI
  have hK := hX.1
  obtain ⟨L, k0, hL, hP, hD, h0⟩ := gh_open hH he
  exact va_aldq S.1 S.2.1 hK hP k0 t0 h0 ht (vp_in_nI hj hn) hdg (by rw [nI_clamp (by omega)]; exact kk)
theorem gh_alen (S : CallFix p m c cc nL s args gw own) (hI : gB P f s H locs) (t0 : Nat) {cA : ClassId} {x : vp_A} (he : f a = some (.inl (cA, x))) {ty : FieldType} (ht : (gty P)[t0]? = some (cA, ty)) (hdg : decode cc pc = .ok (.arraylength, 1))
    (kk : W p l e R s m args below meth c H locs cells slots Q (F0 m (pc + 1) ls (.int (nI x.1) :: rest))) : W p l e R s m args below meth c H locs cells slots Q (F0 m pc ls (.ref a :: rest)) := by
  obtain ⟨hX, hH, hS⟩ := hI
  have hK := hX.1
  obtain ⟨L, k0, hL, hP, hD, h0⟩ := gh_open hH he
  exact va_alen S.1 S.2.1 hK hP k0 t0 h0 ht rfl hdg kk
theorem gh_bast (S : CallFix p m c cc nL s args gw own) (hI : gB P f s H locs) (t0 : Nat) {cA : ClassId} {n : Nat} {g : Nat → Int32} (he : f a = some (.inl (cA, n, .inl g))) (ht : (gty P)[t0]? = some (cA, .byte)) {i x : Int32} {j : Nat} (hi : i = nI j) (hj : j < n) (hn : n < 2 ^ 31) (hdg : decode cc pc = .ok (.bastore, 1))
    (kk : ∀ (H1 : Heap) (locs1 : List Loc), gB P (va_up f a (some (.inl (cA, n, .inl (upd g j (x.toInt8.toInt32)))))) s H1 locs1 → W p l e R s m args below meth c H1 locs1 cells slots Q (F0 m (pc + 1) ls rest)) : W p l e R s m args below meth c H locs cells slots Q (F0 m pc ls (.int x :: .int i :: .ref a :: rest)) := by
  subst hi
  obtain ⟨hX, hH, hS⟩ := hI
  have hK := hX.1
  obtain ⟨L, k0, hL, hP, hD, h0⟩ := gh_open hH he
  exact va_bast S.1 S.2.1 hK hP hD hS k0 t0 h0 ht (vp_in_nI hj hn) hdg (fun H1 locs1 hP1 hD1 hS1 => kk H1 locs1 ⟨hX, by
    rw [nI_clamp (by omega)] at hP1 hD1
    exact gh_close hL hD he h0 hP1 hD1, hS1⟩)
theorem gh_iast (S : CallFix p m c cc nL s args gw own) (hI : gB P f s H locs) (t0 : Nat) {cA : ClassId} {n : Nat} {g : Nat → Int32} (he : f a = some (.inl (cA, n, .inl g))) (ht : (gty P)[t0]? = some (cA, .int)) {i x : Int32} {j : Nat} (hi : i = nI j) (hj : j < n) (hn : n < 2 ^ 31) (hdg : decode cc pc = .ok (.iastore, 1))
    (kk : ∀ (H1 : Heap) (locs1 : List Loc), gB P (va_up f a (some (.inl (cA, n, .inl (upd g j x))))) s H1 locs1 → W p l e R s m args below meth c H1 locs1 cells slots Q (F0 m (pc + 1) ls rest)) : W p l e R s m args below meth c H locs cells slots Q (F0 m pc ls (.int x :: .int i :: .ref a :: rest)) := by
  subst hi
  obtain ⟨hX, hH, hS⟩ := hI
  have hK := hX.1
  obtain ⟨L, k0, hL, hP, hD, h0⟩ := gh_open hH he
  exact va_iast S.1 S.2.1 hK hP hD hS k0 t0 h0 ht (vp_in_nI hj hn) hdg (fun H1 locs1 hP1 hD1 hS1 => kk H1 locs1 ⟨hX, by
    rw [nI_clamp (by omega)] at hP1 hD1
    exact gh_close hL hD he h0 hP1 hD1, hS1⟩)
theorem gh_zald (S : CallFix p m c cc nL s args gw own) (hI : gB P f s H locs) (t0 : Nat) {cA : ClassId} {n : Nat} {g : Nat → Int32} (he : f a = some (.inl (cA, n, .inl g))) (ht : (gty P)[t0]? = some (cA, .boolean)) {i : Int32} {j : Nat} (hi : i = nI j) (hj : j < n) (hn : n < 2 ^ 31) (hdg : decode cc pc = .ok (.baload, 1))
    (kk : W p l e R s m args below meth c H locs cells slots Q (F0 m (pc + 1) ls (.int (g j) :: rest))) : W p l e R s m args below meth c H locs cells slots Q (F0 m pc ls (.int i :: .ref a :: rest)) := by
  subst hi
  obtain ⟨hX, hH, hS⟩ := hI
  have hK := hX.1
  obtain ⟨L, k0, hL, hP, hD, h0⟩ := gh_open hH he
  exact va_zald S.1 S.2.1 hK hP k0 t0 h0 ht (vp_in_nI hj hn) hdg (by rw [nI_clamp (by omega)]; exact kk)
theorem gh_zast (S : CallFix p m c cc nL s args gw own) (hI : gB P f s H locs) (t0 : Nat) {cA : ClassId} {n : Nat} {g : Nat → Int32} (he : f a = some (.inl (cA, n, .inl g))) (ht : (gty P)[t0]? = some (cA, .boolean)) {i x : Int32} {j : Nat} (hx : x = 0 ∨ x = 1) (hi : i = nI j) (hj : j < n) (hn : n < 2 ^ 31) (hdg : decode cc pc = .ok (.bastore, 1))
    (kk : ∀ (H1 : Heap) (locs1 : List Loc), gB P (va_up f a (some (.inl (cA, n, .inl (upd g j (x)))))) s H1 locs1 → W p l e R s m args below meth c H1 locs1 cells slots Q (F0 m (pc + 1) ls rest)) : W p l e R s m args below meth c H locs cells slots Q (F0 m pc ls (.int x :: .int i :: .ref a :: rest)) := by
  subst hi
  obtain ⟨hX, hH, hS⟩ := hI
  have hK := hX.1
  obtain ⟨L, k0, hL, hP, hD, h0⟩ := gh_open hH he
  exact va_zast S.1 S.2.1 hK hP hD hS k0 t0 h0 ht (vp_in_nI hj hn) hdg (fun H1 locs1 hP1 hD1 hS1 => kk H1 locs1 ⟨hX, by
    rw [nI_clamp (by omega), show vp_nar .boolean x = x by rcases hx with rfl | rfl <;> rfl] at hP1 hD1
    exact gh_close hL hD he h0 hP1 hD1, hS1⟩)
/-- a reference comes into an array of its class -/
theorem gh_aast (S : CallFix p m c cc nL s args gw own) (hI : gB P f s H locs) (t0 : Nat) {cA : ClassId} {r : vw_C} {n v : Nat} {vs : List Value} {g : Nat → Option Nat} (he : f a = some (.inl (cA, n, .inr (.inr (.inr (.inr g)))))) (ht : (gty P)[t0]? = some (cA, .object r.1)) (hv : f v = some (.inr (ci, vs))) (hc : gcl[ci]? = some r) {i : Int32} {j : Nat} (hi : i = nI j) (hj : j < n) (hn : n < 2 ^ 31) (hdg : decode cc pc = .ok (.aastore, 1))
    (kk : ∀ (H1 : Heap) (locs1 : List Loc), gB P (va_up f a (some (.inl (cA, n, .inr (.inr (.inr (.inr (va_up g j (some v))))))))) s H1 locs1 → W p l e R s m args below meth c H1 locs1 cells slots Q (F0 m (pc + 1) ls rest)) : W p l e R s m args below meth c H locs cells slots Q (F0 m pc ls (.ref v :: .int i :: .ref a :: rest)) := by
  subst hi
  obtain ⟨hX, hH, hS⟩ := hI
  have hK := hX.1
  obtain ⟨L, k0, hL, hP, hD, h0⟩ := gh_open hH he
  obtain ⟨k1, h1⟩ := gh_idx hL hv
  exact va_astq S.1 S.2.1 hK hP hD hS k0 t0 k1 ci h0 ht h1 hc (vp_in_nI hj hn) hdg (fun H1 locs1 hP1 hD1 hS1 => kk H1 locs1 ⟨hX, by
    rw [nI_clamp (by omega)] at hP1 hD1
    exact gh_close hL hD he h0 hP1 hD1, hS1⟩)
/-- a reference comes into an array of a wider class -/
theorem gh_aastO (S : CallFix p m c cc nL s args gw own) (hI : gB P f s H locs) (t0 : Nat) {E : String} {cA : ClassId} {r : vw_C} {n v : Nat} {vs : List Value} {g : Nat → Option Nat} (he : f a = some (.inl (cA, n, .inr (.inr (.inr (.inr g)))))) (ht : (gty P)[t0]? = some (cA, .object E)) (hca : va_Nw (.castable r.1 E) s) (hv : f v = some (.inr (ci, vs))) (hc : gcl[ci]? = some r) {i : Int32} {j : Nat} (hi : i = nI j) (hj : j < n) (hn : n < 2 ^ 31) (hdg : decode cc pc = .ok (.aastore, 1))
    (kk : ∀ (H1 : Heap) (locs1 : List Loc), gB P (va_up f a (some (.inl (cA, n, .inr (.inr (.inr (.inr (va_up g j (some v))))))))) s H1 locs1 → W p l e R s m args below meth c H1 locs1 cells slots Q (F0 m (pc + 1) ls rest)) : W p l e R s m args below meth c H locs cells slots Q (F0 m pc ls (.ref v :: .int i :: .ref a :: rest)) := by
  subst hi
  obtain ⟨hX, hH, hS⟩ := hI
  have hK := hX.1
  obtain ⟨L, k0, hL, hP, hD, h0⟩ := gh_open hH he
  obtain ⟨k1, h1⟩ := gh_idx hL hv
  exact va_astqO S.1 S.2.1 hK hP hD hS k0 t0 k1 ci h0 ht hca h1 hc (vp_in_nI hj hn) hdg (fun H1 locs1 hP1 hD1 hS1 => kk H1 locs1 ⟨hX, by
    rw [nI_clamp (by omega)] at hP1 hD1
    exact gh_close hL hD he h0 hP1 hD1, hS1⟩)
theorem gh_aastN (S : CallFix p m c cc nL s args gw own) (hI : gB P f s H locs) (t0 : Nat) {E : String} {cA : ClassId} {n : Nat} {g : Nat → Option Nat} (he : f a = some (.inl (cA, n, .inr (.inr (.inr (.inr g)))))) (ht : (gty P)[t0]? = some (cA, .object E)) {i : Int32} {j : Nat} (hi : i = nI j) (hj : j < n) (hn : n < 2 ^ 31) (hdg : decode cc pc = .ok (.aastore, 1))
    (kk : ∀ (H1 : Heap) (locs1 : List Loc), gB P (va_up f a (some (.inl (cA, n, .inr (.inr (.inr (.inr (va_up g j none)))))))) s H1 locs1 → W p l e R s m args below meth c H1 locs1 cells slots Q (F0 m (pc + 1) ls rest)) : W p l e R s m args below meth c H locs cells slots Q (F0 m pc ls (.null :: .int i :: .ref a :: rest)) := by
  subst hi
  obtain ⟨hX, hH, hS⟩ := hI
  have hK := hX.1
  obtain ⟨L, k0, hL, hP, hD, h0⟩ := gh_open hH he
  exact va_astqN S.1 S.2.1 hK hP hD hS k0 t0 h0 ht (vp_in_nI hj hn) hdg (fun H1 locs1 hP1 hD1 hS1 => kk H1 locs1 ⟨hX, by
    rw [nI_clamp (by omega)] at hP1 hD1
    exact gh_close hL hD he h0 hP1 hD1, hS1⟩)
/-- a new object -/
theorem gh_new (S : CallFix p m c cc nL s args gw own) (hI : gB P f s H locs) (hc : gcl[ci]? = some (C, T, N)) (hin : ∀ w ∈ u_ws C T N, w ∈ gw) (ty0 : Nat → FieldType) (hty : ∀ k, k < N → parseFieldDescriptor (T k).2.2.1 = some (ty0 k)) (hcl : Cond.classLink own index C ∈ gw) (hinst : Cond.instantiable C N ∈ gw) (hini : Cond.initialized C ∈ gw) {fs : List Value} (hfs : ∀ j, j < N → defaultValue (ty0 j) = vp_V fs j) (hcells : cells + 1 ≤ R.cells) (hslots : slots + N ≤ R.slots) (hdg : decode cc pc = .ok (.new index, 3))
    (kk : ∀ (q : Nat) (H1 : Heap), f q = none → gB P (va_up f q (some (.inr (ci, fs)))) s H1 locs → W p l e R s m args below meth c H1 locs (cells + 1) (slots + N) Q (F0 m (pc + 3) ls (.ref q :: rest))) : W p l e R s m args below meth c H locs cells slots Q (F0 m pc ls rest) := by
  obtain ⟨hX, ⟨L, hL, hP, hD⟩, hS⟩ := hI
  have hK := hX.1
  have hA := hX.2.1
  refine va_new S.1 S.2.1 S.2.2.2.2 hin ty0 hty S.2.2.2.1 (S.2.2.2.2 _ hcl) (S.2.2.2.2 _ hinst) (S.2.2.2.2 _ hini) hK hP hD hS hA hc hfs hcells hslots hdg (fun q H1 hP1 hD1 hS1 => ?_)
  obtain ⟨g1, g2⟩ := gh_push hL hP1 hD1
  exact kk q H1 g2 ⟨hX, g1, hS1⟩
/-- the class of an array of a kind is one -/
theorem gh_cA {cA cB : ClassId} {ty : FieldType} (h1 : va_RA s cA ty) (h2 : va_RA s cB ty) : cA = cB := by
  cases ty with
  | object E =>
    obtain ⟨_, _, -, -, -, h1⟩ := h1
    obtain ⟨_, _, -, -, -, h2⟩ := h2
    exact Option.some.inj (h1.symm.trans h2)
  | _ => exact Option.some.inj (Eq.trans (Eq.symm h1) h2)
theorem gh_newb (S : CallFix p m c cc nL s args gw own) (hI : gB P f s H locs) (t0 : Nat) {cA : ClassId} (ht : (gty P)[t0]? = some (cA, .byte)) (hw : Cond.arrayClass .byte ∈ gw) {i : Int32} {n : Nat} (hi : i = nI n) (hn : n < 2 ^ 20) (hcells : cells + 1 ≤ R.cells) (hslots : slots + n ≤ R.slots) (hdg : decode cc pc = .ok (.newarray .byte, 2))
    (kk : ∀ (q : Nat) (H1 : Heap), f q = none → gB P (va_up f q (some (.inl (cA, n, .inl (fun _ => 0))))) s H1 locs → W p l e R s m args below meth c H1 locs (cells + 1) (slots + n) Q (F0 m (pc + 2) ls (.ref q :: rest))) : W p l e R s m args below meth c H locs cells slots Q (F0 m pc ls (.int i :: rest)) := by
  subst hi
  obtain ⟨hX, ⟨L, hL, hP, hD⟩, hS⟩ := hI
  have hK := hX.1
  have hA := hX.2.1
  refine va_newa (atype := .byte) S.1 S.2.1 (S.2.2.2.2 _ hw) (ty := .byte) rfl hK hP hD hS hA (n := nI n) (N' := n) (a0 := (n, .inl (fun _ => 0))) (fun _ => rfl) (nI_pos (by omega)) (nI_clamp (by omega)) (by show n * 1 ≤ _; omega) hcells hslots hdg (fun q cA' H1 hK1 hP1 hD1 hS1 => ?_)
  have hr := (hK1.2 (gty P).length (cA', .byte) (by rw [List.getElem?_append_right (Nat.le_refl _), Nat.sub_self]; rfl)).2
  have hc : cA' = cA := gh_cA hr (hK.2 t0 _ ht).2
  subst hc
  obtain ⟨g1, g2⟩ := gh_push hL hP1 hD1
  exact kk q H1 g2 ⟨hX, g1, hS1⟩
theorem gh_newz (S : CallFix p m c cc nL s args gw own) (hI : gB P f s H locs) (t0 : Nat) {cA : ClassId} (ht : (gty P)[t0]? = some (cA, .boolean)) (hw : Cond.arrayClass .boolean ∈ gw) {i : Int32} {n : Nat} (hi : i = nI n) (hn : n < 2 ^ 20) (hcells : cells + 1 ≤ R.cells) (hslots : slots + n ≤ R.slots) (hdg : decode cc pc = .ok (.newarray .boolean, 2))
    (kk : ∀ (q : Nat) (H1 : Heap), f q = none → gB P (va_up f q (some (.inl (cA, n, .inl (fun _ => 0))))) s H1 locs → W p l e R s m args below meth c H1 locs (cells + 1) (slots + n) Q (F0 m (pc + 2) ls (.ref q :: rest))) : W p l e R s m args below meth c H locs cells slots Q (F0 m pc ls (.int i :: rest)) := by
  subst hi
  obtain ⟨hX, ⟨L, hL, hP, hD⟩, hS⟩ := hI
  have hK := hX.1
  have hA := hX.2.1
  refine va_newa (atype := .boolean) S.1 S.2.1 (S.2.2.2.2 _ hw) (ty := .boolean) rfl hK hP hD hS hA (n := nI n) (N' := n) (a0 := (n, .inl (fun _ => 0))) (fun _ => rfl) (nI_pos (by omega)) (nI_clamp (by omega)) (by show n * 1 ≤ _; omega) hcells hslots hdg (fun q cA' H1 hK1 hP1 hD1 hS1 => ?_)
  have hr := (hK1.2 (gty P).length (cA', .boolean) (by rw [List.getElem?_append_right (Nat.le_refl _), Nat.sub_self]; rfl)).2
  have hc : cA' = cA := gh_cA hr (hK.2 t0 _ ht).2
  subst hc
  obtain ⟨g1, g2⟩ := gh_push hL hP1 hD1
  exact kk q H1 g2 ⟨hX, g1, hS1⟩
theorem gh_newi (S : CallFix p m c cc nL s args gw own) (hI : gB P f s H locs) (t0 : Nat) {cA : ClassId} (ht : (gty P)[t0]? = some (cA, .int)) (hw : Cond.arrayClass .int ∈ gw) {i : Int32} {n : Nat} (hi : i = nI n) (hn : n < 2 ^ 20) (hcells : cells + 1 ≤ R.cells) (hslots : slots + n ≤ R.slots) (hdg : decode cc pc = .ok (.newarray .int, 2))
    (kk : ∀ (q : Nat) (H1 : Heap), f q = none → gB P (va_up f q (some (.inl (cA, n, .inl (fun _ => 0))))) s H1 locs → W p l e R s m args below meth c H1 locs (cells + 1) (slots + n) Q (F0 m (pc + 2) ls (.ref q :: rest))) : W p l e R s m args below meth c H locs cells slots Q (F0 m pc ls (.int i :: rest)) := by
  subst hi
  obtain ⟨hX, ⟨L, hL, hP, hD⟩, hS⟩ := hI
  have hK := hX.1
  have hA := hX.2.1
  refine va_newa (atype := .int) S.1 S.2.1 (S.2.2.2.2 _ hw) (ty := .int) rfl hK hP hD hS hA (n := nI n) (N' := n) (a0 := (n, .inl (fun _ => 0))) (fun _ => rfl) (nI_pos (by omega)) (nI_clamp (by omega)) (by show n * 4 ≤ _; omega) hcells hslots hdg (fun q cA' H1 hK1 hP1 hD1 hS1 => ?_)
  have hr := (hK1.2 (gty P).length (cA', .int) (by rw [List.getElem?_append_right (Nat.le_refl _), Nat.sub_self]; rfl)).2
  have hc : cA' = cA := gh_cA hr (hK.2 t0 _ ht).2
  subst hc
  obtain ⟨g1, g2⟩ := gh_push hL hP1 hD1
  exact kk q H1 g2 ⟨hX, g1, hS1⟩
theorem gh_newq (S : CallFix p m c cc nL s args gw own) (hI : gB P f s H locs) (t0 : Nat) {cA : ClassId} {E : String} (ht : (gty P)[t0]? = some (cA, .object E)) (hcl : Cond.classLink own index E ∈ gw) (hover : va_AO E s) {i : Int32} {n : Nat} (hi : i = nI n) (hn : n < 2 ^ 20) (hcells : cells + 1 ≤ R.cells) (hslots : slots + n ≤ R.slots) (hdg : decode cc pc = .ok (.anewarray index, 3))
    (kk : ∀ (q : Nat) (H1 : Heap), f q = none → gB P (va_up f q (some (.inl (cA, n, .inr (.inr (.inr (.inr (fun _ => none)))))))) s H1 locs → W p l e R s m args below meth c H1 locs (cells + 1) (slots + n) Q (F0 m (pc + 3) ls (.ref q :: rest))) : W p l e R s m args below meth c H locs cells slots Q (F0 m pc ls (.int i :: rest)) := by
  subst hi
  obtain ⟨hX, ⟨L, hL, hP, hD⟩, hS⟩ := hI
  have hK := hX.1
  have hA := hX.2.1
  refine va_newq S.1 S.2.1 S.2.2.2.1 (S.2.2.2.2 _ hcl) hover hK hP hD hS hA (n := nI n) (N' := n) (nI_pos (by omega)) (nI_clamp (by omega)) (by omega) hcells hslots hdg (fun q cA' H1 hK1 hP1 hD1 hS1 => ?_)
  have hr := (hK1.2 (gty P).length (cA', .object E) (by rw [List.getElem?_append_right (Nat.le_refl _), Nat.sub_self]; rfl)).2
  have hc : cA' = cA := gh_cA hr (hK.2 t0 _ ht).2
  subst hc
  obtain ⟨g1, g2⟩ := gh_push hL hP1 hD1
  exact kk q H1 g2 ⟨hX, g1, hS1⟩
/-- System.arraycopy of bytes -/
theorem gh_copyb (S : CallFix p m c cc nL s args gw own) (hI : gB P f s H locs) (hlsz : ls.size = nL) (hlink : Cond.methodLink own index arraycopyName ∈ gw) (hnat : Cond.native arraycopyName ∈ gw) (hstat : Cond.static arraycopyName ∈ gw) (hini : Cond.initialized "java/lang/System" ∈ gw) (t0 : Nat) {a0 : Nat} {cA : ClassId} {n0 n1 : Nat} {g0 g1 : Nat → Int32} (he0 : f a0 = some (.inl (cA, n0, .inl g0))) (he : f a = some (.inl (cA, n1, .inl g1))) (ht : (gty P)[t0]? = some (cA, .byte))
    {i0 i1 i2 : Int32} {sp dp n : Nat} (h0 : i0 = nI sp) (h1 : i1 = nI dp) (h2 : i2 = nI n) (h4 : sp + n ≤ n0) (h5 : dp + n ≤ n1) (hn0 : n0 < 2 ^ 31) (hn1 : n1 < 2 ^ 31) (hfit : ∀ i, i < n → fits .byte (.int (g0 (sp + i))) = true)
    (hframes : 1 ≤ R.frames) (hlocals : (rest.map fun v => v.category).sum + (nativeFrameWords "java/lang/System" "arraycopy" 5 + 11) ≤ R.locals) (hdg : decode cc pc = .ok (.invokestatic index, 3))
    (kk : ∀ (H1 : Heap) (locs1 : List Loc), gB P (va_up f a (some (.inl (cA, n1, .inl (va_cpy g0 g1 sp dp n))))) s H1 locs1 → W p l e R s m args below meth c H1 locs1 cells slots Q (F0 m (pc + 3) ls rest)) : W p l e R s m args below meth c H locs cells slots Q (F0 m pc ls (.int i2 :: .int i1 :: .ref a :: .int i0 :: .ref a0 :: rest)) := by
  subst h0 h1 h2
  obtain ⟨hX, hH, hS⟩ := hI
  have hK := hX.1
  obtain ⟨L, k0, hL, hP, hD, z0⟩ := gh_open hH he
  obtain ⟨k1, z1⟩ := gh_idx hL he0
  have c0 : (nI sp).toNatClampNeg = sp := nI_clamp (by omega)
  have c1 : (nI dp).toNatClampNeg = dp := nI_clamp (by omega)
  have c2 : (nI n).toNatClampNeg = n := nI_clamp (by omega)
  refine va_copyi S.1 S.2.1 (S.2.2.1.trans hlsz.symm) S.2.2.2.1 (S.2.2.2.2 _ hlink) (S.2.2.2.2 _ hnat) (S.2.2.2.2 _ hstat) (S.2.2.2.2 _ hini) hK hP hD hS k1 k0 t0 t0 z1 z0 ht ht rfl (nI_pos (by omega)) (nI_pos (by omega)) (nI_pos (by omega)) (by rw [c0, c2]; exact h4) (by rw [c1, c2]; exact h5) (by rw [c0, c2]; exact hfit) hframes hlocals hdg (fun H1 locs1 hP1 hD1 hS1 => ?_)
  rw [c0, c1, c2] at hP1 hD1
  exact kk H1 locs1 ⟨hX, gh_close hL hD he z0 hP1 hD1, hS1⟩
theorem gh_any {E : String} {r : vw_C} (hI : gB P f s H locs) {fs : List Value} (he : f a = some (.inr (ci, fs))) (hc : gcl[ci]? = some r) (hca : va_Nw (.castable r.1 E) s) : va_Any E s H a := by
  obtain ⟨hX, hH, hS⟩ := hI
  have hK := hX.1
  obtain ⟨L, k0, hL, hP, hD, h0⟩ := gh_open hH he
  exact va_rAny hK hP h0 hc (vb_asgC hca)
/-- System.arraycopy of references, within one array or between two of a kind -/
theorem gh_copyq (S : CallFix p m c cc nL s args gw own) (hI : gB P f s H locs) (hlsz : ls.size = nL) (hlink : Cond.methodLink own index arraycopyName ∈ gw) (hnat : Cond.native arraycopyName ∈ gw) (hstat : Cond.static arraycopyName ∈ gw) (hini : Cond.initialized "java/lang/System" ∈ gw) (t0 : Nat) {a0 : Nat} {cA : ClassId} {E : String} {n0 n1 : Nat} {g0 g1 : Nat → Option Nat} (he0 : f a0 = some (.inl (cA, n0, .inr (.inr (.inr (.inr g0)))))) (he : f a = some (.inl (cA, n1, .inr (.inr (.inr (.inr g1)))))) (ht : (gty P)[t0]? = some (cA, .object E))
    {i0 i1 i2 : Int32} {sp dp n : Nat} (h0 : i0 = nI sp) (h1 : i1 = nI dp) (h2 : i2 = nI n) (h4 : sp + n ≤ n0) (h5 : dp + n ≤ n1) (hn0 : n0 < 2 ^ 31) (hn1 : n1 < 2 ^ 31) (hel : ∀ i : Nat, i < n → ∀ y : Nat, g0 (sp + i) = some y → va_Any E s H y)
    (hframes : 1 ≤ R.frames) (hlocals : (rest.map fun v => v.category).sum + (nativeFrameWords "java/lang/System" "arraycopy" 5 + 11) ≤ R.locals) (hdg : decode cc pc = .ok (.invokestatic index, 3))
    (kk : ∀ (H1 : Heap) (locs1 : List Loc), gB P (va_up f a (some (.inl (cA, n1, .inr (.inr (.inr (.inr (va_cpy g0 g1 sp dp n)))))))) s H1 locs1 → W p l e R s m args below meth c H1 locs1 cells slots Q (F0 m (pc + 3) ls rest)) : W p l e R s m args below meth c H locs cells slots Q (F0 m pc ls (.int i2 :: .int i1 :: .ref a :: .int i0 :: .ref a0 :: rest)) := by
  subst h0 h1 h2
  obtain ⟨hX, hH, hS⟩ := hI
  have hK := hX.1
  obtain ⟨L, k0, hL, hP, hD, z0⟩ := gh_open hH he
  obtain ⟨k1, z1⟩ := gh_idx hL he0
  have c0 : (nI sp).toNatClampNeg = sp := nI_clamp (by omega)
  have c1 : (nI dp).toNatClampNeg = dp := nI_clamp (by omega)
  have c2 : (nI n).toNatClampNeg = n := nI_clamp (by omega)
  refine va_copyM S.1 S.2.1 (S.2.2.1.trans hlsz.symm) S.2.2.2.1 (S.2.2.2.2 _ hlink) (S.2.2.2.2 _ hnat) (S.2.2.2.2 _ hstat) (S.2.2.2.2 _ hini) hK hP hD hS k1 k0 t0 t0 z1 z0 ht ht (nI_pos (by omega)) (nI_pos (by omega)) (nI_pos (by omega)) (by rw [c0, c2]; exact h4) (by rw [c1, c2]; exact h5) (by rw [c0, c2]; exact hel) hframes hlocals hdg (fun H1 locs1 hP1 hD1 hS1 => ?_)
  rw [c0, c1, c2] at hP1 hD1
  exact kk H1 locs1 ⟨hX, gh_close hL hD he z0 hP1 hD1, hS1⟩
theorem gh_recv {q : vw_C} {fs : List Value} (hI : gB P f s H locs) (hc : gcl[ci]? = some q) (he : f a = some (.inr (ci, fs))) : ∃ cell : Cell, H[a]? = some cell ∧ cell.vm.isStatics = false ∧ s.vm.findClass q.1 = some cell.cls := by
  obtain ⟨hX, hH, hS⟩ := hI
  have hK := hX.1
  obtain ⟨L, k0, hL, hP, hD, h0⟩ := gh_open hH he
  exact va_recv hK hP hc h0
end GHR
end
section
/-! CONTRACTS over the ghost heap, their opening, their ends, their calls -/
def grm (d mc ms : Nat) : Room := { frames := d, cells := mc, slots := ms, locals := 40 * d }
def gQv (P : gPar) (post : gM → Prop) : Array Value → State → Outcome → State → Prop := va_Qv post (gS P) (gA P)
def gQi (P : gPar) (post : Int32 → gM → Prop) : Array Value → State → Outcome → State → Prop := va_Qi post (gS P) (gA P)
def gQq (P : gPar) (post : Option Nat → gM → Prop) : Array Value → State → Outcome → State → Prop := va_Qq post (gS P) (gA P)
def gC (l : Launch) (P : gPar) (y : MethodName) (b : ByteArray) (maxL : Nat) (ret : Option FieldType) (d mc ms : Nat) (av : List Value) (f : gM) (Qc : Array Value → State → Outcome → State → Prop) : Prop :=
  Met l y (.code y b maxL ret :: gw) (grm d mc ms) (va_Pc av (gS P f)) Qc mc ms (gA P)
theorem gC_of {l : Launch} {P : gPar} {y : MethodName} {b : ByteArray} {maxL : Nat} {ret : Option FieldType} {d mc ms : Nat} {av : List Value} {f : gM} {Qc : Array Value → State → Outcome → State → Prop} (hy : plainName y.cls = true) (hsz : (lg_sl av).length ≤ maxL)
    (body : ∀ (p : Program) (e : Env) (s : State) (m : MethodId) (args : Array Value) (below : List Frame) (meth : Method) (c : Code), CallFix p m c b maxL s args gw y.cls → meth.sig.returnType = ret → meth.locks = false → meth.name = y.name → ∀ (H : Heap) (locs : List Loc), gB P f s H locs →
      ∀ ls : Array Slot, lv_has ls maxL (lv_args 0 av) → W p l e (grm d mc ms) s m args below meth c H locs 0 0 (MQ below Qc args s mc ms (gA P)) (F0 m 0 ls [])) : gC l P y b maxL ret d mc ms av f Qc := by
  refine Met.ofW (cc := b) (maxL := maxL) (ret := ret) hy rfl ?_
  intro p e s m args below meth c s₁ B hml hv
  obtain ⟨rfl, hX, hH⟩ := hv
  have hts := atoms_spec (ws := .code y b maxL ret :: gw) B.pre
  have hown : s.vm.findClass y.cls = some m.cls := findClass_of_methodNamed B.named
  have hin : meth.name = y.name := (name_of_methodNamed B.named B.method).1
  have hl := lv_entry av (n := maxL) hsz
  have hB : gB P f s s.heap [] := ⟨hX, hH, va_S.rf⟩
  have K := body p e s m av.toArray below meth c ⟨B.exec, B.bytes, hml, hown, fun w h => hts w (List.mem_cons_of_mem _ h)⟩ B.returns B.notSynchronized hin _ _ hB _ hl
  rw [lg_entry_eq]
  exact K
/-- what a method's words say for its callers -/
def gV (y : MethodName) (b : ByteArray) (maxL : Nat) (ret : Option FieldType) (n : Nat) : Prop :=
  Cond.code y b maxL ret ∈ gw ∧ Cond.instanceMethod y ∈ gw ∧ Cond.selects y.cls y y ∈ gw ∧ Cond.initialized y.cls ∈ gw ∧ y.cls ≠ "java/lang/invoke/MethodHandle" ∧ y.cls ≠ "java/lang/invoke/VarHandle" ∧ (parseMethodDescriptor y.desc).map (fun d => d.parameters.length) = some n
def gVs (y : MethodName) (b : ByteArray) (maxL : Nat) (ret : Option FieldType) (n : Nat) : Prop :=
  Cond.code y b maxL ret ∈ gw ∧ Cond.static y ∈ gw ∧ Cond.initialized y.cls ∈ gw ∧ y.cls ≠ "java/lang/invoke/MethodHandle" ∧ y.cls ≠ "java/lang/invoke/VarHandle" ∧ (parseMethodDescriptor y.desc).map (fun d => d.parameters.length) = some n
def gVi (y : MethodName) (b : ByteArray) (maxL : Nat) (n : Nat) : Prop :=
  Cond.code y b maxL none ∈ gw ∧ Cond.instanceMethod y ∈ gw ∧ Cond.initialized y.cls ∈ gw ∧ y.name = "<init>" ∧ y.cls ≠ "java/lang/invoke/MethodHandle" ∧ y.cls ≠ "java/lang/invoke/VarHandle" ∧ (parseMethodDescriptor y.desc).map (fun d => d.parameters.length) = some n
theorem gw_good {y : MethodName} {b : ByteArray} {maxL : Nat} {ret : Option FieldType} (h : Cond.code y b maxL ret ∈ gw) : GoodIn gw (Cond.code y b maxL ret :: gw) := by
  intro w hw
  rcases List.mem_cons.mp hw with rfl | hw
  · exact ⟨h, good_of_word (gw_ok h)⟩
  · exact ⟨hw, good_of_word (gw_ok hw)⟩
section GCL
variable {p : Program} {l : Launch} {e : Env} {R : Room} {s : State} {m : MethodId} {args : Array Value} {below : List Frame} {meth : Method} {c : Code} {H : Heap} {locs : List Loc} {cells slots : Nat} {Q : State → Prop}
variable {cc : ByteArray} {pc : Nat} {ls : Array Slot} {rest st0 : List Value} {P : gPar} {a : Nat} {f : gM} {own : String} {ci index nL : Nat} {y : MethodName} {b : ByteArray} {maxL n d mc ms : Nat} {ret : Option FieldType} {As : List Value} {q : vw_C} {fs : List Value}
theorem gc_cw (S : CallFix p m c cc nL s args gw own) (hk : gV y b maxL ret n) (hlink : Cond.methodLink own index y ∈ gw) (hd : d + 1 ≤ R.frames ∧ 8 + (maxL + 11) + 40 * d ≤ R.locals) : CallW R s args own y.cls index y b maxL ret (.code y b maxL ret :: gw) (grm d mc ms) mc ms n :=
  ⟨callB_of n S.2.2.2.2 (gw_good hk.1) rfl rfl rfl (S.2.2.2.2 _ hk.2.2.2.1) (S.2.2.2.2 _ hlink) hk.2.2.2.2 hd, S.2.2.2.2 _ hk.2.1, S.2.2.2.2 _ hk.2.2.1⟩
theorem gc_pv (hI : gB P f s H locs) (hc : gcl[ci]? = some q) (hq : q.1 = y.cls) (he : f a = some (.inr (ci, fs))) : PreV s H y.cls a (va_Pc (.ref a :: As) (gS P f)) As := by
  obtain ⟨hX, hH, hS⟩ := id hI
  refine ⟨fun _ U g mk q => ⟨q.1, q.2.1.call, q.2.2⟩, ?_, fun U hU hW => ⟨rfl, hX.to hS hU hW, by rw [hU]; exact hH⟩⟩
  rw [← hq]
  exact gh_recv hI hc he
theorem gc_ps (hI : gB P f s H locs) : PreS s H (va_Pc As (gS P f)) As := by
  obtain ⟨hX, hH, hS⟩ := hI
  exact ⟨fun _ U g mk q => ⟨q.1, q.2.1.call, q.2.2⟩, fun U hU hW => ⟨rfl, hX.to hS hU hW, by rw [hU]; exact hH⟩⟩
theorem gc_Vi {post : Int32 → gM → Prop} (S : CallFix p m c cc nL s args gw own) (hI : gB P f s H locs) (hM : gC l P y b maxL ret d mc ms (.ref a :: As) f (gQi P post)) (hk : gV y b maxL ret n) (hlink : Cond.methodLink own index y ∈ gw) (he : f a = some (.inr (ci, fs))) (hc : gcl[ci]? = some q) (hq : q.1 = y.cls) (hn : As.length = n) (hls : ls.size = nL) (hst : st0 = As.reverse ++ .ref a :: rest) (hrest : (rest.map fun v => v.category).sum ≤ 8) (hd : d + 1 ≤ R.frames ∧ 8 + (maxL + 11) + 40 * d ≤ R.locals) (hf : cells + mc ≤ R.cells ∧ slots + ms ≤ R.slots) (hdg : decode cc pc = .ok (.invokevirtual index, 3))
    (kk : ∀ (r : Int32) (f1 : gM) (H1 : Heap) (locs1 : List Loc), post r f1 → gB P f1 s H1 locs1 → W p l e R s m args below meth c H1 locs1 (cells + mc) (slots + ms) Q (F0 m (pc + 3) ls (.int r :: rest))) : W p l e R s m args below meth c H locs cells slots Q (F0 m pc ls st0) :=
  va_calli (va_runV S hM (gc_cw S hk hlink hd) (gc_pv hI hc hq he) rfl hn hls hst (lv_room hrest) hdg hf) hI.2.2 (fun _ _ h => h) (fun _ h => h) (fun r u t H1 locs1 ht _ hw hB _ _ hS1 => kk r u H1 locs1 hw ⟨hI.1, by rw [← ht]; exact hB.2, hS1⟩)
theorem gc_Vv {post : gM → Prop} (S : CallFix p m c cc nL s args gw own) (hI : gB P f s H locs) (hM : gC l P y b maxL ret d mc ms (.ref a :: As) f (gQv P post)) (hk : gV y b maxL ret n) (hlink : Cond.methodLink own index y ∈ gw) (he : f a = some (.inr (ci, fs))) (hc : gcl[ci]? = some q) (hq : q.1 = y.cls) (hn : As.length = n) (hls : ls.size = nL) (hst : st0 = As.reverse ++ .ref a :: rest) (hrest : (rest.map fun v => v.category).sum ≤ 8) (hd : d + 1 ≤ R.frames ∧ 8 + (maxL + 11) + 40 * d ≤ R.locals) (hf : cells + mc ≤ R.cells ∧ slots + ms ≤ R.slots) (hdg : decode cc pc = .ok (.invokevirtual index, 3))
    (kk : ∀ (f1 : gM) (H1 : Heap) (locs1 : List Loc), post f1 → gB P f1 s H1 locs1 → W p l e R s m args below meth c H1 locs1 (cells + mc) (slots + ms) Q (F0 m (pc + 3) ls rest)) : W p l e R s m args below meth c H locs cells slots Q (F0 m pc ls st0) :=
  va_callv (va_runV S hM (gc_cw S hk hlink hd) (gc_pv hI hc hq he) rfl hn hls hst (lv_room hrest) hdg hf) hI.2.2 (fun _ _ h => h) (fun _ h => h) (fun u t H1 locs1 ht _ hw hB _ _ hS1 => kk u H1 locs1 hw ⟨hI.1, by rw [← ht]; exact hB.2, hS1⟩)
theorem gc_Vq {post : Option Nat → gM → Prop} (S : CallFix p m c cc nL s args gw own) (hI : gB P f s H locs) (hM : gC l P y b maxL ret d mc ms (.ref a :: As) f (gQq P post)) (hk : gV y b maxL ret n) (hlink : Cond.methodLink own index y ∈ gw) (he : f a = some (.inr (ci, fs))) (hc : gcl[ci]? = some q) (hq : q.1 = y.cls) (hn : As.length = n) (hls : ls.size = nL) (hst : st0 = As.reverse ++ .ref a :: rest) (hrest : (rest.map fun v => v.category).sum ≤ 8) (hd : d + 1 ≤ R.frames ∧ 8 + (maxL + 11) + 40 * d ≤ R.locals) (hf : cells + mc ≤ R.cells ∧ slots + ms ≤ R.slots) (hdg : decode cc pc = .ok (.invokevirtual index, 3))
    (kk : ∀ (r : Option Nat) (f1 : gM) (H1 : Heap) (locs1 : List Loc), post r f1 → gB P f1 s H1 locs1 → W p l e R s m args below meth c H1 locs1 (cells + mc) (slots + ms) Q (F0 m (pc + 3) ls (va_rf r :: rest))) : W p l e R s m args below meth c H locs cells slots Q (F0 m pc ls st0) :=
  va_callq (va_runV S hM (gc_cw S hk hlink hd) (gc_pv hI hc hq he) rfl hn hls hst (lv_room hrest) hdg hf) hI.2.2 (fun _ _ h => h) (fun _ h => h) (fun r u t H1 locs1 ht _ hw hB _ _ hS1 => kk r u H1 locs1 hw ⟨hI.1, by rw [← ht]; exact hB.2, hS1⟩)
/-- the answer is a cell -/
theorem gc_Vr {post : Nat → gM → Prop} (S : CallFix p m c cc nL s args gw own) (hI : gB P f s H locs) (hM : gC l P y b maxL ret d mc ms (.ref a :: As) f (gQq P (fun r f1 => ∃ x, r = some x ∧ post x f1))) (hk : gV y b maxL ret n) (hlink : Cond.methodLink own index y ∈ gw) (he : f a = some (.inr (ci, fs))) (hc : gcl[ci]? = some q) (hq : q.1 = y.cls) (hn : As.length = n) (hls : ls.size = nL) (hst : st0 = As.reverse ++ .ref a :: rest) (hrest : (rest.map fun v => v.category).sum ≤ 8) (hd : d + 1 ≤ R.frames ∧ 8 + (maxL + 11) + 40 * d ≤ R.locals) (hf : cells + mc ≤ R.cells ∧ slots + ms ≤ R.slots) (hdg : decode cc pc = .ok (.invokevirtual index, 3))
    (kk : ∀ (x : Nat) (f1 : gM) (H1 : Heap) (locs1 : List Loc), post x f1 → gB P f1 s H1 locs1 → W p l e R s m args below meth c H1 locs1 (cells + mc) (slots + ms) Q (F0 m (pc + 3) ls (.ref x :: rest))) : W p l e R s m args below meth c H locs cells slots Q (F0 m pc ls st0) :=
  gc_Vq S hI hM hk hlink he hc hq hn hls hst hrest hd hf hdg (fun r f1 H1 locs1 hp hI1 => by
    obtain ⟨x, rfl, hp⟩ := hp
    exact kk x f1 H1 locs1 hp hI1)
theorem gc_Iv {post : gM → Prop} (S : CallFix p m c cc nL s args gw own) (hI : gB P f s H locs) (hM : gC l P y b maxL none d mc ms (.ref a :: As) f (gQv P post)) (hk : gVi y b maxL n) (hlink : Cond.methodLink own index y ∈ gw) (hn : As.length = n) (hls : ls.size = nL) (hst : st0 = As.reverse ++ .ref a :: rest) (hrest : (rest.map fun v => v.category).sum ≤ 8) (hd : d + 1 ≤ R.frames ∧ 8 + (maxL + 11) + 40 * d ≤ R.locals) (hf : cells + mc ≤ R.cells ∧ slots + ms ≤ R.slots) (hdg : decode cc pc = .ok (.invokespecial index, 3))
    (kk : ∀ (f1 : gM) (H1 : Heap) (locs1 : List Loc), post f1 → gB P f1 s H1 locs1 → W p l e R s m args below meth c H1 locs1 (cells + mc) (slots + ms) Q (F0 m (pc + 3) ls rest)) : W p l e R s m args below meth c H locs cells slots Q (F0 m pc ls st0) :=
  va_callv (va_runI S hM (cwI n S.2.2.2.2 (gw_good hk.1) rfl rfl rfl (S.2.2.2.2 _ hk.2.2.1) (S.2.2.2.2 _ hlink) (S.2.2.2.2 _ hk.2.1) hk.2.2.2.1 hk.2.2.2.2 hd) (gc_ps hI) rfl hn hls hst (lv_room hrest) hdg hf) hI.2.2 (fun _ _ h => h) (fun _ h => h) (fun u t H1 locs1 ht _ hw hB _ _ hS1 => kk u H1 locs1 hw ⟨hI.1, by rw [← ht]; exact hB.2, hS1⟩)
theorem gc_sw (S : CallFix p m c cc nL s args gw own) (hk : gVs y b maxL ret n) (hlink : Cond.methodLink own index y ∈ gw) (hd : d + 1 ≤ R.frames ∧ 8 + (maxL + 11) + 40 * d ≤ R.locals) : CallB R s args own index y b maxL ret (.code y b maxL ret :: gw) (grm d mc ms) mc ms n ∧ (Cond.static y).before args s = true :=
  ⟨callB_of n S.2.2.2.2 (gw_good hk.1) rfl rfl rfl (S.2.2.2.2 _ hk.2.2.1) (S.2.2.2.2 _ hlink) hk.2.2.2 hd, S.2.2.2.2 _ hk.2.1⟩
theorem gc_Si {post : Int32 → gM → Prop} (S : CallFix p m c cc nL s args gw own) (hI : gB P f s H locs) (hM : gC l P y b maxL ret d mc ms As f (gQi P post)) (hk : gVs y b maxL ret n) (hlink : Cond.methodLink own index y ∈ gw) (hn : As.length = n) (hls : ls.size = nL) (hst : st0 = As.reverse ++ rest) (hrest : (rest.map fun v => v.category).sum ≤ 8) (hd : d + 1 ≤ R.frames ∧ 8 + (maxL + 11) + 40 * d ≤ R.locals) (hf : cells + mc ≤ R.cells ∧ slots + ms ≤ R.slots) (hdg : decode cc pc = .ok (.invokestatic index, 3))
    (kk : ∀ (r : Int32) (f1 : gM) (H1 : Heap) (locs1 : List Loc), post r f1 → gB P f1 s H1 locs1 → W p l e R s m args below meth c H1 locs1 (cells + mc) (slots + ms) Q (F0 m (pc + 3) ls (.int r :: rest))) : W p l e R s m args below meth c H locs cells slots Q (F0 m pc ls st0) :=
  va_calli (va_runS S hM (gc_sw S hk hlink hd) (gc_ps hI) rfl hn hls hst (lv_room hrest) hdg hf) hI.2.2 (fun _ _ h => h) (fun _ h => h) (fun r u t H1 locs1 ht _ hw hB _ _ hS1 => kk r u H1 locs1 hw ⟨hI.1, by rw [← ht]; exact hB.2, hS1⟩)
theorem gc_Sv {post : gM → Prop} (S : CallFix p m c cc nL s args gw own) (hI : gB P f s H locs) (hM : gC l P y b maxL ret d mc ms As f (gQv P post)) (hk : gVs y b maxL ret n) (hlink : Cond.methodLink own index y ∈ gw) (hn : As.length = n) (hls : ls.size = nL) (hst : st0 = As.reverse ++ rest) (hrest : (rest.map fun v => v.category).sum ≤ 8) (hd : d + 1 ≤ R.frames ∧ 8 + (maxL + 11) + 40 * d ≤ R.locals) (hf : cells + mc ≤ R.cells ∧ slots + ms ≤ R.slots) (hdg : decode cc pc = .ok (.invokestatic index, 3))
    (kk : ∀ (f1 : gM) (H1 : Heap) (locs1 : List Loc), post f1 → gB P f1 s H1 locs1 → W p l e R s m args below meth c H1 locs1 (cells + mc) (slots + ms) Q (F0 m (pc + 3) ls rest)) : W p l e R s m args below meth c H locs cells slots Q (F0 m pc ls st0) :=
  va_callv (va_runS S hM (gc_sw S hk hlink hd) (gc_ps hI) rfl hn hls hst (lv_room hrest) hdg hf) hI.2.2 (fun _ _ h => h) (fun _ h => h) (fun u t H1 locs1 ht _ hw hB _ _ hS1 => kk u H1 locs1 hw ⟨hI.1, by rw [← ht]; exact hB.2, hS1⟩)
theorem gc_Sr {post : Nat → gM → Prop} (S : CallFix p m c cc nL s args gw own) (hI : gB P f s H locs) (hM : gC l P y b maxL ret d mc ms As f (gQq P (fun r f1 => ∃ x, r = some x ∧ post x f1))) (hk : gVs y b maxL ret n) (hlink : Cond.methodLink own index y ∈ gw) (hn : As.length = n) (hls : ls.size = nL) (hst : st0 = As.reverse ++ rest) (hrest : (rest.map fun v => v.category).sum ≤ 8) (hd : d + 1 ≤ R.frames ∧ 8 + (maxL + 11) + 40 * d ≤ R.locals) (hf : cells + mc ≤ R.cells ∧ slots + ms ≤ R.slots) (hdg : decode cc pc = .ok (.invokestatic index, 3))
    (kk : ∀ (x : Nat) (f1 : gM) (H1 : Heap) (locs1 : List Loc), post x f1 → gB P f1 s H1 locs1 → W p l e R s m args below meth c H1 locs1 (cells + mc) (slots + ms) Q (F0 m (pc + 3) ls (.ref x :: rest))) : W p l e R s m args below meth c H locs cells slots Q (F0 m pc ls st0) :=
  va_callq (va_runS S hM (gc_sw S hk hlink hd) (gc_ps hI) rfl hn hls hst (lv_room hrest) hdg hf) hI.2.2 (fun _ _ h => h) (fun _ h => h) (fun r u t H1 locs1 ht _ hw hB _ _ hS1 => by
    obtain ⟨x, rfl, hp⟩ := hw
    exact kk x u H1 locs1 hp ⟨hI.1, by rw [← ht]; exact hB.2, hS1⟩)
/-- ends -/
theorem gr_i {post : Int32 → gM → Prop} {v : Int32} (S : CallFix p m c cc nL s args gw own) (hr : meth.sig.returnType = some .int) (hlk : meth.locks = false) (hI : gB P f s H locs) (hp : post v f) (hdg : decode cc pc = .ok (.ireturn, 1)) : W p l e R s m args below meth c H locs cells slots (MQ below (gQi P post) args s cells slots (gA P)) (F0 m pc ls [.int v]) :=
  W.iret S.1 S.2.1 hr (fun t ht hW => ⟨⟨v, f, rfl, hp, hI.1.to hI.2.2 ht hW, by rw [ht]; exact hI.2.1⟩, hI.2.2.F ht⟩) hI.2.2.2.2 hdg hlk
theorem gr_z {post : Int32 → gM → Prop} {v : Int32} (S : CallFix p m c cc nL s args gw own) (hr : meth.sig.returnType = some .boolean) (hlk : meth.locks = false) (hI : gB P f s H locs) (hv : v = 0 ∨ v = 1) (hp : post v f) (hdg : decode cc pc = .ok (.ireturn, 1)) : W p l e R s m args below meth c H locs cells slots (MQ below (gQi P post) args s cells slots (gA P)) (F0 m pc ls [.int v]) :=
  W.zret S.1 S.2.1 hr (by rcases hv with rfl | rfl <;> rfl) (fun t ht hW => ⟨⟨v, f, rfl, hp, hI.1.to hI.2.2 ht hW, by rw [ht]; exact hI.2.1⟩, hI.2.2.F ht⟩) hI.2.2.2.2 hdg hlk
theorem gr_v {post : gM → Prop} (S : CallFix p m c cc nL s args gw own) (hr : meth.sig.returnType = none) (hlk : meth.locks = false) (hI : gB P f s H locs) (hp : post f) (hdg : decode cc pc = .ok (.return_, 1)) : W p l e R s m args below meth c H locs cells slots (MQ below (gQv P post) args s cells slots (gA P)) (F0 m pc ls []) :=
  W.vret S.1 S.2.1 hr (fun t ht hW => ⟨⟨f, rfl, hp, hI.1.to hI.2.2 ht hW, by rw [ht]; exact hI.2.1⟩, hI.2.2.F ht⟩) hI.2.2.2.2 hdg hlk
theorem gr_q {post : Option Nat → gM → Prop} {r : Option Nat} {rt : FieldType} (S : CallFix p m c cc nL s args gw own) (hr : meth.sig.returnType = some rt) (hrt : (∃ n, rt = .object n) ∨ ∃ t, rt = .array t) (hlk : meth.locks = false) (hI : gB P f s H locs) (hp : post r f) (hdg : decode cc pc = .ok (.areturn, 1)) : W p l e R s m args below meth c H locs cells slots (MQ below (gQq P post) args s cells slots (gA P)) (F0 m pc ls [va_rf r]) :=
  W.aret S.1 S.2.1 hr hrt (va_rf_or r) (fun t ht hW => ⟨⟨r, f, rfl, hp, hI.1.to hI.2.2 ht hW, by rw [ht]; exact hI.2.1⟩, hI.2.2.F ht⟩) hI.2.2.2.2 hdg hlk
theorem gr_r {post : Nat → gM → Prop} {x : Nat} {rt : FieldType} (S : CallFix p m c cc nL s args gw own) (hr : meth.sig.returnType = some rt) (hrt : (∃ n, rt = .object n) ∨ ∃ t, rt = .array t) (hlk : meth.locks = false) (hI : gB P f s H locs) (hp : post x f) (hdg : decode cc pc = .ok (.areturn, 1)) : W p l e R s m args below meth c H locs cells slots (MQ below (gQq P (fun r f1 => ∃ x, r = some x ∧ post x f1)) args s cells slots (gA P)) (F0 m pc ls [.ref x]) :=
  gr_q (r := some x) S hr hrt hlk hI ⟨x, rfl, hp⟩ hdg
/-- Object's constructor -/
theorem gc_obj (S : CallFix p m c cc nL s args gw own) (hlink : Cond.methodLink own index y_Obj_init ∈ gw) (hls : ls.size = nL) (hdg : decode cc pc = .ok (.invokespecial index, 3)) (hf : 1 ≤ R.frames) (hrest : (rest.map fun v => v.category).sum + 12 ≤ R.locals)
    (kk : W p l e R s m args below meth c H locs cells slots Q (F0 m (pc + 3) ls rest)) : W p l e R s m args below meth c H locs cells slots Q (F0 m pc ls (.ref a :: rest)) :=
  W.objInit S.1 S.2.1 S.2.2.2.1 (S.2.2.2.2 _ hlink) (S.2.2.2.2 _ wi_23) (S.2.2.2.2 _ wi_24) rfl (by rw [S.2.2.1]; exact hls) rfl hdg hf (by show 2 * 0 + _ + 12 ≤ _; omega) kk
theorem gc_max (S : CallFix p m c cc nL s args gw own) (hlink : Cond.methodLink own index y_Math_max ∈ gw) (hls : ls.size = nL) (hdg : decode cc pc = .ok (.invokestatic index, 3)) {x z : Nat} (hx : x < 2 ^ 31) (hz : z < 2 ^ 31) (hf : 1 ≤ R.frames) (hrest : (rest.map fun v => v.category).sum + 13 ≤ R.locals) (h1 : cells ≤ R.cells) (h2 : slots ≤ R.slots)
    (kk : W p l e R s m args below meth c H locs cells slots Q (F0 m (pc + 3) ls (.int (nI (max x z)) :: rest))) : W p l e R s m args below meth c H locs cells slots Q (F0 m pc ls (.int (nI z) :: .int (nI x) :: rest)) := by
  refine va_mmax S.1 S.2.1 (S.2.2.1.trans hls.symm) S.2.2.2.1 (S.2.2.2.2 _ hlink) (S.2.2.2.2 _ wi_230) (S.2.2.2.2 _ wi_12) (S.2.2.2.2 _ wi_231) hf hrest h1 h2 hdg ?_
  have e1 : (if nI x < nI z then nI z else nI x) = nI (max x z) := by
    by_cases h : x < z
    · rw [if_pos (nI_lt h hz), Nat.max_eq_right (Nat.le_of_lt h)]
    · rw [if_neg (nI_nlt (by omega) hx), Nat.max_eq_left (by omega)]
  rw [e1]
  exact kk
theorem gc_min (S : CallFix p m c cc nL s args gw own) (hlink : Cond.methodLink own index y_Math_min ∈ gw) (hls : ls.size = nL) (hdg : decode cc pc = .ok (.invokestatic index, 3)) {x z : Nat} (hx : x < 2 ^ 31) (hz : z < 2 ^ 31) (hf : 1 ≤ R.frames) (hrest : (rest.map fun v => v.category).sum + 13 ≤ R.locals) (h1 : cells ≤ R.cells) (h2 : slots ≤ R.slots)
    (kk : W p l e R s m args below meth c H locs cells slots Q (F0 m (pc + 3) ls (.int (nI (min x z)) :: rest))) : W p l e R s m args below meth c H locs cells slots Q (F0 m pc ls (.int (nI z) :: .int (nI x) :: rest)) := by
  refine va_mmin S.1 S.2.1 (S.2.2.1.trans hls.symm) S.2.2.2.1 (S.2.2.2.2 _ hlink) (S.2.2.2.2 _ wi_166) (S.2.2.2.2 _ wi_12) (S.2.2.2.2 _ wi_167) hf hrest h1 h2 hdg ?_
  have e1 : (if nI z < nI x then nI z else nI x) = nI (min x z) := by
    by_cases h : z < x
    · rw [if_pos (nI_lt h hx), Nat.min_eq_right (Nat.le_of_lt h)]
    · rw [if_neg (nI_nlt (by omega) hz), Nat.min_eq_left (by omega)]
  rw [e1]
  exact kk
end GCL
end
section
/-! the frame of the ghost heap: what was known of cells outside l is still so -/
def gFr (f f1 : gM) (l : List Nat) : Prop := ∀ q v, f q = some v → q ∉ l → f1 q = some v
theorem gFr.rf {f : gM} {l : List Nat} : gFr f f l := fun _ _ h _ => h
theorem gFr.upA {f f1 : gM} {l : List Nat} {a : Nat} {x : Option va_E} (ha : a ∈ l) (h : gFr f f1 l) : gFr f (va_up f1 a x) l := fun q v hq hl => by
  have hne : q ≠ a := fun e => hl (by rw [e]; exact ha)
  rw [va_up_ne _ _ hne]
  exact h q v hq hl
theorem gFr.upN {f f1 : gM} {l : List Nat} {a : Nat} {x : Option va_E} (hn : f1 a = none) (h : gFr f f1 l) : gFr f (va_up f1 a x) l := fun q v hq hl => by
  have h1 := h q v hq hl
  have hne : q ≠ a := fun e => by rw [e, hn] at h1; cases h1
  rw [va_up_ne _ _ hne]
  exact h1
theorem gFr.call {f f1 f2 : gM} {l l1 : List Nat} (h : gFr f f1 l) (h1 : gFr f1 f2 l1) (hs : ∀ q ∈ l1, q ∈ l ∨ f q = none) : gFr f f2 l := fun q v hq hl => h1 q v (h q v hq hl) (fun z => (hs q z).elim hl (fun e => by rw [hq] at e; cases e))
theorem gFr.mono {f f1 : gM} {l l1 : List Nat} (h : gFr f f1 l) (hs : ∀ q ∈ l, q ∈ l1) : gFr f f1 l1 := fun q v hq hl => h q v hq (fun z => hl (hs q z))
theorem gFr.at {f f1 : gM} {l : List Nat} (h : gFr f f1 l) {q : Nat} {v : va_E} (hq : f q = some v) (hl : q ∉ l) : f1 q = some v := h q v hq hl
theorem gFr.none {f f1 : gM} {l : List Nat} (h : gFr f f1 l) {q : Nat} (hq : f1 q = none) (hl : q ∉ l) : f q = none := by
  cases hf : f q with
  | none => rfl
  | some v => rw [h q v hf hl] at hq; cases hq
theorem gh_nn {f : gM} {a b : Nat} {v : va_E} (ha : f a = some v) (hb : f b = none) : a ≠ b := fun e => by rw [e, hb] at ha; cases ha
section GHS
variable {p : Program} {l : Launch} {e : Env} {R : Room} {s : State} {m : MethodId} {args : Array Value} {below : List Frame} {meth : Method} {c : Code} {H : Heap} {locs : List Loc} {cells slots : Nat} {Q : State → Prop}
variable {cc : ByteArray} {pc : Nat} {ls : Array Slot} {rest : List Value} {P : gPar} {a : Nat} {f : gM} {own ref C : String} {T : u_T} {N ci index nL : Nat}
theorem gh_getS (S : CallFix p m c cc nL s args gw own) (hI : gB P f s H locs) {fs : List Value} (he : f a = some (.inr (ci, fs))) (hc : gcl[ci]? = some (C, T, N)) (hin : ∀ w ∈ u_ws C T N, w ∈ gw) (k : Nat) (hk : k < N) (hsm : Cond.sameField ref (T k).1 (T k).2.1 (T k).2.2.1 ∈ gw) (hlink : Cond.fieldLink own index ref (T k).2.1 (T k).2.2.1 ∈ gw) {v : Value} (hv : fs[k]? = some v) (hdg : decode cc pc = .ok (.getfield index, 3))
    (kk : W p l e R s m args below meth c H locs cells slots Q (F0 m (pc + 3) ls (v :: rest))) : W p l e R s m args below meth c H locs cells slots Q (F0 m pc ls (.ref a :: rest)) := by
  obtain ⟨hX, hH, hS⟩ := hI
  have hK := hX.1
  obtain ⟨L, k0, hL, hP, hD, h0⟩ := gh_open hH he
  exact va_get S.1 S.2.1 S.2.2.2.2 hin S.2.2.2.1 hK hP k0 h0 hc k hk (S.2.2.2.2 _ hlink) (fun x h => u_same (S.2.2.2.2 _ hsm) x h) hv hdg kk
theorem gh_putS (S : CallFix p m c cc nL s args gw own) (hI : gB P f s H locs) {fs : List Value} (he : f a = some (.inr (ci, fs))) (hc : gcl[ci]? = some (C, T, N)) (hin : ∀ w ∈ u_ws C T N, w ∈ gw) (ty0 : Nat → FieldType) (hty : ∀ k, k < N → parseFieldDescriptor (T k).2.2.1 = some (ty0 k)) (hnm : ∀ a, a < N → ∀ b, b < N → a ≠ b → (T a).2.1 ≠ (T b).2.1) (k : Nat) (hk : k < N) (hsm : Cond.sameField ref (T k).1 (T k).2.1 (T k).2.2.1 ∈ gw) (hlink : Cond.fieldLink own index ref (T k).2.1 (T k).2.2.1 ∈ gw) (hfin : (T k).2.2.2 = false) {v : Value} (hn : narrow (ty0 k) v = v) (hfit : fits (ty0 k) v = true) (hl : k < fs.length) (hdg : decode cc pc = .ok (.putfield index, 3))
    (kk : ∀ (H1 : Heap) (locs1 : List Loc), gB P (va_up f a (some (.inr (ci, fs.set k v)))) s H1 locs1 → W p l e R s m args below meth c H1 locs1 cells slots Q (F0 m (pc + 3) ls rest)) : W p l e R s m args below meth c H locs cells slots Q (F0 m pc ls (v :: .ref a :: rest)) := by
  obtain ⟨hX, hH, hS⟩ := hI
  have hK := hX.1
  obtain ⟨L, k0, hL, hP, hD, h0⟩ := gh_open hH he
  exact va_put S.1 S.2.1 S.2.2.2.2 hin ty0 hty hnm S.2.2.2.1 hK hP hD hS k0 h0 hc k hk (S.2.2.2.2 _ hlink) (fun x h => u_same (S.2.2.2.2 _ hsm) x h) hfin (hty k hk) hn hfit hl hdg (fun H1 locs1 hP1 hD1 hS1 => kk H1 locs1 ⟨hX, gh_close hL hD he h0 hP1 hD1, hS1⟩)
/-- a cast to the object's own class -/
theorem gh_cast {q : vw_C} {fs : List Value} (S : CallFix p m c cc nL s args gw own) (hI : gB P f s H locs) (hc : gcl[ci]? = some q) (he : f a = some (.inr (ci, fs))) (hlink : Cond.classLink own index q.1 ∈ gw) (hdg : decode cc pc = .ok (.checkcast index, 3))
    (kk : W p l e R s m args below meth c H locs cells slots Q (F0 m (pc + 3) ls (.ref a :: rest))) : W p l e R s m args below meth c H locs cells slots Q (F0 m pc ls (.ref a :: rest)) :=
  va_castS S.1 S.2.1 S.2.2.2.1 (S.2.2.2.2 _ hlink) (hI.1.1.1 ci _ hc).2 (gh_recv hI hc he) hdg kk
end GHS
/-- the places lo to hi - 1 hold x -/
def g_fil {α : Type} (g : Nat → α) (lo hi : Nat) (x : α) : Nat → α := fun j => if lo ≤ j ∧ j < hi then x else g j
theorem g_fil_0 {α : Type} (g : Nat → α) (lo : Nat) (x : α) : g_fil g lo lo x = g := by
  funext j; unfold g_fil; rw [if_neg (by omega)]
theorem g_fil_s (g : Nat → Int32) {lo hi : Nat} (h : lo ≤ hi) (x : Int32) : upd (g_fil g lo hi x) hi x = g_fil g lo (hi + 1) x := by
  funext j; unfold upd g_fil
  by_cases h1 : j = hi
  · rw [if_pos h1, if_pos (by omega)]
  · rw [if_neg h1]
    by_cases h2 : lo ≤ j ∧ j < hi
    · rw [if_pos h2, if_pos (by omega)]
    · rw [if_neg h2, if_neg (by omega)]
theorem g_fil_fit {g : Nat → Int32} {lo hi : Nat} {x : Int32} (hg : sb_Fit g) (hx : fits .byte (.int x) = true) : sb_Fit (g_fil g lo hi x) := fun j => by
  unfold g_fil
  by_cases h : lo ≤ j ∧ j < hi
  · rw [if_pos h]; exact hx
  · rw [if_neg h]; exact hg j
/-- cells never go -/
def gDm (f f1 : gM) : Prop := ∀ c, f1 c = none → f c = none
theorem gDm.rf {f : gM} : gDm f f := fun _ h => h
theorem gDm.up {f f1 : gM} {a : Nat} {x : va_E} (h : gDm f f1) : gDm f (va_up f1 a (some x)) := fun c hc => by
  by_cases e : c = a
  · rw [e, va_up_self] at hc; cases hc
  · rw [va_up_ne _ _ e] at hc; exact h c hc
theorem gDm.trans {f f1 f2 : gM} (h : gDm f f1) (h2 : gDm f1 f2) : gDm f f2 := fun c hc => h c (h2 c hc)
theorem gDm.fr {f f1 : gM} {l : List Nat} (hF : gFr f f1 l) (hl : ∀ c ∈ l, f1 c ≠ none) : gDm f f1 := fun c hc => by
  cases hf : f c with
  | none => rfl
  | some v =>
    by_cases h : c ∈ l
    · exact absurd hc (hl c h)
    · rw [hF c v hf h] at hc; cases hc
/-- x lies behind all owned cells -/
def gNew (f : gM) (x : Nat) : Prop := ∀ c, x ≤ c → f c = none
theorem gNew.n {f : gM} {x : Nat} (h : gNew f x) : f x = none := h x (Nat.le_refl _)
theorem gNew.back {f f1 : gM} {x : Nat} (h : gNew f1 x) (hD : gDm f f1) : gNew f x := fun c hc => hD c (h c hc)
theorem gNew.lt {f : gM} {x c : Nat} {v : va_E} (h : gNew f x) (hc : f c = some v) : c < x := by
  rcases Nat.lt_or_ge c x with z | z
  · exact z
  · rw [h c z] at hc; cases hc
end
section
/-! rows that know the heap's size: a made cell lies at its end -/
theorem gh_mk {P : gPar} {f : gM} {s : State} {H H1 : Heap} {locs : List Loc} {e : va_E} (hI : gB P f s H locs) (hz : H1.size = H.size + 1) (ho : ∀ q, q < H.size → H1[q]? = H[q]?) (he : va_at (gD P) gcl (H.size, e) H1) : gB P (va_up f H.size (some e)) s H1 locs ∧ f H.size = none := by
  obtain ⟨hX, ⟨L, hL, hP, hD⟩, hS⟩ := hI
  have hP1 : va_P (gD P) gcl (([] ++ va_pl L (gh_F f)) ++ [(H.size, e)]) H1 := by
    refine va_P.app (hP.kept (fun k x hx => ho x.1 ((hP k x hx).lt))) (fun k x hx => ?_)
    have h1 : k < 1 := (List.getElem?_eq_some_iff.mp hx).1
    rw [show k = 0 by omega] at hx
    cases hx
    exact he
  have hD1 := hD.push (e := e) hP rfl (hX.2.1 H.size hS.1)
  obtain ⟨g1, g2⟩ := gh_push hL hP1 hD1
  exact ⟨⟨hX, g1, Nat.le_trans hS.1 (by omega), fun x h1 h2 => (ho x (Nat.lt_of_lt_of_le h1 hS.1)).trans (hS.2.1 x h1 h2), hS.2.2⟩, g2⟩
theorem gh_st {P : gPar} {f : gM} {s : State} {H H1 : Heap} {locs : List Loc} {a k : Nat} {e0 e1 : va_E} (hI : gB P f s H locs) (ha : f a = some e0) (hz : H1.size = H.size) (ho : ∀ q, q ≠ a → H1[q]? = H[q]?) (he : va_at (gD P) gcl (a, e1) H1) : gB P (va_up f a (some e1)) s H1 (locs ++ [⟨a, k⟩]) := by
  obtain ⟨hX, hH, hS⟩ := hI
  obtain ⟨L, k0, hL, hP, hD, h0⟩ := gh_open hH ha
  exact ⟨hX, gh_close hL hD ha h0 (hP.set hD h0 he ho) (hD.set h0), hS.put hz ho (hD.2 k0 _ h0)⟩
theorem gB_new {P : gPar} {f : gM} {s : State} {H : Heap} {locs : List Loc} (hI : gB P f s H locs) {z : Nat} (hz : H.size = z) : gNew f z := fun q h => by
  cases hf : f q with
  | none => rfl
  | some v =>
    obtain ⟨L, k, -, hP, -, h0⟩ := gh_open hI.2.1 hf
    have := (hP k _ h0).lt
    exact absurd this (by show ¬ q < H.size; omega)
section GHZ
variable {p : Program} {l : Launch} {e : Env} {R : Room} {s : State} {m : MethodId} {args : Array Value} {below : List Frame} {meth : Method} {c : Code} {H : Heap} {locs : List Loc} {cells slots : Nat} {Q : State → Prop}
variable {cc : ByteArray} {pc : Nat} {ls : Array Slot} {rest st0 : List Value} {P : gPar} {a : Nat} {f : gM} {own ref C : String} {T : u_T} {N ci index nL z : Nat}
theorem gh_newZ (S : CallFix p m c cc nL s args gw own) (hI : gB P f s H locs) (hz : H.size = z) (hc : gcl[ci]? = some (C, T, N)) (hin : ∀ w ∈ u_ws C T N, w ∈ gw) (ty0 : Nat → FieldType) (hty : ∀ k, k < N → parseFieldDescriptor (T k).2.2.1 = some (ty0 k)) (hcl : Cond.classLink own index C ∈ gw) (hinst : Cond.instantiable C N ∈ gw) (hini : Cond.initialized C ∈ gw) {fs : List Value} (hfs : ∀ j, j < N → defaultValue (ty0 j) = vp_V fs j) (hcells : cells + 1 ≤ R.cells) (hslots : slots + N ≤ R.slots) (hdg : decode cc pc = .ok (.new index, 3))
    (kk : ∀ H1 : Heap, f z = none → H1.size = z + 1 → gB P (va_up f z (some (.inr (ci, fs)))) s H1 locs → W p l e R s m args below meth c H1 locs (cells + 1) (slots + N) Q (F0 m (pc + 3) ls (.ref z :: rest))) : W p l e R s m args below meth c H locs cells slots Q (F0 m pc ls rest) := by
  subst hz
  have hKn := hI.1.1.1 ci _ hc
  refine W.newcK S.1 S.2.1 S.2.2.2.1 (S.2.2.2.2 _ hcl) (S.2.2.2.2 _ hinst) (S.2.2.2.2 _ hini) rfl hdg hcells hslots hKn.2.1 rfl fun H1 kC hkC e1 z1 o1 => ?_
  obtain ⟨g1, g2⟩ := gh_mk hI z1 o1 (e := .inr (ci, fs)) ⟨_, hc, (u_born ty0 S.2.2.2.2 hin hKn hkC e1 hty).to hfs⟩
  exact kk H1 g2 z1 g1
theorem gh_newbZ (S : CallFix p m c cc nL s args gw own) (hI : gB P f s H locs) (hz : H.size = z) (hw : Cond.arrayClass .byte ∈ gw) {i : Int32} {n : Nat} (hi : i = nI n) (hn : n < 2 ^ 20) (hcells : cells + 1 ≤ R.cells) (hslots : slots + n ≤ R.slots) (hdg : decode cc pc = .ok (.newarray .byte, 2))
    (kk : ∀ H1 : Heap, f z = none → H1.size = z + 1 → gB P (va_up f z (some (.inl (P.2.1 0, n, .inl (fun _ => 0))))) s H1 locs → W p l e R s m args below meth c H1 locs (cells + 1) (slots + n) Q (F0 m (pc + 2) ls (.ref z :: rest))) : W p l e R s m args below meth c H locs cells slots Q (F0 m pc ls (.int i :: rest)) := by
  subst hz hi
  refine va_newaK (atype := .byte) S.1 S.2.1 (S.2.2.2.2 _ hw) rfl hdg rfl (nI_pos (by omega)) (nI_clamp (by omega)) (by show n * 1 ≤ _; omega) hcells hslots rfl fun H1 cA e1 z1 o1 hAr hNm => ?_
  have hcA : cA = P.2.1 0 := gh_cA (ty := .byte) (s := s) hNm (hI.1.1.2 0 _ rfl).2
  subst hcA
  obtain ⟨g1, g2⟩ := gh_mk hI z1 o1 (e := .inl (P.2.1 0, n, .inl (fun _ => 0))) e1
  exact kk H1 g2 z1 g1
theorem gh_newqZ (S : CallFix p m c cc nL s args gw own) (hI : gB P f s H locs) (hz : H.size = z) (hcl : Cond.classLink own index "StripeFiles$Piece" ∈ gw) {i : Int32} {n : Nat} (hi : i = nI n) (hn : n < 2 ^ 20) (hcells : cells + 1 ≤ R.cells) (hslots : slots + n ≤ R.slots) (hdg : decode cc pc = .ok (.anewarray index, 3))
    (kk : ∀ H1 : Heap, f z = none → H1.size = z + 1 → gB P (va_up f z (some (.inl (P.2.1 3, n, .inr (.inr (.inr (.inr (fun _ => none)))))))) s H1 locs → W p l e R s m args below meth c H1 locs (cells + 1) (slots + n) Q (F0 m (pc + 3) ls (.ref z :: rest))) : W p l e R s m args below meth c H locs cells slots Q (F0 m pc ls (.int i :: rest)) := by
  subst hz hi
  have hcl2 : (nI n).toNatClampNeg = n := nI_clamp (by omega)
  refine W.anew S.1 S.2.1 S.2.2.2.1 (S.2.2.2.2 _ hcl) (va_AO.use hI.1.2.2.2.1) rfl hdg rfl (nI_pos (by omega)) (by rw [hcl2]; omega) hcells (by rw [hcl2]; exact hslots) fun cA kA comp f1 f2 f3 f4 => ?_
  rw [hcl2]
  have hr : va_RA s cA (.object "StripeFiles$Piece") := ⟨kA, comp, f2, f3, f4, f1⟩
  have hcA : cA = P.2.1 3 := gh_cA hr (hI.1.1.2 3 _ rfl).2
  subst hcA
  generalize hH1 : H.push ({ cls := P.2.1 3, slots := Array.replicate n .null, vm := .none } : Cell) = H1
  have z1 : H1.size = H.size + 1 := by rw [← hH1, Array.size_push]
  have e1 : H1[H.size]? = some (arrV (P.2.1 3) n (fun _ => .null)) := by rw [← hH1, Array.getElem?_push_size, ← arrV_new]
  have o1 : ∀ q : Nat, q < H.size → H1[q]? = H[q]? := fun q hq => by rw [← hH1, Array.getElem?_push, if_neg (Nat.ne_of_lt hq)]
  obtain ⟨g1, g2⟩ := gh_mk hI z1 o1 (e := .inl (P.2.1 3, n, .inr (.inr (.inr (.inr (fun _ => none)))))) e1
  exact kk H1 g2 z1 g1
theorem gh_newqOZ (S : CallFix p m c cc nL s args gw own) (hI : gB P f s H locs) (hz : H.size = z) (hcl : Cond.classLink own index "java/lang/Object" ∈ gw) {i : Int32} {n : Nat} (hi : i = nI n) (hn : n < 2 ^ 20) (hcells : cells + 1 ≤ R.cells) (hslots : slots + n ≤ R.slots) (hdg : decode cc pc = .ok (.anewarray index, 3))
    (kk : ∀ H1 : Heap, f z = none → H1.size = z + 1 → gB P (va_up f z (some (.inl (P.2.1 4, n, .inr (.inr (.inr (.inr (fun _ => none)))))))) s H1 locs → W p l e R s m args below meth c H1 locs (cells + 1) (slots + n) Q (F0 m (pc + 3) ls (.ref z :: rest))) : W p l e R s m args below meth c H locs cells slots Q (F0 m pc ls (.int i :: rest)) := by
  subst hz hi
  have hcl2 : (nI n).toNatClampNeg = n := nI_clamp (by omega)
  refine W.anew S.1 S.2.1 S.2.2.2.1 (S.2.2.2.2 _ hcl) (va_AO.use hI.1.2.2.2.2.1) rfl hdg rfl (nI_pos (by omega)) (by rw [hcl2]; omega) hcells (by rw [hcl2]; exact hslots) fun cA kA comp f1 f2 f3 f4 => ?_
  rw [hcl2]
  have hr : va_RA s cA (.object "java/lang/Object") := ⟨kA, comp, f2, f3, f4, f1⟩
  have hcA : cA = P.2.1 4 := gh_cA hr (hI.1.1.2 4 _ rfl).2
  subst hcA
  generalize hH1 : H.push ({ cls := P.2.1 4, slots := Array.replicate n .null, vm := .none } : Cell) = H1
  have z1 : H1.size = H.size + 1 := by rw [← hH1, Array.size_push]
  have e1 : H1[H.size]? = some (arrV (P.2.1 4) n (fun _ => .null)) := by rw [← hH1, Array.getElem?_push_size, ← arrV_new]
  have o1 : ∀ q : Nat, q < H.size → H1[q]? = H[q]? := fun q hq => by rw [← hH1, Array.getElem?_push, if_neg (Nat.ne_of_lt hq)]
  obtain ⟨g1, g2⟩ := gh_mk hI z1 o1 (e := .inl (P.2.1 4, n, .inr (.inr (.inr (.inr (fun _ => none)))))) e1
  exact kk H1 g2 z1 g1
theorem gh_putFZ (S : CallFix p m c cc nL s args gw own) (hI : gB P f s H locs) (hz : H.size = z) {fs : List Value} (he : f a = some (.inr (ci, fs))) (hc : gcl[ci]? = some (C, T, N)) (hin : ∀ w ∈ u_ws C T N, w ∈ gw) (ty0 : Nat → FieldType) (hty : ∀ k, k < N → parseFieldDescriptor (T k).2.2.1 = some (ty0 k)) (hnm : ∀ a, a < N → ∀ b, b < N → a ≠ b → (T a).2.1 ≠ (T b).2.1) (k : Nat) (hk : k < N) (hlink : Cond.fieldLink own index (T k).1 (T k).2.1 (T k).2.2.1 ∈ gw) (hfin : (T k).2.2.2 = true) (hin2 : meth.name = "<init>") (hdecl : (T k).1 = own) {v : Value} (hn : narrow (ty0 k) v = v) (hfit : fits (ty0 k) v = true) (hl : k < fs.length) (hdg : decode cc pc = .ok (.putfield index, 3))
    (kk : ∀ (H1 : Heap) (locs1 : List Loc), H1.size = z → gB P (va_up f a (some (.inr (ci, fs.set k v)))) s H1 locs1 → W p l e R s m args below meth c H1 locs1 cells slots Q (F0 m (pc + 3) ls rest)) : W p l e R s m args below meth c H locs cells slots Q (F0 m pc ls (v :: .ref a :: rest)) := by
  subst hz
  have hts := S.2.2.2.2
  have hK := hI.1.1
  have hap := va_apart (own := own) hts hin ty0 hty hnm hK hc
  obtain ⟨L, k0, hL, hP, hD, h0⟩ := gh_open hI.2.1 he
  obtain ⟨r, h1, cell, q1, q2, q3, q4⟩ := hP k0 _ h0
  have hr : r = (C, T, N) := Option.some.inj (h1.symm.trans hc)
  subst hr
  obtain ⟨hSl, hfc, kC, hkC, hkind⟩ := hK.1 ci _ hc
  obtain ⟨cf, kf, fi, fd, hi, hsl⟩ := hSl k hk
  have hlay := hts _ (hin _ (u_in_lay hk))
  unfold u_lay at hlay
  rw [if_pos hfin] at hlay
  have hst := (u_facts hfc hkC (u_lays hts hin hk) hi).1
  have hcf : m.cls = cf := by
    obtain ⟨_, _, c', _, _, _, -, -, hf', -, -, -, hown2, -⟩ := Cond.laysFinal_spec hlay
    have e1 : c' = cf := by have := hi.symm.trans hf'; simp at this; exact this.1.symm
    rw [hdecl] at hown2
    rw [← e1]; exact Option.some.inj (S.2.2.2.1.symm.trans hown2)
  have h6 := u_fits hfc hkC hkind (Or.inr hlay) hi (hty k hk) hn hfit
  refine W.putFinK S.1 S.2.1 S.2.2.2.1 (hts _ hlink) hi hst hcf hin2 (by rw [q2]; exact h6) q1 q3 (by rw [hsl]; exact k2_hasslot (q4 k hk)) rfl rfl hdg fun H' e1 e2 e3 => ?_
  rw [hsl] at e1 ⊢
  exact kk H' _ e2 (gh_st hI he e2 e3 ⟨_, hc, t_OB.to (V := updV (vp_V fs) k v) ⟨_, e1, q2, q3, t_set q4 hap hk v⟩ (fun j _ => vp_updV_set hl v j)⟩)
theorem gh_putZ (S : CallFix p m c cc nL s args gw own) (hI : gB P f s H locs) (hz : H.size = z) {fs : List Value} (he : f a = some (.inr (ci, fs))) (hc : gcl[ci]? = some (C, T, N)) (hin : ∀ w ∈ u_ws C T N, w ∈ gw) (ty0 : Nat → FieldType) (hty : ∀ k, k < N → parseFieldDescriptor (T k).2.2.1 = some (ty0 k)) (hnm : ∀ a, a < N → ∀ b, b < N → a ≠ b → (T a).2.1 ≠ (T b).2.1) (k : Nat) (hk : k < N) (hlink : Cond.fieldLink own index (T k).1 (T k).2.1 (T k).2.2.1 ∈ gw) (hfin : (T k).2.2.2 = false) {v : Value} (hn : narrow (ty0 k) v = v) (hfit : fits (ty0 k) v = true) (hl : k < fs.length) (hdg : decode cc pc = .ok (.putfield index, 3))
    (kk : ∀ (H1 : Heap) (locs1 : List Loc), H1.size = z → gB P (va_up f a (some (.inr (ci, fs.set k v)))) s H1 locs1 → W p l e R s m args below meth c H1 locs1 cells slots Q (F0 m (pc + 3) ls rest)) : W p l e R s m args below meth c H locs cells slots Q (F0 m pc ls (v :: .ref a :: rest)) := by
  subst hz
  have hts := S.2.2.2.2
  have hK := hI.1.1
  have hap := va_apart (own := own) hts hin ty0 hty hnm hK hc
  obtain ⟨L, k0, hL, hP, hD, h0⟩ := gh_open hI.2.1 he
  obtain ⟨r, h1, cell, q1, q2, q3, q4⟩ := hP k0 _ h0
  have hr : r = (C, T, N) := Option.some.inj (h1.symm.trans hc)
  subst hr
  obtain ⟨hSl, hfc, kC, hkC, hkind⟩ := hK.1 ci _ hc
  obtain ⟨cf, kf, fi, fd, hi, hsl⟩ := hSl k hk
  have hlay := hts _ (hin _ (u_in_lay hk))
  unfold u_lay at hlay
  rw [if_neg (by rw [hfin]; decide)] at hlay
  have hst := (u_facts hfc hkC (u_lays hts hin hk) hi).1
  have h6 := u_store hfc hkC hkind hlay hi (hty k hk) hn hfit
  refine W.putK S.1 S.2.1 (f := fd) ⟨S.2.2.2.1, hts _ hlink, ⟨_, _, _, hi⟩, hst⟩ (by rw [q2]; exact h6) q1 q3 (by rw [hsl]; exact k2_hasslot (q4 k hk)) rfl rfl hdg fun H' e1 e2 e3 => ?_
  rw [hsl] at e1 ⊢
  exact kk H' _ e2 (gh_st hI he e2 e3 ⟨_, hc, t_OB.to (V := updV (vp_V fs) k v) ⟨_, e1, q2, q3, t_set q4 hap hk v⟩ (fun j _ => vp_updV_set hl v j)⟩)
end GHZ
/-- contracts that know the size -/
def gSz (P : gPar) (u : gM × Nat) (U : State) : Prop := gS P u.1 U ∧ U.heap.size = u.2
def gQz (P : gPar) (post : gM × Nat → Prop) : Array Value → State → Outcome → State → Prop := va_Qv post (gSz P) (gA P)
def gCz (l : Launch) (P : gPar) (y : MethodName) (b : ByteArray) (maxL : Nat) (ret : Option FieldType) (d mc ms : Nat) (av : List Value) (u : gM × Nat) (Qc : Array Value → State → Outcome → State → Prop) : Prop :=
  Met l y (.code y b maxL ret :: gw) (grm d mc ms) (va_Pc av (gSz P u)) Qc mc ms (gA P)
theorem gCz_of {l : Launch} {P : gPar} {y : MethodName} {b : ByteArray} {maxL : Nat} {ret : Option FieldType} {d mc ms : Nat} {av : List Value} {f : gM} {z : Nat} {Qc : Array Value → State → Outcome → State → Prop} (hy : plainName y.cls = true) (hsz : (lg_sl av).length ≤ maxL)
    (body : ∀ (p : Program) (e : Env) (s : State) (m : MethodId) (args : Array Value) (below : List Frame) (meth : Method) (c : Code), CallFix p m c b maxL s args gw y.cls → meth.sig.returnType = ret → meth.locks = false → meth.name = y.name → ∀ (H : Heap) (locs : List Loc), gB P f s H locs → H.size = z →
      ∀ ls : Array Slot, lv_has ls maxL (lv_args 0 av) → W p l e (grm d mc ms) s m args below meth c H locs 0 0 (MQ below Qc args s mc ms (gA P)) (F0 m 0 ls [])) : gCz l P y b maxL ret d mc ms av (f, z) Qc := by
  refine Met.ofW (cc := b) (maxL := maxL) (ret := ret) hy rfl ?_
  intro p e s m args below meth c s₁ B hml hv
  obtain ⟨rfl, ⟨hX, hH⟩, hz⟩ := hv
  have hts := atoms_spec (ws := .code y b maxL ret :: gw) B.pre
  have hown : s.vm.findClass y.cls = some m.cls := findClass_of_methodNamed B.named
  have hin : meth.name = y.name := (name_of_methodNamed B.named B.method).1
  have hl := lv_entry av (n := maxL) hsz
  have hB : gB P f s s.heap [] := ⟨hX, hH, va_S.rf⟩
  have K := body p e s m av.toArray below meth c ⟨B.exec, B.bytes, hml, hown, fun w h => hts w (List.mem_cons_of_mem _ h)⟩ B.returns B.notSynchronized hin _ _ hB hz _ hl
  rw [lg_entry_eq]
  exact K
section GCZ
variable {p : Program} {l : Launch} {e : Env} {R : Room} {s : State} {m : MethodId} {args : Array Value} {below : List Frame} {meth : Method} {c : Code} {H : Heap} {locs : List Loc} {cells slots : Nat} {Q : State → Prop}
variable {cc : ByteArray} {pc : Nat} {ls : Array Slot} {rest st0 : List Value} {P : gPar} {a z : Nat} {f : gM} {own : String} {index nL : Nat} {y : MethodName} {b : ByteArray} {maxL n d mc ms : Nat} {As : List Value}
theorem gc_Iz {post : gM × Nat → Prop} (S : CallFix p m c cc nL s args gw own) (hI : gB P f s H locs) (hz : H.size = z) (hM : gCz l P y b maxL none d mc ms (.ref a :: As) (f, z) (gQz P post)) (hk : gVi y b maxL n) (hlink : Cond.methodLink own index y ∈ gw) (hn : As.length = n) (hls : ls.size = nL) (hst : st0 = As.reverse ++ .ref a :: rest) (hrest : (rest.map fun v => v.category).sum ≤ 8) (hd : d + 1 ≤ R.frames ∧ 8 + (maxL + 11) + 40 * d ≤ R.locals) (hf : cells + mc ≤ R.cells ∧ slots + ms ≤ R.slots) (hdg : decode cc pc = .ok (.invokespecial index, 3))
    (kk : ∀ (f1 : gM) (z1 : Nat) (H1 : Heap) (locs1 : List Loc), post (f1, z1) → gB P f1 s H1 locs1 → H1.size = z1 → W p l e R s m args below meth c H1 locs1 (cells + mc) (slots + ms) Q (F0 m (pc + 3) ls rest)) : W p l e R s m args below meth c H locs cells slots Q (F0 m pc ls st0) := by
  have hp : PreS s H (va_Pc (.ref a :: As) (gSz P (f, z))) (.ref a :: As) := by
    obtain ⟨hX, hH, hS⟩ := hI
    exact ⟨fun _ U g mk q => ⟨q.1, ⟨q.2.1.1.call, q.2.1.2⟩, q.2.2⟩, fun U hU hW => ⟨rfl, ⟨hX.to hS hU hW, by rw [hU]; exact hH⟩, by rw [hU]; exact hz⟩⟩
  exact va_callv (va_runI S hM (cwI n S.2.2.2.2 (gw_good hk.1) rfl rfl rfl (S.2.2.2.2 _ hk.2.2.1) (S.2.2.2.2 _ hlink) (S.2.2.2.2 _ hk.2.1) hk.2.2.2.1 hk.2.2.2.2 hd) hp rfl hn hls hst (lv_room hrest) hdg hf) hI.2.2 (fun _ _ h => h) (fun _ h => h) (fun u t H1 locs1 ht _ hw hB _ _ hS1 => kk u.1 u.2 H1 locs1 hw ⟨hI.1, by rw [← ht]; exact hB.1.2, hS1⟩ (by rw [← ht]; exact hB.2))
theorem gr_vz {post : gM × Nat → Prop} (S : CallFix p m c cc nL s args gw own) (hr : meth.sig.returnType = none) (hlk : meth.locks = false) (hI : gB P f s H locs) (hz : H.size = z) (hp : post (f, z)) (hdg : decode cc pc = .ok (.return_, 1)) : W p l e R s m args below meth c H locs cells slots (MQ below (gQz P post) args s cells slots (gA P)) (F0 m pc ls []) :=
  W.vret S.1 S.2.1 hr (fun t ht hW => ⟨⟨(f, z), rfl, hp, ⟨hI.1.to hI.2.2 ht hW, by rw [ht]; exact hI.2.1⟩, by rw [ht]; exact hz⟩, hI.2.2.F ht⟩) hI.2.2.2.2 hdg hlk
end GCZ
end
section
theorem kv_AL_add1 : gV y_AL_add1 b_AL_add1 5 none 2 := ⟨wi_216, wi_214, wi_215, wi_6, by decide +kernel, by decide +kernel, by decide +kernel⟩
theorem kv_AL_add2 : gV y_AL_add2 b_AL_add2 2 (some .boolean) 1 := ⟨wi_336, wi_334, wi_335, wi_6, by decide +kernel, by decide +kernel, by decide +kernel⟩
theorem kv_AL_add3 : gV y_AL_add3 b_AL_add3 4 none 3 := ⟨wi_339, wi_338, wi_547, wi_6, by decide +kernel, by decide +kernel, by decide +kernel⟩
theorem kv_AL_elementData : gV y_AL_elementData b_AL_elementData 2 (some (.object "java/lang/Object")) 1 := ⟨wi_155, wi_153, wi_154, wi_6, by decide +kernel, by decide +kernel, by decide +kernel⟩
theorem kv_AL_fastRemove : gV y_AL_fastRemove b_AL_fastRemove 4 none 2 := ⟨wi_206, wi_205, wi_539, wi_6, by decide +kernel, by decide +kernel, by decide +kernel⟩
theorem kv_AL_get : gV y_AL_get b_AL_get 2 (some (.object "java/lang/Object")) 1 := ⟨wi_145, wi_143, wi_144, wi_6, by decide +kernel, by decide +kernel, by decide +kernel⟩
theorem kv_AL_grow1 : gV y_AL_grow1 b_AL_grow1 1 (some (.array (.object "java/lang/Object"))) 0 := ⟨wi_222, wi_221, wi_541, wi_6, by decide +kernel, by decide +kernel, by decide +kernel⟩
theorem kv_AL_grow2 : gV y_AL_grow2 b_AL_grow2 4 (some (.array (.object "java/lang/Object"))) 1 := ⟨wi_225, wi_224, wi_542, wi_6, by decide +kernel, by decide +kernel, by decide +kernel⟩
theorem kv_AL_init : gVi y_AL_init b_AL_init 1 0 := ⟨wi_44, wi_43, wi_6, rfl, by decide +kernel, by decide +kernel, by decide +kernel⟩
theorem kv_AL_isEmpty : gV y_AL_isEmpty b_AL_isEmpty 1 (some .boolean) 0 := ⟨wi_186, wi_184, wi_185, wi_6, by decide +kernel, by decide +kernel, by decide +kernel⟩
theorem kv_AL_rangeCheckForAdd : gV y_AL_rangeCheckForAdd b_AL_rangeCheckForAdd 2 none 1 := ⟨wi_219, wi_218, wi_540, wi_6, by decide +kernel, by decide +kernel, by decide +kernel⟩
theorem kv_AL_remove : gV y_AL_remove b_AL_remove 4 (some (.object "java/lang/Object")) 1 := ⟨wi_203, wi_201, wi_202, wi_6, by decide +kernel, by decide +kernel, by decide +kernel⟩
theorem kv_AL_set : gV y_AL_set b_AL_set 4 (some (.object "java/lang/Object")) 2 := ⟨wi_356, wi_354, wi_355, wi_6, by decide +kernel, by decide +kernel, by decide +kernel⟩
theorem kv_AL_size : gV y_AL_size b_AL_size 1 (some .int) 0 := ⟨wi_141, wi_139, wi_140, wi_6, by decide +kernel, by decide +kernel, by decide +kernel⟩
theorem kv_ASup_hugeLength : gVs y_ASup_hugeLength b_ASup_hugeLength 3 (some .int) 2 := ⟨wi_235, wi_234, wi_14, by decide +kernel, by decide +kernel, by decide +kernel⟩
theorem kv_ASup_newLength : gVs y_ASup_newLength b_ASup_newLength 4 (some .int) 3 := ⟨wi_228, wi_227, wi_14, by decide +kernel, by decide +kernel, by decide +kernel⟩
theorem kv_AbC_init : gVi y_AbC_init b_AbC_init 1 0 := ⟨wi_50, wi_49, wi_4, rfl, by decide +kernel, by decide +kernel, by decide +kernel⟩
theorem kv_AbL_init : gVi y_AbL_init b_AbL_init 1 0 := ⟨wi_47, wi_46, wi_5, rfl, by decide +kernel, by decide +kernel, by decide +kernel⟩
theorem kv_Arrs_copyOf1 : gVs y_Arrs_copyOf1 b_Arrs_copyOf1 2 (some (.array (.object "java/lang/Object"))) 2 := ⟨wi_238, wi_237, wi_15, by decide +kernel, by decide +kernel, by decide +kernel⟩
theorem kv_Arrs_copyOf2 : gVs y_Arrs_copyOf2 b_Arrs_copyOf2 4 (some (.array (.object "java/lang/Object"))) 3 := ⟨wi_253, wi_252, wi_15, by decide +kernel, by decide +kernel, by decide +kernel⟩
theorem kv_Arrs_fill : gVs y_Arrs_fill b_Arrs_fill 5 none 4 := ⟨wi_324, wi_323, wi_15, by decide +kernel, by decide +kernel, by decide +kernel⟩
theorem kv_Arrs_rangeCheck : gVs y_Arrs_rangeCheck b_Arrs_rangeCheck 3 none 3 := ⟨wi_327, wi_326, wi_15, by decide +kernel, by decide +kernel, by decide +kernel⟩
theorem kv_File_begin : gV y_File_begin b_File_begin 3 none 2 := ⟨wi_211, wi_209, wi_210, wi_13, by decide +kernel, by decide +kernel, by decide +kernel⟩
theorem kv_File_cut : gV y_File_cut b_File_cut 3 none 1 := ⟨wi_318, wi_316, wi_317, wi_13, by decide +kernel, by decide +kernel, by decide +kernel⟩
theorem kv_File_cutStripe : gV y_File_cutStripe b_File_cutStripe 4 none 2 := ⟨wi_321, wi_320, wi_546, wi_13, by decide +kernel, by decide +kernel, by decide +kernel⟩
theorem kv_File_id : gV y_File_id b_File_id 1 (some .int) 0 := ⟨wi_401, wi_399, wi_400, wi_13, by decide +kernel, by decide +kernel, by decide +kernel⟩
theorem kv_File_init : gVi y_File_init b_File_init 2 1 := ⟨wi_190, wi_189, wi_13, rfl, by decide +kernel, by decide +kernel, by decide +kernel⟩
theorem kv_File_keptByte : gV y_File_keptByte b_File_keptByte 4 (some .int) 2 := ⟨wi_413, wi_411, wi_412, wi_13, by decide +kernel, by decide +kernel, by decide +kernel⟩
theorem kv_File_laidStripes : gV y_File_laidStripes b_File_laidStripes 3 (some .int) 0 := ⟨wi_405, wi_403, wi_404, wi_13, by decide +kernel, by decide +kernel, by decide +kernel⟩
theorem kv_File_lay : gV y_File_lay b_File_lay 2 (some (.object "StripeFiles$Piece")) 1 := ⟨wi_287, wi_286, wi_544, wi_13, by decide +kernel, by decide +kernel, by decide +kernel⟩
theorem kv_File_length : gV y_File_length b_File_length 1 (some .int) 0 := ⟨wi_266, wi_264, wi_265, wi_13, by decide +kernel, by decide +kernel, by decide +kernel⟩
theorem kv_File_read : gV y_File_read b_File_read 9 none 3 := ⟨wi_375, wi_373, wi_374, wi_13, by decide +kernel, by decide +kernel, by decide +kernel⟩
theorem kv_File_tell : gV y_File_tell b_File_tell 6 none 4 := ⟨wi_378, wi_377, wi_552, wi_13, by decide +kernel, by decide +kernel, by decide +kernel⟩
theorem kv_File_title : gV y_File_title b_File_title 1 (some (.object "StripeFiles$Row")) 0 := ⟨wi_160, wi_158, wi_159, wi_13, by decide +kernel, by decide +kernel, by decide +kernel⟩
theorem kv_File_write : gV y_File_write b_File_write 8 none 2 := ⟨wi_281, wi_279, wi_280, wi_13, by decide +kernel, by decide +kernel, by decide +kernel⟩
theorem kv_Math_max : gVs y_Math_max b_Math_max 2 (some .int) 2 := ⟨wi_231, wi_230, wi_12, by decide +kernel, by decide +kernel, by decide +kernel⟩
theorem kv_Math_min : gVs y_Math_min b_Math_min 2 (some .int) 2 := ⟨wi_167, wi_166, wi_12, by decide +kernel, by decide +kernel, by decide +kernel⟩
theorem kv_Mdl_compare : gV y_Mdl_compare b_Mdl_compare 8 (some .int) 2 := ⟨wi_478, wi_477, wi_555, wi_8, by decide +kernel, by decide +kernel, by decide +kernel⟩
theorem kv_Mdl_count : gV y_Mdl_count b_Mdl_count 4 (some .int) 1 := ⟨wi_531, wi_529, wi_530, wi_8, by decide +kernel, by decide +kernel, by decide +kernel⟩
theorem kv_Mdl_cut : gV y_Mdl_cut b_Mdl_cut 4 (some .int) 1 := ⟨wi_494, wi_493, wi_560, wi_8, by decide +kernel, by decide +kernel, by decide +kernel⟩
theorem kv_Mdl_end : gV y_Mdl_end b_Mdl_end 2 (some .int) 1 := ⟨wi_464, wi_462, wi_463, wi_8, by decide +kernel, by decide +kernel, by decide +kernel⟩
theorem kv_Mdl_enter : gV y_Mdl_enter b_Mdl_enter 5 none 2 := ⟨wi_484, wi_483, wi_557, wi_8, by decide +kernel, by decide +kernel, by decide +kernel⟩
theorem kv_Mdl_feed : gV y_Mdl_feed b_Mdl_feed 6 (some .int) 5 := ⟨wi_457, wi_455, wi_456, wi_8, by decide +kernel, by decide +kernel, by decide +kernel⟩
theorem kv_Mdl_file : gV y_Mdl_file b_Mdl_file 4 (some .int) 2 := ⟨wi_520, wi_518, wi_519, wi_8, by decide +kernel, by decide +kernel, by decide +kernel⟩
theorem kv_Mdl_find : gV y_Mdl_find b_Mdl_find 3 (some .int) 1 := ⟨wi_475, wi_474, wi_554, wi_8, by decide +kernel, by decide +kernel, by decide +kernel⟩
theorem kv_Mdl_gone : gV y_Mdl_gone b_Mdl_gone 2 (some .int) 1 := ⟨wi_500, wi_499, wi_562, wi_8, by decide +kernel, by decide +kernel, by decide +kernel⟩
theorem kv_Mdl_init : gVi y_Mdl_init b_Mdl_init 1 0 := ⟨wi_432, wi_431, wi_8, rfl, by decide +kernel, by decide +kernel, by decide +kernel⟩
theorem kv_Mdl_leave : gV y_Mdl_leave b_Mdl_leave 4 none 1 := ⟨wi_503, wi_502, wi_563, wi_8, by decide +kernel, by decide +kernel, by decide +kernel⟩
theorem kv_Mdl_made : gV y_Mdl_made b_Mdl_made 4 (some .int) 1 := ⟨wi_481, wi_480, wi_556, wi_8, by decide +kernel, by decide +kernel, by decide +kernel⟩
theorem kv_Mdl_name : gV y_Mdl_name b_Mdl_name 3 (some .int) 1 := ⟨wi_468, wi_466, wi_467, wi_8, by decide +kernel, by decide +kernel, by decide +kernel⟩
theorem kv_Mdl_next : gV y_Mdl_next b_Mdl_next 4 (some .int) 0 := ⟨wi_512, wi_511, wi_566, wi_8, by decide +kernel, by decide +kernel, by decide +kernel⟩
theorem kv_Mdl_piece : gV y_Mdl_piece b_Mdl_piece 6 (some .int) 3 := ⟨wi_527, wi_525, wi_526, wi_8, by decide +kernel, by decide +kernel, by decide +kernel⟩
theorem kv_Mdl_put : gV y_Mdl_put b_Mdl_put 3 none 1 := ⟨wi_460, wi_459, wi_553, wi_8, by decide +kernel, by decide +kernel, by decide +kernel⟩
theorem kv_Mdl_read : gV y_Mdl_read b_Mdl_read 6 (some .int) 2 := ⟨wi_497, wi_496, wi_561, wi_8, by decide +kernel, by decide +kernel, by decide +kernel⟩
theorem kv_Mdl_rename : gV y_Mdl_rename b_Mdl_rename 3 (some .int) 0 := ⟨wi_506, wi_505, wi_564, wi_8, by decide +kernel, by decide +kernel, by decide +kernel⟩
theorem kv_Mdl_resize : gV y_Mdl_resize b_Mdl_resize 4 none 2 := ⟨wi_491, wi_490, wi_559, wi_8, by decide +kernel, by decide +kernel, by decide +kernel⟩
theorem kv_Mdl_run : gV y_Mdl_run b_Mdl_run 6 (some .int) 3 := ⟨wi_472, wi_470, wi_471, wi_8, by decide +kernel, by decide +kernel, by decide +kernel⟩
theorem kv_Mdl_stripes : gV y_Mdl_stripes b_Mdl_stripes 4 (some .int) 1 := ⟨wi_523, wi_522, wi_567, wi_8, by decide +kernel, by decide +kernel, by decide +kernel⟩
theorem kv_Mdl_swap : gV y_Mdl_swap b_Mdl_swap 3 (some .int) 0 := ⟨wi_509, wi_508, wi_565, wi_8, by decide +kernel, by decide +kernel, by decide +kernel⟩
theorem kv_Mdl_told : gV y_Mdl_told b_Mdl_told 2 (some .int) 1 := ⟨wi_516, wi_514, wi_515, wi_8, by decide +kernel, by decide +kernel, by decide +kernel⟩
theorem kv_Mdl_write : gV y_Mdl_write b_Mdl_write 10 (some .int) 3 := ⟨wi_487, wi_486, wi_558, wi_8, by decide +kernel, by decide +kernel, by decide +kernel⟩
theorem kv_Objs_checkIndex : gVs y_Objs_checkIndex b_Objs_checkIndex 2 (some .int) 2 := ⟨wi_148, wi_147, wi_10, by decide +kernel, by decide +kernel, by decide +kernel⟩
theorem kv_Piece_init : gVi y_Piece_init b_Piece_init 1 0 := ⟨wi_297, wi_296, wi_16, rfl, by decide +kernel, by decide +kernel, by decide +kernel⟩
theorem kv_Pool_giveBack : gV y_Pool_giveBack b_Pool_giveBack 2 none 1 := ⟨wi_331, wi_329, wi_330, wi_7, by decide +kernel, by decide +kernel, by decide +kernel⟩
theorem kv_Pool_init : gVi y_Pool_init b_Pool_init 1 0 := ⟨wi_62, wi_61, wi_7, rfl, by decide +kernel, by decide +kernel, by decide +kernel⟩
theorem kv_Pool_takeBlank : gV y_Pool_takeBlank b_Pool_takeBlank 1 (some (.object "StripeFiles$Piece")) 0 := ⟨wi_291, wi_289, wi_290, wi_7, by decide +kernel, by decide +kernel, by decide +kernel⟩
theorem kv_Prec_checkIndex : gVs y_Prec_checkIndex b_Prec_checkIndex 3 (some .int) 3 := ⟨wi_151, wi_150, wi_11, by decide +kernel, by decide +kernel, by decide +kernel⟩
theorem kv_Row_addBytes : gV y_Row_addBytes b_Row_addBytes 4 none 3 := ⟨wi_110, wi_108, wi_109, wi_2, by decide +kernel, by decide +kernel, by decide +kernel⟩
theorem kv_Row_addWord : gV y_Row_addWord b_Row_addWord 3 none 1 := ⟨wi_87, wi_85, wi_86, wi_2, by decide +kernel, by decide +kernel, by decide +kernel⟩
theorem kv_Row_addZeros : gV y_Row_addZeros b_Row_addZeros 2 none 1 := ⟨wi_382, wi_380, wi_381, wi_2, by decide +kernel, by decide +kernel, by decide +kernel⟩
theorem kv_Row_become : gV y_Row_become b_Row_become 2 none 1 := ⟨wi_106, wi_104, wi_105, wi_2, by decide +kernel, by decide +kernel, by decide +kernel⟩
theorem kv_Row_byteAt : gV y_Row_byteAt b_Row_byteAt 2 (some .int) 1 := ⟨wi_392, wi_390, wi_391, wi_2, by decide +kernel, by decide +kernel, by decide +kernel⟩
theorem kv_Row_compareWith : gV y_Row_compareWith b_Row_compareWith 5 (some .int) 1 := ⟨wi_164, wi_162, wi_163, wi_2, by decide +kernel, by decide +kernel, by decide +kernel⟩
theorem kv_Row_copyTo : gV y_Row_copyTo b_Row_copyTo 5 none 4 := ⟨wi_305, wi_303, wi_304, wi_2, by decide +kernel, by decide +kernel, by decide +kernel⟩
theorem kv_Row_init : gVi y_Row_init b_Row_init 2 1 := ⟨wi_29, wi_28, wi_2, rfl, by decide +kernel, by decide +kernel, by decide +kernel⟩
theorem kv_Row_isEmpty : gV y_Row_isEmpty b_Row_isEmpty 1 (some .boolean) 0 := ⟨wi_124, wi_122, wi_123, wi_2, by decide +kernel, by decide +kernel, by decide +kernel⟩
theorem kv_Row_length : gV y_Row_length b_Row_length 1 (some .int) 0 := ⟨wi_83, wi_81, wi_82, wi_2, by decide +kernel, by decide +kernel, by decide +kernel⟩
theorem kv_Row_shorten : gV y_Row_shorten b_Row_shorten 2 none 1 := ⟨wi_98, wi_96, wi_97, wi_2, by decide +kernel, by decide +kernel, by decide +kernel⟩
theorem kv_SF_count : gV y_SF_count b_SF_count 2 (some .int) 1 := ⟨wi_417, wi_415, wi_416, wi_1, by decide +kernel, by decide +kernel, by decide +kernel⟩
theorem kv_SF_cutFile : gV y_SF_cutFile b_SF_cutFile 4 (some .int) 2 := ⟨wi_370, wi_369, wi_551, wi_1, by decide +kernel, by decide +kernel, by decide +kernel⟩
theorem kv_SF_end : gV y_SF_end b_SF_end 2 (some .int) 1 := ⟨wi_91, wi_89, wi_90, wi_1, by decide +kernel, by decide +kernel, by decide +kernel⟩
theorem kv_SF_feed : gV y_SF_feed b_SF_feed 6 (some .int) 5 := ⟨wi_79, wi_77, wi_78, wi_1, by decide +kernel, by decide +kernel, by decide +kernel⟩
theorem kv_SF_file : gV y_SF_file b_SF_file 4 (some .int) 2 := ⟨wi_396, wi_394, wi_395, wi_1, by decide +kernel, by decide +kernel, by decide +kernel⟩
theorem kv_SF_init : gVi y_SF_init b_SF_init 1 0 := ⟨wi_21, wi_20, wi_1, rfl, by decide +kernel, by decide +kernel, by decide +kernel⟩
theorem kv_SF_isRefused : gV y_SF_isRefused b_SF_isRefused 4 (some .boolean) 3 := ⟨wi_120, wi_119, wi_534, wi_1, by decide +kernel, by decide +kernel, by decide +kernel⟩
theorem kv_SF_isWithin : gVs y_SF_isWithin b_SF_isWithin 2 (some .boolean) 2 := ⟨wi_94, wi_93, wi_1, by decide +kernel, by decide +kernel, by decide +kernel⟩
theorem kv_SF_makeFile : gV y_SF_makeFile b_SF_makeFile 2 (some .int) 1 := ⟨wi_127, wi_126, wi_535, wi_1, by decide +kernel, by decide +kernel, by decide +kernel⟩
theorem kv_SF_name : gV y_SF_name b_SF_name 3 (some .int) 1 := ⟨wi_102, wi_100, wi_101, wi_1, by decide +kernel, by decide +kernel, by decide +kernel⟩
theorem kv_SF_piece : gV y_SF_piece b_SF_piece 5 (some .int) 3 := ⟨wi_409, wi_407, wi_408, wi_1, by decide +kernel, by decide +kernel, by decide +kernel⟩
theorem kv_SF_renameFile : gV y_SF_renameFile b_SF_renameFile 2 (some .int) 0 := ⟨wi_309, wi_308, wi_545, wi_1, by decide +kernel, by decide +kernel, by decide +kernel⟩
theorem kv_SF_run : gV y_SF_run b_SF_run 5 (some .int) 3 := ⟨wi_117, wi_115, wi_116, wi_1, by decide +kernel, by decide +kernel, by decide +kernel⟩
theorem kv_SF_runOnFile : gV y_SF_runOnFile b_SF_runOnFile 6 (some .int) 3 := ⟨wi_367, wi_366, wi_550, wi_1, by decide +kernel, by decide +kernel, by decide +kernel⟩
theorem kv_SF_swapFiles : gV y_SF_swapFiles b_SF_swapFiles 1 (some .int) 0 := ⟨wi_348, wi_347, wi_548, wi_1, by decide +kernel, by decide +kernel, by decide +kernel⟩
theorem kv_SF_tellNextName : gV y_SF_tellNextName b_SF_tellNextName 2 (some .int) 0 := ⟨wi_359, wi_358, wi_549, wi_1, by decide +kernel, by decide +kernel, by decide +kernel⟩
theorem kv_SF_told : gV y_SF_told b_SF_told 2 (some .int) 1 := ⟨wi_388, wi_386, wi_387, wi_1, by decide +kernel, by decide +kernel, by decide +kernel⟩
theorem kv_SF_writeTape : gV y_SF_writeTape b_SF_writeTape 11 (some .int) 3 := ⟨wi_262, wi_261, wi_543, wi_1, by decide +kernel, by decide +kernel, by decide +kernel⟩
theorem kv_Shelf_allBytes : gV y_Shelf_allBytes b_Shelf_allBytes 3 (some .int) 0 := ⟨wi_275, wi_273, wi_274, wi_3, by decide +kernel, by decide +kernel, by decide +kernel⟩
theorem kv_Shelf_fileAt : gV y_Shelf_fileAt b_Shelf_fileAt 2 (some (.object "StripeFiles$StripedFile")) 1 := ⟨wi_174, wi_172, wi_173, wi_3, by decide +kernel, by decide +kernel, by decide +kernel⟩
theorem kv_Shelf_find : gV y_Shelf_find b_Shelf_find 2 (some (.object "StripeFiles$StripedFile")) 1 := ⟨wi_131, wi_129, wi_130, wi_3, by decide +kernel, by decide +kernel, by decide +kernel⟩
theorem kv_Shelf_findAfter : gV y_Shelf_findAfter b_Shelf_findAfter 3 (some (.object "StripeFiles$StripedFile")) 1 := ⟨wi_363, wi_361, wi_362, wi_3, by decide +kernel, by decide +kernel, by decide +kernel⟩
theorem kv_Shelf_hasRoom : gV y_Shelf_hasRoom b_Shelf_hasRoom 3 (some .boolean) 2 := ⟨wi_271, wi_269, wi_270, wi_3, by decide +kernel, by decide +kernel, by decide +kernel⟩
theorem kv_Shelf_indexOf : gV y_Shelf_indexOf b_Shelf_indexOf 3 (some .int) 1 := ⟨wi_134, wi_133, wi_536, wi_3, by decide +kernel, by decide +kernel, by decide +kernel⟩
theorem kv_Shelf_init : gVi y_Shelf_init b_Shelf_init 1 0 := ⟨wi_38, wi_37, wi_3, rfl, by decide +kernel, by decide +kernel, by decide +kernel⟩
theorem kv_Shelf_isAt : gV y_Shelf_isAt b_Shelf_isAt 3 (some .boolean) 2 := ⟨wi_170, wi_169, wi_538, wi_3, by decide +kernel, by decide +kernel, by decide +kernel⟩
theorem kv_Shelf_isFull : gV y_Shelf_isFull b_Shelf_isFull 1 (some .boolean) 0 := ⟨wi_178, wi_176, wi_177, wi_3, by decide +kernel, by decide +kernel, by decide +kernel⟩
theorem kv_Shelf_laidStripes : gV y_Shelf_laidStripes b_Shelf_laidStripes 3 (some .int) 0 := ⟨wi_426, wi_424, wi_425, wi_3, by decide +kernel, by decide +kernel, by decide +kernel⟩
theorem kv_Shelf_make : gV y_Shelf_make b_Shelf_make 4 (some (.object "StripeFiles$StripedFile")) 2 := ⟨wi_182, wi_180, wi_181, wi_3, by decide +kernel, by decide +kernel, by decide +kernel⟩
theorem kv_Shelf_placeOf : gV y_Shelf_placeOf b_Shelf_placeOf 3 (some .int) 1 := ⟨wi_137, wi_136, wi_537, wi_3, by decide +kernel, by decide +kernel, by decide +kernel⟩
theorem kv_Shelf_remove : gV y_Shelf_remove b_Shelf_remove 4 (some .boolean) 1 := ⟨wi_314, wi_312, wi_313, wi_3, by decide +kernel, by decide +kernel, by decide +kernel⟩
theorem kv_Shelf_rename : gV y_Shelf_rename b_Shelf_rename 5 none 2 := ⟨wi_344, wi_342, wi_343, wi_3, by decide +kernel, by decide +kernel, by decide +kernel⟩
theorem kv_Shelf_size : gV y_Shelf_size b_Shelf_size 1 (some .int) 0 := ⟨wi_421, wi_419, wi_420, wi_3, by decide +kernel, by decide +kernel, by decide +kernel⟩
theorem kv_Shelf_swap : gV y_Shelf_swap b_Shelf_swap 7 (some .boolean) 2 := ⟨wi_352, wi_350, wi_351, wi_3, by decide +kernel, by decide +kernel, by decide +kernel⟩
end
section
/-! names as lists of naturals, and their order -/
/-- a byte as a number from 0 to 255 -/
def ub (x : Int32) : Nat := (x &&& 255).toBitVec.toNat
theorem ub_nI (x : Int32) : x &&& 255 = nI (ub x) := by
  have h := pk_and x (m := 255) 8 (by decide)
  unfold ub
  rw [h, pk_tn (by omega)]
theorem ub_lt (x : Int32) : ub x < 256 := by
  have h := pk_and x (m := 255) 8 (by decide)
  unfold ub
  rw [h, pk_tn (by omega)]
  omega
def nmL (n : Nat) (g : Nat → Int32) : List Nat := (List.range n).map (fun i => ub (g i))
/-- before, in the order of names -/
def nlt : List Nat → List Nat → Prop
  | [], [] => False
  | [], _ :: _ => True
  | _ :: _, [] => False
  | a :: as, b :: bs => a < b ∨ (a = b ∧ nlt as bs)
theorem nlt_irrefl : ∀ a : List Nat, ¬ nlt a a
  | [] => fun h => h
  | a :: as => fun h => by
    rcases h with h | ⟨-, h⟩
    · omega
    · exact nlt_irrefl as h
theorem nlt_trans : ∀ {a b c : List Nat}, nlt a b → nlt b c → nlt a c
  | [], [], _, h, _ => h.elim
  | [], _ :: _, [], _, h => h.elim
  | [], _ :: _, _ :: _, _, _ => trivial
  | _ :: _, [], _, h, _ => h.elim
  | _ :: _, _ :: _, [], _, h => h.elim
  | a :: as, b :: bs, c :: cs, h1, h2 => by
    rcases h1 with h1 | ⟨e1, h1⟩ <;> rcases h2 with h2 | ⟨e2, h2⟩
    · exact Or.inl (by omega)
    · exact Or.inl (by omega)
    · exact Or.inl (by omega)
    · exact Or.inr ⟨by omega, nlt_trans h1 h2⟩
theorem nlt_tri : ∀ a b : List Nat, nlt a b ∨ a = b ∨ nlt b a
  | [], [] => Or.inr (Or.inl rfl)
  | [], _ :: _ => Or.inl trivial
  | _ :: _, [] => Or.inr (Or.inr trivial)
  | a :: as, b :: bs => by
    rcases Nat.lt_trichotomy a b with h | h | h
    · exact Or.inl (Or.inl h)
    · rcases nlt_tri as bs with z | z | z
      · exact Or.inl (Or.inr ⟨h, z⟩)
      · exact Or.inr (Or.inl (by rw [h, z]))
      · exact Or.inr (Or.inr (Or.inr ⟨h.symm, z⟩))
    · exact Or.inr (Or.inr (Or.inl h))
theorem nmL_len (n : Nat) (g : Nat → Int32) : (nmL n g).length = n := by simp [nmL]
theorem nmL_get {n : Nat} {g : Nat → Int32} {i : Nat} (h : i < n) : (nmL n g)[i]? = some (ub (g i)) := by simp [nmL, h]
theorem nmL_congr {n : Nat} {g h : Nat → Int32} (e : ∀ i, i < n → g i = h i) : nmL n g = nmL n h := by
  unfold nmL
  apply List.map_congr_left
  intro i hi
  rw [e i (List.mem_range.mp hi)]
theorem nmL_cpy {n : Nat} {g h : Nat → Int32} : nmL n (va_cpy g h 0 0 n) = nmL n g := nmL_congr (fun i hi => by rw [pk_cpy_in (by omega) (by omega)]; simp)
/-- two lists that agree up to i -/
theorem nlt_at : ∀ {a b : List Nat} (i : Nat), (∀ j, j < i → a[j]? = b[j]?) → ∀ {x y : Nat}, a[i]? = some x → b[i]? = some y → x < y → nlt a b
  | [], _, i, _, x, y, h, _, _ => by simp at h
  | _ :: _, [], i, _, x, y, _, h, _ => by simp at h
  | a :: as, b :: bs, 0, _, x, y, h1, h2, h => by
    simp at h1 h2
    exact Or.inl (by omega)
  | a :: as, b :: bs, i + 1, hj, x, y, h1, h2, h => by
    have h0 := hj 0 (by omega)
    simp at h0
    exact Or.inr ⟨h0, nlt_at i (fun j hji => by have := hj (j + 1) (by omega); simpa using this) (by simpa using h1) (by simpa using h2) h⟩
theorem nlt_pre : ∀ {a b : List Nat}, (∀ j, j < a.length → a[j]? = b[j]?) → a.length < b.length → nlt a b
  | [], [], _, h => by simp at h
  | [], _ :: _, _, _ => trivial
  | _ :: _, [], _, h => by simp at h
  | a :: as, b :: bs, hj, h => by
    have h0 := hj 0 (by simp)
    simp at h0
    exact Or.inr ⟨h0, nlt_pre (fun j hji => by have := hj (j + 1) (by simp; omega); simpa using this) (by simpa using h)⟩
theorem nl_eq {a b : List Nat} (h : a.length = b.length) (hj : ∀ j, j < a.length → a[j]? = b[j]?) : a = b := by
  apply List.ext_getElem?
  intro j
  by_cases hl : j < a.length
  · exact hj j hl
  · rw [List.getElem?_eq_none (by omega), List.getElem?_eq_none (by omega)]
/-- what a comparison's answer says -/
def cmpOK (r : Int32) (a b : List Nat) : Prop := (r < 0 ∧ nlt a b) ∨ (r = 0 ∧ a = b) ∨ (0 < r ∧ nlt b a)
theorem cmpOK.lt {r : Int32} {a b : List Nat} (h : cmpOK r a b) : r < 0 ↔ nlt a b := by
  rcases h with ⟨h1, h2⟩ | ⟨h1, h2⟩ | ⟨h1, h2⟩
  · exact ⟨fun _ => h2, fun _ => h1⟩
  · subst h1 h2; exact ⟨fun h => absurd h (by decide), fun h => absurd h (nlt_irrefl a)⟩
  · exact ⟨fun h => absurd (Int32.lt_trans h1 h) (by decide), fun h => absurd (nlt_trans h h2) (nlt_irrefl a)⟩
theorem cmpOK.eq {r : Int32} {a b : List Nat} (h : cmpOK r a b) : r = 0 ↔ a = b := by
  rcases h with ⟨h1, h2⟩ | ⟨h1, h2⟩ | ⟨h1, h2⟩
  · exact ⟨fun h => by subst h; exact absurd h1 (by decide), fun h => by subst h; exact absurd h2 (nlt_irrefl a)⟩
  · exact ⟨fun _ => h2, fun _ => h1⟩
  · exact ⟨fun h => by subst h; exact absurd h1 (by decide), fun h => by subst h; exact absurd h2 (nlt_irrefl a)⟩
theorem cmpOK.gt {r : Int32} {a b : List Nat} (h : cmpOK r a b) : 0 < r ↔ nlt b a := by
  rcases h with ⟨h1, h2⟩ | ⟨h1, h2⟩ | ⟨h1, h2⟩
  · exact ⟨fun h => absurd (Int32.lt_trans h h1) (by decide), fun h => absurd (nlt_trans h h2) (nlt_irrefl b)⟩
  · subst h1 h2; exact ⟨fun h => absurd h (by decide), fun h => absurd h (nlt_irrefl a)⟩
  · exact ⟨fun _ => h2, fun _ => h1⟩
theorem nI_sub_cmp {a b : Nat} (ha : a < 2 ^ 30) (hb : b < 2 ^ 30) : (a < b → nI a - nI b < 0) ∧ (a = b → nI a - nI b = 0) ∧ (b < a → 0 < nI a - nI b) := by
  refine ⟨fun h => pk_sneg hb h, fun h => by subst h; rw [pk_sub (Nat.le_refl _), Nat.sub_self]; rfl, fun h => ?_⟩
  rw [pk_sub (by omega)]
  exact nI_lt (a := 0) (by omega) (by omega)
/-- a comparison that ends at a difference -/
theorem cmp_diff {n m : Nat} {g h : Nat → Int32} {i : Nat} (hn : i < n) (hm : i < m) (he : ∀ j, j < i → ub (g j) = ub (h j)) (hne : ub (g i) ≠ ub (h i)) : cmpOK (nI (ub (g i)) - nI (ub (h i))) (nmL n g) (nmL m h) := by
  have h1 := ub_lt (g i)
  have h2 := ub_lt (h i)
  have hc := nI_sub_cmp (a := ub (g i)) (b := ub (h i)) (by omega) (by omega)
  have hj : ∀ j, j < i → (nmL n g)[j]? = (nmL m h)[j]? := fun j hji => by rw [nmL_get (by omega), nmL_get (by omega), he j hji]
  rcases Nat.lt_or_gt_of_ne hne with z | z
  · exact Or.inl ⟨hc.1 z, nlt_at i hj (nmL_get hn) (nmL_get hm) z⟩
  · exact Or.inr (Or.inr ⟨hc.2.2 z, nlt_at i (fun j hji => (hj j hji).symm) (nmL_get hm) (nmL_get hn) z⟩)
/-- a comparison that comes to an end of one of the names -/
theorem cmp_end {n m : Nat} {g h : Nat → Int32} (hn : n < 2 ^ 30) (hm : m < 2 ^ 30) (he : ∀ j, j < n → j < m → ub (g j) = ub (h j)) : cmpOK (nI n - nI m) (nmL n g) (nmL m h) := by
  have hc := nI_sub_cmp (a := n) (b := m) hn hm
  rcases Nat.lt_trichotomy n m with z | z | z
  · exact Or.inl ⟨hc.1 z, nlt_pre (fun j hj => by rw [nmL_len] at hj; rw [nmL_get hj, nmL_get (by omega), he j hj (by omega)]) (by rw [nmL_len, nmL_len]; exact z)⟩
  · exact Or.inr (Or.inl ⟨hc.2.1 z, nl_eq (by rw [nmL_len, nmL_len]; exact z) (fun j hj => by rw [nmL_len] at hj; rw [nmL_get hj, nmL_get (by omega), he j hj (by omega)])⟩)
  · exact Or.inr (Or.inr ⟨hc.2.2 z, nlt_pre (fun j hj => by rw [nmL_len] at hj; rw [nmL_get hj, nmL_get (by omega), he j (by omega) hj]) (by rw [nmL_len, nmL_len]; exact z)⟩)
/-- byte k of a word, as addWord casts it -/
def wb (x k : Int32) : Int32 := Int8.toInt32 (Int32.toInt8 ((Int32.toUInt32 x >>> (Int32.toUInt32 k &&& Int32.toUInt32 31)).toInt32))
def upd4 (g : Nat → Int32) (n : Nat) (x : Int32) : Nat → Int32 := upd (upd (upd (upd g n (wb x 24)) (n + 1) (wb x 16)) (n + 2) (wb x 8)) (n + 3) (wb x 0)
theorem i8_idem (x : Int32) : Int8.toInt32 (Int32.toInt8 (Int8.toInt32 (Int32.toInt8 x))) = Int8.toInt32 (Int32.toInt8 x) := by simp
theorem upd4_fit {g : Nat → Int32} {n : Nat} {x : Int32} (hg : sb_Fit g) : sb_Fit (upd4 g n x) := sb_fitU (sb_fitU (sb_fitU (sb_fitU hg (pk_fb _)) (pk_fb _)) (pk_fb _)) (pk_fb _)
end
section
/-! lists: ArrayList's two cells -/
section GHL
variable {p : Program} {l : Launch} {e : Env} {R : Room} {s : State} {m : MethodId} {args : Array Value} {below : List Frame} {meth : Method} {c : Code} {H : Heap} {locs : List Loc} {cells slots : Nat} {Q : State → Prop}
variable {cc : ByteArray} {pc : Nat} {ls : Array Slot} {rest : List Value} {P : gPar} {a : Nat} {f : gM} {own : String} {index nL : Nat}
theorem gh_gets0 (S : CallFix p m c cc nL s args gw own) (hI : gB P f s H locs) (hlink : Cond.fieldLink own index R_AL "DEFAULTCAPACITY_EMPTY_ELEMENTDATA" "[Ljava/lang/Object;" ∈ gw) (hdg : decode cc pc = .ok (.getstatic index, 3))
    (kk : W p l e R s m args below meth c H locs cells slots Q (F0 m (pc + 3) ls (.ref P.2.2.2.1 :: rest))) : W p l e R s m args below meth c H locs cells slots Q (F0 m pc ls rest) :=
  va_gets S.1 S.2.1 hI.1.2.2.2.2.2.2.2.1 hI.2.2 S.2.2.2.1 (S.2.2.2.2 _ hlink) (fun _ h => h) hdg kk
theorem gh_zlen (S : CallFix p m c cc nL s args gw own) (hI : gB P f s H locs) (hdg : decode cc pc = .ok (.arraylength, 1))
    (kk : W p l e R s m args below meth c H locs cells slots Q (F0 m (pc + 1) ls (.int (nI 0) :: rest))) : W p l e R s m args below meth c H locs cells slots Q (F0 m pc ls (.ref P.2.2.2.1 :: rest)) :=
  va_tlen S.1 S.2.1 hI.1.2.2.2.2.2.2.2.2.1 hI.2.2 rfl hdg kk
theorem gh_ldcM (S : CallFix p m c cc nL s args gw own) (hI : gB P f s H locs) (hlink : Cond.classLink own index "[Ljava/lang/Object;" ∈ gw) (hdg : decode cc pc = .ok (.ldc index, 2))
    (kk : W p l e R s m args below meth c H locs cells slots Q (F0 m (pc + 2) ls (.ref P.2.2.2.2 :: rest))) : W p l e R s m args below meth c H locs cells slots Q (F0 m pc ls rest) :=
  va_ldcM S.1 S.2.1 S.2.2.2.1 (S.2.2.2.2 _ hlink) hI.1.2.2.2.2.2.2.1 hdg kk
theorem gh_acmpne {x : Nat} {off : Int} (S : CallFix p m c cc nL s args gw own) (hdg : decode cc pc = .ok (.if_acmp .ne off, 3)) {tgt : Nat} (ht : (pc : Int) + off = (tgt : Int))
    (kk : W p l e R s m args below meth c H locs cells slots Q (F0 m (pc + 3) ls rest)) : W p l e R s m args below meth c H locs cells slots Q (F0 m pc ls (.ref x :: .ref x :: rest)) :=
  lv_acmp_ne (rx := some x) (ry := some x) (tgt := tgt) S.1 S.2.1 hdg ht (fun h => absurd rfl h) (fun _ => kk)
theorem gh_acmpeq {x : Nat} {off : Int} (S : CallFix p m c cc nL s args gw own) (hdg : decode cc pc = .ok (.if_acmp .eq off, 3)) {tgt : Nat} (ht : (pc : Int) + off = (tgt : Int))
    (kk : W p l e R s m args below meth c H locs cells slots Q (F0 m tgt ls rest)) : W p l e R s m args below meth c H locs cells slots Q (F0 m pc ls (.ref x :: .ref x :: rest)) :=
  lv_acmp_eq (rx := some x) (ry := some x) (tgt := tgt) S.1 S.2.1 hdg ht (fun _ => kk) (fun h => absurd rfl h)
theorem gh_recvA {n : Nat} {g : Nat → Option Nat} (hI : gB P f s H locs) (he : f a = some (.inl (P.2.1 4, n, .inr (.inr (.inr (.inr g)))))) : ∃ cell : Cell, H[a]? = some cell ∧ cell.vm.isStatics = false ∧ s.vm.findClass "[Ljava/lang/Object;" = some cell.cls := by
  obtain ⟨hX, hH, hS⟩ := hI
  obtain ⟨L, k0, hL, hP, hD, h0⟩ := gh_open hH he
  refine ⟨_, hP k0 _ h0, rfl, ?_⟩
  exact va_nmO (hX.1.2 4 _ rfl).2 (by decide +kernel)
theorem gh_getC {n : Nat} {g : Nat → Option Nat} (S : CallFix p m c cc nL s args gw own) (hI : gB P f s H locs) (hls : ls.size = nL) (he : f a = some (.inl (P.2.1 4, n, .inr (.inr (.inr (.inr g)))))) (hlink : Cond.methodLink own index ⟨"java/lang/Object", "getClass", "()Ljava/lang/Class;"⟩ ∈ gw) (hsel : Cond.selects "[Ljava/lang/Object;" ⟨"java/lang/Object", "getClass", "()Ljava/lang/Class;"⟩ ⟨"java/lang/Object", "getClass", "()Ljava/lang/Class;"⟩ ∈ gw) (hinst : Cond.instanceMethod ⟨"java/lang/Object", "getClass", "()Ljava/lang/Class;"⟩ ∈ gw) (hnat : Cond.native ⟨"java/lang/Object", "getClass", "()Ljava/lang/Class;"⟩ ∈ gw) (hf : 1 ≤ R.frames) (hrest : (rest.map fun v => v.category).sum + 14 ≤ R.locals) (hdg : decode cc pc = .ok (.invokevirtual index, 3))
    (kk : W p l e R s m args below meth c H locs cells slots Q (F0 m (pc + 3) ls (.ref P.2.2.2.2 :: rest))) : W p l e R s m args below meth c H locs cells slots Q (F0 m pc ls (.ref a :: rest)) :=
  va_getC S.1 S.2.1 (S.2.2.1.trans hls.symm) S.2.2.2.1 (S.2.2.2.2 _ hlink) (va_Dc.use hI.1.2.2.2.2.2.1) (S.2.2.2.2 _ hsel) (S.2.2.2.2 _ hinst) (S.2.2.2.2 _ hnat) hI.1.2.2.2.2.2.2.1 (gh_recvA hI he) hf hrest hdg kk
end GHL
/-- all of L are objects of the class k, File or Piece -/
def gEl (k : Nat) (f : gM) (L : List Nat) : Prop := (k = 4 ∨ k = 2) ∧ ∀ y ∈ L, ∃ fs, f y = some (.inr (k, fs))
theorem gEl.fr {k : Nat} {f f1 : gM} {L l : List Nat} (h : gEl k f L) (hF : gFr f f1 l) (hl : ∀ y ∈ L, y ∉ l) : gEl k f1 L := ⟨h.1, fun y hy => by
  obtain ⟨fs, e⟩ := h.2 y hy
  exact ⟨fs, hF y _ e (hl y hy)⟩⟩
theorem gEl.any {p : Program} {k : Nat} {f : gM} {L : List Nat} {P : gPar} {s : State} {H : Heap} {locs : List Loc} (h : gEl k f L) (hI : gB P f s H locs) {y : Nat} (hy : y ∈ L) : va_Any "java/lang/Object" s H y := by
  obtain ⟨hk, h⟩ := h
  obtain ⟨fs, e⟩ := h y hy
  rcases hk with rfl | rfl
  · exact gh_any hI e (r := (R_File, F_File, 5)) rfl hI.1.2.2.1.2.2.2.2.1
  · exact gh_any hI e (r := (R_Piece, F_Piece, 1)) rfl hI.1.2.2.1.2.2.2.2.2
/-- the array e of cap places holds L at its beginning -/
def gAr (P : gPar) (f : gM) (e cap : Nat) (L : List Nat) : Prop := ∃ g : Nat → Option Nat, f e = some (.inl (P.2.1 4, cap, .inr (.inr (.inr (.inr g))))) ∧ L.length ≤ cap ∧ ∀ i, i < L.length → g i = L[i]?
/-- the list object a with its array e holds L -/
def gLi (P : gPar) (f : gM) (a e cap : Nat) (L : List Nat) : Prop := (∃ m : Int32, f a = some (.inr (6, [.int m, .ref e, .int (nI L.length)]))) ∧ ((e = P.2.2.2.1 ∧ cap = 0 ∧ L = []) ∨ (0 < cap ∧ gAr P f e cap L))
theorem gAr.fr {P : gPar} {f f1 : gM} {e cap : Nat} {L l : List Nat} (h : gAr P f e cap L) (hF : gFr f f1 l) (he : e ∉ l) : gAr P f1 e cap L := by
  obtain ⟨g, h1, h2, h3⟩ := h
  exact ⟨g, hF e _ h1 he, h2, h3⟩
theorem gLi.fr {P : gPar} {f f1 : gM} {a e cap : Nat} {L l : List Nat} (h : gLi P f a e cap L) (hF : gFr f f1 l) (ha : a ∉ l) (he : e ∉ l) : gLi P f1 a e cap L := by
  obtain ⟨⟨m, h1⟩, h2⟩ := h
  exact ⟨⟨m, hF a _ h1 ha⟩, h2.imp id (fun z => ⟨z.1, z.2.fr hF he⟩)⟩
theorem gLi.ar {P : gPar} {f : gM} {a e cap : Nat} {L : List Nat} (h : gLi P f a e cap L) {i : Nat} (hi : i < L.length) : gAr P f e cap L := by
  rcases h.2 with ⟨-, -, rfl⟩ | h
  · simp at hi
  · exact h.2
theorem gLi.le {P : gPar} {f : gM} {a e cap : Nat} {L : List Nat} (h : gLi P f a e cap L) : L.length ≤ cap := by
  rcases h.2 with ⟨-, rfl, rfl⟩ | ⟨-, g, -, h, -⟩
  · exact Nat.le_refl _
  · exact h
theorem l_set {L : List Nat} {g : Nat → Option Nat} {i x : Nat} (h : ∀ j, j < L.length → g j = L[j]?) : ∀ j, j < (L.set i x).length → va_up g i (some x) j = (L.set i x)[j]? := fun j hj => by
  rw [List.length_set] at hj
  by_cases e : j = i
  · subst e; rw [va_up_self, List.getElem?_set_self hj]
  · rw [va_up_ne _ _ e, List.getElem?_set_ne (Ne.symm e)]; exact h j hj
theorem l_push {L : List Nat} {g : Nat → Option Nat} {x : Nat} (h : ∀ j, j < L.length → g j = L[j]?) : ∀ j, j < (L ++ [x]).length → va_up g L.length (some x) j = (L ++ [x])[j]? := fun j hj => by
  rw [List.length_append, List.length_singleton] at hj
  by_cases e : j = L.length
  · subst e; rw [va_up_self, List.getElem?_append_right (Nat.le_refl _), Nat.sub_self]; rfl
  · rw [va_up_ne _ _ e, List.getElem?_append_left (by omega)]; exact h j (by omega)
theorem l_erase {L : List Nat} {g : Nat → Option Nat} {i k : Nat} {z : Option Nat} (hi : i < L.length) (hk : k = L.length - 1 - i) (h : ∀ j, j < L.length → g j = L[j]?) : ∀ j, j < (L.eraseIdx i).length → va_up (va_cpy g g (i + 1) i k) (L.length - 1) z j = (L.eraseIdx i)[j]? := fun j hj => by
  rw [List.length_eraseIdx_of_lt hi] at hj
  rw [va_up_ne _ _ (by omega), List.getElem?_eraseIdx]
  by_cases e : j < i
  · rw [if_pos e, pk_cpy_out (Or.inl e)]; exact h j (by omega)
  · rw [if_neg e, pk_cpy_in (by omega) (by omega), h _ (by omega)]
    congr 1; omega
theorem l_erase1 {L : List Nat} {g : Nat → Option Nat} {z : Option Nat} (hi : 0 < L.length) (h : ∀ j, j < L.length → g j = L[j]?) : ∀ j, j < (L.eraseIdx (L.length - 1)).length → va_up g (L.length - 1) z j = (L.eraseIdx (L.length - 1))[j]? := fun j hj => by
  rw [List.length_eraseIdx_of_lt (by omega)] at hj
  rw [va_up_ne _ _ (by omega), List.getElem?_eraseIdx, if_pos (by omega)]
  exact h j (by omega)
theorem l_ins {L : List Nat} {g : Nat → Option Nat} {i x k : Nat} (hi : i ≤ L.length) (hk : k = L.length - i) (h : ∀ j, j < L.length → g j = L[j]?) : ∀ j, j < (L.insertIdx i x).length → va_up (va_cpy g g i (i + 1) k) i (some x) j = (L.insertIdx i x)[j]? := fun j hj => by
  rw [List.length_insertIdx_of_le_length hi] at hj
  rw [List.getElem?_insertIdx]
  by_cases e : j < i
  · rw [if_pos e, va_up_ne _ _ (by omega), pk_cpy_out (by omega)]; exact h j (by omega)
  · rw [if_neg e]
    by_cases e2 : j = i
    · subst e2; rw [va_up_self, if_pos rfl, if_pos hi]
    · rw [if_neg e2, va_up_ne _ _ e2, pk_cpy_in (by omega) (by omega), h _ (by omega)]
      congr 1; omega
/-- how many places a full array of n gets -/
def gcap (n : Nat) : Nat := if n = 0 then 10 else n + max 1 (n / 2)
theorem gh_aastA {p : Program} {l : Launch} {e : Env} {R : Room} {s : State} {m : MethodId} {args : Array Value} {below : List Frame} {meth : Method} {c : Code} {H : Heap} {locs : List Loc} {cells slots : Nat} {Q : State → Prop} {cc : ByteArray} {pc : Nat} {ls : Array Slot} {rest : List Value} {P : gPar} {a : Nat} {f : gM} {own : String} {nL : Nat}
    (S : CallFix p m c cc nL s args gw own) (hI : gB P f s H locs) {n v k : Nat} {vs : List Value} {g : Nat → Option Nat} (he : f a = some (.inl (P.2.1 4, n, .inr (.inr (.inr (.inr g)))))) (hk : k = 4 ∨ k = 2) (hv : f v = some (.inr (k, vs))) {i : Int32} {j : Nat} (hi : i = nI j) (hj : j < n) (hn : n < 2 ^ 31) (hdg : decode cc pc = .ok (.aastore, 1))
    (kk : ∀ (H1 : Heap) (locs1 : List Loc), gB P (va_up f a (some (.inl (P.2.1 4, n, .inr (.inr (.inr (.inr (va_up g j (some v))))))))) s H1 locs1 → W p l e R s m args below meth c H1 locs1 cells slots Q (F0 m (pc + 1) ls rest)) : W p l e R s m args below meth c H locs cells slots Q (F0 m pc ls (.ref v :: .int i :: .ref a :: rest)) := by
  rcases hk with rfl | rfl
  · exact gh_aastO S hI 4 he rfl (r := (R_File, F_File, 5)) hI.1.2.2.1.2.2.2.2.1 hv rfl hi hj hn hdg kk
  · exact gh_aastO S hI 4 he rfl (r := (R_Piece, F_Piece, 1)) hI.1.2.2.1.2.2.2.2.2 hv rfl hi hj hn hdg kk
end
section
set_option maxHeartbeats 4000000 in
set_option maxRecDepth 100000 in
/-- Arrays.rangeCheck: nothing -/
theorem c_Arrs_rangeCheck (l : Launch) (P : gPar) (f : gM) {n lo hi : Nat} (h1 : lo ≤ hi) (h2 : hi ≤ n) (h3 : n < 2 ^ 31) : gC l P y_Arrs_rangeCheck b_Arrs_rangeCheck 3 none 1 0 0 [.int (nI n), .int (nI lo), .int (nI hi)] f (gQv P (fun f1 => f1 = f)) := by
  refine gC_of (by decide) (Nat.le_of_ble_eq_true rfl) (fun p env s m args below meth c S hr hlk hnm H locs hI ls hl => ?_)
  have hl : lv_has ls 3 [(0, .int (nI n)), (1, .int (nI lo)), (2, .int (nI hi))] := hl
  refine lv_iload_n S.1 S.2.1 d_Arrs_rangeCheck_0 rfl (lv_at hl 1 rfl) ?_
  refine lv_iload_n S.1 S.2.1 d_Arrs_rangeCheck_1 rfl (lv_at hl 2 rfl) ?_
  refine lv_icmp_le (tgt := 46) S.1 S.2.1 d_Arrs_rangeCheck_2 (by decide) (fun c1 => ?_) (fun c1 => ?_)
  · skip
    replace c1 : lo ≤ hi := (nI_leI (a := lo) (b := hi) (by omega) (by omega)).mp c1
    refine lv_iload_n S.1 S.2.1 d_Arrs_rangeCheck_46 rfl (lv_at hl 1 rfl) ?_
    refine lv_if_ge (tgt := 59) S.1 S.2.1 d_Arrs_rangeCheck_47 (by decide) (fun c2 => ?_) (fun c2 => ?_)
    · skip
      refine lv_iload_n S.1 S.2.1 d_Arrs_rangeCheck_59 rfl (lv_at hl 2 rfl) ?_
      refine lv_iload_n S.1 S.2.1 d_Arrs_rangeCheck_60 rfl (lv_at hl 0 rfl) ?_
      refine lv_icmp_le (tgt := 73) S.1 S.2.1 d_Arrs_rangeCheck_61 (by decide) (fun c3 => ?_) (fun c3 => ?_)
      · skip
        replace c3 : hi ≤ n := (nI_leI (a := hi) (b := n) (by omega) (by omega)).mp c3
        exact gr_v S hr hlk hI (rfl) d_Arrs_rangeCheck_73
      · skip
        replace c3 : ¬ hi ≤ n := fun z => c3 ((nI_leI (a := hi) (b := n) (by omega) (by omega)).mpr z)
        exact absurd c3 (by omega)
    · skip
      exact absurd (nI_pos' (by omega)) c2
  · skip
    replace c1 : ¬ lo ≤ hi := fun z => c1 ((nI_leI (a := lo) (b := hi) (by omega) (by omega)).mpr z)
    exact absurd c1 (by omega)
set_option maxHeartbeats 4000000 in
set_option maxRecDepth 100000 in
/-- Arrays.fill of bytes -/
theorem c_Arrs_fill (l : Launch) (P : gPar) (f : gM) {a n lo hi : Nat} {g : Nat → Int32} {x : Int32} (ha : f a = some (.inl (P.2.1 0, n, .inl g))) (h1 : lo ≤ hi) (h2 : hi ≤ n) (h3 : n < 2 ^ 31) (hx : Int8.toInt32 (Int32.toInt8 x) = x) : gC l P y_Arrs_fill b_Arrs_fill 5 none 2 0 0 [.ref a, .int (nI lo), .int (nI hi), .int x] f (gQv P (fun f1 => f1 = va_up f a (some (.inl (P.2.1 0, n, .inl (g_fil g lo hi x)))))) := by
  refine gC_of (by decide) (Nat.le_of_ble_eq_true rfl) (fun p env s m args below meth c S hr hlk hnm H locs hI ls hl => ?_)
  have hl : lv_has ls 5 [(0, .ref a), (1, .int (nI lo)), (2, .int (nI hi)), (3, .int x)] := hl
  refine lv_aload_n S.1 S.2.1 d_Arrs_fill_0 rfl (lv_at hl 0 rfl) ?_
  refine gh_alen S hI 0 ha rfl d_Arrs_fill_1 ?_
  refine lv_iload_n S.1 S.2.1 d_Arrs_fill_2 rfl (lv_at hl 1 rfl) ?_
  refine lv_iload_n S.1 S.2.1 d_Arrs_fill_3 rfl (lv_at hl 2 rfl) ?_
  refine gc_Sv S hI (c_Arrs_rangeCheck l P f (n := n) (lo := lo) (hi := hi) h1 h2 h3) kv_Arrs_rangeCheck wi_325 rfl hl.1 rfl (Nat.le_of_ble_eq_true rfl) ⟨Nat.le_of_ble_eq_true rfl, Nat.le_of_ble_eq_true rfl⟩ ⟨Nat.le_of_ble_eq_true rfl, Nat.le_of_ble_eq_true rfl⟩ d_Arrs_fill_4 (fun f5 H locs hp6 hI => ?_)
  rw [hp6] at hI
  refine lv_iload_n S.1 S.2.1 d_Arrs_fill_7 rfl (lv_at hl 1 rfl) ?_
  refine lv_istore (lv' := [(4, .int (nI lo)), (0, .ref a), (1, .int (nI lo)), (2, .int (nI hi)), (3, .int x)]) S.1 S.2.1 d_Arrs_fill_8 hl (by decide) rfl (fun ls hl => ?_)
  have hI0 : gB P (va_up f a (some (.inl (P.2.1 0, n, .inl (g_fil g lo lo x))))) s H locs := by
    have e0 : va_up f a (some (.inl (P.2.1 0, n, .inl (g_fil g lo lo x)))) = f := by
      rw [g_fil_0]; funext q; unfold va_up; by_cases h : q = a
      · rw [if_pos h, h, ha]
      · rw [if_neg h]
    rw [e0]; exact hI
  have loop : ∀ (k j : Nat), lo ≤ j → j ≤ hi → hi - j < k → ∀ (H : Heap) (locs : List Loc), gB P (va_up f a (some (.inl (P.2.1 0, n, .inl (g_fil g lo j x))))) s H locs → ∀ ls : Array Slot, lv_has ls 5 [(4, .int (nI j)), (0, .ref a), (1, .int (nI lo)), (2, .int (nI hi)), (3, .int x)] → W p l env (grm 2 0 0) s m args below meth c H locs 0 0 (MQ below (gQv P (fun f1 => f1 = va_up f a (some (.inl (P.2.1 0, n, .inl (g_fil g lo hi x)))))) args s 0 0 (gA P)) (F0 m 10 ls []) := by
    intro k
    induction k with
    | zero => intro j h4 h5 h6; exact absurd h6 (by omega)
    | succ k ih =>
      intro j h4 h5 h6 H locs hI ls hl
      obtain ⟨fj, ej⟩ : ∃ z, z = va_up f a (some (.inl (P.2.1 0, n, .inl (g_fil g lo j x)))) := ⟨_, rfl⟩
      rw [← ej] at hI
      have hj : fj a = some (.inl (P.2.1 0, n, .inl (g_fil g lo j x))) := by rw [ej]; exact va_up_self _ _ _
      refine lv_iload S.1 S.2.1 d_Arrs_fill_10 (lv_at hl 0 rfl) ?_
      refine lv_iload_n S.1 S.2.1 d_Arrs_fill_12 rfl (lv_at hl 3 rfl) ?_
      refine lv_icmp_ge (tgt := 27) S.1 S.2.1 d_Arrs_fill_13 (by decide) (fun c7 => ?_) (fun c7 => ?_)
      · skip
        replace c7 : hi ≤ j := (nI_leI (a := hi) (b := j) (by omega) (by omega)).mp c7
        exact gr_v S hr hlk hI (by rw [ej, show j = hi by omega]) d_Arrs_fill_27
      · skip
        replace c7 : ¬ hi ≤ j := fun z => c7 ((nI_leI (a := hi) (b := j) (by omega) (by omega)).mpr z)
        refine lv_aload_n S.1 S.2.1 d_Arrs_fill_16 rfl (lv_at hl 1 rfl) ?_
        refine lv_iload S.1 S.2.1 d_Arrs_fill_17 (lv_at hl 0 rfl) ?_
        refine lv_iload_n S.1 S.2.1 d_Arrs_fill_19 rfl (lv_at hl 4 rfl) ?_
        refine gh_bast (j := j) S hI 0 hj rfl rfl (by omega) (by omega) d_Arrs_fill_20 (fun H locs hI => ?_)
        have hI : gB P (va_up fj a (some (.inl (P.2.1 0, n, .inl (upd (g_fil g lo j x) j (Int8.toInt32 (Int32.toInt8 x))))))) s H locs := hI
        obtain ⟨f8, ef8⟩ : ∃ z, z = va_up fj a (some (.inl (P.2.1 0, n, .inl (upd (g_fil g lo j x) j (Int8.toInt32 (Int32.toInt8 x)))))) := ⟨_, rfl⟩
        rw [← ef8] at hI
        have h9 : f8 a = some (.inl (P.2.1 0, n, .inl (upd (g_fil g lo j x) j (Int8.toInt32 (Int32.toInt8 x))))) := by rw [ef8]; exact va_up_self _ _ _
        refine lv_iinc (v := nI (j + 1)) (lv' := [(4, .int (nI (j + 1))), (0, .ref a), (1, .int (nI lo)), (2, .int (nI hi)), (3, .int x)]) S.1 S.2.1 d_Arrs_fill_21 hl (k := 0) rfl (nI_add _ _) (by decide) rfl (fun ls hl => ?_)
        have eU : f8 = va_up f a (some (.inl (P.2.1 0, n, .inl (g_fil g lo (j + 1) x)))) := by rw [ef8, ej, bx_uu, hx, g_fil_s _ h4]
        rw [eU] at hI
        refine lv_goto (tgt := 10) S.1 S.2.1 d_Arrs_fill_24 (by decide) ?_
        exact ih (j + 1) (by omega) (by omega) (by omega) _ _ hI _ (lv_sub hl [0, 1, 2, 3, 4] rfl)
  exact loop (hi - lo + 1) lo (Nat.le_refl _) h1 (by omega) _ _ hI0 _ (lv_sub hl [0, 1, 2, 3, 4] rfl)
end
section
set_option maxHeartbeats 4000000 in
set_option maxRecDepth 100000 in
/-- Row(most) -/
theorem c_Row_init (l : Launch) (P : gPar) (f : gM) {a cap : Nat} (ha : f a = some (.inr (1, [.null, .int 0]))) (hc : cap < 2 ^ 20) : gC l P y_Row_init b_Row_init 2 none 1 1 cap [.ref a, .int (nI cap)] f (gQv P (fun f1 => ∃ b, f b = none ∧ f1 a = some (.inr (1, [.ref b, .int (nI 0)])) ∧ f1 b = some (.inl (P.2.1 0, cap, .inl (fun _ => 0))) ∧ gFr f f1 [a])) := by
  refine gC_of (by decide) (Nat.le_of_ble_eq_true rfl) (fun p env s m args below meth c S hr hlk hnm H locs hI ls hl => ?_)
  have hl : lv_has ls 2 [(0, .ref a), (1, .int (nI cap))] := hl
  have hF : gFr f f [a] := gFr.rf
  refine lv_aload_n S.1 S.2.1 d_Row_init_0 rfl (lv_at hl 0 rfl) ?_
  refine gc_obj S wi_30 hl.1 d_Row_init_1 (Nat.le_of_ble_eq_true rfl) (Nat.le_of_ble_eq_true rfl) ?_
  refine lv_aload_n S.1 S.2.1 d_Row_init_4 rfl (lv_at hl 0 rfl) ?_
  refine lv_iload_n S.1 S.2.1 d_Row_init_5 rfl (lv_at hl 1 rfl) ?_
  refine gh_newb (n := cap) S hI 0 rfl wi_33 rfl (by omega) (Nat.le_of_ble_eq_true rfl) (by show _ ≤ cap; omega) d_Row_init_6 (fun q1 H hnq1 hI => ?_)
  have hI : gB P (va_up f q1 (some (.inl (P.2.1 0, cap, .inl (fun _ => 0))))) s H locs := hI
  obtain ⟨f2, ef2⟩ : ∃ z, z = va_up f q1 (some (.inl (P.2.1 0, cap, .inl (fun _ => 0)))) := ⟨_, rfl⟩
  rw [← ef2] at hI
  have h3 : f2 a = some (.inr (1, [.null, .int 0])) := by rw [ef2, va_up_ne _ _ (gh_ne ha hnq1 (by intro h; cases h))]; exact ha
  have h4 : f2 q1 = some (.inl (P.2.1 0, cap, .inl (fun _ => 0))) := by rw [ef2]; exact va_up_self _ _ _
  have hF : gFr f f2 [a] := by rw [ef2]; exact gFr.upN hnq1 hF
  refine gh_putF S hI h3 rfl i_Row t_Row tk_Row n_Row 0 (by decide) wi_31 rfl hnm rfl rfl rfl (Nat.le_of_ble_eq_true rfl) d_Row_init_8 (fun H locs hI => ?_)
  have hI : gB P (va_up f2 a (some (.inr (1, [.ref q1, .int 0])))) s H locs := hI
  obtain ⟨f5, ef5⟩ : ∃ z, z = va_up f2 a (some (.inr (1, [.ref q1, .int 0]))) := ⟨_, rfl⟩
  rw [← ef5] at hI
  have h6 : f5 q1 = some (.inl (P.2.1 0, cap, .inl (fun _ => 0))) := by rw [ef5, va_up_ne _ _ (gh_ne h4 h3 (by intro h; cases h))]; exact h4
  have h7 : f5 a = some (.inr (1, [.ref q1, .int 0])) := by rw [ef5]; exact va_up_self _ _ _
  have hF : gFr f f5 [a] := by rw [ef5]; exact gFr.upA (by simp) hF
  refine lv_aload_n S.1 S.2.1 d_Row_init_11 rfl (lv_at hl 0 rfl) ?_
  refine lv_iconst (v := nI 0) S.1 S.2.1 d_Row_init_12 (by decide) ?_
  refine gh_put S hI h7 rfl i_Row t_Row tk_Row n_Row 1 (by decide) wi_32 rfl rfl rfl (Nat.le_of_ble_eq_true rfl) d_Row_init_13 (fun H locs hI => ?_)
  have hI : gB P (va_up f5 a (some (.inr (1, [.ref q1, .int (nI 0)])))) s H locs := hI
  obtain ⟨f8, ef8⟩ : ∃ z, z = va_up f5 a (some (.inr (1, [.ref q1, .int (nI 0)]))) := ⟨_, rfl⟩
  rw [← ef8] at hI
  have h9 : f8 q1 = some (.inl (P.2.1 0, cap, .inl (fun _ => 0))) := by rw [ef8, va_up_ne _ _ (gh_ne h6 h7 (by intro h; cases h))]; exact h6
  have h10 : f8 a = some (.inr (1, [.ref q1, .int (nI 0)])) := by rw [ef8]; exact va_up_self _ _ _
  have hF : gFr f f8 [a] := by rw [ef8]; exact gFr.upA (by simp) hF
  refine W.widen (k := 1) (n := cap) (by omega) (by omega) ?_
  exact gr_v S hr hlk hI (⟨q1, hnq1, h10, h9, hF⟩) d_Row_init_16
set_option maxHeartbeats 4000000 in
set_option maxRecDepth 100000 in
theorem c_Row_length (l : Launch) (P : gPar) (f : gM) {a b n : Nat} (ha : f a = some (.inr (1, [.ref b, .int (nI n)]))) : gC l P y_Row_length b_Row_length 1 (some .int) 0 0 0 [.ref a] f (gQi P (fun r f1 => r = nI n ∧ f1 = f)) := by
  refine gC_of (by decide) (Nat.le_of_ble_eq_true rfl) (fun p env s m args below meth c S hr hlk hnm H locs hI ls hl => ?_)
  have hl : lv_has ls 1 [(0, .ref a)] := hl
  refine lv_aload_n S.1 S.2.1 d_Row_length_0 rfl (lv_at hl 0 rfl) ?_
  refine gh_get S hI ha rfl i_Row 1 (by decide) wi_32 rfl d_Row_length_1 ?_
  exact gr_i S hr hlk hI (⟨rfl, rfl⟩) d_Row_length_4
set_option maxHeartbeats 4000000 in
set_option maxRecDepth 100000 in
theorem c_Row_isEmpty (l : Launch) (P : gPar) (f : gM) {a b n : Nat} (ha : f a = some (.inr (1, [.ref b, .int (nI n)]))) (hn : n < 2 ^ 31) : gC l P y_Row_isEmpty b_Row_isEmpty 1 (some .boolean) 0 0 0 [.ref a] f (gQi P (fun r f1 => r = (if n = 0 then nI 1 else nI 0) ∧ f1 = f)) := by
  refine gC_of (by decide) (Nat.le_of_ble_eq_true rfl) (fun p env s m args below meth c S hr hlk hnm H locs hI ls hl => ?_)
  have hl : lv_has ls 1 [(0, .ref a)] := hl
  refine lv_aload_n S.1 S.2.1 d_Row_isEmpty_0 rfl (lv_at hl 0 rfl) ?_
  refine gh_get S hI ha rfl i_Row 1 (by decide) wi_32 rfl d_Row_isEmpty_1 ?_
  refine lv_if_ne (tgt := 11) S.1 S.2.1 d_Row_isEmpty_4 (by decide) (fun c11 => ?_) (fun c11 => ?_)
  · skip
    replace c11 : ¬ n = 0 := fun z => c11 ((nI_eq (a := n) (b := 0) (by omega) (by omega)).mpr z)
    refine lv_iconst (v := nI 0) S.1 S.2.1 d_Row_isEmpty_11 (by decide) ?_
    exact gr_z S hr hlk hI (by first | exact Or.inl rfl | exact Or.inr rfl) (⟨(if_neg c11).symm, rfl⟩) d_Row_isEmpty_12
  · skip
    replace c11 : n = 0 := (nI_eq (a := n) (b := 0) (by omega) (by omega)).mp c11
    refine lv_iconst (v := nI 1) S.1 S.2.1 d_Row_isEmpty_7 (by decide) ?_
    refine lv_goto (tgt := 12) S.1 S.2.1 d_Row_isEmpty_8 (by decide) ?_
    exact gr_z S hr hlk hI (by first | exact Or.inl rfl | exact Or.inr rfl) (⟨(if_pos c11).symm, rfl⟩) d_Row_isEmpty_12
set_option maxHeartbeats 4000000 in
set_option maxRecDepth 100000 in
theorem c_Row_byteAt (l : Launch) (P : gPar) (f : gM) {a b n cap : Nat} {g : Nat → Int32} {i : Int32} (ha : f a = some (.inr (1, [.ref b, .int (nI n)]))) (hb : f b = some (.inl (P.2.1 0, cap, .inl g))) (hn : n ≤ cap) (hc : cap < 2 ^ 20) : gC l P y_Row_byteAt b_Row_byteAt 2 (some .int) 0 0 0 [.ref a, .int i] f (gQi P (fun r f1 => r = (if ¬ i < 0 ∧ i < nI n then nI (ub (g i.toNatClampNeg)) else (-2)) ∧ f1 = f)) := by
  refine gC_of (by decide) (Nat.le_of_ble_eq_true rfl) (fun p env s m args below meth c S hr hlk hnm H locs hI ls hl => ?_)
  have hl : lv_has ls 2 [(0, .ref a), (1, .int i)] := hl
  refine lv_iload_n S.1 S.2.1 d_Row_byteAt_0 rfl (lv_at hl 1 rfl) ?_
  refine lv_if_lt (tgt := 25) S.1 S.2.1 d_Row_byteAt_1 (by decide) (fun c12 => ?_) (fun c12 => ?_)
  · skip
    refine lv_bipush (v := (-2)) S.1 S.2.1 d_Row_byteAt_25 (by decide) ?_
    exact gr_i S hr hlk hI (⟨by rw [if_neg (fun z => absurd c12 z.1)], rfl⟩) d_Row_byteAt_27
  · skip
    obtain ⟨j, hj, rfl⟩ := nI_of c12
    refine lv_iload_n S.1 S.2.1 d_Row_byteAt_4 rfl (lv_at hl 1 rfl) ?_
    refine lv_aload_n S.1 S.2.1 d_Row_byteAt_5 rfl (lv_at hl 0 rfl) ?_
    refine gh_get S hI ha rfl i_Row 1 (by decide) wi_32 rfl d_Row_byteAt_6 ?_
    refine lv_icmp_ge (tgt := 25) S.1 S.2.1 d_Row_byteAt_9 (by decide) (fun c13 => ?_) (fun c13 => ?_)
    · skip
      replace c13 : n ≤ j := (nI_leI (a := n) (b := j) (by omega) (by omega)).mp c13
      refine lv_bipush (v := (-2)) S.1 S.2.1 d_Row_byteAt_25 (by decide) ?_
      exact gr_i S hr hlk hI (⟨by rw [if_neg (fun z => absurd z.2 (fun h => absurd ((nI_ltI (by omega) (by omega)).mp h) (by omega)))], rfl⟩) d_Row_byteAt_27
    · skip
      replace c13 : ¬ n ≤ j := fun z => c13 ((nI_leI (a := n) (b := j) (by omega) (by omega)).mpr z)
      refine lv_aload_n S.1 S.2.1 d_Row_byteAt_12 rfl (lv_at hl 0 rfl) ?_
      refine gh_get S hI ha rfl i_Row 0 (by decide) wi_31 rfl d_Row_byteAt_13 ?_
      refine lv_iload_n S.1 S.2.1 d_Row_byteAt_16 rfl (lv_at hl 1 rfl) ?_
      refine gh_bald (j := j) S hI 0 hb rfl rfl (by omega) (by omega) d_Row_byteAt_17 ?_
      refine lv_sipush (v := nI 255) S.1 S.2.1 d_Row_byteAt_18 (by decide) ?_
      refine lv_iand S.1 S.2.1 d_Row_byteAt_21 ?_
      refine lv_topi (fun v14 ev14 => ?_)
      replace ev14 : v14 = nI (ub (g j)) := ev14.trans (ub_nI _)
      subst ev14
      refine lv_goto (tgt := 27) S.1 S.2.1 d_Row_byteAt_22 (by decide) ?_
      exact gr_i S hr hlk hI (⟨by rw [if_pos ⟨c12, nI_lt (by omega) (by omega)⟩, nI_clamp (by omega)], rfl⟩) d_Row_byteAt_27
set_option maxHeartbeats 4000000 in
set_option maxRecDepth 100000 in
theorem c_Row_shorten (l : Launch) (P : gPar) (f : gM) {a b n k : Nat} (ha : f a = some (.inr (1, [.ref b, .int (nI n)]))) : gC l P y_Row_shorten b_Row_shorten 2 none 0 0 0 [.ref a, .int (nI k)] f (gQv P (fun f1 => f1 = va_up f a (some (.inr (1, [.ref b, .int (nI k)]))))) := by
  refine gC_of (by decide) (Nat.le_of_ble_eq_true rfl) (fun p env s m args below meth c S hr hlk hnm H locs hI ls hl => ?_)
  have hl : lv_has ls 2 [(0, .ref a), (1, .int (nI k))] := hl
  refine lv_aload_n S.1 S.2.1 d_Row_shorten_0 rfl (lv_at hl 0 rfl) ?_
  refine lv_iload_n S.1 S.2.1 d_Row_shorten_1 rfl (lv_at hl 1 rfl) ?_
  refine gh_put S hI ha rfl i_Row t_Row tk_Row n_Row 1 (by decide) wi_32 rfl rfl rfl (Nat.le_of_ble_eq_true rfl) d_Row_shorten_2 (fun H locs hI => ?_)
  have hI : gB P (va_up f a (some (.inr (1, [.ref b, .int (nI k)])))) s H locs := hI
  obtain ⟨f15, ef15⟩ : ∃ z, z = va_up f a (some (.inr (1, [.ref b, .int (nI k)]))) := ⟨_, rfl⟩
  rw [← ef15] at hI
  have h16 : f15 a = some (.inr (1, [.ref b, .int (nI k)])) := by rw [ef15]; exact va_up_self _ _ _
  exact gr_v S hr hlk hI (ef15) d_Row_shorten_5
set_option maxHeartbeats 4000000 in
set_option maxRecDepth 100000 in
theorem c_Row_addWord (l : Launch) (P : gPar) (f : gM) {a b n cap : Nat} {g : Nat → Int32} {x : Int32} (ha : f a = some (.inr (1, [.ref b, .int (nI n)]))) (hb : f b = some (.inl (P.2.1 0, cap, .inl g))) (hn : n + 4 ≤ cap) (hc : cap < 2 ^ 20) : gC l P y_Row_addWord b_Row_addWord 3 none 0 0 0 [.ref a, .int x] f (gQv P (fun f1 => f1 a = some (.inr (1, [.ref b, .int (nI (n + 1 + 1 + 1 + 1))])) ∧ f1 b = some (.inl (P.2.1 0, cap, .inl (upd4 g n x))) ∧ gFr f f1 [a, b])) := by
  refine gC_of (by decide) (Nat.le_of_ble_eq_true rfl) (fun p env s m args below meth c S hr hlk hnm H locs hI ls hl => ?_)
  have hl : lv_has ls 3 [(0, .ref a), (1, .int x)] := hl
  have hF : gFr f f [a, b] := gFr.rf
  refine lv_bipush (v := nI 24) S.1 S.2.1 d_Row_addWord_0 (by decide) ?_
  refine lv_istore_n (lv' := [(2, .int (nI 24)), (0, .ref a), (1, .int x)]) S.1 S.2.1 d_Row_addWord_2 rfl hl (by decide) rfl (fun ls hl => ?_)
  refine lv_iload_n S.1 S.2.1 d_Row_addWord_3 rfl (lv_at hl 0 rfl) ?_
  refine lv_if_lt (tgt := 36) S.1 S.2.1 d_Row_addWord_4 (by decide) (fun c17 => absurd c17 (by decide)) (fun c17 => ?_)
  refine lv_aload_n S.1 S.2.1 d_Row_addWord_7 rfl (lv_at hl 1 rfl) ?_
  refine gh_get S hI ha rfl i_Row 0 (by decide) wi_31 rfl d_Row_addWord_8 ?_
  refine lv_aload_n S.1 S.2.1 d_Row_addWord_11 rfl (lv_at hl 1 rfl) ?_
  refine gh_get S hI ha rfl i_Row 1 (by decide) wi_32 rfl d_Row_addWord_12 ?_
  refine lv_iload_n S.1 S.2.1 d_Row_addWord_15 rfl (lv_at hl 2 rfl) ?_
  refine lv_iload_n S.1 S.2.1 d_Row_addWord_16 rfl (lv_at hl 0 rfl) ?_
  obtain ⟨v18, ev18⟩ : ∃ y : Int32, y = (Int32.toUInt32 x >>> (Int32.toUInt32 (nI 24) &&& Int32.toUInt32 31)).toInt32 := ⟨_, rfl⟩
  refine lv_iushr (v := v18) S.1 S.2.1 d_Row_addWord_17 ev18.symm ?_
  refine lv_i2b (v := Int8.toInt32 (Int32.toInt8 v18)) S.1 S.2.1 d_Row_addWord_18 rfl ?_
  refine gh_bast (j := n) S hI 0 hb rfl rfl (by omega) (by omega) d_Row_addWord_19 (fun H locs hI => ?_)
  have hI : gB P (va_up f b (some (.inl (P.2.1 0, cap, .inl (upd g n (Int8.toInt32 (Int32.toInt8 (Int8.toInt32 (Int32.toInt8 v18))))))))) s H locs := hI
  obtain ⟨f19, ef19⟩ : ∃ z, z = va_up f b (some (.inl (P.2.1 0, cap, .inl (upd g n (Int8.toInt32 (Int32.toInt8 (Int8.toInt32 (Int32.toInt8 v18)))))))) := ⟨_, rfl⟩
  rw [← ef19] at hI
  have h20 : f19 a = some (.inr (1, [.ref b, .int (nI n)])) := by rw [ef19, va_up_ne _ _ (gh_ne ha hb (by intro h; cases h))]; exact ha
  have h21 : f19 b = some (.inl (P.2.1 0, cap, .inl (upd g n (Int8.toInt32 (Int32.toInt8 (Int8.toInt32 (Int32.toInt8 v18))))))) := by rw [ef19]; exact va_up_self _ _ _
  have hF : gFr f f19 [a, b] := by rw [ef19]; exact gFr.upA (by simp) hF
  refine lv_aload_n S.1 S.2.1 d_Row_addWord_20 rfl (lv_at hl 1 rfl) ?_
  refine lv_dup S.1 S.2.1 d_Row_addWord_21 rfl ?_
  refine gh_get S hI h20 rfl i_Row 1 (by decide) wi_32 rfl d_Row_addWord_22 ?_
  refine lv_iconst (v := nI 1) S.1 S.2.1 d_Row_addWord_25 (by decide) ?_
  refine lv_iadd S.1 S.2.1 d_Row_addWord_26 ?_
  refine lv_topi (fun v22 ev22 => ?_)
  replace ev22 : v22 = nI (n + 1) := ev22.trans (nI_add _ _)
  subst ev22
  refine gh_put S hI h20 rfl i_Row t_Row tk_Row n_Row 1 (by decide) wi_32 rfl rfl rfl (Nat.le_of_ble_eq_true rfl) d_Row_addWord_27 (fun H locs hI => ?_)
  have hI : gB P (va_up f19 a (some (.inr (1, [.ref b, .int (nI (n + 1))])))) s H locs := hI
  obtain ⟨f23, ef23⟩ : ∃ z, z = va_up f19 a (some (.inr (1, [.ref b, .int (nI (n + 1))]))) := ⟨_, rfl⟩
  rw [← ef23] at hI
  have h24 : f23 b = some (.inl (P.2.1 0, cap, .inl (upd g n (Int8.toInt32 (Int32.toInt8 (Int8.toInt32 (Int32.toInt8 v18))))))) := by rw [ef23, va_up_ne _ _ (gh_ne h21 h20 (by intro h; cases h))]; exact h21
  have h25 : f23 a = some (.inr (1, [.ref b, .int (nI (n + 1))])) := by rw [ef23]; exact va_up_self _ _ _
  have hF : gFr f f23 [a, b] := by rw [ef23]; exact gFr.upA (by simp) hF
  refine lv_iinc (v := nI 16) (lv' := [(2, .int (nI 16)), (0, .ref a), (1, .int x)]) S.1 S.2.1 d_Row_addWord_30 hl (k := 0) rfl (by decide) (by decide) rfl (fun ls hl => ?_)
  refine lv_goto (tgt := 3) S.1 S.2.1 d_Row_addWord_33 (by decide) ?_
  refine lv_iload_n S.1 S.2.1 d_Row_addWord_3 rfl (lv_at hl 0 rfl) ?_
  refine lv_if_lt (tgt := 36) S.1 S.2.1 d_Row_addWord_4 (by decide) (fun c26 => absurd c26 (by decide)) (fun c26 => ?_)
  refine lv_aload_n S.1 S.2.1 d_Row_addWord_7 rfl (lv_at hl 1 rfl) ?_
  refine gh_get S hI h25 rfl i_Row 0 (by decide) wi_31 rfl d_Row_addWord_8 ?_
  refine lv_aload_n S.1 S.2.1 d_Row_addWord_11 rfl (lv_at hl 1 rfl) ?_
  refine gh_get S hI h25 rfl i_Row 1 (by decide) wi_32 rfl d_Row_addWord_12 ?_
  refine lv_iload_n S.1 S.2.1 d_Row_addWord_15 rfl (lv_at hl 2 rfl) ?_
  refine lv_iload_n S.1 S.2.1 d_Row_addWord_16 rfl (lv_at hl 0 rfl) ?_
  obtain ⟨v27, ev27⟩ : ∃ y : Int32, y = (Int32.toUInt32 x >>> (Int32.toUInt32 (nI 16) &&& Int32.toUInt32 31)).toInt32 := ⟨_, rfl⟩
  refine lv_iushr (v := v27) S.1 S.2.1 d_Row_addWord_17 ev27.symm ?_
  refine lv_i2b (v := Int8.toInt32 (Int32.toInt8 v27)) S.1 S.2.1 d_Row_addWord_18 rfl ?_
  refine gh_bast (j := n + 1) S hI 0 h24 rfl rfl (by omega) (by omega) d_Row_addWord_19 (fun H locs hI => ?_)
  have hI : gB P (va_up f23 b (some (.inl (P.2.1 0, cap, .inl (upd (upd g n (Int8.toInt32 (Int32.toInt8 (Int8.toInt32 (Int32.toInt8 v18))))) (n + 1) (Int8.toInt32 (Int32.toInt8 (Int8.toInt32 (Int32.toInt8 v27))))))))) s H locs := hI
  obtain ⟨f28, ef28⟩ : ∃ z, z = va_up f23 b (some (.inl (P.2.1 0, cap, .inl (upd (upd g n (Int8.toInt32 (Int32.toInt8 (Int8.toInt32 (Int32.toInt8 v18))))) (n + 1) (Int8.toInt32 (Int32.toInt8 (Int8.toInt32 (Int32.toInt8 v27)))))))) := ⟨_, rfl⟩
  rw [← ef28] at hI
  have h29 : f28 a = some (.inr (1, [.ref b, .int (nI (n + 1))])) := by rw [ef28, va_up_ne _ _ (gh_ne h25 h24 (by intro h; cases h))]; exact h25
  have h30 : f28 b = some (.inl (P.2.1 0, cap, .inl (upd (upd g n (Int8.toInt32 (Int32.toInt8 (Int8.toInt32 (Int32.toInt8 v18))))) (n + 1) (Int8.toInt32 (Int32.toInt8 (Int8.toInt32 (Int32.toInt8 v27))))))) := by rw [ef28]; exact va_up_self _ _ _
  have hF : gFr f f28 [a, b] := by rw [ef28]; exact gFr.upA (by simp) hF
  refine lv_aload_n S.1 S.2.1 d_Row_addWord_20 rfl (lv_at hl 1 rfl) ?_
  refine lv_dup S.1 S.2.1 d_Row_addWord_21 rfl ?_
  refine gh_get S hI h29 rfl i_Row 1 (by decide) wi_32 rfl d_Row_addWord_22 ?_
  refine lv_iconst (v := nI 1) S.1 S.2.1 d_Row_addWord_25 (by decide) ?_
  refine lv_iadd S.1 S.2.1 d_Row_addWord_26 ?_
  refine lv_topi (fun v31 ev31 => ?_)
  replace ev31 : v31 = nI ((n + 1) + 1) := ev31.trans (nI_add _ _)
  subst ev31
  refine gh_put S hI h29 rfl i_Row t_Row tk_Row n_Row 1 (by decide) wi_32 rfl rfl rfl (Nat.le_of_ble_eq_true rfl) d_Row_addWord_27 (fun H locs hI => ?_)
  have hI : gB P (va_up f28 a (some (.inr (1, [.ref b, .int (nI ((n + 1) + 1))])))) s H locs := hI
  obtain ⟨f32, ef32⟩ : ∃ z, z = va_up f28 a (some (.inr (1, [.ref b, .int (nI ((n + 1) + 1))]))) := ⟨_, rfl⟩
  rw [← ef32] at hI
  have h33 : f32 b = some (.inl (P.2.1 0, cap, .inl (upd (upd g n (Int8.toInt32 (Int32.toInt8 (Int8.toInt32 (Int32.toInt8 v18))))) (n + 1) (Int8.toInt32 (Int32.toInt8 (Int8.toInt32 (Int32.toInt8 v27))))))) := by rw [ef32, va_up_ne _ _ (gh_ne h30 h29 (by intro h; cases h))]; exact h30
  have h34 : f32 a = some (.inr (1, [.ref b, .int (nI ((n + 1) + 1))])) := by rw [ef32]; exact va_up_self _ _ _
  have hF : gFr f f32 [a, b] := by rw [ef32]; exact gFr.upA (by simp) hF
  refine lv_iinc (v := nI 8) (lv' := [(2, .int (nI 8)), (0, .ref a), (1, .int x)]) S.1 S.2.1 d_Row_addWord_30 hl (k := 0) rfl (by decide) (by decide) rfl (fun ls hl => ?_)
  refine lv_goto (tgt := 3) S.1 S.2.1 d_Row_addWord_33 (by decide) ?_
  refine lv_iload_n S.1 S.2.1 d_Row_addWord_3 rfl (lv_at hl 0 rfl) ?_
  refine lv_if_lt (tgt := 36) S.1 S.2.1 d_Row_addWord_4 (by decide) (fun c35 => absurd c35 (by decide)) (fun c35 => ?_)
  refine lv_aload_n S.1 S.2.1 d_Row_addWord_7 rfl (lv_at hl 1 rfl) ?_
  refine gh_get S hI h34 rfl i_Row 0 (by decide) wi_31 rfl d_Row_addWord_8 ?_
  refine lv_aload_n S.1 S.2.1 d_Row_addWord_11 rfl (lv_at hl 1 rfl) ?_
  refine gh_get S hI h34 rfl i_Row 1 (by decide) wi_32 rfl d_Row_addWord_12 ?_
  refine lv_iload_n S.1 S.2.1 d_Row_addWord_15 rfl (lv_at hl 2 rfl) ?_
  refine lv_iload_n S.1 S.2.1 d_Row_addWord_16 rfl (lv_at hl 0 rfl) ?_
  obtain ⟨v36, ev36⟩ : ∃ y : Int32, y = (Int32.toUInt32 x >>> (Int32.toUInt32 (nI 8) &&& Int32.toUInt32 31)).toInt32 := ⟨_, rfl⟩
  refine lv_iushr (v := v36) S.1 S.2.1 d_Row_addWord_17 ev36.symm ?_
  refine lv_i2b (v := Int8.toInt32 (Int32.toInt8 v36)) S.1 S.2.1 d_Row_addWord_18 rfl ?_
  refine gh_bast (j := (n + 1) + 1) S hI 0 h33 rfl rfl (by omega) (by omega) d_Row_addWord_19 (fun H locs hI => ?_)
  have hI : gB P (va_up f32 b (some (.inl (P.2.1 0, cap, .inl (upd (upd (upd g n (Int8.toInt32 (Int32.toInt8 (Int8.toInt32 (Int32.toInt8 v18))))) (n + 1) (Int8.toInt32 (Int32.toInt8 (Int8.toInt32 (Int32.toInt8 v27))))) ((n + 1) + 1) (Int8.toInt32 (Int32.toInt8 (Int8.toInt32 (Int32.toInt8 v36))))))))) s H locs := hI
  obtain ⟨f37, ef37⟩ : ∃ z, z = va_up f32 b (some (.inl (P.2.1 0, cap, .inl (upd (upd (upd g n (Int8.toInt32 (Int32.toInt8 (Int8.toInt32 (Int32.toInt8 v18))))) (n + 1) (Int8.toInt32 (Int32.toInt8 (Int8.toInt32 (Int32.toInt8 v27))))) ((n + 1) + 1) (Int8.toInt32 (Int32.toInt8 (Int8.toInt32 (Int32.toInt8 v36)))))))) := ⟨_, rfl⟩
  rw [← ef37] at hI
  have h38 : f37 a = some (.inr (1, [.ref b, .int (nI ((n + 1) + 1))])) := by rw [ef37, va_up_ne _ _ (gh_ne h34 h33 (by intro h; cases h))]; exact h34
  have h39 : f37 b = some (.inl (P.2.1 0, cap, .inl (upd (upd (upd g n (Int8.toInt32 (Int32.toInt8 (Int8.toInt32 (Int32.toInt8 v18))))) (n + 1) (Int8.toInt32 (Int32.toInt8 (Int8.toInt32 (Int32.toInt8 v27))))) ((n + 1) + 1) (Int8.toInt32 (Int32.toInt8 (Int8.toInt32 (Int32.toInt8 v36))))))) := by rw [ef37]; exact va_up_self _ _ _
  have hF : gFr f f37 [a, b] := by rw [ef37]; exact gFr.upA (by simp) hF
  refine lv_aload_n S.1 S.2.1 d_Row_addWord_20 rfl (lv_at hl 1 rfl) ?_
  refine lv_dup S.1 S.2.1 d_Row_addWord_21 rfl ?_
  refine gh_get S hI h38 rfl i_Row 1 (by decide) wi_32 rfl d_Row_addWord_22 ?_
  refine lv_iconst (v := nI 1) S.1 S.2.1 d_Row_addWord_25 (by decide) ?_
  refine lv_iadd S.1 S.2.1 d_Row_addWord_26 ?_
  refine lv_topi (fun v40 ev40 => ?_)
  replace ev40 : v40 = nI (((n + 1) + 1) + 1) := ev40.trans (nI_add _ _)
  subst ev40
  refine gh_put S hI h38 rfl i_Row t_Row tk_Row n_Row 1 (by decide) wi_32 rfl rfl rfl (Nat.le_of_ble_eq_true rfl) d_Row_addWord_27 (fun H locs hI => ?_)
  have hI : gB P (va_up f37 a (some (.inr (1, [.ref b, .int (nI (((n + 1) + 1) + 1))])))) s H locs := hI
  obtain ⟨f41, ef41⟩ : ∃ z, z = va_up f37 a (some (.inr (1, [.ref b, .int (nI (((n + 1) + 1) + 1))]))) := ⟨_, rfl⟩
  rw [← ef41] at hI
  have h42 : f41 b = some (.inl (P.2.1 0, cap, .inl (upd (upd (upd g n (Int8.toInt32 (Int32.toInt8 (Int8.toInt32 (Int32.toInt8 v18))))) (n + 1) (Int8.toInt32 (Int32.toInt8 (Int8.toInt32 (Int32.toInt8 v27))))) ((n + 1) + 1) (Int8.toInt32 (Int32.toInt8 (Int8.toInt32 (Int32.toInt8 v36))))))) := by rw [ef41, va_up_ne _ _ (gh_ne h39 h38 (by intro h; cases h))]; exact h39
  have h43 : f41 a = some (.inr (1, [.ref b, .int (nI (((n + 1) + 1) + 1))])) := by rw [ef41]; exact va_up_self _ _ _
  have hF : gFr f f41 [a, b] := by rw [ef41]; exact gFr.upA (by simp) hF
  refine lv_iinc (v := nI 0) (lv' := [(2, .int (nI 0)), (0, .ref a), (1, .int x)]) S.1 S.2.1 d_Row_addWord_30 hl (k := 0) rfl (by decide) (by decide) rfl (fun ls hl => ?_)
  refine lv_goto (tgt := 3) S.1 S.2.1 d_Row_addWord_33 (by decide) ?_
  refine lv_iload_n S.1 S.2.1 d_Row_addWord_3 rfl (lv_at hl 0 rfl) ?_
  refine lv_if_lt (tgt := 36) S.1 S.2.1 d_Row_addWord_4 (by decide) (fun c44 => absurd c44 (by decide)) (fun c44 => ?_)
  refine lv_aload_n S.1 S.2.1 d_Row_addWord_7 rfl (lv_at hl 1 rfl) ?_
  refine gh_get S hI h43 rfl i_Row 0 (by decide) wi_31 rfl d_Row_addWord_8 ?_
  refine lv_aload_n S.1 S.2.1 d_Row_addWord_11 rfl (lv_at hl 1 rfl) ?_
  refine gh_get S hI h43 rfl i_Row 1 (by decide) wi_32 rfl d_Row_addWord_12 ?_
  refine lv_iload_n S.1 S.2.1 d_Row_addWord_15 rfl (lv_at hl 2 rfl) ?_
  refine lv_iload_n S.1 S.2.1 d_Row_addWord_16 rfl (lv_at hl 0 rfl) ?_
  obtain ⟨v45, ev45⟩ : ∃ y : Int32, y = (Int32.toUInt32 x >>> (Int32.toUInt32 (nI 0) &&& Int32.toUInt32 31)).toInt32 := ⟨_, rfl⟩
  refine lv_iushr (v := v45) S.1 S.2.1 d_Row_addWord_17 ev45.symm ?_
  refine lv_i2b (v := Int8.toInt32 (Int32.toInt8 v45)) S.1 S.2.1 d_Row_addWord_18 rfl ?_
  refine gh_bast (j := ((n + 1) + 1) + 1) S hI 0 h42 rfl rfl (by omega) (by omega) d_Row_addWord_19 (fun H locs hI => ?_)
  have hI : gB P (va_up f41 b (some (.inl (P.2.1 0, cap, .inl (upd (upd (upd (upd g n (Int8.toInt32 (Int32.toInt8 (Int8.toInt32 (Int32.toInt8 v18))))) (n + 1) (Int8.toInt32 (Int32.toInt8 (Int8.toInt32 (Int32.toInt8 v27))))) ((n + 1) + 1) (Int8.toInt32 (Int32.toInt8 (Int8.toInt32 (Int32.toInt8 v36))))) (((n + 1) + 1) + 1) (Int8.toInt32 (Int32.toInt8 (Int8.toInt32 (Int32.toInt8 v45))))))))) s H locs := hI
  obtain ⟨f46, ef46⟩ : ∃ z, z = va_up f41 b (some (.inl (P.2.1 0, cap, .inl (upd (upd (upd (upd g n (Int8.toInt32 (Int32.toInt8 (Int8.toInt32 (Int32.toInt8 v18))))) (n + 1) (Int8.toInt32 (Int32.toInt8 (Int8.toInt32 (Int32.toInt8 v27))))) ((n + 1) + 1) (Int8.toInt32 (Int32.toInt8 (Int8.toInt32 (Int32.toInt8 v36))))) (((n + 1) + 1) + 1) (Int8.toInt32 (Int32.toInt8 (Int8.toInt32 (Int32.toInt8 v45)))))))) := ⟨_, rfl⟩
  rw [← ef46] at hI
  have h47 : f46 a = some (.inr (1, [.ref b, .int (nI (((n + 1) + 1) + 1))])) := by rw [ef46, va_up_ne _ _ (gh_ne h43 h42 (by intro h; cases h))]; exact h43
  have h48 : f46 b = some (.inl (P.2.1 0, cap, .inl (upd (upd (upd (upd g n (Int8.toInt32 (Int32.toInt8 (Int8.toInt32 (Int32.toInt8 v18))))) (n + 1) (Int8.toInt32 (Int32.toInt8 (Int8.toInt32 (Int32.toInt8 v27))))) ((n + 1) + 1) (Int8.toInt32 (Int32.toInt8 (Int8.toInt32 (Int32.toInt8 v36))))) (((n + 1) + 1) + 1) (Int8.toInt32 (Int32.toInt8 (Int8.toInt32 (Int32.toInt8 v45))))))) := by rw [ef46]; exact va_up_self _ _ _
  have hF : gFr f f46 [a, b] := by rw [ef46]; exact gFr.upA (by simp) hF
  refine lv_aload_n S.1 S.2.1 d_Row_addWord_20 rfl (lv_at hl 1 rfl) ?_
  refine lv_dup S.1 S.2.1 d_Row_addWord_21 rfl ?_
  refine gh_get S hI h47 rfl i_Row 1 (by decide) wi_32 rfl d_Row_addWord_22 ?_
  refine lv_iconst (v := nI 1) S.1 S.2.1 d_Row_addWord_25 (by decide) ?_
  refine lv_iadd S.1 S.2.1 d_Row_addWord_26 ?_
  refine lv_topi (fun v49 ev49 => ?_)
  replace ev49 : v49 = nI ((((n + 1) + 1) + 1) + 1) := ev49.trans (nI_add _ _)
  subst ev49
  refine gh_put S hI h47 rfl i_Row t_Row tk_Row n_Row 1 (by decide) wi_32 rfl rfl rfl (Nat.le_of_ble_eq_true rfl) d_Row_addWord_27 (fun H locs hI => ?_)
  have hI : gB P (va_up f46 a (some (.inr (1, [.ref b, .int (nI ((((n + 1) + 1) + 1) + 1))])))) s H locs := hI
  obtain ⟨f50, ef50⟩ : ∃ z, z = va_up f46 a (some (.inr (1, [.ref b, .int (nI ((((n + 1) + 1) + 1) + 1))]))) := ⟨_, rfl⟩
  rw [← ef50] at hI
  have h51 : f50 b = some (.inl (P.2.1 0, cap, .inl (upd (upd (upd (upd g n (Int8.toInt32 (Int32.toInt8 (Int8.toInt32 (Int32.toInt8 v18))))) (n + 1) (Int8.toInt32 (Int32.toInt8 (Int8.toInt32 (Int32.toInt8 v27))))) ((n + 1) + 1) (Int8.toInt32 (Int32.toInt8 (Int8.toInt32 (Int32.toInt8 v36))))) (((n + 1) + 1) + 1) (Int8.toInt32 (Int32.toInt8 (Int8.toInt32 (Int32.toInt8 v45))))))) := by rw [ef50, va_up_ne _ _ (gh_ne h48 h47 (by intro h; cases h))]; exact h48
  have h52 : f50 a = some (.inr (1, [.ref b, .int (nI ((((n + 1) + 1) + 1) + 1))])) := by rw [ef50]; exact va_up_self _ _ _
  have hF : gFr f f50 [a, b] := by rw [ef50]; exact gFr.upA (by simp) hF
  refine lv_iinc (v := (-8)) (lv' := [(2, .int (-8)), (0, .ref a), (1, .int x)]) S.1 S.2.1 d_Row_addWord_30 hl (k := 0) rfl (by decide) (by decide) rfl (fun ls hl => ?_)
  refine lv_goto (tgt := 3) S.1 S.2.1 d_Row_addWord_33 (by decide) ?_
  refine lv_iload_n S.1 S.2.1 d_Row_addWord_3 rfl (lv_at hl 0 rfl) ?_
  refine lv_if_lt (tgt := 36) S.1 S.2.1 d_Row_addWord_4 (by decide) (fun c53 => ?_) (fun c53 => absurd (by decide) c53)
  refine gr_v S hr hlk hI ⟨h52, ?_, hF⟩ d_Row_addWord_36
  rw [h51]
  simp only [ev18, ev27, ev36, ev45, i8_idem]
  rfl
set_option maxHeartbeats 4000000 in
set_option maxRecDepth 100000 in
theorem c_Row_addBytes (l : Launch) (P : gPar) (f : gM) {a b n cap c0 cap0 fr k : Nat} {g g0 : Nat → Int32} (ha : f a = some (.inr (1, [.ref b, .int (nI n)]))) (hb : f b = some (.inl (P.2.1 0, cap, .inl g))) (h0 : f c0 = some (.inl (P.2.1 0, cap0, .inl g0))) (hne : c0 ≠ b) (h1 : fr + k ≤ cap0) (h2 : n + k ≤ cap) (hc : cap < 2 ^ 20) (hc0 : cap0 < 2 ^ 20) (hg : sb_Fit g0) : gC l P y_Row_addBytes b_Row_addBytes 4 none 1 0 0 [.ref a, .ref c0, .int (nI fr), .int (nI k)] f (gQv P (fun f1 => f1 a = some (.inr (1, [.ref b, .int (nI (n + k))])) ∧ f1 b = some (.inl (P.2.1 0, cap, .inl (va_cpy g0 g fr n k))) ∧ gFr f f1 [a, b])) := by
  refine gC_of (by decide) (Nat.le_of_ble_eq_true rfl) (fun p env s m args below meth c S hr hlk hnm H locs hI ls hl => ?_)
  have hl : lv_has ls 4 [(0, .ref a), (1, .ref c0), (2, .int (nI fr)), (3, .int (nI k))] := hl
  have hF : gFr f f [a, b] := gFr.rf
  refine lv_aload_n S.1 S.2.1 d_Row_addBytes_0 rfl (lv_at hl 1 rfl) ?_
  refine lv_iload_n S.1 S.2.1 d_Row_addBytes_1 rfl (lv_at hl 2 rfl) ?_
  refine lv_aload_n S.1 S.2.1 d_Row_addBytes_2 rfl (lv_at hl 0 rfl) ?_
  refine gh_get S hI ha rfl i_Row 0 (by decide) wi_31 rfl d_Row_addBytes_3 ?_
  refine lv_aload_n S.1 S.2.1 d_Row_addBytes_6 rfl (lv_at hl 0 rfl) ?_
  refine gh_get S hI ha rfl i_Row 1 (by decide) wi_32 rfl d_Row_addBytes_7 ?_
  refine lv_iload_n S.1 S.2.1 d_Row_addBytes_10 rfl (lv_at hl 3 rfl) ?_
  refine gh_copyb (sp := fr) (dp := n) (n := k) S hI hl.1 wi_111 wi_113 wi_112 wi_9 0 h0 hb rfl rfl rfl rfl (by omega) (by omega) (by omega) (by omega) (fun i _ => hg _) (Nat.le_of_ble_eq_true rfl) (Nat.le_of_ble_eq_true rfl) d_Row_addBytes_11 (fun H locs hI => ?_)
  have hI : gB P (va_up f b (some (.inl (P.2.1 0, cap, .inl (va_cpy g0 g fr n k))))) s H locs := hI
  obtain ⟨f54, ef54⟩ : ∃ z, z = va_up f b (some (.inl (P.2.1 0, cap, .inl (va_cpy g0 g fr n k)))) := ⟨_, rfl⟩
  rw [← ef54] at hI
  have h55 : f54 a = some (.inr (1, [.ref b, .int (nI n)])) := by rw [ef54, va_up_ne _ _ (gh_ne ha hb (by intro h; cases h))]; exact ha
  have h56 : f54 c0 = some (.inl (P.2.1 0, cap0, .inl g0)) := by rw [ef54, va_up_ne _ _ (hne)]; exact h0
  have h57 : f54 b = some (.inl (P.2.1 0, cap, .inl (va_cpy g0 g fr n k))) := by rw [ef54]; exact va_up_self _ _ _
  have hF : gFr f f54 [a, b] := by rw [ef54]; exact gFr.upA (by simp) hF
  refine lv_aload_n S.1 S.2.1 d_Row_addBytes_14 rfl (lv_at hl 0 rfl) ?_
  refine lv_dup S.1 S.2.1 d_Row_addBytes_15 rfl ?_
  refine gh_get S hI h55 rfl i_Row 1 (by decide) wi_32 rfl d_Row_addBytes_16 ?_
  refine lv_iload_n S.1 S.2.1 d_Row_addBytes_19 rfl (lv_at hl 3 rfl) ?_
  refine lv_iadd S.1 S.2.1 d_Row_addBytes_20 ?_
  refine lv_topi (fun v58 ev58 => ?_)
  replace ev58 : v58 = nI (n + k) := ev58.trans (nI_add _ _)
  subst ev58
  refine gh_put S hI h55 rfl i_Row t_Row tk_Row n_Row 1 (by decide) wi_32 rfl rfl rfl (Nat.le_of_ble_eq_true rfl) d_Row_addBytes_21 (fun H locs hI => ?_)
  have hI : gB P (va_up f54 a (some (.inr (1, [.ref b, .int (nI (n + k))])))) s H locs := hI
  obtain ⟨f59, ef59⟩ : ∃ z, z = va_up f54 a (some (.inr (1, [.ref b, .int (nI (n + k))]))) := ⟨_, rfl⟩
  rw [← ef59] at hI
  have h60 : f59 c0 = some (.inl (P.2.1 0, cap0, .inl g0)) := by rw [ef59, va_up_ne _ _ (gh_ne h56 h55 (by intro h; cases h))]; exact h56
  have h61 : f59 b = some (.inl (P.2.1 0, cap, .inl (va_cpy g0 g fr n k))) := by rw [ef59, va_up_ne _ _ (gh_ne h57 h55 (by intro h; cases h))]; exact h57
  have h62 : f59 a = some (.inr (1, [.ref b, .int (nI (n + k))])) := by rw [ef59]; exact va_up_self _ _ _
  have hF : gFr f f59 [a, b] := by rw [ef59]; exact gFr.upA (by simp) hF
  exact gr_v S hr hlk hI (⟨h62, h61, hF⟩) d_Row_addBytes_24
set_option maxHeartbeats 4000000 in
set_option maxRecDepth 100000 in
theorem c_Row_addZeros (l : Launch) (P : gPar) (f : gM) {a b n cap k : Nat} {g : Nat → Int32} (ha : f a = some (.inr (1, [.ref b, .int (nI n)]))) (hb : f b = some (.inl (P.2.1 0, cap, .inl g))) (h2 : n + k ≤ cap) (hc : cap < 2 ^ 20) : gC l P y_Row_addZeros b_Row_addZeros 2 none 3 0 0 [.ref a, .int (nI k)] f (gQv P (fun f1 => f1 a = some (.inr (1, [.ref b, .int (nI (n + k))])) ∧ f1 b = some (.inl (P.2.1 0, cap, .inl (g_fil g n (n + k) (nI 0)))) ∧ gFr f f1 [a, b])) := by
  refine gC_of (by decide) (Nat.le_of_ble_eq_true rfl) (fun p env s m args below meth c S hr hlk hnm H locs hI ls hl => ?_)
  have hl : lv_has ls 2 [(0, .ref a), (1, .int (nI k))] := hl
  have hF : gFr f f [a, b] := gFr.rf
  refine lv_aload_n S.1 S.2.1 d_Row_addZeros_0 rfl (lv_at hl 0 rfl) ?_
  refine gh_get S hI ha rfl i_Row 0 (by decide) wi_31 rfl d_Row_addZeros_1 ?_
  refine lv_aload_n S.1 S.2.1 d_Row_addZeros_4 rfl (lv_at hl 0 rfl) ?_
  refine gh_get S hI ha rfl i_Row 1 (by decide) wi_32 rfl d_Row_addZeros_5 ?_
  refine lv_aload_n S.1 S.2.1 d_Row_addZeros_8 rfl (lv_at hl 0 rfl) ?_
  refine gh_get S hI ha rfl i_Row 1 (by decide) wi_32 rfl d_Row_addZeros_9 ?_
  refine lv_iload_n S.1 S.2.1 d_Row_addZeros_12 rfl (lv_at hl 1 rfl) ?_
  refine lv_iadd S.1 S.2.1 d_Row_addZeros_13 ?_
  refine lv_topi (fun v63 ev63 => ?_)
  replace ev63 : v63 = nI (n + k) := ev63.trans (nI_add _ _)
  subst ev63
  refine lv_iconst (v := nI 0) S.1 S.2.1 d_Row_addZeros_14 (by decide) ?_
  refine gc_Sv S hI (c_Arrs_fill l P f (lo := n) (hi := n + k) (x := nI 0) hb (by omega) (by omega) (by omega) (by decide)) kv_Arrs_fill wi_383 rfl hl.1 rfl (Nat.le_of_ble_eq_true rfl) ⟨Nat.le_of_ble_eq_true rfl, Nat.le_of_ble_eq_true rfl⟩ ⟨Nat.le_of_ble_eq_true rfl, Nat.le_of_ble_eq_true rfl⟩ d_Row_addZeros_15 (fun f65 H locs hp66 hI => ?_)
  rw [hp66] at hI
  have hI : gB P (va_up f b (some (.inl (P.2.1 0, cap, .inl (g_fil g n (n + k) (nI 0)))))) s H locs := hI
  obtain ⟨f67, ef67⟩ : ∃ z, z = va_up f b (some (.inl (P.2.1 0, cap, .inl (g_fil g n (n + k) (nI 0))))) := ⟨_, rfl⟩
  rw [← ef67] at hI
  have h68 : f67 a = some (.inr (1, [.ref b, .int (nI n)])) := by rw [ef67, va_up_ne _ _ (gh_ne ha hb (by intro h; cases h))]; exact ha
  have h69 : f67 b = some (.inl (P.2.1 0, cap, .inl (g_fil g n (n + k) (nI 0)))) := by rw [ef67]; exact va_up_self _ _ _
  have hF : gFr f f67 [a, b] := by rw [ef67]; exact gFr.upA (by simp) hF
  refine lv_aload_n S.1 S.2.1 d_Row_addZeros_18 rfl (lv_at hl 0 rfl) ?_
  refine lv_dup S.1 S.2.1 d_Row_addZeros_19 rfl ?_
  refine gh_get S hI h68 rfl i_Row 1 (by decide) wi_32 rfl d_Row_addZeros_20 ?_
  refine lv_iload_n S.1 S.2.1 d_Row_addZeros_23 rfl (lv_at hl 1 rfl) ?_
  refine lv_iadd S.1 S.2.1 d_Row_addZeros_24 ?_
  refine lv_topi (fun v70 ev70 => ?_)
  replace ev70 : v70 = nI (n + k) := ev70.trans (nI_add _ _)
  subst ev70
  refine gh_put S hI h68 rfl i_Row t_Row tk_Row n_Row 1 (by decide) wi_32 rfl rfl rfl (Nat.le_of_ble_eq_true rfl) d_Row_addZeros_25 (fun H locs hI => ?_)
  have hI : gB P (va_up f67 a (some (.inr (1, [.ref b, .int (nI (n + k))])))) s H locs := hI
  obtain ⟨f71, ef71⟩ : ∃ z, z = va_up f67 a (some (.inr (1, [.ref b, .int (nI (n + k))]))) := ⟨_, rfl⟩
  rw [← ef71] at hI
  have h72 : f71 b = some (.inl (P.2.1 0, cap, .inl (g_fil g n (n + k) (nI 0)))) := by rw [ef71, va_up_ne _ _ (gh_ne h69 h68 (by intro h; cases h))]; exact h69
  have h73 : f71 a = some (.inr (1, [.ref b, .int (nI (n + k))])) := by rw [ef71]; exact va_up_self _ _ _
  have hF : gFr f f71 [a, b] := by rw [ef71]; exact gFr.upA (by simp) hF
  exact gr_v S hr hlk hI (⟨h73, h72, hF⟩) d_Row_addZeros_28
set_option maxHeartbeats 4000000 in
set_option maxRecDepth 100000 in
theorem c_Row_become (l : Launch) (P : gPar) (f : gM) {a b n cap a2 b2 n2 cap2 : Nat} {g g2 : Nat → Int32} (ha : f a = some (.inr (1, [.ref b, .int (nI n)]))) (hb : f b = some (.inl (P.2.1 0, cap, .inl g))) (ha2 : f a2 = some (.inr (1, [.ref b2, .int (nI n2)]))) (hb2 : f b2 = some (.inl (P.2.1 0, cap2, .inl g2))) (hna : a ≠ a2) (hnb : b ≠ b2) (h1 : n2 ≤ cap2) (h2 : n2 ≤ cap) (hc : cap < 2 ^ 20) (hc2 : cap2 < 2 ^ 20) (hg2 : sb_Fit g2) : gC l P y_Row_become b_Row_become 2 none 2 0 0 [.ref a, .ref a2] f (gQv P (fun f1 => f1 a = some (.inr (1, [.ref b, .int (nI n2)])) ∧ f1 b = some (.inl (P.2.1 0, cap, .inl (va_cpy g2 g 0 0 n2))) ∧ gFr f f1 [a, b])) := by
  refine gC_of (by decide) (Nat.le_of_ble_eq_true rfl) (fun p env s m args below meth c S hr hlk hnm H locs hI ls hl => ?_)
  have hl : lv_has ls 2 [(0, .ref a), (1, .ref a2)] := hl
  have hF : gFr f f [a, b] := gFr.rf
  refine lv_aload_n S.1 S.2.1 d_Row_become_0 rfl (lv_at hl 0 rfl) ?_
  refine lv_iconst (v := nI 0) S.1 S.2.1 d_Row_become_1 (by decide) ?_
  refine gh_put S hI ha rfl i_Row t_Row tk_Row n_Row 1 (by decide) wi_32 rfl rfl rfl (Nat.le_of_ble_eq_true rfl) d_Row_become_2 (fun H locs hI => ?_)
  have hI : gB P (va_up f a (some (.inr (1, [.ref b, .int (nI 0)])))) s H locs := hI
  obtain ⟨f74, ef74⟩ : ∃ z, z = va_up f a (some (.inr (1, [.ref b, .int (nI 0)]))) := ⟨_, rfl⟩
  rw [← ef74] at hI
  have h75 : f74 b = some (.inl (P.2.1 0, cap, .inl g)) := by rw [ef74, va_up_ne _ _ (gh_ne hb ha (by intro h; cases h))]; exact hb
  have h76 : f74 a2 = some (.inr (1, [.ref b2, .int (nI n2)])) := by rw [ef74, va_up_ne _ _ (Ne.symm (hna))]; exact ha2
  have h77 : f74 b2 = some (.inl (P.2.1 0, cap2, .inl g2)) := by rw [ef74, va_up_ne _ _ (gh_ne hb2 ha (by intro h; cases h))]; exact hb2
  have h78 : f74 a = some (.inr (1, [.ref b, .int (nI 0)])) := by rw [ef74]; exact va_up_self _ _ _
  have hF : gFr f f74 [a, b] := by rw [ef74]; exact gFr.upA (by simp) hF
  refine lv_aload_n S.1 S.2.1 d_Row_become_5 rfl (lv_at hl 0 rfl) ?_
  refine lv_aload_n S.1 S.2.1 d_Row_become_6 rfl (lv_at hl 1 rfl) ?_
  refine gh_get S hI h76 rfl i_Row 0 (by decide) wi_31 rfl d_Row_become_7 ?_
  refine lv_iconst (v := nI 0) S.1 S.2.1 d_Row_become_10 (by decide) ?_
  refine lv_aload_n S.1 S.2.1 d_Row_become_11 rfl (lv_at hl 1 rfl) ?_
  refine gh_get S hI h76 rfl i_Row 1 (by decide) wi_32 rfl d_Row_become_12 ?_
  refine gc_Vv S hI (c_Row_addBytes l P f74 (k := n2) (fr := 0) (n := 0) h78 h75 h77 (fun h => hnb h.symm) (by omega) (by omega) hc hc2 hg2) kv_Row_addBytes wi_107 h78 rfl rfl rfl hl.1 rfl (Nat.le_of_ble_eq_true rfl) ⟨Nat.le_of_ble_eq_true rfl, Nat.le_of_ble_eq_true rfl⟩ ⟨Nat.le_of_ble_eq_true rfl, Nat.le_of_ble_eq_true rfl⟩ d_Row_become_15 (fun f80 H locs hp81 hI => ?_)
  obtain ⟨hp1, hp2, hp3⟩ := hp81
  rw [Nat.zero_add] at hp1
  have hF := gFr.call hF hp3 (fun q hq => Or.inl hq)
  exact gr_v S hr hlk hI (⟨hp1, hp2, hF⟩) d_Row_become_18
set_option maxHeartbeats 4000000 in
set_option maxRecDepth 100000 in
theorem c_Row_copyTo (l : Launch) (P : gPar) (f : gM) {a b n cap c0 cap0 at_ fr k : Nat} {g g0 : Nat → Int32} (ha : f a = some (.inr (1, [.ref b, .int (nI n)]))) (hb : f b = some (.inl (P.2.1 0, cap, .inl g))) (h0 : f c0 = some (.inl (P.2.1 0, cap0, .inl g0))) (hne : b ≠ c0) (h1 : fr + k ≤ cap) (h2 : at_ + k ≤ cap0) (hc : cap < 2 ^ 20) (hc0 : cap0 < 2 ^ 20) (hg : sb_Fit g) : gC l P y_Row_copyTo b_Row_copyTo 5 none 1 0 0 [.ref a, .ref c0, .int (nI at_), .int (nI fr), .int (nI k)] f (gQv P (fun f1 => f1 = va_up f c0 (some (.inl (P.2.1 0, cap0, .inl (va_cpy g g0 fr at_ k)))))) := by
  refine gC_of (by decide) (Nat.le_of_ble_eq_true rfl) (fun p env s m args below meth c S hr hlk hnm H locs hI ls hl => ?_)
  have hl : lv_has ls 5 [(0, .ref a), (1, .ref c0), (2, .int (nI at_)), (3, .int (nI fr)), (4, .int (nI k))] := hl
  refine lv_aload_n S.1 S.2.1 d_Row_copyTo_0 rfl (lv_at hl 0 rfl) ?_
  refine gh_get S hI ha rfl i_Row 0 (by decide) wi_31 rfl d_Row_copyTo_1 ?_
  refine lv_iload_n S.1 S.2.1 d_Row_copyTo_4 rfl (lv_at hl 3 rfl) ?_
  refine lv_aload_n S.1 S.2.1 d_Row_copyTo_5 rfl (lv_at hl 1 rfl) ?_
  refine lv_iload_n S.1 S.2.1 d_Row_copyTo_6 rfl (lv_at hl 2 rfl) ?_
  refine lv_iload S.1 S.2.1 d_Row_copyTo_7 (lv_at hl 4 rfl) ?_
  refine gh_copyb (sp := fr) (dp := at_) (n := k) S hI hl.1 wi_111 wi_113 wi_112 wi_9 0 hb h0 rfl rfl rfl rfl (by omega) (by omega) (by omega) (by omega) (fun i _ => hg _) (Nat.le_of_ble_eq_true rfl) (Nat.le_of_ble_eq_true rfl) d_Row_copyTo_9 (fun H locs hI => ?_)
  have hI : gB P (va_up f c0 (some (.inl (P.2.1 0, cap0, .inl (va_cpy g g0 fr at_ k))))) s H locs := hI
  obtain ⟨f82, ef82⟩ : ∃ z, z = va_up f c0 (some (.inl (P.2.1 0, cap0, .inl (va_cpy g g0 fr at_ k)))) := ⟨_, rfl⟩
  rw [← ef82] at hI
  have h83 : f82 a = some (.inr (1, [.ref b, .int (nI n)])) := by rw [ef82, va_up_ne _ _ (gh_ne ha h0 (by intro h; cases h))]; exact ha
  have h84 : f82 b = some (.inl (P.2.1 0, cap, .inl g)) := by rw [ef82, va_up_ne _ _ (hne)]; exact hb
  have h85 : f82 c0 = some (.inl (P.2.1 0, cap0, .inl (va_cpy g g0 fr at_ k))) := by rw [ef82]; exact va_up_self _ _ _
  exact gr_v S hr hlk hI (ef82) d_Row_copyTo_12
set_option maxHeartbeats 4000000 in
set_option maxRecDepth 100000 in
theorem c_Row_compareWith (l : Launch) (P : gPar) (f : gM) {a b n cap a2 b2 n2 cap2 : Nat} {g g2 : Nat → Int32} (ha : f a = some (.inr (1, [.ref b, .int (nI n)]))) (hb : f b = some (.inl (P.2.1 0, cap, .inl g))) (ha2 : f a2 = some (.inr (1, [.ref b2, .int (nI n2)]))) (hb2 : f b2 = some (.inl (P.2.1 0, cap2, .inl g2))) (h1 : n ≤ cap) (h2 : n2 ≤ cap2) (hc : cap < 2 ^ 20) (hc2 : cap2 < 2 ^ 20) : gC l P y_Row_compareWith b_Row_compareWith 5 (some .int) 1 0 0 [.ref a, .ref a2] f (gQi P (fun r f1 => cmpOK r (nmL n g) (nmL n2 g2) ∧ f1 = f)) := by
  refine gC_of (by decide) (Nat.le_of_ble_eq_true rfl) (fun p env s m args below meth c S hr hlk hnm H locs hI ls hl => ?_)
  have hl : lv_has ls 5 [(0, .ref a), (1, .ref a2)] := hl
  refine lv_aload_n S.1 S.2.1 d_Row_compareWith_0 rfl (lv_at hl 0 rfl) ?_
  refine gh_get S hI ha rfl i_Row 1 (by decide) wi_32 rfl d_Row_compareWith_1 ?_
  refine lv_aload_n S.1 S.2.1 d_Row_compareWith_4 rfl (lv_at hl 1 rfl) ?_
  refine gh_get S hI ha2 rfl i_Row 1 (by decide) wi_32 rfl d_Row_compareWith_5 ?_
  refine gc_min S wi_165 hl.1 d_Row_compareWith_8 (by omega) (by omega) (Nat.le_of_ble_eq_true rfl) (Nat.le_of_ble_eq_true rfl) (Nat.le_of_ble_eq_true rfl) (Nat.le_of_ble_eq_true rfl) ?_
  refine lv_istore_n (lv' := [(2, .int (nI (min n n2))), (0, .ref a), (1, .ref a2)]) S.1 S.2.1 d_Row_compareWith_11 rfl hl (by decide) rfl (fun ls hl => ?_)
  refine lv_iconst (v := nI 0) S.1 S.2.1 d_Row_compareWith_12 (by decide) ?_
  refine lv_istore_n (lv' := [(3, .int (nI 0)), (2, .int (nI (min n n2))), (0, .ref a), (1, .ref a2)]) S.1 S.2.1 d_Row_compareWith_13 rfl hl (by decide) rfl (fun ls hl => ?_)
  have loop : ∀ (k i : Nat), i ≤ min n n2 → min n n2 - i < k → (∀ j, j < i → ub (g j) = ub (g2 j)) → ∀ (H : Heap) (locs : List Loc), gB P f s H locs → ∀ ls : Array Slot, lv_has ls 5 [(0, .ref a), (1, .ref a2), (2, .int (nI (min n n2))), (3, .int (nI i))] → W p l env (grm 1 0 0) s m args below meth c H locs 0 0 (MQ below (gQi P (fun r f1 => cmpOK r (nmL n g) (nmL n2 g2) ∧ f1 = f)) args s 0 0 (gA P)) (F0 m 14 ls []) := by
    intro k
    induction k with
    | zero => intro i h4 h5; exact absurd h5 (by omega)
    | succ k ih =>
      intro i h4 h5 he H locs hI ls hl
      refine lv_iload_n S.1 S.2.1 d_Row_compareWith_14 rfl (lv_at hl 3 rfl) ?_
      refine lv_iload_n S.1 S.2.1 d_Row_compareWith_15 rfl (lv_at hl 2 rfl) ?_
      refine lv_icmp_ge (tgt := 56) S.1 S.2.1 d_Row_compareWith_16 (by decide) (fun c86 => ?_) (fun c86 => ?_)
      · skip
        replace c86 : (min n n2) ≤ i := (nI_leI (a := min n n2) (b := i) (by omega) (by omega)).mp c86
        refine lv_aload_n S.1 S.2.1 d_Row_compareWith_56 rfl (lv_at hl 0 rfl) ?_
        refine gh_get S hI ha rfl i_Row 1 (by decide) wi_32 rfl d_Row_compareWith_57 ?_
        refine lv_aload_n S.1 S.2.1 d_Row_compareWith_60 rfl (lv_at hl 1 rfl) ?_
        refine gh_get S hI ha2 rfl i_Row 1 (by decide) wi_32 rfl d_Row_compareWith_61 ?_
        refine lv_isub S.1 S.2.1 d_Row_compareWith_64 ?_
        exact gr_i S hr hlk hI (⟨cmp_end (by omega) (by omega) (fun j h6 h7 => he j (by omega)), rfl⟩) d_Row_compareWith_65
      · skip
        replace c86 : ¬ (min n n2) ≤ i := fun z => c86 ((nI_leI (a := min n n2) (b := i) (by omega) (by omega)).mpr z)
        refine lv_aload_n S.1 S.2.1 d_Row_compareWith_19 rfl (lv_at hl 0 rfl) ?_
        refine gh_get S hI ha rfl i_Row 0 (by decide) wi_31 rfl d_Row_compareWith_20 ?_
        refine lv_iload_n S.1 S.2.1 d_Row_compareWith_23 rfl (lv_at hl 3 rfl) ?_
        refine gh_bald (j := i) S hI 0 hb rfl rfl (by omega) (by omega) d_Row_compareWith_24 ?_
        refine lv_sipush (v := nI 255) S.1 S.2.1 d_Row_compareWith_25 (by decide) ?_
        refine lv_iand S.1 S.2.1 d_Row_compareWith_28 ?_
        refine lv_topi (fun v87 ev87 => ?_)
        replace ev87 : v87 = nI (ub (g i)) := ev87.trans (ub_nI _)
        subst ev87
        refine lv_aload_n S.1 S.2.1 d_Row_compareWith_29 rfl (lv_at hl 1 rfl) ?_
        refine gh_get S hI ha2 rfl i_Row 0 (by decide) wi_31 rfl d_Row_compareWith_30 ?_
        refine lv_iload_n S.1 S.2.1 d_Row_compareWith_33 rfl (lv_at hl 3 rfl) ?_
        refine gh_bald (j := i) S hI 0 hb2 rfl rfl (by omega) (by omega) d_Row_compareWith_34 ?_
        refine lv_sipush (v := nI 255) S.1 S.2.1 d_Row_compareWith_35 (by decide) ?_
        refine lv_iand S.1 S.2.1 d_Row_compareWith_38 ?_
        refine lv_topi (fun v88 ev88 => ?_)
        replace ev88 : v88 = nI (ub (g2 i)) := ev88.trans (ub_nI _)
        subst ev88
        refine lv_isub S.1 S.2.1 d_Row_compareWith_39 ?_
        refine lv_topi (fun v89 ev89 => ?_)
        refine lv_istore (lv' := [(4, .int v89), (0, .ref a), (1, .ref a2), (2, .int (nI (min n n2))), (3, .int (nI i))]) S.1 S.2.1 d_Row_compareWith_40 hl (by decide) rfl (fun ls hl => ?_)
        refine lv_iload S.1 S.2.1 d_Row_compareWith_42 (lv_at hl 0 rfl) ?_
        refine lv_if_eq (tgt := 50) S.1 S.2.1 d_Row_compareWith_44 (by decide) (fun c90 => ?_) (fun c90 => ?_)
        · skip
          have hu : ub (g i) = ub (g2 i) := Classical.byContradiction fun hne => by
            have h1 := ub_lt (g i)
            have h2 := ub_lt (g2 i)
            have hc3 := nI_sub_cmp (a := ub (g i)) (b := ub (g2 i)) (by omega) (by omega)
            rw [← ev89, c90] at hc3
            rcases Nat.lt_or_gt_of_ne hne with q | q
            · exact absurd (hc3.1 q) (by decide)
            · exact absurd (hc3.2.2 q) (by decide)
          refine lv_iinc (v := nI (i + 1)) (lv' := [(3, .int (nI (i + 1))), (4, .int v89), (0, .ref a), (1, .ref a2), (2, .int (nI (min n n2)))]) S.1 S.2.1 d_Row_compareWith_50 hl (k := 4) rfl (nI_add _ _) (by decide) rfl (fun ls hl => ?_)
          refine lv_goto (tgt := 14) S.1 S.2.1 d_Row_compareWith_53 (by decide) ?_
          exact ih (i + 1) (by omega) (by omega) (fun j hj => (Nat.lt_succ_iff_lt_or_eq.mp hj).elim (he j) (fun q => by rw [q]; exact hu)) _ _ hI _ (lv_sub hl [2, 3, 4, 0] rfl)
        · skip
          refine lv_iload S.1 S.2.1 d_Row_compareWith_47 (lv_at hl 0 rfl) ?_
          exact gr_i S hr hlk hI (⟨by rw [ev89]; exact cmp_diff (by omega) (by omega) he (fun q => c90 (by rw [ev89, q, pk_sub (Nat.le_refl _), Nat.sub_self]; rfl)), rfl⟩) d_Row_compareWith_49
  exact loop (min n n2 + 1) 0 (Nat.zero_le _) (by omega) (fun j h => absurd h (by omega)) _ _ hI _ (lv_sub hl [2, 3, 1, 0] rfl)
end
section
set_option maxHeartbeats 4000000 in
set_option maxRecDepth 100000 in
theorem c_Prec_checkIndex (l : Launch) (P : gPar) (f : gM) {i n : Nat} (h : i < n) (hn : n < 2 ^ 31) : gC l P y_Prec_checkIndex b_Prec_checkIndex 3 (some .int) 0 0 0 [.int (nI i), .int (nI n), .null] f (gQi P (fun r f1 => r = nI i ∧ f1 = f)) := by
  refine gC_of (by decide) (Nat.le_of_ble_eq_true rfl) (fun p env s m args below meth c S hr hlk hnm H locs hI ls hl => ?_)
  have hl : lv_has ls 3 [(0, .int (nI i)), (1, .int (nI n)), (2, .null)] := hl
  refine lv_iload_n S.1 S.2.1 d_Prec_checkIndex_0 rfl (lv_at hl 0 rfl) ?_
  refine lv_if_lt (tgt := 9) S.1 S.2.1 d_Prec_checkIndex_1 (by decide) (fun c1 => ?_) (fun c1 => ?_)
  · skip
    exact absurd c1 (nI_pos (by omega))
  · skip
    refine lv_iload_n S.1 S.2.1 d_Prec_checkIndex_4 rfl (lv_at hl 0 rfl) ?_
    refine lv_iload_n S.1 S.2.1 d_Prec_checkIndex_5 rfl (lv_at hl 1 rfl) ?_
    refine lv_icmp_lt (tgt := 16) S.1 S.2.1 d_Prec_checkIndex_6 (by decide) (fun c2 => ?_) (fun c2 => ?_)
    · skip
      replace c2 : i < n := (nI_ltI (a := i) (b := n) (by omega) (by omega)).mp c2
      refine lv_iload_n S.1 S.2.1 d_Prec_checkIndex_16 rfl (lv_at hl 0 rfl) ?_
      exact gr_i S hr hlk hI (⟨rfl, rfl⟩) d_Prec_checkIndex_17
    · skip
      replace c2 : ¬ i < n := fun z => c2 ((nI_ltI (a := i) (b := n) (by omega) (by omega)).mpr z)
      exact absurd h c2
set_option maxHeartbeats 4000000 in
set_option maxRecDepth 100000 in
theorem c_Objs_checkIndex (l : Launch) (P : gPar) (f : gM) {i n : Nat} (h : i < n) (hn : n < 2 ^ 31) : gC l P y_Objs_checkIndex b_Objs_checkIndex 2 (some .int) 1 0 0 [.int (nI i), .int (nI n)] f (gQi P (fun r f1 => r = nI i ∧ f1 = f)) := by
  refine gC_of (by decide) (Nat.le_of_ble_eq_true rfl) (fun p env s m args below meth c S hr hlk hnm H locs hI ls hl => ?_)
  have hl : lv_has ls 2 [(0, .int (nI i)), (1, .int (nI n))] := hl
  refine lv_iload_n S.1 S.2.1 d_Objs_checkIndex_0 rfl (lv_at hl 0 rfl) ?_
  refine lv_iload_n S.1 S.2.1 d_Objs_checkIndex_1 rfl (lv_at hl 1 rfl) ?_
  refine lv_null S.1 S.2.1 d_Objs_checkIndex_2 ?_
  refine gc_Si S hI (c_Prec_checkIndex l P f h hn) kv_Prec_checkIndex wi_149 rfl hl.1 rfl (Nat.le_of_ble_eq_true rfl) ⟨Nat.le_of_ble_eq_true rfl, Nat.le_of_ble_eq_true rfl⟩ ⟨Nat.le_of_ble_eq_true rfl, Nat.le_of_ble_eq_true rfl⟩ d_Objs_checkIndex_3 (fun r3 f4 H locs hp5 hI => ?_)
  obtain ⟨hp1, hp2⟩ := hp5
  subst hp1
  rw [hp2] at hI
  exact gr_i S hr hlk hI (⟨rfl, rfl⟩) d_Objs_checkIndex_6
set_option maxHeartbeats 4000000 in
set_option maxRecDepth 100000 in
theorem c_AbC_init (l : Launch) (P : gPar) (f : gM) {a : Nat} : gC l P y_AbC_init b_AbC_init 1 none 1 0 0 [.ref a] f (gQv P (fun f1 => f1 = f)) := by
  refine gC_of (by decide) (Nat.le_of_ble_eq_true rfl) (fun p env s m args below meth c S hr hlk hnm H locs hI ls hl => ?_)
  have hl : lv_has ls 1 [(0, .ref a)] := hl
  refine lv_aload_n S.1 S.2.1 d_AbC_init_0 rfl (lv_at hl 0 rfl) ?_
  refine gc_obj S wi_51 hl.1 d_AbC_init_1 (Nat.le_of_ble_eq_true rfl) (Nat.le_of_ble_eq_true rfl) ?_
  exact gr_v S hr hlk hI (rfl) d_AbC_init_4
set_option maxHeartbeats 4000000 in
set_option maxRecDepth 100000 in
theorem c_AbL_init (l : Launch) (P : gPar) (f : gM) {a : Nat} (ha : f a = some (.inr (6, [.int 0, .null, .int 0]))) : gC l P y_AbL_init b_AbL_init 1 none 2 0 0 [.ref a] f (gQv P (fun f1 => f1 a = some (.inr (6, [.int (nI 0), .null, .int 0])) ∧ gFr f f1 [a])) := by
  refine gC_of (by decide) (Nat.le_of_ble_eq_true rfl) (fun p env s m args below meth c S hr hlk hnm H locs hI ls hl => ?_)
  have hl : lv_has ls 1 [(0, .ref a)] := hl
  have hF : gFr f f [a] := gFr.rf
  refine lv_aload_n S.1 S.2.1 d_AbL_init_0 rfl (lv_at hl 0 rfl) ?_
  refine gc_Iv S hI (c_AbC_init l P f) kv_AbC_init wi_48 rfl hl.1 rfl (Nat.le_of_ble_eq_true rfl) ⟨Nat.le_of_ble_eq_true rfl, Nat.le_of_ble_eq_true rfl⟩ ⟨Nat.le_of_ble_eq_true rfl, Nat.le_of_ble_eq_true rfl⟩ d_AbL_init_1 (fun f7 H locs hp8 hI => ?_)
  rw [hp8] at hI
  refine lv_aload_n S.1 S.2.1 d_AbL_init_4 rfl (lv_at hl 0 rfl) ?_
  refine lv_iconst (v := nI 0) S.1 S.2.1 d_AbL_init_5 (by decide) ?_
  refine gh_put S hI ha rfl i_AL t_AL tk_AL n_AL 0 (by decide) wi_55 rfl rfl rfl (Nat.le_of_ble_eq_true rfl) d_AbL_init_6 (fun H locs hI => ?_)
  have hI : gB P (va_up f a (some (.inr (6, [.int (nI 0), .null, .int 0])))) s H locs := hI
  obtain ⟨f9, ef9⟩ : ∃ z, z = va_up f a (some (.inr (6, [.int (nI 0), .null, .int 0]))) := ⟨_, rfl⟩
  rw [← ef9] at hI
  have h10 : f9 a = some (.inr (6, [.int (nI 0), .null, .int 0])) := by rw [ef9]; exact va_up_self _ _ _
  have hF : gFr f f9 [a] := by rw [ef9]; exact gFr.upA (by simp) hF
  exact gr_v S hr hlk hI (⟨h10, hF⟩) d_AbL_init_9
set_option maxHeartbeats 4000000 in
set_option maxRecDepth 100000 in
theorem c_AL_init (l : Launch) (P : gPar) (f : gM) {a : Nat} (ha : f a = some (.inr (6, [.int 0, .null, .int 0]))) : gC l P y_AL_init b_AL_init 1 none 3 0 0 [.ref a] f (gQv P (fun f1 => gLi P f1 a P.2.2.2.1 0 [] ∧ gFr f f1 [a])) := by
  refine gC_of (by decide) (Nat.le_of_ble_eq_true rfl) (fun p env s m args below meth c S hr hlk hnm H locs hI ls hl => ?_)
  have hl : lv_has ls 1 [(0, .ref a)] := hl
  have hF : gFr f f [a] := gFr.rf
  refine lv_aload_n S.1 S.2.1 d_AL_init_0 rfl (lv_at hl 0 rfl) ?_
  refine gc_Iv S hI (c_AbL_init l P f ha) kv_AbL_init wi_45 rfl hl.1 rfl (Nat.le_of_ble_eq_true rfl) ⟨Nat.le_of_ble_eq_true rfl, Nat.le_of_ble_eq_true rfl⟩ ⟨Nat.le_of_ble_eq_true rfl, Nat.le_of_ble_eq_true rfl⟩ d_AL_init_1 (fun f12 H locs hp13 hI => ?_)
  obtain ⟨hp1, hF⟩ := hp13
  refine lv_aload_n S.1 S.2.1 d_AL_init_4 rfl (lv_at hl 0 rfl) ?_
  refine gh_gets0 S hI wi_52 d_AL_init_5 ?_
  refine gh_put S hI hp1 rfl i_AL t_AL tk_AL n_AL 1 (by decide) wi_53 rfl rfl rfl (Nat.le_of_ble_eq_true rfl) d_AL_init_8 (fun H locs hI => ?_)
  have hI : gB P (va_up f12 a (some (.inr (6, [.int (nI 0), .ref P.2.2.2.1, .int 0])))) s H locs := hI
  obtain ⟨f14, ef14⟩ : ∃ z, z = va_up f12 a (some (.inr (6, [.int (nI 0), .ref P.2.2.2.1, .int 0]))) := ⟨_, rfl⟩
  rw [← ef14] at hI
  have h15 : f14 a = some (.inr (6, [.int (nI 0), .ref P.2.2.2.1, .int 0])) := by rw [ef14]; exact va_up_self _ _ _
  have hF : gFr f f14 [a] := by rw [ef14]; exact gFr.upA (by simp) hF
  exact gr_v S hr hlk hI (⟨⟨⟨nI 0, h15⟩, Or.inl ⟨rfl, rfl, rfl⟩⟩, hF⟩) d_AL_init_11
set_option maxHeartbeats 4000000 in
set_option maxRecDepth 100000 in
theorem c_AL_size (l : Launch) (P : gPar) (f : gM) {a e cap : Nat} {L : List Nat} (h : gLi P f a e cap L) : gC l P y_AL_size b_AL_size 1 (some .int) 0 0 0 [.ref a] f (gQi P (fun r f1 => r = nI L.length ∧ f1 = f)) := by
  refine gC_of (by decide) (Nat.le_of_ble_eq_true rfl) (fun p env s m args below meth c S hr hlk hnm H locs hI ls hl => ?_)
  have hl : lv_has ls 1 [(0, .ref a)] := hl
  obtain ⟨⟨m0, ha⟩, h2⟩ := id h
  refine lv_aload_n S.1 S.2.1 d_AL_size_0 rfl (lv_at hl 0 rfl) ?_
  refine gh_get S hI ha rfl i_AL 2 (by decide) wi_54 rfl d_AL_size_1 ?_
  exact gr_i S hr hlk hI (⟨rfl, rfl⟩) d_AL_size_4
set_option maxHeartbeats 4000000 in
set_option maxRecDepth 100000 in
theorem c_AL_isEmpty (l : Launch) (P : gPar) (f : gM) {a e cap : Nat} {L : List Nat} (h : gLi P f a e cap L) (hn : L.length < 2 ^ 31) : gC l P y_AL_isEmpty b_AL_isEmpty 1 (some .boolean) 0 0 0 [.ref a] f (gQi P (fun r f1 => r = (if L.length = 0 then nI 1 else nI 0) ∧ f1 = f)) := by
  refine gC_of (by decide) (Nat.le_of_ble_eq_true rfl) (fun p env s m args below meth c S hr hlk hnm H locs hI ls hl => ?_)
  have hl : lv_has ls 1 [(0, .ref a)] := hl
  obtain ⟨⟨m0, ha⟩, h2⟩ := id h
  refine lv_aload_n S.1 S.2.1 d_AL_isEmpty_0 rfl (lv_at hl 0 rfl) ?_
  refine gh_get S hI ha rfl i_AL 2 (by decide) wi_54 rfl d_AL_isEmpty_1 ?_
  refine lv_if_ne (tgt := 11) S.1 S.2.1 d_AL_isEmpty_4 (by decide) (fun c16 => ?_) (fun c16 => ?_)
  · skip
    replace c16 : ¬ L.length = 0 := fun z => c16 ((nI_eq (a := L.length) (b := 0) (by omega) (by omega)).mpr z)
    refine lv_iconst (v := nI 0) S.1 S.2.1 d_AL_isEmpty_11 (by decide) ?_
    exact gr_z S hr hlk hI (by first | exact Or.inl rfl | exact Or.inr rfl) (⟨(if_neg c16).symm, rfl⟩) d_AL_isEmpty_12
  · skip
    replace c16 : L.length = 0 := (nI_eq (a := L.length) (b := 0) (by omega) (by omega)).mp c16
    refine lv_iconst (v := nI 1) S.1 S.2.1 d_AL_isEmpty_7 (by decide) ?_
    refine lv_goto (tgt := 12) S.1 S.2.1 d_AL_isEmpty_8 (by decide) ?_
    exact gr_z S hr hlk hI (by first | exact Or.inl rfl | exact Or.inr rfl) (⟨(if_pos c16).symm, rfl⟩) d_AL_isEmpty_12
set_option maxHeartbeats 4000000 in
set_option maxRecDepth 100000 in
theorem c_AL_elementData (l : Launch) (P : gPar) (f : gM) {a e cap i : Nat} {L : List Nat} (h : gLi P f a e cap L) (hi : i < L.length) (hc : cap < 2 ^ 20) : gC l P y_AL_elementData b_AL_elementData 2 (some (.object "java/lang/Object")) 0 0 0 [.ref a, .int (nI i)] f (gQq P (fun r f1 => ∃ x, r = some x ∧ L[i]? = some x ∧ f1 = f)) := by
  refine gC_of (by decide) (Nat.le_of_ble_eq_true rfl) (fun p env s m args below meth c S hr hlk hnm H locs hI ls hl => ?_)
  have hl : lv_has ls 2 [(0, .ref a), (1, .int (nI i))] := hl
  obtain ⟨⟨m0, ha⟩, h2⟩ := id h
  obtain ⟨g, he, hle, hg⟩ := h.ar hi
  refine lv_aload_n S.1 S.2.1 d_AL_elementData_0 rfl (lv_at hl 0 rfl) ?_
  refine gh_get S hI ha rfl i_AL 1 (by decide) wi_53 rfl d_AL_elementData_1 ?_
  refine lv_iload_n S.1 S.2.1 d_AL_elementData_4 rfl (lv_at hl 1 rfl) ?_
  refine gh_aald (j := i) S hI 4 he rfl rfl (by omega) (by omega) d_AL_elementData_5 ?_
  obtain ⟨x, hx⟩ : ∃ x, L[i]? = some x := ⟨_, List.getElem?_eq_getElem hi⟩
  exact gr_q (r := g i) S hr (Or.inl ⟨_, rfl⟩) hlk hI ⟨x, by rw [hg i hi]; exact hx, hx, rfl⟩ d_AL_elementData_6
set_option maxHeartbeats 4000000 in
set_option maxRecDepth 100000 in
theorem c_AL_get (l : Launch) (P : gPar) (f : gM) {a e cap i : Nat} {L : List Nat} (h : gLi P f a e cap L) (hi : i < L.length) (hc : cap < 2 ^ 20) : gC l P y_AL_get b_AL_get 2 (some (.object "java/lang/Object")) 2 0 0 [.ref a, .int (nI i)] f (gQq P (fun r f1 => ∃ x, r = some x ∧ L[i]? = some x ∧ f1 = f)) := by
  refine gC_of (by decide) (Nat.le_of_ble_eq_true rfl) (fun p env s m args below meth c S hr hlk hnm H locs hI ls hl => ?_)
  have hl : lv_has ls 2 [(0, .ref a), (1, .int (nI i))] := hl
  obtain ⟨⟨m0, ha⟩, h2⟩ := id h
  obtain ⟨g, he, hle, hg⟩ := h.ar hi
  refine lv_iload_n S.1 S.2.1 d_AL_get_0 rfl (lv_at hl 1 rfl) ?_
  refine lv_aload_n S.1 S.2.1 d_AL_get_1 rfl (lv_at hl 0 rfl) ?_
  refine gh_get S hI ha rfl i_AL 2 (by decide) wi_54 rfl d_AL_get_2 ?_
  refine gc_Si S hI (c_Objs_checkIndex l P f (i := i) (n := L.length) hi (by omega)) kv_Objs_checkIndex wi_146 rfl hl.1 rfl (Nat.le_of_ble_eq_true rfl) ⟨Nat.le_of_ble_eq_true rfl, Nat.le_of_ble_eq_true rfl⟩ ⟨Nat.le_of_ble_eq_true rfl, Nat.le_of_ble_eq_true rfl⟩ d_AL_get_5 (fun r17 f18 H locs hp19 hI => ?_)
  obtain ⟨hp1, hp2⟩ := hp19
  subst hp1
  rw [hp2] at hI
  refine lv_pop S.1 S.2.1 d_AL_get_8 rfl ?_
  refine lv_aload_n S.1 S.2.1 d_AL_get_9 rfl (lv_at hl 0 rfl) ?_
  refine lv_iload_n S.1 S.2.1 d_AL_get_10 rfl (lv_at hl 1 rfl) ?_
  refine gc_Vr S hI (c_AL_elementData l P f h hi hc) kv_AL_elementData wi_152 ha rfl rfl rfl hl.1 rfl (Nat.le_of_ble_eq_true rfl) ⟨Nat.le_of_ble_eq_true rfl, Nat.le_of_ble_eq_true rfl⟩ ⟨Nat.le_of_ble_eq_true rfl, Nat.le_of_ble_eq_true rfl⟩ d_AL_get_11 (fun r20 f21 H locs hp22 hI => ?_)
  obtain ⟨hp1, hp2⟩ := hp22
  rw [hp2] at hI
  exact gr_r S hr (Or.inl ⟨_, rfl⟩) hlk hI (⟨hp1, rfl⟩) d_AL_get_14
set_option maxHeartbeats 4000000 in
set_option maxRecDepth 100000 in
theorem c_AL_set (l : Launch) (P : gPar) (f : gM) {a e cap i x k : Nat} {fs : List Value} {L : List Nat} (h : gLi P f a e cap L) (hi : i < L.length) (hc : cap < 2 ^ 20) (hk : k = 4 ∨ k = 2) (hx : f x = some (.inr (k, fs))) : gC l P y_AL_set b_AL_set 4 (some (.object "java/lang/Object")) 2 0 0 [.ref a, .int (nI i), .ref x] f (gQq P (fun r f1 => ∃ y, r = some y ∧ L[i]? = some y ∧ gLi P f1 a e cap (L.set i x) ∧ gFr f f1 [e])) := by
  refine gC_of (by decide) (Nat.le_of_ble_eq_true rfl) (fun p env s m args below meth c S hr hlk hnm H locs hI ls hl => ?_)
  have hl : lv_has ls 4 [(0, .ref a), (1, .int (nI i)), (2, .ref x)] := hl
  have hF : gFr f f [e] := gFr.rf
  obtain ⟨⟨m0, ha⟩, h2⟩ := id h
  obtain ⟨g, he, hle, hg⟩ := h.ar hi
  refine lv_iload_n S.1 S.2.1 d_AL_set_0 rfl (lv_at hl 1 rfl) ?_
  refine lv_aload_n S.1 S.2.1 d_AL_set_1 rfl (lv_at hl 0 rfl) ?_
  refine gh_get S hI ha rfl i_AL 2 (by decide) wi_54 rfl d_AL_set_2 ?_
  refine gc_Si S hI (c_Objs_checkIndex l P f (i := i) (n := L.length) hi (by omega)) kv_Objs_checkIndex wi_146 rfl hl.1 rfl (Nat.le_of_ble_eq_true rfl) ⟨Nat.le_of_ble_eq_true rfl, Nat.le_of_ble_eq_true rfl⟩ ⟨Nat.le_of_ble_eq_true rfl, Nat.le_of_ble_eq_true rfl⟩ d_AL_set_5 (fun r23 f24 H locs hp25 hI => ?_)
  obtain ⟨hp1, hp2⟩ := hp25
  subst hp1
  rw [hp2] at hI
  refine lv_pop S.1 S.2.1 d_AL_set_8 rfl ?_
  refine lv_aload_n S.1 S.2.1 d_AL_set_9 rfl (lv_at hl 0 rfl) ?_
  refine lv_iload_n S.1 S.2.1 d_AL_set_10 rfl (lv_at hl 1 rfl) ?_
  refine gc_Vr S hI (c_AL_elementData l P f h hi hc) kv_AL_elementData wi_152 ha rfl rfl rfl hl.1 rfl (Nat.le_of_ble_eq_true rfl) ⟨Nat.le_of_ble_eq_true rfl, Nat.le_of_ble_eq_true rfl⟩ ⟨Nat.le_of_ble_eq_true rfl, Nat.le_of_ble_eq_true rfl⟩ d_AL_set_11 (fun r26 f27 H locs hp28 hI => ?_)
  obtain ⟨hp1, hp2⟩ := hp28
  rw [hp2] at hI
  refine lv_astore_n (lv' := [(3, .ref r26), (0, .ref a), (1, .int (nI i)), (2, .ref x)]) S.1 S.2.1 d_AL_set_14 rfl hl (by decide) rfl (fun ls hl => ?_)
  refine lv_aload_n S.1 S.2.1 d_AL_set_15 rfl (lv_at hl 1 rfl) ?_
  refine gh_get S hI ha rfl i_AL 1 (by decide) wi_53 rfl d_AL_set_16 ?_
  refine lv_iload_n S.1 S.2.1 d_AL_set_19 rfl (lv_at hl 2 rfl) ?_
  refine lv_aload_n S.1 S.2.1 d_AL_set_20 rfl (lv_at hl 3 rfl) ?_
  refine gh_aastA (j := i) S hI he hk hx rfl (by omega) (by omega) d_AL_set_21 (fun H locs hI => ?_)
  have hI : gB P (va_up f e (some (.inl (P.2.1 4, cap, .inr (.inr (.inr (.inr (va_up g i (some x))))))))) s H locs := hI
  obtain ⟨f29, ef29⟩ : ∃ z, z = va_up f e (some (.inl (P.2.1 4, cap, .inr (.inr (.inr (.inr (va_up g i (some x)))))))) := ⟨_, rfl⟩
  rw [← ef29] at hI
  have h30 : f29 a = some (.inr (6, [.int m0, .ref e, .int (nI L.length)])) := by rw [ef29, va_up_ne _ _ (gh_ne ha he (by intro h; cases h))]; exact ha
  have h31 : f29 x = some (.inr (k, fs)) := by rw [ef29, va_up_ne _ _ (gh_ne hx he (by intro h; cases h))]; exact hx
  have h32 : f29 e = some (.inl (P.2.1 4, cap, .inr (.inr (.inr (.inr (va_up g i (some x))))))) := by rw [ef29]; exact va_up_self _ _ _
  have hF : gFr f f29 [e] := by rw [ef29]; exact gFr.upA (by simp) hF
  refine lv_aload_n S.1 S.2.1 d_AL_set_22 rfl (lv_at hl 0 rfl) ?_
  have hlen : (L.set i x).length = L.length := List.length_set
  exact gr_r S hr (Or.inl ⟨_, rfl⟩) hlk hI (⟨hp1, ⟨⟨m0, by rw [hlen]; exact h30⟩, Or.inr ⟨by omega, _, h32, by rw [hlen]; exact hle, l_set hg⟩⟩, hF⟩) d_AL_set_23
set_option maxHeartbeats 4000000 in
set_option maxRecDepth 100000 in
theorem c_AL_fastRemove (l : Launch) (P : gPar) (f : gM) {a e cap i k : Nat} {L : List Nat} (h : gLi P f a e cap L) (hi : i < L.length) (hc : cap < 2 ^ 20) (hEl : gEl k f L) (hFL : ∀ y ∈ L, y ∉ [a, e]) : gC l P y_AL_fastRemove b_AL_fastRemove 4 none 1 0 0 [.ref a, .ref e, .int (nI i)] f (gQv P (fun f1 => gLi P f1 a e cap (L.eraseIdx i) ∧ gFr f f1 [a, e])) := by
  refine gC_of (by decide) (Nat.le_of_ble_eq_true rfl) (fun p env s m args below meth c S hr hlk hnm H locs hI ls hl => ?_)
  have hl : lv_has ls 4 [(0, .ref a), (1, .ref e), (2, .int (nI i))] := hl
  have hF : gFr f f [a, e] := gFr.rf
  obtain ⟨⟨m0, ha⟩, h2⟩ := id h
  obtain ⟨g, he, hle, hg⟩ := h.ar hi
  refine lv_aload_n S.1 S.2.1 d_AL_fastRemove_0 rfl (lv_at hl 0 rfl) ?_
  refine lv_dup S.1 S.2.1 d_AL_fastRemove_1 rfl ?_
  refine gh_getS S hI ha rfl i_AL 0 (by decide) wi_57 wi_56 rfl d_AL_fastRemove_2 ?_
  refine lv_iconst (v := nI 1) S.1 S.2.1 d_AL_fastRemove_5 (by decide) ?_
  refine lv_iadd S.1 S.2.1 d_AL_fastRemove_6 ?_
  refine gh_putS S hI ha rfl i_AL t_AL tk_AL n_AL 0 (by decide) wi_57 wi_56 rfl rfl rfl (Nat.le_of_ble_eq_true rfl) d_AL_fastRemove_7 (fun H locs hI => ?_)
  have hI : gB P (va_up f a (some (.inr (6, [.int (m0 + (nI 1)), .ref e, .int (nI L.length)])))) s H locs := hI
  obtain ⟨f33, ef33⟩ : ∃ z, z = va_up f a (some (.inr (6, [.int (m0 + (nI 1)), .ref e, .int (nI L.length)]))) := ⟨_, rfl⟩
  rw [← ef33] at hI
  have h34 : f33 e = some (.inl (P.2.1 4, cap, .inr (.inr (.inr (.inr g))))) := by rw [ef33, va_up_ne _ _ (gh_ne he ha (by intro h; cases h))]; exact he
  have h35 : f33 a = some (.inr (6, [.int (m0 + (nI 1)), .ref e, .int (nI L.length)])) := by rw [ef33]; exact va_up_self _ _ _
  have hF : gFr f f33 [a, e] := by rw [ef33]; exact gFr.upA (by simp) hF
  refine lv_aload_n S.1 S.2.1 d_AL_fastRemove_10 rfl (lv_at hl 0 rfl) ?_
  refine gh_get S hI h35 rfl i_AL 2 (by decide) wi_54 rfl d_AL_fastRemove_11 ?_
  refine lv_iconst (v := nI 1) S.1 S.2.1 d_AL_fastRemove_14 (by decide) ?_
  refine lv_isub S.1 S.2.1 d_AL_fastRemove_15 ?_
  refine lv_topi (fun v36 ev36 => ?_)
  replace ev36 : v36 = nI (L.length - 1) := ev36.trans (pk_sub (by omega))
  subst ev36
  refine lv_dup S.1 S.2.1 d_AL_fastRemove_16 rfl ?_
  refine lv_istore_n (lv' := [(3, .int (nI (L.length - 1))), (0, .ref a), (1, .ref e), (2, .int (nI i))]) S.1 S.2.1 d_AL_fastRemove_17 rfl hl (by decide) rfl (fun ls hl => ?_)
  refine lv_iload_n S.1 S.2.1 d_AL_fastRemove_18 rfl (lv_at hl 3 rfl) ?_
  refine lv_icmp_le (tgt := 34) S.1 S.2.1 d_AL_fastRemove_19 (by decide) (fun c37 => ?_) (fun c37 => ?_)
  · skip
    replace c37 : (L.length - 1) ≤ i := (nI_leI (a := L.length - 1) (b := i) (by omega) (by omega)).mp c37
    refine lv_aload_n S.1 S.2.1 d_AL_fastRemove_34 rfl (lv_at hl 2 rfl) ?_
    refine lv_aload_n S.1 S.2.1 d_AL_fastRemove_35 rfl (lv_at hl 1 rfl) ?_
    refine lv_iload_n S.1 S.2.1 d_AL_fastRemove_36 rfl (lv_at hl 0 rfl) ?_
    refine lv_dup_x1 S.1 S.2.1 d_AL_fastRemove_37 rfl rfl ?_
    refine gh_put S hI h35 rfl i_AL t_AL tk_AL n_AL 2 (by decide) wi_54 rfl rfl rfl (Nat.le_of_ble_eq_true rfl) d_AL_fastRemove_38 (fun H locs hI => ?_)
    have hI : gB P (va_up f33 a (some (.inr (6, [.int (m0 + (nI 1)), .ref e, .int (nI (L.length - 1))])))) s H locs := hI
    obtain ⟨f38, ef38⟩ : ∃ z, z = va_up f33 a (some (.inr (6, [.int (m0 + (nI 1)), .ref e, .int (nI (L.length - 1))]))) := ⟨_, rfl⟩
    rw [← ef38] at hI
    have h39 : f38 e = some (.inl (P.2.1 4, cap, .inr (.inr (.inr (.inr g))))) := by rw [ef38, va_up_ne _ _ (gh_ne h34 h35 (by intro h; cases h))]; exact h34
    have h40 : f38 a = some (.inr (6, [.int (m0 + (nI 1)), .ref e, .int (nI (L.length - 1))])) := by rw [ef38]; exact va_up_self _ _ _
    have hF : gFr f f38 [a, e] := by rw [ef38]; exact gFr.upA (by simp) hF
    refine lv_null S.1 S.2.1 d_AL_fastRemove_41 ?_
    refine gh_aastN (j := L.length - 1) S hI 4 h39 rfl rfl (by omega) (by omega) d_AL_fastRemove_42 (fun H locs hI => ?_)
    have hI : gB P (va_up f38 e (some (.inl (P.2.1 4, cap, .inr (.inr (.inr (.inr (va_up g (L.length - 1) none)))))))) s H locs := hI
    obtain ⟨f41, ef41⟩ : ∃ z, z = va_up f38 e (some (.inl (P.2.1 4, cap, .inr (.inr (.inr (.inr (va_up g (L.length - 1) none))))))) := ⟨_, rfl⟩
    rw [← ef41] at hI
    have h42 : f41 a = some (.inr (6, [.int (m0 + (nI 1)), .ref e, .int (nI (L.length - 1))])) := by rw [ef41, va_up_ne _ _ (gh_ne h40 h39 (by intro h; cases h))]; exact h40
    have h43 : f41 e = some (.inl (P.2.1 4, cap, .inr (.inr (.inr (.inr (va_up g (L.length - 1) none)))))) := by rw [ef41]; exact va_up_self _ _ _
    have hF : gFr f f41 [a, e] := by rw [ef41]; exact gFr.upA (by simp) hF
    have ei : i = L.length - 1 := by omega
    subst ei
    have hlen : (L.eraseIdx (L.length - 1)).length = L.length - 1 := List.length_eraseIdx_of_lt hi
    exact gr_v S hr hlk hI (⟨⟨⟨_, by rw [hlen]; exact h42⟩, Or.inr ⟨by omega, _, h43, by rw [hlen]; omega, l_erase1 (by omega) hg⟩⟩, hF⟩) d_AL_fastRemove_43
  · skip
    replace c37 : ¬ (L.length - 1) ≤ i := fun z => c37 ((nI_leI (a := L.length - 1) (b := i) (by omega) (by omega)).mpr z)
    refine lv_aload_n S.1 S.2.1 d_AL_fastRemove_22 rfl (lv_at hl 2 rfl) ?_
    refine lv_iload_n S.1 S.2.1 d_AL_fastRemove_23 rfl (lv_at hl 3 rfl) ?_
    refine lv_iconst (v := nI 1) S.1 S.2.1 d_AL_fastRemove_24 (by decide) ?_
    refine lv_iadd S.1 S.2.1 d_AL_fastRemove_25 ?_
    refine lv_topi (fun v44 ev44 => ?_)
    replace ev44 : v44 = nI (i + 1) := ev44.trans (nI_add _ _)
    subst ev44
    refine lv_aload_n S.1 S.2.1 d_AL_fastRemove_26 rfl (lv_at hl 2 rfl) ?_
    refine lv_iload_n S.1 S.2.1 d_AL_fastRemove_27 rfl (lv_at hl 3 rfl) ?_
    refine lv_iload_n S.1 S.2.1 d_AL_fastRemove_28 rfl (lv_at hl 0 rfl) ?_
    refine lv_iload_n S.1 S.2.1 d_AL_fastRemove_29 rfl (lv_at hl 3 rfl) ?_
    refine lv_isub S.1 S.2.1 d_AL_fastRemove_30 ?_
    refine lv_topi (fun v45 ev45 => ?_)
    replace ev45 : v45 = nI ((L.length - 1) - i) := ev45.trans (pk_sub (by omega))
    subst ev45
    refine gh_copyq (sp := i + 1) (dp := i) (n := L.length - 1 - i) S hI hl.1 wi_207 wi_113 wi_112 wi_9 4 h34 h34 rfl rfl rfl rfl (by omega) (by omega) (by omega) (by omega) (fun j hj y hy => (hEl.fr hF hFL).any (p := p) hI (List.mem_of_getElem? ((hg _ (by omega)).symm.trans hy))) (Nat.le_of_ble_eq_true rfl) (Nat.le_of_ble_eq_true rfl) d_AL_fastRemove_31 (fun H locs hI => ?_)
    have hI : gB P (va_up f33 e (some (.inl (P.2.1 4, cap, .inr (.inr (.inr (.inr (va_cpy g g (i + 1) i (L.length - 1 - i))))))))) s H locs := hI
    obtain ⟨f46, ef46⟩ : ∃ z, z = va_up f33 e (some (.inl (P.2.1 4, cap, .inr (.inr (.inr (.inr (va_cpy g g (i + 1) i (L.length - 1 - i)))))))) := ⟨_, rfl⟩
    rw [← ef46] at hI
    have h47 : f46 a = some (.inr (6, [.int (m0 + (nI 1)), .ref e, .int (nI L.length)])) := by rw [ef46, va_up_ne _ _ (gh_ne h35 h34 (by intro h; cases h))]; exact h35
    have h48 : f46 e = some (.inl (P.2.1 4, cap, .inr (.inr (.inr (.inr (va_cpy g g (i + 1) i (L.length - 1 - i))))))) := by rw [ef46]; exact va_up_self _ _ _
    have hF : gFr f f46 [a, e] := by rw [ef46]; exact gFr.upA (by simp) hF
    refine lv_aload_n S.1 S.2.1 d_AL_fastRemove_34 rfl (lv_at hl 2 rfl) ?_
    refine lv_aload_n S.1 S.2.1 d_AL_fastRemove_35 rfl (lv_at hl 1 rfl) ?_
    refine lv_iload_n S.1 S.2.1 d_AL_fastRemove_36 rfl (lv_at hl 0 rfl) ?_
    refine lv_dup_x1 S.1 S.2.1 d_AL_fastRemove_37 rfl rfl ?_
    refine gh_put S hI h47 rfl i_AL t_AL tk_AL n_AL 2 (by decide) wi_54 rfl rfl rfl (Nat.le_of_ble_eq_true rfl) d_AL_fastRemove_38 (fun H locs hI => ?_)
    have hI : gB P (va_up f46 a (some (.inr (6, [.int (m0 + (nI 1)), .ref e, .int (nI (L.length - 1))])))) s H locs := hI
    obtain ⟨f49, ef49⟩ : ∃ z, z = va_up f46 a (some (.inr (6, [.int (m0 + (nI 1)), .ref e, .int (nI (L.length - 1))]))) := ⟨_, rfl⟩
    rw [← ef49] at hI
    have h50 : f49 e = some (.inl (P.2.1 4, cap, .inr (.inr (.inr (.inr (va_cpy g g (i + 1) i (L.length - 1 - i))))))) := by rw [ef49, va_up_ne _ _ (gh_ne h48 h47 (by intro h; cases h))]; exact h48
    have h51 : f49 a = some (.inr (6, [.int (m0 + (nI 1)), .ref e, .int (nI (L.length - 1))])) := by rw [ef49]; exact va_up_self _ _ _
    have hF : gFr f f49 [a, e] := by rw [ef49]; exact gFr.upA (by simp) hF
    refine lv_null S.1 S.2.1 d_AL_fastRemove_41 ?_
    refine gh_aastN (j := L.length - 1) S hI 4 h50 rfl rfl (by omega) (by omega) d_AL_fastRemove_42 (fun H locs hI => ?_)
    have hI : gB P (va_up f49 e (some (.inl (P.2.1 4, cap, .inr (.inr (.inr (.inr (va_up (va_cpy g g (i + 1) i (L.length - 1 - i)) (L.length - 1) none)))))))) s H locs := hI
    obtain ⟨f52, ef52⟩ : ∃ z, z = va_up f49 e (some (.inl (P.2.1 4, cap, .inr (.inr (.inr (.inr (va_up (va_cpy g g (i + 1) i (L.length - 1 - i)) (L.length - 1) none))))))) := ⟨_, rfl⟩
    rw [← ef52] at hI
    have h53 : f52 a = some (.inr (6, [.int (m0 + (nI 1)), .ref e, .int (nI (L.length - 1))])) := by rw [ef52, va_up_ne _ _ (gh_ne h51 h50 (by intro h; cases h))]; exact h51
    have h54 : f52 e = some (.inl (P.2.1 4, cap, .inr (.inr (.inr (.inr (va_up (va_cpy g g (i + 1) i (L.length - 1 - i)) (L.length - 1) none)))))) := by rw [ef52]; exact va_up_self _ _ _
    have hF : gFr f f52 [a, e] := by rw [ef52]; exact gFr.upA (by simp) hF
    have hlen : (L.eraseIdx i).length = L.length - 1 := List.length_eraseIdx_of_lt hi
    exact gr_v S hr hlk hI (⟨⟨⟨_, by rw [hlen]; exact h53⟩, Or.inr ⟨by omega, _, h54, by rw [hlen]; omega, l_erase hi rfl hg⟩⟩, hF⟩) d_AL_fastRemove_43
set_option maxHeartbeats 4000000 in
set_option maxRecDepth 100000 in
theorem c_AL_remove (l : Launch) (P : gPar) (f : gM) {a e cap i k : Nat} {L : List Nat} (h : gLi P f a e cap L) (hi : i < L.length) (hc : cap < 2 ^ 20) (hEl : gEl k f L) (hFL : ∀ y ∈ L, y ∉ [a, e]) : gC l P y_AL_remove b_AL_remove 4 (some (.object "java/lang/Object")) 2 0 0 [.ref a, .int (nI i)] f (gQq P (fun r f1 => ∃ y, r = some y ∧ L[i]? = some y ∧ gLi P f1 a e cap (L.eraseIdx i) ∧ gFr f f1 [a, e])) := by
  refine gC_of (by decide) (Nat.le_of_ble_eq_true rfl) (fun p env s m args below meth c S hr hlk hnm H locs hI ls hl => ?_)
  have hl : lv_has ls 4 [(0, .ref a), (1, .int (nI i))] := hl
  obtain ⟨⟨m0, ha⟩, h2⟩ := id h
  obtain ⟨g, he, hle, hg⟩ := h.ar hi
  refine lv_iload_n S.1 S.2.1 d_AL_remove_0 rfl (lv_at hl 1 rfl) ?_
  refine lv_aload_n S.1 S.2.1 d_AL_remove_1 rfl (lv_at hl 0 rfl) ?_
  refine gh_get S hI ha rfl i_AL 2 (by decide) wi_54 rfl d_AL_remove_2 ?_
  refine gc_Si S hI (c_Objs_checkIndex l P f (i := i) (n := L.length) hi (by omega)) kv_Objs_checkIndex wi_146 rfl hl.1 rfl (Nat.le_of_ble_eq_true rfl) ⟨Nat.le_of_ble_eq_true rfl, Nat.le_of_ble_eq_true rfl⟩ ⟨Nat.le_of_ble_eq_true rfl, Nat.le_of_ble_eq_true rfl⟩ d_AL_remove_5 (fun r55 f56 H locs hp57 hI => ?_)
  obtain ⟨hp1, hp2⟩ := hp57
  subst hp1
  rw [hp2] at hI
  refine lv_pop S.1 S.2.1 d_AL_remove_8 rfl ?_
  refine lv_aload_n S.1 S.2.1 d_AL_remove_9 rfl (lv_at hl 0 rfl) ?_
  refine gh_get S hI ha rfl i_AL 1 (by decide) wi_53 rfl d_AL_remove_10 ?_
  refine lv_astore_n (lv' := [(2, .ref e), (0, .ref a), (1, .int (nI i))]) S.1 S.2.1 d_AL_remove_13 rfl hl (by decide) rfl (fun ls hl => ?_)
  refine lv_aload_n S.1 S.2.1 d_AL_remove_14 rfl (lv_at hl 0 rfl) ?_
  refine lv_iload_n S.1 S.2.1 d_AL_remove_15 rfl (lv_at hl 2 rfl) ?_
  obtain ⟨x, hx⟩ : ∃ x, L[i]? = some x := ⟨_, List.getElem?_eq_getElem hi⟩
  refine gh_aald (j := i) S hI 4 he rfl rfl (by omega) (by omega) d_AL_remove_16 ?_
  rw [show va_rf (g i) = .ref x from by rw [(hg i hi).trans hx]; rfl]
  refine lv_astore_n (lv' := [(3, .ref x), (2, .ref e), (0, .ref a), (1, .int (nI i))]) S.1 S.2.1 d_AL_remove_17 rfl hl (by decide) rfl (fun ls hl => ?_)
  refine lv_aload_n S.1 S.2.1 d_AL_remove_18 rfl (lv_at hl 2 rfl) ?_
  refine lv_aload_n S.1 S.2.1 d_AL_remove_19 rfl (lv_at hl 1 rfl) ?_
  refine lv_iload_n S.1 S.2.1 d_AL_remove_20 rfl (lv_at hl 3 rfl) ?_
  refine gc_Vv S hI (c_AL_fastRemove l P f h hi hc hEl hFL) kv_AL_fastRemove wi_204 ha rfl rfl rfl hl.1 rfl (Nat.le_of_ble_eq_true rfl) ⟨Nat.le_of_ble_eq_true rfl, Nat.le_of_ble_eq_true rfl⟩ ⟨Nat.le_of_ble_eq_true rfl, Nat.le_of_ble_eq_true rfl⟩ d_AL_remove_21 (fun f59 H locs hp60 hI => ?_)
  refine lv_aload_n S.1 S.2.1 d_AL_remove_24 rfl (lv_at hl 0 rfl) ?_
  exact gr_r S hr (Or.inl ⟨_, rfl⟩) hlk hI (⟨hx, hp60.1, hp60.2⟩) d_AL_remove_25
set_option maxHeartbeats 4000000 in
set_option maxRecDepth 100000 in
theorem c_ASup_newLength (l : Launch) (P : gPar) (f : gM) {n x y : Nat} (h0 : 0 < n) (hn : n < 2 ^ 20) (hx : x < 2 ^ 20) (hy : y < 2 ^ 20) : gC l P y_ASup_newLength b_ASup_newLength 4 (some .int) 1 0 0 [.int (nI n), .int (nI x), .int (nI y)] f (gQi P (fun r f1 => r = nI (n + max x y) ∧ f1 = f)) := by
  refine gC_of (by decide) (Nat.le_of_ble_eq_true rfl) (fun p env s m args below meth c S hr hlk hnm H locs hI ls hl => ?_)
  have hl : lv_has ls 4 [(0, .int (nI n)), (1, .int (nI x)), (2, .int (nI y))] := hl
  refine lv_iload_n S.1 S.2.1 d_ASup_newLength_0 rfl (lv_at hl 0 rfl) ?_
  refine lv_iload_n S.1 S.2.1 d_ASup_newLength_1 rfl (lv_at hl 1 rfl) ?_
  refine lv_iload_n S.1 S.2.1 d_ASup_newLength_2 rfl (lv_at hl 2 rfl) ?_
  refine gc_max S wi_229 hl.1 d_ASup_newLength_3 (by omega) (by omega) (Nat.le_of_ble_eq_true rfl) (Nat.le_of_ble_eq_true rfl) (Nat.le_of_ble_eq_true rfl) (Nat.le_of_ble_eq_true rfl) ?_
  refine lv_iadd S.1 S.2.1 d_ASup_newLength_6 ?_
  refine lv_topi (fun v61 ev61 => ?_)
  replace ev61 : v61 = nI (n + (max x y)) := ev61.trans (nI_add _ _)
  subst ev61
  refine lv_istore_n (lv' := [(3, .int (nI (n + (max x y)))), (0, .int (nI n)), (1, .int (nI x)), (2, .int (nI y))]) S.1 S.2.1 d_ASup_newLength_7 rfl hl (by decide) rfl (fun ls hl => ?_)
  refine lv_iconst (v := nI 0) S.1 S.2.1 d_ASup_newLength_8 (by decide) ?_
  refine lv_iload_n S.1 S.2.1 d_ASup_newLength_9 rfl (lv_at hl 0 rfl) ?_
  refine lv_icmp_ge (tgt := 21) S.1 S.2.1 d_ASup_newLength_10 (by decide) (fun c62 => ?_) (fun c62 => ?_)
  · skip
    replace c62 : (n + (max x y)) ≤ 0 := (nI_leI (a := n + (max x y)) (b := 0) (by omega) (by omega)).mp c62
    exact absurd c62 (by omega)
  · skip
    replace c62 : ¬ (n + (max x y)) ≤ 0 := fun z => c62 ((nI_leI (a := n + (max x y)) (b := 0) (by omega) (by omega)).mpr z)
    refine lv_iload_n S.1 S.2.1 d_ASup_newLength_13 rfl (lv_at hl 0 rfl) ?_
    refine lv_ldc (v := nI 2147483639) S.1 S.2.1 S.2.2.2.1 (S.2.2.2.2 _ wi_232) d_ASup_newLength_14 ?_
    refine lv_icmp_gt (tgt := 21) S.1 S.2.1 d_ASup_newLength_16 (by decide) (fun c63 => ?_) (fun c63 => ?_)
    · skip
      replace c63 : 2147483639 < (n + (max x y)) := (nI_ltI (a := 2147483639) (b := n + (max x y)) (by omega) (by omega)).mp c63
      exact absurd c63 (by omega)
    · skip
      replace c63 : ¬ 2147483639 < (n + (max x y)) := fun z => c63 ((nI_ltI (a := 2147483639) (b := n + (max x y)) (by omega) (by omega)).mpr z)
      refine lv_iload_n S.1 S.2.1 d_ASup_newLength_19 rfl (lv_at hl 0 rfl) ?_
      exact gr_i S hr hlk hI (⟨rfl, rfl⟩) d_ASup_newLength_20
set_option maxHeartbeats 4000000 in
set_option maxRecDepth 100000 in
theorem c_Arrs_copyOf2 (l : Launch) (P : gPar) (f : gM) {e cap n k : Nat} {L : List Nat} (h : gAr P f e cap L) (hL : L.length = cap) (hn : cap ≤ n) (hm : n ≤ 300) (hEl : gEl k f L) : gC l P y_Arrs_copyOf2 b_Arrs_copyOf2 4 (some (.array (.object "java/lang/Object"))) 1 1 300 [.ref e, .int (nI n), .ref P.2.2.2.2] f (gQq P (fun r f1 => ∃ y, r = some y ∧ gNew f y ∧ gAr P f1 y n L ∧ gFr f f1 [])) := by
  refine gC_of (by decide) (Nat.le_of_ble_eq_true rfl) (fun p env s m args below meth c S hr hlk hnm H locs hI ls hl => ?_)
  have hl : lv_has ls 4 [(0, .ref e), (1, .int (nI n)), (2, .ref P.2.2.2.2)] := hl
  have hF : gFr f f [] := gFr.rf
  obtain ⟨g, he, hle, hg⟩ := id h
  refine lv_aload_n S.1 S.2.1 d_Arrs_copyOf2_0 rfl (lv_at hl 2 rfl) ?_
  refine gh_ldcM S hI wi_254 d_Arrs_copyOf2_1 ?_
  refine gh_acmpne S d_Arrs_copyOf2_3 (tgt := 13) (by decide) ?_
  refine lv_iload_n S.1 S.2.1 d_Arrs_copyOf2_6 rfl (lv_at hl 1 rfl) ?_
  obtain ⟨z0, hz⟩ : ∃ z, H.size = z := ⟨_, rfl⟩
  have hnw := gB_new hI hz
  refine gh_newqOZ (n := n) S hI hz wi_255 rfl (by omega) (Nat.le_of_ble_eq_true rfl) (by show _ ≤ 300; omega) d_Arrs_copyOf2_7 (fun H hn64 hz hI => ?_)
  replace hz : H.size = z0 + 1 := hz
  have hI : gB P (va_up f z0 (some (.inl (P.2.1 4, n, .inr (.inr (.inr (.inr (fun _ => none)))))))) s H locs := hI
  obtain ⟨f65, ef65⟩ : ∃ z, z = va_up f z0 (some (.inl (P.2.1 4, n, .inr (.inr (.inr (.inr (fun _ => none))))))) := ⟨_, rfl⟩
  rw [← ef65] at hI
  have h66 : f65 e = some (.inl (P.2.1 4, cap, .inr (.inr (.inr (.inr g))))) := by rw [ef65, va_up_ne _ _ (gh_ne he hn64 (by intro h; cases h))]; exact he
  have h67 : f65 z0 = some (.inl (P.2.1 4, n, .inr (.inr (.inr (.inr (fun _ => none)))))) := by rw [ef65]; exact va_up_self _ _ _
  have hF : gFr f f65 [] := by rw [ef65]; exact gFr.upN hn64 hF
  refine W.widen (k := 1) (n := 300) (by omega) (by omega) ?_
  have hel := hEl.fr hF (fun y hy => by simp)
  refine lv_goto (tgt := 24) S.1 S.2.1 d_Arrs_copyOf2_10 (by decide) ?_
  refine lv_astore_n (lv' := [(3, .ref z0), (0, .ref e), (1, .int (nI n)), (2, .ref P.2.2.2.2)]) S.1 S.2.1 d_Arrs_copyOf2_24 rfl hl (by decide) rfl (fun ls hl => ?_)
  refine lv_aload_n S.1 S.2.1 d_Arrs_copyOf2_25 rfl (lv_at hl 1 rfl) ?_
  refine lv_iconst (v := nI 0) S.1 S.2.1 d_Arrs_copyOf2_26 (by decide) ?_
  refine lv_aload_n S.1 S.2.1 d_Arrs_copyOf2_27 rfl (lv_at hl 0 rfl) ?_
  refine lv_iconst (v := nI 0) S.1 S.2.1 d_Arrs_copyOf2_28 (by decide) ?_
  refine lv_aload_n S.1 S.2.1 d_Arrs_copyOf2_29 rfl (lv_at hl 1 rfl) ?_
  refine gh_alen S hI 4 h66 rfl d_Arrs_copyOf2_30 ?_
  refine lv_iload_n S.1 S.2.1 d_Arrs_copyOf2_31 rfl (lv_at hl 2 rfl) ?_
  refine gc_min S wi_256 hl.1 d_Arrs_copyOf2_32 (by omega) (by omega) (Nat.le_of_ble_eq_true rfl) (Nat.le_of_ble_eq_true rfl) (Nat.le_of_ble_eq_true rfl) (Nat.le_of_ble_eq_true rfl) ?_
  refine gh_copyq (sp := 0) (dp := 0) (n := min cap n) S hI hl.1 wi_257 wi_113 wi_112 wi_9 4 h66 h67 rfl rfl rfl rfl (by omega) (by omega) (by omega) (by omega) (fun j hj y hy => hel.any (p := p) hI (List.mem_of_getElem? (i := j) ((hg j (by omega)).symm.trans (by rw [← hy, Nat.zero_add])))) (Nat.le_of_ble_eq_true rfl) (Nat.le_of_ble_eq_true rfl) d_Arrs_copyOf2_35 (fun H locs hI => ?_)
  have hI : gB P (va_up f65 z0 (some (.inl (P.2.1 4, n, .inr (.inr (.inr (.inr (va_cpy g (fun _ => none) 0 0 (min cap n))))))))) s H locs := hI
  obtain ⟨f68, ef68⟩ : ∃ z, z = va_up f65 z0 (some (.inl (P.2.1 4, n, .inr (.inr (.inr (.inr (va_cpy g (fun _ => none) 0 0 (min cap n)))))))) := ⟨_, rfl⟩
  rw [← ef68] at hI
  have h69 : f68 e = some (.inl (P.2.1 4, cap, .inr (.inr (.inr (.inr g))))) := by rw [ef68, va_up_ne _ _ (gh_ne he hn64 (by intro h; cases h))]; exact h66
  have h70 : f68 z0 = some (.inl (P.2.1 4, n, .inr (.inr (.inr (.inr (va_cpy g (fun _ => none) 0 0 (min cap n))))))) := by rw [ef68]; exact va_up_self _ _ _
  have hF : gFr f f68 [] := by rw [ef68]; exact gFr.call hF (gFr.upA (l := [z0]) (by simp) gFr.rf) (fun q hq => Or.inr (by rw [List.mem_singleton.mp hq]; exact hn64))
  refine lv_aload_n S.1 S.2.1 d_Arrs_copyOf2_38 rfl (lv_at hl 0 rfl) ?_
  exact gr_r S hr (Or.inr ⟨_, rfl⟩) hlk hI (⟨hnw, ⟨_, h70, by omega, fun i hi => by rw [pk_cpy_in (by omega) (by omega), Nat.zero_add, Nat.sub_zero]; exact hg i hi⟩, fun q v hq hl => by first | exact hF q v hq hl | exact hF q v hq (by simp)⟩) d_Arrs_copyOf2_39
set_option maxHeartbeats 4000000 in
set_option maxRecDepth 100000 in
theorem c_Arrs_copyOf1 (l : Launch) (P : gPar) (f : gM) {e cap n k : Nat} {L : List Nat} (h : gAr P f e cap L) (hL : L.length = cap) (hn : cap ≤ n) (hm : n ≤ 300) (hEl : gEl k f L) : gC l P y_Arrs_copyOf1 b_Arrs_copyOf1 2 (some (.array (.object "java/lang/Object"))) 2 1 300 [.ref e, .int (nI n)] f (gQq P (fun r f1 => ∃ y, r = some y ∧ gNew f y ∧ gAr P f1 y n L ∧ gFr f f1 [])) := by
  refine gC_of (by decide) (Nat.le_of_ble_eq_true rfl) (fun p env s m args below meth c S hr hlk hnm H locs hI ls hl => ?_)
  have hl : lv_has ls 2 [(0, .ref e), (1, .int (nI n))] := hl
  obtain ⟨g, he, hle, hg⟩ := id h
  refine lv_aload_n S.1 S.2.1 d_Arrs_copyOf1_0 rfl (lv_at hl 0 rfl) ?_
  refine lv_iload_n S.1 S.2.1 d_Arrs_copyOf1_1 rfl (lv_at hl 1 rfl) ?_
  refine lv_aload_n S.1 S.2.1 d_Arrs_copyOf1_2 rfl (lv_at hl 0 rfl) ?_
  refine gh_getC S hI hl.1 he wi_239 wi_533 wi_240 wi_250 (Nat.le_of_ble_eq_true rfl) (Nat.le_of_ble_eq_true rfl) d_Arrs_copyOf1_3 ?_
  refine gc_Sr S hI (c_Arrs_copyOf2 l P f h hL hn hm hEl) kv_Arrs_copyOf2 wi_251 rfl hl.1 rfl (Nat.le_of_ble_eq_true rfl) ⟨Nat.le_of_ble_eq_true rfl, Nat.le_of_ble_eq_true rfl⟩ ⟨Nat.le_of_ble_eq_true rfl, Nat.le_of_ble_eq_true rfl⟩ d_Arrs_copyOf1_6 (fun r71 f72 H locs hp73 hI => ?_)
  exact gr_r S hr (Or.inr ⟨_, rfl⟩) hlk hI (hp73) d_Arrs_copyOf1_9
set_option maxHeartbeats 4000000 in
set_option maxRecDepth 100000 in
theorem c_AL_grow2 (l : Launch) (P : gPar) (f : gM) {a e cap k : Nat} {L : List Nat} (h : gLi P f a e cap L) (hf : L.length = cap) (hc : cap ≤ 130) (hEl : gEl k f L) (hFL : ∀ y ∈ L, y ∉ [a]) : gC l P y_AL_grow2 b_AL_grow2 4 (some (.array (.object "java/lang/Object"))) 3 1 300 [.ref a, .int (nI (L.length + 1))] f (gQq P (fun r f1 => ∃ y, r = some y ∧ gNew f y ∧ (∃ m : Int32, f1 a = some (.inr (6, [.int m, .ref y, .int (nI L.length)]))) ∧ (∃ cap1, gAr P f1 y cap1 L ∧ L.length < cap1 ∧ cap1 ≤ 200) ∧ gFr f f1 [a])) := by
  refine gC_of (by decide) (Nat.le_of_ble_eq_true rfl) (fun p env s m args below meth c S hr hlk hnm H locs hI ls hl => ?_)
  have hl : lv_has ls 4 [(0, .ref a), (1, .int (nI (L.length + 1)))] := hl
  have hF : gFr f f [a] := gFr.rf
  obtain ⟨⟨m0, ha⟩, h2⟩ := id h
  rcases h2 with ⟨rfl, rfl, rfl⟩ | ⟨hcp, h2⟩
  · skip
    refine lv_aload_n S.1 S.2.1 d_AL_grow2_0 rfl (lv_at hl 0 rfl) ?_
    refine gh_get S hI ha rfl i_AL 1 (by decide) wi_53 rfl d_AL_grow2_1 ?_
    refine gh_zlen S hI d_AL_grow2_4 ?_
    refine lv_istore_n (lv' := [(2, .int (nI 0)), (0, .ref a), (1, .int (nI (0 + 1)))]) S.1 S.2.1 d_AL_grow2_5 rfl hl (by decide) rfl (fun ls hl => ?_)
    refine lv_iload_n S.1 S.2.1 d_AL_grow2_6 rfl (lv_at hl 0 rfl) ?_
    refine lv_if_gt (tgt := 20) S.1 S.2.1 d_AL_grow2_7 (by decide) (fun c74 => ?_) (fun c74 => ?_)
    · skip
      replace c74 : 0 < 0 := (nI_ltI (a := 0) (b := 0) (by omega) (by omega)).mp c74
      exact absurd c74 (by omega)
    · skip
      replace c74 : ¬ 0 < 0 := fun z => c74 ((nI_ltI (a := 0) (b := 0) (by omega) (by omega)).mpr z)
      refine lv_aload_n S.1 S.2.1 d_AL_grow2_10 rfl (lv_at hl 1 rfl) ?_
      refine gh_get S hI ha rfl i_AL 1 (by decide) wi_53 rfl d_AL_grow2_11 ?_
      refine gh_gets0 S hI wi_52 d_AL_grow2_14 ?_
      refine gh_acmpeq S d_AL_grow2_17 (tgt := 45) (by decide) ?_
      refine lv_aload_n S.1 S.2.1 d_AL_grow2_45 rfl (lv_at hl 1 rfl) ?_
      refine lv_bipush (v := nI 10) S.1 S.2.1 d_AL_grow2_46 (by decide) ?_
      refine lv_iload_n S.1 S.2.1 d_AL_grow2_48 rfl (lv_at hl 2 rfl) ?_
      refine gc_max S wi_258 hl.1 d_AL_grow2_49 (by omega) (by omega) (Nat.le_of_ble_eq_true rfl) (Nat.le_of_ble_eq_true rfl) (Nat.le_of_ble_eq_true rfl) (Nat.le_of_ble_eq_true rfl) ?_
      have e10 : max 10 (0 + 1) = 10 := rfl
      rw [e10]
      obtain ⟨z0, hz⟩ : ∃ z, H.size = z := ⟨_, rfl⟩
      have hnw := gB_new hI hz
      refine gh_newqOZ (n := 10) S hI hz wi_259 rfl (by omega) (Nat.le_of_ble_eq_true rfl) (Nat.le_of_ble_eq_true rfl) d_AL_grow2_52 (fun H hn75 hz hI => ?_)
      replace hz : H.size = z0 + 1 := hz
      have hI : gB P (va_up f z0 (some (.inl (P.2.1 4, 10, .inr (.inr (.inr (.inr (fun _ => none)))))))) s H locs := hI
      obtain ⟨f76, ef76⟩ : ∃ z, z = va_up f z0 (some (.inl (P.2.1 4, 10, .inr (.inr (.inr (.inr (fun _ => none))))))) := ⟨_, rfl⟩
      rw [← ef76] at hI
      have h77 : f76 a = some (.inr (6, [.int m0, .ref P.2.2.2.1, .int (nI 0)])) := by rw [ef76, va_up_ne _ _ (gh_ne ha hn75 (by intro h; cases h))]; exact ha
      have h78 : f76 z0 = some (.inl (P.2.1 4, 10, .inr (.inr (.inr (.inr (fun _ => none)))))) := by rw [ef76]; exact va_up_self _ _ _
      have hF : gFr f f76 [a] := by rw [ef76]; exact gFr.upN hn75 hF
      refine lv_dup_x1 S.1 S.2.1 d_AL_grow2_55 rfl rfl ?_
      refine gh_put S hI h77 rfl i_AL t_AL tk_AL n_AL 1 (by decide) wi_53 rfl rfl rfl (Nat.le_of_ble_eq_true rfl) d_AL_grow2_56 (fun H locs hI => ?_)
      have hI : gB P (va_up f76 a (some (.inr (6, [.int m0, .ref z0, .int (nI 0)])))) s H locs := hI
      obtain ⟨f79, ef79⟩ : ∃ z, z = va_up f76 a (some (.inr (6, [.int m0, .ref z0, .int (nI 0)]))) := ⟨_, rfl⟩
      rw [← ef79] at hI
      have h80 : f79 z0 = some (.inl (P.2.1 4, 10, .inr (.inr (.inr (.inr (fun _ => none)))))) := by rw [ef79, va_up_ne _ _ (Ne.symm (gh_nn ha hn75))]; exact h78
      have h81 : f79 a = some (.inr (6, [.int m0, .ref z0, .int (nI 0)])) := by rw [ef79]; exact va_up_self _ _ _
      have hF : gFr f f79 [a] := by rw [ef79]; exact gFr.upA (by simp) hF
      refine W.widen (k := 1) (n := 300) (by omega) (by omega) ?_
      exact gr_r S hr (Or.inr ⟨_, rfl⟩) hlk hI (⟨hnw, ⟨m0, h81⟩, ⟨10, ⟨_, h80, by simp, fun i hi => absurd hi (by simp)⟩, by simp, by omega⟩, hF⟩) d_AL_grow2_59
  · skip
    obtain ⟨g, he, hle, hg⟩ := id h2
    refine lv_aload_n S.1 S.2.1 d_AL_grow2_0 rfl (lv_at hl 0 rfl) ?_
    refine gh_get S hI ha rfl i_AL 1 (by decide) wi_53 rfl d_AL_grow2_1 ?_
    refine gh_alen S hI 4 he rfl d_AL_grow2_4 ?_
    refine lv_istore_n (lv' := [(2, .int (nI cap)), (0, .ref a), (1, .int (nI (L.length + 1)))]) S.1 S.2.1 d_AL_grow2_5 rfl hl (by decide) rfl (fun ls hl => ?_)
    refine lv_iload_n S.1 S.2.1 d_AL_grow2_6 rfl (lv_at hl 0 rfl) ?_
    refine lv_if_gt (tgt := 20) S.1 S.2.1 d_AL_grow2_7 (by decide) (fun c82 => ?_) (fun c82 => ?_)
    · skip
      replace c82 : 0 < cap := (nI_ltI (a := 0) (b := cap) (by omega) (by omega)).mp c82
      have h0 : 0 < cap := by omega
      refine lv_iload_n S.1 S.2.1 d_AL_grow2_20 rfl (lv_at hl 0 rfl) ?_
      refine lv_iload_n S.1 S.2.1 d_AL_grow2_21 rfl (lv_at hl 2 rfl) ?_
      refine lv_iload_n S.1 S.2.1 d_AL_grow2_22 rfl (lv_at hl 0 rfl) ?_
      refine lv_isub S.1 S.2.1 d_AL_grow2_23 ?_
      refine lv_topi (fun v83 ev83 => ?_)
      replace ev83 : v83 = nI ((L.length + 1) - cap) := ev83.trans (pk_sub (by omega))
      subst ev83
      refine lv_iload_n S.1 S.2.1 d_AL_grow2_24 rfl (lv_at hl 0 rfl) ?_
      refine lv_iconst (v := nI 1) S.1 S.2.1 d_AL_grow2_25 (by decide) ?_
      refine lv_ishr S.1 S.2.1 d_AL_grow2_26 ?_
      refine lv_topi (fun v84 ev84 => ?_)
      replace ev84 : v84 = nI (cap / 2) := ev84.trans (pk_shrN (by omega) (nI 1 &&& 31) 1 (by decide))
      subst ev84
      refine gc_Si S hI (c_ASup_newLength l P f (n := cap) (x := L.length + 1 - cap) (y := cap / 2) h0 (by omega) (by omega) (by omega)) kv_ASup_newLength wi_226 rfl hl.1 rfl (Nat.le_of_ble_eq_true rfl) ⟨Nat.le_of_ble_eq_true rfl, Nat.le_of_ble_eq_true rfl⟩ ⟨Nat.le_of_ble_eq_true rfl, Nat.le_of_ble_eq_true rfl⟩ d_AL_grow2_27 (fun r85 f86 H locs hp87 hI => ?_)
      obtain ⟨hp1, hp2⟩ := hp87
      subst hp1
      rw [hp2] at hI
      obtain ⟨nn, hnn⟩ : ∃ z, z = cap + max (L.length + 1 - cap) (cap / 2) := ⟨_, rfl⟩
      rw [← hnn]
      have hn1 : cap < nn ∧ nn ≤ 200 := by omega
      refine lv_istore_n (lv' := [(3, .int (nI nn)), (2, .int (nI cap)), (0, .ref a), (1, .int (nI (L.length + 1)))]) S.1 S.2.1 d_AL_grow2_30 rfl hl (by decide) rfl (fun ls hl => ?_)
      refine lv_aload_n S.1 S.2.1 d_AL_grow2_31 rfl (lv_at hl 2 rfl) ?_
      refine lv_aload_n S.1 S.2.1 d_AL_grow2_32 rfl (lv_at hl 2 rfl) ?_
      refine gh_get S hI ha rfl i_AL 1 (by decide) wi_53 rfl d_AL_grow2_33 ?_
      refine lv_iload_n S.1 S.2.1 d_AL_grow2_36 rfl (lv_at hl 0 rfl) ?_
      refine gc_Sr S hI (c_Arrs_copyOf1 l P f (n := nn) h2 hf (by omega) (by omega) hEl) kv_Arrs_copyOf1 wi_236 rfl hl.1 rfl (Nat.le_of_ble_eq_true rfl) ⟨Nat.le_of_ble_eq_true rfl, Nat.le_of_ble_eq_true rfl⟩ ⟨Nat.le_of_ble_eq_true rfl, Nat.le_of_ble_eq_true rfl⟩ d_AL_grow2_37 (fun r88 f89 H locs hp90 hI => ?_)
      obtain ⟨hp1, hp2, hp3⟩ := hp90
      have hF := hF.call hp3 (fun q hq => absurd hq (by simp))
      have ha1 := hp3 a _ ha (by simp)
      obtain ⟨g1, he1, hle1, hg1⟩ := hp2
      refine lv_dup_x1 S.1 S.2.1 d_AL_grow2_40 rfl rfl ?_
      refine gh_put S hI ha1 rfl i_AL t_AL tk_AL n_AL 1 (by decide) wi_53 rfl rfl rfl (Nat.le_of_ble_eq_true rfl) d_AL_grow2_41 (fun H locs hI => ?_)
      have hI : gB P (va_up f89 a (some (.inr (6, [.int m0, .ref r88, .int (nI L.length)])))) s H locs := hI
      obtain ⟨f91, ef91⟩ : ∃ z, z = va_up f89 a (some (.inr (6, [.int m0, .ref r88, .int (nI L.length)]))) := ⟨_, rfl⟩
      rw [← ef91] at hI
      have h92 : f91 r88 = some (.inl (P.2.1 4, nn, .inr (.inr (.inr (.inr g1))))) := by rw [ef91, va_up_ne _ _ (gh_ne he1 ha1 (by intro h; cases h))]; exact he1
      have h93 : f91 a = some (.inr (6, [.int m0, .ref r88, .int (nI L.length)])) := by rw [ef91]; exact va_up_self _ _ _
      have hF : gFr f f91 [a] := by rw [ef91]; exact gFr.upA (by simp) hF
      exact gr_r S hr (Or.inr ⟨_, rfl⟩) hlk hI (⟨hp1, ⟨m0, h93⟩, ⟨nn, ⟨g1, h92, hle1, hg1⟩, by omega, hn1.2⟩, hF⟩) d_AL_grow2_44
    · skip
      replace c82 : ¬ 0 < cap := fun z => c82 ((nI_ltI (a := 0) (b := cap) (by omega) (by omega)).mpr z)
      exact absurd hcp (by omega)
set_option maxHeartbeats 4000000 in
set_option maxRecDepth 100000 in
theorem c_AL_grow1 (l : Launch) (P : gPar) (f : gM) {a e cap k : Nat} {L : List Nat} (h : gLi P f a e cap L) (hf : L.length = cap) (hc : cap ≤ 130) (hEl : gEl k f L) (hFL : ∀ y ∈ L, y ∉ [a]) : gC l P y_AL_grow1 b_AL_grow1 1 (some (.array (.object "java/lang/Object"))) 4 1 300 [.ref a] f (gQq P (fun r f1 => ∃ y, r = some y ∧ gNew f y ∧ (∃ m : Int32, f1 a = some (.inr (6, [.int m, .ref y, .int (nI L.length)]))) ∧ (∃ cap1, gAr P f1 y cap1 L ∧ L.length < cap1 ∧ cap1 ≤ 200) ∧ gFr f f1 [a])) := by
  refine gC_of (by decide) (Nat.le_of_ble_eq_true rfl) (fun p env s m args below meth c S hr hlk hnm H locs hI ls hl => ?_)
  have hl : lv_has ls 1 [(0, .ref a)] := hl
  obtain ⟨⟨m0, ha⟩, h2⟩ := id h
  refine lv_aload_n S.1 S.2.1 d_AL_grow1_0 rfl (lv_at hl 0 rfl) ?_
  refine lv_aload_n S.1 S.2.1 d_AL_grow1_1 rfl (lv_at hl 0 rfl) ?_
  refine gh_get S hI ha rfl i_AL 2 (by decide) wi_54 rfl d_AL_grow1_2 ?_
  refine lv_iconst (v := nI 1) S.1 S.2.1 d_AL_grow1_5 (by decide) ?_
  refine lv_iadd S.1 S.2.1 d_AL_grow1_6 ?_
  refine lv_topi (fun v94 ev94 => ?_)
  replace ev94 : v94 = nI (L.length + 1) := ev94.trans (nI_add _ _)
  subst ev94
  refine gc_Vr S hI (c_AL_grow2 l P f h hf hc hEl hFL) kv_AL_grow2 wi_223 ha rfl rfl rfl hl.1 rfl (Nat.le_of_ble_eq_true rfl) ⟨Nat.le_of_ble_eq_true rfl, Nat.le_of_ble_eq_true rfl⟩ ⟨Nat.le_of_ble_eq_true rfl, Nat.le_of_ble_eq_true rfl⟩ d_AL_grow1_7 (fun r95 f96 H locs hp97 hI => ?_)
  exact gr_r S hr (Or.inr ⟨_, rfl⟩) hlk hI (hp97) d_AL_grow1_10
set_option maxHeartbeats 4000000 in
set_option maxRecDepth 100000 in
theorem c_AL_rangeCheckForAdd (l : Launch) (P : gPar) (f : gM) {a e cap i : Nat} {L : List Nat} (h : gLi P f a e cap L) (hi : i ≤ L.length) (hn : L.length < 2 ^ 31) : gC l P y_AL_rangeCheckForAdd b_AL_rangeCheckForAdd 2 none 0 0 0 [.ref a, .int (nI i)] f (gQv P (fun f1 => f1 = f)) := by
  refine gC_of (by decide) (Nat.le_of_ble_eq_true rfl) (fun p env s m args below meth c S hr hlk hnm H locs hI ls hl => ?_)
  have hl : lv_has ls 2 [(0, .ref a), (1, .int (nI i))] := hl
  obtain ⟨⟨m0, ha⟩, h2⟩ := id h
  refine lv_iload_n S.1 S.2.1 d_AL_rangeCheckForAdd_0 rfl (lv_at hl 1 rfl) ?_
  refine lv_aload_n S.1 S.2.1 d_AL_rangeCheckForAdd_1 rfl (lv_at hl 0 rfl) ?_
  refine gh_get S hI ha rfl i_AL 2 (by decide) wi_54 rfl d_AL_rangeCheckForAdd_2 ?_
  refine lv_icmp_gt (tgt := 12) S.1 S.2.1 d_AL_rangeCheckForAdd_5 (by decide) (fun c98 => ?_) (fun c98 => ?_)
  · skip
    replace c98 : L.length < i := (nI_ltI (a := L.length) (b := i) (by omega) (by omega)).mp c98
    exact absurd c98 (by omega)
  · skip
    replace c98 : ¬ L.length < i := fun z => c98 ((nI_ltI (a := L.length) (b := i) (by omega) (by omega)).mpr z)
    refine lv_iload_n S.1 S.2.1 d_AL_rangeCheckForAdd_8 rfl (lv_at hl 1 rfl) ?_
    refine lv_if_ge (tgt := 25) S.1 S.2.1 d_AL_rangeCheckForAdd_9 (by decide) (fun c99 => ?_) (fun c99 => ?_)
    · skip
      exact gr_v S hr hlk hI (rfl) d_AL_rangeCheckForAdd_25
    · skip
      exact absurd (nI_pos' (by omega)) c99
set_option maxHeartbeats 4000000 in
set_option maxRecDepth 100000 in
theorem c_AL_add3 (l : Launch) (P : gPar) (f : gM) {a e cap x k : Nat} {fs : List Value} {L : List Nat} (h : gLi P f a e cap L) (hc : cap ≤ 200) (hn : L.length ≤ 130) (hEl : gEl k f L) (hFL : ∀ y ∈ L, y ∉ [a, e]) (hx : f x = some (.inr (k, fs))) (hxa : x ≠ a) : gC l P y_AL_add3 b_AL_add3 4 none 5 1 300 [.ref a, .ref x, .ref e, .int (nI L.length)] f (gQv P (fun f1 => (∃ e1 cap1, gLi P f1 a e1 cap1 (L ++ [x]) ∧ cap1 ≤ 200 ∧ (e1 = e ∨ gNew f e1)) ∧ gFr f f1 [a, e] ∧ gDm f f1)) := by
  refine gC_of (by decide) (Nat.le_of_ble_eq_true rfl) (fun p env s m args below meth c S hr hlk hnm H locs hI ls hl => ?_)
  have hl : lv_has ls 4 [(0, .ref a), (1, .ref x), (2, .ref e), (3, .int (nI L.length))] := hl
  have hDm : gDm f f := gDm.rf
  have hF : gFr f f [a, e] := gFr.rf
  obtain ⟨⟨m0, ha⟩, h2⟩ := id h
  have hle0 := h.le
  by_cases hfull : L.length = cap
  · skip
    refine lv_iload_n S.1 S.2.1 d_AL_add3_0 rfl (lv_at hl 3 rfl) ?_
    refine lv_aload_n S.1 S.2.1 d_AL_add3_1 rfl (lv_at hl 2 rfl) ?_
    have hlenE : ∀ (st : List Value) (ls : Array Slot), W p l env (grm 5 1 300) s m args below meth c H locs 0 0 (MQ below (gQv P (fun f1 => (∃ e1 cap1, gLi P f1 a e1 cap1 (L ++ [x]) ∧ cap1 ≤ 200 ∧ (e1 = e ∨ gNew f e1)) ∧ gFr f f1 [a, e] ∧ gDm f f1)) args s 1 300 (gA P)) (F0 m 3 ls (.int (nI cap) :: st)) → W p l env (grm 5 1 300) s m args below meth c H locs 0 0 (MQ below (gQv P (fun f1 => (∃ e1 cap1, gLi P f1 a e1 cap1 (L ++ [x]) ∧ cap1 ≤ 200 ∧ (e1 = e ∨ gNew f e1)) ∧ gFr f f1 [a, e] ∧ gDm f f1)) args s 1 300 (gA P)) (F0 m 2 ls (.ref e :: st)) := by
      intro st ls kk
      rcases h2 with ⟨rfl, rfl, rfl⟩ | ⟨h0, g, he, hle, hg⟩
      · exact gh_zlen S hI d_AL_add3_2 kk
      · exact gh_alen S hI 4 he rfl d_AL_add3_2 kk
    refine hlenE _ _ ?_
    refine lv_icmp_ne (tgt := 11) S.1 S.2.1 d_AL_add3_3 (by decide) (fun c100 => ?_) (fun c100 => ?_)
    · skip
      replace c100 : ¬ L.length = cap := fun z => c100 ((nI_eq (a := L.length) (b := cap) (by omega) (by omega)).mpr z)
      exact absurd hfull c100
    · skip
      replace c100 : L.length = cap := (nI_eq (a := L.length) (b := cap) (by omega) (by omega)).mp c100
      refine lv_aload_n S.1 S.2.1 d_AL_add3_6 rfl (lv_at hl 0 rfl) ?_
      refine gc_Vr S hI (c_AL_grow1 l P f h hfull (by omega) hEl (fun y hy z => hFL y hy (by simp at z ⊢; exact Or.inl z))) kv_AL_grow1 wi_220 ha rfl rfl rfl hl.1 rfl (Nat.le_of_ble_eq_true rfl) ⟨Nat.le_of_ble_eq_true rfl, Nat.le_of_ble_eq_true rfl⟩ ⟨Nat.le_of_ble_eq_true rfl, Nat.le_of_ble_eq_true rfl⟩ d_AL_add3_7 (fun r101 f102 H locs hp103 hI => ?_)
      obtain ⟨hp1, ⟨m1, hp2⟩, ⟨cap1, ⟨g1, hp3, hp4, hp5⟩, hp6, hp7⟩, hp8⟩ := hp103
      have hF : gFr f f102 [a, e] := hp8.mono (by simp)
      have hDm : gDm f f102 := gDm.fr hp8 (fun c hc => by rw [List.mem_singleton.mp hc, hp2]; simp)
      have hx1 := hp8 x _ hx (by simp; exact hxa)
      refine lv_astore_n (lv' := [(2, .ref r101), (0, .ref a), (1, .ref x), (3, .int (nI L.length))]) S.1 S.2.1 d_AL_add3_10 rfl hl (by decide) rfl (fun ls hl => ?_)
      refine lv_aload_n S.1 S.2.1 d_AL_add3_11 rfl (lv_at hl 0 rfl) ?_
      refine lv_iload_n S.1 S.2.1 d_AL_add3_12 rfl (lv_at hl 3 rfl) ?_
      refine lv_aload_n S.1 S.2.1 d_AL_add3_13 rfl (lv_at hl 2 rfl) ?_
      refine gh_aastA (j := L.length) S hI hp3 hEl.1 hx1 rfl (by omega) (by omega) d_AL_add3_14 (fun H locs hI => ?_)
      have hI : gB P (va_up f102 r101 (some (.inl (P.2.1 4, cap1, .inr (.inr (.inr (.inr (va_up g1 L.length (some x))))))))) s H locs := hI
      obtain ⟨f104, ef104⟩ : ∃ z, z = va_up f102 r101 (some (.inl (P.2.1 4, cap1, .inr (.inr (.inr (.inr (va_up g1 L.length (some x)))))))) := ⟨_, rfl⟩
      rw [← ef104] at hI
      have h105 : f104 a = some (.inr (6, [.int m1, .ref r101, .int (nI L.length)])) := by rw [ef104, va_up_ne _ _ (gh_nn ha hp1.n)]; exact hp2
      have h106 : f104 x = some (.inr (k, fs)) := by rw [ef104, va_up_ne _ _ (gh_nn hx hp1.n)]; exact hx1
      have h107 : f104 r101 = some (.inl (P.2.1 4, cap1, .inr (.inr (.inr (.inr (va_up g1 L.length (some x))))))) := by rw [ef104]; exact va_up_self _ _ _
      have hDm : gDm f f104 := by rw [ef104]; exact hDm.up
      have hF : gFr f f104 [a, e] := by rw [ef104]; exact gFr.call hF (gFr.upA (l := [r101]) (by simp) gFr.rf) (fun q hq => Or.inr (by rw [List.mem_singleton.mp hq]; exact hp1.n))
      refine lv_aload_n S.1 S.2.1 d_AL_add3_15 rfl (lv_at hl 1 rfl) ?_
      refine lv_iload_n S.1 S.2.1 d_AL_add3_16 rfl (lv_at hl 3 rfl) ?_
      refine lv_iconst (v := nI 1) S.1 S.2.1 d_AL_add3_17 (by decide) ?_
      refine lv_iadd S.1 S.2.1 d_AL_add3_18 ?_
      refine lv_topi (fun v108 ev108 => ?_)
      replace ev108 : v108 = nI (L.length + 1) := ev108.trans (nI_add _ _)
      subst ev108
      refine gh_put S hI h105 rfl i_AL t_AL tk_AL n_AL 2 (by decide) wi_54 rfl rfl rfl (Nat.le_of_ble_eq_true rfl) d_AL_add3_19 (fun H locs hI => ?_)
      have hI : gB P (va_up f104 a (some (.inr (6, [.int m1, .ref r101, .int (nI (L.length + 1))])))) s H locs := hI
      obtain ⟨f109, ef109⟩ : ∃ z, z = va_up f104 a (some (.inr (6, [.int m1, .ref r101, .int (nI (L.length + 1))]))) := ⟨_, rfl⟩
      rw [← ef109] at hI
      have h110 : f109 x = some (.inr (k, fs)) := by rw [ef109, va_up_ne _ _ (hxa)]; exact h106
      have h111 : f109 r101 = some (.inl (P.2.1 4, cap1, .inr (.inr (.inr (.inr (va_up g1 L.length (some x))))))) := by rw [ef109, va_up_ne _ _ (Ne.symm (gh_nn ha hp1.n))]; exact h107
      have h112 : f109 a = some (.inr (6, [.int m1, .ref r101, .int (nI (L.length + 1))])) := by rw [ef109]; exact va_up_self _ _ _
      have hF : gFr f f109 [a, e] := by rw [ef109]; exact gFr.upA (by simp) hF
      have hDm : gDm f f109 := by rw [ef109]; exact hDm.up
      have hlen : (L ++ [x]).length = L.length + 1 := by simp
      exact gr_v S hr hlk hI (⟨⟨r101, cap1, ⟨⟨_, by rw [hlen]; exact h112⟩, Or.inr ⟨by omega, _, h111, by omega, l_push hp5⟩⟩, by omega, Or.inr hp1⟩, hF, hDm⟩) d_AL_add3_22
  · skip
    rcases h2 with ⟨rfl, rfl, rfl⟩ | ⟨h0, g, he, hle, hg⟩
    · exact absurd rfl hfull
    refine lv_iload_n S.1 S.2.1 d_AL_add3_0 rfl (lv_at hl 3 rfl) ?_
    refine lv_aload_n S.1 S.2.1 d_AL_add3_1 rfl (lv_at hl 2 rfl) ?_
    refine gh_alen S hI 4 he rfl d_AL_add3_2 ?_
    refine lv_icmp_ne (tgt := 11) S.1 S.2.1 d_AL_add3_3 (by decide) (fun c113 => ?_) (fun c113 => ?_)
    · skip
      replace c113 : ¬ L.length = cap := fun z => c113 ((nI_eq (a := L.length) (b := cap) (by omega) (by omega)).mpr z)
      refine W.widen (k := 1) (n := 300) (by omega) (by omega) ?_
      refine lv_aload_n S.1 S.2.1 d_AL_add3_11 rfl (lv_at hl 2 rfl) ?_
      refine lv_iload_n S.1 S.2.1 d_AL_add3_12 rfl (lv_at hl 3 rfl) ?_
      refine lv_aload_n S.1 S.2.1 d_AL_add3_13 rfl (lv_at hl 1 rfl) ?_
      refine gh_aastA (j := L.length) S hI he hEl.1 hx rfl (by omega) (by omega) d_AL_add3_14 (fun H locs hI => ?_)
      have hI : gB P (va_up f e (some (.inl (P.2.1 4, cap, .inr (.inr (.inr (.inr (va_up g L.length (some x))))))))) s H locs := hI
      obtain ⟨f114, ef114⟩ : ∃ z, z = va_up f e (some (.inl (P.2.1 4, cap, .inr (.inr (.inr (.inr (va_up g L.length (some x)))))))) := ⟨_, rfl⟩
      rw [← ef114] at hI
      have h115 : f114 a = some (.inr (6, [.int m0, .ref e, .int (nI L.length)])) := by rw [ef114, va_up_ne _ _ (gh_ne ha he (by intro h; cases h))]; exact ha
      have h116 : f114 x = some (.inr (k, fs)) := by rw [ef114, va_up_ne _ _ (gh_ne hx he (by intro h; cases h))]; exact hx
      have h117 : f114 e = some (.inl (P.2.1 4, cap, .inr (.inr (.inr (.inr (va_up g L.length (some x))))))) := by rw [ef114]; exact va_up_self _ _ _
      have hF : gFr f f114 [a, e] := by rw [ef114]; exact gFr.upA (by simp) hF
      have hDm : gDm f f114 := by rw [ef114]; exact hDm.up
      refine lv_aload_n S.1 S.2.1 d_AL_add3_15 rfl (lv_at hl 0 rfl) ?_
      refine lv_iload_n S.1 S.2.1 d_AL_add3_16 rfl (lv_at hl 3 rfl) ?_
      refine lv_iconst (v := nI 1) S.1 S.2.1 d_AL_add3_17 (by decide) ?_
      refine lv_iadd S.1 S.2.1 d_AL_add3_18 ?_
      refine lv_topi (fun v118 ev118 => ?_)
      replace ev118 : v118 = nI (L.length + 1) := ev118.trans (nI_add _ _)
      subst ev118
      refine gh_put S hI h115 rfl i_AL t_AL tk_AL n_AL 2 (by decide) wi_54 rfl rfl rfl (Nat.le_of_ble_eq_true rfl) d_AL_add3_19 (fun H locs hI => ?_)
      have hI : gB P (va_up f114 a (some (.inr (6, [.int m0, .ref e, .int (nI (L.length + 1))])))) s H locs := hI
      obtain ⟨f119, ef119⟩ : ∃ z, z = va_up f114 a (some (.inr (6, [.int m0, .ref e, .int (nI (L.length + 1))]))) := ⟨_, rfl⟩
      rw [← ef119] at hI
      have h120 : f119 x = some (.inr (k, fs)) := by rw [ef119, va_up_ne _ _ (hxa)]; exact h116
      have h121 : f119 e = some (.inl (P.2.1 4, cap, .inr (.inr (.inr (.inr (va_up g L.length (some x))))))) := by rw [ef119, va_up_ne _ _ (gh_ne h117 h115 (by intro h; cases h))]; exact h117
      have h122 : f119 a = some (.inr (6, [.int m0, .ref e, .int (nI (L.length + 1))])) := by rw [ef119]; exact va_up_self _ _ _
      have hF : gFr f f119 [a, e] := by rw [ef119]; exact gFr.upA (by simp) hF
      have hDm : gDm f f119 := by rw [ef119]; exact hDm.up
      have hlen : (L ++ [x]).length = L.length + 1 := by simp
      exact gr_v S hr hlk hI (⟨⟨e, cap, ⟨⟨_, by rw [hlen]; exact h122⟩, Or.inr ⟨by omega, _, h121, by omega, l_push hg⟩⟩, by omega, Or.inl rfl⟩, hF, hDm⟩) d_AL_add3_22
    · skip
      replace c113 : L.length = cap := (nI_eq (a := L.length) (b := cap) (by omega) (by omega)).mp c113
      exact absurd c113 hfull
theorem gFr_none {f f1 : gM} {l : List Nat} (h : gFr f f1 l) {q : Nat} (hl : ∀ v : Nat, q ∈ l → f1 q ≠ none) (z : f1 q = none) : f q = none := by
  cases hf : f q with
  | none => rfl
  | some v =>
    by_cases hq : q ∈ l
    · exact absurd z (hl 0 hq)
    · rw [h q v hf hq] at z; cases z
set_option maxHeartbeats 4000000 in
set_option maxRecDepth 100000 in
theorem c_AL_add2 (l : Launch) (P : gPar) (f : gM) {a e cap x k : Nat} {fs : List Value} {L : List Nat} (h : gLi P f a e cap L) (hc : cap ≤ 200) (hn : L.length ≤ 130) (hEl : gEl k f L) (hFL : ∀ y ∈ L, y ∉ [a, e]) (hx : f x = some (.inr (k, fs))) (hxa : x ≠ a) : gC l P y_AL_add2 b_AL_add2 2 (some .boolean) 6 1 300 [.ref a, .ref x] f (gQi P (fun r f1 => r = nI 1 ∧ (∃ e1 cap1, gLi P f1 a e1 cap1 (L ++ [x]) ∧ cap1 ≤ 200 ∧ (e1 = e ∨ gNew f e1)) ∧ gFr f f1 [a, e] ∧ gDm f f1)) := by
  refine gC_of (by decide) (Nat.le_of_ble_eq_true rfl) (fun p env s m args below meth c S hr hlk hnm H locs hI ls hl => ?_)
  have hl : lv_has ls 2 [(0, .ref a), (1, .ref x)] := hl
  have hDm : gDm f f := gDm.rf
  have hF : gFr f f [a, e] := gFr.rf
  obtain ⟨⟨m0, ha⟩, h2⟩ := id h
  refine lv_aload_n S.1 S.2.1 d_AL_add2_0 rfl (lv_at hl 0 rfl) ?_
  refine lv_dup S.1 S.2.1 d_AL_add2_1 rfl ?_
  refine gh_getS S hI ha rfl i_AL 0 (by decide) wi_57 wi_56 rfl d_AL_add2_2 ?_
  refine lv_iconst (v := nI 1) S.1 S.2.1 d_AL_add2_5 (by decide) ?_
  refine lv_iadd S.1 S.2.1 d_AL_add2_6 ?_
  refine gh_putS S hI ha rfl i_AL t_AL tk_AL n_AL 0 (by decide) wi_57 wi_56 rfl rfl rfl (Nat.le_of_ble_eq_true rfl) d_AL_add2_7 (fun H locs hI => ?_)
  have hI : gB P (va_up f a (some (.inr (6, [.int (m0 + (nI 1)), .ref e, .int (nI L.length)])))) s H locs := hI
  obtain ⟨f123, ef123⟩ : ∃ z, z = va_up f a (some (.inr (6, [.int (m0 + (nI 1)), .ref e, .int (nI L.length)]))) := ⟨_, rfl⟩
  rw [← ef123] at hI
  have h124 : f123 a = some (.inr (6, [.int (m0 + (nI 1)), .ref e, .int (nI L.length)])) := by rw [ef123]; exact va_up_self _ _ _
  have hF : gFr f f123 [a, e] := by rw [ef123]; exact gFr.upA (by simp) hF
  have hDm : gDm f f123 := by rw [ef123]; exact hDm.up
  refine lv_aload_n S.1 S.2.1 d_AL_add2_10 rfl (lv_at hl 0 rfl) ?_
  refine lv_aload_n S.1 S.2.1 d_AL_add2_11 rfl (lv_at hl 1 rfl) ?_
  refine lv_aload_n S.1 S.2.1 d_AL_add2_12 rfl (lv_at hl 0 rfl) ?_
  refine gh_get S hI h124 rfl i_AL 1 (by decide) wi_53 rfl d_AL_add2_13 ?_
  refine lv_aload_n S.1 S.2.1 d_AL_add2_16 rfl (lv_at hl 0 rfl) ?_
  refine gh_get S hI h124 rfl i_AL 2 (by decide) wi_54 rfl d_AL_add2_17 ?_
  have hF1 : gFr f f123 [a] := by rw [ef123]; exact gFr.upA (by simp) gFr.rf
  have h1 : gLi P f123 a e cap L := ⟨⟨_, h124⟩, h2.imp id (fun z => ⟨z.1, by
    obtain ⟨g, he, z2⟩ := z.2
    exact ⟨g, hF1 e _ he (by simp; exact gh_ne he ha (by intro h; cases h)), z2⟩⟩)⟩
  have hEl1 := hEl.fr hF1 (fun y hy z => hFL y hy (by simp at z ⊢; exact Or.inl z))
  have hx1 := hF1 x _ hx (by simp; exact hxa)
  have hDm1 := hDm
  refine gc_Vv S hI (c_AL_add3 l P f123 h1 hc hn hEl1 hFL hx1 hxa) kv_AL_add3 wi_337 h124 rfl rfl rfl hl.1 rfl (Nat.le_of_ble_eq_true rfl) ⟨Nat.le_of_ble_eq_true rfl, Nat.le_of_ble_eq_true rfl⟩ ⟨Nat.le_of_ble_eq_true rfl, Nat.le_of_ble_eq_true rfl⟩ d_AL_add2_20 (fun f126 H locs hp127 hI => ?_)
  obtain ⟨⟨e1, cap1, hp1, hp2, hp3⟩, hp4, hp5⟩ := hp127
  have hF := hF.call hp4 (fun q hq => Or.inl hq)
  have hDm := hDm.trans hp5
  refine lv_iconst (v := nI 1) S.1 S.2.1 d_AL_add2_23 (by decide) ?_
  exact gr_z S hr hlk hI (by first | exact Or.inl rfl | exact Or.inr rfl) (⟨rfl, ⟨e1, cap1, hp1, hp2, hp3.imp id (fun z => z.back hDm1)⟩, hF, hDm⟩) d_AL_add2_24
set_option maxHeartbeats 4000000 in
set_option maxRecDepth 100000 in
theorem c_AL_add1 (l : Launch) (P : gPar) (f : gM) {a e cap x k i : Nat} {fs : List Value} {L : List Nat} (h : gLi P f a e cap L) (hi : i ≤ L.length) (hc : cap ≤ 200) (hn : L.length ≤ 130) (hEl : gEl k f L) (hFL : ∀ y ∈ L, y ∉ [a, e]) (hx : f x = some (.inr (k, fs))) (hxa : x ≠ a) : gC l P y_AL_add1 b_AL_add1 5 none 5 1 300 [.ref a, .int (nI i), .ref x] f (gQv P (fun f1 => (∃ e1 cap1, gLi P f1 a e1 cap1 (L.insertIdx i x) ∧ cap1 ≤ 200 ∧ (e1 = e ∨ gNew f e1)) ∧ gFr f f1 [a, e] ∧ gDm f f1)) := by
  refine gC_of (by decide) (Nat.le_of_ble_eq_true rfl) (fun p env s m args below meth c S hr hlk hnm H locs hI ls hl => ?_)
  have hl : lv_has ls 5 [(0, .ref a), (1, .int (nI i)), (2, .ref x)] := hl
  have hDm : gDm f f := gDm.rf
  have hF : gFr f f [a, e] := gFr.rf
  obtain ⟨⟨m0, ha⟩, h2⟩ := id h
  have hle0 := h.le
  refine lv_aload_n S.1 S.2.1 d_AL_add1_0 rfl (lv_at hl 0 rfl) ?_
  refine lv_iload_n S.1 S.2.1 d_AL_add1_1 rfl (lv_at hl 1 rfl) ?_
  refine gc_Vv S hI (c_AL_rangeCheckForAdd l P f h hi (by omega)) kv_AL_rangeCheckForAdd wi_217 ha rfl rfl rfl hl.1 rfl (Nat.le_of_ble_eq_true rfl) ⟨Nat.le_of_ble_eq_true rfl, Nat.le_of_ble_eq_true rfl⟩ ⟨Nat.le_of_ble_eq_true rfl, Nat.le_of_ble_eq_true rfl⟩ d_AL_add1_2 (fun f129 H locs hp130 hI => ?_)
  rw [hp130] at hI
  refine lv_aload_n S.1 S.2.1 d_AL_add1_5 rfl (lv_at hl 0 rfl) ?_
  refine lv_dup S.1 S.2.1 d_AL_add1_6 rfl ?_
  refine gh_getS S hI ha rfl i_AL 0 (by decide) wi_57 wi_56 rfl d_AL_add1_7 ?_
  refine lv_iconst (v := nI 1) S.1 S.2.1 d_AL_add1_10 (by decide) ?_
  refine lv_iadd S.1 S.2.1 d_AL_add1_11 ?_
  refine gh_putS S hI ha rfl i_AL t_AL tk_AL n_AL 0 (by decide) wi_57 wi_56 rfl rfl rfl (Nat.le_of_ble_eq_true rfl) d_AL_add1_12 (fun H locs hI => ?_)
  have hI : gB P (va_up f a (some (.inr (6, [.int (m0 + (nI 1)), .ref e, .int (nI L.length)])))) s H locs := hI
  obtain ⟨f131, ef131⟩ : ∃ z, z = va_up f a (some (.inr (6, [.int (m0 + (nI 1)), .ref e, .int (nI L.length)]))) := ⟨_, rfl⟩
  rw [← ef131] at hI
  have h132 : f131 x = some (.inr (k, fs)) := by rw [ef131, va_up_ne _ _ (hxa)]; exact hx
  have h133 : f131 a = some (.inr (6, [.int (m0 + (nI 1)), .ref e, .int (nI L.length)])) := by rw [ef131]; exact va_up_self _ _ _
  have hF : gFr f f131 [a, e] := by rw [ef131]; exact gFr.upA (by simp) hF
  have hDm : gDm f f131 := by rw [ef131]; exact hDm.up
  refine lv_aload_n S.1 S.2.1 d_AL_add1_15 rfl (lv_at hl 0 rfl) ?_
  refine gh_get S hI h133 rfl i_AL 2 (by decide) wi_54 rfl d_AL_add1_16 ?_
  refine lv_dup S.1 S.2.1 d_AL_add1_19 rfl ?_
  refine lv_istore_n (lv' := [(3, .int (nI L.length)), (0, .ref a), (1, .int (nI i)), (2, .ref x)]) S.1 S.2.1 d_AL_add1_20 rfl hl (by decide) rfl (fun ls hl => ?_)
  refine lv_aload_n S.1 S.2.1 d_AL_add1_21 rfl (lv_at hl 1 rfl) ?_
  refine gh_get S hI h133 rfl i_AL 1 (by decide) wi_53 rfl d_AL_add1_22 ?_
  refine lv_dup S.1 S.2.1 d_AL_add1_25 rfl ?_
  refine lv_astore (lv' := [(4, .ref e), (3, .int (nI L.length)), (0, .ref a), (1, .int (nI i)), (2, .ref x)]) S.1 S.2.1 d_AL_add1_26 hl (by decide) rfl (fun ls hl => ?_)
  have hF1 : gFr f f131 [a] := by rw [ef131]; exact gFr.upA (by simp) gFr.rf
  have h1 : gLi P f131 a e cap L := ⟨⟨_, h133⟩, h2.imp id (fun z => ⟨z.1, by
    obtain ⟨g, he, z2⟩ := z.2
    exact ⟨g, hF1 e _ he (by simp; exact gh_ne he ha (by intro h; cases h)), z2⟩⟩)⟩
  have hEl1 := hEl.fr hF1 (fun y hy z => hFL y hy (by simp at z ⊢; exact Or.inl z))
  have hDm1 := hDm
  obtain ⟨m1, hm1⟩ := h1.1
  have h2 := h1.2
  by_cases hfull : L.length = cap
  · skip
    have hlenE : ∀ (st : List Value) (ls : Array Slot), W p l env (grm 5 1 300) s m args below meth c H locs 0 0 (MQ below (gQv P (fun f1 => (∃ e1 cap1, gLi P f1 a e1 cap1 (L.insertIdx i x) ∧ cap1 ≤ 200 ∧ (e1 = e ∨ gNew f e1)) ∧ gFr f f1 [a, e] ∧ gDm f f1)) args s 1 300 (gA P)) (F0 m 29 ls (.int (nI cap) :: st)) → W p l env (grm 5 1 300) s m args below meth c H locs 0 0 (MQ below (gQv P (fun f1 => (∃ e1 cap1, gLi P f1 a e1 cap1 (L.insertIdx i x) ∧ cap1 ≤ 200 ∧ (e1 = e ∨ gNew f e1)) ∧ gFr f f1 [a, e] ∧ gDm f f1)) args s 1 300 (gA P)) (F0 m 28 ls (.ref e :: st)) := by
      intro st ls kk
      rcases h2 with ⟨rfl, rfl, rfl⟩ | ⟨h0, g, he, hle, hg⟩
      · exact gh_zlen S hI d_AL_add1_28 kk
      · exact gh_alen S hI 4 he rfl d_AL_add1_28 kk
    refine hlenE _ _ ?_
    refine lv_icmp_ne (tgt := 38) S.1 S.2.1 d_AL_add1_29 (by decide) (fun c134 => ?_) (fun c134 => ?_)
    · skip
      replace c134 : ¬ L.length = cap := fun z => c134 ((nI_eq (a := L.length) (b := cap) (by omega) (by omega)).mpr z)
      exact absurd hfull c134
    · skip
      replace c134 : L.length = cap := (nI_eq (a := L.length) (b := cap) (by omega) (by omega)).mp c134
      refine lv_aload_n S.1 S.2.1 d_AL_add1_32 rfl (lv_at hl 2 rfl) ?_
      refine gc_Vr S hI (c_AL_grow1 l P f131 h1 hfull (by omega) hEl1 (fun y hy z => hFL y hy (by simp at z ⊢; exact Or.inl z))) kv_AL_grow1 wi_220 h133 rfl rfl rfl hl.1 rfl (Nat.le_of_ble_eq_true rfl) ⟨Nat.le_of_ble_eq_true rfl, Nat.le_of_ble_eq_true rfl⟩ ⟨Nat.le_of_ble_eq_true rfl, Nat.le_of_ble_eq_true rfl⟩ d_AL_add1_33 (fun r135 f136 H locs hp137 hI => ?_)
      obtain ⟨hp1, ⟨m2, hp2⟩, ⟨cap1, ⟨g1, hp3, hp4, hp5⟩, hp6, hp7⟩, hp8⟩ := hp137
      have hF : gFr f f136 [a, e] := hF.call hp8 (fun q hq => Or.inl (by rw [List.mem_singleton.mp hq]; simp))
      have hDm : gDm f f136 := hDm.trans (gDm.fr hp8 (fun c hc => by rw [List.mem_singleton.mp hc, hp2]; simp))
      have hx2 := hp8 x _ h132 (by simp; exact hxa)
      have hn0 : gNew f r135 := hp1.back hDm1
      have hel2 := hEl1.fr hp8 (fun y hy z => hFL y hy (by simp at z ⊢; exact Or.inl z))
      refine lv_astore (lv' := [(4, .ref r135), (3, .int (nI L.length)), (0, .ref a), (1, .int (nI i)), (2, .ref x)]) S.1 S.2.1 d_AL_add1_36 hl (by decide) rfl (fun ls hl => ?_)
      refine lv_aload S.1 S.2.1 d_AL_add1_38 (lv_at hl 0 rfl) ?_
      refine lv_iload_n S.1 S.2.1 d_AL_add1_40 rfl (lv_at hl 3 rfl) ?_
      refine lv_aload S.1 S.2.1 d_AL_add1_41 (lv_at hl 0 rfl) ?_
      refine lv_iload_n S.1 S.2.1 d_AL_add1_43 rfl (lv_at hl 3 rfl) ?_
      refine lv_iconst (v := nI 1) S.1 S.2.1 d_AL_add1_44 (by decide) ?_
      refine lv_iadd S.1 S.2.1 d_AL_add1_45 ?_
      refine lv_topi (fun v138 ev138 => ?_)
      replace ev138 : v138 = nI (i + 1) := ev138.trans (nI_add _ _)
      subst ev138
      refine lv_iload_n S.1 S.2.1 d_AL_add1_46 rfl (lv_at hl 1 rfl) ?_
      refine lv_iload_n S.1 S.2.1 d_AL_add1_47 rfl (lv_at hl 3 rfl) ?_
      refine lv_isub S.1 S.2.1 d_AL_add1_48 ?_
      refine lv_topi (fun v139 ev139 => ?_)
      replace ev139 : v139 = nI (L.length - i) := ev139.trans (pk_sub (by omega))
      subst ev139
      refine gh_copyq (sp := i) (dp := i + 1) (n := L.length - i) S hI hl.1 wi_207 wi_113 wi_112 wi_9 4 hp3 hp3 rfl rfl rfl rfl (by omega) (by omega) (by omega) (by omega) (fun j hj y hy => hel2.any (p := p) hI (List.mem_of_getElem? ((hp5 _ (by omega)).symm.trans hy))) (Nat.le_of_ble_eq_true rfl) (Nat.le_of_ble_eq_true rfl) d_AL_add1_49 (fun H locs hI => ?_)
      have hI : gB P (va_up f136 r135 (some (.inl (P.2.1 4, cap1, .inr (.inr (.inr (.inr (va_cpy g1 g1 i (i + 1) (L.length - i))))))))) s H locs := hI
      obtain ⟨f140, ef140⟩ : ∃ z, z = va_up f136 r135 (some (.inl (P.2.1 4, cap1, .inr (.inr (.inr (.inr (va_cpy g1 g1 i (i + 1) (L.length - i)))))))) := ⟨_, rfl⟩
      rw [← ef140] at hI
      have h141 : f140 a = some (.inr (6, [.int m2, .ref r135, .int (nI L.length)])) := by rw [ef140, va_up_ne _ _ (gh_nn h133 hp1.n)]; exact hp2
      have h142 : f140 x = some (.inr (k, fs)) := by rw [ef140, va_up_ne _ _ (gh_nn h132 hp1.n)]; exact hx2
      have h143 : f140 r135 = some (.inl (P.2.1 4, cap1, .inr (.inr (.inr (.inr (va_cpy g1 g1 i (i + 1) (L.length - i))))))) := by rw [ef140]; exact va_up_self _ _ _
      have hDm : gDm f f140 := by rw [ef140]; exact hDm.up
      have hF : gFr f f140 [a, e] := by rw [ef140]; exact gFr.call hF (gFr.upA (l := [r135]) (by simp) gFr.rf) (fun q hq => Or.inr (by rw [List.mem_singleton.mp hq]; exact hn0.n))
      refine lv_aload S.1 S.2.1 d_AL_add1_52 (lv_at hl 0 rfl) ?_
      refine lv_iload_n S.1 S.2.1 d_AL_add1_54 rfl (lv_at hl 3 rfl) ?_
      refine lv_aload_n S.1 S.2.1 d_AL_add1_55 rfl (lv_at hl 4 rfl) ?_
      refine gh_aastA (j := i) S hI h143 hEl.1 h142 rfl (by omega) (by omega) d_AL_add1_56 (fun H locs hI => ?_)
      have hI : gB P (va_up f140 r135 (some (.inl (P.2.1 4, cap1, .inr (.inr (.inr (.inr (va_up (va_cpy g1 g1 i (i + 1) (L.length - i)) i (some x))))))))) s H locs := hI
      obtain ⟨f144, ef144⟩ : ∃ z, z = va_up f140 r135 (some (.inl (P.2.1 4, cap1, .inr (.inr (.inr (.inr (va_up (va_cpy g1 g1 i (i + 1) (L.length - i)) i (some x)))))))) := ⟨_, rfl⟩
      rw [← ef144] at hI
      have h145 : f144 a = some (.inr (6, [.int m2, .ref r135, .int (nI L.length)])) := by rw [ef144, va_up_ne _ _ (gh_nn h133 hp1.n)]; exact h141
      have h146 : f144 x = some (.inr (k, fs)) := by rw [ef144, va_up_ne _ _ (gh_nn h132 hp1.n)]; exact h142
      have h147 : f144 r135 = some (.inl (P.2.1 4, cap1, .inr (.inr (.inr (.inr (va_up (va_cpy g1 g1 i (i + 1) (L.length - i)) i (some x))))))) := by rw [ef144]; exact va_up_self _ _ _
      have hDm : gDm f f144 := by rw [ef144]; exact hDm.up
      have hF : gFr f f144 [a, e] := by rw [ef144]; exact gFr.call hF (gFr.upA (l := [r135]) (by simp) gFr.rf) (fun q hq => Or.inr (by rw [List.mem_singleton.mp hq]; exact hn0.n))
      refine lv_aload_n S.1 S.2.1 d_AL_add1_57 rfl (lv_at hl 2 rfl) ?_
      refine lv_iload_n S.1 S.2.1 d_AL_add1_58 rfl (lv_at hl 1 rfl) ?_
      refine lv_iconst (v := nI 1) S.1 S.2.1 d_AL_add1_59 (by decide) ?_
      refine lv_iadd S.1 S.2.1 d_AL_add1_60 ?_
      refine lv_topi (fun v148 ev148 => ?_)
      replace ev148 : v148 = nI (L.length + 1) := ev148.trans (nI_add _ _)
      subst ev148
      refine gh_put S hI h145 rfl i_AL t_AL tk_AL n_AL 2 (by decide) wi_54 rfl rfl rfl (Nat.le_of_ble_eq_true rfl) d_AL_add1_61 (fun H locs hI => ?_)
      have hI : gB P (va_up f144 a (some (.inr (6, [.int m2, .ref r135, .int (nI (L.length + 1))])))) s H locs := hI
      obtain ⟨f149, ef149⟩ : ∃ z, z = va_up f144 a (some (.inr (6, [.int m2, .ref r135, .int (nI (L.length + 1))]))) := ⟨_, rfl⟩
      rw [← ef149] at hI
      have h150 : f149 x = some (.inr (k, fs)) := by rw [ef149, va_up_ne _ _ (hxa)]; exact h146
      have h151 : f149 r135 = some (.inl (P.2.1 4, cap1, .inr (.inr (.inr (.inr (va_up (va_cpy g1 g1 i (i + 1) (L.length - i)) i (some x))))))) := by rw [ef149, va_up_ne _ _ (Ne.symm (gh_nn h133 hp1.n))]; exact h147
      have h152 : f149 a = some (.inr (6, [.int m2, .ref r135, .int (nI (L.length + 1))])) := by rw [ef149]; exact va_up_self _ _ _
      have hF : gFr f f149 [a, e] := by rw [ef149]; exact gFr.upA (by simp) hF
      have hDm : gDm f f149 := by rw [ef149]; exact hDm.up
      have hlen : (L.insertIdx i x).length = L.length + 1 := List.length_insertIdx_of_le_length hi x
      exact gr_v S hr hlk hI (⟨⟨r135, cap1, ⟨⟨_, by rw [hlen]; exact h152⟩, Or.inr ⟨by omega, _, h151, by omega, l_ins hi rfl hp5⟩⟩, by omega, Or.inr hn0⟩, hF, hDm⟩) d_AL_add1_64
  · skip
    rcases h2 with ⟨rfl, rfl, rfl⟩ | ⟨h0, g, he, hle, hg⟩
    · exact absurd rfl hfull
    refine gh_alen S hI 4 he rfl d_AL_add1_28 ?_
    refine lv_icmp_ne (tgt := 38) S.1 S.2.1 d_AL_add1_29 (by decide) (fun c153 => ?_) (fun c153 => ?_)
    · skip
      replace c153 : ¬ L.length = cap := fun z => c153 ((nI_eq (a := L.length) (b := cap) (by omega) (by omega)).mpr z)
      refine W.widen (k := 1) (n := 300) (by omega) (by omega) ?_
      have hel2 := hEl1
      refine lv_aload S.1 S.2.1 d_AL_add1_38 (lv_at hl 0 rfl) ?_
      refine lv_iload_n S.1 S.2.1 d_AL_add1_40 rfl (lv_at hl 3 rfl) ?_
      refine lv_aload S.1 S.2.1 d_AL_add1_41 (lv_at hl 0 rfl) ?_
      refine lv_iload_n S.1 S.2.1 d_AL_add1_43 rfl (lv_at hl 3 rfl) ?_
      refine lv_iconst (v := nI 1) S.1 S.2.1 d_AL_add1_44 (by decide) ?_
      refine lv_iadd S.1 S.2.1 d_AL_add1_45 ?_
      refine lv_topi (fun v154 ev154 => ?_)
      replace ev154 : v154 = nI (i + 1) := ev154.trans (nI_add _ _)
      subst ev154
      refine lv_iload_n S.1 S.2.1 d_AL_add1_46 rfl (lv_at hl 1 rfl) ?_
      refine lv_iload_n S.1 S.2.1 d_AL_add1_47 rfl (lv_at hl 3 rfl) ?_
      refine lv_isub S.1 S.2.1 d_AL_add1_48 ?_
      refine lv_topi (fun v155 ev155 => ?_)
      replace ev155 : v155 = nI (L.length - i) := ev155.trans (pk_sub (by omega))
      subst ev155
      refine gh_copyq (sp := i) (dp := i + 1) (n := L.length - i) S hI hl.1 wi_207 wi_113 wi_112 wi_9 4 he he rfl rfl rfl rfl (by omega) (by omega) (by omega) (by omega) (fun j hj y hy => hel2.any (p := p) hI (List.mem_of_getElem? ((hg _ (by omega)).symm.trans hy))) (Nat.le_of_ble_eq_true rfl) (Nat.le_of_ble_eq_true rfl) d_AL_add1_49 (fun H locs hI => ?_)
      have hI : gB P (va_up f131 e (some (.inl (P.2.1 4, cap, .inr (.inr (.inr (.inr (va_cpy g g i (i + 1) (L.length - i))))))))) s H locs := hI
      obtain ⟨f156, ef156⟩ : ∃ z, z = va_up f131 e (some (.inl (P.2.1 4, cap, .inr (.inr (.inr (.inr (va_cpy g g i (i + 1) (L.length - i)))))))) := ⟨_, rfl⟩
      rw [← ef156] at hI
      have h157 : f156 x = some (.inr (k, fs)) := by rw [ef156, va_up_ne _ _ (gh_ne h132 he (by intro h; cases h))]; exact h132
      have h158 : f156 a = some (.inr (6, [.int (m0 + (nI 1)), .ref e, .int (nI L.length)])) := by rw [ef156, va_up_ne _ _ (gh_ne h133 he (by intro h; cases h))]; exact h133
      have h159 : f156 e = some (.inl (P.2.1 4, cap, .inr (.inr (.inr (.inr (va_cpy g g i (i + 1) (L.length - i))))))) := by rw [ef156]; exact va_up_self _ _ _
      have hF : gFr f f156 [a, e] := by rw [ef156]; exact gFr.upA (by simp) hF
      have hDm : gDm f f156 := by rw [ef156]; exact hDm.up
      refine lv_aload S.1 S.2.1 d_AL_add1_52 (lv_at hl 0 rfl) ?_
      refine lv_iload_n S.1 S.2.1 d_AL_add1_54 rfl (lv_at hl 3 rfl) ?_
      refine lv_aload_n S.1 S.2.1 d_AL_add1_55 rfl (lv_at hl 4 rfl) ?_
      refine gh_aastA (j := i) S hI h159 hEl.1 h157 rfl (by omega) (by omega) d_AL_add1_56 (fun H locs hI => ?_)
      have hI : gB P (va_up f156 e (some (.inl (P.2.1 4, cap, .inr (.inr (.inr (.inr (va_up (va_cpy g g i (i + 1) (L.length - i)) i (some x))))))))) s H locs := hI
      obtain ⟨f160, ef160⟩ : ∃ z, z = va_up f156 e (some (.inl (P.2.1 4, cap, .inr (.inr (.inr (.inr (va_up (va_cpy g g i (i + 1) (L.length - i)) i (some x)))))))) := ⟨_, rfl⟩
      rw [← ef160] at hI
      have h161 : f160 x = some (.inr (k, fs)) := by rw [ef160, va_up_ne _ _ (gh_ne h132 he (by intro h; cases h))]; exact h157
      have h162 : f160 a = some (.inr (6, [.int (m0 + (nI 1)), .ref e, .int (nI L.length)])) := by rw [ef160, va_up_ne _ _ (gh_ne h158 h159 (by intro h; cases h))]; exact h158
      have h163 : f160 e = some (.inl (P.2.1 4, cap, .inr (.inr (.inr (.inr (va_up (va_cpy g g i (i + 1) (L.length - i)) i (some x))))))) := by rw [ef160]; exact va_up_self _ _ _
      have hF : gFr f f160 [a, e] := by rw [ef160]; exact gFr.upA (by simp) hF
      have hDm : gDm f f160 := by rw [ef160]; exact hDm.up
      refine lv_aload_n S.1 S.2.1 d_AL_add1_57 rfl (lv_at hl 2 rfl) ?_
      refine lv_iload_n S.1 S.2.1 d_AL_add1_58 rfl (lv_at hl 1 rfl) ?_
      refine lv_iconst (v := nI 1) S.1 S.2.1 d_AL_add1_59 (by decide) ?_
      refine lv_iadd S.1 S.2.1 d_AL_add1_60 ?_
      refine lv_topi (fun v164 ev164 => ?_)
      replace ev164 : v164 = nI (L.length + 1) := ev164.trans (nI_add _ _)
      subst ev164
      refine gh_put S hI h162 rfl i_AL t_AL tk_AL n_AL 2 (by decide) wi_54 rfl rfl rfl (Nat.le_of_ble_eq_true rfl) d_AL_add1_61 (fun H locs hI => ?_)
      have hI : gB P (va_up f160 a (some (.inr (6, [.int (m0 + (nI 1)), .ref e, .int (nI (L.length + 1))])))) s H locs := hI
      obtain ⟨f165, ef165⟩ : ∃ z, z = va_up f160 a (some (.inr (6, [.int (m0 + (nI 1)), .ref e, .int (nI (L.length + 1))]))) := ⟨_, rfl⟩
      rw [← ef165] at hI
      have h166 : f165 x = some (.inr (k, fs)) := by rw [ef165, va_up_ne _ _ (hxa)]; exact h161
      have h167 : f165 e = some (.inl (P.2.1 4, cap, .inr (.inr (.inr (.inr (va_up (va_cpy g g i (i + 1) (L.length - i)) i (some x))))))) := by rw [ef165, va_up_ne _ _ (gh_ne h163 h162 (by intro h; cases h))]; exact h163
      have h168 : f165 a = some (.inr (6, [.int (m0 + (nI 1)), .ref e, .int (nI (L.length + 1))])) := by rw [ef165]; exact va_up_self _ _ _
      have hF : gFr f f165 [a, e] := by rw [ef165]; exact gFr.upA (by simp) hF
      have hDm : gDm f f165 := by rw [ef165]; exact hDm.up
      have hlen : (L.insertIdx i x).length = L.length + 1 := List.length_insertIdx_of_le_length hi x
      exact gr_v S hr hlk hI (⟨⟨e, cap, ⟨⟨_, by rw [hlen]; exact h168⟩, Or.inr ⟨by omega, _, h167, by omega, l_ins hi rfl hg⟩⟩, by omega, Or.inl rfl⟩, hF, hDm⟩) d_AL_add1_64
    · skip
      replace c153 : L.length = cap := (nI_eq (a := L.length) (b := cap) (by omega) (by omega)).mp c153
      exact absurd c153 hfull
end
section
/-! what the class's cells stand for -/
theorem gB_none {P : gPar} {f : gM} {s : State} {H : Heap} {locs : List Loc} (hI : gB P f s H locs) {q : Nat} (h : H.size ≤ q) : f q = none := by
  cases hf : f q with
  | none => rfl
  | some v =>
    obtain ⟨L, k, -, hP, -, h0⟩ := gh_open hI.2.1 hf
    have := (hP k _ h0).lt
    exact absurd this (by show ¬ q < H.size; omega)
/-- a file: name, number, length, which stripes are laid, its bytes (0 where there are none) -/
abbrev AFile : Type := List Nat × Int32 × Nat × (Nat → Bool) × (Nat → Nat)
/-- whose a piece is: a file's stripe, or nobody's -/
abbrev gO : Type := Nat → Option (Nat × Nat)
/-- the piece x with the bytes h -/
def gPc (P : gPar) (f : gM) (x : Nat) (h : Nat → Int32) : Prop := f x = some (.inr (2, [.ref (x + 1)])) ∧ f (x + 1) = some (.inl (P.2.1 0, 448, .inl h)) ∧ sb_Fit h
def gPs (P : gPar) (f : gM) (ow : gO) (q : Nat) (ps : Nat → Option Nat) (ld : Nat → Bool) (C : Nat → Nat) : Prop :=
  ∀ s, s < 19 → (ps s).isSome = ld s ∧ ∀ x, ps s = some x → ow x = some (q, s) ∧ ∃ h, gPc P f x h ∧ ∀ j, j < 448 → ub (h j) = C (448 * s + j)
/-- the file object q -/
def gFi (P : gPar) (f : gM) (ow : gO) (pl q : Nat) (v : AFile) : Prop :=
  ∃ (n : Nat) (g : Nat → Int32) (ps : Nat → Option Nat), f q = some (.inr (4, [.ref pl, .ref (q + 1), .ref (q + 3), .int v.2.1, .int (nI v.2.2.1)])) ∧ f (q + 1) = some (.inr (1, [.ref (q + 2), .int (nI n)])) ∧ f (q + 2) = some (.inl (P.2.1 0, 200, .inl g)) ∧ f (q + 3) = some (.inl (P.2.1 3, 19, .inr (.inr (.inr (.inr ps))))) ∧ n ≤ 200 ∧ sb_Fit g ∧ nmL n g = v.1 ∧ gPs P f ow q ps v.2.2.2.1 v.2.2.2.2
/-- a file's own law -/
def wfF (len : Nat) (ld : Nat → Bool) (C : Nat → Nat) : Prop := len ≤ 8192 ∧ (∀ p, len ≤ p → C p = 0) ∧ (∀ s, ld s = true → 448 * s < len) ∧ ∀ p, ld (p / 448) = false → C p = 0
/-- the spare pieces -/
def gSp (P : gPar) (f : gM) (ow : gO) (pl e cap : Nat) (SP : List Nat) : Prop :=
  f pl = some (.inr (3, [.ref (pl + 1)])) ∧ gLi P f (pl + 1) e cap SP ∧ cap ≤ 200 ∧ SP.Nodup ∧ ∀ x ∈ SP, ow x = none ∧ ∃ h, gPc P f x h ∧ ∀ j, j < 448 → h j = 0
theorem gPc.fr {P : gPar} {f f1 : gM} {x : Nat} {h : Nat → Int32} {l : List Nat} (hp : gPc P f x h) (hF : gFr f f1 l) (h1 : x ∉ l) (h2 : x + 1 ∉ l) : gPc P f1 x h := ⟨hF _ _ hp.1 h1, hF _ _ hp.2.1 h2, hp.2.2⟩
theorem gSp.el {P : gPar} {f : gM} {ow : gO} {pl e cap : Nat} {SP : List Nat} (h : gSp P f ow pl e cap SP) : gEl 2 f SP := ⟨Or.inr rfl, fun y hy => by
  obtain ⟨-, hh, hp, -⟩ := h.2.2.2.2 y hy
  exact ⟨_, hp.1⟩⟩
/-- the cells of a list hold no piece -/
theorem gLi.npc {P : gPar} {f : gM} {a e cap : Nat} {L : List Nat} (h : gLi P f a e cap L) {x k : Nat} {fs : List Value} (hk : k ≠ 6) (hx : f x = some (.inr (k, fs))) (hz : f P.2.2.2.1 = none) : x ∉ [a, e] := by
  intro z
  rcases List.mem_cons.mp z with rfl | z
  · obtain ⟨⟨m, h1⟩, -⟩ := h
    rw [hx] at h1; injection h1 with h1; injection h1 with h1; injection h1 with h1; exact absurd h1 hk
  · have z := List.mem_singleton.mp z
    subst z
    rcases h.2 with ⟨rfl, -, -⟩ | ⟨-, g, h1, -⟩
    · rw [hz] at hx; cases hx
    · rw [hx] at h1; cases h1
theorem gLi.nba {P : gPar} {f : gM} {a e cap : Nat} {L : List Nat} (h : gLi P f a e cap L) {x n : Nat} {g : Nat → Int32} (hx : f x = some (.inl (P.2.1 0, n, .inl g))) (hz : f P.2.2.2.1 = none) : x ∉ [a, e] := by
  intro z
  rcases List.mem_cons.mp z with rfl | z
  · obtain ⟨⟨m, h1⟩, -⟩ := h
    rw [hx] at h1; cases h1
  · have z := List.mem_singleton.mp z
    subst z
    rcases h.2 with ⟨rfl, -, -⟩ | ⟨-, g, h1, -⟩
    · rw [hz] at hx; cases hx
    · rw [hx] at h1; injection h1 with h1; injection h1 with h1; injection h1 with _ h1; injection h1 with _ h1; cases h1
/-- the static array isn't owned -/
theorem gB_z {P : gPar} {f : gM} {s : State} {H : Heap} {locs : List Loc} (hI : gB P f s H locs) : f P.2.2.2.1 = none := by
  cases hf : f P.2.2.2.1 with
  | none => rfl
  | some v =>
    obtain ⟨L, k, -, -, hD, h0⟩ := gh_open hI.2.1 hf
    obtain ⟨cell, -, -, -, hn⟩ := hI.1.2.2.2.2.2.2.2.2.2
    exact absurd (hD.2 k _ h0) hn
theorem l_last {L : List Nat} {x : Nat} (h : L[L.length - 1]? = some x) : L = L.eraseIdx (L.length - 1) ++ [x] := by
  have hl : L.length - 1 < L.length := (List.getElem?_eq_some_iff.mp h).1
  have he : (L.eraseIdx (L.length - 1)).length = L.length - 1 := List.length_eraseIdx_of_lt hl
  apply List.ext_getElem?
  intro j
  by_cases h1 : j < L.length - 1
  · rw [List.getElem?_append_left (by omega), List.getElem?_eraseIdx, if_pos h1]
  · rw [List.getElem?_append_right (by omega)]
    by_cases h2 : j = L.length - 1
    · subst h2; rw [h, he, Nat.sub_self]; rfl
    · rw [List.getElem?_eq_none (by omega), List.getElem?_eq_none (by simp; omega)]
/-- how many of the first k stripes are laid -/
def cntL (ld : Nat → Bool) : Nat → Nat
  | 0 => 0
  | k + 1 => cntL ld k + (if ld k = true then 1 else 0)
theorem cntL_le (ld : Nat → Bool) : ∀ k, cntL ld k ≤ k
  | 0 => Nat.le_refl _
  | k + 1 => by
    have := cntL_le ld k
    unfold cntL
    by_cases h : ld k = true
    · rw [if_pos h]; omega
    · rw [if_neg h]; omega
theorem cntL_congr {ld ld' : Nat → Bool} : ∀ k, (∀ s, s < k → ld s = ld' s) → cntL ld k = cntL ld' k
  | 0, _ => rfl
  | k + 1, h => by
    unfold cntL
    rw [cntL_congr k (fun s hs => h s (by omega)), h k (by omega)]
/-- byte i of stripe s as it is kept -/
def pcV (len : Nat) (ld : Nat → Bool) (C : Nat → Nat) (s i : Int32) : Int32 :=
  if ¬ s < 0 ∧ s < nI 19 ∧ ¬ i < 0 ∧ i < nI 448 ∧ ld s.toNatClampNeg = true ∧ 448 * s.toNatClampNeg + i.toNatClampNeg < len then nI (C (448 * s.toNatClampNeg + i.toNatClampNeg)) else (-2)
end
section
set_option maxHeartbeats 4000000 in
set_option maxRecDepth 100000 in
theorem c_AbC_initZ (l : Launch) (P : gPar) (f : gM) {a z : Nat} : gCz l P y_AbC_init b_AbC_init 1 none 1 0 0 [.ref a] (f, z) (gQz P (fun u => u.2 = z ∧ u.1 = f)) := by
  refine gCz_of (by decide) (Nat.le_of_ble_eq_true rfl) (fun p env s m args below meth c S hr hlk hnm H locs hI hz ls hl => ?_)
  have hl : lv_has ls 1 [(0, .ref a)] := hl
  refine lv_aload_n S.1 S.2.1 d_AbC_init_0 rfl (lv_at hl 0 rfl) ?_
  refine gc_obj S wi_51 hl.1 d_AbC_init_1 (Nat.le_of_ble_eq_true rfl) (Nat.le_of_ble_eq_true rfl) ?_
  exact gr_vz S hr hlk hI hz (⟨rfl, rfl⟩) d_AbC_init_4
set_option maxHeartbeats 4000000 in
set_option maxRecDepth 100000 in
theorem c_AbL_initZ (l : Launch) (P : gPar) (f : gM) {a z : Nat} (ha : f a = some (.inr (6, [.int 0, .null, .int 0]))) : gCz l P y_AbL_init b_AbL_init 1 none 2 0 0 [.ref a] (f, z) (gQz P (fun u => u.2 = z ∧ u.1 a = some (.inr (6, [.int (nI 0), .null, .int 0])) ∧ gFr f u.1 [a])) := by
  refine gCz_of (by decide) (Nat.le_of_ble_eq_true rfl) (fun p env s m args below meth c S hr hlk hnm H locs hI hz ls hl => ?_)
  have hl : lv_has ls 1 [(0, .ref a)] := hl
  have hF : gFr f f [a] := gFr.rf
  refine lv_aload_n S.1 S.2.1 d_AbL_init_0 rfl (lv_at hl 0 rfl) ?_
  refine gc_Iz S hI hz (c_AbC_initZ l P f) kv_AbC_init wi_48 rfl hl.1 rfl (Nat.le_of_ble_eq_true rfl) ⟨Nat.le_of_ble_eq_true rfl, Nat.le_of_ble_eq_true rfl⟩ ⟨Nat.le_of_ble_eq_true rfl, Nat.le_of_ble_eq_true rfl⟩ d_AbL_init_1 (fun f1 z2 H locs hp3 hI hz => ?_)
  obtain ⟨hp1, hp2⟩ := hp3
  dsimp only at hp1 hp2
  rw [hp2] at hI
  rw [hp1] at hz
  refine lv_aload_n S.1 S.2.1 d_AbL_init_4 rfl (lv_at hl 0 rfl) ?_
  refine lv_iconst (v := nI 0) S.1 S.2.1 d_AbL_init_5 (by decide) ?_
  refine gh_putZ S hI hz ha rfl i_AL t_AL tk_AL n_AL 0 (by decide) wi_55 rfl rfl rfl (Nat.le_of_ble_eq_true rfl) d_AbL_init_6 (fun H locs hz hI => ?_)
  have hI : gB P (va_up f a (some (.inr (6, [.int (nI 0), .null, .int 0])))) s H locs := hI
  obtain ⟨f4, ef4⟩ : ∃ z, z = va_up f a (some (.inr (6, [.int (nI 0), .null, .int 0]))) := ⟨_, rfl⟩
  rw [← ef4] at hI
  have h5 : f4 a = some (.inr (6, [.int (nI 0), .null, .int 0])) := by rw [ef4]; exact va_up_self _ _ _
  have hF : gFr f f4 [a] := by rw [ef4]; exact gFr.upA (by simp) hF
  exact gr_vz S hr hlk hI hz (⟨rfl, h5, hF⟩) d_AbL_init_9
set_option maxHeartbeats 4000000 in
set_option maxRecDepth 100000 in
theorem c_AL_initZ (l : Launch) (P : gPar) (f : gM) {a z : Nat} (ha : f a = some (.inr (6, [.int 0, .null, .int 0]))) : gCz l P y_AL_init b_AL_init 1 none 3 0 0 [.ref a] (f, z) (gQz P (fun u => u.2 = z ∧ gLi P u.1 a P.2.2.2.1 0 [] ∧ gFr f u.1 [a])) := by
  refine gCz_of (by decide) (Nat.le_of_ble_eq_true rfl) (fun p env s m args below meth c S hr hlk hnm H locs hI hz ls hl => ?_)
  have hl : lv_has ls 1 [(0, .ref a)] := hl
  have hF : gFr f f [a] := gFr.rf
  refine lv_aload_n S.1 S.2.1 d_AL_init_0 rfl (lv_at hl 0 rfl) ?_
  refine gc_Iz S hI hz (c_AbL_initZ l P f ha) kv_AbL_init wi_45 rfl hl.1 rfl (Nat.le_of_ble_eq_true rfl) ⟨Nat.le_of_ble_eq_true rfl, Nat.le_of_ble_eq_true rfl⟩ ⟨Nat.le_of_ble_eq_true rfl, Nat.le_of_ble_eq_true rfl⟩ d_AL_init_1 (fun f6 z7 H locs hp8 hI hz => ?_)
  obtain ⟨hp0, hp1, hF⟩ := hp8
  dsimp only at hp0 hp1 hF
  rw [hp0] at hz
  refine lv_aload_n S.1 S.2.1 d_AL_init_4 rfl (lv_at hl 0 rfl) ?_
  refine gh_gets0 S hI wi_52 d_AL_init_5 ?_
  refine gh_putZ S hI hz hp1 rfl i_AL t_AL tk_AL n_AL 1 (by decide) wi_53 rfl rfl rfl (Nat.le_of_ble_eq_true rfl) d_AL_init_8 (fun H locs hz hI => ?_)
  have hI : gB P (va_up f6 a (some (.inr (6, [.int (nI 0), .ref P.2.2.2.1, .int 0])))) s H locs := hI
  obtain ⟨f9, ef9⟩ : ∃ z, z = va_up f6 a (some (.inr (6, [.int (nI 0), .ref P.2.2.2.1, .int 0]))) := ⟨_, rfl⟩
  rw [← ef9] at hI
  have h10 : f9 a = some (.inr (6, [.int (nI 0), .ref P.2.2.2.1, .int 0])) := by rw [ef9]; exact va_up_self _ _ _
  have hF : gFr f f9 [a] := by rw [ef9]; exact gFr.upA (by simp) hF
  exact gr_vz S hr hlk hI hz (⟨rfl, ⟨⟨nI 0, h10⟩, Or.inl ⟨rfl, rfl, rfl⟩⟩, hF⟩) d_AL_init_11
set_option maxHeartbeats 4000000 in
set_option maxRecDepth 100000 in
theorem c_Row_initZ (l : Launch) (P : gPar) (f : gM) {a cap : Nat} (ha : f a = some (.inr (1, [.null, .int 0]))) (hc : cap < 2 ^ 20) : gCz l P y_Row_init b_Row_init 2 none 1 1 cap [.ref a, .int (nI cap)] (f, a + 1) (gQz P (fun u => u.2 = a + 2 ∧ u.1 a = some (.inr (1, [.ref (a + 1), .int (nI 0)])) ∧ u.1 (a + 1) = some (.inl (P.2.1 0, cap, .inl (fun _ => 0))) ∧ gFr f u.1 [a])) := by
  refine gCz_of (by decide) (Nat.le_of_ble_eq_true rfl) (fun p env s m args below meth c S hr hlk hnm H locs hI hz ls hl => ?_)
  have hl : lv_has ls 2 [(0, .ref a), (1, .int (nI cap))] := hl
  have hF : gFr f f [a] := gFr.rf
  refine lv_aload_n S.1 S.2.1 d_Row_init_0 rfl (lv_at hl 0 rfl) ?_
  refine gc_obj S wi_30 hl.1 d_Row_init_1 (Nat.le_of_ble_eq_true rfl) (Nat.le_of_ble_eq_true rfl) ?_
  refine lv_aload_n S.1 S.2.1 d_Row_init_4 rfl (lv_at hl 0 rfl) ?_
  refine lv_iload_n S.1 S.2.1 d_Row_init_5 rfl (lv_at hl 1 rfl) ?_
  refine gh_newbZ (n := cap) S hI hz wi_33 rfl (by omega) (Nat.le_of_ble_eq_true rfl) (by show _ ≤ cap; omega) d_Row_init_6 (fun H hn11 hz hI => ?_)
  replace hz : H.size = a + 2 := hz
  have hI : gB P (va_up f (a + 1) (some (.inl (P.2.1 0, cap, .inl (fun _ => 0))))) s H locs := hI
  obtain ⟨f12, ef12⟩ : ∃ z, z = va_up f (a + 1) (some (.inl (P.2.1 0, cap, .inl (fun _ => 0)))) := ⟨_, rfl⟩
  rw [← ef12] at hI
  have h13 : f12 a = some (.inr (1, [.null, .int 0])) := by rw [ef12, va_up_ne _ _ (gh_ne ha hn11 (by intro h; cases h))]; exact ha
  have h14 : f12 (a + 1) = some (.inl (P.2.1 0, cap, .inl (fun _ => 0))) := by rw [ef12]; exact va_up_self _ _ _
  have hF : gFr f f12 [a] := by rw [ef12]; exact gFr.upN hn11 hF
  refine gh_putFZ S hI hz h13 rfl i_Row t_Row tk_Row n_Row 0 (by decide) wi_31 rfl hnm rfl rfl rfl (Nat.le_of_ble_eq_true rfl) d_Row_init_8 (fun H locs hz hI => ?_)
  have hI : gB P (va_up f12 a (some (.inr (1, [.ref (a + 1), .int 0])))) s H locs := hI
  obtain ⟨f15, ef15⟩ : ∃ z, z = va_up f12 a (some (.inr (1, [.ref (a + 1), .int 0]))) := ⟨_, rfl⟩
  rw [← ef15] at hI
  have h16 : f15 (a + 1) = some (.inl (P.2.1 0, cap, .inl (fun _ => 0))) := by rw [ef15, va_up_ne _ _ (by omega)]; exact h14
  have h17 : f15 a = some (.inr (1, [.ref (a + 1), .int 0])) := by rw [ef15]; exact va_up_self _ _ _
  have hF : gFr f f15 [a] := by rw [ef15]; exact gFr.upA (by simp) hF
  refine lv_aload_n S.1 S.2.1 d_Row_init_11 rfl (lv_at hl 0 rfl) ?_
  refine lv_iconst (v := nI 0) S.1 S.2.1 d_Row_init_12 (by decide) ?_
  refine gh_putZ S hI hz h17 rfl i_Row t_Row tk_Row n_Row 1 (by decide) wi_32 rfl rfl rfl (Nat.le_of_ble_eq_true rfl) d_Row_init_13 (fun H locs hz hI => ?_)
  have hI : gB P (va_up f15 a (some (.inr (1, [.ref (a + 1), .int (nI 0)])))) s H locs := hI
  obtain ⟨f18, ef18⟩ : ∃ z, z = va_up f15 a (some (.inr (1, [.ref (a + 1), .int (nI 0)]))) := ⟨_, rfl⟩
  rw [← ef18] at hI
  have h19 : f18 (a + 1) = some (.inl (P.2.1 0, cap, .inl (fun _ => 0))) := by rw [ef18, va_up_ne _ _ (by omega)]; exact h16
  have h20 : f18 a = some (.inr (1, [.ref (a + 1), .int (nI 0)])) := by rw [ef18]; exact va_up_self _ _ _
  have hF : gFr f f18 [a] := by rw [ef18]; exact gFr.upA (by simp) hF
  refine W.widen (k := 1) (n := cap) (by omega) (by omega) ?_
  exact gr_vz S hr hlk hI hz (⟨rfl, h20, h19, hF⟩) d_Row_init_16
set_option maxHeartbeats 4000000 in
set_option maxRecDepth 100000 in
theorem c_Piece_initZ (l : Launch) (P : gPar) (f : gM) {a : Nat} (ha : f a = some (.inr (2, [.null]))) : gCz l P y_Piece_init b_Piece_init 1 none 1 1 448 [.ref a] (f, a + 1) (gQz P (fun u => u.2 = a + 2 ∧ u.1 a = some (.inr (2, [.ref (a + 1)])) ∧ u.1 (a + 1) = some (.inl (P.2.1 0, 448, .inl (fun _ => 0))) ∧ gFr f u.1 [a])) := by
  refine gCz_of (by decide) (Nat.le_of_ble_eq_true rfl) (fun p env s m args below meth c S hr hlk hnm H locs hI hz ls hl => ?_)
  have hl : lv_has ls 1 [(0, .ref a)] := hl
  have hF : gFr f f [a] := gFr.rf
  refine lv_aload_n S.1 S.2.1 d_Piece_init_0 rfl (lv_at hl 0 rfl) ?_
  refine gc_obj S wi_298 hl.1 d_Piece_init_1 (Nat.le_of_ble_eq_true rfl) (Nat.le_of_ble_eq_true rfl) ?_
  refine lv_aload_n S.1 S.2.1 d_Piece_init_4 rfl (lv_at hl 0 rfl) ?_
  refine lv_sipush (v := nI 448) S.1 S.2.1 d_Piece_init_5 (by decide) ?_
  refine gh_newbZ (n := 448) S hI hz wi_33 rfl (by omega) (Nat.le_of_ble_eq_true rfl) (Nat.le_of_ble_eq_true rfl) d_Piece_init_8 (fun H hn21 hz hI => ?_)
  replace hz : H.size = a + 2 := hz
  have hI : gB P (va_up f (a + 1) (some (.inl (P.2.1 0, 448, .inl (fun _ => 0))))) s H locs := hI
  obtain ⟨f22, ef22⟩ : ∃ z, z = va_up f (a + 1) (some (.inl (P.2.1 0, 448, .inl (fun _ => 0)))) := ⟨_, rfl⟩
  rw [← ef22] at hI
  have h23 : f22 a = some (.inr (2, [.null])) := by rw [ef22, va_up_ne _ _ (gh_ne ha hn21 (by intro h; cases h))]; exact ha
  have h24 : f22 (a + 1) = some (.inl (P.2.1 0, 448, .inl (fun _ => 0))) := by rw [ef22]; exact va_up_self _ _ _
  have hF : gFr f f22 [a] := by rw [ef22]; exact gFr.upN hn21 hF
  refine gh_putFZ S hI hz h23 rfl i_Piece t_Piece tk_Piece n_Piece 0 (by decide) wi_299 rfl hnm rfl rfl rfl (Nat.le_of_ble_eq_true rfl) d_Piece_init_10 (fun H locs hz hI => ?_)
  have hI : gB P (va_up f22 a (some (.inr (2, [.ref (a + 1)])))) s H locs := hI
  obtain ⟨f25, ef25⟩ : ∃ z, z = va_up f22 a (some (.inr (2, [.ref (a + 1)]))) := ⟨_, rfl⟩
  rw [← ef25] at hI
  have h26 : f25 (a + 1) = some (.inl (P.2.1 0, 448, .inl (fun _ => 0))) := by rw [ef25, va_up_ne _ _ (by omega)]; exact h24
  have h27 : f25 a = some (.inr (2, [.ref (a + 1)])) := by rw [ef25]; exact va_up_self _ _ _
  have hF : gFr f f25 [a] := by rw [ef25]; exact gFr.upA (by simp) hF
  refine W.widen (k := 1) (n := 448) (by omega) (by omega) ?_
  exact gr_vz S hr hlk hI hz (⟨rfl, h27, h26, hF⟩) d_Piece_init_13
/-- an empty list that has no array of its own -/
theorem gLi0.fr {P : gPar} {f f1 : gM} {a : Nat} {l : List Nat} (h : gLi P f a P.2.2.2.1 0 []) (hF : gFr f f1 l) (ha : a ∉ l) : gLi P f1 a P.2.2.2.1 0 [] := by
  obtain ⟨⟨m, h1⟩, -⟩ := h
  exact ⟨⟨m, hF a _ h1 ha⟩, Or.inl ⟨rfl, rfl, rfl⟩⟩
set_option maxHeartbeats 4000000 in
set_option maxRecDepth 100000 in
theorem c_Pool_initZ (l : Launch) (P : gPar) (f : gM) {a : Nat} (ha : f a = some (.inr (3, [.null]))) : gCz l P y_Pool_init b_Pool_init 1 none 4 1 3 [.ref a] (f, a + 1) (gQz P (fun u => u.2 = a + 2 ∧ u.1 a = some (.inr (3, [.ref (a + 1)])) ∧ gLi P u.1 (a + 1) P.2.2.2.1 0 [] ∧ gFr f u.1 [a])) := by
  refine gCz_of (by decide) (Nat.le_of_ble_eq_true rfl) (fun p env s m args below meth c S hr hlk hnm H locs hI hz ls hl => ?_)
  have hl : lv_has ls 1 [(0, .ref a)] := hl
  have hF : gFr f f [a] := gFr.rf
  refine lv_aload_n S.1 S.2.1 d_Pool_init_0 rfl (lv_at hl 0 rfl) ?_
  refine gc_obj S wi_63 hl.1 d_Pool_init_1 (Nat.le_of_ble_eq_true rfl) (Nat.le_of_ble_eq_true rfl) ?_
  refine lv_aload_n S.1 S.2.1 d_Pool_init_4 rfl (lv_at hl 0 rfl) ?_
  refine gh_newZ (ci := 6) (fs := [.int 0, .null, .int 0]) S hI hz rfl i_AL t_AL tk_AL wi_64 wi_41 wi_6 (fun j hj => by rcases (show j = 0 ∨ j = 1 ∨ j = 2 by omega) with rfl | rfl | rfl <;> rfl) (Nat.le_of_ble_eq_true rfl) (Nat.le_of_ble_eq_true rfl) d_Pool_init_5 (fun H hn28 hz hI => ?_)
  replace hz : H.size = a + 2 := hz
  have hI : gB P (va_up f (a + 1) (some (.inr (6, [.int 0, .null, .int 0])))) s H locs := hI
  obtain ⟨f29, ef29⟩ : ∃ z, z = va_up f (a + 1) (some (.inr (6, [.int 0, .null, .int 0]))) := ⟨_, rfl⟩
  rw [← ef29] at hI
  have h30 : f29 a = some (.inr (3, [.null])) := by rw [ef29, va_up_ne _ _ (gh_ne ha hn28 (by intro h; cases h))]; exact ha
  have h31 : f29 (a + 1) = some (.inr (6, [.int 0, .null, .int 0])) := by rw [ef29]; exact va_up_self _ _ _
  have hF : gFr f f29 [a] := by rw [ef29]; exact gFr.upN hn28 hF
  refine lv_dup S.1 S.2.1 d_Pool_init_8 rfl ?_
  refine gc_Iz S hI hz (c_AL_initZ l P f29 h31) kv_AL_init wi_65 rfl hl.1 rfl (Nat.le_of_ble_eq_true rfl) ⟨Nat.le_of_ble_eq_true rfl, Nat.le_of_ble_eq_true rfl⟩ ⟨Nat.le_of_ble_eq_true rfl, Nat.le_of_ble_eq_true rfl⟩ d_Pool_init_9 (fun f32 z33 H locs hp34 hI hz => ?_)
  obtain ⟨hp0, hp1, hp2⟩ := hp34
  dsimp only at hp0 hp1 hp2
  rw [hp0] at hz
  have hF : gFr f f32 [a] := hF.call hp2 (fun q hq => Or.inr (by rw [List.mem_singleton.mp hq]; exact hn28))
  have ha1 := hp2 a _ h30 (by simp)
  refine gh_putFZ S hI hz ha1 rfl i_Pool t_Pool tk_Pool n_Pool 0 (by decide) wi_66 rfl hnm rfl rfl rfl (Nat.le_of_ble_eq_true rfl) d_Pool_init_12 (fun H locs hz hI => ?_)
  have hI : gB P (va_up f32 a (some (.inr (3, [.ref (a + 1)])))) s H locs := hI
  obtain ⟨f35, ef35⟩ : ∃ z, z = va_up f32 a (some (.inr (3, [.ref (a + 1)]))) := ⟨_, rfl⟩
  rw [← ef35] at hI
  have h36 : f35 a = some (.inr (3, [.ref (a + 1)])) := by rw [ef35]; exact va_up_self _ _ _
  have hF : gFr f f35 [a] := by rw [ef35]; exact gFr.upA (by simp) hF
  refine W.widen (k := 1) (n := 3) (by omega) (by omega) ?_
  have hFa : gFr f32 f35 [a] := by rw [ef35]; exact gFr.upA (by simp) gFr.rf
  exact gr_vz S hr hlk hI hz (⟨rfl, h36, gLi0.fr hp1 hFa (by simp), hF⟩) d_Pool_init_15
set_option maxHeartbeats 4000000 in
set_option maxRecDepth 100000 in
theorem c_File_initZ (l : Launch) (P : gPar) (f : gM) {a pl : Nat} (ha : f a = some (.inr (4, [.null, .null, .null, .int 0, .int 0]))) : gCz l P y_File_init b_File_init 2 none 2 3 221 [.ref a, .ref pl] (f, a + 1) (gQz P (fun u => u.2 = a + 4 ∧ u.1 a = some (.inr (4, [.ref pl, .ref (a + 1), .ref (a + 3), .int (nI 0), .int (nI 0)])) ∧ u.1 (a + 1) = some (.inr (1, [.ref (a + 2), .int (nI 0)])) ∧ u.1 (a + 2) = some (.inl (P.2.1 0, 200, .inl (fun _ => 0))) ∧ u.1 (a + 3) = some (.inl (P.2.1 3, 19, .inr (.inr (.inr (.inr (fun _ => none)))))) ∧ gFr f u.1 [a])) := by
  refine gCz_of (by decide) (Nat.le_of_ble_eq_true rfl) (fun p env s m args below meth c S hr hlk hnm H locs hI hz ls hl => ?_)
  have hl : lv_has ls 2 [(0, .ref a), (1, .ref pl)] := hl
  have hF : gFr f f [a] := gFr.rf
  have hn1 : f (a + 1) = none := gB_none hI (by omega)
  refine lv_aload_n S.1 S.2.1 d_File_init_0 rfl (lv_at hl 0 rfl) ?_
  refine gc_obj S wi_191 hl.1 d_File_init_1 (Nat.le_of_ble_eq_true rfl) (Nat.le_of_ble_eq_true rfl) ?_
  refine lv_aload_n S.1 S.2.1 d_File_init_4 rfl (lv_at hl 0 rfl) ?_
  refine lv_aload_n S.1 S.2.1 d_File_init_5 rfl (lv_at hl 1 rfl) ?_
  refine gh_putFZ S hI hz ha rfl i_File t_File tk_File n_File 0 (by decide) wi_195 rfl hnm rfl rfl rfl (Nat.le_of_ble_eq_true rfl) d_File_init_6 (fun H locs hz hI => ?_)
  have hI : gB P (va_up f a (some (.inr (4, [.ref pl, .null, .null, .int 0, .int 0])))) s H locs := hI
  obtain ⟨f37, ef37⟩ : ∃ z, z = va_up f a (some (.inr (4, [.ref pl, .null, .null, .int 0, .int 0]))) := ⟨_, rfl⟩
  rw [← ef37] at hI
  have h38 : f37 a = some (.inr (4, [.ref pl, .null, .null, .int 0, .int 0])) := by rw [ef37]; exact va_up_self _ _ _
  have hF : gFr f f37 [a] := by rw [ef37]; exact gFr.upA (by simp) hF
  refine lv_aload_n S.1 S.2.1 d_File_init_9 rfl (lv_at hl 0 rfl) ?_
  refine gh_newZ (ci := 1) (fs := [.null, .int 0]) S hI hz rfl i_Row t_Row tk_Row wi_192 wi_26 wi_2 (fun j hj => by rcases (show j = 0 ∨ j = 1 by omega) with rfl | rfl <;> rfl) (Nat.le_of_ble_eq_true rfl) (Nat.le_of_ble_eq_true rfl) d_File_init_10 (fun H hn39 hz hI => ?_)
  replace hz : H.size = a + 2 := hz
  have hI : gB P (va_up f37 (a + 1) (some (.inr (1, [.null, .int 0])))) s H locs := hI
  obtain ⟨f40, ef40⟩ : ∃ z, z = va_up f37 (a + 1) (some (.inr (1, [.null, .int 0]))) := ⟨_, rfl⟩
  rw [← ef40] at hI
  have h41 : f40 a = some (.inr (4, [.ref pl, .null, .null, .int 0, .int 0])) := by rw [ef40, va_up_ne _ _ (gh_ne h38 hn39 (by intro h; cases h))]; exact h38
  have h42 : f40 (a + 1) = some (.inr (1, [.null, .int 0])) := by rw [ef40]; exact va_up_self _ _ _
  have hF : gFr f f40 [a] := by rw [ef40]; exact gFr.upN hn39 hF
  refine lv_dup S.1 S.2.1 d_File_init_13 rfl ?_
  refine lv_sipush (v := nI 200) S.1 S.2.1 d_File_init_14 (by decide) ?_
  refine gc_Iz S hI hz (c_Row_initZ l P f40 h42 (by omega)) kv_Row_init wi_193 rfl hl.1 rfl (Nat.le_of_ble_eq_true rfl) ⟨Nat.le_of_ble_eq_true rfl, Nat.le_of_ble_eq_true rfl⟩ ⟨Nat.le_of_ble_eq_true rfl, Nat.le_of_ble_eq_true rfl⟩ d_File_init_17 (fun f43 z44 H locs hp45 hI hz => ?_)
  obtain ⟨hp0, hp1, hp2, hp3⟩ := hp45
  dsimp only at hp0 hp1 hp2 hp3
  rw [hp0] at hz
  replace hz : H.size = a + 3 := hz
  have hF : gFr f f43 [a] := hF.call hp3 (fun q hq => Or.inr (by rw [List.mem_singleton.mp hq]; exact hn1))
  have ha1 := hp3 a _ h41 (by simp)
  refine gh_putFZ S hI hz ha1 rfl i_File t_File tk_File n_File 1 (by decide) wi_196 rfl hnm rfl rfl rfl (Nat.le_of_ble_eq_true rfl) d_File_init_20 (fun H locs hz hI => ?_)
  have hI : gB P (va_up f43 a (some (.inr (4, [.ref pl, .ref (a + 1), .null, .int 0, .int 0])))) s H locs := hI
  obtain ⟨f46, ef46⟩ : ∃ z, z = va_up f43 a (some (.inr (4, [.ref pl, .ref (a + 1), .null, .int 0, .int 0]))) := ⟨_, rfl⟩
  rw [← ef46] at hI
  have h47 : f46 (a + 1) = some (.inr (1, [.ref (a + 2), .int (nI 0)])) := by rw [ef46, va_up_ne _ _ (by omega)]; exact hp1
  have h48 : f46 (a + 2) = some (.inl (P.2.1 0, 200, .inl (fun _ => 0))) := by rw [ef46, va_up_ne _ _ (by omega)]; exact hp2
  have h49 : f46 a = some (.inr (4, [.ref pl, .ref (a + 1), .null, .int 0, .int 0])) := by rw [ef46]; exact va_up_self _ _ _
  have hF : gFr f f46 [a] := by rw [ef46]; exact gFr.upA (by simp) hF
  refine lv_aload_n S.1 S.2.1 d_File_init_23 rfl (lv_at hl 0 rfl) ?_
  refine lv_bipush (v := nI 19) S.1 S.2.1 d_File_init_24 (by decide) ?_
  refine gh_newqZ (n := 19) S hI hz wi_194 rfl (by omega) (Nat.le_of_ble_eq_true rfl) (Nat.le_of_ble_eq_true rfl) d_File_init_26 (fun H hn50 hz hI => ?_)
  replace hz : H.size = a + 4 := hz
  have hI : gB P (va_up f46 (a + 3) (some (.inl (P.2.1 3, 19, .inr (.inr (.inr (.inr (fun _ => none)))))))) s H locs := hI
  obtain ⟨f51, ef51⟩ : ∃ z, z = va_up f46 (a + 3) (some (.inl (P.2.1 3, 19, .inr (.inr (.inr (.inr (fun _ => none))))))) := ⟨_, rfl⟩
  rw [← ef51] at hI
  have h52 : f51 (a + 1) = some (.inr (1, [.ref (a + 2), .int (nI 0)])) := by rw [ef51, va_up_ne _ _ (gh_ne h47 hn50 (by intro h; cases h))]; exact h47
  have h53 : f51 (a + 2) = some (.inl (P.2.1 0, 200, .inl (fun _ => 0))) := by rw [ef51, va_up_ne _ _ (gh_ne h48 hn50 (by intro h; cases h))]; exact h48
  have h54 : f51 a = some (.inr (4, [.ref pl, .ref (a + 1), .null, .int 0, .int 0])) := by rw [ef51, va_up_ne _ _ (gh_ne h49 hn50 (by intro h; cases h))]; exact h49
  have h55 : f51 (a + 3) = some (.inl (P.2.1 3, 19, .inr (.inr (.inr (.inr (fun _ => none)))))) := by rw [ef51]; exact va_up_self _ _ _
  have hF : gFr f f51 [a] := by rw [ef51]; exact gFr.upN hn50 hF
  refine gh_putFZ S hI hz h54 rfl i_File t_File tk_File n_File 2 (by decide) wi_197 rfl hnm rfl rfl rfl (Nat.le_of_ble_eq_true rfl) d_File_init_29 (fun H locs hz hI => ?_)
  have hI : gB P (va_up f51 a (some (.inr (4, [.ref pl, .ref (a + 1), .ref (a + 3), .int 0, .int 0])))) s H locs := hI
  obtain ⟨f56, ef56⟩ : ∃ z, z = va_up f51 a (some (.inr (4, [.ref pl, .ref (a + 1), .ref (a + 3), .int 0, .int 0]))) := ⟨_, rfl⟩
  rw [← ef56] at hI
  have h57 : f56 (a + 1) = some (.inr (1, [.ref (a + 2), .int (nI 0)])) := by rw [ef56, va_up_ne _ _ (by omega)]; exact h52
  have h58 : f56 (a + 2) = some (.inl (P.2.1 0, 200, .inl (fun _ => 0))) := by rw [ef56, va_up_ne _ _ (by omega)]; exact h53
  have h59 : f56 (a + 3) = some (.inl (P.2.1 3, 19, .inr (.inr (.inr (.inr (fun _ => none)))))) := by rw [ef56, va_up_ne _ _ (by omega)]; exact h55
  have h60 : f56 a = some (.inr (4, [.ref pl, .ref (a + 1), .ref (a + 3), .int 0, .int 0])) := by rw [ef56]; exact va_up_self _ _ _
  have hF : gFr f f56 [a] := by rw [ef56]; exact gFr.upA (by simp) hF
  refine lv_aload_n S.1 S.2.1 d_File_init_32 rfl (lv_at hl 0 rfl) ?_
  refine lv_iconst (v := nI 0) S.1 S.2.1 d_File_init_33 (by decide) ?_
  refine gh_putZ S hI hz h60 rfl i_File t_File tk_File n_File 3 (by decide) wi_198 rfl rfl rfl (Nat.le_of_ble_eq_true rfl) d_File_init_34 (fun H locs hz hI => ?_)
  have hI : gB P (va_up f56 a (some (.inr (4, [.ref pl, .ref (a + 1), .ref (a + 3), .int (nI 0), .int 0])))) s H locs := hI
  obtain ⟨f61, ef61⟩ : ∃ z, z = va_up f56 a (some (.inr (4, [.ref pl, .ref (a + 1), .ref (a + 3), .int (nI 0), .int 0]))) := ⟨_, rfl⟩
  rw [← ef61] at hI
  have h62 : f61 (a + 1) = some (.inr (1, [.ref (a + 2), .int (nI 0)])) := by rw [ef61, va_up_ne _ _ (by omega)]; exact h57
  have h63 : f61 (a + 2) = some (.inl (P.2.1 0, 200, .inl (fun _ => 0))) := by rw [ef61, va_up_ne _ _ (by omega)]; exact h58
  have h64 : f61 (a + 3) = some (.inl (P.2.1 3, 19, .inr (.inr (.inr (.inr (fun _ => none)))))) := by rw [ef61, va_up_ne _ _ (by omega)]; exact h59
  have h65 : f61 a = some (.inr (4, [.ref pl, .ref (a + 1), .ref (a + 3), .int (nI 0), .int 0])) := by rw [ef61]; exact va_up_self _ _ _
  have hF : gFr f f61 [a] := by rw [ef61]; exact gFr.upA (by simp) hF
  refine lv_aload_n S.1 S.2.1 d_File_init_37 rfl (lv_at hl 0 rfl) ?_
  refine lv_iconst (v := nI 0) S.1 S.2.1 d_File_init_38 (by decide) ?_
  refine gh_putZ S hI hz h65 rfl i_File t_File tk_File n_File 4 (by decide) wi_199 rfl rfl rfl (Nat.le_of_ble_eq_true rfl) d_File_init_39 (fun H locs hz hI => ?_)
  have hI : gB P (va_up f61 a (some (.inr (4, [.ref pl, .ref (a + 1), .ref (a + 3), .int (nI 0), .int (nI 0)])))) s H locs := hI
  obtain ⟨f66, ef66⟩ : ∃ z, z = va_up f61 a (some (.inr (4, [.ref pl, .ref (a + 1), .ref (a + 3), .int (nI 0), .int (nI 0)]))) := ⟨_, rfl⟩
  rw [← ef66] at hI
  have h67 : f66 (a + 1) = some (.inr (1, [.ref (a + 2), .int (nI 0)])) := by rw [ef66, va_up_ne _ _ (by omega)]; exact h62
  have h68 : f66 (a + 2) = some (.inl (P.2.1 0, 200, .inl (fun _ => 0))) := by rw [ef66, va_up_ne _ _ (by omega)]; exact h63
  have h69 : f66 (a + 3) = some (.inl (P.2.1 3, 19, .inr (.inr (.inr (.inr (fun _ => none)))))) := by rw [ef66, va_up_ne _ _ (by omega)]; exact h64
  have h70 : f66 a = some (.inr (4, [.ref pl, .ref (a + 1), .ref (a + 3), .int (nI 0), .int (nI 0)])) := by rw [ef66]; exact va_up_self _ _ _
  have hF : gFr f f66 [a] := by rw [ef66]; exact gFr.upA (by simp) hF
  refine W.widen (k := 3) (n := 221) (by omega) (by omega) ?_
  exact gr_vz S hr hlk hI hz (⟨rfl, h70, h67, h68, h69, hF⟩) d_File_init_42
end
section
theorem gSp.fr {P : gPar} {f f1 : gM} {ow : gO} {pl e cap : Nat} {SP : List Nat} {l : List Nat} (h : gSp P f ow pl e cap SP) (hF : gFr f f1 l) (h1 : pl ∉ l) (h2 : pl + 1 ∉ l) (h3 : e ∉ l) (h4 : ∀ x ∈ SP, x ∉ l ∧ x + 1 ∉ l) : gSp P f1 ow pl e cap SP := by
  obtain ⟨a1, a2, a3, a4, a5⟩ := h
  refine ⟨hF _ _ a1 h1, a2.fr hF h2 h3, a3, a4, fun x hx => ?_⟩
  obtain ⟨b1, hh, b2, b3⟩ := a5 x hx
  exact ⟨b1, hh, b2.fr hF (h4 x hx).1 (h4 x hx).2, b3⟩
set_option maxHeartbeats 4000000 in
set_option maxRecDepth 100000 in
theorem c_Pool_takeBlank (l : Launch) (P : gPar) (f : gM) {pl e cap : Nat} {SP : List Nat} {ow : gO} (h : gSp P f ow pl e cap SP) (hn : SP.length ≤ 130) : gC l P y_Pool_takeBlank b_Pool_takeBlank 1 (some (.object "StripeFiles$Piece")) 3 2 449 [.ref pl] f (gQq P (fun r f1 => ∃ x, r = some x ∧ ∃ SP1 : List Nat, (SP = SP1 ++ [x] ∨ (SP = [] ∧ SP1 = [] ∧ gNew f x)) ∧ (∃ h, gPc P f1 x h ∧ ∀ j, j < 448 → h j = 0) ∧ gSp P f1 ow pl e cap SP1 ∧ gFr f f1 [pl + 1, e])) := by
  refine gC_of (by decide) (Nat.le_of_ble_eq_true rfl) (fun p env s m args below meth c S hr hlk hnm H locs hI ls hl => ?_)
  have hl : lv_has ls 1 [(0, .ref pl)] := hl
  have hF : gFr f f [pl + 1, e] := gFr.rf
  obtain ⟨hpl, hli, hcap, hnd, hsp⟩ := id h
  obtain ⟨⟨m0, hal⟩, hli2⟩ := id hli
  have hz0 := gB_z hI
  refine lv_aload_n S.1 S.2.1 d_Pool_takeBlank_0 rfl (lv_at hl 0 rfl) ?_
  refine gh_get S hI hpl rfl i_Pool 0 (by decide) wi_66 rfl d_Pool_takeBlank_1 ?_
  refine gc_Vi S hI (c_AL_isEmpty l P f hli (by omega)) kv_AL_isEmpty wi_292 hal rfl rfl rfl hl.1 rfl (Nat.le_of_ble_eq_true rfl) ⟨Nat.le_of_ble_eq_true rfl, Nat.le_of_ble_eq_true rfl⟩ ⟨Nat.le_of_ble_eq_true rfl, Nat.le_of_ble_eq_true rfl⟩ d_Pool_takeBlank_4 (fun r1 f2 H locs hp3 hI => ?_)
  obtain ⟨hp1, hp2⟩ := hp3
  subst hp1
  rw [hp2] at hI
  by_cases hS : SP.length = 0
  · rw [if_pos hS]
    refine lv_if_eq (tgt := 18) S.1 S.2.1 d_Pool_takeBlank_7 (by decide) (fun c4 => ?_) (fun c4 => ?_)
    · skip
      replace c4 : 1 = 0 := (nI_eq (a := 1) (b := 0) (by omega) (by omega)).mp c4
      exact absurd c4 (by omega)
    · skip
      replace c4 : ¬ 1 = 0 := fun z => c4 ((nI_eq (a := 1) (b := 0) (by omega) (by omega)).mpr z)
      obtain ⟨z0, hz⟩ : ∃ z, H.size = z := ⟨_, rfl⟩
      have hnw := gB_new hI hz
      refine gh_newZ (ci := 2) (fs := [.null]) S hI hz rfl i_Piece t_Piece tk_Piece wi_293 wi_294 wi_16 (fun j hj => by rcases (show j = 0 by omega) with rfl <;> rfl) (Nat.le_of_ble_eq_true rfl) (Nat.le_of_ble_eq_true rfl) d_Pool_takeBlank_10 (fun H hn5 hz hI => ?_)
      replace hz : H.size = z0 + 1 := hz
      have hI : gB P (va_up f z0 (some (.inr (2, [.null])))) s H locs := hI
      obtain ⟨f6, ef6⟩ : ∃ z, z = va_up f z0 (some (.inr (2, [.null]))) := ⟨_, rfl⟩
      rw [← ef6] at hI
      have h7 : f6 pl = some (.inr (3, [.ref (pl + 1)])) := by rw [ef6, va_up_ne _ _ (gh_ne hpl hn5 (by intro h; cases h))]; exact hpl
      have h8 : f6 (pl + 1) = some (.inr (6, [.int m0, .ref e, .int (nI SP.length)])) := by rw [ef6, va_up_ne _ _ (gh_ne hal hn5 (by intro h; cases h))]; exact hal
      have h9 : f6 z0 = some (.inr (2, [.null])) := by rw [ef6]; exact va_up_self _ _ _
      have hF : gFr f f6 [pl + 1, e] := by rw [ef6]; exact gFr.upN hn5 hF
      refine lv_dup S.1 S.2.1 d_Pool_takeBlank_13 rfl ?_
      refine gc_Iz S hI hz (c_Piece_initZ l P f6 h9) kv_Piece_init wi_295 rfl hl.1 rfl (Nat.le_of_ble_eq_true rfl) ⟨Nat.le_of_ble_eq_true rfl, Nat.le_of_ble_eq_true rfl⟩ ⟨Nat.le_of_ble_eq_true rfl, Nat.le_of_ble_eq_true rfl⟩ d_Pool_takeBlank_14 (fun f10 z11 H locs hp12 hI hz => ?_)
      obtain ⟨hp0, hp1, hp2, hp3⟩ := hp12
      dsimp only at hp0 hp1 hp2 hp3
      have hF : gFr f f10 [pl + 1, e] := hF.call hp3 (fun q hq => Or.inr (by rw [List.mem_singleton.mp hq]; exact hn5))
      have hF0 : gFr f f10 [] := (gFr.upN hn5 gFr.rf : gFr f (va_up f z0 _) []).call (by rw [← ef6]; exact hp3) (fun q hq => Or.inr (by rw [List.mem_singleton.mp hq]; exact hn5))
      have hSn : SP = [] := List.length_eq_zero_iff.mp hS
      refine W.widen (k := 2) (n := 449) (by omega) (by omega) ?_
      exact gr_r S hr (Or.inl ⟨_, rfl⟩) hlk hI (⟨[], Or.inr ⟨hSn, rfl, hnw⟩, ⟨_, ⟨hp1, hp2, sb_fit0⟩, fun j _ => rfl⟩, by rw [hSn] at h; exact h.fr hF0 (by simp) (by simp) (by simp) (fun x hx => by simp), hF⟩) d_Pool_takeBlank_17
  · rw [if_neg hS]
    refine lv_if_eq (tgt := 18) S.1 S.2.1 d_Pool_takeBlank_7 (by decide) (fun c13 => ?_) (fun c13 => ?_)
    · skip
      replace c13 : 0 = 0 := (nI_eq (a := 0) (b := 0) (by omega) (by omega)).mp c13
      refine lv_aload_n S.1 S.2.1 d_Pool_takeBlank_18 rfl (lv_at hl 0 rfl) ?_
      refine gh_get S hI hpl rfl i_Pool 0 (by decide) wi_66 rfl d_Pool_takeBlank_19 ?_
      refine lv_aload_n S.1 S.2.1 d_Pool_takeBlank_22 rfl (lv_at hl 0 rfl) ?_
      refine gh_get S hI hpl rfl i_Pool 0 (by decide) wi_66 rfl d_Pool_takeBlank_23 ?_
      refine gc_Vi S hI (c_AL_size l P f hli) kv_AL_size wi_300 hal rfl rfl rfl hl.1 rfl (Nat.le_of_ble_eq_true rfl) ⟨Nat.le_of_ble_eq_true rfl, Nat.le_of_ble_eq_true rfl⟩ ⟨Nat.le_of_ble_eq_true rfl, Nat.le_of_ble_eq_true rfl⟩ d_Pool_takeBlank_26 (fun r14 f15 H locs hp16 hI => ?_)
      obtain ⟨hp1, hp2⟩ := hp16
      subst hp1
      rw [hp2] at hI
      refine lv_iconst (v := nI 1) S.1 S.2.1 d_Pool_takeBlank_29 (by decide) ?_
      refine lv_isub S.1 S.2.1 d_Pool_takeBlank_30 ?_
      refine lv_topi (fun v17 ev17 => ?_)
      replace ev17 : v17 = nI (SP.length - 1) := ev17.trans (pk_sub (by omega))
      subst ev17
      refine gc_Vr S hI (c_AL_remove l P f hli (i := SP.length - 1) (by omega) (by omega) h.el (fun y hy => by obtain ⟨_, _, q, _⟩ := hsp y hy; exact hli.npc (by decide) q.1 hz0)) kv_AL_remove wi_301 hal rfl rfl rfl hl.1 rfl (Nat.le_of_ble_eq_true rfl) ⟨Nat.le_of_ble_eq_true rfl, Nat.le_of_ble_eq_true rfl⟩ ⟨Nat.le_of_ble_eq_true rfl, Nat.le_of_ble_eq_true rfl⟩ d_Pool_takeBlank_31 (fun r18 f19 H locs hp20 hI => ?_)
      obtain ⟨hp1, hp2, hp3⟩ := hp20
      have hlast := l_last hp1
      obtain ⟨hox, hx, hpx, hzx⟩ := hsp r18 (List.mem_of_getElem? hp1)
      have hpx1 := hpx.fr hp3 (hli.npc (by decide) hpx.1 hz0) (hli.nba hpx.2.1 hz0)
      refine gh_cast (q := (R_Piece, F_Piece, 1)) S hI rfl hpx1.1 wi_293 d_Pool_takeBlank_34 ?_
      refine W.widen (k := 2) (n := 449) (by omega) (by omega) ?_
      have hspl : (SP.eraseIdx (SP.length - 1)) ⊆ SP := List.eraseIdx_subset
      exact gr_r S hr (Or.inl ⟨_, rfl⟩) hlk hI (⟨_, Or.inl hlast, ⟨_, hpx1, hzx⟩, ⟨hp3 _ _ hpl (hli.npc (by decide) hpl hz0), hp2, hcap, hnd.sublist (List.eraseIdx_sublist _ _), fun y hy => by
        obtain ⟨b1, hh, b2, b3⟩ := hsp y (hspl hy)
        exact ⟨b1, hh, b2.fr hp3 (hli.npc (by decide) b2.1 hz0) (hli.nba b2.2.1 hz0), b3⟩⟩, hp3⟩) d_Pool_takeBlank_37
    · skip
      replace c13 : ¬ 0 = 0 := fun z => c13 ((nI_eq (a := 0) (b := 0) (by omega) (by omega)).mpr z)
      exact absurd c13 (by omega)
set_option maxHeartbeats 4000000 in
set_option maxRecDepth 100000 in
theorem c_Pool_giveBack (l : Launch) (P : gPar) (f : gM) {pl e cap x : Nat} {SP : List Nat} {ow : gO} {g : Nat → Int32} (h : gSp P f ow pl e cap SP) (hn : SP.length ≤ 130) (hx : gPc P f x g) (hni : x ∉ SP) : gC l P y_Pool_giveBack b_Pool_giveBack 2 none 7 1 300 [.ref pl, .ref x] f (gQv P (fun f1 => ∃ e1 cap1, gSp P f1 (va_up ow x none) pl e1 cap1 (SP ++ [x]) ∧ (e1 = e ∨ gNew f e1) ∧ gFr f f1 [x + 1, pl + 1, e] ∧ gDm f f1)) := by
  refine gC_of (by decide) (Nat.le_of_ble_eq_true rfl) (fun p env s m args below meth c S hr hlk hnm H locs hI ls hl => ?_)
  have hl : lv_has ls 2 [(0, .ref pl), (1, .ref x)] := hl
  have hDm : gDm f f := gDm.rf
  obtain ⟨hpl, hli, hcap, hnd, hsp⟩ := id h
  obtain ⟨⟨m0, hal⟩, hli2⟩ := id hli
  have hz0 := gB_z hI
  obtain ⟨hx1, hx2, hx3⟩ := id hx
  refine lv_aload_n S.1 S.2.1 d_Pool_giveBack_0 rfl (lv_at hl 1 rfl) ?_
  refine gh_getN S hI hx1 rfl i_Piece 0 (by decide) hI.1.2.2.1.1 rfl d_Pool_giveBack_1 ?_
  refine lv_iconst (v := nI 0) S.1 S.2.1 d_Pool_giveBack_4 (by decide) ?_
  refine lv_sipush (v := nI 448) S.1 S.2.1 d_Pool_giveBack_5 (by decide) ?_
  refine lv_iconst (v := nI 0) S.1 S.2.1 d_Pool_giveBack_8 (by decide) ?_
  refine gc_Sv S hI (c_Arrs_fill l P f (lo := 0) (hi := 448) (x := nI 0) hx2 (by omega) (by omega) (by omega) (by decide)) kv_Arrs_fill wi_332 rfl hl.1 rfl (Nat.le_of_ble_eq_true rfl) ⟨Nat.le_of_ble_eq_true rfl, Nat.le_of_ble_eq_true rfl⟩ ⟨Nat.le_of_ble_eq_true rfl, Nat.le_of_ble_eq_true rfl⟩ d_Pool_giveBack_9 (fun f22 H locs hp23 hI => ?_)
  rw [hp23] at hI
  have hI : gB P (va_up f (x + 1) (some (.inl (P.2.1 0, 448, .inl (g_fil g 0 448 (nI 0)))))) s H locs := hI
  obtain ⟨f24, ef24⟩ : ∃ z, z = va_up f (x + 1) (some (.inl (P.2.1 0, 448, .inl (g_fil g 0 448 (nI 0))))) := ⟨_, rfl⟩
  rw [← ef24] at hI
  have h25 : f24 pl = some (.inr (3, [.ref (pl + 1)])) := by rw [ef24, va_up_ne _ _ (gh_ne hpl hx2 (by intro h; cases h))]; exact hpl
  have h26 : f24 (pl + 1) = some (.inr (6, [.int m0, .ref e, .int (nI SP.length)])) := by rw [ef24, va_up_ne _ _ (gh_ne hal hx2 (by intro h; cases h))]; exact hal
  have h27 : f24 x = some (.inr (2, [.ref (x + 1)])) := by rw [ef24, va_up_ne _ _ (by omega)]; exact hx1
  have h28 : f24 (x + 1) = some (.inl (P.2.1 0, 448, .inl (g_fil g 0 448 (nI 0)))) := by rw [ef24]; exact va_up_self _ _ _
  have hDm : gDm f f24 := by rw [ef24]; exact hDm.up
  refine lv_aload_n S.1 S.2.1 d_Pool_giveBack_12 rfl (lv_at hl 0 rfl) ?_
  refine gh_get S hI h25 rfl i_Pool 0 (by decide) wi_66 rfl d_Pool_giveBack_13 ?_
  refine lv_aload_n S.1 S.2.1 d_Pool_giveBack_16 rfl (lv_at hl 1 rfl) ?_
  have hF1 : gFr f f24 [x + 1] := by rw [ef24]; exact gFr.upA (by simp) gFr.rf
  have hDm0 := hDm
  have hne : ∀ y ∈ SP, y ≠ x := fun y hy e => hni (e ▸ hy)
  have hxl : x + 1 ∉ [pl + 1, e] := hli.nba hx2 hz0
  have h1 : gSp P f24 ow pl e cap SP := h.fr hF1 (by simp; exact gh_ne hpl hx2 (by intro h; cases h)) (fun z => hxl (by rw [← List.mem_singleton.mp z]; simp)) (fun z => hxl (by rw [← List.mem_singleton.mp z]; simp)) (fun y hy => by
    obtain ⟨_, hh, q, _⟩ := hsp y hy
    exact ⟨by simp; exact gh_ne q.1 hx2 (by intro h; cases h), by simp; exact hne y hy⟩)
  refine gc_Vi S hI (c_AL_add2 l P f24 h1.2.1 hcap (by omega) h1.el (fun y hy => by obtain ⟨_, _, q, _⟩ := h1.2.2.2.2 y hy; exact h1.2.1.npc (by decide) q.1 (gB_z hI)) h27 (fun e => absurd (hli.npc (by decide) hx1 hz0) (by simp [e]))) kv_AL_add2 wi_333 h26 rfl rfl rfl hl.1 rfl (Nat.le_of_ble_eq_true rfl) ⟨Nat.le_of_ble_eq_true rfl, Nat.le_of_ble_eq_true rfl⟩ ⟨Nat.le_of_ble_eq_true rfl, Nat.le_of_ble_eq_true rfl⟩ d_Pool_giveBack_17 (fun r29 f30 H locs hp31 hI => ?_)
  obtain ⟨hp1, ⟨e1, cap1, hp2, hp3, hp4⟩, hp5, hp6⟩ := hp31
  have hDm := hDm.trans hp6
  have hF : gFr f f30 [x + 1, pl + 1, e] := (hF1.mono (by simp)).call hp5 (fun q hq => Or.inl (by simp at hq ⊢; omega))
  refine lv_pop S.1 S.2.1 d_Pool_giveBack_20 rfl ?_
  have hzz := gB_z hI
  have hpl3 := hp5 _ _ h1.1 (h1.2.1.npc (by decide) h1.1 (show f24 P.2.2.2.1 = none from by rw [ef24, va_up_ne _ _ (fun e => by rw [← e, hz0] at hx2; cases hx2)]; exact hz0))
  have hz2 : f24 P.2.2.2.1 = none := by rw [ef24, va_up_ne _ _ (fun e => by rw [← e, hz0] at hx2; cases hx2)]; exact hz0
  have hx3 : gPc P f30 x (g_fil g 0 448 (nI 0)) := ⟨hp5 _ _ h27 (h1.2.1.npc (by decide) h27 hz2), hp5 _ _ h28 (h1.2.1.nba h28 hz2), g_fil_fit hx3 (by decide)⟩
  have hfe : e1 = e ∨ gNew f e1 := hp4.imp id (fun z => z.back hDm0)
  refine gr_v S hr hlk hI ⟨e1, cap1, ⟨hpl3, hp2, hp3, ?_, fun y hy => ?_⟩, hfe, hF, hDm⟩ d_Pool_giveBack_21
  · exact List.nodup_append.mpr ⟨hnd, by simp, fun a ha b hb => by rw [List.mem_singleton.mp hb]; exact hne a ha⟩
  · rcases List.mem_append.mp hy with hy | hy
    · obtain ⟨b1, hh, b2, b3⟩ := h1.2.2.2.2 y hy
      exact ⟨by rw [va_up_ne _ _ (hne y hy)]; exact b1, hh, b2.fr hp5 (h1.2.1.npc (by decide) b2.1 hz2) (h1.2.1.nba b2.2.1 hz2), b3⟩
    · rw [List.mem_singleton.mp hy]
      exact ⟨va_up_self _ _ _, _, hx3, fun j hj => by unfold g_fil; rw [if_pos (by omega)]; rfl⟩
end
section
/-! what a file's methods may change: the file, the pool's list, its own pieces and the spare ones -/
def gXs (q pl e : Nat) (SP : List Nat) (ps : Nat → Option Nat) (c : Nat) : Prop := c = q ∨ c = q + 3 ∨ c = pl + 1 ∨ c = e ∨ ∃ x, (c = x ∨ c = x + 1) ∧ (x ∈ SP ∨ ∃ s, s < 19 ∧ ps s = some x)
def gFp (f f1 : gM) (X : Nat → Prop) : Prop := ∀ c v, f c = some v → ¬ X c → f1 c = some v
def gHo (f : gM) (e : Nat) (SP : List Nat) (ps : Nat → Option Nat) (e1 : Nat) (SP1 : List Nat) (ps1 : Nat → Option Nat) : Prop := (e1 = e ∨ gNew f e1) ∧ ∀ x, (x ∈ SP1 ∨ ∃ s, s < 19 ∧ ps1 s = some x) → (x ∈ SP ∨ ∃ s, s < 19 ∧ ps s = some x) ∨ gNew f x
def gRel (q pl : Nat) (f : gM) (ow : gO) (e : Nat) (SP : List Nat) (ps : Nat → Option Nat) (f1 : gM) (ow1 : gO) (e1 : Nat) (SP1 : List Nat) (ps1 : Nat → Option Nat) : Prop :=
  gFp f f1 (gXs q pl e SP ps) ∧ gHo f e SP ps e1 SP1 ps1 ∧ (∀ y, f y ≠ none → ¬ gXs q pl e SP ps y → ow1 y = ow y) ∧ ∀ c, f1 c = none → f c = none
theorem gHo.out {f : gM} {q pl e e1 : Nat} {SP SP1 : List Nat} {ps ps1 : Nat → Option Nat} (h : gHo f e SP ps e1 SP1 ps1) {c : Nat} {v : va_E} (hc : f c = some v) (hX : ¬ gXs q pl e SP ps c) : ¬ gXs q pl e1 SP1 ps1 c := by
  intro z
  rcases z with z | z | z | z | ⟨x, z1, z2⟩
  · exact hX (Or.inl z)
  · exact hX (Or.inr (Or.inl z))
  · exact hX (Or.inr (Or.inr (Or.inl z)))
  · rcases h.1 with e2 | e2
    · exact hX (Or.inr (Or.inr (Or.inr (Or.inl (z.trans e2)))))
    · rw [z, e2.n] at hc; cases hc
  · rcases h.2 x z2 with y | y1
    · exact hX (Or.inr (Or.inr (Or.inr (Or.inr ⟨x, z1, y⟩))))
    · rcases z1 with z1 | z1
      · rw [z1, y1.n] at hc; cases hc
      · rw [z1, y1 (x + 1) (by omega)] at hc; cases hc
theorem gRel.rf {q pl : Nat} {f : gM} {ow : gO} {e : Nat} {SP : List Nat} {ps : Nat → Option Nat} : gRel q pl f ow e SP ps f ow e SP ps := ⟨fun _ _ h _ => h, ⟨Or.inl rfl, fun _ h => Or.inl h⟩, fun _ _ _ => rfl, fun _ h => h⟩
theorem gRel.trans {q pl : Nat} {f f1 f2 : gM} {ow ow1 ow2 : gO} {e e1 e2 : Nat} {SP SP1 SP2 : List Nat} {ps ps1 ps2 : Nat → Option Nat} (h : gRel q pl f ow e SP ps f1 ow1 e1 SP1 ps1) (h2 : gRel q pl f1 ow1 e1 SP1 ps1 f2 ow2 e2 SP2 ps2) : gRel q pl f ow e SP ps f2 ow2 e2 SP2 ps2 := by
  obtain ⟨a1, a2, a3, hm⟩ := h
  obtain ⟨b1, b2, b3, hm2⟩ := h2
  refine ⟨fun c v hc hX => b1 c v (a1 c v hc hX) (a2.out hc hX), ⟨?_, ?_⟩, fun y hy hX => ?_, fun c hc => hm c (hm2 c hc)⟩
  · rcases b2.1 with z | z
    · rw [z]; exact a2.1
    · exact Or.inr (z.back hm)
  · intro x hx
    rcases b2.2 x hx with z | z1
    · exact a2.2 x z
    · exact Or.inr (z1.back hm)
  · obtain ⟨v, hv⟩ := Option.ne_none_iff_exists'.mp hy
    rw [b3 y (by rw [a1 y v hv hX]; simp) (a2.out hv hX), a3 y hy hX]
/-- a step that changes cells of the list l alone, and no owner -/
theorem gRel.fr {q pl : Nat} {f f1 : gM} {ow : gO} {e : Nat} {SP : List Nat} {ps : Nat → Option Nat} {l : List Nat} (hF : gFr f f1 l) (hl : ∀ c ∈ l, gXs q pl e SP ps c ∧ f1 c ≠ none) : gRel q pl f ow e SP ps f1 ow e SP ps :=
  ⟨fun c v hc hX => hF c v hc (fun z => hX (hl c z).1), ⟨Or.inl rfl, fun _ h => Or.inl h⟩, fun _ _ _ => rfl, fun c hc => by
    cases hf : f c with
    | none => rfl
    | some v =>
      by_cases h : c ∈ l
      · exact absurd hc (hl c h).2
      · rw [hF c v hf h] at hc; cases hc⟩
/-- cells never go -/
theorem gFr_dom {f f1 : gM} {l : List Nat} (hF : gFr f f1 l) (hl : ∀ c ∈ l, f1 c ≠ none) : ∀ c, f1 c = none → f c = none := fun c hc => by
  cases hf : f c with
  | none => rfl
  | some v =>
    by_cases h : c ∈ l
    · exact absurd hc (hl c h)
    · rw [hF c v hf h] at hc; cases hc
theorem gLi_some {P : gPar} {f : gM} {a e cap : Nat} {L : List Nat} (h : gLi P f a e cap L) : f a ≠ none := by
  obtain ⟨⟨m, h1⟩, -⟩ := h
  rw [h1]; simp
theorem cntL_up (ld : Nat → Bool) {s : Nat} : ∀ k, s < k → ld s = false → cntL (va_up ld s true) k = cntL ld k + 1
  | 0, h, _ => absurd h (by omega)
  | k + 1, h, hs => by
    unfold cntL
    by_cases e : s = k
    · subst e
      rw [va_up_self, if_pos rfl, hs, if_neg (by decide), cntL_congr s (fun t ht => va_up_ne _ _ (by omega))]
    · rw [cntL_up ld k (by omega) hs, va_up_ne _ _ (by omega)]; omega
theorem cntL_dn (ld : Nat → Bool) {s : Nat} : ∀ k, s < k → ld s = true → cntL (va_up ld s false) k + 1 = cntL ld k
  | 0, h, _ => absurd h (by omega)
  | k + 1, h, hs => by
    unfold cntL
    by_cases e : s = k
    · subst e
      rw [va_up_self, if_neg (by decide), hs, if_pos rfl, cntL_congr s (fun t ht => va_up_ne _ _ (by omega))]
    · have := cntL_dn ld k (by omega) hs
      rw [va_up_ne _ _ (by omega)]; omega
theorem va_up_same {α : Type} {f : Nat → α} {k : Nat} {v : α} (h : f k = v) : va_up f k v = f := by
  funext j; unfold va_up
  by_cases e : j = k
  · rw [if_pos e, e, h]
  · rw [if_neg e]
/-- pieces over a frame -/
theorem gPs.fr {P : gPar} {f f1 : gM} {ow : gO} {q : Nat} {ps : Nat → Option Nat} {ld : Nat → Bool} {C : Nat → Nat} {l : List Nat} (h : gPs P f ow q ps ld C) (hF : gFr f f1 l) (hl : ∀ s x, s < 19 → ps s = some x → x ∉ l ∧ x + 1 ∉ l) : gPs P f1 ow q ps ld C := fun s hs => by
  obtain ⟨h1, h2⟩ := h s hs
  refine ⟨h1, fun x hx => ?_⟩
  obtain ⟨a1, hh, a2, a3⟩ := h2 x hx
  exact ⟨a1, hh, a2.fr hF (hl s x hs hx).1 (hl s x hs hx).2, a3⟩
theorem gPs.one {P : gPar} {f : gM} {ow : gO} {q : Nat} {ps : Nat → Option Nat} {ld : Nat → Bool} {C : Nat → Nat} (h : gPs P f ow q ps ld C) {s t x : Nat} (hs : s < 19) (ht : t < 19) (h1 : ps s = some x) (h2 : ps t = some x) : s = t := by
  have e1 := ((h s hs).2 x h1).1
  have e2 := ((h t ht).2 x h2).1
  rw [e1] at e2
  injection e2 with e2
  injection e2
/-- the pool's cells and a file's pieces lie apart -/
theorem gPs.li {P : gPar} {f : gM} {ow : gO} {q a e cap : Nat} {L : List Nat} {ps : Nat → Option Nat} {ld : Nat → Bool} {C : Nat → Nat} (h : gPs P f ow q ps ld C) (hl : gLi P f a e cap L) (hz : f P.2.2.2.1 = none) {s x : Nat} (hs : s < 19) (hx : ps s = some x) : x ∉ [a, e] ∧ x + 1 ∉ [a, e] := by
  obtain ⟨-, hh, a2, -⟩ := (h s hs).2 x hx
  exact ⟨hl.npc (by decide) a2.1 hz, hl.nba a2.2.1 hz⟩
theorem ub_0 : ub 0 = 0 := by decide
/-- a blank piece comes in at the free place s -/
theorem gPs.put {P : gPar} {f : gM} {ow : gO} {q s x : Nat} {ps : Nat → Option Nat} {ld : Nat → Bool} {C : Nat → Nat} {hh : Nat → Int32} (h : gPs P f ow q ps ld C) (hs : s < 19) (hn : ps s = none) (hx : ∀ t, t < 19 → ps t ≠ some x) (hp : gPc P f x hh) (h0 : ∀ j, j < 448 → ub (hh j) = C (448 * s + j)) : gPs P f (va_up ow x (some (q, s))) q (va_up ps s (some x)) (va_up ld s true) C := by
  intro t ht
  by_cases e : t = s
  · subst e
    rw [va_up_self, va_up_self]
    refine ⟨rfl, fun y hy => ?_⟩
    cases hy
    exact ⟨va_up_self _ _ _, hh, hp, h0⟩
  · rw [va_up_ne _ _ e, va_up_ne _ _ e]
    obtain ⟨h1, h2⟩ := h t ht
    refine ⟨h1, fun y hy => ?_⟩
    obtain ⟨a1, a2⟩ := h2 y hy
    exact ⟨by rw [va_up_ne _ _ (fun z => hx t ht (by rw [hy, z]))]; exact a1, a2⟩
/-- arrays of pieces and of objects are of two classes -/
theorem gX_34 {P : gPar} {s : State} (h : gX P s) : P.2.1 3 ≠ P.2.1 4 := by
  intro e
  obtain ⟨kA, c1, a1, a2, -, -⟩ := (h.1.2 3 _ rfl).2
  obtain ⟨kB, c2, b1, b2, -, -⟩ := (h.1.2 4 _ rfl).2
  rw [e, b1] at a1
  cases a1
  rw [b2] at a2
  injection a2 with _ a2
  exact absurd a2 (by decide)
theorem gLi.npa {P : gPar} {f : gM} {a e cap : Nat} {L : List Nat} (h : gLi P f a e cap L) {x n : Nat} {g : Nat → Option Nat} (h34 : P.2.1 3 ≠ P.2.1 4) (hx : f x = some (.inl (P.2.1 3, n, .inr (.inr (.inr (.inr g)))))) (hz : f P.2.2.2.1 = none) : x ∉ [a, e] := by
  intro z
  rcases List.mem_cons.mp z with rfl | z
  · obtain ⟨⟨m, h1⟩, -⟩ := h
    rw [hx] at h1; cases h1
  · have z := List.mem_singleton.mp z
    subst z
    rcases h.2 with ⟨rfl, -, -⟩ | ⟨-, g, h1, -⟩
    · rw [hz] at hx; cases hx
    · rw [hx] at h1; injection h1 with h1; injection h1 with h1; injection h1 with h1; exact absurd h1 h34
/-- writing n bytes T from byte fr on: which stripes are laid then, what they hold; wlK, wcK: the first k stripes are through -/
def wl (ld : Nat → Bool) (fr n t : Nat) : Bool := ld t || decide (max fr (448 * t) < min (fr + n) (448 * t + 448))
def wC (C T : Nat → Nat) (fr n p : Nat) : Nat := if fr ≤ p ∧ p < fr + n then T (p - fr) else C p
def wlK (ld : Nat → Bool) (fr n k t : Nat) : Bool := if t < k then wl ld fr n t else ld t
def wcK (C T : Nat → Nat) (fr n k p : Nat) : Nat := if p < 448 * k then wC C T fr n p else C p
theorem wlK_0 (ld : Nat → Bool) (fr n : Nat) : wlK ld fr n 0 = ld := by funext t; unfold wlK; rw [if_neg (by omega)]
theorem wcK_0 (C T : Nat → Nat) (fr n : Nat) : wcK C T fr n 0 = C := by funext t; unfold wcK; rw [if_neg (by omega)]
theorem wlK_e {ld : Nat → Bool} {fr n : Nat} (h : fr + n ≤ 8192) : wlK ld fr n 19 = wl ld fr n := by
  funext t; unfold wlK
  by_cases h1 : t < 19
  · rw [if_pos h1]
  · rw [if_neg h1]; unfold wl
    rw [show decide (max fr (448 * t) < min (fr + n) (448 * t + 448)) = false by simp; omega]; simp
theorem wcK_e {C T : Nat → Nat} {fr n : Nat} (h : fr + n ≤ 8192) : wcK C T fr n 19 = wC C T fr n := by
  funext p; unfold wcK
  by_cases h1 : p < 448 * 19
  · rw [if_pos h1]
  · rw [if_neg h1]; unfold wC; rw [if_neg (by omega)]
theorem wlK_no {ld : Nat → Bool} {fr n k : Nat} (h : ¬ max fr (448 * k) < min (fr + n) (448 * k + 448)) : wlK ld fr n (k + 1) = wlK ld fr n k := by
  funext t; unfold wlK
  by_cases h1 : t < k
  · rw [if_pos h1, if_pos (by omega)]
  · rw [if_neg h1]
    by_cases h2 : t = k
    · subst h2; rw [if_pos (by omega)]; unfold wl; rw [decide_eq_false h]; simp
    · rw [if_neg (by omega)]
theorem wlK_yes {ld : Nat → Bool} {fr n k : Nat} (h : max fr (448 * k) < min (fr + n) (448 * k + 448)) : wlK ld fr n (k + 1) = va_up (wlK ld fr n k) k true := by
  funext t; unfold wlK va_up
  by_cases h2 : t = k
  · subst h2; rw [if_pos (by omega), if_pos rfl]; unfold wl; rw [decide_eq_true h]; simp
  · rw [if_neg h2]
    show _ = (if t < k then wl ld fr n t else ld t)
    by_cases h1 : t < k
    · rw [if_pos h1, if_pos (by omega)]
    · rw [if_neg h1, if_neg (by omega)]
theorem wcK_no {C T : Nat → Nat} {fr n k : Nat} (h : ¬ max fr (448 * k) < min (fr + n) (448 * k + 448)) : wcK C T fr n (k + 1) = wcK C T fr n k := by
  funext p; unfold wcK
  by_cases h1 : p < 448 * k
  · rw [if_pos h1, if_pos (by omega)]
  · rw [if_neg h1]
    by_cases h2 : p < 448 * (k + 1)
    · rw [if_pos h2]; unfold wC; rw [if_neg (by omega)]
    · rw [if_neg h2]
theorem wcK_old {C T : Nat → Nat} {fr n k p : Nat} (h : 448 * k ≤ p) : wcK C T fr n k p = C p := by unfold wcK; rw [if_neg (by omega)]
theorem wcK_ne {C T : Nat → Nat} {fr n k s j : Nat} (h : s ≠ k) (hj : j < 448) : wcK C T fr n (k + 1) (448 * s + j) = wcK C T fr n k (448 * s + j) := by
  unfold wcK
  by_cases h1 : s < k
  · rw [if_pos (by omega), if_pos (by omega)]
  · rw [if_neg (by omega), if_neg (by omega)]
theorem wcK_at {C : Nat → Nat} {g h : Nat → Int32} {fr n k j lo hi : Nat} (hlo : lo = max fr (448 * k)) (hhi : hi = min (fr + n) (448 * k + 448)) (hlt : lo < hi) (hj : j < 448) (hh : ub (h j) = C (448 * k + j)) : ub (va_cpy g h (lo - fr) (lo - 448 * k) (hi - lo) j) = wcK C (fun i => ub (g i)) fr n (k + 1) (448 * k + j) := by
  unfold wcK
  rw [if_pos (by omega)]
  unfold wC
  by_cases h1 : fr ≤ 448 * k + j ∧ 448 * k + j < fr + n
  · rw [if_pos h1, pk_cpy_in (by omega) (by omega)]
    congr 2; omega
  · rw [if_neg h1, pk_cpy_out (by omega)]; exact hh
end
section
set_option maxHeartbeats 4000000 in
set_option maxRecDepth 100000 in
theorem c_File_title (l : Launch) (P : gPar) (f : gM) {q pl len : Nat} {idv : Int32} (hq : f q = some (.inr (4, [.ref pl, .ref (q + 1), .ref (q + 3), .int idv, .int (nI len)]))) : gC l P y_File_title b_File_title 1 (some (.object "StripeFiles$Row")) 0 0 0 [.ref q] f (gQq P (fun r f1 => ∃ x, r = some x ∧ x = q + 1 ∧ f1 = f)) := by
  refine gC_of (by decide) (Nat.le_of_ble_eq_true rfl) (fun p env s m args below meth c S hr hlk hnm H locs hI ls hl => ?_)
  have hl : lv_has ls 1 [(0, .ref q)] := hl
  refine lv_aload_n S.1 S.2.1 d_File_title_0 rfl (lv_at hl 0 rfl) ?_
  refine gh_get S hI hq rfl i_File 1 (by decide) wi_196 rfl d_File_title_1 ?_
  exact gr_r S hr (Or.inl ⟨_, rfl⟩) hlk hI (⟨rfl, rfl⟩) d_File_title_4
set_option maxHeartbeats 4000000 in
set_option maxRecDepth 100000 in
theorem c_File_id (l : Launch) (P : gPar) (f : gM) {q pl len : Nat} {idv : Int32} (hq : f q = some (.inr (4, [.ref pl, .ref (q + 1), .ref (q + 3), .int idv, .int (nI len)]))) : gC l P y_File_id b_File_id 1 (some .int) 0 0 0 [.ref q] f (gQi P (fun r f1 => r = idv ∧ f1 = f)) := by
  refine gC_of (by decide) (Nat.le_of_ble_eq_true rfl) (fun p env s m args below meth c S hr hlk hnm H locs hI ls hl => ?_)
  have hl : lv_has ls 1 [(0, .ref q)] := hl
  refine lv_aload_n S.1 S.2.1 d_File_id_0 rfl (lv_at hl 0 rfl) ?_
  refine gh_get S hI hq rfl i_File 3 (by decide) wi_198 rfl d_File_id_1 ?_
  exact gr_i S hr hlk hI (⟨rfl, rfl⟩) d_File_id_4
set_option maxHeartbeats 4000000 in
set_option maxRecDepth 100000 in
theorem c_File_length (l : Launch) (P : gPar) (f : gM) {q pl len : Nat} {idv : Int32} (hq : f q = some (.inr (4, [.ref pl, .ref (q + 1), .ref (q + 3), .int idv, .int (nI len)]))) : gC l P y_File_length b_File_length 1 (some .int) 0 0 0 [.ref q] f (gQi P (fun r f1 => r = nI len ∧ f1 = f)) := by
  refine gC_of (by decide) (Nat.le_of_ble_eq_true rfl) (fun p env s m args below meth c S hr hlk hnm H locs hI ls hl => ?_)
  have hl : lv_has ls 1 [(0, .ref q)] := hl
  refine lv_aload_n S.1 S.2.1 d_File_length_0 rfl (lv_at hl 0 rfl) ?_
  refine gh_get S hI hq rfl i_File 4 (by decide) wi_199 rfl d_File_length_1 ?_
  exact gr_i S hr hlk hI (⟨rfl, rfl⟩) d_File_length_4
set_option maxHeartbeats 4000000 in
set_option maxRecDepth 100000 in
theorem c_File_begin (l : Launch) (P : gPar) (f : gM) {q pl len n a2 b2 n2 cap2 : Nat} {idv nid : Int32} {g g2 : Nat → Int32} (hq : f q = some (.inr (4, [.ref pl, .ref (q + 1), .ref (q + 3), .int idv, .int (nI len)]))) (hq1 : f (q + 1) = some (.inr (1, [.ref (q + 2), .int (nI n)]))) (hq2 : f (q + 2) = some (.inl (P.2.1 0, 200, .inl g))) (ha2 : f a2 = some (.inr (1, [.ref b2, .int (nI n2)]))) (hb2 : f b2 = some (.inl (P.2.1 0, cap2, .inl g2))) (hna : q + 1 ≠ a2) (hnb : q + 2 ≠ b2) (h1 : n2 ≤ cap2) (h2 : n2 ≤ 200) (hc2 : cap2 < 2 ^ 20) (hg2 : sb_Fit g2) : gC l P y_File_begin b_File_begin 3 none 3 0 0 [.ref q, .ref a2, .int nid] f (gQv P (fun f1 => f1 q = some (.inr (4, [.ref pl, .ref (q + 1), .ref (q + 3), .int nid, .int (nI len)])) ∧ f1 (q + 1) = some (.inr (1, [.ref (q + 2), .int (nI n2)])) ∧ f1 (q + 2) = some (.inl (P.2.1 0, 200, .inl (va_cpy g2 g 0 0 n2))) ∧ gFr f f1 [q, q + 1, q + 2])) := by
  refine gC_of (by decide) (Nat.le_of_ble_eq_true rfl) (fun p env s m args below meth c S hr hlk hnm H locs hI ls hl => ?_)
  have hl : lv_has ls 3 [(0, .ref q), (1, .ref a2), (2, .int nid)] := hl
  have hF : gFr f f [q, q + 1, q + 2] := gFr.rf
  refine lv_aload_n S.1 S.2.1 d_File_begin_0 rfl (lv_at hl 0 rfl) ?_
  refine gh_get S hI hq rfl i_File 1 (by decide) wi_196 rfl d_File_begin_1 ?_
  refine lv_aload_n S.1 S.2.1 d_File_begin_4 rfl (lv_at hl 1 rfl) ?_
  refine gc_Vv S hI (c_Row_become l P f hq1 hq2 ha2 hb2 hna hnb h1 h2 (by omega) hc2 hg2) kv_Row_become wi_212 hq1 rfl rfl rfl hl.1 rfl (Nat.le_of_ble_eq_true rfl) ⟨Nat.le_of_ble_eq_true rfl, Nat.le_of_ble_eq_true rfl⟩ ⟨Nat.le_of_ble_eq_true rfl, Nat.le_of_ble_eq_true rfl⟩ d_File_begin_5 (fun f2 H locs hp3 hI => ?_)
  obtain ⟨hp1, hp2, hp3⟩ := hp3
  have hqn := hp3 q _ hq (by simp)
  have hF : gFr f f2 [q, q + 1, q + 2] := hp3.mono (by simp)
  refine lv_aload_n S.1 S.2.1 d_File_begin_8 rfl (lv_at hl 0 rfl) ?_
  refine lv_iload_n S.1 S.2.1 d_File_begin_9 rfl (lv_at hl 2 rfl) ?_
  refine gh_put S hI hqn rfl i_File t_File tk_File n_File 3 (by decide) wi_198 rfl rfl rfl (Nat.le_of_ble_eq_true rfl) d_File_begin_10 (fun H locs hI => ?_)
  have hI : gB P (va_up f2 q (some (.inr (4, [.ref pl, .ref (q + 1), .ref (q + 3), .int nid, .int (nI len)])))) s H locs := hI
  obtain ⟨f4, ef4⟩ : ∃ z, z = va_up f2 q (some (.inr (4, [.ref pl, .ref (q + 1), .ref (q + 3), .int nid, .int (nI len)]))) := ⟨_, rfl⟩
  rw [← ef4] at hI
  have h5 : f4 (q + 1) = some (.inr (1, [.ref (q + 2), .int (nI n2)])) := by rw [ef4, va_up_ne _ _ (by omega)]; exact hp1
  have h6 : f4 (q + 2) = some (.inl (P.2.1 0, 200, .inl (va_cpy g2 g 0 0 n2))) := by rw [ef4, va_up_ne _ _ (by omega)]; exact hp2
  have h7 : f4 q = some (.inr (4, [.ref pl, .ref (q + 1), .ref (q + 3), .int nid, .int (nI len)])) := by rw [ef4]; exact va_up_self _ _ _
  have hF : gFr f f4 [q, q + 1, q + 2] := by rw [ef4]; exact gFr.upA (by simp) hF
  exact gr_v S hr hlk hI (⟨h7, h5, h6, hF⟩) d_File_begin_13
set_option maxHeartbeats 4000000 in
set_option maxRecDepth 100000 in
theorem c_File_laidStripes (l : Launch) (P : gPar) (f : gM) {q pl len : Nat} {idv : Int32} {ps : Nat → Option Nat} {ow : gO} {ld : Nat → Bool} {C : Nat → Nat} (hq : f q = some (.inr (4, [.ref pl, .ref (q + 1), .ref (q + 3), .int idv, .int (nI len)]))) (hq3 : f (q + 3) = some (.inl (P.2.1 3, 19, .inr (.inr (.inr (.inr ps)))))) (hps : gPs P f ow q ps ld C) : gC l P y_File_laidStripes b_File_laidStripes 3 (some .int) 0 0 0 [.ref q] f (gQi P (fun r f1 => r = nI (cntL ld 19) ∧ f1 = f)) := by
  refine gC_of (by decide) (Nat.le_of_ble_eq_true rfl) (fun p env s m args below meth c S hr hlk hnm H locs hI ls hl => ?_)
  have hl : lv_has ls 3 [(0, .ref q)] := hl
  refine lv_iconst (v := nI 0) S.1 S.2.1 d_File_laidStripes_0 (by decide) ?_
  refine lv_istore_n (lv' := [(1, .int (nI 0)), (0, .ref q)]) S.1 S.2.1 d_File_laidStripes_1 rfl hl (by decide) rfl (fun ls hl => ?_)
  refine lv_iconst (v := nI 0) S.1 S.2.1 d_File_laidStripes_2 (by decide) ?_
  refine lv_istore_n (lv' := [(2, .int (nI 0)), (1, .int (nI 0)), (0, .ref q)]) S.1 S.2.1 d_File_laidStripes_3 rfl hl (by decide) rfl (fun ls hl => ?_)
  have loop : ∀ (k i : Nat), i ≤ 19 → 19 - i < k → ∀ (H : Heap) (locs : List Loc), gB P f s H locs → ∀ ls : Array Slot, lv_has ls 3 [(0, .ref q), (1, .int (nI (cntL ld i))), (2, .int (nI i))] → W p l env (grm 0 0 0) s m args below meth c H locs 0 0 (MQ below (gQi P (fun r f1 => r = nI (cntL ld 19) ∧ f1 = f)) args s 0 0 (gA P)) (F0 m 4 ls []) := by
    intro k
    induction k with
    | zero => intro i h4 h5; exact absurd h5 (by omega)
    | succ k ih =>
      intro i h4 h5 H locs hI ls hl
      have hcl := cntL_le ld i
      refine lv_iload_n S.1 S.2.1 d_File_laidStripes_4 rfl (lv_at hl 2 rfl) ?_
      refine lv_bipush (v := nI 19) S.1 S.2.1 d_File_laidStripes_5 (by decide) ?_
      refine lv_icmp_ge (tgt := 28) S.1 S.2.1 d_File_laidStripes_7 (by decide) (fun c8 => ?_) (fun c8 => ?_)
      · skip
        replace c8 : 19 ≤ i := (nI_leI (a := 19) (b := i) (by omega) (by omega)).mp c8
        refine lv_iload_n S.1 S.2.1 d_File_laidStripes_28 rfl (lv_at hl 1 rfl) ?_
        exact gr_i S hr hlk hI (⟨by rw [show i = 19 by omega], rfl⟩) d_File_laidStripes_29
      · skip
        replace c8 : ¬ 19 ≤ i := fun z => c8 ((nI_leI (a := 19) (b := i) (by omega) (by omega)).mpr z)
        refine lv_aload_n S.1 S.2.1 d_File_laidStripes_10 rfl (lv_at hl 0 rfl) ?_
        refine gh_get S hI hq rfl i_File 2 (by decide) wi_197 rfl d_File_laidStripes_11 ?_
        refine lv_iload_n S.1 S.2.1 d_File_laidStripes_14 rfl (lv_at hl 2 rfl) ?_
        refine gh_aald (j := i) S hI 3 hq3 rfl rfl (by omega) (by omega) d_File_laidStripes_15 ?_
        obtain ⟨e1, -⟩ := hps i (by omega)
        rcases hs : ps i with _ | x
        · skip
          rw [show va_rf none = .null from rfl]
          refine lv_ifnullN (tgt := 22) S.1 S.2.1 d_File_laidStripes_16 (by decide) ?_
          have ec : cntL ld (i + 1) = cntL ld i := by show cntL ld i + _ = _; rw [hs] at e1; rw [← e1]; rfl
          refine lv_iinc (v := nI (i + 1)) (lv' := [(2, .int (nI (i + 1))), (0, .ref q), (1, .int (nI (cntL ld i)))]) S.1 S.2.1 d_File_laidStripes_22 hl (k := 2) rfl (nI_add _ _) (by decide) rfl (fun ls hl => ?_)
          refine lv_goto (tgt := 4) S.1 S.2.1 d_File_laidStripes_25 (by decide) ?_
          exact ih (i + 1) (by omega) (by omega) _ _ hI _ (by rw [ec]; exact lv_sub hl [1, 2, 0] rfl)
        · skip
          rw [show va_rf (some x) = .ref x from rfl]
          refine lv_ifnull S.1 S.2.1 d_File_laidStripes_16 ?_
          have ec : cntL ld (i + 1) = cntL ld i + 1 := by show cntL ld i + _ = _; rw [hs] at e1; rw [← e1]; rfl
          refine lv_iinc (v := nI (cntL ld i + 1)) (lv' := [(1, .int (nI (cntL ld i + 1))), (0, .ref q), (2, .int (nI i))]) S.1 S.2.1 d_File_laidStripes_19 hl (k := 1) rfl (nI_add _ _) (by decide) rfl (fun ls hl => ?_)
          refine lv_iinc (v := nI (i + 1)) (lv' := [(2, .int (nI (i + 1))), (1, .int (nI (cntL ld i + 1))), (0, .ref q)]) S.1 S.2.1 d_File_laidStripes_22 hl (k := 2) rfl (nI_add _ _) (by decide) rfl (fun ls hl => ?_)
          refine lv_goto (tgt := 4) S.1 S.2.1 d_File_laidStripes_25 (by decide) ?_
          exact ih (i + 1) (by omega) (by omega) _ _ hI _ (by rw [ec]; exact lv_sub hl [2, 1, 0] rfl)
  exact loop 20 0 (by omega) (by omega) _ _ hI _ (lv_sub hl [2, 1, 0] rfl)
set_option maxHeartbeats 4000000 in
set_option maxRecDepth 100000 in
theorem c_File_keptByte (l : Launch) (P : gPar) (f : gM) {q pl len : Nat} {idv : Int32} {ps : Nat → Option Nat} {ow : gO} {ld : Nat → Bool} {C : Nat → Nat} {si ii : Int32} (hq : f q = some (.inr (4, [.ref pl, .ref (q + 1), .ref (q + 3), .int idv, .int (nI len)]))) (hq3 : f (q + 3) = some (.inl (P.2.1 3, 19, .inr (.inr (.inr (.inr ps)))))) (hps : gPs P f ow q ps ld C) (hlen : len ≤ 8192) : gC l P y_File_keptByte b_File_keptByte 4 (some .int) 0 0 0 [.ref q, .int si, .int ii] f (gQi P (fun r f1 => r = pcV len ld C si ii ∧ f1 = f)) := by
  refine gC_of (by decide) (Nat.le_of_ble_eq_true rfl) (fun p env s m args below meth c S hr hlk hnm H locs hI ls hl => ?_)
  have hl : lv_has ls 4 [(0, .ref q), (1, .int si), (2, .int ii)] := hl
  refine lv_iload_n S.1 S.2.1 d_File_keptByte_0 rfl (lv_at hl 1 rfl) ?_
  refine lv_if_lt (tgt := 21) S.1 S.2.1 d_File_keptByte_1 (by decide) (fun c9 => ?_) (fun c9 => ?_)
  · skip
    refine lv_bipush (v := (-2)) S.1 S.2.1 d_File_keptByte_21 (by decide) ?_
    exact gr_i S hr hlk hI (⟨by unfold pcV; rw [if_neg (fun z => absurd c9 z.1)], rfl⟩) d_File_keptByte_23
  · skip
    obtain ⟨u, hu, rfl⟩ := nI_of c9
    refine lv_iload_n S.1 S.2.1 d_File_keptByte_4 rfl (lv_at hl 1 rfl) ?_
    refine lv_bipush (v := nI 19) S.1 S.2.1 d_File_keptByte_5 (by decide) ?_
    refine lv_icmp_ge (tgt := 21) S.1 S.2.1 d_File_keptByte_7 (by decide) (fun c10 => ?_) (fun c10 => ?_)
    · skip
      replace c10 : 19 ≤ u := (nI_leI (a := 19) (b := u) (by omega) (by omega)).mp c10
      refine lv_bipush (v := (-2)) S.1 S.2.1 d_File_keptByte_21 (by decide) ?_
      exact gr_i S hr hlk hI (⟨by unfold pcV; rw [if_neg (fun z => absurd ((nI_ltI (by omega) (by omega)).mp z.2.1) (by omega))], rfl⟩) d_File_keptByte_23
    · skip
      replace c10 : ¬ 19 ≤ u := fun z => c10 ((nI_leI (a := 19) (b := u) (by omega) (by omega)).mpr z)
      refine lv_iload_n S.1 S.2.1 d_File_keptByte_10 rfl (lv_at hl 2 rfl) ?_
      refine lv_if_lt (tgt := 21) S.1 S.2.1 d_File_keptByte_11 (by decide) (fun c11 => ?_) (fun c11 => ?_)
      · skip
        refine lv_bipush (v := (-2)) S.1 S.2.1 d_File_keptByte_21 (by decide) ?_
        exact gr_i S hr hlk hI (⟨by unfold pcV; rw [if_neg (fun z => absurd c11 z.2.2.1)], rfl⟩) d_File_keptByte_23
      · skip
        obtain ⟨v, hv, rfl⟩ := nI_of c11
        refine lv_iload_n S.1 S.2.1 d_File_keptByte_14 rfl (lv_at hl 2 rfl) ?_
        refine lv_sipush (v := nI 448) S.1 S.2.1 d_File_keptByte_15 (by decide) ?_
        refine lv_icmp_lt (tgt := 24) S.1 S.2.1 d_File_keptByte_18 (by decide) (fun c12 => ?_) (fun c12 => ?_)
        · skip
          replace c12 : v < 448 := (nI_ltI (a := v) (b := 448) (by omega) (by omega)).mp c12
          refine lv_aload_n S.1 S.2.1 d_File_keptByte_24 rfl (lv_at hl 0 rfl) ?_
          refine gh_get S hI hq rfl i_File 2 (by decide) wi_197 rfl d_File_keptByte_25 ?_
          refine lv_iload_n S.1 S.2.1 d_File_keptByte_28 rfl (lv_at hl 1 rfl) ?_
          refine gh_aald (j := u) S hI 3 hq3 rfl rfl (by omega) (by omega) d_File_keptByte_29 ?_
          obtain ⟨e1, e2⟩ := hps u (by omega)
          have eu : (nI u).toNatClampNeg = u := nI_clamp hu
          have ev : (nI v).toNatClampNeg = v := nI_clamp hv
          rcases hs : ps u with _ | x
          · skip
            rw [show va_rf none = .null from rfl]
            refine lv_astore_nN (lv' := [(3, .null), (0, .ref q), (1, .int (nI u)), (2, .int (nI v))]) S.1 S.2.1 d_File_keptByte_30 rfl hl (by decide) rfl (fun ls hl => ?_)
            refine lv_aload_nN S.1 S.2.1 d_File_keptByte_31 rfl (lv_at hl 0 rfl) ?_
            refine lv_ifnullN (tgt := 49) S.1 S.2.1 d_File_keptByte_32 (by decide) ?_
            rw [hs] at e1
            refine lv_bipush (v := (-2)) S.1 S.2.1 d_File_keptByte_49 (by decide) ?_
            exact gr_i S hr hlk hI (⟨by unfold pcV; rw [if_neg (fun z => by have z5 := z.2.2.2.2.1; rw [eu, ← e1] at z5; cases z5)], rfl⟩) d_File_keptByte_51
          · skip
            rw [show va_rf (some x) = .ref x from rfl]
            refine lv_astore_n (lv' := [(3, .ref x), (0, .ref q), (1, .int (nI u)), (2, .int (nI v))]) S.1 S.2.1 d_File_keptByte_30 rfl hl (by decide) rfl (fun ls hl => ?_)
            refine lv_aload_n S.1 S.2.1 d_File_keptByte_31 rfl (lv_at hl 0 rfl) ?_
            refine lv_ifnull S.1 S.2.1 d_File_keptByte_32 ?_
            obtain ⟨-, h, ⟨hx1, hx2, hx3⟩, hx4⟩ := e2 x hs
            rw [hs] at e1
            refine lv_iload_n S.1 S.2.1 d_File_keptByte_35 rfl (lv_at hl 2 rfl) ?_
            refine lv_sipush (v := nI 448) S.1 S.2.1 d_File_keptByte_36 (by decide) ?_
            refine lv_imul S.1 S.2.1 d_File_keptByte_39 ?_
            refine lv_topi (fun v13 ev13 => ?_)
            replace ev13 : v13 = nI (u * 448) := ev13.trans (pk_mul _ _)
            subst ev13
            refine lv_iload_n S.1 S.2.1 d_File_keptByte_40 rfl (lv_at hl 3 rfl) ?_
            refine lv_iadd S.1 S.2.1 d_File_keptByte_41 ?_
            refine lv_topi (fun v14 ev14 => ?_)
            replace ev14 : v14 = nI ((u * 448) + v) := ev14.trans (nI_add _ _)
            subst ev14
            refine lv_aload_n S.1 S.2.1 d_File_keptByte_42 rfl (lv_at hl 1 rfl) ?_
            refine gh_get S hI hq rfl i_File 4 (by decide) wi_199 rfl d_File_keptByte_43 ?_
            refine lv_icmp_lt (tgt := 52) S.1 S.2.1 d_File_keptByte_46 (by decide) (fun c15 => ?_) (fun c15 => ?_)
            · skip
              replace c15 : ((u * 448) + v) < len := (nI_ltI (a := (u * 448) + v) (b := len) (by omega) (by omega)).mp c15
              refine lv_aload_n S.1 S.2.1 d_File_keptByte_52 rfl (lv_at hl 0 rfl) ?_
              refine gh_getN S hI hx1 rfl i_Piece 0 (by decide) hI.1.2.2.1.2.1 rfl d_File_keptByte_53 ?_
              refine lv_iload_n S.1 S.2.1 d_File_keptByte_56 rfl (lv_at hl 3 rfl) ?_
              refine gh_bald (j := v) S hI 0 hx2 rfl rfl (by omega) (by omega) d_File_keptByte_57 ?_
              refine lv_sipush (v := nI 255) S.1 S.2.1 d_File_keptByte_58 (by decide) ?_
              refine lv_iand S.1 S.2.1 d_File_keptByte_61 ?_
              refine lv_topi (fun v16 ev16 => ?_)
              replace ev16 : v16 = nI (ub (h v)) := ev16.trans (ub_nI _)
              subst ev16
              exact gr_i S hr hlk hI (⟨by unfold pcV; rw [if_pos ⟨c9, nI_lt (by omega) (by omega), c11, nI_lt (by omega) (by omega), by rw [eu, ← e1]; rfl, by rw [eu, ev]; omega⟩, eu, ev, hx4 v (by omega)], rfl⟩) d_File_keptByte_62
            · skip
              replace c15 : ¬ ((u * 448) + v) < len := fun z => c15 ((nI_ltI (a := (u * 448) + v) (b := len) (by omega) (by omega)).mpr z)
              refine lv_bipush (v := (-2)) S.1 S.2.1 d_File_keptByte_49 (by decide) ?_
              exact gr_i S hr hlk hI (⟨by unfold pcV; rw [if_neg (fun z => absurd z.2.2.2.2.2 (by rw [eu, ev]; omega))], rfl⟩) d_File_keptByte_51
        · skip
          replace c12 : ¬ v < 448 := fun z => c12 ((nI_ltI (a := v) (b := 448) (by omega) (by omega)).mpr z)
          refine lv_bipush (v := (-2)) S.1 S.2.1 d_File_keptByte_21 (by decide) ?_
          exact gr_i S hr hlk hI (⟨by unfold pcV; rw [if_neg (fun z => absurd ((nI_ltI (by omega) (by omega)).mp z.2.2.2.1) (by omega))], rfl⟩) d_File_keptByte_23
end
section
/-! the steps of a file's methods on the pictures -/
theorem gSp.ow {P : gPar} {f : gM} {ow ow1 : gO} {pl e cap : Nat} {SP : List Nat} (h : gSp P f ow pl e cap SP) (ho : ∀ y ∈ SP, ow1 y = ow y) : gSp P f ow1 pl e cap SP :=
  ⟨h.1, h.2.1, h.2.2.1, h.2.2.2.1, fun y hy => ⟨by rw [ho y hy]; exact (h.2.2.2.2 y hy).1, (h.2.2.2.2 y hy).2⟩⟩
theorem gPs.ow {P : gPar} {f : gM} {ow ow1 : gO} {q : Nat} {ps : Nat → Option Nat} {ld : Nat → Bool} {C : Nat → Nat} (h : gPs P f ow q ps ld C) (ho : ∀ s x, s < 19 → ps s = some x → ow1 x = ow x) : gPs P f ow1 q ps ld C := fun s hs => ⟨(h s hs).1, fun x hx => ⟨by rw [ho s x hs hx]; exact ((h s hs).2 x hx).1, ((h s hs).2 x hx).2⟩⟩
theorem gPs.nsp {P : gPar} {f : gM} {ow : gO} {q pl e cap : Nat} {SP : List Nat} {ps : Nat → Option Nat} {ld : Nat → Bool} {C : Nat → Nat} (h : gPs P f ow q ps ld C) (hs : gSp P f ow pl e cap SP) {t x : Nat} (ht : t < 19) (hx : ps t = some x) : x ∉ SP := fun z => by
  have h1 := ((h t ht).2 x hx).1
  rw [(hs.2.2.2.2 x z).1] at h1
  cases h1
theorem gPs.apart {P : gPar} {f : gM} {ow : gO} {q : Nat} {ps : Nat → Option Nat} {ld : Nat → Bool} {C : Nat → Nat} (h : gPs P f ow q ps ld C) {a n : Nat} {g : Nat → Option Nat} {k : ClassId} (ha : f a = some (.inl (k, n, .inr (.inr (.inr (.inr g)))))) {t x : Nat} (ht : t < 19) (hx : ps t = some x) : x ∉ [a] ∧ x + 1 ∉ [a] := by
  obtain ⟨-, hh, ⟨a1, a2, -⟩, -⟩ := (h t ht).2 x hx
  constructor
  · intro z; rw [List.mem_singleton.mp z, ha] at a1; cases a1
  · intro z; rw [List.mem_singleton.mp z, ha] at a2; injection a2 with a2; injection a2 with a2; injection a2 with _ a2; injection a2 with _ a2; cases a2
theorem gSp.apart {P : gPar} {f : gM} {ow : gO} {pl e cap : Nat} {SP : List Nat} (h : gSp P f ow pl e cap SP) {a n : Nat} {g : Nat → Option Nat} {k : ClassId} (ha : f a = some (.inl (k, n, .inr (.inr (.inr (.inr g)))))) {x : Nat} (hx : x ∈ SP) : x ∉ [a] ∧ x + 1 ∉ [a] := by
  obtain ⟨-, hh, ⟨a1, a2, -⟩, -⟩ := h.2.2.2.2 x hx
  constructor
  · intro z; rw [List.mem_singleton.mp z, ha] at a1; cases a1
  · intro z; rw [List.mem_singleton.mp z, ha] at a2; injection a2 with a2; injection a2 with a2; injection a2 with _ a2; injection a2 with _ a2; cases a2
/-- a spare or new piece x comes in at the free stripe s of the file q -/
theorem lay_step {P : gPar} {f f1 : gM} {ow : gO} {q pl e cap s x len : Nat} {id : Int32} {SP SP1 : List Nat} {ps : Nat → Option Nat} {ld : Nat → Bool} {C : Nat → Nat} {hh : Nat → Int32} (h34 : P.2.1 3 ≠ P.2.1 4) (hz : f P.2.2.2.1 = none)
    (hq : f q = some (.inr (4, [.ref pl, .ref (q + 1), .ref (q + 3), .int id, .int (nI len)]))) (hq3 : f (q + 3) = some (.inl (P.2.1 3, 19, .inr (.inr (.inr (.inr ps)))))) (hps : gPs P f ow q ps ld C) (h : gSp P f ow pl e cap SP) (hs : s < 19) (hn : ps s = none) (hC : ∀ j, j < 448 → C (448 * s + j) = 0)
    (hx : SP = SP1 ++ [x] ∨ (SP = [] ∧ SP1 = [] ∧ gNew f x)) (hp : gPc P f1 x hh) (hp0 : ∀ j, j < 448 → hh j = 0) (h1 : gSp P f1 ow pl e cap SP1) (hF : gFr f f1 [pl + 1, e]) (f2 : gM) (hf2 : f2 = va_up f1 (q + 3) (some (.inl (P.2.1 3, 19, .inr (.inr (.inr (.inr (va_up ps s (some x)))))))))  :
    gPc P f2 x hh ∧ f2 q = some (.inr (4, [.ref pl, .ref (q + 1), .ref (q + 3), .int id, .int (nI len)])) ∧ gSp P f2 (va_up ow x (some (q, s))) pl e cap SP1 ∧ gPs P f2 (va_up ow x (some (q, s))) q (va_up ps s (some x)) (va_up ld s true) C ∧ gRel q pl f ow e SP ps f2 (va_up ow x (some (q, s))) e SP1 (va_up ps s (some x)) ∧ (SP1.length + cntL (va_up ld s true) 19 = SP.length + cntL ld 19 ∨ SP1 = []) ∧ SP1.length ≤ SP.length := by
  have hli := h.2.1
  have hq1 := hF q _ hq (hli.npc (by decide) hq hz)
  have hq31 := hF (q + 3) _ hq3 (hli.npa h34 hq3 hz)
  have hF2 : gFr f1 f2 [q + 3] := by rw [hf2]; exact gFr.upA (by simp) gFr.rf
  have hq32 : f2 (q + 3) = some (.inl (P.2.1 3, 19, .inr (.inr (.inr (.inr (va_up ps s (some x))))))) := by rw [hf2]; exact va_up_self _ _ _
  have hxp : ∀ t, t < 19 → ps t ≠ some x := by
    intro t ht e1
    rcases hx with e2 | ⟨-, -, e2⟩
    · exact hps.nsp h ht e1 (by rw [e2]; simp)
    · obtain ⟨-, _, ⟨a1, -, -⟩, -⟩ := (hps t ht).2 x e1
      rw [e2.n] at a1; cases a1
  have hx1 : x ∉ SP1 := by
    rcases hx with e2 | ⟨-, e2, -⟩
    · intro z
      have hnd := h.2.2.2.1
      rw [e2] at hnd
      exact (List.nodup_append.mp hnd).2.2 x z x (by simp) rfl
    · rw [e2]; simp
  have hps1 : gPs P f1 ow q ps ld C := hps.fr hF (fun t y ht hy => hps.li hli hz ht hy)
  have hps2 := hps1.put hs hn hxp hp (fun j hj => by rw [hp0 j hj, hC j hj]; exact ub_0)
  have hps3 : gPs P f2 (va_up ow x (some (q, s))) q (va_up ps s (some x)) (va_up ld s true) C := hps2.fr hF2 (fun t y ht hy => hps2.apart hq31 ht hy)
  have hld : ld s = false := by rw [← (hps s hs).1, hn]; rfl
  refine ⟨hp.fr hF2 ?_ ?_, hF2 q _ hq1 (by simp), (h1.fr hF2 ?_ ?_ ?_ (fun y hy => h1.apart hq31 hy)).ow (fun y hy => va_up_ne _ _ (fun z => hx1 (z ▸ hy))), hps3, ⟨?_, ⟨Or.inl rfl, ?_⟩, ?_, ?_⟩, ?_, ?_⟩
  · simp; exact gh_ne hp.1 hq31 (by intro h; cases h)
  · have h2 := hp.2.1
    intro z
    rw [List.mem_singleton.mp z, hq31] at h2
    injection h2 with h2; injection h2 with h2; injection h2 with _ h2; injection h2 with _ h2; cases h2
  · simp; exact gh_ne h1.1 hq31 (by intro h; cases h)
  · obtain ⟨⟨m, h2⟩, -⟩ := h1.2.1
    intro z
    rw [List.mem_singleton.mp z, hq31] at h2; cases h2
  · intro z
    exact (hli.npa h34 hq3 hz) (by rw [← List.mem_singleton.mp z]; simp)
  · intro c v hc hX
    have hc1 := hF c v hc (fun z => hX (by
      rcases List.mem_cons.mp z with z | z
      · exact Or.inr (Or.inr (Or.inl z))
      · exact Or.inr (Or.inr (Or.inr (Or.inl (List.mem_singleton.mp z))))))
    exact hF2 c v hc1 (fun z => hX (Or.inr (Or.inl (List.mem_singleton.mp z))))
  · intro y hy
    rcases hy with hy | ⟨t, ht, hy⟩
    · left; left
      rcases hx with e2 | ⟨-, e2, -⟩
      · rw [e2]; exact List.mem_append_left _ hy
      · rw [e2] at hy; cases hy
    · by_cases e : t = s
      · subst e
        rw [va_up_self] at hy
        cases hy
        rcases hx with e2 | ⟨-, -, e2⟩
        · left; left; rw [e2]; simp
        · exact Or.inr e2
      · rw [va_up_ne _ _ e] at hy
        exact Or.inl (Or.inr ⟨t, ht, hy⟩)
  · intro y hy hX
    refine va_up_ne _ _ (fun z => ?_)
    rcases hx with e2 | ⟨-, -, e2⟩
    · exact hX (Or.inr (Or.inr (Or.inr (Or.inr ⟨y, Or.inl rfl, Or.inl (by rw [e2, z]; simp)⟩))))
    · exact hy (by rw [z]; exact e2.n)
  · intro c hc
    by_cases hcq : c = q + 3
    · rw [hcq, hq32] at hc; cases hc
    · have hc1 : f1 c = none := by rw [hf2, va_up_ne _ _ hcq] at hc; exact hc
      cases hf : f c with
      | none => rfl
      | some v =>
        exfalso
        by_cases hl : c ∈ [pl + 1, e]
        · rcases List.mem_cons.mp hl with z | z
          · obtain ⟨⟨m, h2⟩, -⟩ := h1.2.1
            rw [← z, hc1] at h2; cases h2
          · have z := List.mem_singleton.mp z
            rcases h1.2.1.2 with ⟨e1, -, -⟩ | ⟨-, g, e1, -⟩
            · rw [z, e1, hz] at hf; cases hf
            · rw [← z, hc1] at e1; cases e1
        · rw [hF c v hf hl] at hc1; cases hc1
  · rcases hx with e2 | ⟨-, e2, -⟩
    · left
      rw [cntL_up ld 19 hs hld, e2, List.length_append, List.length_singleton]; omega
    · exact Or.inr e2
  · rcases hx with e2 | ⟨-, e2, -⟩
    · rw [e2, List.length_append]; omega
    · rw [e2]; simp
/-- a row and its bytes lie outside of what a file's methods change -/
theorem gXs_row {P : gPar} {f : gM} {ow : gO} {q pl e cap a n capR len : Nat} {id : Int32} {SP : List Nat} {ps : Nat → Option Nat} {ld : Nat → Bool} {C : Nat → Nat} {g : Nat → Int32} (hz : f P.2.2.2.1 = none) (hq : f q = some (.inr (4, [.ref pl, .ref (q + 1), .ref (q + 3), .int id, .int (nI len)]))) (hq3 : f (q + 3) = some (.inl (P.2.1 3, 19, .inr (.inr (.inr (.inr ps)))))) (hps : gPs P f ow q ps ld C) (h : gSp P f ow pl e cap SP)
    (ha : f a = some (.inr (1, [.ref (a + 1), .int (nI n)]))) (hb : f (a + 1) = some (.inl (P.2.1 0, capR, .inl g))) : ¬ gXs q pl e SP ps a ∧ ¬ gXs q pl e SP ps (a + 1) := by
  have hpc : ∀ x, (x ∈ SP ∨ ∃ s, s < 19 ∧ ps s = some x) → ∃ hh, gPc P f x hh := by
    intro x hx
    rcases hx with hx | ⟨s, hs, hx⟩
    · obtain ⟨-, hh, a2, -⟩ := h.2.2.2.2 x hx; exact ⟨hh, a2⟩
    · obtain ⟨-, hh, a2, -⟩ := (hps s hs).2 x hx; exact ⟨hh, a2⟩
  constructor
  · intro z
    rcases z with z | z | z | z | ⟨x, z1, z2⟩
    · rw [z, hq] at ha; simp at ha
    · rw [z, hq3] at ha; cases ha
    · exact (h.2.1.npc (by decide) ha hz) (by rw [z]; simp)
    · exact (h.2.1.npc (by decide) ha hz) (by rw [z]; simp)
    · obtain ⟨hh, p1, p2, -⟩ := hpc x z2
      rcases z1 with z1 | z1
      · rw [z1, p1] at ha; simp at ha
      · rw [z1, p2] at ha; cases ha
  · intro z
    rcases z with z | z | z | z | ⟨x, z1, z2⟩
    · rw [z, hq] at hb; cases hb
    · rw [z, hq3] at hb; injection hb with hb; injection hb with hb; injection hb with _ hb; injection hb with _ hb; cases hb
    · exact (h.2.1.nba hb hz) (by rw [z]; simp)
    · exact (h.2.1.nba hb hz) (by rw [z]; simp)
    · obtain ⟨hh, p1, p2, -⟩ := hpc x z2
      rcases z1 with z1 | z1
      · rw [z1, p1] at hb; cases hb
      · have e : x = a := by omega
        rw [e, ha] at p1; simp at p1
/-- the bytes of the piece at stripe s are new -/
theorem gPs.upd {P : gPar} {f f2 : gM} {ow : gO} {q s x : Nat} {ps : Nat → Option Nat} {ld : Nat → Bool} {C C' : Nat → Nat} {hh : Nat → Int32} (h : gPs P f ow q ps ld C) (hs : s < 19) (hx : ps s = some x) (hfit : sb_Fit hh) (hf2 : f2 = va_up f (x + 1) (some (.inl (P.2.1 0, 448, .inl hh)))) (hC : ∀ t j, t < 19 → t ≠ s → j < 448 → C' (448 * t + j) = C (448 * t + j)) (hC2 : ∀ j, j < 448 → ub (hh j) = C' (448 * s + j)) : gPs P f2 ow q ps ld C' := by
  obtain ⟨-, h0, hx0, -⟩ := (h s hs).2 x hx
  intro t ht
  obtain ⟨h1, h2⟩ := h t ht
  refine ⟨h1, fun y hy => ?_⟩
  obtain ⟨a1, h3, ⟨b1, b2, b3⟩, a3⟩ := h2 y hy
  have hyx : y ≠ x + 1 := gh_ne b1 hx0.2.1 (by intro h; cases h)
  by_cases e : t = s
  · subst e
    have e2 : y = x := by rw [hx] at hy; cases hy; rfl
    subst e2
    exact ⟨a1, hh, ⟨by rw [hf2, va_up_ne _ _ hyx]; exact b1, by rw [hf2]; exact va_up_self _ _ _, hfit⟩, hC2⟩
  · have hne : y ≠ x := fun z => e (h.one ht hs hy (z ▸ hx))
    exact ⟨a1, h3, ⟨by rw [hf2, va_up_ne _ _ hyx]; exact b1, by rw [hf2, va_up_ne _ _ (by omega)]; exact b2, b3⟩, fun j hj => by rw [hC t j ht e hj]; exact a3 j hj⟩
theorem gSp.upd {P : gPar} {f f2 : gM} {ow : gO} {pl e cap x : Nat} {SP : List Nat} {hh h0 : Nat → Int32} (h : gSp P f ow pl e cap SP) (hz : f P.2.2.2.1 = none) (hx : gPc P f x h0) (hn : x ∉ SP) (hf2 : f2 = va_up f (x + 1) (some (.inl (P.2.1 0, 448, .inl hh)))) : gSp P f2 ow pl e cap SP := by
  have hF : gFr f f2 [x + 1] := by rw [hf2]; exact gFr.upA (by simp) gFr.rf
  have hl := h.2.1.nba hx.2.1 hz
  refine h.fr hF ?_ ?_ ?_ (fun y hy => ?_)
  · simp; exact gh_ne h.1 hx.2.1 (by intro h; cases h)
  · intro z; exact hl (by rw [← List.mem_singleton.mp z]; simp)
  · intro z; exact hl (by rw [← List.mem_singleton.mp z]; simp)
  · obtain ⟨-, _, b1, -⟩ := h.2.2.2.2 y hy
    refine ⟨?_, ?_⟩
    · simp; exact gh_ne b1.1 hx.2.1 (by intro h; cases h)
    · simp; exact fun z => hn (z ▸ hy)
theorem gPs.frrow {P : gPar} {f f1 : gM} {ow : gO} {q a n capR : Nat} {ps : Nat → Option Nat} {ld : Nat → Bool} {C : Nat → Nat} {g : Nat → Int32} (h : gPs P f ow q ps ld C) (ha : f a = some (.inr (1, [.ref (a + 1), .int (nI n)]))) (hb : f (a + 1) = some (.inl (P.2.1 0, capR, .inl g))) (hF : gFr f f1 [a, a + 1]) : gPs P f1 ow q ps ld C := h.fr hF (fun t y ht hy => by
  obtain ⟨-, _, ⟨b1, b2, -⟩, -⟩ := (h t ht).2 y hy
  have h1 : y ≠ a := gh_ne b1 ha (by intro h; simp at h)
  have h2 : y ≠ a + 1 := gh_ne b1 hb (by intro h; cases h)
  have h3 : y + 1 ≠ a := gh_ne b2 ha (by intro h; cases h)
  constructor
  · intro z
    rcases List.mem_cons.mp z with z | z
    · exact h1 z
    · exact h2 (List.mem_singleton.mp z)
  · intro z
    rcases List.mem_cons.mp z with z | z
    · exact h3 z
    · have := List.mem_singleton.mp z; omega)
theorem gPs.congr {P : gPar} {f : gM} {ow : gO} {q : Nat} {ps : Nat → Option Nat} {ld ld' : Nat → Bool} {C C' : Nat → Nat} (h : gPs P f ow q ps ld C) (hl : ∀ t, t < 19 → ld' t = ld t) (hC : ∀ t j, t < 19 → ld t = true → j < 448 → C' (448 * t + j) = C (448 * t + j)) : gPs P f ow q ps ld' C' := fun s hs => by
  obtain ⟨h1, h2⟩ := h s hs
  refine ⟨by rw [hl s hs]; exact h1, fun x hx => ?_⟩
  obtain ⟨a1, hh, a2, a3⟩ := h2 x hx
  exact ⟨a1, hh, a2, fun j hj => by rw [hC s j hs (by rw [← h1, hx]; rfl) hj]; exact a3 j hj⟩
/-- stripe s keeps its first k bytes -/
def ctS (C : Nat → Nat) (s k p : Nat) : Nat := if 448 * s ≤ p ∧ p < 448 * s + 448 ∧ 448 * s + k ≤ p then 0 else C p
theorem ctS_ne {C : Nat → Nat} {s k t j : Nat} (h : t ≠ s) (hj : j < 448) : ctS C s k (448 * t + j) = C (448 * t + j) := by
  unfold ctS; rw [if_neg (by omega)]
theorem ctS_hi {C : Nat → Nat} {s k p : Nat} (h : 448 ≤ k) : ctS C s k p = C p := by
  unfold ctS; rw [if_neg (by omega)]
theorem ctS_fil {C : Nat → Nat} {hh : Nat → Int32} {s k j : Nat} (hj : j < 448) (h : ub (hh j) = C (448 * s + j)) : ub (g_fil hh k 448 (nI 0) j) = ctS C s k (448 * s + j) := by
  unfold g_fil ctS
  by_cases h1 : k ≤ j
  · rw [if_pos (by omega), if_pos (by omega)]; decide
  · rw [if_neg (by omega), if_neg (by omega)]; exact h
def ctlK (ld : Nat → Bool) (a k t : Nat) : Bool := if t < k then (ld t && decide (448 * t < a)) else ld t
def ctcK (C : Nat → Nat) (a k p : Nat) : Nat := if p < 448 * k ∧ a ≤ p then 0 else C p
def ctl (ld : Nat → Bool) (a t : Nat) : Bool := ld t && decide (448 * t < a)
def ctc (C : Nat → Nat) (a p : Nat) : Nat := if a ≤ p then 0 else C p
theorem ctlK_0 (ld : Nat → Bool) (a : Nat) : ctlK ld a 0 = ld := by funext t; unfold ctlK; rw [if_neg (by omega)]
theorem ctcK_0 (C : Nat → Nat) (a : Nat) : ctcK C a 0 = C := by funext t; unfold ctcK; rw [if_neg (by omega)]
theorem ctlK_e {ld : Nat → Bool} {a : Nat} (h : ∀ s, ld s = true → 448 * s < 8192) : ctlK ld a 19 = ctl ld a := by
  funext t; unfold ctlK ctl
  by_cases h1 : t < 19
  · rw [if_pos h1]
  · rw [if_neg h1]
    cases hl : ld t with
    | false => rfl
    | true => have := h t hl; omega
theorem ctcK_e {C : Nat → Nat} {a : Nat} (h : ∀ p, 8192 ≤ p → C p = 0) : ctcK C a 19 = ctc C a := by
  funext p; unfold ctcK ctc
  by_cases h1 : a ≤ p
  · rw [if_pos h1]
    by_cases h2 : p < 448 * 19
    · rw [if_pos ⟨h2, h1⟩]
    · rw [if_neg (by omega)]; exact h p (by omega)
  · rw [if_neg h1, if_neg (by omega)]
theorem ctlK_s (ld : Nat → Bool) (a k : Nat) : va_up (ctlK ld a k) k (ctlK ld a k k && decide (0 < a - 448 * k)) = ctlK ld a (k + 1) := by
  funext t; unfold va_up
  by_cases h : t = k
  · subst h
    rw [if_pos rfl]; unfold ctlK; rw [if_neg (by omega), if_pos (by omega)]
    rw [show decide (0 < a - 448 * t) = decide (448 * t < a) by simp; omega]
  · rw [if_neg h]; unfold ctlK
    by_cases h1 : t < k
    · rw [if_pos h1, if_pos (by omega)]
    · rw [if_neg h1, if_neg (by omega)]
theorem ctcK_s (C : Nat → Nat) (a k : Nat) : ctS (ctcK C a k) k (a - 448 * k) = ctcK C a (k + 1) := by
  funext p; unfold ctS ctcK
  by_cases h1 : 448 * k ≤ p ∧ p < 448 * k + 448 ∧ 448 * k + (a - 448 * k) ≤ p
  · rw [if_pos h1, if_pos (by omega)]
  · rw [if_neg h1]
    by_cases h2 : p < 448 * k ∧ a ≤ p
    · rw [if_pos h2, if_pos (by omega)]
    · rw [if_neg h2, if_neg (by omega)]
/-- the piece x of stripe s goes back to the pool -/
theorem drop_step {P : gPar} {f f1 f2 : gM} {ow : gO} {q pl e cap e1 cap1 s x len : Nat} {idv : Int32} {SP : List Nat} {ps : Nat → Option Nat} {ld : Nat → Bool} {C : Nat → Nat} (h34 : P.2.1 3 ≠ P.2.1 4) (hz : f P.2.2.2.1 = none)
    (hq : f q = some (.inr (4, [.ref pl, .ref (q + 1), .ref (q + 3), .int idv, .int (nI len)]))) (hq3 : f (q + 3) = some (.inl (P.2.1 3, 19, .inr (.inr (.inr (.inr ps)))))) (hps : gPs P f ow q ps ld C) (h : gSp P f ow pl e cap SP) (hs : s < 19) (hx : ps s = some x)
    (hf1 : f1 = va_up f (q + 3) (some (.inl (P.2.1 3, 19, .inr (.inr (.inr (.inr (va_up ps s none)))))))) (h2 : gSp P f2 (va_up ow x none) pl e1 cap1 (SP ++ [x])) (he : e1 = e ∨ gNew f1 e1) (hF : gFr f1 f2 [x + 1, pl + 1, e]) (hD : gDm f1 f2) :
    f2 q = some (.inr (4, [.ref pl, .ref (q + 1), .ref (q + 3), .int idv, .int (nI len)])) ∧ f2 (q + 3) = some (.inl (P.2.1 3, 19, .inr (.inr (.inr (.inr (va_up ps s none)))))) ∧ gPs P f2 (va_up ow x none) q (va_up ps s none) (va_up ld s false) (ctS C s 0) ∧ gRel q pl f ow e SP ps f2 (va_up ow x none) e1 (SP ++ [x]) (va_up ps s none) ∧ (SP ++ [x]).length + cntL (va_up ld s false) 19 = SP.length + cntL ld 19 := by
  have hli := h.2.1
  have hF1 : gFr f f1 [q + 3] := by rw [hf1]; exact gFr.upA (by simp) gFr.rf
  have hq31 : f1 (q + 3) = some (.inl (P.2.1 3, 19, .inr (.inr (.inr (.inr (va_up ps s none)))))) := by rw [hf1]; exact va_up_self _ _ _
  have hq1 := hF1 q _ hq (by simp)
  obtain ⟨hox, hh, hxp, -⟩ := (hps s hs).2 x hx
  have hxa := hps.apart hq3 hs hx
  have hld : ld s = true := by rw [← (hps s hs).1, hx]; rfl
  have hz1 : f1 P.2.2.2.1 = none := by
    rw [hf1, va_up_ne _ _ (fun z => by rw [z, hq3] at hz; cases hz)]; exact hz
  have hli1 := (h.fr hF1 (by simp; exact gh_ne h.1 hq3 (by intro h; cases h)) (by
      obtain ⟨⟨m, h9⟩, -⟩ := hli
      intro z; rw [List.mem_singleton.mp z, hq3] at h9; cases h9) (fun z => (hli.npa h34 hq3 hz) (by rw [← List.mem_singleton.mp z]; simp)) (fun y hy => h.apart hq3 hy)).2.1
  have hx1 := hxp.fr hF1 hxa.1 hxa.2
  have hout : ∀ c v, f1 c = some v → c ≠ x + 1 → c ∉ [pl + 1, e] → f2 c = some v := fun c v hc h1 h3 => hF c v hc (fun z => by
    rcases List.mem_cons.mp z with z | z
    · exact h1 z
    · exact h3 z)
  have gq2 := hout q _ hq1 (gh_ne hq1 hx1.2.1 (by intro h; cases h)) (hli1.npc (by decide) hq1 hz1)
  have gq32 := hout (q + 3) _ hq31 (fun z => by
    have h9 := hx1.2.1
    rw [← z, hq31] at h9
    injection h9 with h9; injection h9 with h9; injection h9 with _ h9; injection h9 with _ h9; cases h9) (hli1.npa h34 hq31 hz1)
  have gps1 : gPs P f1 ow q ps ld C := hps.fr hF1 (fun t y ht hy => hps.apart hq3 ht hy)
  refine ⟨gq2, gq32, ?_, ⟨?_, ⟨?_, ?_⟩, ?_, ?_⟩, ?_⟩
  · intro t ht
    by_cases e0 : t = s
    · subst e0
      rw [va_up_self, va_up_self]
      exact ⟨rfl, fun y hy => by cases hy⟩
    · rw [va_up_ne _ _ e0, va_up_ne _ _ e0]
      obtain ⟨a1, a2⟩ := gps1 t ht
      refine ⟨a1, fun y hy => ?_⟩
      obtain ⟨b1, h3, ⟨b2, b3, b4⟩, b5⟩ := a2 y hy
      have hyx : y ≠ x := fun z => e0 (gps1.one ht hs hy (z ▸ hx))
      refine ⟨by rw [va_up_ne _ _ hyx]; exact b1, h3, ⟨hout y _ b2 (gh_ne b2 hx1.2.1 (by intro h; cases h)) (hli1.npc (by decide) b2 hz1), hout (y + 1) _ b3 (by omega) (hli1.nba b3 hz1), b4⟩, fun j hj => by rw [ctS_ne e0 hj]; exact b5 j hj⟩
  · intro c v hc hX
    have hc1 := hF1 c v hc (fun z => hX (Or.inr (Or.inl (List.mem_singleton.mp z))))
    exact hF c v hc1 (fun z => hX (by
      rcases List.mem_cons.mp z with z | z
      · exact Or.inr (Or.inr (Or.inr (Or.inr ⟨x, Or.inr z, Or.inr ⟨s, hs, hx⟩⟩)))
      · rcases List.mem_cons.mp z with z | z
        · exact Or.inr (Or.inr (Or.inl z))
        · exact Or.inr (Or.inr (Or.inr (Or.inl (List.mem_singleton.mp z))))))
  · exact he.imp id (fun z => z.back (by rw [hf1]; exact gDm.rf.up))
  · intro y hy
    rcases hy with hy | ⟨t, ht, hy⟩
    · rcases List.mem_append.mp hy with hy | hy
      · exact Or.inl (Or.inl hy)
      · rw [List.mem_singleton.mp hy]; exact Or.inl (Or.inr ⟨s, hs, hx⟩)
    · by_cases e0 : t = s
      · subst e0; rw [va_up_self] at hy; cases hy
      · rw [va_up_ne _ _ e0] at hy; exact Or.inl (Or.inr ⟨t, ht, hy⟩)
  · intro y hy hX
    exact va_up_ne _ _ (fun z => hX (Or.inr (Or.inr (Or.inr (Or.inr ⟨x, Or.inl z, Or.inr ⟨s, hs, hx⟩⟩)))))
  · intro c hc
    have h9 := hD c hc
    rw [hf1] at h9
    by_cases hcq : c = q + 3
    · rw [hcq, va_up_self] at h9; cases h9
    · rw [va_up_ne _ _ hcq] at h9; exact h9
  · rw [List.length_append, List.length_singleton]
    have := cntL_dn ld 19 hs hld
    omega
end
section
set_option maxHeartbeats 4000000 in
set_option maxRecDepth 100000 in
theorem c_File_lay (l : Launch) (P : gPar) (f : gM) {q pl len e cap : Nat} {idv : Int32} {ps : Nat → Option Nat} {ow : gO} {ld : Nat → Bool} {C : Nat → Nat} {SP : List Nat} {s0 : Nat} (hq : f q = some (.inr (4, [.ref pl, .ref (q + 1), .ref (q + 3), .int idv, .int (nI len)]))) (hq3 : f (q + 3) = some (.inl (P.2.1 3, 19, .inr (.inr (.inr (.inr ps)))))) (hps : gPs P f ow q ps ld C) (h : gSp P f ow pl e cap SP) (hn : SP.length ≤ 130) (hs0 : s0 < 19) (hC0 : ld s0 = false → ∀ j, j < 448 → C (448 * s0 + j) = 0) : gC l P y_File_lay b_File_lay 2 (some (.object "StripeFiles$Piece")) 4 2 449 [.ref q, .int (nI s0)] f (gQq P (fun r f1 => ∃ x, r = some x ∧ ∃ (ow1 : gO) (ps1 : Nat → Option Nat) (SP1 : List Nat) (hh : Nat → Int32), gPc P f1 x hh ∧ ps1 s0 = some x ∧ f1 q = some (.inr (4, [.ref pl, .ref (q + 1), .ref (q + 3), .int idv, .int (nI len)])) ∧ f1 (q + 3) = some (.inl (P.2.1 3, 19, .inr (.inr (.inr (.inr ps1))))) ∧ gSp P f1 ow1 pl e cap SP1 ∧ gPs P f1 ow1 q ps1 (va_up ld s0 true) C ∧ gRel q pl f ow e SP ps f1 ow1 e SP1 ps1 ∧ (SP1.length + cntL (va_up ld s0 true) 19 = SP.length + cntL ld 19 ∨ SP1 = []) ∧ SP1.length ≤ SP.length)) := by
  refine gC_of (by decide) (Nat.le_of_ble_eq_true rfl) (fun p env s m args below meth c S hr hlk hnm H locs hI ls hl => ?_)
  have hl : lv_has ls 2 [(0, .ref q), (1, .int (nI s0))] := hl
  obtain ⟨hpl, hli, hcap, hnd, hsp⟩ := id h
  have hz0 := gB_z hI
  have h34 := gX_34 hI.1
  obtain ⟨e1, e2⟩ := hps s0 hs0
  refine lv_aload_n S.1 S.2.1 d_File_lay_0 rfl (lv_at hl 0 rfl) ?_
  refine gh_get S hI hq rfl i_File 2 (by decide) wi_197 rfl d_File_lay_1 ?_
  refine lv_iload_n S.1 S.2.1 d_File_lay_4 rfl (lv_at hl 1 rfl) ?_
  refine gh_aald (j := s0) S hI 3 hq3 rfl rfl (by omega) (by omega) d_File_lay_5 ?_
  rcases hs : ps s0 with _ | x
  · skip
    rw [show va_rf none = .null from rfl]
    refine lv_ifnonnullN S.1 S.2.1 d_File_lay_6 ?_
    refine lv_aload_n S.1 S.2.1 d_File_lay_9 rfl (lv_at hl 0 rfl) ?_
    refine gh_get S hI hq rfl i_File 2 (by decide) wi_197 rfl d_File_lay_10 ?_
    refine lv_iload_n S.1 S.2.1 d_File_lay_13 rfl (lv_at hl 1 rfl) ?_
    refine lv_aload_n S.1 S.2.1 d_File_lay_14 rfl (lv_at hl 0 rfl) ?_
    refine gh_get S hI hq rfl i_File 0 (by decide) wi_195 rfl d_File_lay_15 ?_
    refine gc_Vr S hI (c_Pool_takeBlank l P f h hn) kv_Pool_takeBlank wi_288 hpl rfl rfl rfl hl.1 rfl (Nat.le_of_ble_eq_true rfl) ⟨Nat.le_of_ble_eq_true rfl, Nat.le_of_ble_eq_true rfl⟩ ⟨Nat.le_of_ble_eq_true rfl, Nat.le_of_ble_eq_true rfl⟩ d_File_lay_18 (fun r17 f18 H locs hp19 hI => ?_)
    obtain ⟨SP1, hp1, ⟨hh, hp2, hp3⟩, hp4, hp5⟩ := hp19
    rw [hs] at e1
    have hq1 := hp5 q _ hq (hli.npc (by decide) hq hz0)
    have hq31 := hp5 (q + 3) _ hq3 (hli.npa h34 hq3 hz0)
    refine gh_aast (r := (R_Piece, F_Piece, 1)) (j := s0) S hI 3 hq31 rfl hp2.1 rfl rfl (by omega) (by omega) d_File_lay_21 (fun H locs hI => ?_)
    have hI : gB P (va_up f18 (q + 3) (some (.inl (P.2.1 3, 19, .inr (.inr (.inr (.inr (va_up ps s0 (some r17))))))))) s H locs := hI
    obtain ⟨f20, ef20⟩ : ∃ z, z = va_up f18 (q + 3) (some (.inl (P.2.1 3, 19, .inr (.inr (.inr (.inr (va_up ps s0 (some r17)))))))) := ⟨_, rfl⟩
    rw [← ef20] at hI
    have h21 : f20 q = some (.inr (4, [.ref pl, .ref (q + 1), .ref (q + 3), .int idv, .int (nI len)])) := by rw [ef20, va_up_ne _ _ (by omega)]; exact hq1
    have h22 : f20 r17 = some (.inr (2, [.ref (r17 + 1)])) := by rw [ef20, va_up_ne _ _ (gh_ne hp2.1 hq31 (by intro h; cases h))]; exact hp2.1
    have h23 : f20 (q + 3) = some (.inl (P.2.1 3, 19, .inr (.inr (.inr (.inr (va_up ps s0 (some r17))))))) := by rw [ef20]; exact va_up_self _ _ _
    have hst := lay_step h34 hz0 hq hq3 hps h hs0 hs (fun j hj => hC0 e1.symm j hj) hp1 hp2 hp3 hp4 hp5 f20 ef20
    refine lv_aload_n S.1 S.2.1 d_File_lay_22 rfl (lv_at hl 0 rfl) ?_
    refine gh_get S hI h21 rfl i_File 2 (by decide) wi_197 rfl d_File_lay_23 ?_
    refine lv_iload_n S.1 S.2.1 d_File_lay_26 rfl (lv_at hl 1 rfl) ?_
    refine gh_aald (j := s0) S hI 3 h23 rfl rfl (by omega) (by omega) d_File_lay_27 ?_
    rw [show va_rf ((va_up ps s0 (some r17)) s0) = .ref r17 from by rw [va_up_self _ _ _]; rfl]
    exact gr_r S hr (Or.inl ⟨_, rfl⟩) hlk hI (⟨_, _, SP1, hh, hst.1, va_up_self _ _ _, hst.2.1, h23, hst.2.2⟩) d_File_lay_28
  · skip
    rw [show va_rf (some x) = .ref x from rfl]
    refine lv_ifnonnull (tgt := 22) S.1 S.2.1 d_File_lay_6 (by decide) ?_
    refine lv_aload_n S.1 S.2.1 d_File_lay_22 rfl (lv_at hl 0 rfl) ?_
    refine gh_get S hI hq rfl i_File 2 (by decide) wi_197 rfl d_File_lay_23 ?_
    refine lv_iload_n S.1 S.2.1 d_File_lay_26 rfl (lv_at hl 1 rfl) ?_
    refine gh_aald (j := s0) S hI 3 hq3 rfl rfl (by omega) (by omega) d_File_lay_27 ?_
    rw [show va_rf (ps s0) = .ref x from by rw [hs]; rfl]
    rw [hs] at e1
    have el : va_up ld s0 true = ld := va_up_same e1.symm
    obtain ⟨-, hh, hx1, hx2⟩ := e2 x hs
    refine W.widen (k := 2) (n := 449) (by omega) (by omega) ?_
    exact gr_r S hr (Or.inl ⟨_, rfl⟩) hlk hI (⟨ow, ps, SP, hh, hx1, hs, hq, hq3, h, by rw [el]; exact hps, gRel.rf, Or.inl (by rw [el]), Nat.le_refl _⟩) d_File_lay_28
theorem gSp.frq {P : gPar} {f f1 : gM} {ow : gO} {pl q e cap : Nat} {SP : List Nat} {fs : List Value} (h : gSp P f ow pl e cap SP) (hq : f q = some (.inr (4, fs))) (hF : gFr f f1 [q]) (hz : f P.2.2.2.1 = none) : gSp P f1 ow pl e cap SP := by
  have hl := h.2.1.npc (by decide) hq hz
  refine h.fr hF ?_ ?_ ?_ (fun y hy => ?_)
  · simp; exact gh_ne h.1 hq (by intro h; simp at h)
  · intro z; exact hl (by rw [← List.mem_singleton.mp z]; simp)
  · intro z; exact hl (by rw [← List.mem_singleton.mp z]; simp)
  · obtain ⟨-, _, b1, -⟩ := h.2.2.2.2 y hy
    exact ⟨by simp; exact gh_ne b1.1 hq (by intro h; simp at h), by simp; exact gh_ne b1.2.1 hq (by intro h; cases h)⟩
theorem gPs.frq {P : gPar} {f f1 : gM} {ow : gO} {q : Nat} {ps : Nat → Option Nat} {ld : Nat → Bool} {C : Nat → Nat} {fs : List Value} (h : gPs P f ow q ps ld C) (hq : f q = some (.inr (4, fs))) (hF : gFr f f1 [q]) : gPs P f1 ow q ps ld C := h.fr hF (fun t y ht hy => by
  obtain ⟨-, _, b1, -⟩ := (h t ht).2 y hy
  exact ⟨by simp; exact gh_ne b1.1 hq (by intro h; simp at h), by simp; exact gh_ne b1.2.1 hq (by intro h; cases h)⟩)
set_option maxHeartbeats 4000000 in
set_option maxRecDepth 100000 in
theorem c_File_write (l : Launch) (P : gPar) (f : gM) {q pl len e cap : Nat} {idv : Int32} {ps : Nat → Option Nat} {ow : gO} {ld : Nat → Bool} {C : Nat → Nat} {SP : List Nat} {a n capR fr : Nat} {g : Nat → Int32} (hq : f q = some (.inr (4, [.ref pl, .ref (q + 1), .ref (q + 3), .int idv, .int (nI len)]))) (hq3 : f (q + 3) = some (.inl (P.2.1 3, 19, .inr (.inr (.inr (.inr ps)))))) (hps : gPs P f ow q ps ld C) (h : gSp P f ow pl e cap SP) (hn : SP.length ≤ 130) (ha : f a = some (.inr (1, [.ref (a + 1), .int (nI n)]))) (hb : f (a + 1) = some (.inl (P.2.1 0, capR, .inl g))) (hnR : n ≤ capR) (hcR : capR < 2 ^ 20) (hg : sb_Fit g) (hfn : fr + n ≤ 8192) (hlen : len ≤ 8192) (hC0 : ∀ p, ld (p / 448) = false → C p = 0) : gC l P y_File_write b_File_write 8 none 5 38 8531 [.ref q, .int (nI fr), .ref a] f (gQv P (fun f1 => ∃ (ow1 : gO) (ps1 : Nat → Option Nat) (SP1 : List Nat), f1 q = some (.inr (4, [.ref pl, .ref (q + 1), .ref (q + 3), .int idv, .int (nI (if n = 0 then len else max len (fr + n)))])) ∧ f1 (q + 3) = some (.inl (P.2.1 3, 19, .inr (.inr (.inr (.inr ps1))))) ∧ gSp P f1 ow1 pl e cap SP1 ∧ gPs P f1 ow1 q ps1 (wl ld fr n) (wC C (fun i => ub (g i)) fr n) ∧ gRel q pl f ow e SP ps f1 ow1 e SP1 ps1 ∧ (SP1.length + cntL (wl ld fr n) 19 = SP.length + cntL ld 19 ∨ SP1 = []) ∧ SP1.length ≤ SP.length)) := by
  refine gC_of (by decide) (Nat.le_of_ble_eq_true rfl) (fun p env s m args below meth c S hr hlk hnm H locs hI ls hl => ?_)
  have hl : lv_has ls 8 [(0, .ref q), (1, .int (nI fr)), (2, .ref a)] := hl
  have hz0 := gB_z hI
  refine lv_iload_n S.1 S.2.1 d_File_write_0 rfl (lv_at hl 1 rfl) ?_
  refine lv_aload_n S.1 S.2.1 d_File_write_1 rfl (lv_at hl 2 rfl) ?_
  refine gc_Vi S hI (c_Row_length l P f ha) kv_Row_length wi_282 ha rfl rfl rfl hl.1 rfl (Nat.le_of_ble_eq_true rfl) ⟨Nat.le_of_ble_eq_true rfl, Nat.le_of_ble_eq_true rfl⟩ ⟨Nat.le_of_ble_eq_true rfl, Nat.le_of_ble_eq_true rfl⟩ d_File_write_2 (fun r24 f25 H locs hp26 hI => ?_)
  obtain ⟨hp1, hp2⟩ := hp26
  subst hp1
  rw [hp2] at hI
  refine lv_iadd S.1 S.2.1 d_File_write_5 ?_
  refine lv_topi (fun v27 ev27 => ?_)
  replace ev27 : v27 = nI (fr + n) := ev27.trans (nI_add _ _)
  subst ev27
  refine lv_istore_n (lv' := [(3, .int (nI (fr + n))), (0, .ref q), (1, .int (nI fr)), (2, .ref a)]) S.1 S.2.1 d_File_write_6 rfl hl (by decide) rfl (fun ls hl => ?_)
  refine lv_iconst (v := nI 0) S.1 S.2.1 d_File_write_7 (by decide) ?_
  refine lv_istore (lv' := [(4, .int (nI 0)), (3, .int (nI (fr + n))), (0, .ref q), (1, .int (nI fr)), (2, .ref a)]) S.1 S.2.1 d_File_write_8 hl (by decide) rfl (fun ls hl => ?_)
  have loop : ∀ (k i : Nat), i ≤ 19 → 19 - i < k → ∀ (fk : gM) (owk : gO) (psk : Nat → Option Nat) (SPk : List Nat), fk q = some (.inr (4, [.ref pl, .ref (q + 1), .ref (q + 3), .int idv, .int (nI len)])) → fk (q + 3) = some (.inl (P.2.1 3, 19, .inr (.inr (.inr (.inr psk))))) → gSp P fk owk pl e cap SPk → gPs P fk owk q psk (wlK ld fr n i) (wcK C (fun i => ub (g i)) fr n i) → gRel q pl f ow e SP ps fk owk e SPk psk → (SPk.length + cntL (wlK ld fr n i) 19 = SP.length + cntL ld 19 ∨ SPk = []) → SPk.length ≤ SP.length → fk a = some (.inr (1, [.ref (a + 1), .int (nI n)])) → fk (a + 1) = some (.inl (P.2.1 0, capR, .inl g)) → ∀ (H : Heap) (locs : List Loc), gB P fk s H locs → ∀ ls : Array Slot, lv_has ls 8 [(0, .ref q), (1, .int (nI fr)), (2, .ref a), (3, .int (nI (fr + n))), (4, .int (nI i))] → W p l env (grm 5 38 8531) s m args below meth c H locs (2 * i) (449 * i) (MQ below (gQv P (fun f1 => ∃ (ow1 : gO) (ps1 : Nat → Option Nat) (SP1 : List Nat), f1 q = some (.inr (4, [.ref pl, .ref (q + 1), .ref (q + 3), .int idv, .int (nI (if n = 0 then len else max len (fr + n)))])) ∧ f1 (q + 3) = some (.inl (P.2.1 3, 19, .inr (.inr (.inr (.inr ps1))))) ∧ gSp P f1 ow1 pl e cap SP1 ∧ gPs P f1 ow1 q ps1 (wl ld fr n) (wC C (fun i => ub (g i)) fr n) ∧ gRel q pl f ow e SP ps f1 ow1 e SP1 ps1 ∧ (SP1.length + cntL (wl ld fr n) 19 = SP.length + cntL ld 19 ∨ SP1 = []) ∧ SP1.length ≤ SP.length)) args s 38 8531 (gA P)) (F0 m 10 ls []) := by
    intro k
    induction k with
    | zero => intro i h4 h5; exact absurd h5 (by omega)
    | succ k ih =>
      intro i h4 h5 fk owk psk SPk gq gq3 gsp gps grel gct gle ga gb H locs hI ls hl
      refine lv_iload S.1 S.2.1 d_File_write_10 (lv_at hl 4 rfl) ?_
      refine lv_bipush (v := nI 19) S.1 S.2.1 d_File_write_12 (by decide) ?_
      refine lv_icmp_ge (tgt := 85) S.1 S.2.1 d_File_write_14 (by decide) (fun c28 => ?_) (fun c28 => ?_)
      · skip
        replace c28 : 19 ≤ i := (nI_leI (a := 19) (b := i) (by omega) (by omega)).mp c28
        have e19 : i = 19 := by omega
        subst e19
        rw [wlK_e hfn] at gps gct
        rw [wcK_e hfn] at gps
        refine lv_aload_n S.1 S.2.1 d_File_write_85 rfl (lv_at hl 2 rfl) ?_
        refine gc_Vi S hI (c_Row_isEmpty l P fk ga (by omega)) kv_Row_isEmpty wi_306 ga rfl rfl rfl hl.1 rfl (Nat.le_of_ble_eq_true rfl) ⟨Nat.le_of_ble_eq_true rfl, Nat.le_of_ble_eq_true rfl⟩ ⟨by show _ ≤ 38; omega, by show _ ≤ 8531; omega⟩ d_File_write_86 (fun r29 f30 H locs hp31 hI => ?_)
        obtain ⟨hp1, hp2⟩ := hp31
        subst hp1
        rw [hp2] at hI
        by_cases hn0 : n = 0
        · rw [show (if n = 0 then nI 1 else nI 0 : Int32) = nI 1 from if_pos hn0]
          refine lv_if_ne (tgt := 104) S.1 S.2.1 d_File_write_89 (by decide) (fun c32 => ?_) (fun c32 => ?_)
          · skip
            replace c32 : ¬ 1 = 0 := fun z => c32 ((nI_eq (a := 1) (b := 0) (by omega) (by omega)).mpr z)
            refine W.widen (k := 38) (n := 8531) (by omega) (by omega) ?_
            exact gr_v S hr hlk hI (⟨owk, psk, SPk, by rw [if_pos hn0]; exact gq, gq3, gsp, gps, grel, gct, gle⟩) d_File_write_104
          · skip
            replace c32 : 1 = 0 := (nI_eq (a := 1) (b := 0) (by omega) (by omega)).mp c32
            exact absurd c32 (by omega)
        · rw [show (if n = 0 then nI 1 else nI 0 : Int32) = nI 0 from if_neg hn0]
          refine lv_if_ne (tgt := 104) S.1 S.2.1 d_File_write_89 (by decide) (fun c33 => ?_) (fun c33 => ?_)
          · skip
            replace c33 : ¬ 0 = 0 := fun z => c33 ((nI_eq (a := 0) (b := 0) (by omega) (by omega)).mpr z)
            exact absurd c33 (by omega)
          · skip
            replace c33 : 0 = 0 := (nI_eq (a := 0) (b := 0) (by omega) (by omega)).mp c33
            refine lv_aload_n S.1 S.2.1 d_File_write_92 rfl (lv_at hl 0 rfl) ?_
            refine lv_aload_n S.1 S.2.1 d_File_write_93 rfl (lv_at hl 0 rfl) ?_
            refine gh_get S hI gq rfl i_File 4 (by decide) wi_199 rfl d_File_write_94 ?_
            refine lv_iload_n S.1 S.2.1 d_File_write_97 rfl (lv_at hl 3 rfl) ?_
            refine gc_max S wi_283 hl.1 d_File_write_98 (by omega) (by omega) (Nat.le_of_ble_eq_true rfl) (Nat.le_of_ble_eq_true rfl) (by show _ ≤ 38; omega) (by show _ ≤ 8531; omega) ?_
            refine gh_put S hI gq rfl i_File t_File tk_File n_File 4 (by decide) wi_199 rfl rfl rfl (Nat.le_of_ble_eq_true rfl) d_File_write_101 (fun H locs hI => ?_)
            have hI : gB P (va_up fk q (some (.inr (4, [.ref pl, .ref (q + 1), .ref (q + 3), .int idv, .int (nI (max len (fr + n)))])))) s H locs := hI
            obtain ⟨f34, ef34⟩ : ∃ z, z = va_up fk q (some (.inr (4, [.ref pl, .ref (q + 1), .ref (q + 3), .int idv, .int (nI (max len (fr + n)))]))) := ⟨_, rfl⟩
            rw [← ef34] at hI
            have h35 : f34 (q + 3) = some (.inl (P.2.1 3, 19, .inr (.inr (.inr (.inr psk))))) := by rw [ef34, va_up_ne _ _ (by omega)]; exact gq3
            have h36 : f34 a = some (.inr (1, [.ref (a + 1), .int (nI n)])) := by rw [ef34, va_up_ne _ _ (gh_ne ga gq (by intro h; simp at h))]; exact ga
            have h37 : f34 (a + 1) = some (.inl (P.2.1 0, capR, .inl g)) := by rw [ef34, va_up_ne _ _ (gh_ne gb gq (by intro h; cases h))]; exact gb
            have h38 : f34 q = some (.inr (4, [.ref pl, .ref (q + 1), .ref (q + 3), .int idv, .int (nI (max len (fr + n)))])) := by rw [ef34]; exact va_up_self _ _ _
            have hF1 : gFr fk f34 [q] := by rw [ef34]; exact gFr.upA (by simp) gFr.rf
            have hzk := gB_z hI
            have hzk0 : fk P.2.2.2.1 = none := gFr_none hF1 (fun _ z => by rw [List.mem_singleton.mp z, h38]; simp) hzk
            refine W.widen (k := 38) (n := 8531) (by omega) (by omega) ?_
            exact gr_v S hr hlk hI (⟨owk, psk, SPk, by rw [if_neg hn0]; exact h38, h35, gsp.frq gq hF1 hzk0, gps.frq gq hF1, grel.trans (gRel.fr hF1 (fun c hc => by rw [List.mem_singleton.mp hc]; exact ⟨Or.inl rfl, by rw [h38]; simp⟩)), gct, gle⟩) d_File_write_104
      · skip
        replace c28 : ¬ 19 ≤ i := fun z => c28 ((nI_leI (a := 19) (b := i) (by omega) (by omega)).mpr z)
        refine lv_iload S.1 S.2.1 d_File_write_17 (lv_at hl 4 rfl) ?_
        refine lv_sipush (v := nI 448) S.1 S.2.1 d_File_write_19 (by decide) ?_
        refine lv_imul S.1 S.2.1 d_File_write_22 ?_
        refine lv_topi (fun v39 ev39 => ?_)
        replace ev39 : v39 = nI (i * 448) := ev39.trans (pk_mul _ _)
        subst ev39
        refine lv_topi (fun v40 ev40 => ?_)
        replace ev40 : v40 = nI (448 * i) := ev40.trans (by rw [Nat.mul_comm])
        subst ev40
        refine lv_istore (lv' := [(5, .int (nI (448 * i))), (0, .ref q), (1, .int (nI fr)), (2, .ref a), (3, .int (nI (fr + n))), (4, .int (nI i))]) S.1 S.2.1 d_File_write_23 hl (by decide) rfl (fun ls hl => ?_)
        refine lv_iload_n S.1 S.2.1 d_File_write_25 rfl (lv_at hl 2 rfl) ?_
        refine lv_iload S.1 S.2.1 d_File_write_26 (lv_at hl 0 rfl) ?_
        refine gc_max S wi_283 hl.1 d_File_write_28 (by omega) (by omega) (Nat.le_of_ble_eq_true rfl) (Nat.le_of_ble_eq_true rfl) (by show _ ≤ 38; omega) (by show _ ≤ 8531; omega) ?_
        obtain ⟨lo, hlo⟩ : ∃ z, z = max fr (448 * i) := ⟨_, rfl⟩
        rw [← hlo]
        refine lv_istore (lv' := [(6, .int (nI lo)), (5, .int (nI (448 * i))), (0, .ref q), (1, .int (nI fr)), (2, .ref a), (3, .int (nI (fr + n))), (4, .int (nI i))]) S.1 S.2.1 d_File_write_31 hl (by decide) rfl (fun ls hl => ?_)
        refine lv_iload_n S.1 S.2.1 d_File_write_33 rfl (lv_at hl 5 rfl) ?_
        refine lv_iload S.1 S.2.1 d_File_write_34 (lv_at hl 1 rfl) ?_
        refine lv_sipush (v := nI 448) S.1 S.2.1 d_File_write_36 (by decide) ?_
        refine lv_iadd S.1 S.2.1 d_File_write_39 ?_
        refine lv_topi (fun v41 ev41 => ?_)
        replace ev41 : v41 = nI ((448 * i) + 448) := ev41.trans (nI_add _ _)
        subst ev41
        refine gc_min S wi_284 hl.1 d_File_write_40 (by omega) (by omega) (Nat.le_of_ble_eq_true rfl) (Nat.le_of_ble_eq_true rfl) (by show _ ≤ 38; omega) (by show _ ≤ 8531; omega) ?_
        obtain ⟨hi, hhi⟩ : ∃ z, z = min (fr + n) (448 * i + 448) := ⟨_, rfl⟩
        rw [← hhi]
        refine lv_istore (lv' := [(7, .int (nI hi)), (6, .int (nI lo)), (5, .int (nI (448 * i))), (0, .ref q), (1, .int (nI fr)), (2, .ref a), (3, .int (nI (fr + n))), (4, .int (nI i))]) S.1 S.2.1 d_File_write_43 hl (by decide) rfl (fun ls hl => ?_)
        refine lv_iload S.1 S.2.1 d_File_write_45 (lv_at hl 1 rfl) ?_
        refine lv_iload S.1 S.2.1 d_File_write_47 (lv_at hl 0 rfl) ?_
        refine lv_icmp_ge (tgt := 79) S.1 S.2.1 d_File_write_49 (by decide) (fun c42 => ?_) (fun c42 => ?_)
        · skip
          replace c42 : hi ≤ lo := (nI_leI (a := hi) (b := lo) (by omega) (by omega)).mp c42
          have hno : ¬ max fr (448 * i) < min (fr + n) (448 * i + 448) := by omega
          refine lv_iinc (v := nI (i + 1)) (lv' := [(4, .int (nI (i + 1))), (7, .int (nI hi)), (6, .int (nI lo)), (5, .int (nI (448 * i))), (0, .ref q), (1, .int (nI fr)), (2, .ref a), (3, .int (nI (fr + n)))]) S.1 S.2.1 d_File_write_79 hl (k := 7) rfl (nI_add _ _) (by decide) rfl (fun ls hl => ?_)
          refine lv_goto (tgt := 10) S.1 S.2.1 d_File_write_82 (by decide) ?_
          refine W.widen (k := 2 * (i + 1)) (n := 449 * (i + 1)) (by omega) (by omega) ?_
          exact ih (i + 1) (by omega) (by omega) fk owk psk SPk gq gq3 gsp (by rw [wlK_no hno, wcK_no hno]; exact gps) grel (by rw [wlK_no hno]; exact gct) gle ga gb _ _ hI _ (lv_sub hl [4, 5, 6, 7, 0] rfl)
        · skip
          replace c42 : ¬ hi ≤ lo := fun z => c42 ((nI_leI (a := hi) (b := lo) (by omega) (by omega)).mpr z)
          have hyes : max fr (448 * i) < min (fr + n) (448 * i + 448) := by omega
          have hC1 : wlK ld fr n i i = false → ∀ j, j < 448 → wcK C (fun i => ub (g i)) fr n i (448 * i + j) = 0 := fun hz j hj => by rw [wcK_old (by omega)]; exact hC0 _ (by rw [show (448 * i + j) / 448 = i by omega]; unfold wlK at hz; rwa [if_neg (by omega)] at hz)
          refine lv_aload_n S.1 S.2.1 d_File_write_52 rfl (lv_at hl 5 rfl) ?_
          refine lv_aload_n S.1 S.2.1 d_File_write_53 rfl (lv_at hl 3 rfl) ?_
          refine lv_iload S.1 S.2.1 d_File_write_54 (lv_at hl 7 rfl) ?_
          refine gc_Vr S hI (c_File_lay l P fk gq gq3 gps gsp (by omega) (s0 := i) (by omega) hC1) kv_File_lay wi_285 gq rfl rfl rfl hl.1 rfl (Nat.le_of_ble_eq_true rfl) ⟨Nat.le_of_ble_eq_true rfl, Nat.le_of_ble_eq_true rfl⟩ ⟨by show _ ≤ 38; omega, by show _ ≤ 8531; omega⟩ d_File_write_56 (fun r43 f44 H locs hp45 hI => ?_)
          obtain ⟨ow1, ps1, SP1, hh, p1, p2, p3, p4, p5, p6, p7, p8, p9⟩ := hp45
          have hzk := gB_z hI
          have hzk0 := p7.2.2.2 _ hzk
          have hro := gXs_row hzk0 gq gq3 gps gsp ga gb
          have ga1 := p7.1 a _ ga hro.1
          have gb1 := p7.1 (a + 1) _ gb hro.2
          refine gh_getN S hI p1.1 rfl i_Piece 0 (by decide) hI.1.2.2.1.2.1 rfl d_File_write_59 ?_
          refine lv_iload S.1 S.2.1 d_File_write_62 (lv_at hl 1 rfl) ?_
          refine lv_iload S.1 S.2.1 d_File_write_64 (lv_at hl 2 rfl) ?_
          refine lv_isub S.1 S.2.1 d_File_write_66 ?_
          refine lv_topi (fun v46 ev46 => ?_)
          replace ev46 : v46 = nI (lo - (448 * i)) := ev46.trans (pk_sub (by omega))
          subst ev46
          refine lv_iload S.1 S.2.1 d_File_write_67 (lv_at hl 1 rfl) ?_
          refine lv_iload_n S.1 S.2.1 d_File_write_69 rfl (lv_at hl 4 rfl) ?_
          refine lv_isub S.1 S.2.1 d_File_write_70 ?_
          refine lv_topi (fun v47 ev47 => ?_)
          replace ev47 : v47 = nI (lo - fr) := ev47.trans (pk_sub (by omega))
          subst ev47
          refine lv_iload S.1 S.2.1 d_File_write_71 (lv_at hl 0 rfl) ?_
          refine lv_iload S.1 S.2.1 d_File_write_73 (lv_at hl 1 rfl) ?_
          refine lv_isub S.1 S.2.1 d_File_write_75 ?_
          refine lv_topi (fun v48 ev48 => ?_)
          replace ev48 : v48 = nI (hi - lo) := ev48.trans (pk_sub (by omega))
          subst ev48
          have hnb : a + 1 ≠ r43 + 1 := by
            intro z
            have e1 : a = r43 := by omega
            rw [e1, p1.1] at ga1; simp at ga1
          refine gc_Vv S hI (c_Row_copyTo l P f44 (at_ := lo - 448 * i) (fr := lo - fr) (k := hi - lo) ga1 gb1 p1.2.1 hnb (by omega) (by omega) hcR (by omega) hg) kv_Row_copyTo wi_302 ga1 rfl rfl rfl hl.1 rfl (Nat.le_of_ble_eq_true rfl) ⟨Nat.le_of_ble_eq_true rfl, Nat.le_of_ble_eq_true rfl⟩ ⟨by show _ ≤ 38; omega, by show _ ≤ 8531; omega⟩ d_File_write_76 (fun f50 H locs hp51 hI => ?_)
          have hF1 : gFr f44 f50 [r43 + 1] := by rw [hp51]; exact gFr.upA (by simp) gFr.rf
          have gq2 := hF1 q _ p3 (by simp; exact gh_ne p3 p1.2.1 (by intro h; cases h))
          have gq32 : f50 (q + 3) = some (.inl (P.2.1 3, 19, .inr (.inr (.inr (.inr ps1))))) := hF1 _ _ p4 (fun z => by have := p1.2.1; rw [← List.mem_singleton.mp z, p4] at this; injection this with this; injection this with this; injection this with _ this; injection this with _ this; cases this)
          have ga2 := hF1 a _ ga1 (by simp; exact gh_ne ga1 p1.2.1 (by intro h; cases h))
          have gb2 := hF1 (a + 1) _ gb1 (by simp; omega)
          have hmem := p6.nsp p5 (t := i) (by omega) p2
          have hold : ∀ j, j < 448 → ub (hh j) = C (448 * i + j) := by
            intro j hj
            obtain ⟨-, h9, q1, q2⟩ := (p6 i (by omega)).2 r43 p2
            have e9 : h9 = hh := by
              have e8 := q1.2.1
              rw [p1.2.1] at e8
              injection e8 with e8; injection e8 with e8; injection e8 with _ e8; injection e8 with _ e8; injection e8 with e8
              exact e8.symm
            rw [← e9, q2 j hj, wcK_old (by omega)]
          have hnew : ∀ j, j < 448 → ub (va_cpy g hh (lo - fr) (lo - 448 * i) (hi - lo) j) = wcK C (fun i => ub (g i)) fr n (i + 1) (448 * i + j) := fun j hj => wcK_at hlo hhi (by omega) hj (hold j hj)
          have gsp2 : gSp P f50 ow1 pl e cap SP1 := p5.upd (gFr_none hF1 (fun _ z => by rw [List.mem_singleton.mp z, hp51, va_up_self]; simp) (gB_z hI)) p1 hmem hp51
          have gps2 := p6.upd (C' := wcK C (fun i => ub (g i)) fr n (i + 1)) (by omega) p2 (sb_fitC hg p1.2.2) hp51 (fun t j ht hne hj => wcK_ne hne hj) hnew
          have grel2 := grel.trans (p7.trans (gRel.fr hF1 (fun c hc => by rw [List.mem_singleton.mp hc]; exact ⟨Or.inr (Or.inr (Or.inr (Or.inr ⟨r43, Or.inr rfl, Or.inr ⟨i, by omega, p2⟩⟩))), by rw [hp51, va_up_self]; simp⟩)))
          have gct2 : SP1.length + cntL (wlK ld fr n (i + 1)) 19 = SP.length + cntL ld 19 ∨ SP1 = [] := by
            rw [wlK_yes hyes]
            rcases gct with g1 | g1
            · rcases p8 with g2 | g2
              · exact Or.inl (by omega)
              · exact Or.inr g2
            · refine Or.inr (List.length_eq_zero_iff.mp ?_)
              rw [g1] at p9; simpa using p9
          refine lv_iinc (v := nI (i + 1)) (lv' := [(4, .int (nI (i + 1))), (7, .int (nI hi)), (6, .int (nI lo)), (5, .int (nI (448 * i))), (0, .ref q), (1, .int (nI fr)), (2, .ref a), (3, .int (nI (fr + n)))]) S.1 S.2.1 d_File_write_79 hl (k := 7) rfl (nI_add _ _) (by decide) rfl (fun ls hl => ?_)
          refine lv_goto (tgt := 10) S.1 S.2.1 d_File_write_82 (by decide) ?_
          refine W.widen (k := 2 * (i + 1)) (n := 449 * (i + 1)) (by omega) (by omega) ?_
          exact ih (i + 1) (by omega) (by omega) f50 ow1 ps1 SP1 gq2 gq32 gsp2 (by rw [wlK_yes hyes]; exact gps2) grel2 gct2 (by omega) ga2 gb2 _ _ hI _ (lv_sub hl [4, 5, 6, 7, 0] rfl)
  exact loop 20 0 (by omega) (by omega) f ow ps SP hq hq3 h (by rw [wlK_0, wcK_0]; exact hps) gRel.rf (Or.inl (by rw [wlK_0])) (Nat.le_refl _) ha hb _ _ hI _ (lv_sub hl [2, 3, 4, 1, 0] rfl)
end
section
set_option maxHeartbeats 4000000 in
set_option maxRecDepth 100000 in
theorem c_File_tell (l : Launch) (P : gPar) (f : gM) {q pl len : Nat} {idv : Int32} {ps : Nat → Option Nat} {ow : gO} {ld : Nat → Bool} {C : Nat → Nat} {a n capR s0 fr k : Nat} {g : Nat → Int32} (hq : f q = some (.inr (4, [.ref pl, .ref (q + 1), .ref (q + 3), .int idv, .int (nI len)]))) (hq3 : f (q + 3) = some (.inl (P.2.1 3, 19, .inr (.inr (.inr (.inr ps)))))) (hps : gPs P f ow q ps ld C) (ha : f a = some (.inr (1, [.ref (a + 1), .int (nI n)]))) (hb : f (a + 1) = some (.inl (P.2.1 0, capR, .inl g))) (hs0 : s0 < 19) (hC0 : ld s0 = false → ∀ j, j < 448 → C (448 * s0 + j) = 0) (hfk : fr + k ≤ 448) (hnk : n + k ≤ capR) (hcR : capR < 2 ^ 20) (hg : sb_Fit g) : gC l P y_File_tell b_File_tell 6 none 4 0 0 [.ref q, .int (nI s0), .int (nI fr), .int (nI k), .ref a] f (gQv P (fun f1 => f1 a = some (.inr (1, [.ref (a + 1), .int (nI (n + k))])) ∧ (∃ g1, f1 (a + 1) = some (.inl (P.2.1 0, capR, .inl g1)) ∧ sb_Fit g1 ∧ (∀ i, i < n → g1 i = g i) ∧ ∀ i, i < k → ub (g1 (n + i)) = C (448 * s0 + fr + i)) ∧ gFr f f1 [a, a + 1])) := by
  refine gC_of (by decide) (Nat.le_of_ble_eq_true rfl) (fun p env s m args below meth c S hr hlk hnm H locs hI ls hl => ?_)
  have hl : lv_has ls 6 [(0, .ref q), (1, .int (nI s0)), (2, .int (nI fr)), (3, .int (nI k)), (4, .ref a)] := hl
  obtain ⟨e1, e2⟩ := hps s0 hs0
  refine lv_aload_n S.1 S.2.1 d_File_tell_0 rfl (lv_at hl 0 rfl) ?_
  refine gh_get S hI hq rfl i_File 2 (by decide) wi_197 rfl d_File_tell_1 ?_
  refine lv_iload_n S.1 S.2.1 d_File_tell_4 rfl (lv_at hl 1 rfl) ?_
  refine gh_aald (j := s0) S hI 3 hq3 rfl rfl (by omega) (by omega) d_File_tell_5 ?_
  rcases hs : ps s0 with _ | x
  · skip
    rw [show va_rf none = .null from rfl]
    refine lv_astoreN (lv' := [(5, .null), (0, .ref q), (1, .int (nI s0)), (2, .int (nI fr)), (3, .int (nI k)), (4, .ref a)]) S.1 S.2.1 d_File_tell_6 hl (by decide) rfl (fun ls hl => ?_)
    refine lv_aloadN S.1 S.2.1 d_File_tell_8 (lv_at hl 0 rfl) ?_
    refine lv_ifnonnullN S.1 S.2.1 d_File_tell_10 ?_
    refine lv_aload S.1 S.2.1 d_File_tell_13 (lv_at hl 5 rfl) ?_
    refine lv_iload_n S.1 S.2.1 d_File_tell_15 rfl (lv_at hl 4 rfl) ?_
    refine gc_Vv S hI (c_Row_addZeros l P f (k := k) ha hb (by omega) hcR) kv_Row_addZeros wi_379 ha rfl rfl rfl hl.1 rfl (Nat.le_of_ble_eq_true rfl) ⟨Nat.le_of_ble_eq_true rfl, Nat.le_of_ble_eq_true rfl⟩ ⟨Nat.le_of_ble_eq_true rfl, Nat.le_of_ble_eq_true rfl⟩ d_File_tell_16 (fun f53 H locs hp54 hI => ?_)
    obtain ⟨hp1, hp2, hp3⟩ := hp54
    rw [hs] at e1
    refine lv_goto (tgt := 34) S.1 S.2.1 d_File_tell_19 (by decide) ?_
    exact gr_v S hr hlk hI (⟨hp1, ⟨_, hp2, g_fil_fit hg (by decide), fun i hi => by unfold g_fil; rw [if_neg (by omega)], fun i hi => by unfold g_fil; rw [if_pos (by omega), Nat.add_assoc, hC0 e1.symm (fr + i) (by omega)]; decide⟩, hp3⟩) d_File_tell_34
  · skip
    rw [show va_rf (some x) = .ref x from rfl]
    refine lv_astore (lv' := [(5, .ref x), (0, .ref q), (1, .int (nI s0)), (2, .int (nI fr)), (3, .int (nI k)), (4, .ref a)]) S.1 S.2.1 d_File_tell_6 hl (by decide) rfl (fun ls hl => ?_)
    refine lv_aload S.1 S.2.1 d_File_tell_8 (lv_at hl 0 rfl) ?_
    refine lv_ifnonnull (tgt := 22) S.1 S.2.1 d_File_tell_10 (by decide) ?_
    obtain ⟨-, hh, ⟨hx1, hx2, hx3⟩, hx4⟩ := e2 x hs
    refine lv_aload S.1 S.2.1 d_File_tell_22 (lv_at hl 5 rfl) ?_
    refine lv_aload S.1 S.2.1 d_File_tell_24 (lv_at hl 0 rfl) ?_
    refine gh_getN S hI hx1 rfl i_Piece 0 (by decide) hI.1.2.2.1.2.1 rfl d_File_tell_26 ?_
    refine lv_iload_n S.1 S.2.1 d_File_tell_29 rfl (lv_at hl 3 rfl) ?_
    refine lv_iload_n S.1 S.2.1 d_File_tell_30 rfl (lv_at hl 4 rfl) ?_
    have hne : x + 1 ≠ a + 1 := by
      intro z
      have e3 : x = a := by omega
      rw [e3, ha] at hx1; simp at hx1
    refine gc_Vv S hI (c_Row_addBytes l P f (k := k) (fr := fr) ha hb hx2 hne (by omega) (by omega) hcR (by omega) hx3) kv_Row_addBytes wi_384 ha rfl rfl rfl hl.1 rfl (Nat.le_of_ble_eq_true rfl) ⟨Nat.le_of_ble_eq_true rfl, Nat.le_of_ble_eq_true rfl⟩ ⟨Nat.le_of_ble_eq_true rfl, Nat.le_of_ble_eq_true rfl⟩ d_File_tell_31 (fun f56 H locs hp57 hI => ?_)
    obtain ⟨hp1, hp2, hp3⟩ := hp57
    exact gr_v S hr hlk hI (⟨hp1, ⟨_, hp2, sb_fitC hx3 hg, fun i hi => pk_cpy_out (by omega), fun i hi => by rw [pk_cpy_in (by omega) (by omega), Nat.add_sub_cancel_left, hx4 _ (by omega), Nat.add_assoc]⟩, hp3⟩) d_File_tell_34
set_option maxHeartbeats 4000000 in
set_option maxRecDepth 100000 in
theorem c_File_read (l : Launch) (P : gPar) (f : gM) {q pl len : Nat} {idv : Int32} {ps : Nat → Option Nat} {ow : gO} {ld : Nat → Bool} {C : Nat → Nat} {a capR fr most : Nat} {g : Nat → Int32} (hq : f q = some (.inr (4, [.ref pl, .ref (q + 1), .ref (q + 3), .int idv, .int (nI len)]))) (hq3 : f (q + 3) = some (.inl (P.2.1 3, 19, .inr (.inr (.inr (.inr ps)))))) (hps : gPs P f ow q ps ld C) (ha : f a = some (.inr (1, [.ref (a + 1), .int (nI 0)]))) (hb : f (a + 1) = some (.inl (P.2.1 0, capR, .inl g))) (hlen : len ≤ 8192) (hfr : fr ≤ 8192) (hm : most ≤ capR) (hC0 : ∀ p, ld (p / 448) = false → C p = 0) (hcR : capR < 2 ^ 20) (hg : sb_Fit g) : gC l P y_File_read b_File_read 9 none 5 0 0 [.ref q, .int (nI fr), .int (nI most), .ref a] f (gQv P (fun f1 => f1 a = some (.inr (1, [.ref (a + 1), .int (nI (min len (fr + most) - fr))])) ∧ (∃ g1, f1 (a + 1) = some (.inl (P.2.1 0, capR, .inl g1)) ∧ sb_Fit g1 ∧ ∀ i, i < min len (fr + most) - fr → ub (g1 i) = C (fr + i)) ∧ gFr f f1 [a, a + 1])) := by
  refine gC_of (by decide) (Nat.le_of_ble_eq_true rfl) (fun p env s m args below meth c S hr hlk hnm H locs hI ls hl => ?_)
  have hl : lv_has ls 9 [(0, .ref q), (1, .int (nI fr)), (2, .int (nI most)), (3, .ref a)] := hl
  refine lv_aload_n S.1 S.2.1 d_File_read_0 rfl (lv_at hl 0 rfl) ?_
  refine gh_get S hI hq rfl i_File 4 (by decide) wi_199 rfl d_File_read_1 ?_
  refine lv_iload_n S.1 S.2.1 d_File_read_4 rfl (lv_at hl 1 rfl) ?_
  refine lv_iload_n S.1 S.2.1 d_File_read_5 rfl (lv_at hl 2 rfl) ?_
  refine lv_iadd S.1 S.2.1 d_File_read_6 ?_
  refine lv_topi (fun v58 ev58 => ?_)
  replace ev58 : v58 = nI (fr + most) := ev58.trans (nI_add _ _)
  subst ev58
  refine gc_min S wi_284 hl.1 d_File_read_7 (by omega) (by omega) (Nat.le_of_ble_eq_true rfl) (Nat.le_of_ble_eq_true rfl) (Nat.le_of_ble_eq_true rfl) (Nat.le_of_ble_eq_true rfl) ?_
  obtain ⟨past, hpast⟩ : ∃ z, z = min len (fr + most) := ⟨_, rfl⟩
  rw [← hpast]
  refine lv_istore (lv' := [(4, .int (nI past)), (0, .ref q), (1, .int (nI fr)), (2, .int (nI most)), (3, .ref a)]) S.1 S.2.1 d_File_read_10 hl (by decide) rfl (fun ls hl => ?_)
  refine lv_iconst (v := nI 0) S.1 S.2.1 d_File_read_12 (by decide) ?_
  refine lv_istore (lv' := [(5, .int (nI 0)), (4, .int (nI past)), (0, .ref q), (1, .int (nI fr)), (2, .int (nI most)), (3, .ref a)]) S.1 S.2.1 d_File_read_13 hl (by decide) rfl (fun ls hl => ?_)
  have loop : ∀ (k i : Nat), i ≤ 19 → 19 - i < k → ∀ (fk : gM) (gk : Nat → Int32), fk q = some (.inr (4, [.ref pl, .ref (q + 1), .ref (q + 3), .int idv, .int (nI len)])) → fk (q + 3) = some (.inl (P.2.1 3, 19, .inr (.inr (.inr (.inr ps))))) → gPs P fk ow q ps ld C → fk a = some (.inr (1, [.ref (a + 1), .int (nI (min past (448 * i) - fr))])) → fk (a + 1) = some (.inl (P.2.1 0, capR, .inl gk)) → sb_Fit gk → (∀ t, t < min past (448 * i) - fr → ub (gk t) = C (fr + t)) → gFr f fk [a, a + 1] → ∀ (H : Heap) (locs : List Loc), gB P fk s H locs → ∀ ls : Array Slot, lv_has ls 9 [(0, .ref q), (1, .int (nI fr)), (2, .int (nI most)), (3, .ref a), (4, .int (nI past)), (5, .int (nI i))] → W p l env (grm 5 0 0) s m args below meth c H locs 0 0 (MQ below (gQv P (fun f1 => f1 a = some (.inr (1, [.ref (a + 1), .int (nI (min len (fr + most) - fr))])) ∧ (∃ g1, f1 (a + 1) = some (.inl (P.2.1 0, capR, .inl g1)) ∧ sb_Fit g1 ∧ ∀ i, i < min len (fr + most) - fr → ub (g1 i) = C (fr + i)) ∧ gFr f f1 [a, a + 1])) args s 0 0 (gA P)) (F0 m 15 ls []) := by
    intro k
    induction k with
    | zero => intro i h4 h5; exact absurd h5 (by omega)
    | succ k ih =>
      intro i h4 h5 fk gk gq gq3 gps ga gb gf gc gF H locs hI ls hl
      refine lv_iload S.1 S.2.1 d_File_read_15 (lv_at hl 5 rfl) ?_
      refine lv_bipush (v := nI 19) S.1 S.2.1 d_File_read_17 (by decide) ?_
      refine lv_icmp_ge (tgt := 81) S.1 S.2.1 d_File_read_19 (by decide) (fun c59 => ?_) (fun c59 => ?_)
      · skip
        replace c59 : 19 ≤ i := (nI_leI (a := 19) (b := i) (by omega) (by omega)).mp c59
        have e19 : min past (448 * i) = past := by omega
        rw [e19] at ga gc
        subst hpast
        exact gr_v S hr hlk hI (⟨ga, ⟨gk, gb, gf, gc⟩, gF⟩) d_File_read_81
      · skip
        replace c59 : ¬ 19 ≤ i := fun z => c59 ((nI_leI (a := 19) (b := i) (by omega) (by omega)).mpr z)
        refine lv_iload S.1 S.2.1 d_File_read_22 (lv_at hl 5 rfl) ?_
        refine lv_sipush (v := nI 448) S.1 S.2.1 d_File_read_24 (by decide) ?_
        refine lv_imul S.1 S.2.1 d_File_read_27 ?_
        refine lv_topi (fun v60 ev60 => ?_)
        replace ev60 : v60 = nI (i * 448) := ev60.trans (pk_mul _ _)
        subst ev60
        refine lv_topi (fun v61 ev61 => ?_)
        replace ev61 : v61 = nI (448 * i) := ev61.trans (by rw [Nat.mul_comm])
        subst ev61
        refine lv_istore (lv' := [(6, .int (nI (448 * i))), (0, .ref q), (1, .int (nI fr)), (2, .int (nI most)), (3, .ref a), (4, .int (nI past)), (5, .int (nI i))]) S.1 S.2.1 d_File_read_28 hl (by decide) rfl (fun ls hl => ?_)
        refine lv_iload_n S.1 S.2.1 d_File_read_30 rfl (lv_at hl 2 rfl) ?_
        refine lv_iload S.1 S.2.1 d_File_read_31 (lv_at hl 0 rfl) ?_
        refine gc_max S wi_283 hl.1 d_File_read_33 (by omega) (by omega) (Nat.le_of_ble_eq_true rfl) (Nat.le_of_ble_eq_true rfl) (Nat.le_of_ble_eq_true rfl) (Nat.le_of_ble_eq_true rfl) ?_
        obtain ⟨lo, hlo⟩ : ∃ z, z = max fr (448 * i) := ⟨_, rfl⟩
        rw [← hlo]
        refine lv_istore (lv' := [(7, .int (nI lo)), (6, .int (nI (448 * i))), (0, .ref q), (1, .int (nI fr)), (2, .int (nI most)), (3, .ref a), (4, .int (nI past)), (5, .int (nI i))]) S.1 S.2.1 d_File_read_36 hl (by decide) rfl (fun ls hl => ?_)
        refine lv_iload S.1 S.2.1 d_File_read_38 (lv_at hl 6 rfl) ?_
        refine lv_iload S.1 S.2.1 d_File_read_40 (lv_at hl 1 rfl) ?_
        refine lv_sipush (v := nI 448) S.1 S.2.1 d_File_read_42 (by decide) ?_
        refine lv_iadd S.1 S.2.1 d_File_read_45 ?_
        refine lv_topi (fun v62 ev62 => ?_)
        replace ev62 : v62 = nI ((448 * i) + 448) := ev62.trans (nI_add _ _)
        subst ev62
        refine gc_min S wi_284 hl.1 d_File_read_46 (by omega) (by omega) (Nat.le_of_ble_eq_true rfl) (Nat.le_of_ble_eq_true rfl) (Nat.le_of_ble_eq_true rfl) (Nat.le_of_ble_eq_true rfl) ?_
        obtain ⟨hi, hhi⟩ : ∃ z, z = min past (448 * i + 448) := ⟨_, rfl⟩
        rw [← hhi]
        refine lv_istore (lv' := [(8, .int (nI hi)), (7, .int (nI lo)), (6, .int (nI (448 * i))), (0, .ref q), (1, .int (nI fr)), (2, .int (nI most)), (3, .ref a), (4, .int (nI past)), (5, .int (nI i))]) S.1 S.2.1 d_File_read_49 hl (by decide) rfl (fun ls hl => ?_)
        refine lv_iload S.1 S.2.1 d_File_read_51 (lv_at hl 1 rfl) ?_
        refine lv_iload S.1 S.2.1 d_File_read_53 (lv_at hl 0 rfl) ?_
        refine lv_icmp_ge (tgt := 75) S.1 S.2.1 d_File_read_55 (by decide) (fun c63 => ?_) (fun c63 => ?_)
        · skip
          replace c63 : hi ≤ lo := (nI_leI (a := hi) (b := lo) (by omega) (by omega)).mp c63
          have en : min past (448 * (i + 1)) - fr = min past (448 * i) - fr := by omega
          refine lv_iinc (v := nI (i + 1)) (lv' := [(5, .int (nI (i + 1))), (8, .int (nI hi)), (7, .int (nI lo)), (6, .int (nI (448 * i))), (0, .ref q), (1, .int (nI fr)), (2, .int (nI most)), (3, .ref a), (4, .int (nI past))]) S.1 S.2.1 d_File_read_75 hl (k := 8) rfl (nI_add _ _) (by decide) rfl (fun ls hl => ?_)
          refine lv_goto (tgt := 15) S.1 S.2.1 d_File_read_78 (by decide) ?_
          exact ih (i + 1) (by omega) (by omega) fk gk gq gq3 gps (by rw [en]; exact ga) gb gf (by rw [en]; exact gc) gF _ _ hI _ (lv_sub hl [4, 5, 6, 7, 8, 0] rfl)
        · skip
          replace c63 : ¬ hi ≤ lo := fun z => c63 ((nI_leI (a := hi) (b := lo) (by omega) (by omega)).mpr z)
          have en : min past (448 * i) - fr + (hi - lo) = min past (448 * (i + 1)) - fr := by omega
          refine lv_aload_n S.1 S.2.1 d_File_read_58 rfl (lv_at hl 3 rfl) ?_
          refine lv_iload S.1 S.2.1 d_File_read_59 (lv_at hl 8 rfl) ?_
          refine lv_iload S.1 S.2.1 d_File_read_61 (lv_at hl 1 rfl) ?_
          refine lv_iload S.1 S.2.1 d_File_read_63 (lv_at hl 2 rfl) ?_
          refine lv_isub S.1 S.2.1 d_File_read_65 ?_
          refine lv_topi (fun v64 ev64 => ?_)
          replace ev64 : v64 = nI (lo - (448 * i)) := ev64.trans (pk_sub (by omega))
          subst ev64
          refine lv_iload S.1 S.2.1 d_File_read_66 (lv_at hl 0 rfl) ?_
          refine lv_iload S.1 S.2.1 d_File_read_68 (lv_at hl 1 rfl) ?_
          refine lv_isub S.1 S.2.1 d_File_read_70 ?_
          refine lv_topi (fun v65 ev65 => ?_)
          replace ev65 : v65 = nI (hi - lo) := ev65.trans (pk_sub (by omega))
          subst ev65
          refine lv_aload_n S.1 S.2.1 d_File_read_71 rfl (lv_at hl 6 rfl) ?_
          refine gc_Vv S hI (c_File_tell l P fk gq gq3 gps ga gb (s0 := i) (fr := lo - 448 * i) (k := hi - lo) (by omega) (fun hz j hj => hC0 _ (by rw [show (448 * i + j) / 448 = i by omega]; exact hz)) (by omega) (by omega) hcR gf) kv_File_tell wi_376 gq rfl rfl rfl hl.1 rfl (Nat.le_of_ble_eq_true rfl) ⟨Nat.le_of_ble_eq_true rfl, Nat.le_of_ble_eq_true rfl⟩ ⟨Nat.le_of_ble_eq_true rfl, Nat.le_of_ble_eq_true rfl⟩ d_File_read_72 (fun f67 H locs hp68 hI => ?_)
          obtain ⟨p1, ⟨g1, p2, p3, p4, p5⟩, p6⟩ := hp68
          rw [en] at p1
          have gq2 := p6 q _ gq (by simp; exact ⟨gh_ne gq ga (by intro h; simp at h), gh_ne gq gb (by intro h; cases h)⟩)
          have gq32 := p6 (q + 3) _ gq3 (by simp; exact ⟨gh_ne gq3 ga (by intro h; cases h), fun z => by rw [show a + 1 = q + 3 by omega, gq3] at gb; injection gb with gb; injection gb with gb; injection gb with _ gb; injection gb with _ gb; cases gb⟩)
          have gc2 : ∀ t, t < min past (448 * (i + 1)) - fr → ub (g1 t) = C (fr + t) := by
            intro t ht
            by_cases h1 : t < min past (448 * i) - fr
            · rw [p4 t h1]; exact gc t h1
            · have h2 := p5 (t - (min past (448 * i) - fr)) (by omega)
              rw [show min past (448 * i) - fr + (t - (min past (448 * i) - fr)) = t by omega] at h2
              rw [h2]; congr 1; omega
          refine lv_iinc (v := nI (i + 1)) (lv' := [(5, .int (nI (i + 1))), (8, .int (nI hi)), (7, .int (nI lo)), (6, .int (nI (448 * i))), (0, .ref q), (1, .int (nI fr)), (2, .int (nI most)), (3, .ref a), (4, .int (nI past))]) S.1 S.2.1 d_File_read_75 hl (k := 8) rfl (nI_add _ _) (by decide) rfl (fun ls hl => ?_)
          refine lv_goto (tgt := 15) S.1 S.2.1 d_File_read_78 (by decide) ?_
          exact ih (i + 1) (by omega) (by omega) f67 g1 gq2 gq32 (gps.frrow ga gb p6) p1 p2 p3 gc2 (gF.call p6 (fun q hq => Or.inl hq)) _ _ hI _ (lv_sub hl [4, 5, 6, 7, 8, 0] rfl)
  subst hpast
  exact loop 20 0 (by omega) (by omega) f g hq hq3 hps (by rw [show min (min len (fr + most)) (448 * 0) - fr = 0 by omega]; exact ha) hb hg (fun t ht => absurd ht (by omega)) gFr.rf _ _ hI _ (lv_sub hl [2, 3, 4, 5, 1, 0] rfl)
set_option maxHeartbeats 4000000 in
set_option maxRecDepth 100000 in
theorem c_File_cutStripe (l : Launch) (P : gPar) (f : gM) {q pl len e cap : Nat} {idv : Int32} {ps : Nat → Option Nat} {ow : gO} {ld : Nat → Bool} {C : Nat → Nat} {SP : List Nat} {s0 k : Nat} {lf : Int32} (hq : f q = some (.inr (4, [.ref pl, .ref (q + 1), .ref (q + 3), .int idv, .int (nI len)]))) (hq3 : f (q + 3) = some (.inl (P.2.1 3, 19, .inr (.inr (.inr (.inr ps)))))) (hps : gPs P f ow q ps ld C) (h : gSp P f ow pl e cap SP) (hn : SP.length ≤ 130) (hs0 : s0 < 19) (hk : (lf = nI k ∧ k < 2 ^ 31) ∨ (lf < 0 ∧ k = 0)) : gC l P y_File_cutStripe b_File_cutStripe 4 none 8 1 300 [.ref q, .int (nI s0), .int lf] f (gQv P (fun f1 => ∃ (ow1 : gO) (ps1 : Nat → Option Nat) (SP1 : List Nat) (e1 cap1 : Nat), f1 q = some (.inr (4, [.ref pl, .ref (q + 1), .ref (q + 3), .int idv, .int (nI len)])) ∧ f1 (q + 3) = some (.inl (P.2.1 3, 19, .inr (.inr (.inr (.inr ps1))))) ∧ gSp P f1 ow1 pl e1 cap1 SP1 ∧ gPs P f1 ow1 q ps1 (va_up ld s0 (ld s0 && decide (0 < k))) (ctS C s0 k) ∧ gRel q pl f ow e SP ps f1 ow1 e1 SP1 ps1 ∧ SP1.length + cntL (va_up ld s0 (ld s0 && decide (0 < k))) 19 = SP.length + cntL ld 19)) := by
  refine gC_of (by decide) (Nat.le_of_ble_eq_true rfl) (fun p env s m args below meth c S hr hlk hnm H locs hI ls hl => ?_)
  have hl : lv_has ls 4 [(0, .ref q), (1, .int (nI s0)), (2, .int lf)] := hl
  have hz0 := gB_z hI
  have h34 := gX_34 hI.1
  obtain ⟨e1, e2⟩ := hps s0 hs0
  refine lv_aload_n S.1 S.2.1 d_File_cutStripe_0 rfl (lv_at hl 0 rfl) ?_
  refine gh_get S hI hq rfl i_File 2 (by decide) wi_197 rfl d_File_cutStripe_1 ?_
  refine lv_iload_n S.1 S.2.1 d_File_cutStripe_4 rfl (lv_at hl 1 rfl) ?_
  refine gh_aald (j := s0) S hI 3 hq3 rfl rfl (by omega) (by omega) d_File_cutStripe_5 ?_
  rcases hs : ps s0 with _ | x
  · skip
    rw [show va_rf none = .null from rfl]
    refine lv_astore_nN (lv' := [(3, .null), (0, .ref q), (1, .int (nI s0)), (2, .int lf)]) S.1 S.2.1 d_File_cutStripe_6 rfl hl (by decide) rfl (fun ls hl => ?_)
    refine lv_aload_nN S.1 S.2.1 d_File_cutStripe_7 rfl (lv_at hl 0 rfl) ?_
    refine lv_ifnullN (tgt := 18) S.1 S.2.1 d_File_cutStripe_8 (by decide) ?_
    rw [hs] at e1
    have el : va_up ld s0 (ld s0 && decide (0 < k)) = ld := va_up_same (by rw [← e1]; rfl)
    refine W.widen (k := 1) (n := 300) (by omega) (by omega) ?_
    exact gr_v S hr hlk hI (⟨ow, ps, SP, e, cap, hq, hq3, h, by rw [el]; exact hps.congr (fun t _ => rfl) (fun t j ht hl hj => ctS_ne (fun z => by rw [z, ← e1] at hl; cases hl) hj), gRel.rf, by rw [el]⟩) d_File_cutStripe_18
  · skip
    rw [show va_rf (some x) = .ref x from rfl]
    refine lv_astore_n (lv' := [(3, .ref x), (0, .ref q), (1, .int (nI s0)), (2, .int lf)]) S.1 S.2.1 d_File_cutStripe_6 rfl hl (by decide) rfl (fun ls hl => ?_)
    refine lv_aload_n S.1 S.2.1 d_File_cutStripe_7 rfl (lv_at hl 0 rfl) ?_
    refine lv_ifnull S.1 S.2.1 d_File_cutStripe_8 ?_
    obtain ⟨hox, hh, hxp, hx4⟩ := e2 x hs
    rw [hs] at e1
    have hlt : ld s0 = true := e1.symm
    refine lv_iload_n S.1 S.2.1 d_File_cutStripe_11 rfl (lv_at hl 3 rfl) ?_
    refine lv_sipush (v := nI 448) S.1 S.2.1 d_File_cutStripe_12 (by decide) ?_
    refine lv_icmp_lt (tgt := 19) S.1 S.2.1 d_File_cutStripe_15 (by decide) (fun c69 => ?_) (fun c69 => ?_)
    · skip
      refine lv_iload_n S.1 S.2.1 d_File_cutStripe_19 rfl (lv_at hl 3 rfl) ?_
      refine lv_if_le (tgt := 38) S.1 S.2.1 d_File_cutStripe_20 (by decide) (fun c70 => ?_) (fun c70 => ?_)
      · skip
        have hk0 : k = 0 := by
          rcases hk with ⟨e9, h9⟩ | ⟨-, h9⟩
          · rw [e9] at c70
            have := (nI_leI (a := k) (b := 0) (by omega) (by omega)).mp c70
            omega
          · exact h9
        subst hk0
        have ed : (ld s0 && decide (0 < 0)) = false := by simp
        rw [ed]
        refine lv_aload_n S.1 S.2.1 d_File_cutStripe_38 rfl (lv_at hl 1 rfl) ?_
        refine gh_get S hI hq rfl i_File 2 (by decide) wi_197 rfl d_File_cutStripe_39 ?_
        refine lv_iload_n S.1 S.2.1 d_File_cutStripe_42 rfl (lv_at hl 2 rfl) ?_
        refine lv_null S.1 S.2.1 d_File_cutStripe_43 ?_
        refine gh_aastN (j := s0) S hI 3 hq3 rfl rfl (by omega) (by omega) d_File_cutStripe_44 (fun H locs hI => ?_)
        have hxq := hps.apart hq3 hs0 hs
        have hI : gB P (va_up f (q + 3) (some (.inl (P.2.1 3, 19, .inr (.inr (.inr (.inr (va_up ps s0 none)))))))) s H locs := hI
        obtain ⟨f71, ef71⟩ : ∃ z, z = va_up f (q + 3) (some (.inl (P.2.1 3, 19, .inr (.inr (.inr (.inr (va_up ps s0 none))))))) := ⟨_, rfl⟩
        rw [← ef71] at hI
        have h72 : f71 q = some (.inr (4, [.ref pl, .ref (q + 1), .ref (q + 3), .int idv, .int (nI len)])) := by rw [ef71, va_up_ne _ _ (by omega)]; exact hq
        have h73 : f71 pl = some (.inr (3, [.ref (pl + 1)])) := by rw [ef71, va_up_ne _ _ (gh_ne h.1 hq3 (by intro h; cases h))]; exact h.1
        have h74 : f71 x = some (.inr (2, [.ref (x + 1)])) := by rw [ef71, va_up_ne _ _ (gh_ne hxp.1 hq3 (by intro h; cases h))]; exact hxp.1
        have h75 : f71 (x + 1) = some (.inl (P.2.1 0, 448, .inl hh)) := by rw [ef71, va_up_ne _ _ ((by have h9 := hxq.2; simp at h9; omega))]; exact hxp.2.1
        have h76 : f71 (q + 3) = some (.inl (P.2.1 3, 19, .inr (.inr (.inr (.inr (va_up ps s0 none)))))) := by rw [ef71]; exact va_up_self _ _ _
        have hF1 : gFr f f71 [q + 3] := by rw [ef71]; exact gFr.upA (by simp) gFr.rf
        have h1 : gSp P f71 ow pl e cap SP := h.fr hF1 (by simp; exact gh_ne h.1 hq3 (by intro h; cases h)) (by
          obtain ⟨⟨m, h9⟩, -⟩ := h.2.1
          intro z; rw [List.mem_singleton.mp z, hq3] at h9; cases h9) (fun z => (h.2.1.npa h34 hq3 hz0) (by rw [← List.mem_singleton.mp z]; simp)) (fun y hy => h.apart hq3 hy)
        have hx1 : gPc P f71 x hh := hxp.fr hF1 hxq.1 hxq.2
        refine lv_aload_n S.1 S.2.1 d_File_cutStripe_45 rfl (lv_at hl 1 rfl) ?_
        refine gh_get S hI h72 rfl i_File 0 (by decide) wi_195 rfl d_File_cutStripe_46 ?_
        refine lv_aload_n S.1 S.2.1 d_File_cutStripe_49 rfl (lv_at hl 0 rfl) ?_
        refine gc_Vv S hI (c_Pool_giveBack l P f71 h1 hn hx1 (hps.nsp h hs0 hs)) kv_Pool_giveBack wi_328 h73 rfl rfl rfl hl.1 rfl (Nat.le_of_ble_eq_true rfl) ⟨Nat.le_of_ble_eq_true rfl, Nat.le_of_ble_eq_true rfl⟩ ⟨Nat.le_of_ble_eq_true rfl, Nat.le_of_ble_eq_true rfl⟩ d_File_cutStripe_50 (fun f78 H locs hp79 hI => ?_)
        obtain ⟨e1, cap1, p1, p2, p3, p4⟩ := hp79
        have hd := drop_step h34 hz0 hq hq3 hps h hs0 hs ef71 p1 p2 p3 p4
        exact gr_v S hr hlk hI (⟨_, _, _, e1, cap1, hd.1, hd.2.1, p1, hd.2.2⟩) d_File_cutStripe_53
      · skip
        obtain ⟨e9, h9⟩ : lf = nI k ∧ k < 2 ^ 31 := hk.resolve_right (fun h9 => c70 (Int32.le_of_lt h9.1))
        subst e9
        have k0 : ¬ k ≤ 0 := fun z => c70 ((nI_leI (a := k) (b := 0) (by omega) (by omega)).mpr z)
        have k1 : k < 448 := (nI_ltI (a := k) (b := 448) (by omega) (by omega)).mp c69
        refine lv_aload_n S.1 S.2.1 d_File_cutStripe_23 rfl (lv_at hl 0 rfl) ?_
        refine gh_getN S hI hxp.1 rfl i_Piece 0 (by decide) hI.1.2.2.1.2.1 rfl d_File_cutStripe_24 ?_
        refine lv_iload_n S.1 S.2.1 d_File_cutStripe_27 rfl (lv_at hl 3 rfl) ?_
        refine lv_sipush (v := nI 448) S.1 S.2.1 d_File_cutStripe_28 (by decide) ?_
        refine lv_iconst (v := nI 0) S.1 S.2.1 d_File_cutStripe_31 (by decide) ?_
        refine gc_Sv S hI (c_Arrs_fill l P f (lo := k) (hi := 448) (x := nI 0) hxp.2.1 (by omega) (by omega) (by omega) (by decide)) kv_Arrs_fill wi_322 rfl hl.1 rfl (Nat.le_of_ble_eq_true rfl) ⟨Nat.le_of_ble_eq_true rfl, Nat.le_of_ble_eq_true rfl⟩ ⟨Nat.le_of_ble_eq_true rfl, Nat.le_of_ble_eq_true rfl⟩ d_File_cutStripe_32 (fun f81 H locs hp82 hI => ?_)
        refine lv_goto (tgt := 53) S.1 S.2.1 d_File_cutStripe_35 (by decide) ?_
        have el : va_up ld s0 (ld s0 && decide (0 < k)) = ld := va_up_same (by rw [hlt]; simp; omega)
        have hF1 : gFr f f81 [x + 1] := by rw [hp82]; exact gFr.upA (by simp) gFr.rf
        have gps1 := hps.upd (C' := ctS C s0 k) hs0 hs (g_fil_fit hxp.2.2 (by decide)) hp82 (fun t j ht hne hj => ctS_ne hne hj) (fun j hj => ctS_fil hj (hx4 j hj))
        have gsp1 := h.upd hz0 hxp (hps.nsp h hs0 hs) hp82
        have gq1 := hF1 q _ hq (by simp; exact gh_ne hq hxp.2.1 (by intro h; cases h))
        have gq31 := hF1 (q + 3) _ hq3 (fun z => by have h8 := (hps.apart hq3 hs0 hs).2; simp at h8 z; omega)
        refine W.widen (k := 1) (n := 300) (by omega) (by omega) ?_
        exact gr_v S hr hlk hI (⟨ow, ps, SP, e, cap, gq1, gq31, gsp1, by rw [el]; exact gps1, gRel.fr hF1 (fun c hc => by rw [List.mem_singleton.mp hc]; exact ⟨Or.inr (Or.inr (Or.inr (Or.inr ⟨x, Or.inr rfl, Or.inr ⟨s0, hs0, hs⟩⟩))), by rw [hp82, va_up_self]; simp⟩), by rw [el]⟩) d_File_cutStripe_53
    · skip
      obtain ⟨e9, h9⟩ : lf = nI k ∧ k < 2 ^ 31 := hk.resolve_right (fun h9 => c69 (Int32.lt_trans h9.1 (by decide)))
      subst e9
      have k1 : 448 ≤ k := by
        rcases Nat.lt_or_ge k 448 with h8 | h8
        · exact absurd (nI_lt h8 (by omega)) c69
        · exact h8
      have el : va_up ld s0 (ld s0 && decide (0 < k)) = ld := va_up_same (by rw [hlt]; simp; omega)
      refine W.widen (k := 1) (n := 300) (by omega) (by omega) ?_
      exact gr_v S hr hlk hI (⟨ow, ps, SP, e, cap, hq, hq3, h, by rw [el]; exact hps.congr (fun t _ => rfl) (fun t j ht hl hj => ctS_hi k1), gRel.rf, by rw [el]⟩) d_File_cutStripe_18
set_option maxHeartbeats 4000000 in
set_option maxRecDepth 100000 in
theorem c_File_cut (l : Launch) (P : gPar) (f : gM) {nl q pl len e cap : Nat} {idv : Int32} {ps : Nat → Option Nat} {ow : gO} {ld : Nat → Bool} {C : Nat → Nat} {SP : List Nat} (hq : f q = some (.inr (4, [.ref pl, .ref (q + 1), .ref (q + 3), .int idv, .int (nI len)]))) (hq3 : f (q + 3) = some (.inl (P.2.1 3, 19, .inr (.inr (.inr (.inr ps)))))) (hps : gPs P f ow q ps ld C) (h : gSp P f ow pl e cap SP) (hn : SP.length + cntL ld 19 ≤ 130) (hnl : nl ≤ 8192) (hl8 : ∀ s, ld s = true → 448 * s < 8192) (hC8 : ∀ p, 8192 ≤ p → C p = 0) : gC l P y_File_cut b_File_cut 3 none 9 19 5700 [.ref q, .int (nI nl)] f (gQv P (fun f1 => ∃ (ow1 : gO) (ps1 : Nat → Option Nat) (SP1 : List Nat) (e1 cap1 : Nat), f1 q = some (.inr (4, [.ref pl, .ref (q + 1), .ref (q + 3), .int idv, .int (nI nl)])) ∧ f1 (q + 3) = some (.inl (P.2.1 3, 19, .inr (.inr (.inr (.inr ps1))))) ∧ gSp P f1 ow1 pl e1 cap1 SP1 ∧ gPs P f1 ow1 q ps1 (ctl ld nl) (ctc C nl) ∧ gRel q pl f ow e SP ps f1 ow1 e1 SP1 ps1 ∧ SP1.length + cntL (ctl ld nl) 19 = SP.length + cntL ld 19)) := by
  refine gC_of (by decide) (Nat.le_of_ble_eq_true rfl) (fun p env s m args below meth c S hr hlk hnm H locs hI ls hl => ?_)
  have hl : lv_has ls 3 [(0, .ref q), (1, .int (nI nl))] := hl
  refine lv_iconst (v := nI 0) S.1 S.2.1 d_File_cut_0 (by decide) ?_
  refine lv_istore_n (lv' := [(2, .int (nI 0)), (0, .ref q), (1, .int (nI nl))]) S.1 S.2.1 d_File_cut_1 rfl hl (by decide) rfl (fun ls hl => ?_)
  have loop : ∀ (k i : Nat), i ≤ 19 → 19 - i < k → ∀ (fk : gM) (owk : gO) (psk : Nat → Option Nat) (SPk : List Nat) (ek capk : Nat), fk q = some (.inr (4, [.ref pl, .ref (q + 1), .ref (q + 3), .int idv, .int (nI len)])) → fk (q + 3) = some (.inl (P.2.1 3, 19, .inr (.inr (.inr (.inr psk))))) → gSp P fk owk pl ek capk SPk → gPs P fk owk q psk (ctlK ld nl i) (ctcK C nl i) → gRel q pl f ow e SP ps fk owk ek SPk psk → SPk.length + cntL (ctlK ld nl i) 19 = SP.length + cntL ld 19 → ∀ (H : Heap) (locs : List Loc), gB P fk s H locs → ∀ ls : Array Slot, lv_has ls 3 [(0, .ref q), (1, .int (nI nl)), (2, .int (nI i))] → W p l env (grm 9 19 5700) s m args below meth c H locs i (300 * i) (MQ below (gQv P (fun f1 => ∃ (ow1 : gO) (ps1 : Nat → Option Nat) (SP1 : List Nat) (e1 cap1 : Nat), f1 q = some (.inr (4, [.ref pl, .ref (q + 1), .ref (q + 3), .int idv, .int (nI nl)])) ∧ f1 (q + 3) = some (.inl (P.2.1 3, 19, .inr (.inr (.inr (.inr ps1))))) ∧ gSp P f1 ow1 pl e1 cap1 SP1 ∧ gPs P f1 ow1 q ps1 (ctl ld nl) (ctc C nl) ∧ gRel q pl f ow e SP ps f1 ow1 e1 SP1 ps1 ∧ SP1.length + cntL (ctl ld nl) 19 = SP.length + cntL ld 19)) args s 19 5700 (gA P)) (F0 m 2 ls []) := by
    intro k
    induction k with
    | zero => intro i h4 h5; exact absurd h5 (by omega)
    | succ k ih =>
      intro i h4 h5 fk owk psk SPk ek capk gq gq3 gsp gps grel gct H locs hI ls hl
      refine lv_iload_n S.1 S.2.1 d_File_cut_2 rfl (lv_at hl 2 rfl) ?_
      refine lv_bipush (v := nI 19) S.1 S.2.1 d_File_cut_3 (by decide) ?_
      refine lv_icmp_ge (tgt := 26) S.1 S.2.1 d_File_cut_5 (by decide) (fun c83 => ?_) (fun c83 => ?_)
      · skip
        replace c83 : 19 ≤ i := (nI_leI (a := 19) (b := i) (by omega) (by omega)).mp c83
        have e19 : i = 19 := by omega
        subst e19
        rw [ctlK_e hl8] at gps gct
        rw [ctcK_e hC8] at gps
        refine lv_aload_n S.1 S.2.1 d_File_cut_26 rfl (lv_at hl 0 rfl) ?_
        refine lv_iload_n S.1 S.2.1 d_File_cut_27 rfl (lv_at hl 1 rfl) ?_
        refine gh_put S hI gq rfl i_File t_File tk_File n_File 4 (by decide) wi_199 rfl rfl rfl (Nat.le_of_ble_eq_true rfl) d_File_cut_28 (fun H locs hI => ?_)
        have hI : gB P (va_up fk q (some (.inr (4, [.ref pl, .ref (q + 1), .ref (q + 3), .int idv, .int (nI nl)])))) s H locs := hI
        obtain ⟨f84, ef84⟩ : ∃ z, z = va_up fk q (some (.inr (4, [.ref pl, .ref (q + 1), .ref (q + 3), .int idv, .int (nI nl)]))) := ⟨_, rfl⟩
        rw [← ef84] at hI
        have h85 : f84 (q + 3) = some (.inl (P.2.1 3, 19, .inr (.inr (.inr (.inr psk))))) := by rw [ef84, va_up_ne _ _ (by omega)]; exact gq3
        have h86 : f84 q = some (.inr (4, [.ref pl, .ref (q + 1), .ref (q + 3), .int idv, .int (nI nl)])) := by rw [ef84]; exact va_up_self _ _ _
        have hF1 : gFr fk f84 [q] := by rw [ef84]; exact gFr.upA (by simp) gFr.rf
        have hzk0 : fk P.2.2.2.1 = none := gFr_none hF1 (fun _ z => by rw [List.mem_singleton.mp z, h86]; simp) (gB_z hI)
        refine W.widen (k := 19) (n := 5700) (by omega) (by omega) ?_
        exact gr_v S hr hlk hI (⟨owk, psk, SPk, ek, capk, h86, h85, gsp.frq gq hF1 hzk0, gps.frq gq hF1, grel.trans (gRel.fr hF1 (fun c hc => by rw [List.mem_singleton.mp hc]; exact ⟨Or.inl rfl, by rw [h86]; simp⟩)), gct⟩) d_File_cut_31
      · skip
        replace c83 : ¬ 19 ≤ i := fun z => c83 ((nI_leI (a := 19) (b := i) (by omega) (by omega)).mpr z)
        refine lv_aload_n S.1 S.2.1 d_File_cut_8 rfl (lv_at hl 0 rfl) ?_
        refine lv_iload_n S.1 S.2.1 d_File_cut_9 rfl (lv_at hl 2 rfl) ?_
        refine lv_iload_n S.1 S.2.1 d_File_cut_10 rfl (lv_at hl 1 rfl) ?_
        refine lv_iload_n S.1 S.2.1 d_File_cut_11 rfl (lv_at hl 2 rfl) ?_
        refine lv_sipush (v := nI 448) S.1 S.2.1 d_File_cut_12 (by decide) ?_
        refine lv_imul S.1 S.2.1 d_File_cut_15 ?_
        refine lv_topi (fun v87 ev87 => ?_)
        replace ev87 : v87 = nI (i * 448) := ev87.trans (pk_mul _ _)
        subst ev87
        refine lv_topi (fun v88 ev88 => ?_)
        replace ev88 : v88 = nI (448 * i) := ev88.trans (by rw [Nat.mul_comm])
        subst ev88
        refine lv_isub S.1 S.2.1 d_File_cut_16 ?_
        refine lv_topi (fun lf elf => ?_)
        have hk : (lf = nI (nl - 448 * i) ∧ nl - 448 * i < 2 ^ 31) ∨ (lf < 0 ∧ nl - 448 * i = 0) := by
          rcases Nat.lt_or_ge nl (448 * i) with h8 | h8
          · exact Or.inr ⟨by rw [elf]; exact pk_sneg (by omega) h8, by omega⟩
          · exact Or.inl ⟨by rw [elf]; exact pk_sub h8, by omega⟩
        have hcl := cntL_le ld 19
        refine gc_Vv S hI (c_File_cutStripe l P fk gq gq3 gps gsp (by omega) (s0 := i) (by omega) hk) kv_File_cutStripe wi_319 gq rfl rfl rfl hl.1 rfl (Nat.le_of_ble_eq_true rfl) ⟨Nat.le_of_ble_eq_true rfl, Nat.le_of_ble_eq_true rfl⟩ ⟨by show _ ≤ 19; omega, by show _ ≤ 5700; omega⟩ d_File_cut_17 (fun f90 H locs hp91 hI => ?_)
        obtain ⟨ow1, ps1, SP1, e1, cap1, p1, p2, p3, p4, p5, p6⟩ := hp91
        rw [ctlK_s] at p4 p6
        rw [ctcK_s] at p4
        refine lv_iinc (v := nI (i + 1)) (lv' := [(2, .int (nI (i + 1))), (0, .ref q), (1, .int (nI nl))]) S.1 S.2.1 d_File_cut_20 hl (k := 2) rfl (nI_add _ _) (by decide) rfl (fun ls hl => ?_)
        refine lv_goto (tgt := 2) S.1 S.2.1 d_File_cut_23 (by decide) ?_
        refine W.widen (k := i + 1) (n := 300 * (i + 1)) (by omega) (by omega) ?_
        exact ih (i + 1) (by omega) (by omega) f90 ow1 ps1 SP1 e1 cap1 p1 p2 p3 p4 (grel.trans p5) (by omega) _ _ hI _ (lv_sub hl [1, 2, 0] rfl)
  exact loop 20 0 (by omega) (by omega) f ow ps SP e cap hq hq3 h (by rw [ctlK_0, ctcK_0]; exact hps) gRel.rf (by rw [ctlK_0]) _ _ hI _ (lv_sub hl [1, 2, 0] rfl)
end
section
/-! the shelf -/
/-- cells of another kind than those that the files' methods touch: objects but File, Piece, ArrayList; arrays of numbers whose left neighbour is such a cell, too -/
def gUk (v : va_E) : Prop := (∃ ci fs, v = .inr (ci, fs) ∧ ci ≠ 2 ∧ ci ≠ 4 ∧ ci ≠ 6) ∨ ∃ k n g, v = .inl (k, n, .inl g)
def gUo (f : gM) (U : Nat → Prop) : Prop := ∀ c, U c → ∃ v, f c = some v ∧ gUk v ∧ (((∃ x, v = .inl x) ∨ ∃ fs, v = .inr (1, fs)) → ∃ b, c = b + 1 ∧ U b)
def gFU (f f1 : gM) (U : Nat → Prop) : Prop := ∀ c v, U c → f c = some v → f1 c = some v
theorem gFU.rf {f : gM} {U : Nat → Prop} : gFU f f U := fun _ _ _ h => h
theorem gFU.trans {f f1 f2 : gM} {U : Nat → Prop} (h : gFU f f1 U) (h1 : gFU f1 f2 U) : gFU f f2 U := fun c v hc hf => h1 c v hc (h c v hc hf)
theorem gUo.to {f f1 : gM} {U : Nat → Prop} (h : gUo f U) (h1 : gFU f f1 U) : gUo f1 U := fun c hc => by
  obtain ⟨v, a1, a2, a3⟩ := h c hc
  exact ⟨v, h1 c v hc a1, a2, a3⟩
/-- an outer cell is none of a list -/
theorem gUo.li {P : gPar} {f : gM} {U : Nat → Prop} (h : gUo f U) {a e cap : Nat} {L : List Nat} (hl : gLi P f a e cap L) (hz : f P.2.2.2.1 = none) {c : Nat} (hc : U c) : c ∉ [a, e] := by
  obtain ⟨v, a1, a2, -⟩ := h c hc
  rcases a2 with ⟨ci, fs, rfl, -, -, h6⟩ | ⟨k, n, g, rfl⟩
  · exact hl.npc h6 a1 hz
  · intro z
    rcases List.mem_cons.mp z with z | z
    · obtain ⟨⟨m, h1⟩, -⟩ := hl
      rw [z, h1] at a1; cases a1
    · have z := List.mem_singleton.mp z
      rcases hl.2 with ⟨e0, -, -⟩ | ⟨-, g2, h1, -⟩
      · rw [z, e0, hz] at a1; cases a1
      · rw [z, h1] at a1; injection a1 with a1; injection a1 with a1; injection a1 with _ a1; injection a1 with _ a1; cases a1
/-- nor of a piece -/
theorem gUo.pc {P : gPar} {f : gM} {U : Nat → Prop} (h : gUo f U) {x : Nat} {hh : Nat → Int32} (hx : gPc P f x hh) {c : Nat} (hc : U c) : c ≠ x ∧ c ≠ x + 1 := by
  obtain ⟨v, a1, a2, a3⟩ := h c hc
  constructor
  · intro z
    rw [z, hx.1] at a1; injection a1 with a1
    rcases a2 with ⟨ci, fs, e, h2, -, -⟩ | ⟨k, n, g, e⟩
    · rw [← a1] at e; injection e with e; injection e with e; exact h2 e.symm
    · rw [← a1] at e; cases e
  · intro z
    have hv : ∃ y, v = .inl y := by rw [z, hx.2.1] at a1; injection a1 with a1; exact ⟨_, a1.symm⟩
    obtain ⟨b, hb, hU⟩ := a3 (Or.inl hv)
    have e : b = x := by omega
    obtain ⟨w, b1, b2, -⟩ := h b hU
    rw [e, hx.1] at b1; injection b1 with b1
    rcases b2 with ⟨ci, fs, e2, h2, -, -⟩ | ⟨k, n, g, e2⟩
    · rw [← b1] at e2; injection e2 with e2; injection e2 with e2; exact h2 e2.symm
    · rw [← b1] at e2; cases e2
/-- nor of a file -/
theorem gUo.fi {P : gPar} {f : gM} {ow : gO} {U : Nat → Prop} (h : gUo f U) {pl q : Nat} {v : AFile} (hq : gFi P f ow pl q v) {c : Nat} (hc : U c) : c ≠ q ∧ c ≠ q + 3 := by
  obtain ⟨n, g, ps, q0, q1, q2, q3, -⟩ := hq
  obtain ⟨w, a1, a2, -⟩ := h c hc
  constructor
  · intro z
    rw [z, q0] at a1; injection a1 with a1
    rcases a2 with ⟨ci, fs, e, -, h4, -⟩ | ⟨k, n, g, e⟩
    · rw [← a1] at e; injection e with e; injection e with e; exact h4 e.symm
    · rw [← a1] at e; cases e
  · intro z
    rw [z, q3] at a1; injection a1 with a1
    rcases a2 with ⟨ci, fs, e, -, h4, -⟩ | ⟨k, n, g, e⟩
    · rw [← a1] at e; cases e
    · rw [← a1] at e; injection e with e; injection e with _ e; injection e with _ e; cases e
/-- a title is no outer cell -/
theorem gUo.nt {f : gM} {U : Nat → Prop} (h : gUo f U) {x : Nat} {fs gs : List Value} (hx0 : f x = some (.inr (4, fs))) (hx1 : f (x + 1) = some (.inr (1, gs))) : ¬ U (x + 1) := fun hc => by
  obtain ⟨v, a1, a2, a3⟩ := h _ hc
  rw [hx1] at a1; injection a1 with a1
  obtain ⟨b, hb, hU⟩ := a3 (Or.inr ⟨_, a1.symm⟩)
  obtain ⟨w, b1, b2, -⟩ := h b hU
  rw [show b = x by omega, hx0] at b1; injection b1 with b1
  rcases b2 with ⟨ci, gs, e, -, h4, -⟩ | ⟨k, n, g, e⟩
  · rw [← b1] at e; injection e with e; injection e with e; exact h4 e.symm
  · rw [← b1] at e; cases e
/-- the shelf sh: ordered sh + 1, spare sh + 2, pool sh + 3 with its list sh + 4 -/
def gSh (P : gPar) (f : gM) (ow : gO) (sh : Nat) (L SF SP : List Nat) (e1 c1 e2 c2 e3 c3 : Nat) (af : Nat → AFile) : Prop :=
  f sh = some (.inr (5, [.ref (sh + 1), .ref (sh + 2), .ref (sh + 3)])) ∧ gLi P f (sh + 1) e1 c1 L ∧ gLi P f (sh + 2) e2 c2 SF ∧ gSp P f ow (sh + 3) e3 c3 SP ∧ (c1 ≤ 200 ∧ c2 ≤ 200) ∧
  (∀ q ∈ L, gFi P f ow (sh + 3) q (af q) ∧ wfF (af q).2.2.1 (af q).2.2.2.1 (af q).2.2.2.2) ∧ (∀ q ∈ SF, ∃ v, gFi P f ow (sh + 3) q v ∧ v.2.2.1 = 0 ∧ (∀ s, v.2.2.2.1 s = false) ∧ ∀ p, v.2.2.2.2 p = 0) ∧
  (L ++ SF).Nodup ∧ L.length + SF.length ≤ 48 ∧ ((e1 = e2 → e1 = P.2.2.2.1) ∧ (e1 = e3 → e1 = P.2.2.2.1) ∧ (e2 = e3 → e2 = P.2.2.2.1))
theorem gSh.el {P : gPar} {f : gM} {ow : gO} {sh : Nat} {L SF SP : List Nat} {e1 c1 e2 c2 e3 c3 : Nat} {af : Nat → AFile} (h : gSh P f ow sh L SF SP e1 c1 e2 c2 e3 c3 af) : gEl 4 f L := ⟨Or.inl rfl, fun q hq => by
  obtain ⟨⟨n, g, ps, q0, -⟩, -⟩ := h.2.2.2.2.2.1 q hq
  exact ⟨_, q0⟩⟩
theorem gSh.elS {P : gPar} {f : gM} {ow : gO} {sh : Nat} {L SF SP : List Nat} {e1 c1 e2 c2 e3 c3 : Nat} {af : Nat → AFile} (h : gSh P f ow sh L SF SP e1 c1 e2 c2 e3 c3 af) : gEl 4 f SF := ⟨Or.inl rfl, fun q hq => by
  obtain ⟨v, ⟨n, g, ps, q0, -⟩, -⟩ := h.2.2.2.2.2.2.1 q hq
  exact ⟨_, q0⟩⟩
/-- Boolean: before -/
def nltb : List Nat → List Nat → Bool
  | [], [] => false
  | [], _ :: _ => true
  | _ :: _, [] => false
  | a :: as, b :: bs => decide (a < b) || (decide (a = b) && nltb as bs)
theorem nltb_iff : ∀ {a b : List Nat}, nltb a b = true ↔ nlt a b
  | [], [] => by simp [nltb, nlt]
  | [], _ :: _ => by simp [nltb, nlt]
  | _ :: _, [] => by simp [nltb, nlt]
  | a :: as, b :: bs => by simp [nltb, nlt, nltb_iff (a := as) (b := bs)]
/-- how many at the beginning stand before nm -/
def plc : List (List Nat) → List Nat → Nat
  | [], _ => 0
  | x :: xs, nm => if nltb x nm = true then plc xs nm + 1 else 0
theorem plc_le : ∀ (l : List (List Nat)) (nm : List Nat), plc l nm ≤ l.length
  | [], _ => Nat.le_refl _
  | x :: xs, nm => by
    unfold plc
    have := plc_le xs nm
    by_cases h : nltb x nm = true
    · rw [if_pos h, List.length_cons]; omega
    · rw [if_neg h]; omega
/-- what a search from the left finds -/
theorem plc_eq : ∀ {l : List (List Nat)} {nm : List Nat} {k : Nat}, k ≤ l.length → (∀ i x, i < k → l[i]? = some x → nlt x nm) → (∀ x, l[k]? = some x → ¬ nlt x nm) → plc l nm = k
  | [], nm, k, h, _, _ => by simp at h; subst h; rfl
  | x :: xs, nm, 0, _, _, h => by
    unfold plc
    rw [if_neg (fun z => h x rfl (nltb_iff.mp z))]
  | x :: xs, nm, k + 1, hk, h1, h2 => by
    unfold plc
    rw [if_pos (nltb_iff.mpr (h1 0 x (by omega) rfl)), plc_eq (k := k) (by simpa using hk) (fun i y hi hy => h1 (i + 1) y (by omega) hy) (fun y hy => h2 y hy)]
def idx (l : List (List Nat)) (nm : List Nat) : Option Nat := if l[plc l nm]? = some nm then some (plc l nm) else none
/-- the names on the shelf -/
def nms (af : Nat → AFile) (L : List Nat) : List (List Nat) := L.map (fun q => (af q).1)
theorem nms_get {af : Nat → AFile} {L : List Nat} {i : Nat} : (nms af L)[i]? = (L[i]?).map (fun q => (af q).1) := by simp [nms]
def sumB (af : Nat → AFile) (L : List Nat) : Nat := (L.map (fun q => (af q).2.2.1)).sum
def sumC (af : Nat → AFile) (L : List Nat) : Nat := (L.map (fun q => cntL (af q).2.2.2.1 19)).sum
theorem sum_take_s {α : Type} (F : α → Nat) {L : List α} {i : Nat} {q : α} (h : L[i]? = some q) : ((L.take (i + 1)).map F).sum = ((L.take i).map F).sum + F q := by
  rw [List.take_add_one, h]
  simp
theorem sum_le {α : Type} (F : α → Nat) (B : Nat) : ∀ {L : List α}, (∀ q ∈ L, F q ≤ B) → (L.map F).sum ≤ B * L.length
  | [], _ => by simp
  | a :: l, h => by
    have h1 := sum_le F B (L := l) (fun q hq => h q (by simp [hq]))
    have h2 := h a (by simp)
    simp only [List.map_cons, List.sum_cons, List.length_cons, Nat.mul_add, Nat.mul_one]
    omega
end
section
set_option maxHeartbeats 4000000 in
set_option maxRecDepth 100000 in
theorem c_Shelf_size (l : Launch) (P : gPar) (f : gM) {sh e1 c1 e2 c2 e3 c3 : Nat} {L SF SP : List Nat} {ow : gO} {af : Nat → AFile} (h : gSh P f ow sh L SF SP e1 c1 e2 c2 e3 c3 af) : gC l P y_Shelf_size b_Shelf_size 1 (some .int) 1 0 0 [.ref sh] f (gQi P (fun r f1 => r = nI L.length ∧ f1 = f)) := by
  refine gC_of (by decide) (Nat.le_of_ble_eq_true rfl) (fun p env s m args below meth c S hr hlk hnm H locs hI ls hl => ?_)
  have hl : lv_has ls 1 [(0, .ref sh)] := hl
  have hlL : L.length ≤ 48 := by have := h.2.2.2.2.2.2.2.2.1; omega
  have hl1 := h.2.1
  obtain ⟨m1, hal1⟩ := hl1.1
  have hcc : c1 < 2 ^ 20 := by have := h.2.2.2.2.1.1; omega
  refine lv_aload_n S.1 S.2.1 d_Shelf_size_0 rfl (lv_at hl 0 rfl) ?_
  refine gh_get S hI h.1 rfl i_Shelf 0 (by decide) wi_67 rfl d_Shelf_size_1 ?_
  refine gc_Vi S hI (c_AL_size l P f hl1) kv_AL_size wi_138 hal1 rfl rfl rfl hl.1 rfl (Nat.le_of_ble_eq_true rfl) ⟨Nat.le_of_ble_eq_true rfl, Nat.le_of_ble_eq_true rfl⟩ ⟨Nat.le_of_ble_eq_true rfl, Nat.le_of_ble_eq_true rfl⟩ d_Shelf_size_4 (fun r17 f18 H locs hp19 hI => ?_)
  obtain ⟨hp1, hp2⟩ := hp19
  subst hp1
  rw [hp2] at hI
  exact gr_i S hr hlk hI (⟨rfl, rfl⟩) d_Shelf_size_7
set_option maxHeartbeats 4000000 in
set_option maxRecDepth 100000 in
theorem c_Shelf_isFull (l : Launch) (P : gPar) (f : gM) {sh e1 c1 e2 c2 e3 c3 : Nat} {L SF SP : List Nat} {ow : gO} {af : Nat → AFile} (h : gSh P f ow sh L SF SP e1 c1 e2 c2 e3 c3 af) : gC l P y_Shelf_isFull b_Shelf_isFull 1 (some .boolean) 1 0 0 [.ref sh] f (gQi P (fun r f1 => r = (if 48 ≤ L.length then nI 1 else nI 0) ∧ f1 = f)) := by
  refine gC_of (by decide) (Nat.le_of_ble_eq_true rfl) (fun p env s m args below meth c S hr hlk hnm H locs hI ls hl => ?_)
  have hl : lv_has ls 1 [(0, .ref sh)] := hl
  have hlL : L.length ≤ 48 := by have := h.2.2.2.2.2.2.2.2.1; omega
  have hl1 := h.2.1
  obtain ⟨m1, hal1⟩ := hl1.1
  have hcc : c1 < 2 ^ 20 := by have := h.2.2.2.2.1.1; omega
  refine lv_aload_n S.1 S.2.1 d_Shelf_isFull_0 rfl (lv_at hl 0 rfl) ?_
  refine gh_get S hI h.1 rfl i_Shelf 0 (by decide) wi_67 rfl d_Shelf_isFull_1 ?_
  refine gc_Vi S hI (c_AL_size l P f hl1) kv_AL_size wi_138 hal1 rfl rfl rfl hl.1 rfl (Nat.le_of_ble_eq_true rfl) ⟨Nat.le_of_ble_eq_true rfl, Nat.le_of_ble_eq_true rfl⟩ ⟨Nat.le_of_ble_eq_true rfl, Nat.le_of_ble_eq_true rfl⟩ d_Shelf_isFull_4 (fun r20 f21 H locs hp22 hI => ?_)
  obtain ⟨hp1, hp2⟩ := hp22
  subst hp1
  rw [hp2] at hI
  refine lv_bipush (v := nI 48) S.1 S.2.1 d_Shelf_isFull_7 (by decide) ?_
  refine lv_icmp_lt (tgt := 16) S.1 S.2.1 d_Shelf_isFull_9 (by decide) (fun c23 => ?_) (fun c23 => ?_)
  · skip
    replace c23 : L.length < 48 := (nI_ltI (a := L.length) (b := 48) (by omega) (by omega)).mp c23
    refine lv_iconst (v := nI 0) S.1 S.2.1 d_Shelf_isFull_16 (by decide) ?_
    exact gr_z S hr hlk hI (by first | exact Or.inl rfl | exact Or.inr rfl) (⟨(if_neg (by omega)).symm, rfl⟩) d_Shelf_isFull_17
  · skip
    replace c23 : ¬ L.length < 48 := fun z => c23 ((nI_ltI (a := L.length) (b := 48) (by omega) (by omega)).mpr z)
    refine lv_iconst (v := nI 1) S.1 S.2.1 d_Shelf_isFull_12 (by decide) ?_
    refine lv_goto (tgt := 17) S.1 S.2.1 d_Shelf_isFull_13 (by decide) ?_
    exact gr_z S hr hlk hI (by first | exact Or.inl rfl | exact Or.inr rfl) (⟨(if_pos (by omega)).symm, rfl⟩) d_Shelf_isFull_17
set_option maxHeartbeats 4000000 in
set_option maxRecDepth 100000 in
theorem c_Shelf_allBytes (l : Launch) (P : gPar) (f : gM) {sh e1 c1 e2 c2 e3 c3 : Nat} {L SF SP : List Nat} {ow : gO} {af : Nat → AFile} (h : gSh P f ow sh L SF SP e1 c1 e2 c2 e3 c3 af) : gC l P y_Shelf_allBytes b_Shelf_allBytes 3 (some .int) 3 0 0 [.ref sh] f (gQi P (fun r f1 => r = nI (sumB af L) ∧ f1 = f)) := by
  refine gC_of (by decide) (Nat.le_of_ble_eq_true rfl) (fun p env s m args below meth c S hr hlk hnm H locs hI ls hl => ?_)
  have hl : lv_has ls 3 [(0, .ref sh)] := hl
  have hlL : L.length ≤ 48 := by have := h.2.2.2.2.2.2.2.2.1; omega
  have hl1 := h.2.1
  obtain ⟨m1, hal1⟩ := hl1.1
  have hcc : c1 < 2 ^ 20 := by have := h.2.2.2.2.1.1; omega
  refine lv_iconst (v := nI 0) S.1 S.2.1 d_Shelf_allBytes_0 (by decide) ?_
  refine lv_istore_n (lv' := [(1, .int (nI 0)), (0, .ref sh)]) S.1 S.2.1 d_Shelf_allBytes_1 rfl hl (by decide) rfl (fun ls hl => ?_)
  refine lv_iconst (v := nI 0) S.1 S.2.1 d_Shelf_allBytes_2 (by decide) ?_
  refine lv_istore_n (lv' := [(2, .int (nI 0)), (1, .int (nI 0)), (0, .ref sh)]) S.1 S.2.1 d_Shelf_allBytes_3 rfl hl (by decide) rfl (fun ls hl => ?_)
  have loop : ∀ (k i : Nat), i ≤ L.length → L.length - i < k → ∀ (H : Heap) (locs : List Loc), gB P f s H locs → ∀ ls : Array Slot, lv_has ls 3 [(0, .ref sh), (1, .int (nI (((L.take i).map (fun q => (af q).2.2.1)).sum))), (2, .int (nI i))] → W p l env (grm 3 0 0) s m args below meth c H locs 0 0 (MQ below (gQi P (fun r f1 => r = nI (sumB af L) ∧ f1 = f)) args s 0 0 (gA P)) (F0 m 4 ls []) := by
    intro k
    induction k with
    | zero => intro i h4 h5; exact absurd h5 (by omega)
    | succ k ih =>
      intro i h4 h5 H locs hI ls hl
      refine lv_iload_n S.1 S.2.1 d_Shelf_allBytes_4 rfl (lv_at hl 2 rfl) ?_
      refine lv_aload_n S.1 S.2.1 d_Shelf_allBytes_5 rfl (lv_at hl 0 rfl) ?_
      refine gh_get S hI h.1 rfl i_Shelf 0 (by decide) wi_67 rfl d_Shelf_allBytes_6 ?_
      refine gc_Vi S hI (c_AL_size l P f hl1) kv_AL_size wi_138 hal1 rfl rfl rfl hl.1 rfl (Nat.le_of_ble_eq_true rfl) ⟨Nat.le_of_ble_eq_true rfl, Nat.le_of_ble_eq_true rfl⟩ ⟨Nat.le_of_ble_eq_true rfl, Nat.le_of_ble_eq_true rfl⟩ d_Shelf_allBytes_9 (fun r24 f25 H locs hp26 hI => ?_)
      obtain ⟨hp1, hp2⟩ := hp26
      subst hp1
      rw [hp2] at hI
      refine lv_icmp_ge (tgt := 38) S.1 S.2.1 d_Shelf_allBytes_12 (by decide) (fun c27 => ?_) (fun c27 => ?_)
      · skip
        replace c27 : L.length ≤ i := (nI_leI (a := L.length) (b := i) (by omega) (by omega)).mp c27
        refine lv_iload_n S.1 S.2.1 d_Shelf_allBytes_38 rfl (lv_at hl 1 rfl) ?_
        exact gr_i S hr hlk hI (⟨by rw [List.take_of_length_le (by omega)]; rfl, rfl⟩) d_Shelf_allBytes_39
      · skip
        replace c27 : ¬ L.length ≤ i := fun z => c27 ((nI_leI (a := L.length) (b := i) (by omega) (by omega)).mpr z)
        refine lv_iload_n S.1 S.2.1 d_Shelf_allBytes_15 rfl (lv_at hl 1 rfl) ?_
        refine lv_aload_n S.1 S.2.1 d_Shelf_allBytes_16 rfl (lv_at hl 0 rfl) ?_
        refine gh_get S hI h.1 rfl i_Shelf 0 (by decide) wi_67 rfl d_Shelf_allBytes_17 ?_
        refine lv_iload_n S.1 S.2.1 d_Shelf_allBytes_20 rfl (lv_at hl 2 rfl) ?_
        refine gc_Vr S hI (c_AL_get l P f hl1 (i := i) (by omega) hcc) kv_AL_get wi_142 hal1 rfl rfl rfl hl.1 rfl (Nat.le_of_ble_eq_true rfl) ⟨Nat.le_of_ble_eq_true rfl, Nat.le_of_ble_eq_true rfl⟩ ⟨Nat.le_of_ble_eq_true rfl, Nat.le_of_ble_eq_true rfl⟩ d_Shelf_allBytes_21 (fun r28 f29 H locs hg0 hI => ?_)
        obtain ⟨hg1, hg2⟩ := hg0
        rw [hg2] at hI
        have hxL := List.mem_of_getElem? hg1
        obtain ⟨⟨nx, gx, psx, x0, x1, x2, x3, x4, x5, x6, x7⟩, xw⟩ := h.2.2.2.2.2.1 r28 hxL
        refine gh_cast (q := (R_File, F_File, 5)) S hI rfl x0 wi_156 d_Shelf_allBytes_24 ?_
        refine gc_Vi S hI (c_File_length l P f x0) kv_File_length wi_276 x0 rfl rfl rfl hl.1 rfl (Nat.le_of_ble_eq_true rfl) ⟨Nat.le_of_ble_eq_true rfl, Nat.le_of_ble_eq_true rfl⟩ ⟨Nat.le_of_ble_eq_true rfl, Nat.le_of_ble_eq_true rfl⟩ d_Shelf_allBytes_27 (fun r30 f31 H locs hp32 hI => ?_)
        obtain ⟨hp1, hp2⟩ := hp32
        subst hp1
        rw [hp2] at hI
        refine lv_iadd S.1 S.2.1 d_Shelf_allBytes_30 ?_
        refine lv_topi (fun v33 ev33 => ?_)
        replace ev33 : v33 = nI ((((L.take i).map (fun q => (af q).2.2.1)).sum) + ((af r28).2.2.1)) := ev33.trans (nI_add _ _)
        subst ev33
        refine lv_topi (fun v34 ev34 => ?_)
        replace ev34 : v34 = nI ((L.take (i + 1)).map (fun q => (af q).2.2.1)).sum := ev34.trans (by rw [sum_take_s (fun q => (af q).2.2.1) hg1])
        subst ev34
        refine lv_istore_n (lv' := [(1, .int (nI ((L.take (i + 1)).map (fun q => (af q).2.2.1)).sum)), (0, .ref sh), (2, .int (nI i))]) S.1 S.2.1 d_Shelf_allBytes_31 rfl hl (by decide) rfl (fun ls hl => ?_)
        refine lv_iinc (v := nI (i + 1)) (lv' := [(2, .int (nI (i + 1))), (1, .int (nI ((L.take (i + 1)).map (fun q => (af q).2.2.1)).sum)), (0, .ref sh)]) S.1 S.2.1 d_Shelf_allBytes_32 hl (k := 2) rfl (nI_add _ _) (by decide) rfl (fun ls hl => ?_)
        refine lv_goto (tgt := 4) S.1 S.2.1 d_Shelf_allBytes_35 (by decide) ?_
        exact ih (i + 1) (by omega) (by omega) _ _ hI _ (lv_sub hl [2, 1, 0] rfl)
  exact loop (L.length + 1) 0 (by omega) (by omega) _ _ hI _ (lv_sub hl [2, 1, 0] rfl)
set_option maxHeartbeats 4000000 in
set_option maxRecDepth 100000 in
theorem c_Shelf_laidStripes (l : Launch) (P : gPar) (f : gM) {sh e1 c1 e2 c2 e3 c3 : Nat} {L SF SP : List Nat} {ow : gO} {af : Nat → AFile} (h : gSh P f ow sh L SF SP e1 c1 e2 c2 e3 c3 af) : gC l P y_Shelf_laidStripes b_Shelf_laidStripes 3 (some .int) 3 0 0 [.ref sh] f (gQi P (fun r f1 => r = nI (sumC af L) ∧ f1 = f)) := by
  refine gC_of (by decide) (Nat.le_of_ble_eq_true rfl) (fun p env s m args below meth c S hr hlk hnm H locs hI ls hl => ?_)
  have hl : lv_has ls 3 [(0, .ref sh)] := hl
  have hlL : L.length ≤ 48 := by have := h.2.2.2.2.2.2.2.2.1; omega
  have hl1 := h.2.1
  obtain ⟨m1, hal1⟩ := hl1.1
  have hcc : c1 < 2 ^ 20 := by have := h.2.2.2.2.1.1; omega
  refine lv_iconst (v := nI 0) S.1 S.2.1 d_Shelf_laidStripes_0 (by decide) ?_
  refine lv_istore_n (lv' := [(1, .int (nI 0)), (0, .ref sh)]) S.1 S.2.1 d_Shelf_laidStripes_1 rfl hl (by decide) rfl (fun ls hl => ?_)
  refine lv_iconst (v := nI 0) S.1 S.2.1 d_Shelf_laidStripes_2 (by decide) ?_
  refine lv_istore_n (lv' := [(2, .int (nI 0)), (1, .int (nI 0)), (0, .ref sh)]) S.1 S.2.1 d_Shelf_laidStripes_3 rfl hl (by decide) rfl (fun ls hl => ?_)
  have loop : ∀ (k i : Nat), i ≤ L.length → L.length - i < k → ∀ (H : Heap) (locs : List Loc), gB P f s H locs → ∀ ls : Array Slot, lv_has ls 3 [(0, .ref sh), (1, .int (nI (((L.take i).map (fun q => cntL (af q).2.2.2.1 19)).sum))), (2, .int (nI i))] → W p l env (grm 3 0 0) s m args below meth c H locs 0 0 (MQ below (gQi P (fun r f1 => r = nI (sumC af L) ∧ f1 = f)) args s 0 0 (gA P)) (F0 m 4 ls []) := by
    intro k
    induction k with
    | zero => intro i h4 h5; exact absurd h5 (by omega)
    | succ k ih =>
      intro i h4 h5 H locs hI ls hl
      refine lv_iload_n S.1 S.2.1 d_Shelf_laidStripes_4 rfl (lv_at hl 2 rfl) ?_
      refine lv_aload_n S.1 S.2.1 d_Shelf_laidStripes_5 rfl (lv_at hl 0 rfl) ?_
      refine gh_get S hI h.1 rfl i_Shelf 0 (by decide) wi_67 rfl d_Shelf_laidStripes_6 ?_
      refine gc_Vi S hI (c_AL_size l P f hl1) kv_AL_size wi_138 hal1 rfl rfl rfl hl.1 rfl (Nat.le_of_ble_eq_true rfl) ⟨Nat.le_of_ble_eq_true rfl, Nat.le_of_ble_eq_true rfl⟩ ⟨Nat.le_of_ble_eq_true rfl, Nat.le_of_ble_eq_true rfl⟩ d_Shelf_laidStripes_9 (fun r35 f36 H locs hp37 hI => ?_)
      obtain ⟨hp1, hp2⟩ := hp37
      subst hp1
      rw [hp2] at hI
      refine lv_icmp_ge (tgt := 38) S.1 S.2.1 d_Shelf_laidStripes_12 (by decide) (fun c38 => ?_) (fun c38 => ?_)
      · skip
        replace c38 : L.length ≤ i := (nI_leI (a := L.length) (b := i) (by omega) (by omega)).mp c38
        refine lv_iload_n S.1 S.2.1 d_Shelf_laidStripes_38 rfl (lv_at hl 1 rfl) ?_
        exact gr_i S hr hlk hI (⟨by rw [List.take_of_length_le (by omega)]; rfl, rfl⟩) d_Shelf_laidStripes_39
      · skip
        replace c38 : ¬ L.length ≤ i := fun z => c38 ((nI_leI (a := L.length) (b := i) (by omega) (by omega)).mpr z)
        refine lv_iload_n S.1 S.2.1 d_Shelf_laidStripes_15 rfl (lv_at hl 1 rfl) ?_
        refine lv_aload_n S.1 S.2.1 d_Shelf_laidStripes_16 rfl (lv_at hl 0 rfl) ?_
        refine gh_get S hI h.1 rfl i_Shelf 0 (by decide) wi_67 rfl d_Shelf_laidStripes_17 ?_
        refine lv_iload_n S.1 S.2.1 d_Shelf_laidStripes_20 rfl (lv_at hl 2 rfl) ?_
        refine gc_Vr S hI (c_AL_get l P f hl1 (i := i) (by omega) hcc) kv_AL_get wi_142 hal1 rfl rfl rfl hl.1 rfl (Nat.le_of_ble_eq_true rfl) ⟨Nat.le_of_ble_eq_true rfl, Nat.le_of_ble_eq_true rfl⟩ ⟨Nat.le_of_ble_eq_true rfl, Nat.le_of_ble_eq_true rfl⟩ d_Shelf_laidStripes_21 (fun r39 f40 H locs hg0 hI => ?_)
        obtain ⟨hg1, hg2⟩ := hg0
        rw [hg2] at hI
        have hxL := List.mem_of_getElem? hg1
        obtain ⟨⟨nx, gx, psx, x0, x1, x2, x3, x4, x5, x6, x7⟩, xw⟩ := h.2.2.2.2.2.1 r39 hxL
        refine gh_cast (q := (R_File, F_File, 5)) S hI rfl x0 wi_156 d_Shelf_laidStripes_24 ?_
        refine gc_Vi S hI (c_File_laidStripes l P f x0 x3 x7) kv_File_laidStripes wi_427 x0 rfl rfl rfl hl.1 rfl (Nat.le_of_ble_eq_true rfl) ⟨Nat.le_of_ble_eq_true rfl, Nat.le_of_ble_eq_true rfl⟩ ⟨Nat.le_of_ble_eq_true rfl, Nat.le_of_ble_eq_true rfl⟩ d_Shelf_laidStripes_27 (fun r41 f42 H locs hp43 hI => ?_)
        obtain ⟨hp1, hp2⟩ := hp43
        subst hp1
        rw [hp2] at hI
        refine lv_iadd S.1 S.2.1 d_Shelf_laidStripes_30 ?_
        refine lv_topi (fun v44 ev44 => ?_)
        replace ev44 : v44 = nI ((((L.take i).map (fun q => cntL (af q).2.2.2.1 19)).sum) + (cntL (af r39).2.2.2.1 19)) := ev44.trans (nI_add _ _)
        subst ev44
        refine lv_topi (fun v45 ev45 => ?_)
        replace ev45 : v45 = nI ((L.take (i + 1)).map (fun q => cntL (af q).2.2.2.1 19)).sum := ev45.trans (by rw [sum_take_s (fun q => cntL (af q).2.2.2.1 19) hg1])
        subst ev45
        refine lv_istore_n (lv' := [(1, .int (nI ((L.take (i + 1)).map (fun q => cntL (af q).2.2.2.1 19)).sum)), (0, .ref sh), (2, .int (nI i))]) S.1 S.2.1 d_Shelf_laidStripes_31 rfl hl (by decide) rfl (fun ls hl => ?_)
        refine lv_iinc (v := nI (i + 1)) (lv' := [(2, .int (nI (i + 1))), (1, .int (nI ((L.take (i + 1)).map (fun q => cntL (af q).2.2.2.1 19)).sum)), (0, .ref sh)]) S.1 S.2.1 d_Shelf_laidStripes_32 hl (k := 2) rfl (nI_add _ _) (by decide) rfl (fun ls hl => ?_)
        refine lv_goto (tgt := 4) S.1 S.2.1 d_Shelf_laidStripes_35 (by decide) ?_
        exact ih (i + 1) (by omega) (by omega) _ _ hI _ (lv_sub hl [2, 1, 0] rfl)
  exact loop (L.length + 1) 0 (by omega) (by omega) _ _ hI _ (lv_sub hl [2, 1, 0] rfl)
set_option maxHeartbeats 4000000 in
set_option maxRecDepth 100000 in
theorem c_Shelf_hasRoom (l : Launch) (P : gPar) (f : gM) {sh e1 c1 e2 c2 e3 c3 : Nat} {L SF SP : List Nat} {ow : gO} {af : Nat → AFile} {bf at_ : Nat} (h : gSh P f ow sh L SF SP e1 c1 e2 c2 e3 c3 af) (hb : bf ≤ sumB af L) (ha : at_ < 2 ^ 20) : gC l P y_Shelf_hasRoom b_Shelf_hasRoom 3 (some .boolean) 4 0 0 [.ref sh, .int (nI bf), .int (nI at_)] f (gQi P (fun r f1 => r = (if at_ ≤ 8192 ∧ sumB af L - bf + at_ ≤ 32768 then nI 1 else nI 0) ∧ f1 = f)) := by
  refine gC_of (by decide) (Nat.le_of_ble_eq_true rfl) (fun p env s m args below meth c S hr hlk hnm H locs hI ls hl => ?_)
  have hl : lv_has ls 3 [(0, .ref sh), (1, .int (nI bf)), (2, .int (nI at_))] := hl
  have hlL : L.length ≤ 48 := by have := h.2.2.2.2.2.2.2.2.1; omega
  have hl1 := h.2.1
  obtain ⟨m1, hal1⟩ := hl1.1
  have hcc : c1 < 2 ^ 20 := by have := h.2.2.2.2.1.1; omega
  have hsb : sumB af L ≤ 8192 * L.length := sum_le _ 8192 (fun q hq => (h.2.2.2.2.2.1 q hq).2.1)
  refine lv_iload_n S.1 S.2.1 d_Shelf_hasRoom_0 rfl (lv_at hl 2 rfl) ?_
  refine lv_sipush (v := nI 8192) S.1 S.2.1 d_Shelf_hasRoom_1 (by decide) ?_
  refine lv_icmp_gt (tgt := 24) S.1 S.2.1 d_Shelf_hasRoom_4 (by decide) (fun c46 => ?_) (fun c46 => ?_)
  · skip
    replace c46 : 8192 < at_ := (nI_ltI (a := 8192) (b := at_) (by omega) (by omega)).mp c46
    refine lv_iconst (v := nI 0) S.1 S.2.1 d_Shelf_hasRoom_24 (by decide) ?_
    exact gr_z S hr hlk hI (by first | exact Or.inl rfl | exact Or.inr rfl) (⟨(if_neg (by omega)).symm, rfl⟩) d_Shelf_hasRoom_25
  · skip
    replace c46 : ¬ 8192 < at_ := fun z => c46 ((nI_ltI (a := 8192) (b := at_) (by omega) (by omega)).mpr z)
    refine lv_aload_n S.1 S.2.1 d_Shelf_hasRoom_7 rfl (lv_at hl 0 rfl) ?_
    refine gc_Vi S hI (c_Shelf_allBytes l P f h) kv_Shelf_allBytes wi_272 h.1 rfl rfl rfl hl.1 rfl (Nat.le_of_ble_eq_true rfl) ⟨Nat.le_of_ble_eq_true rfl, Nat.le_of_ble_eq_true rfl⟩ ⟨Nat.le_of_ble_eq_true rfl, Nat.le_of_ble_eq_true rfl⟩ d_Shelf_hasRoom_8 (fun r47 f48 H locs hp49 hI => ?_)
    obtain ⟨hp1, hp2⟩ := hp49
    subst hp1
    rw [hp2] at hI
    refine lv_iload_n S.1 S.2.1 d_Shelf_hasRoom_11 rfl (lv_at hl 1 rfl) ?_
    refine lv_isub S.1 S.2.1 d_Shelf_hasRoom_12 ?_
    refine lv_topi (fun v50 ev50 => ?_)
    replace ev50 : v50 = nI ((sumB af L) - bf) := ev50.trans (pk_sub (by omega))
    subst ev50
    refine lv_iload_n S.1 S.2.1 d_Shelf_hasRoom_13 rfl (lv_at hl 2 rfl) ?_
    refine lv_iadd S.1 S.2.1 d_Shelf_hasRoom_14 ?_
    refine lv_topi (fun v51 ev51 => ?_)
    replace ev51 : v51 = nI (((sumB af L) - bf) + at_) := ev51.trans (nI_add _ _)
    subst ev51
    refine lv_ldc (v := nI 32768) S.1 S.2.1 S.2.2.2.1 (S.2.2.2.2 _ wi_277) d_Shelf_hasRoom_15 ?_
    refine lv_icmp_gt (tgt := 24) S.1 S.2.1 d_Shelf_hasRoom_17 (by decide) (fun c52 => ?_) (fun c52 => ?_)
    · skip
      replace c52 : 32768 < (((sumB af L) - bf) + at_) := (nI_ltI (a := 32768) (b := ((sumB af L) - bf) + at_) (by omega) (by omega)).mp c52
      refine lv_iconst (v := nI 0) S.1 S.2.1 d_Shelf_hasRoom_24 (by decide) ?_
      exact gr_z S hr hlk hI (by first | exact Or.inl rfl | exact Or.inr rfl) (⟨(if_neg (by omega)).symm, rfl⟩) d_Shelf_hasRoom_25
    · skip
      replace c52 : ¬ 32768 < (((sumB af L) - bf) + at_) := fun z => c52 ((nI_ltI (a := 32768) (b := ((sumB af L) - bf) + at_) (by omega) (by omega)).mpr z)
      refine lv_iconst (v := nI 1) S.1 S.2.1 d_Shelf_hasRoom_20 (by decide) ?_
      refine lv_goto (tgt := 25) S.1 S.2.1 d_Shelf_hasRoom_21 (by decide) ?_
      exact gr_z S hr hlk hI (by first | exact Or.inl rfl | exact Or.inr rfl) (⟨(if_pos ⟨by omega, by omega⟩).symm, rfl⟩) d_Shelf_hasRoom_25
def fAt (L : List Nat) (k : Int32) : Option Nat := if ¬ k < 0 ∧ k < nI L.length then L[k.toNatClampNeg]? else none
theorem fAt_nI {L : List Nat} {k : Nat} (hk : k < 2 ^ 31) (hL : L.length < 2 ^ 31) : fAt L (nI k) = L[k]? := by
  unfold fAt
  rw [nI_clamp hk]
  by_cases h : k < L.length
  · rw [if_pos ⟨nI_pos hk, nI_lt h hL⟩]
  · rw [if_neg (fun z => h ((nI_ltI hk hL).mp z.2)), List.getElem?_eq_none (by omega)]
set_option maxHeartbeats 4000000 in
set_option maxRecDepth 100000 in
theorem c_Shelf_fileAt (l : Launch) (P : gPar) (f : gM) {sh e1 c1 e2 c2 e3 c3 : Nat} {L SF SP : List Nat} {ow : gO} {af : Nat → AFile} {k : Int32} (h : gSh P f ow sh L SF SP e1 c1 e2 c2 e3 c3 af) : gC l P y_Shelf_fileAt b_Shelf_fileAt 2 (some (.object "StripeFiles$StripedFile")) 3 0 0 [.ref sh, .int k] f (gQq P (fun r f1 => r = fAt L k ∧ f1 = f)) := by
  refine gC_of (by decide) (Nat.le_of_ble_eq_true rfl) (fun p env s m args below meth c S hr hlk hnm H locs hI ls hl => ?_)
  have hl : lv_has ls 2 [(0, .ref sh), (1, .int k)] := hl
  have hlL : L.length ≤ 48 := by have := h.2.2.2.2.2.2.2.2.1; omega
  have hl1 := h.2.1
  obtain ⟨m1, hal1⟩ := hl1.1
  have hcc : c1 < 2 ^ 20 := by have := h.2.2.2.2.1.1; omega
  refine lv_iload_n S.1 S.2.1 d_Shelf_fileAt_0 rfl (lv_at hl 1 rfl) ?_
  refine lv_if_lt (tgt := 29) S.1 S.2.1 d_Shelf_fileAt_1 (by decide) (fun c53 => ?_) (fun c53 => ?_)
  · skip
    refine lv_null S.1 S.2.1 d_Shelf_fileAt_29 ?_
    exact gr_q (r := none) S hr (Or.inl ⟨_, rfl⟩) hlk hI (⟨by unfold fAt; rw [if_neg (fun z => z.1 c53)], rfl⟩) d_Shelf_fileAt_30
  · skip
    obtain ⟨i, hi31, rfl⟩ := nI_of c53
    refine lv_iload_n S.1 S.2.1 d_Shelf_fileAt_4 rfl (lv_at hl 1 rfl) ?_
    refine lv_aload_n S.1 S.2.1 d_Shelf_fileAt_5 rfl (lv_at hl 0 rfl) ?_
    refine gh_get S hI h.1 rfl i_Shelf 0 (by decide) wi_67 rfl d_Shelf_fileAt_6 ?_
    refine gc_Vi S hI (c_AL_size l P f hl1) kv_AL_size wi_138 hal1 rfl rfl rfl hl.1 rfl (Nat.le_of_ble_eq_true rfl) ⟨Nat.le_of_ble_eq_true rfl, Nat.le_of_ble_eq_true rfl⟩ ⟨Nat.le_of_ble_eq_true rfl, Nat.le_of_ble_eq_true rfl⟩ d_Shelf_fileAt_9 (fun r54 f55 H locs hp56 hI => ?_)
    obtain ⟨hp1, hp2⟩ := hp56
    subst hp1
    rw [hp2] at hI
    refine lv_icmp_ge (tgt := 29) S.1 S.2.1 d_Shelf_fileAt_12 (by decide) (fun c57 => ?_) (fun c57 => ?_)
    · skip
      replace c57 : L.length ≤ i := (nI_leI (a := L.length) (b := i) (by omega) (by omega)).mp c57
      refine lv_null S.1 S.2.1 d_Shelf_fileAt_29 ?_
      exact gr_q (r := none) S hr (Or.inl ⟨_, rfl⟩) hlk hI (⟨by rw [fAt_nI hi31 (by omega), List.getElem?_eq_none (by omega)], rfl⟩) d_Shelf_fileAt_30
    · skip
      replace c57 : ¬ L.length ≤ i := fun z => c57 ((nI_leI (a := L.length) (b := i) (by omega) (by omega)).mpr z)
      refine lv_aload_n S.1 S.2.1 d_Shelf_fileAt_15 rfl (lv_at hl 0 rfl) ?_
      refine gh_get S hI h.1 rfl i_Shelf 0 (by decide) wi_67 rfl d_Shelf_fileAt_16 ?_
      refine lv_iload_n S.1 S.2.1 d_Shelf_fileAt_19 rfl (lv_at hl 1 rfl) ?_
      refine gc_Vr S hI (c_AL_get l P f hl1 (i := i) (by omega) hcc) kv_AL_get wi_142 hal1 rfl rfl rfl hl.1 rfl (Nat.le_of_ble_eq_true rfl) ⟨Nat.le_of_ble_eq_true rfl, Nat.le_of_ble_eq_true rfl⟩ ⟨Nat.le_of_ble_eq_true rfl, Nat.le_of_ble_eq_true rfl⟩ d_Shelf_fileAt_20 (fun r58 f59 H locs hg0 hI => ?_)
      obtain ⟨hg1, hg2⟩ := hg0
      rw [hg2] at hI
      have hxL := List.mem_of_getElem? hg1
      obtain ⟨⟨nx, gx, psx, x0, x1, x2, x3, x4, x5, x6, x7⟩, xw⟩ := h.2.2.2.2.2.1 r58 hxL
      refine gh_cast (q := (R_File, F_File, 5)) S hI rfl x0 wi_156 d_Shelf_fileAt_23 ?_
      refine lv_goto (tgt := 30) S.1 S.2.1 d_Shelf_fileAt_26 (by decide) ?_
      exact gr_q (r := some r58) S hr (Or.inl ⟨_, rfl⟩) hlk hI (⟨by rw [fAt_nI hi31 (by omega)]; exact hg1.symm, rfl⟩) d_Shelf_fileAt_30
set_option maxHeartbeats 4000000 in
set_option maxRecDepth 100000 in
theorem c_Shelf_placeOf (l : Launch) (P : gPar) (f : gM) {sh e1 c1 e2 c2 e3 c3 : Nat} {L SF SP : List Nat} {ow : gO} {af : Nat → AFile} {a n cap : Nat} {g : Nat → Int32} (h : gSh P f ow sh L SF SP e1 c1 e2 c2 e3 c3 af) (ha : f a = some (.inr (1, [.ref (a + 1), .int (nI n)]))) (hb : f (a + 1) = some (.inl (P.2.1 0, cap, .inl g))) (hn : n ≤ cap) (hcp : cap < 2 ^ 20) : gC l P y_Shelf_placeOf b_Shelf_placeOf 3 (some .int) 3 0 0 [.ref sh, .ref a] f (gQi P (fun r f1 => r = nI (plc (nms af L) (nmL n g)) ∧ f1 = f)) := by
  refine gC_of (by decide) (Nat.le_of_ble_eq_true rfl) (fun p env s m args below meth c S hr hlk hnm H locs hI ls hl => ?_)
  have hl : lv_has ls 3 [(0, .ref sh), (1, .ref a)] := hl
  have hlL : L.length ≤ 48 := by have := h.2.2.2.2.2.2.2.2.1; omega
  have hl1 := h.2.1
  obtain ⟨m1, hal1⟩ := hl1.1
  have hcc : c1 < 2 ^ 20 := by have := h.2.2.2.2.1.1; omega
  refine lv_iconst (v := nI 0) S.1 S.2.1 d_Shelf_placeOf_0 (by decide) ?_
  refine lv_istore_n (lv' := [(2, .int (nI 0)), (0, .ref sh), (1, .ref a)]) S.1 S.2.1 d_Shelf_placeOf_1 rfl hl (by decide) rfl (fun ls hl => ?_)
  have loop : ∀ (k i : Nat), i ≤ L.length → L.length - i < k → (∀ j x, j < i → (nms af L)[j]? = some x → nlt x (nmL n g)) → ∀ (H : Heap) (locs : List Loc), gB P f s H locs → ∀ ls : Array Slot, lv_has ls 3 [(0, .ref sh), (1, .ref a), (2, .int (nI i))] → W p l env (grm 3 0 0) s m args below meth c H locs 0 0 (MQ below (gQi P (fun r f1 => r = nI (plc (nms af L) (nmL n g)) ∧ f1 = f)) args s 0 0 (gA P)) (F0 m 2 ls []) := by
    intro k
    induction k with
    | zero => intro i h4 h5; exact absurd h5 (by omega)
    | succ k ih =>
      intro i h4 h5 hlo H locs hI ls hl
      refine lv_iload_n S.1 S.2.1 d_Shelf_placeOf_2 rfl (lv_at hl 2 rfl) ?_
      refine lv_aload_n S.1 S.2.1 d_Shelf_placeOf_3 rfl (lv_at hl 0 rfl) ?_
      refine gh_get S hI h.1 rfl i_Shelf 0 (by decide) wi_67 rfl d_Shelf_placeOf_4 ?_
      refine gc_Vi S hI (c_AL_size l P f hl1) kv_AL_size wi_138 hal1 rfl rfl rfl hl.1 rfl (Nat.le_of_ble_eq_true rfl) ⟨Nat.le_of_ble_eq_true rfl, Nat.le_of_ble_eq_true rfl⟩ ⟨Nat.le_of_ble_eq_true rfl, Nat.le_of_ble_eq_true rfl⟩ d_Shelf_placeOf_7 (fun r60 f61 H locs hp62 hI => ?_)
      obtain ⟨hp1, hp2⟩ := hp62
      subst hp1
      rw [hp2] at hI
      refine lv_icmp_ge (tgt := 40) S.1 S.2.1 d_Shelf_placeOf_10 (by decide) (fun c63 => ?_) (fun c63 => ?_)
      · skip
        replace c63 : L.length ≤ i := (nI_leI (a := L.length) (b := i) (by omega) (by omega)).mp c63
        refine lv_iload_n S.1 S.2.1 d_Shelf_placeOf_40 rfl (lv_at hl 2 rfl) ?_
        exact gr_i S hr hlk hI (⟨by rw [plc_eq (k := i) (by simp [nms]; omega) hlo (fun x hx => by rw [List.getElem?_eq_none (by simp [nms]; omega)] at hx; cases hx)], rfl⟩) d_Shelf_placeOf_41
      · skip
        replace c63 : ¬ L.length ≤ i := fun z => c63 ((nI_leI (a := L.length) (b := i) (by omega) (by omega)).mpr z)
        refine lv_aload_n S.1 S.2.1 d_Shelf_placeOf_13 rfl (lv_at hl 0 rfl) ?_
        refine gh_get S hI h.1 rfl i_Shelf 0 (by decide) wi_67 rfl d_Shelf_placeOf_14 ?_
        refine lv_iload_n S.1 S.2.1 d_Shelf_placeOf_17 rfl (lv_at hl 2 rfl) ?_
        refine gc_Vr S hI (c_AL_get l P f hl1 (i := i) (by omega) hcc) kv_AL_get wi_142 hal1 rfl rfl rfl hl.1 rfl (Nat.le_of_ble_eq_true rfl) ⟨Nat.le_of_ble_eq_true rfl, Nat.le_of_ble_eq_true rfl⟩ ⟨Nat.le_of_ble_eq_true rfl, Nat.le_of_ble_eq_true rfl⟩ d_Shelf_placeOf_18 (fun r64 f65 H locs hg0 hI => ?_)
        obtain ⟨hg1, hg2⟩ := hg0
        rw [hg2] at hI
        have hxL := List.mem_of_getElem? hg1
        obtain ⟨⟨nx, gx, psx, x0, x1, x2, x3, x4, x5, x6, x7⟩, xw⟩ := h.2.2.2.2.2.1 r64 hxL
        refine gh_cast (q := (R_File, F_File, 5)) S hI rfl x0 wi_156 d_Shelf_placeOf_21 ?_
        have hnm : (nms af L)[i]? = some (af r64).1 := by rw [nms_get, hg1]; rfl
        refine gc_Vr S hI (c_File_title l P f x0) kv_File_title wi_157 x0 rfl rfl rfl hl.1 rfl (Nat.le_of_ble_eq_true rfl) ⟨Nat.le_of_ble_eq_true rfl, Nat.le_of_ble_eq_true rfl⟩ ⟨Nat.le_of_ble_eq_true rfl, Nat.le_of_ble_eq_true rfl⟩ d_Shelf_placeOf_24 (fun r66 f67 H locs hp68 hI => ?_)
        obtain ⟨ht1, ht2⟩ := hp68
        subst ht1
        rw [ht2] at hI
        refine lv_aload_n S.1 S.2.1 d_Shelf_placeOf_27 rfl (lv_at hl 1 rfl) ?_
        refine gc_Vi S hI (c_Row_compareWith l P f x1 x2 ha hb (by omega) hn (by omega) hcp) kv_Row_compareWith wi_161 x1 rfl rfl rfl hl.1 rfl (Nat.le_of_ble_eq_true rfl) ⟨Nat.le_of_ble_eq_true rfl, Nat.le_of_ble_eq_true rfl⟩ ⟨Nat.le_of_ble_eq_true rfl, Nat.le_of_ble_eq_true rfl⟩ d_Shelf_placeOf_28 (fun r69 f70 H locs hp71 hI => ?_)
        obtain ⟨hcm, hc2⟩ := hp71
        rw [hc2] at hI
        rw [x6] at hcm
        refine lv_if_ge (tgt := 40) S.1 S.2.1 d_Shelf_placeOf_31 (by decide) (fun c72 => ?_) (fun c72 => ?_)
        · skip
          refine lv_iload_n S.1 S.2.1 d_Shelf_placeOf_40 rfl (lv_at hl 2 rfl) ?_
          exact gr_i S hr hlk hI (⟨by rw [plc_eq (k := i) (by simp [nms]; omega) hlo (fun x hx => by rw [hnm] at hx; cases hx; exact fun z => absurd (hcm.lt.mpr z) (Int32.not_lt.mpr c72))], rfl⟩) d_Shelf_placeOf_41
        · skip
          refine lv_iinc (v := nI (i + 1)) (lv' := [(2, .int (nI (i + 1))), (0, .ref sh), (1, .ref a)]) S.1 S.2.1 d_Shelf_placeOf_34 hl (k := 2) rfl (nI_add _ _) (by decide) rfl (fun ls hl => ?_)
          refine lv_goto (tgt := 2) S.1 S.2.1 d_Shelf_placeOf_37 (by decide) ?_
          exact ih (i + 1) (by omega) (by omega) (fun j x hj hx => (Nat.lt_succ_iff_lt_or_eq.mp hj).elim (fun q => hlo j x q hx) (fun q => by rw [q, hnm] at hx; cases hx; exact hcm.lt.mp (Int32.not_le.mp c72))) _ _ hI _ (lv_sub hl [1, 2, 0] rfl)
  exact loop (L.length + 1) 0 (by omega) (by omega) (fun j x hj => absurd hj (by omega)) _ _ hI _ (lv_sub hl [1, 2, 0] rfl)
set_option maxHeartbeats 4000000 in
set_option maxRecDepth 100000 in
theorem c_Shelf_isAt (l : Launch) (P : gPar) (f : gM) {sh e1 c1 e2 c2 e3 c3 : Nat} {L SF SP : List Nat} {ow : gO} {af : Nat → AFile} {a n cap : Nat} {g : Nat → Int32} {i : Nat} (h : gSh P f ow sh L SF SP e1 c1 e2 c2 e3 c3 af) (ha : f a = some (.inr (1, [.ref (a + 1), .int (nI n)]))) (hb : f (a + 1) = some (.inl (P.2.1 0, cap, .inl g))) (hn : n ≤ cap) (hcp : cap < 2 ^ 20) (hi31 : i < 2 ^ 31) : gC l P y_Shelf_isAt b_Shelf_isAt 3 (some .boolean) 3 0 0 [.ref sh, .int (nI i), .ref a] f (gQi P (fun r f1 => r = (if (nms af L)[i]? = some (nmL n g) then nI 1 else nI 0) ∧ f1 = f)) := by
  refine gC_of (by decide) (Nat.le_of_ble_eq_true rfl) (fun p env s m args below meth c S hr hlk hnm H locs hI ls hl => ?_)
  have hl : lv_has ls 3 [(0, .ref sh), (1, .int (nI i)), (2, .ref a)] := hl
  have hlL : L.length ≤ 48 := by have := h.2.2.2.2.2.2.2.2.1; omega
  have hl1 := h.2.1
  obtain ⟨m1, hal1⟩ := hl1.1
  have hcc : c1 < 2 ^ 20 := by have := h.2.2.2.2.1.1; omega
  refine lv_iload_n S.1 S.2.1 d_Shelf_isAt_0 rfl (lv_at hl 1 rfl) ?_
  refine lv_aload_n S.1 S.2.1 d_Shelf_isAt_1 rfl (lv_at hl 0 rfl) ?_
  refine gh_get S hI h.1 rfl i_Shelf 0 (by decide) wi_67 rfl d_Shelf_isAt_2 ?_
  refine gc_Vi S hI (c_AL_size l P f hl1) kv_AL_size wi_138 hal1 rfl rfl rfl hl.1 rfl (Nat.le_of_ble_eq_true rfl) ⟨Nat.le_of_ble_eq_true rfl, Nat.le_of_ble_eq_true rfl⟩ ⟨Nat.le_of_ble_eq_true rfl, Nat.le_of_ble_eq_true rfl⟩ d_Shelf_isAt_5 (fun r73 f74 H locs hp75 hI => ?_)
  obtain ⟨hp1, hp2⟩ := hp75
  subst hp1
  rw [hp2] at hI
  refine lv_icmp_ge (tgt := 36) S.1 S.2.1 d_Shelf_isAt_8 (by decide) (fun c76 => ?_) (fun c76 => ?_)
  · skip
    replace c76 : L.length ≤ i := (nI_leI (a := L.length) (b := i) (by omega) (by omega)).mp c76
    refine lv_iconst (v := nI 0) S.1 S.2.1 d_Shelf_isAt_36 (by decide) ?_
    exact gr_z S hr hlk hI (by first | exact Or.inl rfl | exact Or.inr rfl) (⟨by rw [if_neg (fun z => by rw [List.getElem?_eq_none (by simp [nms]; omega)] at z; cases z)], rfl⟩) d_Shelf_isAt_37
  · skip
    replace c76 : ¬ L.length ≤ i := fun z => c76 ((nI_leI (a := L.length) (b := i) (by omega) (by omega)).mpr z)
    refine lv_aload_n S.1 S.2.1 d_Shelf_isAt_11 rfl (lv_at hl 0 rfl) ?_
    refine gh_get S hI h.1 rfl i_Shelf 0 (by decide) wi_67 rfl d_Shelf_isAt_12 ?_
    refine lv_iload_n S.1 S.2.1 d_Shelf_isAt_15 rfl (lv_at hl 1 rfl) ?_
    refine gc_Vr S hI (c_AL_get l P f hl1 (i := i) (by omega) hcc) kv_AL_get wi_142 hal1 rfl rfl rfl hl.1 rfl (Nat.le_of_ble_eq_true rfl) ⟨Nat.le_of_ble_eq_true rfl, Nat.le_of_ble_eq_true rfl⟩ ⟨Nat.le_of_ble_eq_true rfl, Nat.le_of_ble_eq_true rfl⟩ d_Shelf_isAt_16 (fun r77 f78 H locs hg0 hI => ?_)
    obtain ⟨hg1, hg2⟩ := hg0
    rw [hg2] at hI
    have hxL := List.mem_of_getElem? hg1
    obtain ⟨⟨nx, gx, psx, x0, x1, x2, x3, x4, x5, x6, x7⟩, xw⟩ := h.2.2.2.2.2.1 r77 hxL
    refine gh_cast (q := (R_File, F_File, 5)) S hI rfl x0 wi_156 d_Shelf_isAt_19 ?_
    have hnm : (nms af L)[i]? = some (af r77).1 := by rw [nms_get, hg1]; rfl
    refine gc_Vr S hI (c_File_title l P f x0) kv_File_title wi_157 x0 rfl rfl rfl hl.1 rfl (Nat.le_of_ble_eq_true rfl) ⟨Nat.le_of_ble_eq_true rfl, Nat.le_of_ble_eq_true rfl⟩ ⟨Nat.le_of_ble_eq_true rfl, Nat.le_of_ble_eq_true rfl⟩ d_Shelf_isAt_22 (fun r79 f80 H locs hp81 hI => ?_)
    obtain ⟨ht1, ht2⟩ := hp81
    subst ht1
    rw [ht2] at hI
    refine lv_aload_n S.1 S.2.1 d_Shelf_isAt_25 rfl (lv_at hl 2 rfl) ?_
    refine gc_Vi S hI (c_Row_compareWith l P f x1 x2 ha hb (by omega) hn (by omega) hcp) kv_Row_compareWith wi_161 x1 rfl rfl rfl hl.1 rfl (Nat.le_of_ble_eq_true rfl) ⟨Nat.le_of_ble_eq_true rfl, Nat.le_of_ble_eq_true rfl⟩ ⟨Nat.le_of_ble_eq_true rfl, Nat.le_of_ble_eq_true rfl⟩ d_Shelf_isAt_26 (fun r82 f83 H locs hp84 hI => ?_)
    obtain ⟨hcm, hc2⟩ := hp84
    rw [hc2] at hI
    rw [x6] at hcm
    refine lv_if_ne (tgt := 36) S.1 S.2.1 d_Shelf_isAt_29 (by decide) (fun c85 => ?_) (fun c85 => ?_)
    · skip
      refine lv_iconst (v := nI 0) S.1 S.2.1 d_Shelf_isAt_36 (by decide) ?_
      exact gr_z S hr hlk hI (by first | exact Or.inl rfl | exact Or.inr rfl) (⟨by rw [if_neg (fun z => by rw [hnm] at z; injection z with z; exact c85 (hcm.eq.mpr z))], rfl⟩) d_Shelf_isAt_37
    · skip
      refine lv_iconst (v := nI 1) S.1 S.2.1 d_Shelf_isAt_32 (by decide) ?_
      refine lv_goto (tgt := 37) S.1 S.2.1 d_Shelf_isAt_33 (by decide) ?_
      exact gr_z S hr hlk hI (by first | exact Or.inl rfl | exact Or.inr rfl) (⟨by rw [if_pos (by rw [hnm, hcm.eq.mp c85])], rfl⟩) d_Shelf_isAt_37
def idxI (o : Option Nat) : Int32 := match o with
  | some k => nI k
  | none => (-2)
theorem fAt_idx {L : List Nat} {o : Option Nat} (h : ∀ k, o = some k → k < 2 ^ 31) (hL : L.length < 2 ^ 31) : fAt L (idxI o) = o.bind (fun k => L[k]?) := by
  cases o with
  | none => unfold fAt idxI; rw [if_neg (fun z => z.1 (by decide))]; rfl
  | some k => exact fAt_nI (h k rfl) hL
theorem idx_lt {l : List (List Nat)} {nm : List Nat} {k : Nat} (h : idx l nm = some k) : k < l.length ∧ k = plc l nm ∧ l[k]? = some nm := by
  unfold idx at h
  by_cases c : l[plc l nm]? = some nm
  · rw [if_pos c] at h; cases h
    exact ⟨(List.getElem?_eq_some_iff.mp c).1, rfl, c⟩
  · rw [if_neg c] at h; cases h
set_option maxHeartbeats 4000000 in
set_option maxRecDepth 100000 in
theorem c_Shelf_indexOf (l : Launch) (P : gPar) (f : gM) {sh e1 c1 e2 c2 e3 c3 : Nat} {L SF SP : List Nat} {ow : gO} {af : Nat → AFile} {a n cap : Nat} {g : Nat → Int32} (h : gSh P f ow sh L SF SP e1 c1 e2 c2 e3 c3 af) (ha : f a = some (.inr (1, [.ref (a + 1), .int (nI n)]))) (hb : f (a + 1) = some (.inl (P.2.1 0, cap, .inl g))) (hn : n ≤ cap) (hcp : cap < 2 ^ 20) : gC l P y_Shelf_indexOf b_Shelf_indexOf 3 (some .int) 4 0 0 [.ref sh, .ref a] f (gQi P (fun r f1 => r = idxI (idx (nms af L) (nmL n g)) ∧ f1 = f)) := by
  refine gC_of (by decide) (Nat.le_of_ble_eq_true rfl) (fun p env s m args below meth c S hr hlk hnm H locs hI ls hl => ?_)
  have hl : lv_has ls 3 [(0, .ref sh), (1, .ref a)] := hl
  have hlL : L.length ≤ 48 := by have := h.2.2.2.2.2.2.2.2.1; omega
  have hl1 := h.2.1
  obtain ⟨m1, hal1⟩ := hl1.1
  have hcc : c1 < 2 ^ 20 := by have := h.2.2.2.2.1.1; omega
  refine lv_aload_n S.1 S.2.1 d_Shelf_indexOf_0 rfl (lv_at hl 0 rfl) ?_
  refine lv_aload_n S.1 S.2.1 d_Shelf_indexOf_1 rfl (lv_at hl 1 rfl) ?_
  have hpl9 := plc_le (nms af L) (nmL n g)
  rw [show (nms af L).length = L.length by simp [nms]] at hpl9
  refine gc_Vi S hI (c_Shelf_placeOf l P f h ha hb hn hcp) kv_Shelf_placeOf wi_135 h.1 rfl rfl rfl hl.1 rfl (Nat.le_of_ble_eq_true rfl) ⟨Nat.le_of_ble_eq_true rfl, Nat.le_of_ble_eq_true rfl⟩ ⟨Nat.le_of_ble_eq_true rfl, Nat.le_of_ble_eq_true rfl⟩ d_Shelf_indexOf_2 (fun r86 f87 H locs hp88 hI => ?_)
  obtain ⟨hp1, hp2⟩ := hp88
  subst hp1
  rw [hp2] at hI
  refine lv_istore_n (lv' := [(2, .int (nI (plc (nms af L) (nmL n g)))), (0, .ref sh), (1, .ref a)]) S.1 S.2.1 d_Shelf_indexOf_5 rfl hl (by decide) rfl (fun ls hl => ?_)
  refine lv_aload_n S.1 S.2.1 d_Shelf_indexOf_6 rfl (lv_at hl 1 rfl) ?_
  refine lv_iload_n S.1 S.2.1 d_Shelf_indexOf_7 rfl (lv_at hl 0 rfl) ?_
  refine lv_aload_n S.1 S.2.1 d_Shelf_indexOf_8 rfl (lv_at hl 2 rfl) ?_
  refine gc_Vi S hI (c_Shelf_isAt l P f (i := plc (nms af L) (nmL n g)) h ha hb hn hcp (by omega)) kv_Shelf_isAt wi_168 h.1 rfl rfl rfl hl.1 rfl (Nat.le_of_ble_eq_true rfl) ⟨Nat.le_of_ble_eq_true rfl, Nat.le_of_ble_eq_true rfl⟩ ⟨Nat.le_of_ble_eq_true rfl, Nat.le_of_ble_eq_true rfl⟩ d_Shelf_indexOf_9 (fun r89 f90 H locs hp91 hI => ?_)
  obtain ⟨hp1, hp2⟩ := hp91
  subst hp1
  rw [hp2] at hI
  by_cases hia : (nms af L)[plc (nms af L) (nmL n g)]? = some (nmL n g)
  · rw [show (if (nms af L)[plc (nms af L) (nmL n g)]? = some (nmL n g) then nI 1 else nI 0 : Int32) = nI 1 from if_pos hia]
    refine lv_if_eq (tgt := 19) S.1 S.2.1 d_Shelf_indexOf_12 (by decide) (fun c92 => ?_) (fun c92 => ?_)
    · skip
      replace c92 : 1 = 0 := (nI_eq (a := 1) (b := 0) (by omega) (by omega)).mp c92
      exact absurd c92 (by omega)
    · skip
      replace c92 : ¬ 1 = 0 := fun z => c92 ((nI_eq (a := 1) (b := 0) (by omega) (by omega)).mpr z)
      refine lv_iload_n S.1 S.2.1 d_Shelf_indexOf_15 rfl (lv_at hl 0 rfl) ?_
      refine lv_goto (tgt := 21) S.1 S.2.1 d_Shelf_indexOf_16 (by decide) ?_
      exact gr_i S hr hlk hI (⟨by unfold idx; rw [if_pos hia]; rfl, rfl⟩) d_Shelf_indexOf_21
  · rw [show (if (nms af L)[plc (nms af L) (nmL n g)]? = some (nmL n g) then nI 1 else nI 0 : Int32) = nI 0 from if_neg hia]
    refine lv_if_eq (tgt := 19) S.1 S.2.1 d_Shelf_indexOf_12 (by decide) (fun c93 => ?_) (fun c93 => ?_)
    · skip
      replace c93 : 0 = 0 := (nI_eq (a := 0) (b := 0) (by omega) (by omega)).mp c93
      refine lv_bipush (v := (-2)) S.1 S.2.1 d_Shelf_indexOf_19 (by decide) ?_
      exact gr_i S hr hlk hI (⟨by unfold idx; rw [if_neg hia]; rfl, rfl⟩) d_Shelf_indexOf_21
    · skip
      replace c93 : ¬ 0 = 0 := fun z => c93 ((nI_eq (a := 0) (b := 0) (by omega) (by omega)).mpr z)
      exact absurd c93 (by omega)
set_option maxHeartbeats 4000000 in
set_option maxRecDepth 100000 in
theorem c_Shelf_find (l : Launch) (P : gPar) (f : gM) {sh e1 c1 e2 c2 e3 c3 : Nat} {L SF SP : List Nat} {ow : gO} {af : Nat → AFile} {a n cap : Nat} {g : Nat → Int32} (h : gSh P f ow sh L SF SP e1 c1 e2 c2 e3 c3 af) (ha : f a = some (.inr (1, [.ref (a + 1), .int (nI n)]))) (hb : f (a + 1) = some (.inl (P.2.1 0, cap, .inl g))) (hn : n ≤ cap) (hcp : cap < 2 ^ 20) : gC l P y_Shelf_find b_Shelf_find 2 (some (.object "StripeFiles$StripedFile")) 5 0 0 [.ref sh, .ref a] f (gQq P (fun r f1 => r = (idx (nms af L) (nmL n g)).bind (fun k => L[k]?) ∧ f1 = f)) := by
  refine gC_of (by decide) (Nat.le_of_ble_eq_true rfl) (fun p env s m args below meth c S hr hlk hnm H locs hI ls hl => ?_)
  have hl : lv_has ls 2 [(0, .ref sh), (1, .ref a)] := hl
  have hlL : L.length ≤ 48 := by have := h.2.2.2.2.2.2.2.2.1; omega
  have hl1 := h.2.1
  obtain ⟨m1, hal1⟩ := hl1.1
  have hcc : c1 < 2 ^ 20 := by have := h.2.2.2.2.1.1; omega
  refine lv_aload_n S.1 S.2.1 d_Shelf_find_0 rfl (lv_at hl 0 rfl) ?_
  refine lv_aload_n S.1 S.2.1 d_Shelf_find_1 rfl (lv_at hl 0 rfl) ?_
  refine lv_aload_n S.1 S.2.1 d_Shelf_find_2 rfl (lv_at hl 1 rfl) ?_
  refine gc_Vi S hI (c_Shelf_indexOf l P f h ha hb hn hcp) kv_Shelf_indexOf wi_132 h.1 rfl rfl rfl hl.1 rfl (Nat.le_of_ble_eq_true rfl) ⟨Nat.le_of_ble_eq_true rfl, Nat.le_of_ble_eq_true rfl⟩ ⟨Nat.le_of_ble_eq_true rfl, Nat.le_of_ble_eq_true rfl⟩ d_Shelf_find_3 (fun r94 f95 H locs hp96 hI => ?_)
  obtain ⟨hp1, hp2⟩ := hp96
  subst hp1
  rw [hp2] at hI
  refine gc_Vq S hI (c_Shelf_fileAt l P f (k := idxI (idx (nms af L) (nmL n g))) h) kv_Shelf_fileAt wi_171 h.1 rfl rfl rfl hl.1 rfl (Nat.le_of_ble_eq_true rfl) ⟨Nat.le_of_ble_eq_true rfl, Nat.le_of_ble_eq_true rfl⟩ ⟨Nat.le_of_ble_eq_true rfl, Nat.le_of_ble_eq_true rfl⟩ d_Shelf_find_6 (fun r97 f98 H locs hp99 hI => ?_)
  obtain ⟨hp1, hp2⟩ := hp99
  rw [hp2] at hI
  exact gr_q (r := r97) S hr (Or.inl ⟨_, rfl⟩) hlk hI (⟨by rw [hp1]; exact fAt_idx (fun k hk => by have := (idx_lt hk).1; simp [nms] at this; omega) (by omega), rfl⟩) d_Shelf_find_9
set_option maxHeartbeats 4000000 in
set_option maxRecDepth 100000 in
theorem c_Shelf_findAfter (l : Launch) (P : gPar) (f : gM) {sh e1 c1 e2 c2 e3 c3 : Nat} {L SF SP : List Nat} {ow : gO} {af : Nat → AFile} {a n cap : Nat} {g : Nat → Int32} (h : gSh P f ow sh L SF SP e1 c1 e2 c2 e3 c3 af) (ha : f a = some (.inr (1, [.ref (a + 1), .int (nI n)]))) (hb : f (a + 1) = some (.inl (P.2.1 0, cap, .inl g))) (hn : n ≤ cap) (hcp : cap < 2 ^ 20) : gC l P y_Shelf_findAfter b_Shelf_findAfter 3 (some (.object "StripeFiles$StripedFile")) 4 0 0 [.ref sh, .ref a] f (gQq P (fun r f1 => r = L[if (nms af L)[plc (nms af L) (nmL n g)]? = some (nmL n g) then plc (nms af L) (nmL n g) + 1 else plc (nms af L) (nmL n g)]? ∧ f1 = f)) := by
  refine gC_of (by decide) (Nat.le_of_ble_eq_true rfl) (fun p env s m args below meth c S hr hlk hnm H locs hI ls hl => ?_)
  have hl : lv_has ls 3 [(0, .ref sh), (1, .ref a)] := hl
  have hlL : L.length ≤ 48 := by have := h.2.2.2.2.2.2.2.2.1; omega
  have hl1 := h.2.1
  obtain ⟨m1, hal1⟩ := hl1.1
  have hcc : c1 < 2 ^ 20 := by have := h.2.2.2.2.1.1; omega
  refine lv_aload_n S.1 S.2.1 d_Shelf_findAfter_0 rfl (lv_at hl 0 rfl) ?_
  refine lv_aload_n S.1 S.2.1 d_Shelf_findAfter_1 rfl (lv_at hl 1 rfl) ?_
  have hpl9 := plc_le (nms af L) (nmL n g)
  rw [show (nms af L).length = L.length by simp [nms]] at hpl9
  refine gc_Vi S hI (c_Shelf_placeOf l P f h ha hb hn hcp) kv_Shelf_placeOf wi_135 h.1 rfl rfl rfl hl.1 rfl (Nat.le_of_ble_eq_true rfl) ⟨Nat.le_of_ble_eq_true rfl, Nat.le_of_ble_eq_true rfl⟩ ⟨Nat.le_of_ble_eq_true rfl, Nat.le_of_ble_eq_true rfl⟩ d_Shelf_findAfter_2 (fun r100 f101 H locs hp102 hI => ?_)
  obtain ⟨hp1, hp2⟩ := hp102
  subst hp1
  rw [hp2] at hI
  refine lv_istore_n (lv' := [(2, .int (nI (plc (nms af L) (nmL n g)))), (0, .ref sh), (1, .ref a)]) S.1 S.2.1 d_Shelf_findAfter_5 rfl hl (by decide) rfl (fun ls hl => ?_)
  refine lv_aload_n S.1 S.2.1 d_Shelf_findAfter_6 rfl (lv_at hl 1 rfl) ?_
  refine lv_aload_n S.1 S.2.1 d_Shelf_findAfter_7 rfl (lv_at hl 1 rfl) ?_
  refine lv_iload_n S.1 S.2.1 d_Shelf_findAfter_8 rfl (lv_at hl 0 rfl) ?_
  refine lv_aload_n S.1 S.2.1 d_Shelf_findAfter_9 rfl (lv_at hl 2 rfl) ?_
  refine gc_Vi S hI (c_Shelf_isAt l P f (i := plc (nms af L) (nmL n g)) h ha hb hn hcp (by omega)) kv_Shelf_isAt wi_168 h.1 rfl rfl rfl hl.1 rfl (Nat.le_of_ble_eq_true rfl) ⟨Nat.le_of_ble_eq_true rfl, Nat.le_of_ble_eq_true rfl⟩ ⟨Nat.le_of_ble_eq_true rfl, Nat.le_of_ble_eq_true rfl⟩ d_Shelf_findAfter_10 (fun r103 f104 H locs hp105 hI => ?_)
  obtain ⟨hp1, hp2⟩ := hp105
  subst hp1
  rw [hp2] at hI
  by_cases hia : (nms af L)[plc (nms af L) (nmL n g)]? = some (nmL n g)
  · rw [show (if (nms af L)[plc (nms af L) (nmL n g)]? = some (nmL n g) then nI 1 else nI 0 : Int32) = nI 1 from if_pos hia]
    refine lv_if_eq (tgt := 22) S.1 S.2.1 d_Shelf_findAfter_13 (by decide) (fun c106 => ?_) (fun c106 => ?_)
    · skip
      replace c106 : 1 = 0 := (nI_eq (a := 1) (b := 0) (by omega) (by omega)).mp c106
      exact absurd c106 (by omega)
    · skip
      replace c106 : ¬ 1 = 0 := fun z => c106 ((nI_eq (a := 1) (b := 0) (by omega) (by omega)).mpr z)
      refine lv_iload_n S.1 S.2.1 d_Shelf_findAfter_16 rfl (lv_at hl 0 rfl) ?_
      refine lv_iconst (v := nI 1) S.1 S.2.1 d_Shelf_findAfter_17 (by decide) ?_
      refine lv_iadd S.1 S.2.1 d_Shelf_findAfter_18 ?_
      refine lv_topi (fun v107 ev107 => ?_)
      replace ev107 : v107 = nI ((plc (nms af L) (nmL n g)) + 1) := ev107.trans (nI_add _ _)
      subst ev107
      refine lv_goto (tgt := 23) S.1 S.2.1 d_Shelf_findAfter_19 (by decide) ?_
      refine gc_Vq S hI (c_Shelf_fileAt l P f (k := nI (plc (nms af L) (nmL n g) + 1)) h) kv_Shelf_fileAt wi_171 h.1 rfl rfl rfl hl.1 rfl (Nat.le_of_ble_eq_true rfl) ⟨Nat.le_of_ble_eq_true rfl, Nat.le_of_ble_eq_true rfl⟩ ⟨Nat.le_of_ble_eq_true rfl, Nat.le_of_ble_eq_true rfl⟩ d_Shelf_findAfter_23 (fun r108 f109 H locs hp110 hI => ?_)
      obtain ⟨hp1, hp2⟩ := hp110
      rw [hp2] at hI
      exact gr_q (r := r108) S hr (Or.inl ⟨_, rfl⟩) hlk hI (⟨by rw [hp1, fAt_nI (by omega) (by omega), if_pos hia], rfl⟩) d_Shelf_findAfter_26
  · rw [show (if (nms af L)[plc (nms af L) (nmL n g)]? = some (nmL n g) then nI 1 else nI 0 : Int32) = nI 0 from if_neg hia]
    refine lv_if_eq (tgt := 22) S.1 S.2.1 d_Shelf_findAfter_13 (by decide) (fun c111 => ?_) (fun c111 => ?_)
    · skip
      replace c111 : 0 = 0 := (nI_eq (a := 0) (b := 0) (by omega) (by omega)).mp c111
      refine lv_iload_n S.1 S.2.1 d_Shelf_findAfter_22 rfl (lv_at hl 0 rfl) ?_
      refine gc_Vq S hI (c_Shelf_fileAt l P f (k := nI (plc (nms af L) (nmL n g))) h) kv_Shelf_fileAt wi_171 h.1 rfl rfl rfl hl.1 rfl (Nat.le_of_ble_eq_true rfl) ⟨Nat.le_of_ble_eq_true rfl, Nat.le_of_ble_eq_true rfl⟩ ⟨Nat.le_of_ble_eq_true rfl, Nat.le_of_ble_eq_true rfl⟩ d_Shelf_findAfter_23 (fun r112 f113 H locs hp114 hI => ?_)
      obtain ⟨hp1, hp2⟩ := hp114
      rw [hp2] at hI
      exact gr_q (r := r112) S hr (Or.inl ⟨_, rfl⟩) hlk hI (⟨by rw [hp1, fAt_nI (by omega) (by omega), if_neg hia], rfl⟩) d_Shelf_findAfter_26
    · skip
      replace c111 : ¬ 0 = 0 := fun z => c111 ((nI_eq (a := 0) (b := 0) (by omega) (by omega)).mpr z)
      exact absurd c111 (by omega)
end
section
/-! the shelf's picture over the steps of its methods -/
theorem nm3 {a b c d : Nat} (h1 : a ≠ b) (h2 : a ≠ c) (h3 : a ≠ d) : a ∉ [b, c, d] := by
  intro z
  rcases List.mem_cons.mp z with z | z
  · exact h1 z
  · rcases List.mem_cons.mp z with z | z
    · exact h2 z
    · exact h3 (List.mem_singleton.mp z)
theorem nm2 {a b c : Nat} (h1 : a ≠ b) (h2 : a ≠ c) : a ∉ [b, c] := by
  intro z
  rcases List.mem_cons.mp z with z | z
  · exact h1 z
  · exact h2 (List.mem_singleton.mp z)
theorem gLi.frz {P : gPar} {f f1 : gM} {a e cap : Nat} {L l : List Nat} (h : gLi P f a e cap L) (hF : gFr f f1 l) (ha : a ∉ l) (he : e ∉ l ∨ e = P.2.2.2.1) (hz : f P.2.2.2.1 = none) : gLi P f1 a e cap L := by
  obtain ⟨⟨m, h1⟩, h2⟩ := h
  refine ⟨⟨m, hF a _ h1 ha⟩, ?_⟩
  rcases h2 with h2 | ⟨h0, h2⟩
  · exact Or.inl h2
  · rcases he with he | he
    · exact Or.inr ⟨h0, h2.fr hF he⟩
    · obtain ⟨g, h3, -⟩ := h2
      rw [he, hz] at h3; cases h3
theorem gFi.fr {P : gPar} {f f1 : gM} {ow : gO} {pl q : Nat} {v : AFile} {l : List Nat} (h : gFi P f ow pl q v) (hF : gFr f f1 l) (h0 : q ∉ l) (h1 : q + 1 ∉ l) (h2 : q + 2 ∉ l) (h3 : q + 3 ∉ l) (h4 : ∀ x hh, gPc P f x hh → x ∉ l ∧ x + 1 ∉ l) : gFi P f1 ow pl q v := by
  obtain ⟨n, g, ps, a0, a1, a2, a3, a4, a5, a6, a7⟩ := h
  refine ⟨n, g, ps, hF _ _ a0 h0, hF _ _ a1 h1, hF _ _ a2 h2, hF _ _ a3 h3, a4, a5, a6, a7.fr hF (fun s x hs hx => ?_)⟩
  obtain ⟨-, hh, b, -⟩ := (a7 s hs).2 x hx
  exact h4 x hh b
theorem gFi.li {P : gPar} {f f1 : gM} {ow : gO} {pl q a e cap : Nat} {L : List Nat} {v : AFile} (h : gFi P f ow pl q v) (hl : gLi P f a e cap L) (h34 : P.2.1 3 ≠ P.2.1 4) (hz : f P.2.2.2.1 = none) (hF : gFr f f1 [a, e]) : gFi P f1 ow pl q v := by
  obtain ⟨n, g, ps, a0, a1, a2, a3, a4⟩ := id h
  exact h.fr hF (hl.npc (by decide) a0 hz) (hl.npc (by decide) a1 hz) (hl.nba a2 hz) (hl.npa h34 a3 hz) (fun x hh hx => ⟨hl.npc (by decide) hx.1 hz, hl.nba hx.2.1 hz⟩)
/-- a title changes: no other file does -/
theorem gFi.tt {P : gPar} {f f1 : gM} {ow : gO} {pl q x n0 : Nat} {v : AFile} {fs : List Value} {g0 : Nat → Int32} (h : gFi P f ow pl q v) (hx0 : f x = some (.inr (4, fs))) (hx1 : f (x + 1) = some (.inr (1, [.ref (x + 2), .int (nI n0)]))) (hx2 : f (x + 2) = some (.inl (P.2.1 0, 200, .inl g0))) (hne : q ≠ x) (hF : gFr f f1 [x, x + 1, x + 2]) : gFi P f1 ow pl q v := by
  obtain ⟨n, g, ps, a0, a1, a2, a3, a4⟩ := id h
  have k03 : q + 3 ≠ x := gh_ne a3 hx0 (by intro h; cases h)
  have k13 : q + 3 ≠ x + 1 := gh_ne a3 hx1 (by intro h; cases h)
  have k23 : q + 3 ≠ x + 2 := fun z => by
    rw [z, hx2] at a3; injection a3 with a3; injection a3 with a3; injection a3 with _ a3; injection a3 with _ a3; cases a3
  have k01 : q + 1 ≠ x := gh_ne a1 hx0 (by intro h; simp at h)
  have k12 : q + 1 ≠ x + 2 := gh_ne a1 hx2 (by intro h; cases h)
  have k02 : q + 2 ≠ x := gh_ne a2 hx0 (by intro h; cases h)
  have k21 : q + 2 ≠ x + 1 := gh_ne a2 hx1 (by intro h; cases h)
  have l1 : q ≠ x + 1 := gh_ne a0 hx1 (by intro h; simp at h)
  have l2 : q ≠ x + 2 := gh_ne a0 hx2 (by intro h; cases h)
  refine h.fr hF (by simp; omega) (by simp; omega) (by simp; omega) (by simp; omega) (fun y hh hy => ?_)
  have m0 : y ≠ x := gh_ne hy.1 hx0 (by intro h; simp at h)
  have m1 : y ≠ x + 1 := gh_ne hy.1 hx1 (by intro h; simp at h)
  have m2 : y ≠ x + 2 := gh_ne hy.1 hx2 (by intro h; cases h)
  have m3 : y + 1 ≠ x := gh_ne hy.2.1 hx0 (by intro h; cases h)
  exact ⟨by simp; omega, by simp; omega⟩
/-- a file's method: another file stays -/
theorem gFi.keep {P : gPar} {f f1 : gM} {ow ow1 : gO} {pl q x e cap e' : Nat} {v w : AFile} {SP SP1 : List Nat} {ps ps1 : Nat → Option Nat} (h : gFi P f ow pl q v) (hne : q ≠ x) (hx0 : ∃ fs, f x = some (.inr (4, fs))) (hx3 : f (x + 3) = some (.inl (P.2.1 3, 19, .inr (.inr (.inr (.inr ps)))))) (hps : gPs P f ow x ps w.2.2.2.1 w.2.2.2.2) (hs : gSp P f ow pl e cap SP) (h34 : P.2.1 3 ≠ P.2.1 4) (hz : f P.2.2.2.1 = none) (hr : gRel x pl f ow e SP ps f1 ow1 e' SP1 ps1) : gFi P f1 ow1 pl q v := by
  obtain ⟨fs0, hx0⟩ := hx0
  obtain ⟨n, g, qs, a0, a1, a2, a3, a4, a5, a6, a7⟩ := h
  have hli := hs.2.1
  have hpc : ∀ y, (y ∈ SP ∨ ∃ s, s < 19 ∧ ps s = some y) → (∃ hh, gPc P f y hh) ∧ ∀ t, ow y ≠ some (q, t) := by
    intro y hy
    rcases hy with hy | ⟨s, hs1, hy⟩
    · obtain ⟨b1, hh, b2, -⟩ := hs.2.2.2.2 y hy; exact ⟨⟨hh, b2⟩, fun t z => by rw [b1] at z; cases z⟩
    · obtain ⟨b1, hh, b2, -⟩ := (hps s hs1).2 y hy
      exact ⟨⟨hh, b2⟩, fun t z => by rw [b1] at z; injection z with z; injection z with z; exact hne z.symm⟩
  have out : ∀ c w', f c = some w' → c ≠ x → c ≠ x + 3 → c ∉ [pl + 1, e] → (∀ y hh, gPc P f y hh → (∀ t, ow y ≠ some (q, t)) → c ≠ y ∧ c ≠ y + 1) → ¬ gXs x pl e SP ps c := by
    intro c w' hc h1 h2 h3 h4 z
    rcases z with z | z | z | z | ⟨y, z1, z2⟩
    · exact h1 z
    · exact h2 z
    · exact h3 (by rw [z]; simp)
    · exact h3 (by rw [z]; simp)
    · obtain ⟨⟨hh, b⟩, b2⟩ := hpc y z2
      have := h4 y hh b b2
      rcases z1 with z1 | z1
      · exact this.1 z1
      · exact this.2 z1
  have o0 := out q _ a0 hne (gh_ne a0 hx3 (by intro h; cases h)) (hli.npc (by decide) a0 hz) (fun y hh b _ => ⟨gh_ne a0 b.1 (by intro h; simp at h), gh_ne a0 b.2.1 (by intro h; cases h)⟩)
  have o1 := out (q + 1) _ a1 (gh_ne a1 hx0 (by intro h; simp at h)) (gh_ne a1 hx3 (by intro h; cases h)) (hli.npc (by decide) a1 hz) (fun y hh b _ => ⟨gh_ne a1 b.1 (by intro h; simp at h), gh_ne a1 b.2.1 (by intro h; cases h)⟩)
  have o2 := out (q + 2) _ a2 (gh_ne a2 hx0 (by intro h; cases h)) (fun z => by rw [z, hx3] at a2; injection a2 with a2; injection a2 with a2; injection a2 with _ a2; injection a2 with _ a2; cases a2) (hli.nba a2 hz) (fun y hh b _ => ⟨gh_ne a2 b.1 (by intro h; cases h), fun z => by have b1 := b.1; rw [show y = q + 1 by omega, a1] at b1; simp at b1⟩)
  have o3 := out (q + 3) _ a3 (gh_ne a3 hx0 (by intro h; cases h)) (by omega) (hli.npa h34 a3 hz) (fun y hh b _ => ⟨gh_ne a3 b.1 (by intro h; cases h), fun z => by have b1 := b.2.1; rw [← z, a3] at b1; injection b1 with b1; injection b1 with b1; injection b1 with _ b1; injection b1 with _ b1; cases b1⟩)
  refine ⟨n, g, qs, hr.1 _ _ a0 o0, hr.1 _ _ a1 o1, hr.1 _ _ a2 o2, hr.1 _ _ a3 o3, a4, a5, a6, fun s hs1 => ⟨(a7 s hs1).1, fun y hy => ?_⟩⟩
  obtain ⟨b1, hh, b2, b3⟩ := (a7 s hs1).2 y hy
  have p0 := out y _ b2.1 (gh_ne b2.1 hx0 (by intro h; simp at h)) (gh_ne b2.1 hx3 (by intro h; cases h)) (hli.npc (by decide) b2.1 hz) (fun y2 hh2 c c2 => ⟨fun z => c2 s (by rw [← z]; exact b1), gh_ne b2.1 c.2.1 (by intro h; cases h)⟩)
  have p1 := out (y + 1) _ b2.2.1 (gh_ne b2.2.1 hx0 (by intro h; cases h)) (fun z => by have c1 := b2.2.1; rw [z, hx3] at c1; injection c1 with c1; injection c1 with c1; injection c1 with _ c1; injection c1 with _ c1; cases c1) (hli.nba b2.2.1 hz) (fun y2 hh2 c c2 => ⟨gh_ne b2.2.1 c.1 (by intro h; cases h), fun z => c2 s (by rw [show y2 = y by omega]; exact b1)⟩)
  exact ⟨by rw [hr.2.2.1 y (by rw [b2.1]; simp) p0]; exact b1, hh, ⟨hr.1 _ _ b2.1 p0, hr.1 _ _ b2.2.1 p1, b2.2.2⟩, b3⟩
/-- the outer cells over a file's method -/
theorem gUo.rel {P : gPar} {f f1 : gM} {ow ow1 : gO} {U : Nat → Prop} {pl x e cap e' : Nat} {v : AFile} {SP SP1 : List Nat} {ps ps1 : Nat → Option Nat} (h : gUo f U) (hx : gFi P f ow pl x v) (hps : gPs P f ow x ps v.2.2.2.1 v.2.2.2.2) (hs : gSp P f ow pl e cap SP) (hz : f P.2.2.2.1 = none) (hr : gRel x pl f ow e SP ps f1 ow1 e' SP1 ps1) : gFU f f1 U := by
  intro c w hc hf
  refine hr.1 c w hf (fun z => ?_)
  have h1 := h.fi hx hc
  have h2 := h.li hs.2.1 hz hc
  rcases z with z | z | z | z | ⟨y, z1, z2⟩
  · exact h1.1 z
  · exact h1.2 z
  · exact h2 (by rw [z]; simp)
  · exact h2 (by rw [z]; simp)
  · have hp : ∃ hh, gPc P f y hh := by
      rcases z2 with z2 | ⟨s, hs1, z2⟩
      · obtain ⟨-, hh, b, -⟩ := hs.2.2.2.2 y z2; exact ⟨hh, b⟩
      · obtain ⟨-, hh, b, -⟩ := (hps s hs1).2 y z2; exact ⟨hh, b⟩
    obtain ⟨hh, b⟩ := hp
    have h3 := h.pc b hc
    rcases z1 with z1 | z1
    · exact h3.1 z1
    · exact h3.2 z1
theorem gUo.frl {P : gPar} {f f1 : gM} {U : Nat → Prop} {a e cap : Nat} {L : List Nat} (h : gUo f U) (hl : gLi P f a e cap L) (hz : f P.2.2.2.1 = none) (hF : gFr f f1 [a, e]) : gFU f f1 U := fun c v hc hf => hF c v hf (h.li hl hz hc)
/-- the array of a list over a frame that leaves it out -/
theorem gLi.ne {P : gPar} {f : gM} {a e cap a' e' cap' : Nat} {L L' : List Nat} (h : gLi P f a e cap L) (h' : gLi P f a' e' cap' L') (hz : f P.2.2.2.1 = none) : a ≠ e' := by
  obtain ⟨⟨m, h1⟩, -⟩ := h
  rcases h'.2 with ⟨e0, -, -⟩ | ⟨-, g, h2, -⟩
  · intro z; rw [z, e0, hz] at h1; cases h1
  · exact gh_ne h1 h2 (by intro h; cases h)
theorem gLi.nz {P : gPar} {f : gM} {a e cap x : Nat} {L : List Nat} (h : gLi P f a e cap L) (hx : f x = none) (he : e = x) : e = P.2.2.2.1 := by
  rcases h.2 with ⟨e0, -, -⟩ | ⟨-, g, h2, -⟩
  · exact e0
  · rw [he, hx] at h2; cases h2
/-- the pool over another list's step -/
theorem gSp.li {P : gPar} {f f1 : gM} {ow : gO} {pl e3 c3 a e cap : Nat} {SP L : List Nat} (h : gSp P f ow pl e3 c3 SP) (hl : gLi P f a e cap L) (ha : pl + 1 ≠ a) (he : e3 = e → e3 = P.2.2.2.1) (hz : f P.2.2.2.1 = none) (hF : gFr f f1 [a, e]) : gSp P f1 ow pl e3 c3 SP := by
  obtain ⟨b1, b2, b3, b4, b5⟩ := h
  refine ⟨hF _ _ b1 (hl.npc (by decide) b1 hz), b2.frz hF (by simp; exact ⟨ha, b2.ne hl hz⟩) ?_ hz, b3, b4, fun y hy => ?_⟩
  · by_cases hh : e3 = P.2.2.2.1
    · exact Or.inr hh
    · left
      simp
      exact ⟨fun z => hl.ne b2 hz z.symm, fun z => hh (he z)⟩
  · obtain ⟨d1, hh, d2, d3⟩ := b5 y hy
    exact ⟨d1, hh, d2.fr hF (hl.npc (by decide) d2.1 hz) (hl.nba d2.2.1 hz), d3⟩
/-- the list of the files changes -/
theorem gSh.setL {P : gPar} {f f1 : gM} {ow : gO} {sh : Nat} {L L' SF SP : List Nat} {e1 c1 e2 c2 e3 c3 e1' c1' : Nat} {af af' : Nat → AFile} (h : gSh P f ow sh L SF SP e1 c1 e2 c2 e3 c3 af) (h34 : P.2.1 3 ≠ P.2.1 4) (hz : f P.2.2.2.1 = none) (hF : gFr f f1 [sh + 1, e1]) (hl : gLi P f1 (sh + 1) e1' c1' L') (hc : c1' ≤ 200) (he : e1' = e1 ∨ gNew f e1')
    (hL : ∀ q ∈ L', gFi P f ow (sh + 3) q (af' q) ∧ wfF (af' q).2.2.1 (af' q).2.2.2.1 (af' q).2.2.2.2) (hnd : (L' ++ SF).Nodup) (hlen : L'.length + SF.length ≤ 48) : gSh P f1 ow sh L' SF SP e1' c1' e2 c2 e3 c3 af' := by
  obtain ⟨s0, s1, s2, s3, s4, s5, s6, s7, s8, s9⟩ := h
  refine ⟨hF _ _ s0 (s1.npc (by decide) s0 hz), hl, s2.frz hF (by simp; exact s2.ne s1 hz) ?_ hz, s3.li s1 (by omega) (fun z => by rw [z] at s9; rw [z]; exact s9.2.1 rfl) hz hF, ⟨hc, s4.2⟩, fun q hq => ⟨(hL q hq).1.li s1 h34 hz hF, (hL q hq).2⟩, fun q hq => ?_, hnd, hlen, ?_⟩
  · by_cases hh : e2 = P.2.2.2.1
    · exact Or.inr hh
    · left
      simp
      exact ⟨fun z => s1.ne s2 hz z.symm, fun z => hh (by rw [z]; exact s9.1 z.symm)⟩
  · obtain ⟨v, a1, a2⟩ := s6 q hq
    exact ⟨v, a1.li s1 h34 hz hF, a2⟩
  · refine ⟨fun z => ?_, fun z => ?_, s9.2.2⟩
    · rcases he with e | e
      · rw [e] at z ⊢; exact s9.1 z
      · rw [z]; exact s2.nz e.n z.symm
    · rcases he with e | e
      · rw [e] at z ⊢; exact s9.2.1 z
      · rw [z]; exact s3.2.1.nz e.n z.symm
/-- the list of the spare files changes -/
theorem gSh.setS {P : gPar} {f f1 : gM} {ow : gO} {sh : Nat} {L SF SF' SP : List Nat} {e1 c1 e2 c2 e3 c3 e2' c2' : Nat} {af : Nat → AFile} (h : gSh P f ow sh L SF SP e1 c1 e2 c2 e3 c3 af) (h34 : P.2.1 3 ≠ P.2.1 4) (hz : f P.2.2.2.1 = none) (hF : gFr f f1 [sh + 2, e2]) (hl : gLi P f1 (sh + 2) e2' c2' SF') (hc : c2' ≤ 200) (he : e2' = e2 ∨ gNew f e2')
    (hL : ∀ q ∈ SF', ∃ v, gFi P f ow (sh + 3) q v ∧ v.2.2.1 = 0 ∧ (∀ s, v.2.2.2.1 s = false) ∧ ∀ p, v.2.2.2.2 p = 0) (hnd : (L ++ SF').Nodup) (hlen : L.length + SF'.length ≤ 48) : gSh P f1 ow sh L SF' SP e1 c1 e2' c2' e3 c3 af := by
  obtain ⟨s0, s1, s2, s3, s4, s5, s6, s7, s8, s9⟩ := h
  refine ⟨hF _ _ s0 (s2.npc (by decide) s0 hz), s1.frz hF (by simp; exact s1.ne s2 hz) ?_ hz, hl, s3.li s2 (by omega) (fun z => by rw [z] at s9; rw [z]; exact s9.2.2 rfl) hz hF, ⟨s4.1, hc⟩, fun q hq => ⟨(s5 q hq).1.li s2 h34 hz hF, (s5 q hq).2⟩, fun q hq => ?_, hnd, hlen, ?_⟩
  · by_cases hh : e1 = P.2.2.2.1
    · exact Or.inr hh
    · left
      simp
      exact ⟨fun z => s2.ne s1 hz z.symm, fun z => hh (s9.1 z)⟩
  · obtain ⟨v, a1, a2⟩ := hL q hq
    exact ⟨v, a1.li s2 h34 hz hF, a2⟩
  · refine ⟨fun z => ?_, s9.2.1, fun z => ?_⟩
    · rcases he with e | e
      · rw [e] at z; exact s9.1 z
      · exact s1.nz e.n z
    · rcases he with e | e
      · rw [e] at z ⊢; exact s9.2.2 z
      · rw [z]; exact s3.2.1.nz e.n z.symm
/-- a file's method on x, which is in L or loose -/
theorem gSh.rel {P : gPar} {f f1 : gM} {ow ow1 : gO} {sh x : Nat} {L SF SP SP1 : List Nat} {e1 c1 e2 c2 e3 c3 e3' c3' : Nat} {af af' : Nat → AFile} {v : AFile} {ps ps1 : Nat → Option Nat} (h : gSh P f ow sh L SF SP e1 c1 e2 c2 e3 c3 af) (h34 : P.2.1 3 ≠ P.2.1 4) (hz : f P.2.2.2.1 = none) (hx0 : ∃ fs, f x = some (.inr (4, fs))) (hx3 : f (x + 3) = some (.inl (P.2.1 3, 19, .inr (.inr (.inr (.inr ps)))))) (hps : gPs P f ow x ps v.2.2.2.1 v.2.2.2.2)
    (hr : gRel x (sh + 3) f ow e3 SP ps f1 ow1 e3' SP1 ps1) (hsp : gSp P f1 ow1 (sh + 3) e3' c3' SP1) (haf : ∀ q ∈ L, q ≠ x → af' q = af q) (hxL : x ∈ L → gFi P f1 ow1 (sh + 3) x (af' x) ∧ wfF (af' x).2.2.1 (af' x).2.2.2.1 (af' x).2.2.2.2) (hxS : x ∉ SF) : gSh P f1 ow1 sh L SF SP1 e1 c1 e2 c2 e3' c3' af' := by
  obtain ⟨fs0, hx0⟩ := hx0
  obtain ⟨s0, s1, s2, s3, s4, s5, s6, s7, s8, s9⟩ := h
  have hpc : ∀ y, (y ∈ SP ∨ ∃ s, s < 19 ∧ ps s = some y) → ∃ hh, gPc P f y hh := by
    intro y hy
    rcases hy with hy | ⟨s, hs1, hy⟩
    · obtain ⟨b1, hh, b2, -⟩ := s3.2.2.2.2 y hy; exact ⟨hh, b2⟩
    · obtain ⟨b1, hh, b2, -⟩ := (hps s hs1).2 y hy; exact ⟨hh, b2⟩
  have out : ∀ c w', f c = some w' → c ≠ x → c ≠ x + 3 → c ∉ [sh + 3 + 1, e3] → (∀ y hh, gPc P f y hh → c ≠ y ∧ c ≠ y + 1) → f1 c = some w' := by
    intro c w' hc h1 h2 h3 h4
    refine hr.1 c w' hc (fun z => ?_)
    rcases z with z | z | z | z | ⟨y, z1, z2⟩
    · exact h1 z
    · exact h2 z
    · exact h3 (by rw [z]; simp)
    · exact h3 (by rw [z]; simp)
    · obtain ⟨hh, b⟩ := hpc y z2
      have := h4 y hh b
      rcases z1 with z1 | z1
      · exact this.1 z1
      · exact this.2 z1
  have keepLi : ∀ {a e cap : Nat} {M : List Nat}, gLi P f a e cap M → a ≠ sh + 3 + 1 → (e = e3 → e = P.2.2.2.1) → gLi P f1 a e cap M := by
    intro a e cap M hl ha he
    obtain ⟨⟨m, g1⟩, g2⟩ := id hl
    refine ⟨⟨m, out a _ g1 (gh_ne g1 hx0 (by intro h; simp at h)) (gh_ne g1 hx3 (by intro h; cases h)) (by simp; exact ⟨ha, hl.ne s3.2.1 hz⟩) (fun y hh b => ⟨gh_ne g1 b.1 (by intro h; simp at h), gh_ne g1 b.2.1 (by intro h; cases h)⟩)⟩, ?_⟩
    rcases g2 with g2 | ⟨g0, g, g2, g3⟩
    · exact Or.inl g2
    · refine Or.inr ⟨g0, g, out e _ g2 (gh_ne g2 hx0 (by intro h; cases h)) (fun z => ?_) ?_ (fun y hh b => ⟨gh_ne g2 b.1 (by intro h; cases h), fun z => ?_⟩), g3⟩
      · rw [z, hx3] at g2; injection g2 with g2; injection g2 with g2; injection g2 with g2; exact h34 g2
      · simp
        refine ⟨fun z => s3.2.1.ne hl hz z.symm, fun z => ?_⟩
        have := he z
        rw [this, hz] at g2; cases g2
      · have b1 := b.2.1
        rw [← z, g2] at b1; injection b1 with b1; injection b1 with b1; injection b1 with _ b1; injection b1 with _ b1; cases b1
  refine ⟨out sh _ s0 (gh_ne s0 hx0 (by intro h; simp at h)) (gh_ne s0 hx3 (by intro h; cases h)) (s3.2.1.npc (by decide) s0 hz) (fun y hh b => ⟨gh_ne s0 b.1 (by intro h; simp at h), gh_ne s0 b.2.1 (by intro h; cases h)⟩), keepLi s1 (by omega) s9.2.1, keepLi s2 (by omega) s9.2.2, hsp, s4, fun q hq => ?_, fun q hq => ?_, s7, s8, s9.1, ?_⟩
  · by_cases e : q = x
    · subst e; exact hxL hq
    · rw [haf q hq e]
      exact ⟨(s5 q hq).1.keep e ⟨fs0, hx0⟩ hx3 hps s3 h34 hz hr, (s5 q hq).2⟩
  · obtain ⟨w, a1, a2⟩ := s6 q hq
    exact ⟨w, a1.keep (fun z => hxS (by rw [← z]; exact hq)) ⟨fs0, hx0⟩ hx3 hps s3 h34 hz hr, a2⟩
  · rcases hr.2.1.1 with e | e
    · rw [e]; exact s9.2
    · exact ⟨fun z => s1.nz e.n z, fun z => s2.nz e.n z⟩
/-- a title changes: x in L or loose -/
theorem gSh.tt {P : gPar} {f f1 : gM} {ow : gO} {sh x n0 : Nat} {L SF SP : List Nat} {e1 c1 e2 c2 e3 c3 : Nat} {af af' : Nat → AFile} {fs : List Value} {g0 : Nat → Int32} (h : gSh P f ow sh L SF SP e1 c1 e2 c2 e3 c3 af) (hz : f P.2.2.2.1 = none) (hx0 : f x = some (.inr (4, fs))) (hx1 : f (x + 1) = some (.inr (1, [.ref (x + 2), .int (nI n0)]))) (hx2 : f (x + 2) = some (.inl (P.2.1 0, 200, .inl g0))) (hF : gFr f f1 [x, x + 1, x + 2])
    (haf : ∀ q ∈ L, q ≠ x → af' q = af q) (hxL : x ∈ L → gFi P f1 ow (sh + 3) x (af' x) ∧ wfF (af' x).2.2.1 (af' x).2.2.2.1 (af' x).2.2.2.2) (hxS : x ∉ SF) : gSh P f1 ow sh L SF SP e1 c1 e2 c2 e3 c3 af' := by
  obtain ⟨s0, s1, s2, s3, s4, s5, s6, s7, s8, s9⟩ := h
  have inl : ∀ {a e cap : Nat} {M : List Nat}, gLi P f a e cap M → a ∉ [x, x + 1, x + 2] ∧ (e ∉ [x, x + 1, x + 2] ∨ e = P.2.2.2.1) := by
    intro a e cap M hl
    have p0 := hl.npc (by decide) hx0 hz
    have p1 := hl.npc (by decide) hx1 hz
    have p2 := hl.nba hx2 hz
    simp at p0 p1 p2 ⊢
    refine ⟨⟨fun z => p0.1 z.symm, fun z => p1.1 z.symm, fun z => p2.1 z.symm⟩, Or.inl ⟨fun z => p0.2 z.symm, fun z => p1.2 z.symm, fun z => p2.2 z.symm⟩⟩
  refine ⟨hF _ _ s0 (nm3 (gh_ne s0 hx0 (by intro h; simp at h)) (gh_ne s0 hx1 (by intro h; simp at h)) (gh_ne s0 hx2 (by intro h; cases h))), s1.frz hF (inl s1).1 (inl s1).2 hz, s2.frz hF (inl s2).1 (inl s2).2 hz, ⟨hF _ _ s3.1 (nm3 (gh_ne s3.1 hx0 (by intro h; simp at h)) (gh_ne s3.1 hx1 (by intro h; simp at h)) (gh_ne s3.1 hx2 (by intro h; cases h))), s3.2.1.frz hF (inl s3.2.1).1 (inl s3.2.1).2 hz, s3.2.2.1, s3.2.2.2.1, fun y hy => ?_⟩, s4, fun q hq => ?_, fun q hq => ?_, s7, s8, s9⟩
  · obtain ⟨d1, hh, d2, d3⟩ := s3.2.2.2.2 y hy
    have m0 : y ≠ x := gh_ne d2.1 hx0 (by intro h; simp at h)
    have m1 : y ≠ x + 1 := gh_ne d2.1 hx1 (by intro h; simp at h)
    have m2 : y ≠ x + 2 := gh_ne d2.1 hx2 (by intro h; cases h)
    have m3 : y + 1 ≠ x := gh_ne d2.2.1 hx0 (by intro h; cases h)
    exact ⟨d1, hh, d2.fr hF (by simp; omega) (by simp; omega), d3⟩
  · by_cases e : q = x
    · subst e; exact hxL hq
    · rw [haf q hq e]
      exact ⟨(s5 q hq).1.tt hx0 hx1 hx2 e hF, (s5 q hq).2⟩
  · obtain ⟨w, a1, a2⟩ := s6 q hq
    exact ⟨w, a1.tt hx0 hx1 hx2 (fun z => hxS (by rw [← z]; exact hq)) hF, a2⟩
theorem gUo.tt {P : gPar} {f f1 : gM} {U : Nat → Prop} {x n0 : Nat} {fs : List Value} {g0 : Nat → Int32} (h : gUo f U) (hx0 : f x = some (.inr (4, fs))) (hx1 : f (x + 1) = some (.inr (1, [.ref (x + 2), .int (nI n0)]))) (hx2 : f (x + 2) = some (.inl (P.2.1 0, 200, .inl g0))) (hF : gFr f f1 [x, x + 1, x + 2]) : gFU f f1 U := fun c v hc hf => by
  have hn := h.nt hx0 hx1
  refine hF c v hf ?_
  obtain ⟨w, a1, a2, a3⟩ := h c hc
  have k0 : c ≠ x := fun z => by
    rw [z, hx0] at a1; injection a1 with a1
    rcases a2 with ⟨ci, fs, e, -, h4, -⟩ | ⟨k, n, g, e⟩
    · rw [← a1] at e; injection e with e; injection e with e; exact h4 e.symm
    · rw [← a1] at e; cases e
  have k1 : c ≠ x + 1 := fun z => hn (z ▸ hc)
  have k2 : c ≠ x + 2 := fun z => by
    have hv : ∃ y, w = .inl y := by rw [z, hx2] at a1; injection a1 with a1; exact ⟨_, a1.symm⟩
    obtain ⟨b, hb, hU⟩ := a3 (Or.inl hv)
    exact hn (by rw [show x + 1 = b by omega]; exact hU)
  simp; exact ⟨k0, k1, k2⟩
theorem gFi.fr0 {P : gPar} {f f1 : gM} {ow : gO} {pl q : Nat} {v : AFile} (h : gFi P f ow pl q v) (hF : gFr f f1 []) : gFi P f1 ow pl q v := h.fr hF (by simp) (by simp) (by simp) (by simp) (fun x hh _ => by simp)
theorem gSh.fr0 {P : gPar} {f f1 : gM} {ow : gO} {sh : Nat} {L SF SP : List Nat} {e1 c1 e2 c2 e3 c3 : Nat} {af : Nat → AFile} (h : gSh P f ow sh L SF SP e1 c1 e2 c2 e3 c3 af) (hF : gFr f f1 []) : gSh P f1 ow sh L SF SP e1 c1 e2 c2 e3 c3 af := by
  obtain ⟨s0, s1, s2, s3, s4, s5, s6, s7, s8, s9⟩ := h
  refine ⟨hF _ _ s0 (by simp), s1.fr hF (by simp) (by simp), s2.fr hF (by simp) (by simp), s3.fr hF (by simp) (by simp) (by simp) (fun x _ => by simp), s4, fun q hq => ⟨(s5 q hq).1.fr0 hF, (s5 q hq).2⟩, fun q hq => ?_, s7, s8, s9⟩
  obtain ⟨v, a1, a2⟩ := s6 q hq
  exact ⟨v, a1.fr0 hF, a2⟩
theorem gFU.fr0 {f f1 : gM} {U : Nat → Prop} (hF : gFr f f1 []) : gFU f f1 U := fun c v _ hf => hF c v hf (by simp)
theorem sum_mem {α : Type} (F : α → Nat) : ∀ {L : List α} {q : α}, q ∈ L → F q ≤ (L.map F).sum
  | a :: l, q, h => by
    rcases List.mem_cons.mp h with rfl | h
    · simp
    · have := sum_mem F h
      simp only [List.map_cons, List.sum_cons]; omega
theorem nodup_ins {L S : List Nat} {x i : Nat} (h : (L ++ S).Nodup) (hx : x ∉ L ++ S) (hi : i ≤ L.length) : (L.insertIdx i x ++ S).Nodup := by
  have hp : (L.insertIdx i x ++ S).Perm (x :: (L ++ S)) := (List.perm_insertIdx x L hi).append_right S
  exact hp.nodup_iff.mpr (List.nodup_cons.mpr ⟨hx, h⟩)
theorem mem_ins {L : List Nat} {x i q : Nat} (hi : i ≤ L.length) : q ∈ L.insertIdx i x ↔ q = x ∨ q ∈ L := by
  rw [(List.perm_insertIdx x L hi).mem_iff, List.mem_cons]
end
section
theorem wfF_0 : wfF 0 (fun _ => false) (fun _ => 0) := ⟨by omega, fun _ _ => rfl, (by intro s h; simp at h), fun _ _ => rfl⟩
set_option maxHeartbeats 4000000 in
set_option maxRecDepth 100000 in
theorem c_Shelf_make (l : Launch) (P : gPar) (f : gM) {sh e1 c1 e2 c2 e3 c3 : Nat} {L SF SP : List Nat} {ow : gO} {af : Nat → AFile} {a n cap : Nat} {g : Nat → Int32} {U : Nat → Prop} {idv : Int32} (h : gSh P f ow sh L SF SP e1 c1 e2 c2 e3 c3 af) (ha : f a = some (.inr (1, [.ref (a + 1), .int (nI n)]))) (hb : f (a + 1) = some (.inl (P.2.1 0, cap, .inl g))) (hn : n ≤ cap) (hcp : cap < 2 ^ 20) (hU : gUo f U) (hUa : U a) (hUb : U (a + 1)) (hg : sb_Fit g) (h200 : n ≤ 200) (h48 : L.length < 48) : gC l P y_Shelf_make b_Shelf_make 4 (some (.object "StripeFiles$StripedFile")) 6 5 526 [.ref sh, .ref a, .int idv] f (gQq P (fun r f1 => ∃ x, r = some x ∧ ∃ (SF1 : List Nat) (e1v c1v : Nat), gSh P f1 ow sh (L.insertIdx (plc (nms af L) (nmL n g)) x) SF1 SP e1v c1v e2 c2 e3 c3 (va_up af x (nmL n g, idv, 0, fun _ => false, fun _ => 0)) ∧ x ∉ L ∧ gFU f f1 U)) := by
  refine gC_of (by decide) (Nat.le_of_ble_eq_true rfl) (fun p env s m args below meth c S hr hlk hnm H locs hI ls hl => ?_)
  have hl : lv_has ls 4 [(0, .ref sh), (1, .ref a), (2, .int idv)] := hl
  have hz0 := gB_z hI
  have h34 := gX_34 hI.1
  have hlL : L.length ≤ 48 := by have := h.2.2.2.2.2.2.2.2.1; omega
  have hl2 := h.2.2.1
  obtain ⟨m2, hal2⟩ := hl2.1
  have hcc2 : c2 < 2 ^ 20 := by have := h.2.2.2.2.1.2; omega
  have join : ∀ (fj : gM) (x : Nat) (SF1 : List Nat) (v : AFile), gSh P fj ow sh L SF1 SP e1 c1 e2 c2 e3 c3 af → gFi P fj ow (sh + 3) x v → v.2.2.1 = 0 → (∀ s, v.2.2.2.1 s = false) → (∀ p, v.2.2.2.2 p = 0) → x ∉ L ++ SF1 → L.length + SF1.length ≤ 47 → gFU f fj U → ∀ (H : Heap) (locs : List Loc), gB P fj s H locs → ∀ ls : Array Slot, lv_has ls 4 [(0, .ref sh), (1, .ref a), (2, .int idv)] → W p l env (grm 6 5 526) s m args below meth c H locs 4 226 (MQ below (gQq P (fun r f1 => ∃ x, r = some x ∧ ∃ (SF1 : List Nat) (e1v c1v : Nat), gSh P f1 ow sh (L.insertIdx (plc (nms af L) (nmL n g)) x) SF1 SP e1v c1v e2 c2 e3 c3 (va_up af x (nmL n g, idv, 0, fun _ => false, fun _ => 0)) ∧ x ∉ L ∧ gFU f f1 U)) args s 5 526 (gA P)) (F0 m 43 ls [.ref x]) := by
    intro fj x SF1 v hj hx hv0 hv1 hv2 hxn hlj hFj H locs hI ls hl
    have hzj := gB_z hI
    have hUj := hU.to hFj
    have haj := hFj a _ hUa ha
    have hbj := hFj (a + 1) _ hUb hb
    obtain ⟨nx, gx, psx, x0, x1, x2, x3, x4, x5, x6, x7⟩ := id hx
    rw [hv0] at x0
    refine lv_astore_n (lv' := [(3, .ref x), (0, .ref sh), (1, .ref a), (2, .int idv)]) S.1 S.2.1 d_Shelf_make_43 rfl hl (by decide) rfl (fun ls hl => ?_)
    refine lv_aload_n S.1 S.2.1 d_Shelf_make_44 rfl (lv_at hl 0 rfl) ?_
    refine lv_aload_n S.1 S.2.1 d_Shelf_make_45 rfl (lv_at hl 2 rfl) ?_
    refine lv_iload_n S.1 S.2.1 d_Shelf_make_46 rfl (lv_at hl 3 rfl) ?_
    have hnt := hUj.nt x0 x1
    have hna : x + 1 ≠ a := fun z => hnt (by rw [z]; exact hUa)
    have hnb : x + 2 ≠ a + 1 := by omega
    refine gc_Vv S hI (c_File_begin l P fj (nid := idv) x0 x1 x2 haj hbj hna hnb hn (by omega) hcp hg) kv_File_begin wi_208 x0 rfl rfl rfl hl.1 rfl (Nat.le_of_ble_eq_true rfl) ⟨Nat.le_of_ble_eq_true rfl, Nat.le_of_ble_eq_true rfl⟩ ⟨Nat.le_of_ble_eq_true rfl, Nat.le_of_ble_eq_true rfl⟩ d_Shelf_make_47 (fun f116 H locs hp117 hI => ?_)
    obtain ⟨p0, p1, p2, pF⟩ := hp117
    have hsh1 : gSh P f116 ow sh L SF1 SP e1 c1 e2 c2 e3 c3 af := hj.tt hzj x0 x1 x2 pF (fun q _ _ => rfl) (fun z => absurd (List.mem_append_left _ z) hxn) (fun z => hxn (List.mem_append_right _ z))
    have hFU1 : gFU f f116 U := hFj.trans (hUj.tt x0 x1 x2 pF)
    have ha1 := hFU1 a _ hUa ha
    have hb1 := hFU1 (a + 1) _ hUb hb
    have px3 := pF (x + 3) _ x3 (nm3 (by omega) (by omega) (by omega))
    have hfi1 : gFi P f116 ow (sh + 3) x (nmL n g, idv, 0, (fun _ => false), (fun _ => 0)) := by
      refine ⟨n, _, psx, p0, p1, p2, px3, by omega, sb_fitC hg x5, nmL_cpy, ?_⟩
      have hps1 : gPs P f116 ow x psx v.2.2.2.1 v.2.2.2.2 := x7.fr pF (fun t y ht hy => by
        obtain ⟨-, hh, d2, -⟩ := (x7 t ht).2 y hy
        exact ⟨nm3 (gh_ne d2.1 x0 (by intro h; simp at h)) (gh_ne d2.1 x1 (by intro h; simp at h)) (gh_ne d2.1 x2 (by intro h; cases h)), nm3 (gh_ne d2.2.1 x0 (by intro h; cases h)) (gh_ne d2.2.1 x1 (by intro h; cases h)) (fun z => by have d1 := d2.1; rw [show y = x + 1 by omega, x1] at d1; simp at d1)⟩)
      exact hps1.congr (fun t _ => (hv1 t).symm) (fun t jj _ _ _ => (hv2 _).symm)
    refine lv_aload_n S.1 S.2.1 d_Shelf_make_50 rfl (lv_at hl 1 rfl) ?_
    refine gh_get S hI hsh1.1 rfl i_Shelf 0 (by decide) wi_67 rfl d_Shelf_make_51 ?_
    refine lv_aload_n S.1 S.2.1 d_Shelf_make_54 rfl (lv_at hl 1 rfl) ?_
    refine lv_aload_n S.1 S.2.1 d_Shelf_make_55 rfl (lv_at hl 2 rfl) ?_
    have hpl9 := plc_le (nms af L) (nmL n g)
    rw [show (nms af L).length = L.length by simp [nms]] at hpl9
    refine gc_Vi S hI (c_Shelf_placeOf l P f116 hsh1 ha1 hb1 hn hcp) kv_Shelf_placeOf wi_135 hsh1.1 rfl rfl rfl hl.1 rfl (Nat.le_of_ble_eq_true rfl) ⟨Nat.le_of_ble_eq_true rfl, Nat.le_of_ble_eq_true rfl⟩ ⟨by show _ ≤ 5; omega, by show _ ≤ 526; omega⟩ d_Shelf_make_56 (fun r118 f119 H locs hp120 hI => ?_)
    obtain ⟨hp1, hp2⟩ := hp120
    subst hp1
    rw [hp2] at hI
    obtain ⟨m1, hal1⟩ := hsh1.2.1.1
    refine lv_aload_n S.1 S.2.1 d_Shelf_make_59 rfl (lv_at hl 0 rfl) ?_
    have hz1 := gB_z hI
    refine gc_Vv S hI (c_AL_add1 l P f116 hsh1.2.1 (i := plc (nms af L) (nmL n g)) hpl9 hsh1.2.2.2.2.1.1 (by omega) hsh1.el (fun y hy => by obtain ⟨fs, z⟩ := hsh1.el.2 y hy; exact hsh1.2.1.npc (by decide) z hz1) p0 (fun z => by rw [z, hal1] at p0; simp at p0)) kv_AL_add1 wi_213 hal1 rfl rfl rfl hl.1 rfl (Nat.le_of_ble_eq_true rfl) ⟨Nat.le_of_ble_eq_true rfl, Nat.le_of_ble_eq_true rfl⟩ ⟨by show _ ≤ 5; omega, by show _ ≤ 526; omega⟩ d_Shelf_make_60 (fun f122 H locs hp123 hI => ?_)
    obtain ⟨⟨e1v, c1v, q1, q2, q3⟩, q4, -⟩ := hp123
    have hxL : x ∉ L := fun z => hxn (List.mem_append_left _ z)
    have hfin := hsh1.setL h34 hz1 q4 (af' := va_up af x (nmL n g, idv, 0, (fun _ => false), (fun _ => 0))) q1 q2 q3 (fun q hq => by
      rcases (mem_ins hpl9).mp hq with e | e
      · rw [e, va_up_self]; exact ⟨hfi1, wfF_0⟩
      · rw [va_up_ne _ _ (fun z => hxL (by rw [← z]; exact e))]; exact hsh1.2.2.2.2.2.1 q e) (nodup_ins hsh1.2.2.2.2.2.2.2.1 hxn hpl9) (by rw [List.length_insertIdx_of_le_length hpl9]; omega)
    refine lv_aload_n S.1 S.2.1 d_Shelf_make_63 rfl (lv_at hl 0 rfl) ?_
    exact gr_r S hr (Or.inl ⟨_, rfl⟩) hlk hI (⟨SF1, e1v, c1v, hfin, hxL, hFU1.trans ((hU.to hFU1).frl hsh1.2.1 hz1 q4)⟩) d_Shelf_make_64
  refine lv_aload_n S.1 S.2.1 d_Shelf_make_0 rfl (lv_at hl 0 rfl) ?_
  refine gh_get S hI h.1 rfl i_Shelf 1 (by decide) wi_68 rfl d_Shelf_make_1 ?_
  refine gc_Vi S hI (c_AL_isEmpty l P f hl2 (by have := h.2.2.2.2.2.2.2.2.1; omega)) kv_AL_isEmpty wi_183 hal2 rfl rfl rfl hl.1 rfl (Nat.le_of_ble_eq_true rfl) ⟨Nat.le_of_ble_eq_true rfl, Nat.le_of_ble_eq_true rfl⟩ ⟨Nat.le_of_ble_eq_true rfl, Nat.le_of_ble_eq_true rfl⟩ d_Shelf_make_4 (fun r124 f125 H locs hp126 hI => ?_)
  obtain ⟨hp1, hp2⟩ := hp126
  subst hp1
  rw [hp2] at hI
  have hSl := h.2.2.2.2.2.2.2.2.1
  by_cases hS : SF.length = 0
  · rw [show (if SF.length = 0 then nI 1 else nI 0 : Int32) = nI 1 from if_pos hS]
    refine lv_if_eq (tgt := 24) S.1 S.2.1 d_Shelf_make_7 (by decide) (fun c127 => ?_) (fun c127 => ?_)
    · skip
      replace c127 : 1 = 0 := (nI_eq (a := 1) (b := 0) (by omega) (by omega)).mp c127
      exact absurd c127 (by omega)
    · skip
      replace c127 : ¬ 1 = 0 := fun z => c127 ((nI_eq (a := 1) (b := 0) (by omega) (by omega)).mpr z)
      obtain ⟨z0, hz⟩ : ∃ z, H.size = z := ⟨_, rfl⟩
      have hnw := gB_new hI hz
      refine gh_newZ (ci := 4) (fs := [.null, .null, .null, .int 0, .int 0]) S hI hz rfl i_File t_File tk_File wi_156 wi_187 wi_13 (fun j hj => by rcases (show j = 0 ∨ j = 1 ∨ j = 2 ∨ j = 3 ∨ j = 4 by omega) with rfl | rfl | rfl | rfl | rfl <;> rfl) (Nat.le_of_ble_eq_true rfl) (Nat.le_of_ble_eq_true rfl) d_Shelf_make_10 (fun H hn128 hz hI => ?_)
      replace hz : H.size = z0 + 1 := hz
      have hI : gB P (va_up f z0 (some (.inr (4, [.null, .null, .null, .int 0, .int 0])))) s H locs := hI
      obtain ⟨f129, ef129⟩ : ∃ z, z = va_up f z0 (some (.inr (4, [.null, .null, .null, .int 0, .int 0]))) := ⟨_, rfl⟩
      rw [← ef129] at hI
      have h130 : f129 a = some (.inr (1, [.ref (a + 1), .int (nI n)])) := by rw [ef129, va_up_ne _ _ (gh_ne ha hn128 (by intro h; cases h))]; exact ha
      have h131 : f129 (a + 1) = some (.inl (P.2.1 0, cap, .inl g)) := by rw [ef129, va_up_ne _ _ (gh_ne hb hn128 (by intro h; cases h))]; exact hb
      have h132 : f129 sh = some (.inr (5, [.ref (sh + 1), .ref (sh + 2), .ref (sh + 3)])) := by rw [ef129, va_up_ne _ _ (gh_ne h.1 hn128 (by intro h; cases h))]; exact h.1
      have h133 : f129 (sh + 2) = some (.inr (6, [.int m2, .ref e2, .int (nI SF.length)])) := by rw [ef129, va_up_ne _ _ (gh_ne hal2 hn128 (by intro h; cases h))]; exact hal2
      have h134 : f129 z0 = some (.inr (4, [.null, .null, .null, .int 0, .int 0])) := by rw [ef129]; exact va_up_self _ _ _
      refine lv_dup S.1 S.2.1 d_Shelf_make_13 rfl ?_
      refine lv_aload_n S.1 S.2.1 d_Shelf_make_14 rfl (lv_at hl 0 rfl) ?_
      refine gh_get S hI h132 rfl i_Shelf 2 (by decide) wi_69 rfl d_Shelf_make_15 ?_
      have hF0 : gFr f f129 [] := by rw [ef129]; exact gFr.upN hn128 gFr.rf
      refine gc_Iz S hI hz (c_File_initZ l P f129 (pl := sh + 3) h134) kv_File_init wi_188 rfl hl.1 rfl (Nat.le_of_ble_eq_true rfl) ⟨Nat.le_of_ble_eq_true rfl, Nat.le_of_ble_eq_true rfl⟩ ⟨Nat.le_of_ble_eq_true rfl, Nat.le_of_ble_eq_true rfl⟩ d_Shelf_make_18 (fun f135 z136 H locs hp137 hI hz => ?_)
      obtain ⟨q0, q1, q2, q3, q4, q5⟩ := hp137
      dsimp only at q0 q1 q2 q3 q4 q5
      have hF1 : gFr f f135 [] := hF0.call q5 (fun q hq => Or.inr (by rw [List.mem_singleton.mp hq]; exact hn128))
      refine lv_goto (tgt := 43) S.1 S.2.1 d_Shelf_make_21 (by decide) ?_
      have hSn : SF = [] := List.length_eq_zero_iff.mp hS
      refine join f135 z0 SF ([], nI 0, 0, (fun _ => false), (fun _ => 0)) (h.fr0 hF1) ⟨0, _, _, q1, q2, q3, q4, by omega, sb_fit0, rfl, fun t ht => ⟨rfl, fun y hy => by cases hy⟩⟩ rfl (fun _ => rfl) (fun _ => rfl) ?_ (by omega) (gFU.fr0 hF1) _ _ hI _ (lv_sub hl [0, 1, 2] rfl)
      intro z
      rcases List.mem_append.mp z with z | z
      · obtain ⟨fs, z⟩ := h.el.2 _ z
        rw [hnw.n] at z; cases z
      · rw [hSn] at z; cases z
  · rw [show (if SF.length = 0 then nI 1 else nI 0 : Int32) = nI 0 from if_neg hS]
    refine lv_if_eq (tgt := 24) S.1 S.2.1 d_Shelf_make_7 (by decide) (fun c138 => ?_) (fun c138 => ?_)
    · skip
      replace c138 : 0 = 0 := (nI_eq (a := 0) (b := 0) (by omega) (by omega)).mp c138
      refine lv_aload_n S.1 S.2.1 d_Shelf_make_24 rfl (lv_at hl 0 rfl) ?_
      refine gh_get S hI h.1 rfl i_Shelf 1 (by decide) wi_68 rfl d_Shelf_make_25 ?_
      refine lv_aload_n S.1 S.2.1 d_Shelf_make_28 rfl (lv_at hl 0 rfl) ?_
      refine gh_get S hI h.1 rfl i_Shelf 1 (by decide) wi_68 rfl d_Shelf_make_29 ?_
      refine gc_Vi S hI (c_AL_size l P f hl2) kv_AL_size wi_138 hal2 rfl rfl rfl hl.1 rfl (Nat.le_of_ble_eq_true rfl) ⟨Nat.le_of_ble_eq_true rfl, Nat.le_of_ble_eq_true rfl⟩ ⟨Nat.le_of_ble_eq_true rfl, Nat.le_of_ble_eq_true rfl⟩ d_Shelf_make_32 (fun r139 f140 H locs hp141 hI => ?_)
      obtain ⟨hp1, hp2⟩ := hp141
      subst hp1
      rw [hp2] at hI
      refine lv_iconst (v := nI 1) S.1 S.2.1 d_Shelf_make_35 (by decide) ?_
      refine lv_isub S.1 S.2.1 d_Shelf_make_36 ?_
      refine lv_topi (fun v142 ev142 => ?_)
      replace ev142 : v142 = nI (SF.length - 1) := ev142.trans (pk_sub (by omega))
      subst ev142
      refine gc_Vr S hI (c_AL_remove l P f hl2 (i := SF.length - 1) (by omega) hcc2 h.elS (fun y hy => by obtain ⟨fs, z⟩ := h.elS.2 y hy; exact hl2.npc (by decide) z hz0)) kv_AL_remove wi_200 hal2 rfl rfl rfl hl.1 rfl (Nat.le_of_ble_eq_true rfl) ⟨Nat.le_of_ble_eq_true rfl, Nat.le_of_ble_eq_true rfl⟩ ⟨Nat.le_of_ble_eq_true rfl, Nat.le_of_ble_eq_true rfl⟩ d_Shelf_make_37 (fun r143 f144 H locs hp145 hI => ?_)
      obtain ⟨p1, p2, p3⟩ := hp145
      have hlast := l_last p1
      have hxS := List.mem_of_getElem? p1
      obtain ⟨SF1, hSF1⟩ : ∃ z, z = SF.eraseIdx (SF.length - 1) := ⟨_, rfl⟩
      rw [← hSF1] at p2 hlast
      obtain ⟨v, v1, v2, v3, v4⟩ := h.2.2.2.2.2.2.1 r143 hxS
      have hfx := v1.li hl2 h34 hz0 p3
      obtain ⟨nx, gx, psx, x0, -⟩ := id hfx
      refine gh_cast (q := (R_File, F_File, 5)) S hI rfl x0 wi_156 d_Shelf_make_40 ?_
      have hnd := h.2.2.2.2.2.2.2.1
      rw [hlast, ← List.append_assoc] at hnd
      have hnd2 := List.nodup_append.mp hnd
      have hln : SF.length = SF1.length + 1 := by rw [hlast]; simp
      have hj := h.setS h34 hz0 p3 p2 h.2.2.2.2.1.2 (Or.inl rfl) (fun q hq => h.2.2.2.2.2.2.1 q (by rw [hlast]; exact List.mem_append_left _ hq)) hnd2.1 (by omega)
      refine W.widen (k := 4) (n := 226) (by omega) (by omega) ?_
      exact join f144 r143 SF1 v hj hfx v2 v3 v4 (fun z => hnd2.2.2 _ z _ (by simp) rfl) (by omega) (hU.frl hl2 hz0 p3) _ _ hI _ (lv_sub hl [0, 1, 2] rfl)
    · skip
      replace c138 : ¬ 0 = 0 := fun z => c138 ((nI_eq (a := 0) (b := 0) (by omega) (by omega)).mpr z)
      exact absurd c138 (by omega)
theorem nodup_er {L : List Nat} {x k : Nat} (h : L.Nodup) (hx : L[k]? = some x) : x ∉ L.eraseIdx k := by
  intro z
  obtain ⟨j, hj⟩ := List.getElem?_of_mem z
  rw [List.getElem?_eraseIdx] at hj
  have inj : ∀ {i i2 : Nat}, L[i]? = some x → L[i2]? = some x → i = i2 := by
    intro i i2 h1 h2
    obtain ⟨a1, a2⟩ := List.getElem?_eq_some_iff.mp h1
    obtain ⟨b1, b2⟩ := List.getElem?_eq_some_iff.mp h2
    exact (List.getElem_inj h).mp (a2.trans b2.symm)
  by_cases c : j < k
  · rw [if_pos c] at hj; have := inj hj hx; omega
  · rw [if_neg c] at hj; have := inj hj hx; omega
set_option maxHeartbeats 4000000 in
set_option maxRecDepth 100000 in
theorem c_Shelf_remove (l : Launch) (P : gPar) (f : gM) {sh e1 c1 e2 c2 e3 c3 : Nat} {L SF SP : List Nat} {ow : gO} {af : Nat → AFile} {a n cap : Nat} {g : Nat → Int32} {U : Nat → Prop} (h : gSh P f ow sh L SF SP e1 c1 e2 c2 e3 c3 af) (ha : f a = some (.inr (1, [.ref (a + 1), .int (nI n)]))) (hb : f (a + 1) = some (.inl (P.2.1 0, cap, .inl g))) (hn : n ≤ cap) (hcp : cap < 2 ^ 20) (hU : gUo f U) (hcnt : SP.length + sumC af L ≤ 121) : gC l P y_Shelf_remove b_Shelf_remove 4 (some .boolean) 10 20 6000 [.ref sh, .ref a] f (gQi P (fun r f1 => (idx (nms af L) (nmL n g) = none ∧ r = nI 0 ∧ f1 = f) ∨ ∃ k x, idx (nms af L) (nmL n g) = some k ∧ L[k]? = some x ∧ r = nI 1 ∧ ∃ (ow1 : gO) (SP1 : List Nat) (e2v c2v e3v c3v : Nat), gSh P f1 ow1 sh (L.eraseIdx k) (SF ++ [x]) SP1 e1 c1 e2v c2v e3v c3v af ∧ SP1.length = SP.length + cntL (af x).2.2.2.1 19 ∧ gFU f f1 U)) := by
  refine gC_of (by decide) (Nat.le_of_ble_eq_true rfl) (fun p env s m args below meth c S hr hlk hnm H locs hI ls hl => ?_)
  have hl : lv_has ls 4 [(0, .ref sh), (1, .ref a)] := hl
  have hz0 := gB_z hI
  have h34 := gX_34 hI.1
  have hlL : L.length ≤ 48 := by have := h.2.2.2.2.2.2.2.2.1; omega
  have hl1 := h.2.1
  obtain ⟨m1, hal1⟩ := hl1.1
  have hcc : c1 < 2 ^ 20 := by have := h.2.2.2.2.1.1; omega
  refine lv_aload_n S.1 S.2.1 d_Shelf_remove_0 rfl (lv_at hl 0 rfl) ?_
  refine lv_aload_n S.1 S.2.1 d_Shelf_remove_1 rfl (lv_at hl 1 rfl) ?_
  refine gc_Vi S hI (c_Shelf_indexOf l P f h ha hb hn hcp) kv_Shelf_indexOf wi_132 h.1 rfl rfl rfl hl.1 rfl (Nat.le_of_ble_eq_true rfl) ⟨Nat.le_of_ble_eq_true rfl, Nat.le_of_ble_eq_true rfl⟩ ⟨Nat.le_of_ble_eq_true rfl, Nat.le_of_ble_eq_true rfl⟩ d_Shelf_remove_2 (fun r146 f147 H locs hp148 hI => ?_)
  obtain ⟨hp1, hp2⟩ := hp148
  subst hp1
  rw [hp2] at hI
  rcases hix : idx (nms af L) (nmL n g) with _ | k
  · skip
    rw [show idxI none = (-2) from rfl]
    refine lv_istore_n (lv' := [(2, .int (-2)), (0, .ref sh), (1, .ref a)]) S.1 S.2.1 d_Shelf_remove_5 rfl hl (by decide) rfl (fun ls hl => ?_)
    refine lv_iload_n S.1 S.2.1 d_Shelf_remove_6 rfl (lv_at hl 0 rfl) ?_
    refine lv_if_ge (tgt := 12) S.1 S.2.1 d_Shelf_remove_7 (by decide) (fun c149 => ?_) (fun c149 => ?_)
    · skip
      exact absurd c149 (by decide)
    · skip
      refine lv_iconst (v := nI 0) S.1 S.2.1 d_Shelf_remove_10 (by decide) ?_
      refine W.widen (k := 20) (n := 6000) (by omega) (by omega) ?_
      exact gr_z S hr hlk hI (by first | exact Or.inl rfl | exact Or.inr rfl) (Or.inl ⟨rfl, rfl, rfl⟩) d_Shelf_remove_11
  · skip
    rw [show idxI (some k) = nI k from rfl]
    obtain ⟨hk1, hk2, hk3⟩ := idx_lt hix
    have hkL : k < L.length := by simpa [nms] using hk1
    refine lv_istore_n (lv' := [(2, .int (nI k)), (0, .ref sh), (1, .ref a)]) S.1 S.2.1 d_Shelf_remove_5 rfl hl (by decide) rfl (fun ls hl => ?_)
    refine lv_iload_n S.1 S.2.1 d_Shelf_remove_6 rfl (lv_at hl 0 rfl) ?_
    refine lv_if_ge (tgt := 12) S.1 S.2.1 d_Shelf_remove_7 (by decide) (fun c150 => ?_) (fun c150 => ?_)
    · skip
      refine lv_aload_n S.1 S.2.1 d_Shelf_remove_12 rfl (lv_at hl 1 rfl) ?_
      refine gh_get S hI h.1 rfl i_Shelf 0 (by decide) wi_67 rfl d_Shelf_remove_13 ?_
      refine lv_iload_n S.1 S.2.1 d_Shelf_remove_16 rfl (lv_at hl 0 rfl) ?_
      refine gc_Vr S hI (c_AL_remove l P f hl1 (i := k) hkL hcc h.el (fun y hy => by obtain ⟨fs, z⟩ := h.el.2 y hy; exact hl1.npc (by decide) z hz0)) kv_AL_remove wi_200 hal1 rfl rfl rfl hl.1 rfl (Nat.le_of_ble_eq_true rfl) ⟨Nat.le_of_ble_eq_true rfl, Nat.le_of_ble_eq_true rfl⟩ ⟨by show _ ≤ 20; omega, by show _ ≤ 6000; omega⟩ d_Shelf_remove_17 (fun r151 f152 H locs hp153 hI => ?_)
      obtain ⟨p1, p2, p3⟩ := hp153
      have hxL := List.mem_of_getElem? p1
      obtain ⟨vf, vw⟩ := h.2.2.2.2.2.1 r151 hxL
      have hfx := vf.li hl1 h34 hz0 p3
      obtain ⟨nx, gx, psx, x0, x1, x2, x3, x4, x5, x6, x7⟩ := id hfx
      have hsub : ∀ q, q ∈ L.eraseIdx k → q ∈ L := fun q hq => List.mem_of_mem_eraseIdx hq
      have hnd := h.2.2.2.2.2.2.2.1
      have hndL := (List.nodup_append.mp hnd).1
      have hxE : r151 ∉ L.eraseIdx k := nodup_er hndL p1
      have hxS : r151 ∉ SF := fun z => (List.nodup_append.mp hnd).2.2 _ hxL _ z rfl
      have hlE : (L.eraseIdx k).length + 1 = L.length := by rw [List.length_eraseIdx_of_lt hkL]; omega
      have h48 := h.2.2.2.2.2.2.2.2.1
      have hsh1 : gSh P f152 ow sh (L.eraseIdx k) SF SP e1 c1 e2 c2 e3 c3 af := h.setL h34 hz0 p3 p2 h.2.2.2.2.1.1 (Or.inl rfl) (fun q hq => h.2.2.2.2.2.1 q (hsub q hq)) (hnd.sublist ((List.eraseIdx_sublist L k).append (List.Sublist.refl SF))) (by omega)
      have hFU1 : gFU f f152 U := hU.frl hl1 hz0 p3
      refine gh_cast (q := (R_File, F_File, 5)) S hI rfl x0 wi_156 d_Shelf_remove_20 ?_
      refine lv_astore_n (lv' := [(3, .ref r151), (2, .int (nI k)), (0, .ref sh), (1, .ref a)]) S.1 S.2.1 d_Shelf_remove_23 rfl hl (by decide) rfl (fun ls hl => ?_)
      refine lv_aload_n S.1 S.2.1 d_Shelf_remove_24 rfl (lv_at hl 0 rfl) ?_
      refine lv_iconst (v := nI 0) S.1 S.2.1 d_Shelf_remove_25 (by decide) ?_
      have hcx : cntL (af r151).2.2.2.1 19 ≤ sumC af L := sum_mem (fun q => cntL (af q).2.2.2.1 19) hxL
      refine gc_Vv S hI (c_File_cut l P f152 (nl := 0) x0 x3 x7 hsh1.2.2.2.1 (by omega) (by omega) (fun s hs => by have := vw.2.2.1 s hs; have := vw.1; omega) (fun p hp => vw.2.1 p (by have := vw.1; omega))) kv_File_cut wi_315 x0 rfl rfl rfl hl.1 rfl (Nat.le_of_ble_eq_true rfl) ⟨Nat.le_of_ble_eq_true rfl, Nat.le_of_ble_eq_true rfl⟩ ⟨by show _ ≤ 20; omega, by show _ ≤ 6000; omega⟩ d_Shelf_remove_26 (fun f155 H locs hp156 hI => ?_)
      obtain ⟨ow1, ps1, SP1, e3v, c3v, d0, d3, d4, d5, d6, d7⟩ := hp156
      have hz1 : f152 P.2.2.2.1 = none := d6.2.2.2 _ (gB_z hI)
      have hsh2 : gSh P f155 ow1 sh (L.eraseIdx k) SF SP1 e1 c1 e2 c2 e3v c3v af := hsh1.rel h34 hz1 ⟨_, x0⟩ x3 x7 d6 d4 (fun q _ _ => rfl) (fun z => absurd z hxE) hxS
      have hUo1 := hU.to hFU1
      have hFU2 : gFU f f155 U := hFU1.trans (hUo1.rel hfx x7 hsh1.2.2.2.1 hz1 d6)
      have hnt1 := hUo1
      have hout : ¬ gXs r151 (sh + 3) e3 SP psx (r151 + 1) ∧ ¬ gXs r151 (sh + 3) e3 SP psx (r151 + 1 + 1) := gXs_row hz1 x0 x3 x7 hsh1.2.2.2.1 x1 x2
      have d1 := d6.1 _ _ x1 hout.1
      have d2 := d6.1 _ _ x2 hout.2
      have hc0 : cntL (ctl (af r151).2.2.2.1 0) 19 = 0 := by
        rw [cntL_congr (ld' := fun _ => false) 19 (fun s _ => by unfold ctl; simp)]; rfl
      have hblank : gFi P f155 ow1 (sh + 3) r151 ((af r151).1, (af r151).2.1, 0, ctl (af r151).2.2.2.1 0, ctc (af r151).2.2.2.2 0) := ⟨nx, gx, ps1, d0, d1, d2, d3, x4, x5, x6, d5⟩
      obtain ⟨m2, hal2⟩ := hsh2.2.2.1.1
      have hz2 := gB_z hI
      refine lv_aload_n S.1 S.2.1 d_Shelf_remove_29 rfl (lv_at hl 2 rfl) ?_
      refine gh_get S hI hsh2.1 rfl i_Shelf 1 (by decide) wi_68 rfl d_Shelf_remove_30 ?_
      refine lv_aload_n S.1 S.2.1 d_Shelf_remove_33 rfl (lv_at hl 0 rfl) ?_
      refine gc_Vi S hI (c_AL_add2 l P f155 hsh2.2.2.1 hsh2.2.2.2.2.1.2 (by omega) hsh2.elS (fun y hy => by obtain ⟨fs, z⟩ := hsh2.elS.2 y hy; exact hsh2.2.2.1.npc (by decide) z hz2) d0 (fun z => by rw [z, hal2] at d0; simp at d0)) kv_AL_add2 wi_340 hal2 rfl rfl rfl hl.1 rfl (Nat.le_of_ble_eq_true rfl) ⟨Nat.le_of_ble_eq_true rfl, Nat.le_of_ble_eq_true rfl⟩ ⟨by show _ ≤ 20; omega, by show _ ≤ 6000; omega⟩ d_Shelf_remove_34 (fun r157 f158 H locs hp159 hI => ?_)
      obtain ⟨q0, ⟨e2v, c2v, q1, q2, q3⟩, q4, -⟩ := hp159
      have hnd3 : (L.eraseIdx k ++ (SF ++ [r151])).Nodup := by
        rw [← List.append_assoc]
        exact List.nodup_append.mpr ⟨hsh2.2.2.2.2.2.2.2.1, by simp, fun a ha b hb => by
          rw [List.mem_singleton.mp hb]
          intro z
          rw [z] at ha
          exact (List.mem_append.mp ha).elim hxE hxS⟩
      have hsh3 := hsh2.setS h34 hz2 q4 q1 q2 q3 (fun q hq => by
        rcases List.mem_append.mp hq with e | e
        · exact hsh2.2.2.2.2.2.2.1 q e
        · rw [List.mem_singleton.mp e]; exact ⟨_, hblank, rfl, fun s => by unfold ctl; simp, fun p => by unfold ctc; simp⟩) hnd3 (by simp; omega)
      refine lv_pop S.1 S.2.1 d_Shelf_remove_37 rfl ?_
      refine lv_iconst (v := nI 1) S.1 S.2.1 d_Shelf_remove_38 (by decide) ?_
      refine W.widen (k := 20) (n := 6000) (by omega) (by omega) ?_
      exact gr_z S hr hlk hI (by first | exact Or.inl rfl | exact Or.inr rfl) (Or.inr ⟨k, r151, rfl, p1, rfl, ow1, SP1, e2v, c2v, e3v, c3v, hsh3, by rw [hc0] at d7; omega, hFU2.trans ((hU.to hFU2).frl hsh2.2.2.1 hz2 q4)⟩) d_Shelf_remove_39
    · skip
      exact absurd (nI_pos' (by omega)) c150
set_option maxHeartbeats 4000000 in
set_option maxRecDepth 100000 in
theorem c_Shelf_rename (l : Launch) (P : gPar) (f : gM) {sh e1 c1 e2 c2 e3 c3 : Nat} {L SF SP : List Nat} {ow : gO} {af : Nat → AFile} {a n cap : Nat} {g : Nat → Int32} {b n2 cap2 k : Nat} {g2 : Nat → Int32} {U : Nat → Prop} (h : gSh P f ow sh L SF SP e1 c1 e2 c2 e3 c3 af) (ha : f a = some (.inr (1, [.ref (a + 1), .int (nI n)]))) (hb : f (a + 1) = some (.inl (P.2.1 0, cap, .inl g))) (hn : n ≤ cap) (hcp : cap < 2 ^ 20) (ha2 : f b = some (.inr (1, [.ref (b + 1), .int (nI n2)]))) (hb2 : f (b + 1) = some (.inl (P.2.1 0, cap2, .inl g2))) (hn2 : n2 ≤ cap2) (hcp2 : cap2 < 2 ^ 20) (hgB : sb_Fit g2) (h200b : n2 ≤ 200) (hUb : U b) (hUb1 : U (b + 1)) (hU : gUo f U) (hix : idx (nms af L) (nmL n g) = some k) : gC l P y_Shelf_rename b_Shelf_rename 5 none 6 1 300 [.ref sh, .ref a, .ref b] f (gQv P (fun f1 => ∃ x, L[k]? = some x ∧ ∃ (e1v c1v : Nat), gSh P f1 ow sh ((L.eraseIdx k).insertIdx (plc (nms af (L.eraseIdx k)) (nmL n2 g2)) x) SF SP e1v c1v e2 c2 e3 c3 (va_up af x (nmL n2 g2, (af x).2)) ∧ gFU f f1 U)) := by
  refine gC_of (by decide) (Nat.le_of_ble_eq_true rfl) (fun p env s m args below meth c S hr hlk hnm H locs hI ls hl => ?_)
  have hl : lv_has ls 5 [(0, .ref sh), (1, .ref a), (2, .ref b)] := hl
  have hz0 := gB_z hI
  have h34 := gX_34 hI.1
  have hlL : L.length ≤ 48 := by have := h.2.2.2.2.2.2.2.2.1; omega
  have hl1 := h.2.1
  obtain ⟨m1, hal1⟩ := hl1.1
  have hcc : c1 < 2 ^ 20 := by have := h.2.2.2.2.1.1; omega
  refine lv_aload_n S.1 S.2.1 d_Shelf_rename_0 rfl (lv_at hl 0 rfl) ?_
  refine lv_aload_n S.1 S.2.1 d_Shelf_rename_1 rfl (lv_at hl 1 rfl) ?_
  refine gc_Vi S hI (c_Shelf_indexOf l P f h ha hb hn hcp) kv_Shelf_indexOf wi_132 h.1 rfl rfl rfl hl.1 rfl (Nat.le_of_ble_eq_true rfl) ⟨Nat.le_of_ble_eq_true rfl, Nat.le_of_ble_eq_true rfl⟩ ⟨Nat.le_of_ble_eq_true rfl, Nat.le_of_ble_eq_true rfl⟩ d_Shelf_rename_2 (fun r160 f161 H locs hp162 hI => ?_)
  obtain ⟨hp1, hp2⟩ := hp162
  subst hp1
  rw [hp2] at hI
  rw [hix, show idxI (some k) = nI k from rfl]
  obtain ⟨hk1, hk2, hk3⟩ := idx_lt hix
  have hkL : k < L.length := by simpa [nms] using hk1
  refine lv_istore_n (lv' := [(3, .int (nI k)), (0, .ref sh), (1, .ref a), (2, .ref b)]) S.1 S.2.1 d_Shelf_rename_5 rfl hl (by decide) rfl (fun ls hl => ?_)
  refine lv_iload_n S.1 S.2.1 d_Shelf_rename_6 rfl (lv_at hl 0 rfl) ?_
  refine lv_if_ge (tgt := 11) S.1 S.2.1 d_Shelf_rename_7 (by decide) (fun c163 => ?_) (fun c163 => ?_)
  · skip
    refine lv_aload_n S.1 S.2.1 d_Shelf_rename_11 rfl (lv_at hl 1 rfl) ?_
    refine gh_get S hI h.1 rfl i_Shelf 0 (by decide) wi_67 rfl d_Shelf_rename_12 ?_
    refine lv_iload_n S.1 S.2.1 d_Shelf_rename_15 rfl (lv_at hl 0 rfl) ?_
    refine gc_Vr S hI (c_AL_remove l P f hl1 (i := k) hkL hcc h.el (fun y hy => by obtain ⟨fs, z⟩ := h.el.2 y hy; exact hl1.npc (by decide) z hz0)) kv_AL_remove wi_200 hal1 rfl rfl rfl hl.1 rfl (Nat.le_of_ble_eq_true rfl) ⟨Nat.le_of_ble_eq_true rfl, Nat.le_of_ble_eq_true rfl⟩ ⟨by show _ ≤ 1; omega, by show _ ≤ 300; omega⟩ d_Shelf_rename_16 (fun r164 f165 H locs hp166 hI => ?_)
    obtain ⟨p1, p2, p3⟩ := hp166
    have hxL := List.mem_of_getElem? p1
    obtain ⟨vf, vw⟩ := h.2.2.2.2.2.1 r164 hxL
    have hfx := vf.li hl1 h34 hz0 p3
    obtain ⟨nx, gx, psx, x0, x1, x2, x3, x4, x5, x6, x7⟩ := id hfx
    have hsub : ∀ q, q ∈ L.eraseIdx k → q ∈ L := fun q hq => List.mem_of_mem_eraseIdx hq
    have hnd := h.2.2.2.2.2.2.2.1
    have hndL := (List.nodup_append.mp hnd).1
    have hxE : r164 ∉ L.eraseIdx k := nodup_er hndL p1
    have hxS : r164 ∉ SF := fun z => (List.nodup_append.mp hnd).2.2 _ hxL _ z rfl
    have hlE : (L.eraseIdx k).length + 1 = L.length := by rw [List.length_eraseIdx_of_lt hkL]; omega
    have h48 := h.2.2.2.2.2.2.2.2.1
    have hsh1 : gSh P f165 ow sh (L.eraseIdx k) SF SP e1 c1 e2 c2 e3 c3 af := h.setL h34 hz0 p3 p2 h.2.2.2.2.1.1 (Or.inl rfl) (fun q hq => h.2.2.2.2.2.1 q (hsub q hq)) (hnd.sublist ((List.eraseIdx_sublist L k).append (List.Sublist.refl SF))) (by omega)
    have hFU1 : gFU f f165 U := hU.frl hl1 hz0 p3
    refine gh_cast (q := (R_File, F_File, 5)) S hI rfl x0 wi_156 d_Shelf_rename_19 ?_
    have hUo1 := hU.to hFU1
    have hb1 := hFU1 b _ hUb ha2
    have hb11 := hFU1 (b + 1) _ hUb1 hb2
    have hz1 := gB_z hI
    refine lv_astore (lv' := [(4, .ref r164), (3, .int (nI k)), (0, .ref sh), (1, .ref a), (2, .ref b)]) S.1 S.2.1 d_Shelf_rename_22 hl (by decide) rfl (fun ls hl => ?_)
    refine lv_aload S.1 S.2.1 d_Shelf_rename_24 (lv_at hl 0 rfl) ?_
    refine gc_Vr S hI (c_File_title l P f165 x0) kv_File_title wi_157 x0 rfl rfl rfl hl.1 rfl (Nat.le_of_ble_eq_true rfl) ⟨Nat.le_of_ble_eq_true rfl, Nat.le_of_ble_eq_true rfl⟩ ⟨by show _ ≤ 1; omega, by show _ ≤ 300; omega⟩ d_Shelf_rename_26 (fun r167 f168 H locs hp169 hI => ?_)
    obtain ⟨ht1, ht2⟩ := hp169
    subst ht1
    rw [ht2] at hI
    refine lv_aload_n S.1 S.2.1 d_Shelf_rename_29 rfl (lv_at hl 4 rfl) ?_
    have hnt := (hUo1).nt x0 x1
    refine gc_Vv S hI (c_Row_become l P f165 x1 x2 hb1 hb11 (fun z => hnt (by rw [z]; exact hUb)) (fun z => hnt (by rw [show r164 + 1 = b by omega]; exact hUb)) hn2 (by omega) (by omega) hcp2 hgB) kv_Row_become wi_345 x1 rfl rfl rfl hl.1 rfl (Nat.le_of_ble_eq_true rfl) ⟨Nat.le_of_ble_eq_true rfl, Nat.le_of_ble_eq_true rfl⟩ ⟨by show _ ≤ 1; omega, by show _ ≤ 300; omega⟩ d_Shelf_rename_30 (fun f171 H locs hp172 hI => ?_)
    obtain ⟨t1, t2, t3⟩ := hp172
    have tF : gFr f165 f171 [r164, r164 + 1, r164 + 2] := t3.mono (fun q hq => List.mem_cons_of_mem _ hq)
    have t0 := t3 r164 _ x0 (nm2 (by omega) (by omega))
    have t4 := t3 (r164 + 3) _ x3 (nm2 (by omega) (by omega))
    have tps : gPs P f171 ow r164 psx (af r164).2.2.2.1 (af r164).2.2.2.2 := x7.fr t3 (fun t y ht hy => by
      obtain ⟨-, hh, d2, -⟩ := (x7 t ht).2 y hy
      exact ⟨nm2 (gh_ne d2.1 x1 (by intro h; simp at h)) (gh_ne d2.1 x2 (by intro h; cases h)), nm2 (gh_ne d2.2.1 x1 (by intro h; cases h)) (fun z => by have d1 := d2.1; rw [show y = r164 + 1 by omega, x1] at d1; simp at d1)⟩)
    have hsh2 : gSh P f171 ow sh (L.eraseIdx k) SF SP e1 c1 e2 c2 e3 c3 af := hsh1.tt hz1 x0 x1 x2 tF (fun q _ _ => rfl) (fun z => absurd z hxE) hxS
    have hFU2 : gFU f f171 U := hFU1.trans (hUo1.tt x0 x1 x2 tF)
    have hb2v := hFU2 b _ hUb ha2
    have hb21 := hFU2 (b + 1) _ hUb1 hb2
    have hfi2 : gFi P f171 ow (sh + 3) r164 (nmL n2 g2, (af r164).2) := ⟨n2, _, psx, t0, t1, t2, t4, by omega, sb_fitC hgB x5, nmL_cpy, tps⟩
    refine lv_aload_n S.1 S.2.1 d_Shelf_rename_33 rfl (lv_at hl 2 rfl) ?_
    refine gh_get S hI hsh2.1 rfl i_Shelf 0 (by decide) wi_67 rfl d_Shelf_rename_34 ?_
    refine lv_aload_n S.1 S.2.1 d_Shelf_rename_37 rfl (lv_at hl 2 rfl) ?_
    refine lv_aload_n S.1 S.2.1 d_Shelf_rename_38 rfl (lv_at hl 4 rfl) ?_
    have hpl9 := plc_le (nms af (L.eraseIdx k)) (nmL n2 g2)
    rw [show (nms af (L.eraseIdx k)).length = (L.eraseIdx k).length by simp [nms]] at hpl9
    refine gc_Vi S hI (c_Shelf_placeOf l P f171 hsh2 hb2v hb21 hn2 hcp2) kv_Shelf_placeOf wi_135 hsh2.1 rfl rfl rfl hl.1 rfl (Nat.le_of_ble_eq_true rfl) ⟨Nat.le_of_ble_eq_true rfl, Nat.le_of_ble_eq_true rfl⟩ ⟨by show _ ≤ 1; omega, by show _ ≤ 300; omega⟩ d_Shelf_rename_39 (fun r173 f174 H locs hp175 hI => ?_)
    obtain ⟨hp1, hp2⟩ := hp175
    subst hp1
    rw [hp2] at hI
    obtain ⟨m9, hal9⟩ := hsh2.2.1.1
    have hz2 := gB_z hI
    refine lv_aload S.1 S.2.1 d_Shelf_rename_42 (lv_at hl 0 rfl) ?_
    refine gc_Vv S hI (c_AL_add1 l P f171 hsh2.2.1 (i := plc (nms af (L.eraseIdx k)) (nmL n2 g2)) hpl9 hsh2.2.2.2.2.1.1 (by omega) hsh2.el (fun y hy => by obtain ⟨fs, z⟩ := hsh2.el.2 y hy; exact hsh2.2.1.npc (by decide) z hz2) t0 (fun z => by rw [z, hal9] at t0; simp at t0)) kv_AL_add1 wi_213 hal9 rfl rfl rfl hl.1 rfl (Nat.le_of_ble_eq_true rfl) ⟨Nat.le_of_ble_eq_true rfl, Nat.le_of_ble_eq_true rfl⟩ ⟨by show _ ≤ 1; omega, by show _ ≤ 300; omega⟩ d_Shelf_rename_44 (fun f177 H locs hp178 hI => ?_)
    obtain ⟨⟨e1v, c1v, q1, q2, q3⟩, q4, -⟩ := hp178
    have hfin := hsh2.setL h34 hz2 q4 (af' := va_up af r164 (nmL n2 g2, (af r164).2)) q1 q2 q3 (fun q hq => by
      rcases (mem_ins hpl9).mp hq with e | e
      · rw [e, va_up_self]; exact ⟨hfi2, vw⟩
      · rw [va_up_ne _ _ (fun z => hxE (by rw [← z]; exact e))]; exact hsh2.2.2.2.2.2.1 q e) (nodup_ins hsh2.2.2.2.2.2.2.2.1 (fun z => (List.mem_append.mp z).elim hxE hxS) hpl9) (by rw [List.length_insertIdx_of_le_length hpl9]; omega)
    exact gr_v S hr hlk hI (⟨r164, p1, e1v, c1v, hfin, hFU2.trans ((hU.to hFU2).frl hsh2.2.1 hz2 q4)⟩) d_Shelf_rename_47
  · skip
    exact absurd (nI_pos' (by omega)) c163
theorem nodup_sw {L S : List Nat} {x y i j : Nat} (h : (L ++ S).Nodup) (hi : L[i]? = some x) (hj : L[j]? = some y) : (((L.set i y).set j x) ++ S).Nodup ∧ ∀ q, q ∈ (L.set i y).set j x → q ∈ L := by
  have hmem : ∀ q, q ∈ (L.set i y).set j x → q ∈ L := by
    intro q hq
    rcases List.mem_or_eq_of_mem_set hq with z | z
    · rcases List.mem_or_eq_of_mem_set z with z | z
      · exact z
      · rw [z]; exact List.mem_of_getElem? hj
    · rw [z]; exact List.mem_of_getElem? hi
  obtain ⟨h1, h2, h3⟩ := List.nodup_append.mp h
  refine ⟨List.nodup_append.mpr ⟨?_, h2, fun a ha b hb => h3 a (hmem a ha) b hb⟩, hmem⟩
  have inj : ∀ {a b z : Nat}, L[a]? = some z → L[b]? = some z → a = b := by
    intro a b z h4 h5
    obtain ⟨a1, a2⟩ := List.getElem?_eq_some_iff.mp h4
    obtain ⟨b1, b2⟩ := List.getElem?_eq_some_iff.mp h5
    exact (List.getElem_inj h1).mp (a2.trans b2.symm)
  have hil := (List.getElem?_eq_some_iff.mp hi).1
  have hjl := (List.getElem?_eq_some_iff.mp hj).1
  -- place k of the new list is place sw k of the old one
  have hget : ∀ k, ((L.set i y).set j x)[k]? = L[if k = j then i else if k = i then j else k]? := by
    intro k
    by_cases e : k = j
    · rw [if_pos e, e, List.getElem?_set_self (by simpa using hjl), hi]
    · rw [if_neg e, List.getElem?_set_ne (Ne.symm e)]
      by_cases e2 : k = i
      · rw [if_pos e2, e2, List.getElem?_set_self hil, hj]
      · rw [if_neg e2, List.getElem?_set_ne (Ne.symm e2)]
  rw [List.nodup_iff_pairwise_ne, List.pairwise_iff_getElem]
  intro a b ha hb hab e
  have ea := List.getElem?_eq_getElem ha
  have eb := List.getElem?_eq_getElem hb
  rw [hget a] at ea
  rw [hget b, ← e] at eb
  have := inj ea eb
  (repeat' split at this) <;> omega
set_option maxHeartbeats 4000000 in
set_option maxRecDepth 100000 in
theorem c_Shelf_swap (l : Launch) (P : gPar) (f : gM) {sh e1 c1 e2 c2 e3 c3 : Nat} {L SF SP : List Nat} {ow : gO} {af : Nat → AFile} {a n cap : Nat} {g : Nat → Int32} {b n2 cap2 : Nat} {g2 : Nat → Int32} {U : Nat → Prop} (h : gSh P f ow sh L SF SP e1 c1 e2 c2 e3 c3 af) (ha : f a = some (.inr (1, [.ref (a + 1), .int (nI n)]))) (hb : f (a + 1) = some (.inl (P.2.1 0, cap, .inl g))) (hn : n ≤ cap) (hcp : cap < 2 ^ 20) (hg : sb_Fit g) (h200 : n ≤ 200) (hUa : U a) (hUa1 : U (a + 1)) (ha2 : f b = some (.inr (1, [.ref (b + 1), .int (nI n2)]))) (hb2 : f (b + 1) = some (.inl (P.2.1 0, cap2, .inl g2))) (hn2 : n2 ≤ cap2) (hcp2 : cap2 < 2 ^ 20) (hgB : sb_Fit g2) (h200b : n2 ≤ 200) (hUb : U b) (hUb1 : U (b + 1)) (hU : gUo f U) : gC l P y_Shelf_swap b_Shelf_swap 7 (some .boolean) 5 0 0 [.ref sh, .ref a, .ref b] f (gQi P (fun r f1 => ((idx (nms af L) (nmL n g) = none ∨ idx (nms af L) (nmL n2 g2) = none) ∧ r = nI 0 ∧ f1 = f) ∨ ∃ i j x y, idx (nms af L) (nmL n g) = some i ∧ idx (nms af L) (nmL n2 g2) = some j ∧ L[i]? = some x ∧ L[j]? = some y ∧ r = nI 1 ∧ gSh P f1 ow sh ((L.set i y).set j x) SF SP e1 c1 e2 c2 e3 c3 (va_up (va_up af x (nmL n2 g2, (af x).2)) y (nmL n g, (va_up af x (nmL n2 g2, (af x).2) y).2)) ∧ gFU f f1 U)) := by
  refine gC_of (by decide) (Nat.le_of_ble_eq_true rfl) (fun p env s m args below meth c S hr hlk hnm H locs hI ls hl => ?_)
  have hl : lv_has ls 7 [(0, .ref sh), (1, .ref a), (2, .ref b)] := hl
  have hz0 := gB_z hI
  have h34 := gX_34 hI.1
  have hlL : L.length ≤ 48 := by have := h.2.2.2.2.2.2.2.2.1; omega
  have hl1 := h.2.1
  obtain ⟨m1, hal1⟩ := hl1.1
  have hcc : c1 < 2 ^ 20 := by have := h.2.2.2.2.1.1; omega
  refine lv_aload_n S.1 S.2.1 d_Shelf_swap_0 rfl (lv_at hl 0 rfl) ?_
  refine lv_aload_n S.1 S.2.1 d_Shelf_swap_1 rfl (lv_at hl 1 rfl) ?_
  refine gc_Vi S hI (c_Shelf_indexOf l P f h ha hb hn hcp) kv_Shelf_indexOf wi_132 h.1 rfl rfl rfl hl.1 rfl (Nat.le_of_ble_eq_true rfl) ⟨Nat.le_of_ble_eq_true rfl, Nat.le_of_ble_eq_true rfl⟩ ⟨Nat.le_of_ble_eq_true rfl, Nat.le_of_ble_eq_true rfl⟩ d_Shelf_swap_2 (fun r179 f180 H locs hp181 hI => ?_)
  obtain ⟨hp1, hp2⟩ := hp181
  subst hp1
  rw [hp2] at hI
  refine lv_istore_n (lv' := [(3, .int (idxI (idx (nms af L) (nmL n g)))), (0, .ref sh), (1, .ref a), (2, .ref b)]) S.1 S.2.1 d_Shelf_swap_5 rfl hl (by decide) rfl (fun ls hl => ?_)
  refine lv_aload_n S.1 S.2.1 d_Shelf_swap_6 rfl (lv_at hl 1 rfl) ?_
  refine lv_aload_n S.1 S.2.1 d_Shelf_swap_7 rfl (lv_at hl 3 rfl) ?_
  refine gc_Vi S hI (c_Shelf_indexOf l P f h ha2 hb2 hn2 hcp2) kv_Shelf_indexOf wi_132 h.1 rfl rfl rfl hl.1 rfl (Nat.le_of_ble_eq_true rfl) ⟨Nat.le_of_ble_eq_true rfl, Nat.le_of_ble_eq_true rfl⟩ ⟨Nat.le_of_ble_eq_true rfl, Nat.le_of_ble_eq_true rfl⟩ d_Shelf_swap_8 (fun r182 f183 H locs hp184 hI => ?_)
  obtain ⟨hp1, hp2⟩ := hp184
  subst hp1
  rw [hp2] at hI
  refine lv_istore (lv' := [(4, .int (idxI (idx (nms af L) (nmL n2 g2)))), (3, .int (idxI (idx (nms af L) (nmL n g)))), (0, .ref sh), (1, .ref a), (2, .ref b)]) S.1 S.2.1 d_Shelf_swap_11 hl (by decide) rfl (fun ls hl => ?_)
  refine lv_iload_n S.1 S.2.1 d_Shelf_swap_13 rfl (lv_at hl 1 rfl) ?_
  rcases hix : idx (nms af L) (nmL n g) with _ | i
  · rw [hix] at hl
    rw [show idxI none = (-2) from rfl] at hl ⊢
    refine lv_if_lt (tgt := 22) S.1 S.2.1 d_Shelf_swap_14 (by decide) (fun c185 => ?_) (fun c185 => ?_)
    · skip
      refine lv_iconst (v := nI 0) S.1 S.2.1 d_Shelf_swap_22 (by decide) ?_
      exact gr_z S hr hlk hI (by first | exact Or.inl rfl | exact Or.inr rfl) (Or.inl ⟨Or.inl rfl, rfl, rfl⟩) d_Shelf_swap_23
    · skip
      exact absurd (by decide) c185
  · rw [hix] at hl
    rw [show idxI (some i) = nI i from rfl] at hl ⊢
    obtain ⟨hi1, hi2, hi3⟩ := idx_lt hix
    have hiL : i < L.length := by simpa [nms] using hi1
    refine lv_if_lt (tgt := 22) S.1 S.2.1 d_Shelf_swap_14 (by decide) (fun c186 => ?_) (fun c186 => ?_)
    · skip
      exact absurd c186 (nI_pos (by omega))
    · skip
      refine lv_iload S.1 S.2.1 d_Shelf_swap_17 (lv_at hl 0 rfl) ?_
      rcases hjx : idx (nms af L) (nmL n2 g2) with _ | j
      · rw [hjx] at hl
        rw [show idxI none = (-2) from rfl] at hl ⊢
        refine lv_if_ge (tgt := 24) S.1 S.2.1 d_Shelf_swap_19 (by decide) (fun c187 => ?_) (fun c187 => ?_)
        · skip
          exact absurd c187 (by decide)
        · skip
          refine lv_iconst (v := nI 0) S.1 S.2.1 d_Shelf_swap_22 (by decide) ?_
          exact gr_z S hr hlk hI (by first | exact Or.inl rfl | exact Or.inr rfl) (Or.inl ⟨Or.inr rfl, rfl, rfl⟩) d_Shelf_swap_23
      · rw [hjx] at hl
        rw [show idxI (some j) = nI j from rfl] at hl ⊢
        obtain ⟨hj1, hj2, hj3⟩ := idx_lt hjx
        have hjL : j < L.length := by simpa [nms] using hj1
        refine lv_if_ge (tgt := 24) S.1 S.2.1 d_Shelf_swap_19 (by decide) (fun c188 => ?_) (fun c188 => ?_)
        · skip
          refine lv_aload_n S.1 S.2.1 d_Shelf_swap_24 rfl (lv_at hl 2 rfl) ?_
          refine gh_get S hI h.1 rfl i_Shelf 0 (by decide) wi_67 rfl d_Shelf_swap_25 ?_
          refine lv_iload_n S.1 S.2.1 d_Shelf_swap_28 rfl (lv_at hl 1 rfl) ?_
          refine gc_Vr S hI (c_AL_get l P f hl1 (i := i) hiL hcc) kv_AL_get wi_142 hal1 rfl rfl rfl hl.1 rfl (Nat.le_of_ble_eq_true rfl) ⟨Nat.le_of_ble_eq_true rfl, Nat.le_of_ble_eq_true rfl⟩ ⟨Nat.le_of_ble_eq_true rfl, Nat.le_of_ble_eq_true rfl⟩ d_Shelf_swap_29 (fun r189 f190 H locs hg0 hI => ?_)
          obtain ⟨hg1, hg2⟩ := hg0
          rw [hg2] at hI
          have hxL := List.mem_of_getElem? hg1
          obtain ⟨⟨nx, gx, psx, x0, x1, x2, x3, x4, x5, x6, x7⟩, xw⟩ := h.2.2.2.2.2.1 r189 hxL
          refine gh_cast (q := (R_File, F_File, 5)) S hI rfl x0 wi_156 d_Shelf_swap_32 ?_
          have hone := hg1
          have hoL := hxL
          obtain ⟨u0, u1, u2, u3, u4, u5, u6, u7, uw⟩ : f r189 = _ ∧ f (r189 + 1) = _ ∧ f (r189 + 2) = _ ∧ f (r189 + 3) = _ ∧ nx ≤ 200 ∧ sb_Fit gx ∧ nmL nx gx = _ ∧ gPs P f ow r189 psx _ _ ∧ wfF _ _ _ := ⟨x0, x1, x2, x3, x4, x5, x6, x7, xw⟩
          refine lv_astore (lv' := [(5, .ref r189), (4, .int (nI j)), (3, .int (nI i)), (0, .ref sh), (1, .ref a), (2, .ref b)]) S.1 S.2.1 d_Shelf_swap_35 hl (by decide) rfl (fun ls hl => ?_)
          refine lv_aload_n S.1 S.2.1 d_Shelf_swap_37 rfl (lv_at hl 3 rfl) ?_
          refine gh_get S hI h.1 rfl i_Shelf 0 (by decide) wi_67 rfl d_Shelf_swap_38 ?_
          refine lv_iload S.1 S.2.1 d_Shelf_swap_41 (lv_at hl 1 rfl) ?_
          refine gc_Vr S hI (c_AL_get l P f hl1 (i := j) hjL hcc) kv_AL_get wi_142 hal1 rfl rfl rfl hl.1 rfl (Nat.le_of_ble_eq_true rfl) ⟨Nat.le_of_ble_eq_true rfl, Nat.le_of_ble_eq_true rfl⟩ ⟨Nat.le_of_ble_eq_true rfl, Nat.le_of_ble_eq_true rfl⟩ d_Shelf_swap_43 (fun r191 f192 H locs hg0 hI => ?_)
          obtain ⟨hg1, hg2⟩ := hg0
          rw [hg2] at hI
          have hxL := List.mem_of_getElem? hg1
          obtain ⟨⟨nx, gx, psx, x0, x1, x2, x3, x4, x5, x6, x7⟩, xw⟩ := h.2.2.2.2.2.1 r191 hxL
          refine gh_cast (q := (R_File, F_File, 5)) S hI rfl x0 wi_156 d_Shelf_swap_46 ?_
          have hoth := hg1
          have hyL := hxL
          have hofi := (h.2.2.2.2.2.1 r189 hoL).1
          obtain ⟨nx, gx, psx, x0, x1, x2, x3, x4, x5, x6, x7⟩ := id hofi
          refine lv_astore (lv' := [(6, .ref r191), (5, .ref r189), (4, .int (nI j)), (3, .int (nI i)), (0, .ref sh), (1, .ref a), (2, .ref b)]) S.1 S.2.1 d_Shelf_swap_49 hl (by decide) rfl (fun ls hl => ?_)
          refine lv_aload S.1 S.2.1 d_Shelf_swap_51 (lv_at hl 1 rfl) ?_
          refine gc_Vr S hI (c_File_title l P f x0) kv_File_title wi_157 x0 rfl rfl rfl hl.1 rfl (Nat.le_of_ble_eq_true rfl) ⟨Nat.le_of_ble_eq_true rfl, Nat.le_of_ble_eq_true rfl⟩ ⟨Nat.le_of_ble_eq_true rfl, Nat.le_of_ble_eq_true rfl⟩ d_Shelf_swap_53 (fun r193 f194 H locs hp195 hI => ?_)
          obtain ⟨ht1, ht2⟩ := hp195
          subst ht1
          rw [ht2] at hI
          refine lv_aload_n S.1 S.2.1 d_Shelf_swap_56 rfl (lv_at hl 6 rfl) ?_
          have hnt := (hU).nt x0 x1
          refine gc_Vv S hI (c_Row_become l P f x1 x2 ha2 hb2 (fun z => hnt (by rw [z]; exact hUb)) (fun z => hnt (by rw [show r189 + 1 = b by omega]; exact hUb)) hn2 (by omega) (by omega) hcp2 hgB) kv_Row_become wi_345 x1 rfl rfl rfl hl.1 rfl (Nat.le_of_ble_eq_true rfl) ⟨Nat.le_of_ble_eq_true rfl, Nat.le_of_ble_eq_true rfl⟩ ⟨Nat.le_of_ble_eq_true rfl, Nat.le_of_ble_eq_true rfl⟩ d_Shelf_swap_57 (fun f197 H locs hp198 hI => ?_)
          obtain ⟨t1, t2, t3⟩ := hp198
          have tF : gFr f f197 [r189, r189 + 1, r189 + 2] := t3.mono (fun q hq => List.mem_cons_of_mem _ hq)
          have t0 := t3 r189 _ x0 (nm2 (by omega) (by omega))
          have t4 := t3 (r189 + 3) _ x3 (nm2 (by omega) (by omega))
          have tps : gPs P f197 ow r189 psx (af r189).2.2.2.1 (af r189).2.2.2.2 := x7.fr t3 (fun t y ht hy => by
            obtain ⟨-, hh, d2, -⟩ := (x7 t ht).2 y hy
            exact ⟨nm2 (gh_ne d2.1 x1 (by intro h; simp at h)) (gh_ne d2.1 x2 (by intro h; cases h)), nm2 (gh_ne d2.2.1 x1 (by intro h; cases h)) (fun z => by have d1 := d2.1; rw [show y = r189 + 1 by omega, x1] at d1; simp at d1)⟩)
          have hFU1 : gFU f f197 U := hU.tt x0 x1 x2 tF
          have hnoS : ∀ q, q ∈ L → q ∉ SF := fun q hq z => (List.nodup_append.mp h.2.2.2.2.2.2.2.1).2.2 _ hq _ z rfl
          obtain ⟨af1, haf1⟩ : ∃ z, z = va_up af r189 (nmL n2 g2, (af r189).2) := ⟨_, rfl⟩
          have hsh1 : gSh P f197 ow sh L SF SP e1 c1 e2 c2 e3 c3 af1 := h.tt hz0 x0 x1 x2 tF (fun q _ hne => by rw [haf1]; exact va_up_ne _ _ hne) (fun _ => by rw [haf1, va_up_self]; exact ⟨⟨n2, _, psx, t0, t1, t2, t4, by omega, sb_fitC hgB x5, nmL_cpy, tps⟩, (h.2.2.2.2.2.1 r189 hoL).2⟩) (hnoS _ hoL)
          have hUo1 := hU.to hFU1
          have ha1 := hFU1 a _ hUa ha
          have hb1 := hFU1 (a + 1) _ hUa1 hb
          have hz1 := gB_z hI
          obtain ⟨⟨nx, gx, psx, x0, x1, x2, x3, x4, x5, x6, x7⟩, yw⟩ := hsh1.2.2.2.2.2.1 r191 hyL
          skip
          refine lv_aload S.1 S.2.1 d_Shelf_swap_60 (lv_at hl 0 rfl) ?_
          refine gc_Vr S hI (c_File_title l P f197 x0) kv_File_title wi_157 x0 rfl rfl rfl hl.1 rfl (Nat.le_of_ble_eq_true rfl) ⟨Nat.le_of_ble_eq_true rfl, Nat.le_of_ble_eq_true rfl⟩ ⟨Nat.le_of_ble_eq_true rfl, Nat.le_of_ble_eq_true rfl⟩ d_Shelf_swap_62 (fun r199 f200 H locs hp201 hI => ?_)
          obtain ⟨ht1, ht2⟩ := hp201
          subst ht1
          rw [ht2] at hI
          refine lv_aload_n S.1 S.2.1 d_Shelf_swap_65 rfl (lv_at hl 5 rfl) ?_
          have hnt := (hUo1).nt x0 x1
          refine gc_Vv S hI (c_Row_become l P f197 x1 x2 ha1 hb1 (fun z => hnt (by rw [z]; exact hUa)) (fun z => hnt (by rw [show r191 + 1 = a by omega]; exact hUa)) hn (by omega) (by omega) hcp hg) kv_Row_become wi_345 x1 rfl rfl rfl hl.1 rfl (Nat.le_of_ble_eq_true rfl) ⟨Nat.le_of_ble_eq_true rfl, Nat.le_of_ble_eq_true rfl⟩ ⟨Nat.le_of_ble_eq_true rfl, Nat.le_of_ble_eq_true rfl⟩ d_Shelf_swap_66 (fun f203 H locs hp204 hI => ?_)
          obtain ⟨t1, t2, t3⟩ := hp204
          have tF : gFr f197 f203 [r191, r191 + 1, r191 + 2] := t3.mono (fun q hq => List.mem_cons_of_mem _ hq)
          have t0 := t3 r191 _ x0 (nm2 (by omega) (by omega))
          have t4 := t3 (r191 + 3) _ x3 (nm2 (by omega) (by omega))
          have tps : gPs P f203 ow r191 psx (af1 r191).2.2.2.1 (af1 r191).2.2.2.2 := x7.fr t3 (fun t y ht hy => by
            obtain ⟨-, hh, d2, -⟩ := (x7 t ht).2 y hy
            exact ⟨nm2 (gh_ne d2.1 x1 (by intro h; simp at h)) (gh_ne d2.1 x2 (by intro h; cases h)), nm2 (gh_ne d2.2.1 x1 (by intro h; cases h)) (fun z => by have d1 := d2.1; rw [show y = r191 + 1 by omega, x1] at d1; simp at d1)⟩)
          have hFU2 : gFU f f203 U := hFU1.trans (hUo1.tt x0 x1 x2 tF)
          obtain ⟨af2, haf2⟩ : ∃ z, z = va_up af1 r191 (nmL n g, (af1 r191).2) := ⟨_, rfl⟩
          have hsh2 : gSh P f203 ow sh L SF SP e1 c1 e2 c2 e3 c3 af2 := hsh1.tt hz1 x0 x1 x2 tF (fun q _ hne => by rw [haf2]; exact va_up_ne _ _ hne) (fun _ => by rw [haf2, va_up_self]; exact ⟨⟨n, _, psx, t0, t1, t2, t4, by omega, sb_fitC hg x5, nmL_cpy, tps⟩, yw⟩) (hnoS _ hyL)
          have hz2 := gB_z hI
          obtain ⟨m9, hal9⟩ := hsh2.2.1.1
          obtain ⟨⟨_, _, _, k0, -⟩, -⟩ := hsh2.2.2.2.2.2.1 r191 hyL
          obtain ⟨⟨_, _, _, k1, -⟩, -⟩ := hsh2.2.2.2.2.2.1 r189 hoL
          refine lv_aload_n S.1 S.2.1 d_Shelf_swap_69 rfl (lv_at hl 4 rfl) ?_
          refine gh_get S hI hsh2.1 rfl i_Shelf 0 (by decide) wi_67 rfl d_Shelf_swap_70 ?_
          refine lv_iload_n S.1 S.2.1 d_Shelf_swap_73 rfl (lv_at hl 3 rfl) ?_
          refine lv_aload S.1 S.2.1 d_Shelf_swap_74 (lv_at hl 0 rfl) ?_
          refine gc_Vr S hI (c_AL_set l P f203 (i := i) hsh2.2.1 hiL hcc (Or.inl rfl) k0) kv_AL_set wi_353 hal9 rfl rfl rfl hl.1 rfl (Nat.le_of_ble_eq_true rfl) ⟨Nat.le_of_ble_eq_true rfl, Nat.le_of_ble_eq_true rfl⟩ ⟨Nat.le_of_ble_eq_true rfl, Nat.le_of_ble_eq_true rfl⟩ d_Shelf_swap_76 (fun r205 f206 H locs hp207 hI => ?_)
          obtain ⟨-, s1, s2⟩ := hp207
          have hE2 : ∀ c fs, f203 c = some (.inr (4, fs)) → c ∉ [e1] := fun c fs hc z => (hsh2.2.1.npc (by decide) hc hz2) (by rw [List.mem_singleton.mp z]; simp)
          have k13 := s2 _ _ k1 (hE2 _ _ k1)
          have hsh3v := s2 sh _ hsh2.1 (fun z => (hsh2.2.1.npc (by decide) hsh2.1 hz2) (by rw [List.mem_singleton.mp z]; simp))
          obtain ⟨m8, hal8⟩ := s1.1
          refine lv_pop S.1 S.2.1 d_Shelf_swap_79 rfl ?_
          refine lv_aload_n S.1 S.2.1 d_Shelf_swap_80 rfl (lv_at hl 4 rfl) ?_
          refine gh_get S hI hsh3v rfl i_Shelf 0 (by decide) wi_67 rfl d_Shelf_swap_81 ?_
          refine lv_iload S.1 S.2.1 d_Shelf_swap_84 (lv_at hl 2 rfl) ?_
          refine lv_aload S.1 S.2.1 d_Shelf_swap_86 (lv_at hl 1 rfl) ?_
          refine gc_Vr S hI (c_AL_set l P f206 (i := j) s1 (by rw [List.length_set]; exact hjL) hcc (Or.inl rfl) k13) kv_AL_set wi_353 hal8 rfl rfl rfl hl.1 rfl (Nat.le_of_ble_eq_true rfl) ⟨Nat.le_of_ble_eq_true rfl, Nat.le_of_ble_eq_true rfl⟩ ⟨Nat.le_of_ble_eq_true rfl, Nat.le_of_ble_eq_true rfl⟩ d_Shelf_swap_88 (fun r208 f209 H locs hp210 hI => ?_)
          obtain ⟨-, s3, s4⟩ := hp210
          have sF : gFr f203 f209 [sh + 1, e1] := (s2.mono (fun q hq => List.mem_cons_of_mem _ hq)).call s4 (fun q hq => Or.inl (List.mem_cons_of_mem _ hq))
          have hns := nodup_sw h.2.2.2.2.2.2.2.1 hone hoth
          have hfin := hsh2.setL h34 hz2 sF s3 h.2.2.2.2.1.1 (Or.inl rfl) (fun q hq => hsh2.2.2.2.2.2.1 q (hns.2 q hq)) hns.1 (by simp; have := h.2.2.2.2.2.2.2.2.1; omega)
          refine lv_pop S.1 S.2.1 d_Shelf_swap_91 rfl ?_
          refine lv_iconst (v := nI 1) S.1 S.2.1 d_Shelf_swap_92 (by decide) ?_
          exact gr_z S hr hlk hI (by first | exact Or.inl rfl | exact Or.inr rfl) (Or.inr ⟨i, j, r189, r191, rfl, rfl, hone, hoth, rfl, by rw [haf2, haf1] at hfin; exact hfin, hFU2.trans ((hU.to hFU2).frl hsh2.2.1 hz2 sF)⟩) d_Shelf_swap_93
        · skip
          exact absurd (nI_pos' (by omega)) c188
end
section
/-! the document's state, as a value: tape, name 0, name 1, what was told, operations, files in the order of their names -/
abbrev ASt : Type := List Nat × List Nat × List Nat × List Nat × Nat × List AFile
/-- the four bytes of a word, the highest first -/
def w4 (x : Int32) : List Nat := [ub (wb x 24), ub (wb x 16), ub (wb x 8), ub (wb x 0)]
def aFeed (st : ASt) (x1 x2 x3 x4 x5 : Int32) : Int32 × ASt :=
  if 2048 < st.1.length + 20 then (-4, st) else (nI (st.1.length + 20), (st.1 ++ w4 x1 ++ w4 x2 ++ w4 x3 ++ w4 x4 ++ w4 x5, st.2))
def aEnd (st : ASt) (n : Int32) : Int32 × ASt := if ¬ n < 0 ∧ n ≤ nI st.1.length then (n, (st.1.take n.toNatClampNeg, st.2)) else (-1, st)
def aName (st : ASt) (k : Int32) : Int32 × ASt :=
  if (k = 0 ∨ k = 1) ∧ st.1.length ≤ 200 then (nI st.1.length, if k = 0 then ([], st.1, st.2.2) else ([], st.2.1, st.1, st.2.2.2)) else (-1, st)
def aTold (st : ASt) (i : Int32) : Int32 := if ¬ i < 0 ∧ i < nI st.2.2.2.1.length then nI (st.2.2.2.1.getD i.toNatClampNeg 0) else (-2)
def fileK (FS : List AFile) (k : Int32) : Option AFile := if ¬ k < 0 ∧ k < nI FS.length then FS[k.toNatClampNeg]? else none
def aFileV (o : Option AFile) (what : Int32) : Int32 := match o with
  | none => (-2)
  | some v => if what = 0 then nI v.2.2.1 else if what = 1 then v.2.1 else if what = 2 then nI v.1.length else nI (cntL v.2.2.2.1 19)
def aFile (st : ASt) (k what : Int32) : Int32 := if what < 0 ∨ 3 < what then (-1) else aFileV (fileK st.2.2.2.2.2 k) what
def aPieceV (o : Option AFile) (s i : Int32) : Int32 := match o with
  | none => (-2)
  | some v => pcV v.2.2.1 v.2.2.2.1 v.2.2.2.2 s i
def aPiece (st : ASt) (k s i : Int32) : Int32 := aPieceV (fileK st.2.2.2.2.2 k) s i
def fB (FS : List AFile) : Nat := (FS.map (fun v => v.2.2.1)).sum
def fC (FS : List AFile) : Nat := (FS.map (fun v => cntL v.2.2.2.1 19)).sum
def fN (FS : List AFile) : List (List Nat) := FS.map (fun v => v.1)
def aCount (st : ASt) (what : Int32) : Int32 :=
  if what = 0 then nI st.2.2.2.2.2.length else if what = 1 then nI (fB st.2.2.2.2.2) else if what = 2 then nI (fC st.2.2.2.2.2) else if what = 3 then nI st.2.2.2.2.1 else if what = 4 then nI st.1.length else (-1)
/-- what is refused -/
def aRef (st : ASt) (kind a b : Int32) : Prop :=
  (kind < 0 ∨ 9 < kind) ∨ (kind ≠ 9 ∧ st.2.1 = []) ∨ ((kind = 6 ∨ kind = 7) ∧ st.2.2.1 = []) ∨ ((kind = 1 ∨ kind = 3 ∨ kind = 4) ∧ (a < 0 ∨ 8192 < a)) ∨ (kind = 4 ∧ (b < 0 ∨ 2048 < b))
/-- the bytes of a list as a function, 0 behind its end -/
def lF (l : List Nat) (i : Nat) : Nat := l.getD i 0
abbrev fNew (nm : List Nat) (i : Int32) : AFile := (nm, i, 0, (fun _ => false), (fun _ => 0))
/-- a file with n bytes T written from byte fr on -/
def fWr (v : AFile) (fr : Nat) (T : List Nat) : AFile := (v.1, v.2.1, if T.length = 0 then v.2.2.1 else max v.2.2.1 (fr + T.length), wl v.2.2.2.1 fr T.length, wC v.2.2.2.2 (lF T) fr T.length)
def fCut (v : AFile) (n : Nat) : AFile := (v.1, v.2.1, n, ctl v.2.2.2.1 n, ctc v.2.2.2.2 n)
def fIns (FS : List AFile) (v : AFile) : List AFile := FS.insertIdx (plc (fN FS) v.1) v
/-- an operation on the files: (answer, told, tape, files); the name 0, the name 1, its number -/
abbrev ARes : Type := Int32 × List Nat × List Nat × List AFile
def oMake (st : ASt) : ARes := match idx (fN st.2.2.2.2.2) st.2.1 with
  | some _ => (-3, [], st.1, st.2.2.2.2.2)
  | none => if 48 ≤ st.2.2.2.2.2.length then (-4, [], st.1, st.2.2.2.2.2) else (0, [], st.1, fIns st.2.2.2.2.2 (fNew st.2.1 (nI st.2.2.2.2.1)))
def oWrite (st : ASt) (app : Bool) (a : Nat) : ARes :=
  let FS := st.2.2.2.2.2; let T := st.1; let n := T.length
  match idx (fN FS) st.2.1 with
  | some k =>
    let v := FS.getD k (fNew [] 0)
    let fr := if app then v.2.2.1 else a
    let after := if n = 0 then v.2.2.1 else max v.2.2.1 (fr + n)
    if after ≤ 8192 ∧ fB FS - v.2.2.1 + after ≤ 32768 then (nI n, [], [], FS.set k (fWr v fr T)) else (-4, [], [], FS)
  | none =>
    let fr := if app then 0 else a
    let after := if n = 0 then 0 else fr + n
    if FS.length < 48 ∧ after ≤ 8192 ∧ fB FS + after ≤ 32768 then (nI n, [], [], fIns FS (fWr (fNew st.2.1 (nI st.2.2.2.2.1)) fr T)) else (-4, [], [], FS)
def oCut (st : ASt) (a : Nat) : ARes :=
  let FS := st.2.2.2.2.2
  match idx (fN FS) st.2.1 with
  | none => (-2, [], st.1, FS)
  | some k =>
    let v := FS.getD k (fNew [] 0)
    if v.2.2.1 < a ∧ ¬ fB FS - v.2.2.1 + a ≤ 32768 then (-4, [], st.1, FS) else (nI v.2.2.1, [], st.1, FS.set k (fCut v a))
def oRead (st : ASt) (a b : Nat) : ARes :=
  let FS := st.2.2.2.2.2
  match idx (fN FS) st.2.1 with
  | none => (-2, [], st.1, FS)
  | some k =>
    let v := FS.getD k (fNew [] 0)
    (nI (min v.2.2.1 (a + b) - a), (List.range (min v.2.2.1 (a + b) - a)).map (fun i => v.2.2.2.2 (a + i)), st.1, FS)
def oRemove (st : ASt) : ARes :=
  let FS := st.2.2.2.2.2
  match idx (fN FS) st.2.1 with
  | none => (-2, [], st.1, FS)
  | some k => (nI (FS.getD k (fNew [] 0)).2.2.1, [], st.1, FS.eraseIdx k)
def oSize (st : ASt) : ARes :=
  let FS := st.2.2.2.2.2
  match idx (fN FS) st.2.1 with
  | none => (-2, [], st.1, FS)
  | some k => (nI (FS.getD k (fNew [] 0)).2.2.1, [], st.1, FS)
def oRename (st : ASt) : ARes :=
  let FS := st.2.2.2.2.2
  match idx (fN FS) st.2.1 with
  | none => (-2, [], st.1, FS)
  | some _ =>
    if st.2.1 = st.2.2.1 then (0, [], st.1, FS) else
      let FS1 := match idx (fN FS) st.2.2.1 with
        | none => FS
        | some j => FS.eraseIdx j
      match idx (fN FS1) st.2.1 with
      | none => (-2, [], st.1, FS)
      | some k => (match idx (fN FS) st.2.2.1 with | none => 0 | some _ => 1, [], st.1, fIns (FS1.eraseIdx k) (st.2.2.1, (FS1.getD k (fNew [] 0)).2))
def oSwap (st : ASt) : ARes :=
  let FS := st.2.2.2.2.2
  match idx (fN FS) st.2.1, idx (fN FS) st.2.2.1 with
  | some i, some j => (0, [], st.1, (FS.set i (st.2.1, (FS.getD j (fNew [] 0)).2)).set j (st.2.2.1, (FS.getD i (fNew [] 0)).2))
  | _, _ => (-2, [], st.1, FS)
def oNext (st : ASt) : ARes :=
  let FS := st.2.2.2.2.2
  let k := plc (fN FS) st.2.1
  match FS[if (fN FS)[k]? = some st.2.1 then k + 1 else k]? with
  | none => (-2, [], st.1, FS)
  | some v => (nI v.1.length, v.1, st.1, FS)
def aOp (st : ASt) (kind a b : Int32) : ARes :=
  if kind = 0 then oMake st else if kind = 1 then oWrite st false a.toNatClampNeg else if kind = 2 then oWrite st true 0 else if kind = 3 then oCut st a.toNatClampNeg else if kind = 4 then oRead st a.toNatClampNeg b.toNatClampNeg
  else if kind = 5 then oRemove st else if kind = 6 then oRename st else if kind = 7 then oSwap st else if kind = 8 then oSize st else oNext st
/-- behind an operation -/
def aAft (st : ASt) (r : ARes) : ASt := (r.2.2.1, st.2.1, st.2.2.1, r.2.1, st.2.2.2.2.1 + 1, r.2.2.2)
theorem ub_lt' (x : Int32) : ub x < 256 := ub_lt x
theorem nmL_up4 {n : Nat} {g : Nat → Int32} (x : Int32) : nmL (n + 4) (upd4 g n x) = nmL n g ++ w4 x := by
  apply List.ext_getElem?
  intro j
  by_cases h : j < n
  · rw [nmL_get (by omega), List.getElem?_append_left (by rw [nmL_len]; exact h), nmL_get h]
    unfold upd4 upd
    rw [if_neg (by omega), if_neg (by omega), if_neg (by omega), if_neg (by omega)]
  · rw [List.getElem?_append_right (by rw [nmL_len]; omega), nmL_len]
    by_cases h4 : j < n + 4
    · rw [nmL_get h4]
      unfold upd4 upd w4
      rcases (show j = n ∨ j = n + 1 ∨ j = n + 2 ∨ j = n + 3 by omega) with rfl | rfl | rfl | rfl
      · rw [if_neg (by omega), if_neg (by omega), if_neg (by omega), if_pos rfl, Nat.sub_self]; rfl
      · rw [if_neg (by omega), if_neg (by omega), if_pos rfl, Nat.add_sub_cancel_left]; rfl
      · rw [if_neg (by omega), if_pos rfl, Nat.add_sub_cancel_left]; rfl
      · rw [if_pos rfl, Nat.add_sub_cancel_left]; rfl
    · rw [List.getElem?_eq_none (by rw [nmL_len]; omega), List.getElem?_eq_none (by simp [w4]; omega)]
theorem nmL_take {n k : Nat} {g : Nat → Int32} (h : k ≤ n) : nmL k g = (nmL n g).take k := by
  apply List.ext_getElem?
  intro j
  by_cases hj : j < k
  · rw [nmL_get hj, List.getElem?_take_of_lt hj, nmL_get (by omega)]
  · rw [List.getElem?_eq_none (by rw [nmL_len]; omega), List.getElem?_eq_none (by rw [List.length_take, nmL_len]; omega)]
/-- a row that holds a list of bytes -/
def gRw (P : gPar) (f : gM) (r cap : Nat) (nm : List Nat) : Prop := ∃ g, f r = some (.inr (1, [.ref (r + 1), .int (nI nm.length)])) ∧ f (r + 1) = some (.inl (P.2.1 0, cap, .inl g)) ∧ nm.length ≤ cap ∧ sb_Fit g ∧ nmL nm.length g = nm
theorem gRw.fr {P : gPar} {f f1 : gM} {r cap : Nat} {nm l : List Nat} (h : gRw P f r cap nm) (hF : gFr f f1 l) (h1 : r ∉ l) (h2 : r + 1 ∉ l) : gRw P f1 r cap nm := by
  obtain ⟨g, a1, a2, a3⟩ := h
  exact ⟨g, hF _ _ a1 h1, hF _ _ a2 h2, a3⟩
theorem gRw.fu {P : gPar} {f f1 : gM} {U : Nat → Prop} {r cap : Nat} {nm : List Nat} (h : gRw P f r cap nm) (hF : gFU f f1 U) (h1 : U r) (h2 : U (r + 1)) : gRw P f1 r cap nm := by
  obtain ⟨g, a1, a2, a3⟩ := h
  exact ⟨g, hF _ _ h1 a1, hF _ _ h2 a2, a3⟩
/-- the shelf with the files FS -/
def gFS (P : gPar) (f : gM) (sh : Nat) (FS : List AFile) : Prop := ∃ (ow : gO) (L SF SP : List Nat) (e1 c1 e2 c2 e3 c3 : Nat) (af : Nat → AFile), gSh P f ow sh L SF SP e1 c1 e2 c2 e3 c3 af ∧ L.map af = FS ∧ SP.length + sumC af L ≤ 121
/-- the object a -/
def gSF (P : gPar) (f : gM) (a : Nat) (st : ASt) : Prop :=
  f a = some (.inr (0, [.ref (a + 1), .ref (a + 3), .ref (a + 5), .ref (a + 7), .ref (a + 9), .int (nI st.2.2.2.2.1)])) ∧ gRw P f (a + 1) 2048 st.1 ∧ gRw P f (a + 3) 200 st.2.1 ∧ gRw P f (a + 5) 200 st.2.2.1 ∧ gRw P f (a + 7) 2048 st.2.2.2.1 ∧ gFS P f (a + 9) st.2.2.2.2.2
/-- its own outer cells, with others V -/
def gUS (a : Nat) (V : Nat → Prop) (c : Nat) : Prop := (a ≤ c ∧ c ≤ a + 8) ∨ V c
theorem gSF.uo {P : gPar} {f : gM} {a : Nat} {st : ASt} {V : Nat → Prop} (h : gSF P f a st) (hV : gUo f V) : gUo f (gUS a V) := by
  obtain ⟨h0, ⟨g1, a1, b1, -⟩, ⟨g2, a2, b2, -⟩, ⟨g3, a3, b3, -⟩, ⟨g4, a4, b4, -⟩, -⟩ := h
  intro c hc
  rcases hc with ⟨l1, l2⟩ | hc
  · have ko : ∀ (ci : Nat) (fs : List Value), ci ≠ 2 → ci ≠ 4 → ci ≠ 6 → gUk (.inr (ci, fs)) := fun ci fs x y z => Or.inl ⟨ci, fs, rfl, x, y, z⟩
    rcases (show c = a ∨ c = a + 1 ∨ c = a + 2 ∨ c = a + 3 ∨ c = a + 4 ∨ c = a + 5 ∨ c = a + 6 ∨ c = a + 7 ∨ c = a + 8 by omega) with e | e | e | e | e | e | e | e | e <;> subst e
    · exact ⟨_, h0, ko _ _ (by decide) (by decide) (by decide), fun z => by rcases z with ⟨x, z⟩ | ⟨fs, z⟩ <;> simp at z⟩
    · exact ⟨_, a1, ko _ _ (by decide) (by decide) (by decide), fun _ => ⟨a, rfl, Or.inl ⟨by omega, by omega⟩⟩⟩
    · exact ⟨_, b1, Or.inr ⟨_, _, _, rfl⟩, fun _ => ⟨a + 1, rfl, Or.inl ⟨by omega, by omega⟩⟩⟩
    · exact ⟨_, a2, ko _ _ (by decide) (by decide) (by decide), fun _ => ⟨a + 2, rfl, Or.inl ⟨by omega, by omega⟩⟩⟩
    · exact ⟨_, b2, Or.inr ⟨_, _, _, rfl⟩, fun _ => ⟨a + 3, rfl, Or.inl ⟨by omega, by omega⟩⟩⟩
    · exact ⟨_, a3, ko _ _ (by decide) (by decide) (by decide), fun _ => ⟨a + 4, rfl, Or.inl ⟨by omega, by omega⟩⟩⟩
    · exact ⟨_, b3, Or.inr ⟨_, _, _, rfl⟩, fun _ => ⟨a + 5, rfl, Or.inl ⟨by omega, by omega⟩⟩⟩
    · exact ⟨_, a4, ko _ _ (by decide) (by decide) (by decide), fun _ => ⟨a + 6, rfl, Or.inl ⟨by omega, by omega⟩⟩⟩
    · exact ⟨_, b4, Or.inr ⟨_, _, _, rfl⟩, fun _ => ⟨a + 7, rfl, Or.inl ⟨by omega, by omega⟩⟩⟩
  · obtain ⟨v, c1, c2, c3⟩ := hV c hc
    exact ⟨v, c1, c2, fun z => by obtain ⟨b, d1, d2⟩ := c3 z; exact ⟨b, d1, Or.inr d2⟩⟩
/-- the shelf over a step on outer cells -/
theorem gSh.out {P : gPar} {f f1 : gM} {ow : gO} {sh : Nat} {L SF SP : List Nat} {e1 c1 e2 c2 e3 c3 : Nat} {af : Nat → AFile} {U : Nat → Prop} {l : List Nat} (h : gSh P f ow sh L SF SP e1 c1 e2 c2 e3 c3 af) (hz : f P.2.2.2.1 = none) (hU : gUo f U) (hF : gFr f f1 l) (hl : ∀ c ∈ l, U c ∧ c ≠ sh ∧ c ≠ sh + 3) : gSh P f1 ow sh L SF SP e1 c1 e2 c2 e3 c3 af := by
  obtain ⟨s0, s1, s2, s3, s4, s5, s6, s7, s8, s9⟩ := h
  have kl : ∀ {a e cap : Nat} {M : List Nat}, gLi P f a e cap M → a ∉ l ∧ e ∉ l := by
    intro a e cap M hm
    constructor
    · intro z; exact (hU.li hm hz (hl a z).1) (by simp)
    · intro z; exact (hU.li hm hz (hl e z).1) (by simp)
  have kp : ∀ x hh, gPc P f x hh → x ∉ l ∧ x + 1 ∉ l := fun x hh hx => ⟨fun z => (hU.pc hx (hl _ z).1).1 rfl, fun z => (hU.pc hx (hl _ z).1).2 rfl⟩
  have kf : ∀ q v, gFi P f ow (sh + 3) q v → gFi P f1 ow (sh + 3) q v := by
    intro q v hq
    obtain ⟨n, g, ps, q0, q1, q2, q3, -⟩ := id hq
    have nt := hU.nt q0 q1
    refine hq.fr hF (fun z => (hU.fi hq (hl _ z).1).1 rfl) (fun z => nt (hl _ z).1) (fun z => ?_) (fun z => (hU.fi hq (hl _ z).1).2 rfl) kp
    obtain ⟨w, a1, a2, a3⟩ := hU _ (hl _ z).1
    rw [q2] at a1; injection a1 with a1
    obtain ⟨b, hb, hb2⟩ := a3 (Or.inl ⟨_, a1.symm⟩)
    exact nt (by rw [show q + 1 = b by omega]; exact hb2)
  refine ⟨hF _ _ s0 (fun z => (hl _ z).2.1 rfl), s1.fr hF (kl s1).1 (kl s1).2, s2.fr hF (kl s2).1 (kl s2).2, s3.fr hF (fun z => (hl _ z).2.2 rfl) (kl s3.2.1).1 (kl s3.2.1).2 (fun x hx => ?_), s4, fun q hq => ⟨kf q _ (s5 q hq).1, (s5 q hq).2⟩, fun q hq => ?_, s7, s8, s9⟩
  · obtain ⟨-, hh, b, -⟩ := s3.2.2.2.2 x hx
    exact kp x hh b
  · obtain ⟨v, a1, a2⟩ := s6 q hq
    exact ⟨v, kf q v a1, a2⟩
end
section
theorem gFS.out {P : gPar} {f f1 : gM} {a : Nat} {st : ASt} {V : Nat → Prop} {l : List Nat} (h : gSF P f a st) (hV : gUo f V) (hz : f P.2.2.2.1 = none) (hF : gFr f f1 l) (hl : ∀ c ∈ l, a ≤ c ∧ c ≤ a + 8) : gFS P f1 (a + 9) st.2.2.2.2.2 := by
  obtain ⟨ow, L, SF, SP, e1, c1, e2, c2, e3, c3, af, s1, s2, s3⟩ := h.2.2.2.2.2
  exact ⟨ow, L, SF, SP, e1, c1, e2, c2, e3, c3, af, s1.out hz (h.uo hV) hF (fun c hc => ⟨Or.inl (hl c hc), by have := hl c hc; omega, by have := hl c hc; omega⟩), s2, s3⟩
theorem gFU.out {f f1 : gM} {a : Nat} {V : Nat → Prop} {l : List Nat} (hVa : ∀ c, V c → a + 14 ≤ c) (hF : gFr f f1 l) (hl : ∀ c ∈ l, a ≤ c ∧ c ≤ a + 8) : gFU f f1 V := fun c v hc hf => hF c v hf (fun z => by have := hl c z; have := hVa c hc; omega)
theorem inr2 {a x y : Nat} (h1 : a ≤ x ∧ x ≤ a + 8) (h2 : a ≤ y ∧ y ≤ a + 8) : ∀ c ∈ [x, y], a ≤ c ∧ c ≤ a + 8 := by
  intro c hc
  rcases List.mem_cons.mp hc with z | z
  · rw [z]; exact h1
  · rw [List.mem_singleton.mp z]; exact h2
theorem inr1 {a x : Nat} (h1 : a ≤ x ∧ x ≤ a + 8) : ∀ c ∈ [x], a ≤ c ∧ c ≤ a + 8 := by
  intro c hc
  rw [List.mem_singleton.mp hc]; exact h1
theorem gRw.len {P : gPar} {f : gM} {r cap : Nat} {nm : List Nat} (h : gRw P f r cap nm) : nm.length ≤ cap := by
  obtain ⟨g, -, -, h, -⟩ := h
  exact h
theorem fileK_L {L : List Nat} {af : Nat → AFile} {k : Int32} : fileK (L.map af) k = (fAt L k).map af := by
  unfold fileK fAt
  rw [List.length_map]
  by_cases h : ¬ k < 0 ∧ k < nI L.length
  · rw [if_pos h, if_pos h, List.getElem?_map]
  · rw [if_neg h, if_neg h]; rfl
theorem fB_L {L : List Nat} {af : Nat → AFile} : fB (L.map af) = sumB af L := by unfold fB sumB; rw [List.map_map]; rfl
theorem fC_L {L : List Nat} {af : Nat → AFile} : fC (L.map af) = sumC af L := by unfold fC sumC; rw [List.map_map]; rfl
theorem fN_L {L : List Nat} {af : Nat → AFile} : fN (L.map af) = nms af L := by unfold fN nms; rw [List.map_map]; rfl
set_option maxHeartbeats 4000000 in
set_option maxRecDepth 100000 in
theorem c_SF_isWithin (l : Launch) (P : gPar) (f : gM) {x m0 : Int32} : gC l P y_SF_isWithin b_SF_isWithin 2 (some .boolean) 0 0 0 [.int x, .int m0] f (gQi P (fun r f1 => r = (if ¬ x < 0 ∧ x ≤ m0 then nI 1 else nI 0) ∧ f1 = f)) := by
  refine gC_of (by decide) (Nat.le_of_ble_eq_true rfl) (fun p env s m args below meth c S hr hlk hnm H locs hI ls hl => ?_)
  have hl : lv_has ls 2 [(0, .int x), (1, .int m0)] := hl
  refine lv_iload_n S.1 S.2.1 d_SF_isWithin_0 rfl (lv_at hl 0 rfl) ?_
  refine lv_if_lt (tgt := 13) S.1 S.2.1 d_SF_isWithin_1 (by decide) (fun c17 => ?_) (fun c17 => ?_)
  · skip
    refine lv_iconst (v := nI 0) S.1 S.2.1 d_SF_isWithin_13 (by decide) ?_
    exact gr_z S hr hlk hI (by first | exact Or.inl rfl | exact Or.inr rfl) (⟨by rw [if_neg (fun z => z.1 c17)], rfl⟩) d_SF_isWithin_14
  · skip
    refine lv_iload_n S.1 S.2.1 d_SF_isWithin_4 rfl (lv_at hl 0 rfl) ?_
    refine lv_iload_n S.1 S.2.1 d_SF_isWithin_5 rfl (lv_at hl 1 rfl) ?_
    refine lv_icmp_gt (tgt := 13) S.1 S.2.1 d_SF_isWithin_6 (by decide) (fun c18 => ?_) (fun c18 => ?_)
    · skip
      refine lv_iconst (v := nI 0) S.1 S.2.1 d_SF_isWithin_13 (by decide) ?_
      exact gr_z S hr hlk hI (by first | exact Or.inl rfl | exact Or.inr rfl) (⟨by rw [if_neg (fun z => absurd z.2 (Int32.not_le.mpr c18))], rfl⟩) d_SF_isWithin_14
    · skip
      refine lv_iconst (v := nI 1) S.1 S.2.1 d_SF_isWithin_9 (by decide) ?_
      refine lv_goto (tgt := 14) S.1 S.2.1 d_SF_isWithin_10 (by decide) ?_
      exact gr_z S hr hlk hI (by first | exact Or.inl rfl | exact Or.inr rfl) (⟨by rw [if_pos ⟨c17, Int32.not_lt.mp c18⟩], rfl⟩) d_SF_isWithin_14
set_option maxHeartbeats 4000000 in
set_option maxRecDepth 100000 in
theorem c_SF_feed (l : Launch) (P : gPar) (f : gM) {a : Nat} {st : ASt} {V : Nat → Prop} {x1 x2 x3 x4 x5 : Int32} (h : gSF P f a st) (hV : gUo f V) (hVa : ∀ c, V c → a + 14 ≤ c) : gC l P y_SF_feed b_SF_feed 6 (some .int) 1 0 0 [.ref a, .int x1, .int x2, .int x3, .int x4, .int x5] f (gQi P (fun r f1 => r = (aFeed st x1 x2 x3 x4 x5).1 ∧ gSF P f1 a (aFeed st x1 x2 x3 x4 x5).2 ∧ gFU f f1 V)) := by
  refine gC_of (by decide) (Nat.le_of_ble_eq_true rfl) (fun p env s m args below meth c S hr hlk hnm H locs hI ls hl => ?_)
  have hl : lv_has ls 6 [(0, .ref a), (1, .int x1), (2, .int x2), (3, .int x3), (4, .int x4), (5, .int x5)] := hl
  have hz0 := gB_z hI
  have h0 := h.1
  obtain ⟨gt, t1, t2, t3, t4, t5⟩ := h.2.1
  replace t1 : f (a + 1) = some (.inr (1, [.ref (a + 2), .int (nI st.1.length)])) := t1
  replace t2 : f (a + 2) = some (.inl (P.2.1 0, 2048, .inl gt)) := t2
  obtain ⟨gn, n1, n2, n3, n4, n5⟩ := h.2.2.1
  replace n1 : f (a + 3) = some (.inr (1, [.ref (a + 4), .int (nI st.2.1.length)])) := n1
  replace n2 : f (a + 4) = some (.inl (P.2.1 0, 200, .inl gn)) := n2
  obtain ⟨gm, m1, m2, m3, m4, m5⟩ := h.2.2.2.1
  replace m1 : f (a + 5) = some (.inr (1, [.ref (a + 6), .int (nI st.2.2.1.length)])) := m1
  replace m2 : f (a + 6) = some (.inl (P.2.1 0, 200, .inl gm)) := m2
  obtain ⟨gd, d1, d2, d3, d4, d5⟩ := h.2.2.2.2.1
  replace d1 : f (a + 7) = some (.inr (1, [.ref (a + 8), .int (nI st.2.2.2.1.length)])) := d1
  replace d2 : f (a + 8) = some (.inl (P.2.1 0, 2048, .inl gd)) := d2
  refine lv_aload_n S.1 S.2.1 d_SF_feed_0 rfl (lv_at hl 0 rfl) ?_
  refine gh_get S hI h0 rfl i_SF 0 (by decide) wi_70 rfl d_SF_feed_1 ?_
  refine gc_Vi S hI (c_Row_length l P f t1) kv_Row_length wi_80 t1 rfl rfl rfl hl.1 rfl (Nat.le_of_ble_eq_true rfl) ⟨Nat.le_of_ble_eq_true rfl, Nat.le_of_ble_eq_true rfl⟩ ⟨Nat.le_of_ble_eq_true rfl, Nat.le_of_ble_eq_true rfl⟩ d_SF_feed_4 (fun r19 f20 H locs hp21 hI => ?_)
  obtain ⟨hp1, hp2⟩ := hp21
  subst hp1
  rw [hp2] at hI
  refine lv_bipush (v := nI 20) S.1 S.2.1 d_SF_feed_7 (by decide) ?_
  refine lv_iadd S.1 S.2.1 d_SF_feed_9 ?_
  refine lv_topi (fun v22 ev22 => ?_)
  replace ev22 : v22 = nI (st.1.length + 20) := ev22.trans (nI_add _ _)
  subst ev22
  refine lv_sipush (v := nI 2048) S.1 S.2.1 d_SF_feed_10 (by decide) ?_
  refine lv_icmp_le (tgt := 19) S.1 S.2.1 d_SF_feed_13 (by decide) (fun c23 => ?_) (fun c23 => ?_)
  · skip
    replace c23 : (st.1.length + 20) ≤ 2048 := (nI_leI (a := st.1.length + 20) (b := 2048) (by omega) (by omega)).mp c23
    have hF : gFr f f [a + 1, a + 2] := gFr.rf
    have v1 := t1
    have v2 := t2
    have v4 := t4
    have v5 : nmL st.1.length gt = st.1 := t5
    refine lv_aload_n S.1 S.2.1 d_SF_feed_19 rfl (lv_at hl 0 rfl) ?_
    refine gh_get S hI h0 rfl i_SF 0 (by decide) wi_70 rfl d_SF_feed_20 ?_
    refine lv_iload_n S.1 S.2.1 d_SF_feed_23 rfl (lv_at hl 1 rfl) ?_
    refine gc_Vv S hI (c_Row_addWord l P f (x := x1) v1 v2 (by omega) (by omega)) kv_Row_addWord wi_84 t1 rfl rfl rfl hl.1 rfl (Nat.le_of_ble_eq_true rfl) ⟨Nat.le_of_ble_eq_true rfl, Nat.le_of_ble_eq_true rfl⟩ ⟨Nat.le_of_ble_eq_true rfl, Nat.le_of_ble_eq_true rfl⟩ d_SF_feed_24 (fun f25 H locs hp26 hI => ?_)
    obtain ⟨w1, w2, w3⟩ := hp26
    replace w1 : f25 (a + 1) = some (.inr (1, [.ref (a + 2), .int (nI (st.1.length + 4))])) := w1
    have h0 := w3 a _ h0 (nm2 (by omega) (by omega))
    have hF := hF.call w3 (fun q hq => Or.inl hq)
    have e5 := nmL_up4 (n := st.1.length) (g := gt) x1
    rw [v5] at e5
    have v1 := w1
    have v2 := w2
    have v4 : sb_Fit (upd4 gt (st.1.length) x1) := upd4_fit v4
    have v5 : nmL (st.1.length + 4) (upd4 gt (st.1.length) x1) = (st.1 ++ w4 x1) := e5
    refine lv_aload_n S.1 S.2.1 d_SF_feed_27 rfl (lv_at hl 0 rfl) ?_
    refine gh_get S hI h0 rfl i_SF 0 (by decide) wi_70 rfl d_SF_feed_28 ?_
    refine lv_iload_n S.1 S.2.1 d_SF_feed_31 rfl (lv_at hl 2 rfl) ?_
    refine gc_Vv S hI (c_Row_addWord l P f25 (x := x2) v1 v2 (by omega) (by omega)) kv_Row_addWord wi_84 v1 rfl rfl rfl hl.1 rfl (Nat.le_of_ble_eq_true rfl) ⟨Nat.le_of_ble_eq_true rfl, Nat.le_of_ble_eq_true rfl⟩ ⟨Nat.le_of_ble_eq_true rfl, Nat.le_of_ble_eq_true rfl⟩ d_SF_feed_32 (fun f28 H locs hp29 hI => ?_)
    obtain ⟨w1, w2, w3⟩ := hp29
    replace w1 : f28 (a + 1) = some (.inr (1, [.ref (a + 2), .int (nI (st.1.length + 8))])) := w1
    have h0 := w3 a _ h0 (nm2 (by omega) (by omega))
    have hF := hF.call w3 (fun q hq => Or.inl hq)
    have e5 := nmL_up4 (n := st.1.length + 4) (g := upd4 gt (st.1.length) x1) x2
    rw [v5] at e5
    have v1 := w1
    have v2 := w2
    have v4 : sb_Fit (upd4 (upd4 gt (st.1.length) x1) (st.1.length + 4) x2) := upd4_fit v4
    have v5 : nmL (st.1.length + 8) (upd4 (upd4 gt (st.1.length) x1) (st.1.length + 4) x2) = ((st.1 ++ w4 x1) ++ w4 x2) := e5
    refine lv_aload_n S.1 S.2.1 d_SF_feed_35 rfl (lv_at hl 0 rfl) ?_
    refine gh_get S hI h0 rfl i_SF 0 (by decide) wi_70 rfl d_SF_feed_36 ?_
    refine lv_iload_n S.1 S.2.1 d_SF_feed_39 rfl (lv_at hl 3 rfl) ?_
    refine gc_Vv S hI (c_Row_addWord l P f28 (x := x3) v1 v2 (by omega) (by omega)) kv_Row_addWord wi_84 v1 rfl rfl rfl hl.1 rfl (Nat.le_of_ble_eq_true rfl) ⟨Nat.le_of_ble_eq_true rfl, Nat.le_of_ble_eq_true rfl⟩ ⟨Nat.le_of_ble_eq_true rfl, Nat.le_of_ble_eq_true rfl⟩ d_SF_feed_40 (fun f31 H locs hp32 hI => ?_)
    obtain ⟨w1, w2, w3⟩ := hp32
    replace w1 : f31 (a + 1) = some (.inr (1, [.ref (a + 2), .int (nI (st.1.length + 12))])) := w1
    have h0 := w3 a _ h0 (nm2 (by omega) (by omega))
    have hF := hF.call w3 (fun q hq => Or.inl hq)
    have e5 := nmL_up4 (n := st.1.length + 8) (g := upd4 (upd4 gt (st.1.length) x1) (st.1.length + 4) x2) x3
    rw [v5] at e5
    have v1 := w1
    have v2 := w2
    have v4 : sb_Fit (upd4 (upd4 (upd4 gt (st.1.length) x1) (st.1.length + 4) x2) (st.1.length + 8) x3) := upd4_fit v4
    have v5 : nmL (st.1.length + 12) (upd4 (upd4 (upd4 gt (st.1.length) x1) (st.1.length + 4) x2) (st.1.length + 8) x3) = (((st.1 ++ w4 x1) ++ w4 x2) ++ w4 x3) := e5
    refine lv_aload_n S.1 S.2.1 d_SF_feed_43 rfl (lv_at hl 0 rfl) ?_
    refine gh_get S hI h0 rfl i_SF 0 (by decide) wi_70 rfl d_SF_feed_44 ?_
    refine lv_iload S.1 S.2.1 d_SF_feed_47 (lv_at hl 4 rfl) ?_
    refine gc_Vv S hI (c_Row_addWord l P f31 (x := x4) v1 v2 (by omega) (by omega)) kv_Row_addWord wi_84 v1 rfl rfl rfl hl.1 rfl (Nat.le_of_ble_eq_true rfl) ⟨Nat.le_of_ble_eq_true rfl, Nat.le_of_ble_eq_true rfl⟩ ⟨Nat.le_of_ble_eq_true rfl, Nat.le_of_ble_eq_true rfl⟩ d_SF_feed_49 (fun f34 H locs hp35 hI => ?_)
    obtain ⟨w1, w2, w3⟩ := hp35
    replace w1 : f34 (a + 1) = some (.inr (1, [.ref (a + 2), .int (nI (st.1.length + 16))])) := w1
    have h0 := w3 a _ h0 (nm2 (by omega) (by omega))
    have hF := hF.call w3 (fun q hq => Or.inl hq)
    have e5 := nmL_up4 (n := st.1.length + 12) (g := upd4 (upd4 (upd4 gt (st.1.length) x1) (st.1.length + 4) x2) (st.1.length + 8) x3) x4
    rw [v5] at e5
    have v1 := w1
    have v2 := w2
    have v4 : sb_Fit (upd4 (upd4 (upd4 (upd4 gt (st.1.length) x1) (st.1.length + 4) x2) (st.1.length + 8) x3) (st.1.length + 12) x4) := upd4_fit v4
    have v5 : nmL (st.1.length + 16) (upd4 (upd4 (upd4 (upd4 gt (st.1.length) x1) (st.1.length + 4) x2) (st.1.length + 8) x3) (st.1.length + 12) x4) = ((((st.1 ++ w4 x1) ++ w4 x2) ++ w4 x3) ++ w4 x4) := e5
    refine lv_aload_n S.1 S.2.1 d_SF_feed_52 rfl (lv_at hl 0 rfl) ?_
    refine gh_get S hI h0 rfl i_SF 0 (by decide) wi_70 rfl d_SF_feed_53 ?_
    refine lv_iload S.1 S.2.1 d_SF_feed_56 (lv_at hl 5 rfl) ?_
    refine gc_Vv S hI (c_Row_addWord l P f34 (x := x5) v1 v2 (by omega) (by omega)) kv_Row_addWord wi_84 v1 rfl rfl rfl hl.1 rfl (Nat.le_of_ble_eq_true rfl) ⟨Nat.le_of_ble_eq_true rfl, Nat.le_of_ble_eq_true rfl⟩ ⟨Nat.le_of_ble_eq_true rfl, Nat.le_of_ble_eq_true rfl⟩ d_SF_feed_58 (fun f37 H locs hp38 hI => ?_)
    obtain ⟨w1, w2, w3⟩ := hp38
    replace w1 : f37 (a + 1) = some (.inr (1, [.ref (a + 2), .int (nI (st.1.length + 20))])) := w1
    have h0 := w3 a _ h0 (nm2 (by omega) (by omega))
    have hF := hF.call w3 (fun q hq => Or.inl hq)
    have e5 := nmL_up4 (n := st.1.length + 16) (g := upd4 (upd4 (upd4 (upd4 gt (st.1.length) x1) (st.1.length + 4) x2) (st.1.length + 8) x3) (st.1.length + 12) x4) x5
    rw [v5] at e5
    have v1 := w1
    have v2 := w2
    have v4 : sb_Fit (upd4 (upd4 (upd4 (upd4 (upd4 gt (st.1.length) x1) (st.1.length + 4) x2) (st.1.length + 8) x3) (st.1.length + 12) x4) (st.1.length + 16) x5) := upd4_fit v4
    have v5 : nmL (st.1.length + 20) (upd4 (upd4 (upd4 (upd4 (upd4 gt (st.1.length) x1) (st.1.length + 4) x2) (st.1.length + 8) x3) (st.1.length + 12) x4) (st.1.length + 16) x5) = (((((st.1 ++ w4 x1) ++ w4 x2) ++ w4 x3) ++ w4 x4) ++ w4 x5) := e5
    refine lv_aload_n S.1 S.2.1 d_SF_feed_61 rfl (lv_at hl 0 rfl) ?_
    refine gh_get S hI h0 rfl i_SF 0 (by decide) wi_70 rfl d_SF_feed_62 ?_
    refine gc_Vi S hI (c_Row_length l P f37 v1) kv_Row_length wi_80 v1 rfl rfl rfl hl.1 rfl (Nat.le_of_ble_eq_true rfl) ⟨Nat.le_of_ble_eq_true rfl, Nat.le_of_ble_eq_true rfl⟩ ⟨Nat.le_of_ble_eq_true rfl, Nat.le_of_ble_eq_true rfl⟩ d_SF_feed_65 (fun r39 f40 H locs hp41 hI => ?_)
    obtain ⟨hp1, hp2⟩ := hp41
    subst hp1
    rw [hp2] at hI
    have rw3 : gRw P f37 (a + 3) 200 st.2.1 := gRw.fr (show gRw P f (a + 3) 200 st.2.1 from ⟨gn, n1, n2, n3, n4, n5⟩) hF (by simp) (by simp)
    have rw5 : gRw P f37 (a + 5) 200 st.2.2.1 := gRw.fr (show gRw P f (a + 5) 200 st.2.2.1 from ⟨gm, m1, m2, m3, m4, m5⟩) hF (by simp) (by simp)
    have rw7 : gRw P f37 (a + 7) 2048 st.2.2.2.1 := gRw.fr (show gRw P f (a + 7) 2048 st.2.2.2.1 from ⟨gd, d1, d2, d3, d4, d5⟩) hF (by simp) (by simp)
    have elen : ((((((st.1 ++ w4 x1) ++ w4 x2) ++ w4 x3) ++ w4 x4) ++ w4 x5)).length = st.1.length + 20 := by simp [w4]
    have hin := inr2 (a := a) (x := a + 1) (y := a + 2) (by omega) (by omega)
    have gfs := gFS.out h hV hz0 hF hin
    have gfu := gFU.out hVa hF hin
    have ef : aFeed st x1 x2 x3 x4 x5 = (nI (st.1.length + 20), ((((((st.1 ++ w4 x1) ++ w4 x2) ++ w4 x3) ++ w4 x4) ++ w4 x5), st.2)) := by unfold aFeed; rw [if_neg (by omega)]
    exact gr_i S hr hlk hI (by rw [ef]; exact ⟨rfl, ⟨h0, ⟨_, by rw [elen]; exact v1, v2, by rw [elen]; omega, v4, by rw [elen]; exact v5⟩, rw3, rw5, rw7, gfs⟩, gfu⟩) d_SF_feed_68
  · skip
    replace c23 : ¬ (st.1.length + 20) ≤ 2048 := fun z => c23 ((nI_leI (a := st.1.length + 20) (b := 2048) (by omega) (by omega)).mpr z)
    refine lv_bipush (v := (-4)) S.1 S.2.1 d_SF_feed_16 (by decide) ?_
    exact gr_i S hr hlk hI (by unfold aFeed; rw [if_pos (by omega)]; exact ⟨rfl, h, gFU.rf⟩) d_SF_feed_18
set_option maxHeartbeats 4000000 in
set_option maxRecDepth 100000 in
theorem c_SF_end (l : Launch) (P : gPar) (f : gM) {a : Nat} {st : ASt} {V : Nat → Prop} {n : Int32} (h : gSF P f a st) (hV : gUo f V) (hVa : ∀ c, V c → a + 14 ≤ c) : gC l P y_SF_end b_SF_end 2 (some .int) 1 0 0 [.ref a, .int n] f (gQi P (fun r f1 => r = (aEnd st n).1 ∧ gSF P f1 a (aEnd st n).2 ∧ gFU f f1 V)) := by
  refine gC_of (by decide) (Nat.le_of_ble_eq_true rfl) (fun p env s m args below meth c S hr hlk hnm H locs hI ls hl => ?_)
  have hl : lv_has ls 2 [(0, .ref a), (1, .int n)] := hl
  have hz0 := gB_z hI
  have h0 := h.1
  obtain ⟨gt, t1, t2, t3, t4, t5⟩ := h.2.1
  replace t1 : f (a + 1) = some (.inr (1, [.ref (a + 2), .int (nI st.1.length)])) := t1
  replace t2 : f (a + 2) = some (.inl (P.2.1 0, 2048, .inl gt)) := t2
  obtain ⟨gn, n1, n2, n3, n4, n5⟩ := h.2.2.1
  replace n1 : f (a + 3) = some (.inr (1, [.ref (a + 4), .int (nI st.2.1.length)])) := n1
  replace n2 : f (a + 4) = some (.inl (P.2.1 0, 200, .inl gn)) := n2
  obtain ⟨gm, m1, m2, m3, m4, m5⟩ := h.2.2.2.1
  replace m1 : f (a + 5) = some (.inr (1, [.ref (a + 6), .int (nI st.2.2.1.length)])) := m1
  replace m2 : f (a + 6) = some (.inl (P.2.1 0, 200, .inl gm)) := m2
  obtain ⟨gd, d1, d2, d3, d4, d5⟩ := h.2.2.2.2.1
  replace d1 : f (a + 7) = some (.inr (1, [.ref (a + 8), .int (nI st.2.2.2.1.length)])) := d1
  replace d2 : f (a + 8) = some (.inl (P.2.1 0, 2048, .inl gd)) := d2
  refine lv_iload_n S.1 S.2.1 d_SF_end_0 rfl (lv_at hl 1 rfl) ?_
  refine lv_aload_n S.1 S.2.1 d_SF_end_1 rfl (lv_at hl 0 rfl) ?_
  refine gh_get S hI h0 rfl i_SF 0 (by decide) wi_70 rfl d_SF_end_2 ?_
  refine gc_Vi S hI (c_Row_length l P f t1) kv_Row_length wi_80 t1 rfl rfl rfl hl.1 rfl (Nat.le_of_ble_eq_true rfl) ⟨Nat.le_of_ble_eq_true rfl, Nat.le_of_ble_eq_true rfl⟩ ⟨Nat.le_of_ble_eq_true rfl, Nat.le_of_ble_eq_true rfl⟩ d_SF_end_5 (fun r42 f43 H locs hp44 hI => ?_)
  obtain ⟨hp1, hp2⟩ := hp44
  subst hp1
  rw [hp2] at hI
  refine gc_Si S hI (c_SF_isWithin l P f (x := n) (m0 := nI st.1.length)) kv_SF_isWithin wi_92 rfl hl.1 rfl (Nat.le_of_ble_eq_true rfl) ⟨Nat.le_of_ble_eq_true rfl, Nat.le_of_ble_eq_true rfl⟩ ⟨Nat.le_of_ble_eq_true rfl, Nat.le_of_ble_eq_true rfl⟩ d_SF_end_8 (fun r45 f46 H locs hp47 hI => ?_)
  obtain ⟨hp1, hp2⟩ := hp47
  subst hp1
  rw [hp2] at hI
  by_cases hw48 : ¬ n < 0 ∧ n ≤ (nI st.1.length)
  · rw [show (if ¬ n < 0 ∧ n ≤ (nI st.1.length) then nI 1 else nI 0 : Int32) = nI 1 from if_pos hw48]
    refine lv_if_ne (tgt := 16) S.1 S.2.1 d_SF_end_11 (by decide) (fun c49 => ?_) (fun c49 => ?_)
    · skip
      replace c49 : ¬ 1 = 0 := fun z => c49 ((nI_eq (a := 1) (b := 0) (by omega) (by omega)).mpr z)
      obtain ⟨k, hk, hk2⟩ := nI_of hw48.1
      subst hk2
      have hkn : k ≤ st.1.length := (nI_leI (by omega) (by omega)).mp hw48.2
      refine lv_aload_n S.1 S.2.1 d_SF_end_16 rfl (lv_at hl 0 rfl) ?_
      refine gh_get S hI h0 rfl i_SF 0 (by decide) wi_70 rfl d_SF_end_17 ?_
      refine lv_iload_n S.1 S.2.1 d_SF_end_20 rfl (lv_at hl 1 rfl) ?_
      refine gc_Vv S hI (c_Row_shorten l P f (k := k) t1) kv_Row_shorten wi_95 t1 rfl rfl rfl hl.1 rfl (Nat.le_of_ble_eq_true rfl) ⟨Nat.le_of_ble_eq_true rfl, Nat.le_of_ble_eq_true rfl⟩ ⟨Nat.le_of_ble_eq_true rfl, Nat.le_of_ble_eq_true rfl⟩ d_SF_end_21 (fun f51 H locs hp52 hI => ?_)
      have hF : gFr f f51 [a + 1] := by rw [hp52]; exact gFr.upA (by simp) gFr.rf
      have v1 : f51 (a + 1) = some (.inr (1, [.ref (a + 2), .int (nI k)])) := by rw [hp52]; exact va_up_self _ _ _
      have v2 := hF (a + 2) _ t2 (by simp)
      have h0 := hF a _ h0 (by simp)
      have rw3 : gRw P f51 (a + 3) 200 st.2.1 := gRw.fr (show gRw P f (a + 3) 200 st.2.1 from ⟨gn, n1, n2, n3, n4, n5⟩) hF (by simp) (by simp)
      have rw5 : gRw P f51 (a + 5) 200 st.2.2.1 := gRw.fr (show gRw P f (a + 5) 200 st.2.2.1 from ⟨gm, m1, m2, m3, m4, m5⟩) hF (by simp) (by simp)
      have rw7 : gRw P f51 (a + 7) 2048 st.2.2.2.1 := gRw.fr (show gRw P f (a + 7) 2048 st.2.2.2.1 from ⟨gd, d1, d2, d3, d4, d5⟩) hF (by simp) (by simp)
      have hin := inr1 (a := a) (x := a + 1) (by omega)
      have gfs := gFS.out h hV hz0 hF hin
      have gfu := gFU.out hVa hF hin
      have elen : (st.1.take k).length = k := by rw [List.length_take]; omega
      have ef : aEnd st (nI k) = (nI k, (st.1.take k, st.2)) := by unfold aEnd; rw [if_pos hw48, nI_clamp hk]
      refine lv_iload_n S.1 S.2.1 d_SF_end_24 rfl (lv_at hl 1 rfl) ?_
      exact gr_i S hr hlk hI (by rw [ef]; exact ⟨rfl, ⟨h0, ⟨gt, by rw [elen]; exact v1, v2, by rw [elen]; omega, t4, by rw [elen, nmL_take hkn, t5]⟩, rw3, rw5, rw7, gfs⟩, gfu⟩) d_SF_end_25
    · skip
      replace c49 : 1 = 0 := (nI_eq (a := 1) (b := 0) (by omega) (by omega)).mp c49
      exact absurd c49 (by omega)
  · rw [show (if ¬ n < 0 ∧ n ≤ (nI st.1.length) then nI 1 else nI 0 : Int32) = nI 0 from if_neg hw48]
    refine lv_if_ne (tgt := 16) S.1 S.2.1 d_SF_end_11 (by decide) (fun c53 => ?_) (fun c53 => ?_)
    · skip
      replace c53 : ¬ 0 = 0 := fun z => c53 ((nI_eq (a := 0) (b := 0) (by omega) (by omega)).mpr z)
      exact absurd c53 (by omega)
    · skip
      replace c53 : 0 = 0 := (nI_eq (a := 0) (b := 0) (by omega) (by omega)).mp c53
      refine lv_iconst (v := (-1)) S.1 S.2.1 d_SF_end_14 (by decide) ?_
      exact gr_i S hr hlk hI (by unfold aEnd; rw [if_neg hw48]; exact ⟨rfl, h, gFU.rf⟩) d_SF_end_15
set_option maxHeartbeats 4000000 in
set_option maxRecDepth 100000 in
theorem c_SF_name (l : Launch) (P : gPar) (f : gM) {a : Nat} {st : ASt} {V : Nat → Prop} {k0 : Int32} (h : gSF P f a st) (hV : gUo f V) (hVa : ∀ c, V c → a + 14 ≤ c) : gC l P y_SF_name b_SF_name 3 (some .int) 3 0 0 [.ref a, .int k0] f (gQi P (fun r f1 => r = (aName st k0).1 ∧ gSF P f1 a (aName st k0).2 ∧ gFU f f1 V)) := by
  refine gC_of (by decide) (Nat.le_of_ble_eq_true rfl) (fun p env s m args below meth c S hr hlk hnm H locs hI ls hl => ?_)
  have hl : lv_has ls 3 [(0, .ref a), (1, .int k0)] := hl
  have hz0 := gB_z hI
  have h0 := h.1
  obtain ⟨gt, t1, t2, t3, t4, t5⟩ := h.2.1
  replace t1 : f (a + 1) = some (.inr (1, [.ref (a + 2), .int (nI st.1.length)])) := t1
  replace t2 : f (a + 2) = some (.inl (P.2.1 0, 2048, .inl gt)) := t2
  obtain ⟨gn, n1, n2, n3, n4, n5⟩ := h.2.2.1
  replace n1 : f (a + 3) = some (.inr (1, [.ref (a + 4), .int (nI st.2.1.length)])) := n1
  replace n2 : f (a + 4) = some (.inl (P.2.1 0, 200, .inl gn)) := n2
  obtain ⟨gm, m1, m2, m3, m4, m5⟩ := h.2.2.2.1
  replace m1 : f (a + 5) = some (.inr (1, [.ref (a + 6), .int (nI st.2.2.1.length)])) := m1
  replace m2 : f (a + 6) = some (.inl (P.2.1 0, 200, .inl gm)) := m2
  obtain ⟨gd, d1, d2, d3, d4, d5⟩ := h.2.2.2.2.1
  replace d1 : f (a + 7) = some (.inr (1, [.ref (a + 8), .int (nI st.2.2.2.1.length)])) := d1
  replace d2 : f (a + 8) = some (.inl (P.2.1 0, 2048, .inl gd)) := d2
  refine lv_iload_n S.1 S.2.1 d_SF_name_0 rfl (lv_at hl 1 rfl) ?_
  refine lv_iconst (v := nI 1) S.1 S.2.1 d_SF_name_1 (by decide) ?_
  refine gc_Si S hI (c_SF_isWithin l P f (x := k0) (m0 := nI 1)) kv_SF_isWithin wi_92 rfl hl.1 rfl (Nat.le_of_ble_eq_true rfl) ⟨Nat.le_of_ble_eq_true rfl, Nat.le_of_ble_eq_true rfl⟩ ⟨Nat.le_of_ble_eq_true rfl, Nat.le_of_ble_eq_true rfl⟩ d_SF_name_2 (fun r54 f55 H locs hp56 hI => ?_)
  obtain ⟨hp1, hp2⟩ := hp56
  subst hp1
  rw [hp2] at hI
  by_cases hw57 : ¬ k0 < 0 ∧ k0 ≤ (nI 1)
  · rw [show (if ¬ k0 < 0 ∧ k0 ≤ (nI 1) then nI 1 else nI 0 : Int32) = nI 1 from if_pos hw57]
    refine lv_if_eq (tgt := 21) S.1 S.2.1 d_SF_name_5 (by decide) (fun c58 => ?_) (fun c58 => ?_)
    · skip
      replace c58 : 1 = 0 := (nI_eq (a := 1) (b := 0) (by omega) (by omega)).mp c58
      exact absurd c58 (by omega)
    · skip
      replace c58 : ¬ 1 = 0 := fun z => c58 ((nI_eq (a := 1) (b := 0) (by omega) (by omega)).mpr z)
      obtain ⟨k, hk, hk2⟩ := nI_of hw57.1
      subst hk2
      have hk1 : k ≤ 1 := (nI_leI (b := 1) (by omega) (by omega)).mp hw57.2
      refine lv_aload_n S.1 S.2.1 d_SF_name_8 rfl (lv_at hl 0 rfl) ?_
      refine gh_get S hI h0 rfl i_SF 0 (by decide) wi_70 rfl d_SF_name_9 ?_
      refine gc_Vi S hI (c_Row_length l P f t1) kv_Row_length wi_80 t1 rfl rfl rfl hl.1 rfl (Nat.le_of_ble_eq_true rfl) ⟨Nat.le_of_ble_eq_true rfl, Nat.le_of_ble_eq_true rfl⟩ ⟨Nat.le_of_ble_eq_true rfl, Nat.le_of_ble_eq_true rfl⟩ d_SF_name_12 (fun r59 f60 H locs hp61 hI => ?_)
      obtain ⟨hp1, hp2⟩ := hp61
      subst hp1
      rw [hp2] at hI
      refine lv_sipush (v := nI 200) S.1 S.2.1 d_SF_name_15 (by decide) ?_
      refine lv_icmp_le (tgt := 23) S.1 S.2.1 d_SF_name_18 (by decide) (fun c62 => ?_) (fun c62 => ?_)
      · skip
        replace c62 : st.1.length ≤ 200 := (nI_leI (a := st.1.length) (b := 200) (by omega) (by omega)).mp c62
        refine lv_iload_n S.1 S.2.1 d_SF_name_23 rfl (lv_at hl 1 rfl) ?_
        refine lv_if_ne (tgt := 34) S.1 S.2.1 d_SF_name_24 (by decide) (fun c63 => ?_) (fun c63 => ?_)
        · skip
          replace c63 : ¬ k = 0 := fun z => c63 ((nI_eq (a := k) (b := 0) (by omega) (by omega)).mpr z)
          have ek : k = 1 := by omega
          subst ek
          have ef : aName st (nI 1) = (nI st.1.length, ([], st.2.1, st.1, st.2.2.2)) := by unfold aName; rw [if_pos ⟨Or.inr rfl, by omega⟩, if_neg (by decide)]
          refine lv_aload_n S.1 S.2.1 d_SF_name_34 rfl (lv_at hl 0 rfl) ?_
          refine gh_get S hI h0 rfl i_SF 2 (by decide) wi_72 rfl d_SF_name_35 ?_
          refine lv_astore_n (lv' := [(2, .ref (a + 5)), (0, .ref a), (1, .int (nI 1))]) S.1 S.2.1 d_SF_name_38 rfl hl (by decide) rfl (fun ls hl => ?_)
          refine lv_aload_n S.1 S.2.1 d_SF_name_39 rfl (lv_at hl 0 rfl) ?_
          refine lv_aload_n S.1 S.2.1 d_SF_name_40 rfl (lv_at hl 1 rfl) ?_
          refine gh_get S hI h0 rfl i_SF 0 (by decide) wi_70 rfl d_SF_name_41 ?_
          refine gc_Vv S hI (c_Row_become l P f m1 m2 t1 t2 (by omega) (by omega) (by omega) (by omega) (by omega) (by omega) t4) kv_Row_become wi_103 m1 rfl rfl rfl hl.1 rfl (Nat.le_of_ble_eq_true rfl) ⟨Nat.le_of_ble_eq_true rfl, Nat.le_of_ble_eq_true rfl⟩ ⟨Nat.le_of_ble_eq_true rfl, Nat.le_of_ble_eq_true rfl⟩ d_SF_name_44 (fun f65 H locs hp66 hI => ?_)
          obtain ⟨p1, p2, pF⟩ := hp66
          have h01 := pF a _ h0 (nm2 (by omega) (by omega))
          have tt1 := pF (a + 1) _ t1 (nm2 (by omega) (by omega))
          have tt2 := pF (a + 2) _ t2 (nm2 (by omega) (by omega))
          refine lv_aload_n S.1 S.2.1 d_SF_name_47 rfl (lv_at hl 1 rfl) ?_
          refine gh_get S hI h01 rfl i_SF 0 (by decide) wi_70 rfl d_SF_name_48 ?_
          refine lv_iconst (v := nI 0) S.1 S.2.1 d_SF_name_51 (by decide) ?_
          refine gc_Vv S hI (c_Row_shorten l P f65 (k := 0) tt1) kv_Row_shorten wi_95 tt1 rfl rfl rfl hl.1 rfl (Nat.le_of_ble_eq_true rfl) ⟨Nat.le_of_ble_eq_true rfl, Nat.le_of_ble_eq_true rfl⟩ ⟨Nat.le_of_ble_eq_true rfl, Nat.le_of_ble_eq_true rfl⟩ d_SF_name_52 (fun f68 H locs hp69 hI => ?_)
          have sF : gFr f65 f68 [a + 1] := by rw [hp69]; exact gFr.upA (by simp) gFr.rf
          have s1 : f68 (a + 1) = some (.inr (1, [.ref (a + 2), .int (nI 0)])) := by rw [hp69]; exact va_up_self _ _ _
          have s2 := sF (a + 2) _ tt2 (by simp)
          have s0 := sF a _ h01 (by simp)
          have q1 := sF (a + 5) _ p1 (by simp)
          have q2 := sF (a + 6) _ p2 (by simp)
          have hF : gFr f f68 [a + 1, a + 5, a + 6] := (pF.mono (fun q hq => List.mem_cons_of_mem _ hq)).call sF (fun q hq => Or.inl (by rw [List.mem_singleton.mp hq]; simp))
          have hin : ∀ c ∈ [a + 1, a + 5, a + 6], a ≤ c ∧ c ≤ a + 8 := by
            intro c hc; simp at hc; omega
          have gfs := gFS.out h hV hz0 hF hin
          have gfu := gFU.out hVa hF hin
          have rw3 : gRw P f68 (a + 3) 200 st.2.1 := gRw.fr (show gRw P f (a + 3) 200 st.2.1 from ⟨gn, n1, n2, n3, n4, n5⟩) hF (by simp) (by simp)
          have rw7 : gRw P f68 (a + 7) 2048 st.2.2.2.1 := gRw.fr (show gRw P f (a + 7) 2048 st.2.2.2.1 from ⟨gd, d1, d2, d3, d4, d5⟩) hF (by simp) (by simp)
          refine lv_aload_n S.1 S.2.1 d_SF_name_55 rfl (lv_at hl 0 rfl) ?_
          refine gc_Vi S hI (c_Row_length l P f68 q1) kv_Row_length wi_80 q1 rfl rfl rfl hl.1 rfl (Nat.le_of_ble_eq_true rfl) ⟨Nat.le_of_ble_eq_true rfl, Nat.le_of_ble_eq_true rfl⟩ ⟨Nat.le_of_ble_eq_true rfl, Nat.le_of_ble_eq_true rfl⟩ d_SF_name_56 (fun r70 f71 H locs hp72 hI => ?_)
          obtain ⟨hp1, hp2⟩ := hp72
          subst hp1
          rw [hp2] at hI
          exact gr_i S hr hlk hI (by rw [ef]; exact ⟨rfl, ⟨s0, ⟨gt, s1, s2, by simp, t4, rfl⟩, rw3, ⟨_, q1, q2, by omega, sb_fitC t4 m4, by rw [nmL_cpy]; exact t5⟩, rw7, gfs⟩, gfu⟩) d_SF_name_59
        · skip
          replace c63 : k = 0 := (nI_eq (a := k) (b := 0) (by omega) (by omega)).mp c63
          subst c63
          have ef : aName st (nI 0) = (nI st.1.length, ([], st.1, st.2.2)) := by unfold aName; rw [if_pos ⟨Or.inl rfl, by omega⟩, if_pos (by decide)]
          refine lv_aload_n S.1 S.2.1 d_SF_name_27 rfl (lv_at hl 0 rfl) ?_
          refine gh_get S hI h0 rfl i_SF 1 (by decide) wi_71 rfl d_SF_name_28 ?_
          refine lv_goto (tgt := 38) S.1 S.2.1 d_SF_name_31 (by decide) ?_
          refine lv_astore_n (lv' := [(2, .ref (a + 3)), (0, .ref a), (1, .int (nI 0))]) S.1 S.2.1 d_SF_name_38 rfl hl (by decide) rfl (fun ls hl => ?_)
          refine lv_aload_n S.1 S.2.1 d_SF_name_39 rfl (lv_at hl 0 rfl) ?_
          refine lv_aload_n S.1 S.2.1 d_SF_name_40 rfl (lv_at hl 1 rfl) ?_
          refine gh_get S hI h0 rfl i_SF 0 (by decide) wi_70 rfl d_SF_name_41 ?_
          refine gc_Vv S hI (c_Row_become l P f n1 n2 t1 t2 (by omega) (by omega) (by omega) (by omega) (by omega) (by omega) t4) kv_Row_become wi_103 n1 rfl rfl rfl hl.1 rfl (Nat.le_of_ble_eq_true rfl) ⟨Nat.le_of_ble_eq_true rfl, Nat.le_of_ble_eq_true rfl⟩ ⟨Nat.le_of_ble_eq_true rfl, Nat.le_of_ble_eq_true rfl⟩ d_SF_name_44 (fun f74 H locs hp75 hI => ?_)
          obtain ⟨p1, p2, pF⟩ := hp75
          have h01 := pF a _ h0 (nm2 (by omega) (by omega))
          have tt1 := pF (a + 1) _ t1 (nm2 (by omega) (by omega))
          have tt2 := pF (a + 2) _ t2 (nm2 (by omega) (by omega))
          refine lv_aload_n S.1 S.2.1 d_SF_name_47 rfl (lv_at hl 1 rfl) ?_
          refine gh_get S hI h01 rfl i_SF 0 (by decide) wi_70 rfl d_SF_name_48 ?_
          refine lv_iconst (v := nI 0) S.1 S.2.1 d_SF_name_51 (by decide) ?_
          refine gc_Vv S hI (c_Row_shorten l P f74 (k := 0) tt1) kv_Row_shorten wi_95 tt1 rfl rfl rfl hl.1 rfl (Nat.le_of_ble_eq_true rfl) ⟨Nat.le_of_ble_eq_true rfl, Nat.le_of_ble_eq_true rfl⟩ ⟨Nat.le_of_ble_eq_true rfl, Nat.le_of_ble_eq_true rfl⟩ d_SF_name_52 (fun f77 H locs hp78 hI => ?_)
          have sF : gFr f74 f77 [a + 1] := by rw [hp78]; exact gFr.upA (by simp) gFr.rf
          have s1 : f77 (a + 1) = some (.inr (1, [.ref (a + 2), .int (nI 0)])) := by rw [hp78]; exact va_up_self _ _ _
          have s2 := sF (a + 2) _ tt2 (by simp)
          have s0 := sF a _ h01 (by simp)
          have q1 := sF (a + 3) _ p1 (by simp)
          have q2 := sF (a + 4) _ p2 (by simp)
          have hF : gFr f f77 [a + 1, a + 3, a + 4] := (pF.mono (fun q hq => List.mem_cons_of_mem _ hq)).call sF (fun q hq => Or.inl (by rw [List.mem_singleton.mp hq]; simp))
          have hin : ∀ c ∈ [a + 1, a + 3, a + 4], a ≤ c ∧ c ≤ a + 8 := by
            intro c hc; simp at hc; omega
          have gfs := gFS.out h hV hz0 hF hin
          have gfu := gFU.out hVa hF hin
          have rw5 : gRw P f77 (a + 5) 200 st.2.2.1 := gRw.fr (show gRw P f (a + 5) 200 st.2.2.1 from ⟨gm, m1, m2, m3, m4, m5⟩) hF (by simp) (by simp)
          have rw7 : gRw P f77 (a + 7) 2048 st.2.2.2.1 := gRw.fr (show gRw P f (a + 7) 2048 st.2.2.2.1 from ⟨gd, d1, d2, d3, d4, d5⟩) hF (by simp) (by simp)
          refine lv_aload_n S.1 S.2.1 d_SF_name_55 rfl (lv_at hl 0 rfl) ?_
          refine gc_Vi S hI (c_Row_length l P f77 q1) kv_Row_length wi_80 q1 rfl rfl rfl hl.1 rfl (Nat.le_of_ble_eq_true rfl) ⟨Nat.le_of_ble_eq_true rfl, Nat.le_of_ble_eq_true rfl⟩ ⟨Nat.le_of_ble_eq_true rfl, Nat.le_of_ble_eq_true rfl⟩ d_SF_name_56 (fun r79 f80 H locs hp81 hI => ?_)
          obtain ⟨hp1, hp2⟩ := hp81
          subst hp1
          rw [hp2] at hI
          exact gr_i S hr hlk hI (by rw [ef]; exact ⟨rfl, ⟨s0, ⟨gt, s1, s2, by simp, t4, rfl⟩, ⟨_, q1, q2, by omega, sb_fitC t4 n4, by rw [nmL_cpy]; exact t5⟩, rw5, rw7, gfs⟩, gfu⟩) d_SF_name_59
      · skip
        replace c62 : ¬ st.1.length ≤ 200 := fun z => c62 ((nI_leI (a := st.1.length) (b := 200) (by omega) (by omega)).mpr z)
        refine lv_iconst (v := (-1)) S.1 S.2.1 d_SF_name_21 (by decide) ?_
        exact gr_i S hr hlk hI (by unfold aName; rw [if_neg (fun z => absurd z.2 (by omega))]; exact ⟨rfl, h, gFU.rf⟩) d_SF_name_22
  · rw [show (if ¬ k0 < 0 ∧ k0 ≤ (nI 1) then nI 1 else nI 0 : Int32) = nI 0 from if_neg hw57]
    refine lv_if_eq (tgt := 21) S.1 S.2.1 d_SF_name_5 (by decide) (fun c82 => ?_) (fun c82 => ?_)
    · skip
      replace c82 : 0 = 0 := (nI_eq (a := 0) (b := 0) (by omega) (by omega)).mp c82
      refine lv_iconst (v := (-1)) S.1 S.2.1 d_SF_name_21 (by decide) ?_
      exact gr_i S hr hlk hI (by unfold aName; rw [if_neg (fun z => hw57 (by rcases z.1 with e | e <;> rw [e] <;> decide))]; exact ⟨rfl, h, gFU.rf⟩) d_SF_name_22
    · skip
      replace c82 : ¬ 0 = 0 := fun z => c82 ((nI_eq (a := 0) (b := 0) (by omega) (by omega)).mpr z)
      exact absurd c82 (by omega)
set_option maxHeartbeats 4000000 in
set_option maxRecDepth 100000 in
theorem c_SF_told (l : Launch) (P : gPar) (f : gM) {a : Nat} {st : ASt} {i : Int32} (h : gSF P f a st) : gC l P y_SF_told b_SF_told 2 (some .int) 1 0 0 [.ref a, .int i] f (gQi P (fun r f1 => r = aTold st i ∧ f1 = f)) := by
  refine gC_of (by decide) (Nat.le_of_ble_eq_true rfl) (fun p env s m args below meth c S hr hlk hnm H locs hI ls hl => ?_)
  have hl : lv_has ls 2 [(0, .ref a), (1, .int i)] := hl
  have h0 := h.1
  obtain ⟨gt, t1, t2, t3, t4, t5⟩ := h.2.1
  replace t1 : f (a + 1) = some (.inr (1, [.ref (a + 2), .int (nI st.1.length)])) := t1
  replace t2 : f (a + 2) = some (.inl (P.2.1 0, 2048, .inl gt)) := t2
  obtain ⟨gn, n1, n2, n3, n4, n5⟩ := h.2.2.1
  replace n1 : f (a + 3) = some (.inr (1, [.ref (a + 4), .int (nI st.2.1.length)])) := n1
  replace n2 : f (a + 4) = some (.inl (P.2.1 0, 200, .inl gn)) := n2
  obtain ⟨gm, m1, m2, m3, m4, m5⟩ := h.2.2.2.1
  replace m1 : f (a + 5) = some (.inr (1, [.ref (a + 6), .int (nI st.2.2.1.length)])) := m1
  replace m2 : f (a + 6) = some (.inl (P.2.1 0, 200, .inl gm)) := m2
  obtain ⟨gd, d1, d2, d3, d4, d5⟩ := h.2.2.2.2.1
  replace d1 : f (a + 7) = some (.inr (1, [.ref (a + 8), .int (nI st.2.2.2.1.length)])) := d1
  replace d2 : f (a + 8) = some (.inl (P.2.1 0, 2048, .inl gd)) := d2
  refine lv_aload_n S.1 S.2.1 d_SF_told_0 rfl (lv_at hl 0 rfl) ?_
  refine gh_get S hI h0 rfl i_SF 3 (by decide) wi_73 rfl d_SF_told_1 ?_
  refine lv_iload_n S.1 S.2.1 d_SF_told_4 rfl (lv_at hl 1 rfl) ?_
  refine gc_Vi S hI (c_Row_byteAt l P f (i := i) d1 d2 d3 (by omega)) kv_Row_byteAt wi_389 d1 rfl rfl rfl hl.1 rfl (Nat.le_of_ble_eq_true rfl) ⟨Nat.le_of_ble_eq_true rfl, Nat.le_of_ble_eq_true rfl⟩ ⟨Nat.le_of_ble_eq_true rfl, Nat.le_of_ble_eq_true rfl⟩ d_SF_told_5 (fun r83 f84 H locs hp85 hI => ?_)
  obtain ⟨hp1, hp2⟩ := hp85
  rw [hp2] at hI
  have ev : r83 = aTold st i := by
    rw [hp1]; unfold aTold
    by_cases hc : ¬ i < 0 ∧ i < nI st.2.2.2.1.length
    · rw [if_pos hc, if_pos hc]
      obtain ⟨j, hj, hj2⟩ := nI_of hc.1
      subst hj2
      have hjn := (nI_ltI (by omega) (by omega)).mp hc.2
      rw [nI_clamp hj]
      have e9 := nmL_get (g := gd) hjn
      rw [d5] at e9
      rw [List.getD_eq_getElem?_getD, e9]; rfl
    · rw [if_neg hc, if_neg hc]
  exact gr_i S hr hlk hI (⟨ev, rfl⟩) d_SF_told_8
set_option maxHeartbeats 4000000 in
set_option maxRecDepth 100000 in
theorem c_SF_file (l : Launch) (P : gPar) (f : gM) {a : Nat} {st : ASt} {k wh : Int32} (h : gSF P f a st) : gC l P y_SF_file b_SF_file 4 (some .int) 4 0 0 [.ref a, .int k, .int wh] f (gQi P (fun r f1 => r = aFile st k wh ∧ f1 = f)) := by
  refine gC_of (by decide) (Nat.le_of_ble_eq_true rfl) (fun p env s m args below meth c S hr hlk hnm H locs hI ls hl => ?_)
  have hl : lv_has ls 4 [(0, .ref a), (1, .int k), (2, .int wh)] := hl
  have h0 := h.1
  obtain ⟨gt, t1, t2, t3, t4, t5⟩ := h.2.1
  replace t1 : f (a + 1) = some (.inr (1, [.ref (a + 2), .int (nI st.1.length)])) := t1
  replace t2 : f (a + 2) = some (.inl (P.2.1 0, 2048, .inl gt)) := t2
  obtain ⟨gn, n1, n2, n3, n4, n5⟩ := h.2.2.1
  replace n1 : f (a + 3) = some (.inr (1, [.ref (a + 4), .int (nI st.2.1.length)])) := n1
  replace n2 : f (a + 4) = some (.inl (P.2.1 0, 200, .inl gn)) := n2
  obtain ⟨gm, m1, m2, m3, m4, m5⟩ := h.2.2.2.1
  replace m1 : f (a + 5) = some (.inr (1, [.ref (a + 6), .int (nI st.2.2.1.length)])) := m1
  replace m2 : f (a + 6) = some (.inl (P.2.1 0, 200, .inl gm)) := m2
  obtain ⟨gd, d1, d2, d3, d4, d5⟩ := h.2.2.2.2.1
  replace d1 : f (a + 7) = some (.inr (1, [.ref (a + 8), .int (nI st.2.2.2.1.length)])) := d1
  replace d2 : f (a + 8) = some (.inl (P.2.1 0, 2048, .inl gd)) := d2
  obtain ⟨ow, L, SF, SP, e1, c1, e2, c2, e3, c3, af, s1, s2, s3⟩ := h.2.2.2.2.2
  refine lv_iload_n S.1 S.2.1 d_SF_file_0 rfl (lv_at hl 2 rfl) ?_
  refine lv_iconst (v := nI 3) S.1 S.2.1 d_SF_file_1 (by decide) ?_
  refine gc_Si S hI (c_SF_isWithin l P f (x := wh) (m0 := nI 3)) kv_SF_isWithin wi_92 rfl hl.1 rfl (Nat.le_of_ble_eq_true rfl) ⟨Nat.le_of_ble_eq_true rfl, Nat.le_of_ble_eq_true rfl⟩ ⟨Nat.le_of_ble_eq_true rfl, Nat.le_of_ble_eq_true rfl⟩ d_SF_file_2 (fun r86 f87 H locs hp88 hI => ?_)
  obtain ⟨hp1, hp2⟩ := hp88
  subst hp1
  rw [hp2] at hI
  by_cases hw89 : ¬ wh < 0 ∧ wh ≤ (nI 3)
  · rw [show (if ¬ wh < 0 ∧ wh ≤ (nI 3) then nI 1 else nI 0 : Int32) = nI 1 from if_pos hw89]
    refine lv_if_ne (tgt := 10) S.1 S.2.1 d_SF_file_5 (by decide) (fun c90 => ?_) (fun c90 => ?_)
    · skip
      replace c90 : ¬ 1 = 0 := fun z => c90 ((nI_eq (a := 1) (b := 0) (by omega) (by omega)).mpr z)
      have hnr : ¬ (wh < 0 ∨ 3 < wh) := fun z => z.elim hw89.1 (fun q => absurd hw89.2 (Int32.not_le.mpr q))
      obtain ⟨u, hu, hu2⟩ := nI_of hw89.1
      have hu3 : u ≤ 3 := (nI_leI (b := 3) (by omega) (by omega)).mp (by rw [← hu2]; exact hw89.2)
      refine lv_aload_n S.1 S.2.1 d_SF_file_10 rfl (lv_at hl 0 rfl) ?_
      refine gh_get S hI h0 rfl i_SF 4 (by decide) wi_74 rfl d_SF_file_11 ?_
      refine lv_iload_n S.1 S.2.1 d_SF_file_14 rfl (lv_at hl 1 rfl) ?_
      refine gc_Vq S hI (c_Shelf_fileAt l P f (k := k) s1) kv_Shelf_fileAt wi_397 s1.1 rfl rfl rfl hl.1 rfl (Nat.le_of_ble_eq_true rfl) ⟨Nat.le_of_ble_eq_true rfl, Nat.le_of_ble_eq_true rfl⟩ ⟨Nat.le_of_ble_eq_true rfl, Nat.le_of_ble_eq_true rfl⟩ d_SF_file_15 (fun r91 f92 H locs hp93 hI => ?_)
      obtain ⟨hp1, hp2⟩ := hp93
      rw [hp2] at hI
      have hfk : fileK st.2.2.2.2.2 k = (fAt L k).map af := by rw [← s2]; exact fileK_L
      rw [← hp1] at hfk
      have hmem : ∀ x, r91 = some x → x ∈ L := by
        intro x hx
        rw [hp1] at hx
        unfold fAt at hx
        split at hx
        · exact List.mem_of_getElem? hx
        · cases hx
      rcases hr9 : r91 with _ | x
      · subst hr9
        rw [show va_rf none = .null from rfl]
        refine lv_astore_nN (lv' := [(3, .null), (0, .ref a), (1, .int k), (2, .int wh)]) S.1 S.2.1 d_SF_file_18 rfl hl (by decide) rfl (fun ls hl => ?_)
        refine lv_aload_nN S.1 S.2.1 d_SF_file_19 rfl (lv_at hl 0 rfl) ?_
        refine lv_ifnonnullN S.1 S.2.1 d_SF_file_20 ?_
        refine lv_bipush (v := (-2)) S.1 S.2.1 d_SF_file_23 (by decide) ?_
        exact gr_i S hr hlk hI (⟨by unfold aFile; rw [if_neg hnr, hfk]; rfl, rfl⟩) d_SF_file_25
      · subst hr9
        rw [show va_rf (some x) = .ref x from rfl]
        refine lv_astore_n (lv' := [(3, .ref x), (0, .ref a), (1, .int k), (2, .int wh)]) S.1 S.2.1 d_SF_file_18 rfl hl (by decide) rfl (fun ls hl => ?_)
        refine lv_aload_n S.1 S.2.1 d_SF_file_19 rfl (lv_at hl 0 rfl) ?_
        refine lv_ifnonnull (tgt := 26) S.1 S.2.1 d_SF_file_20 (by decide) ?_
        replace hfk : fileK st.2.2.2.2.2 k = some (af x) := hfk
        obtain ⟨⟨nx, gx, psx, x0, x1, x2, x3, x4, x5, x6, x7⟩, xw⟩ := s1.2.2.2.2.2.1 x (hmem x rfl)
        subst hu2
        refine lv_iload_n S.1 S.2.1 d_SF_file_26 rfl (lv_at hl 3 rfl) ?_
        rcases (show u = 0 ∨ u = 1 ∨ u = 2 ∨ u = 3 by omega) with e | e | e | e <;> subst e
        · skip
          refine lv_tableIn (tgt := 52) S.1 S.2.1 d_SF_file_27 (by decide) (by decide) rfl (by decide) ?_
          refine lv_aload_n S.1 S.2.1 d_SF_file_52 rfl (lv_at hl 0 rfl) ?_
          refine gc_Vi S hI (c_File_length l P f x0) kv_File_length wi_263 x0 rfl rfl rfl hl.1 rfl (Nat.le_of_ble_eq_true rfl) ⟨Nat.le_of_ble_eq_true rfl, Nat.le_of_ble_eq_true rfl⟩ ⟨Nat.le_of_ble_eq_true rfl, Nat.le_of_ble_eq_true rfl⟩ d_SF_file_53 (fun r94 f95 H locs hp96 hI => ?_)
          obtain ⟨hp1, hp2⟩ := hp96
          subst hp1
          rw [hp2] at hI
          exact gr_i S hr hlk hI (⟨by unfold aFile; rw [if_neg hnr, hfk]; unfold aFileV; rfl, rfl⟩) d_SF_file_56
        · skip
          refine lv_tableIn (tgt := 57) S.1 S.2.1 d_SF_file_27 (by decide) (by decide) rfl (by decide) ?_
          refine lv_aload_n S.1 S.2.1 d_SF_file_57 rfl (lv_at hl 0 rfl) ?_
          refine gc_Vi S hI (c_File_id l P f x0) kv_File_id wi_398 x0 rfl rfl rfl hl.1 rfl (Nat.le_of_ble_eq_true rfl) ⟨Nat.le_of_ble_eq_true rfl, Nat.le_of_ble_eq_true rfl⟩ ⟨Nat.le_of_ble_eq_true rfl, Nat.le_of_ble_eq_true rfl⟩ d_SF_file_58 (fun r97 f98 H locs hp99 hI => ?_)
          obtain ⟨hp1, hp2⟩ := hp99
          subst hp1
          rw [hp2] at hI
          exact gr_i S hr hlk hI (⟨by unfold aFile; rw [if_neg hnr, hfk]; unfold aFileV; rfl, rfl⟩) d_SF_file_61
        · skip
          refine lv_tableIn (tgt := 62) S.1 S.2.1 d_SF_file_27 (by decide) (by decide) rfl (by decide) ?_
          refine lv_aload_n S.1 S.2.1 d_SF_file_62 rfl (lv_at hl 0 rfl) ?_
          refine gc_Vr S hI (c_File_title l P f x0) kv_File_title wi_364 x0 rfl rfl rfl hl.1 rfl (Nat.le_of_ble_eq_true rfl) ⟨Nat.le_of_ble_eq_true rfl, Nat.le_of_ble_eq_true rfl⟩ ⟨Nat.le_of_ble_eq_true rfl, Nat.le_of_ble_eq_true rfl⟩ d_SF_file_63 (fun r100 f101 H locs hp102 hI => ?_)
          obtain ⟨ht1, ht2⟩ := hp102
          subst ht1
          rw [ht2] at hI
          refine gc_Vi S hI (c_Row_length l P f x1) kv_Row_length wi_80 x1 rfl rfl rfl hl.1 rfl (Nat.le_of_ble_eq_true rfl) ⟨Nat.le_of_ble_eq_true rfl, Nat.le_of_ble_eq_true rfl⟩ ⟨Nat.le_of_ble_eq_true rfl, Nat.le_of_ble_eq_true rfl⟩ d_SF_file_66 (fun r103 f104 H locs hp105 hI => ?_)
          obtain ⟨hp1, hp2⟩ := hp105
          subst hp1
          rw [hp2] at hI
          exact gr_i S hr hlk hI (⟨by unfold aFile; rw [if_neg hnr, hfk]; show nI nx = nI (af x).1.length; rw [← x6, nmL_len], rfl⟩) d_SF_file_69
        · skip
          refine lv_tableOut (tgt := 70) S.1 S.2.1 d_SF_file_27 (Or.inr (by decide)) (by decide) ?_
          refine lv_aload_n S.1 S.2.1 d_SF_file_70 rfl (lv_at hl 0 rfl) ?_
          refine gc_Vi S hI (c_File_laidStripes l P f x0 x3 x7) kv_File_laidStripes wi_402 x0 rfl rfl rfl hl.1 rfl (Nat.le_of_ble_eq_true rfl) ⟨Nat.le_of_ble_eq_true rfl, Nat.le_of_ble_eq_true rfl⟩ ⟨Nat.le_of_ble_eq_true rfl, Nat.le_of_ble_eq_true rfl⟩ d_SF_file_71 (fun r106 f107 H locs hp108 hI => ?_)
          obtain ⟨hp1, hp2⟩ := hp108
          subst hp1
          rw [hp2] at hI
          exact gr_i S hr hlk hI (⟨by unfold aFile; rw [if_neg hnr, hfk]; unfold aFileV; rfl, rfl⟩) d_SF_file_74
    · skip
      replace c90 : 1 = 0 := (nI_eq (a := 1) (b := 0) (by omega) (by omega)).mp c90
      exact absurd c90 (by omega)
  · rw [show (if ¬ wh < 0 ∧ wh ≤ (nI 3) then nI 1 else nI 0 : Int32) = nI 0 from if_neg hw89]
    refine lv_if_ne (tgt := 10) S.1 S.2.1 d_SF_file_5 (by decide) (fun c109 => ?_) (fun c109 => ?_)
    · skip
      replace c109 : ¬ 0 = 0 := fun z => c109 ((nI_eq (a := 0) (b := 0) (by omega) (by omega)).mpr z)
      exact absurd c109 (by omega)
    · skip
      replace c109 : 0 = 0 := (nI_eq (a := 0) (b := 0) (by omega) (by omega)).mp c109
      refine lv_iconst (v := (-1)) S.1 S.2.1 d_SF_file_8 (by decide) ?_
      exact gr_i S hr hlk hI (⟨by unfold aFile; rw [if_pos (show wh < 0 ∨ 3 < wh from Classical.byContradiction fun z => hw89 ⟨fun q => z (Or.inl q), Int32.not_lt.mp (fun q => z (Or.inr q))⟩)], rfl⟩) d_SF_file_9
set_option maxHeartbeats 4000000 in
set_option maxRecDepth 100000 in
theorem c_SF_piece (l : Launch) (P : gPar) (f : gM) {a : Nat} {st : ASt} {k si ii : Int32} (h : gSF P f a st) : gC l P y_SF_piece b_SF_piece 5 (some .int) 4 0 0 [.ref a, .int k, .int si, .int ii] f (gQi P (fun r f1 => r = aPiece st k si ii ∧ f1 = f)) := by
  refine gC_of (by decide) (Nat.le_of_ble_eq_true rfl) (fun p env s m args below meth c S hr hlk hnm H locs hI ls hl => ?_)
  have hl : lv_has ls 5 [(0, .ref a), (1, .int k), (2, .int si), (3, .int ii)] := hl
  have h0 := h.1
  obtain ⟨gt, t1, t2, t3, t4, t5⟩ := h.2.1
  replace t1 : f (a + 1) = some (.inr (1, [.ref (a + 2), .int (nI st.1.length)])) := t1
  replace t2 : f (a + 2) = some (.inl (P.2.1 0, 2048, .inl gt)) := t2
  obtain ⟨gn, n1, n2, n3, n4, n5⟩ := h.2.2.1
  replace n1 : f (a + 3) = some (.inr (1, [.ref (a + 4), .int (nI st.2.1.length)])) := n1
  replace n2 : f (a + 4) = some (.inl (P.2.1 0, 200, .inl gn)) := n2
  obtain ⟨gm, m1, m2, m3, m4, m5⟩ := h.2.2.2.1
  replace m1 : f (a + 5) = some (.inr (1, [.ref (a + 6), .int (nI st.2.2.1.length)])) := m1
  replace m2 : f (a + 6) = some (.inl (P.2.1 0, 200, .inl gm)) := m2
  obtain ⟨gd, d1, d2, d3, d4, d5⟩ := h.2.2.2.2.1
  replace d1 : f (a + 7) = some (.inr (1, [.ref (a + 8), .int (nI st.2.2.2.1.length)])) := d1
  replace d2 : f (a + 8) = some (.inl (P.2.1 0, 2048, .inl gd)) := d2
  obtain ⟨ow, L, SF, SP, e1, c1, e2, c2, e3, c3, af, s1, s2, s3⟩ := h.2.2.2.2.2
  refine lv_aload_n S.1 S.2.1 d_SF_piece_0 rfl (lv_at hl 0 rfl) ?_
  refine gh_get S hI h0 rfl i_SF 4 (by decide) wi_74 rfl d_SF_piece_1 ?_
  refine lv_iload_n S.1 S.2.1 d_SF_piece_4 rfl (lv_at hl 1 rfl) ?_
  refine gc_Vq S hI (c_Shelf_fileAt l P f (k := k) s1) kv_Shelf_fileAt wi_397 s1.1 rfl rfl rfl hl.1 rfl (Nat.le_of_ble_eq_true rfl) ⟨Nat.le_of_ble_eq_true rfl, Nat.le_of_ble_eq_true rfl⟩ ⟨Nat.le_of_ble_eq_true rfl, Nat.le_of_ble_eq_true rfl⟩ d_SF_piece_5 (fun r110 f111 H locs hp112 hI => ?_)
  obtain ⟨hp1, hp2⟩ := hp112
  rw [hp2] at hI
  have hfk : fileK st.2.2.2.2.2 k = (fAt L k).map af := by rw [← s2]; exact fileK_L
  rw [← hp1] at hfk
  have hmem : ∀ x, r110 = some x → x ∈ L := by
    intro x hx
    rw [hp1] at hx
    unfold fAt at hx
    split at hx
    · exact List.mem_of_getElem? hx
    · cases hx
  rcases hr9 : r110 with _ | x
  · subst hr9
    rw [show va_rf none = .null from rfl]
    refine lv_astoreN (lv' := [(4, .null), (0, .ref a), (1, .int k), (2, .int si), (3, .int ii)]) S.1 S.2.1 d_SF_piece_8 hl (by decide) rfl (fun ls hl => ?_)
    refine lv_aloadN S.1 S.2.1 d_SF_piece_10 (lv_at hl 0 rfl) ?_
    refine lv_ifnonnullN S.1 S.2.1 d_SF_piece_12 ?_
    refine lv_bipush (v := (-2)) S.1 S.2.1 d_SF_piece_15 (by decide) ?_
    exact gr_i S hr hlk hI (⟨by unfold aPiece; rw [hfk]; rfl, rfl⟩) d_SF_piece_17
  · subst hr9
    rw [show va_rf (some x) = .ref x from rfl]
    refine lv_astore (lv' := [(4, .ref x), (0, .ref a), (1, .int k), (2, .int si), (3, .int ii)]) S.1 S.2.1 d_SF_piece_8 hl (by decide) rfl (fun ls hl => ?_)
    refine lv_aload S.1 S.2.1 d_SF_piece_10 (lv_at hl 0 rfl) ?_
    refine lv_ifnonnull (tgt := 18) S.1 S.2.1 d_SF_piece_12 (by decide) ?_
    replace hfk : fileK st.2.2.2.2.2 k = some (af x) := hfk
    obtain ⟨⟨nx, gx, psx, x0, x1, x2, x3, x4, x5, x6, x7⟩, xw⟩ := s1.2.2.2.2.2.1 x (hmem x rfl)
    refine lv_aload S.1 S.2.1 d_SF_piece_18 (lv_at hl 0 rfl) ?_
    refine lv_iload_n S.1 S.2.1 d_SF_piece_20 rfl (lv_at hl 3 rfl) ?_
    refine lv_iload_n S.1 S.2.1 d_SF_piece_21 rfl (lv_at hl 4 rfl) ?_
    refine gc_Vi S hI (c_File_keptByte l P f (si := si) (ii := ii) x0 x3 x7 xw.1) kv_File_keptByte wi_410 x0 rfl rfl rfl hl.1 rfl (Nat.le_of_ble_eq_true rfl) ⟨Nat.le_of_ble_eq_true rfl, Nat.le_of_ble_eq_true rfl⟩ ⟨Nat.le_of_ble_eq_true rfl, Nat.le_of_ble_eq_true rfl⟩ d_SF_piece_22 (fun r113 f114 H locs hp115 hI => ?_)
    obtain ⟨q1, q2⟩ := hp115
    rw [q2] at hI
    exact gr_i S hr hlk hI (⟨by unfold aPiece; rw [hfk, q1]; rfl, rfl⟩) d_SF_piece_25
set_option maxHeartbeats 4000000 in
set_option maxRecDepth 100000 in
theorem c_SF_count (l : Launch) (P : gPar) (f : gM) {a : Nat} {st : ASt} {wh : Int32} (h : gSF P f a st) : gC l P y_SF_count b_SF_count 2 (some .int) 4 0 0 [.ref a, .int wh] f (gQi P (fun r f1 => r = aCount st wh ∧ f1 = f)) := by
  refine gC_of (by decide) (Nat.le_of_ble_eq_true rfl) (fun p env s m args below meth c S hr hlk hnm H locs hI ls hl => ?_)
  have hl : lv_has ls 2 [(0, .ref a), (1, .int wh)] := hl
  have h0 := h.1
  obtain ⟨gt, t1, t2, t3, t4, t5⟩ := h.2.1
  replace t1 : f (a + 1) = some (.inr (1, [.ref (a + 2), .int (nI st.1.length)])) := t1
  replace t2 : f (a + 2) = some (.inl (P.2.1 0, 2048, .inl gt)) := t2
  obtain ⟨gn, n1, n2, n3, n4, n5⟩ := h.2.2.1
  replace n1 : f (a + 3) = some (.inr (1, [.ref (a + 4), .int (nI st.2.1.length)])) := n1
  replace n2 : f (a + 4) = some (.inl (P.2.1 0, 200, .inl gn)) := n2
  obtain ⟨gm, m1, m2, m3, m4, m5⟩ := h.2.2.2.1
  replace m1 : f (a + 5) = some (.inr (1, [.ref (a + 6), .int (nI st.2.2.1.length)])) := m1
  replace m2 : f (a + 6) = some (.inl (P.2.1 0, 200, .inl gm)) := m2
  obtain ⟨gd, d1, d2, d3, d4, d5⟩ := h.2.2.2.2.1
  replace d1 : f (a + 7) = some (.inr (1, [.ref (a + 8), .int (nI st.2.2.2.1.length)])) := d1
  replace d2 : f (a + 8) = some (.inl (P.2.1 0, 2048, .inl gd)) := d2
  obtain ⟨ow, L, SF, SP, e1, c1, e2, c2, e3, c3, af, s1, s2, s3⟩ := h.2.2.2.2.2
  refine lv_iload_n S.1 S.2.1 d_SF_count_0 rfl (lv_at hl 1 rfl) ?_
  by_cases hin : ¬ wh < 0 ∧ wh ≤ nI 4
  · skip
    obtain ⟨u, hu, hu2⟩ := nI_of hin.1
    have hu3 : u ≤ 4 := (nI_leI (b := 4) (by omega) (by omega)).mp (by rw [← hu2]; exact hin.2)
    subst hu2
    rcases (show u = 0 ∨ u = 1 ∨ u = 2 ∨ u = 3 ∨ u = 4 by omega) with e | e | e | e | e <;> subst e
    · skip
      refine lv_tableIn (tgt := 36) S.1 S.2.1 d_SF_count_1 (by decide) (by decide) rfl (by decide) ?_
      refine lv_aload_n S.1 S.2.1 d_SF_count_36 rfl (lv_at hl 0 rfl) ?_
      refine gh_get S hI h0 rfl i_SF 4 (by decide) wi_74 rfl d_SF_count_37 ?_
      refine gc_Vi S hI (c_Shelf_size l P f s1) kv_Shelf_size wi_418 s1.1 rfl rfl rfl hl.1 rfl (Nat.le_of_ble_eq_true rfl) ⟨Nat.le_of_ble_eq_true rfl, Nat.le_of_ble_eq_true rfl⟩ ⟨Nat.le_of_ble_eq_true rfl, Nat.le_of_ble_eq_true rfl⟩ d_SF_count_40 (fun r116 f117 H locs hp118 hI => ?_)
      obtain ⟨hp1, hp2⟩ := hp118
      subst hp1
      rw [hp2] at hI
      exact gr_i S hr hlk hI (⟨by unfold aCount; rw [if_pos (by decide), ← s2, List.length_map], rfl⟩) d_SF_count_43
    · skip
      refine lv_tableIn (tgt := 44) S.1 S.2.1 d_SF_count_1 (by decide) (by decide) rfl (by decide) ?_
      refine lv_aload_n S.1 S.2.1 d_SF_count_44 rfl (lv_at hl 0 rfl) ?_
      refine gh_get S hI h0 rfl i_SF 4 (by decide) wi_74 rfl d_SF_count_45 ?_
      refine gc_Vi S hI (c_Shelf_allBytes l P f s1) kv_Shelf_allBytes wi_422 s1.1 rfl rfl rfl hl.1 rfl (Nat.le_of_ble_eq_true rfl) ⟨Nat.le_of_ble_eq_true rfl, Nat.le_of_ble_eq_true rfl⟩ ⟨Nat.le_of_ble_eq_true rfl, Nat.le_of_ble_eq_true rfl⟩ d_SF_count_48 (fun r119 f120 H locs hp121 hI => ?_)
      obtain ⟨hp1, hp2⟩ := hp121
      subst hp1
      rw [hp2] at hI
      exact gr_i S hr hlk hI (⟨by unfold aCount; rw [if_neg (by decide), if_pos (by decide), ← s2, fB_L], rfl⟩) d_SF_count_51
    · skip
      refine lv_tableIn (tgt := 52) S.1 S.2.1 d_SF_count_1 (by decide) (by decide) rfl (by decide) ?_
      refine lv_aload_n S.1 S.2.1 d_SF_count_52 rfl (lv_at hl 0 rfl) ?_
      refine gh_get S hI h0 rfl i_SF 4 (by decide) wi_74 rfl d_SF_count_53 ?_
      refine gc_Vi S hI (c_Shelf_laidStripes l P f s1) kv_Shelf_laidStripes wi_423 s1.1 rfl rfl rfl hl.1 rfl (Nat.le_of_ble_eq_true rfl) ⟨Nat.le_of_ble_eq_true rfl, Nat.le_of_ble_eq_true rfl⟩ ⟨Nat.le_of_ble_eq_true rfl, Nat.le_of_ble_eq_true rfl⟩ d_SF_count_56 (fun r122 f123 H locs hp124 hI => ?_)
      obtain ⟨hp1, hp2⟩ := hp124
      subst hp1
      rw [hp2] at hI
      exact gr_i S hr hlk hI (⟨by unfold aCount; rw [if_neg (by decide), if_neg (by decide), if_pos (by decide), ← s2, fC_L], rfl⟩) d_SF_count_59
    · skip
      refine lv_tableIn (tgt := 60) S.1 S.2.1 d_SF_count_1 (by decide) (by decide) rfl (by decide) ?_
      refine lv_aload_n S.1 S.2.1 d_SF_count_60 rfl (lv_at hl 0 rfl) ?_
      refine gh_get S hI h0 rfl i_SF 5 (by decide) wi_75 rfl d_SF_count_61 ?_
      exact gr_i S hr hlk hI (⟨by unfold aCount; rw [if_neg (by decide), if_neg (by decide), if_neg (by decide), if_pos (by decide)], rfl⟩) d_SF_count_64
    · skip
      refine lv_tableIn (tgt := 65) S.1 S.2.1 d_SF_count_1 (by decide) (by decide) rfl (by decide) ?_
      refine lv_aload_n S.1 S.2.1 d_SF_count_65 rfl (lv_at hl 0 rfl) ?_
      refine gh_get S hI h0 rfl i_SF 0 (by decide) wi_70 rfl d_SF_count_66 ?_
      refine gc_Vi S hI (c_Row_length l P f t1) kv_Row_length wi_80 t1 rfl rfl rfl hl.1 rfl (Nat.le_of_ble_eq_true rfl) ⟨Nat.le_of_ble_eq_true rfl, Nat.le_of_ble_eq_true rfl⟩ ⟨Nat.le_of_ble_eq_true rfl, Nat.le_of_ble_eq_true rfl⟩ d_SF_count_69 (fun r125 f126 H locs hp127 hI => ?_)
      obtain ⟨hp1, hp2⟩ := hp127
      subst hp1
      rw [hp2] at hI
      exact gr_i S hr hlk hI (⟨by unfold aCount; rw [if_neg (by decide), if_neg (by decide), if_neg (by decide), if_neg (by decide), if_pos (by decide)], rfl⟩) d_SF_count_72
  · skip
    have hno : ∀ j : Nat, j ≤ 4 → wh ≠ nI j := fun j hj e => hin (by rw [e]; exact ⟨nI_pos (by omega), nI_le hj (by omega)⟩)
    have hout : wh.toInt < 0 ∨ 4 < wh.toInt := by
      rcases Classical.em (wh < 0) with q | q
      · exact Or.inl (Int32.lt_iff_toInt_lt.mp q)
      · right
        have q2 : ¬ wh ≤ nI 4 := fun z => hin ⟨q, z⟩
        have q3 := Int32.lt_iff_toInt_lt.mp (Int32.not_le.mp q2)
        rw [nI_toInt (by omega)] at q3; exact q3
    refine lv_tableOut (tgt := 73) S.1 S.2.1 d_SF_count_1 hout (by decide) ?_
    refine lv_iconst (v := (-1)) S.1 S.2.1 d_SF_count_73 (by decide) ?_
    exact gr_i S hr hlk hI (⟨by unfold aCount; rw [if_neg (show ¬ wh = 0 from hno 0 (by omega)), if_neg (show ¬ wh = 1 from hno 1 (by omega)), if_neg (show ¬ wh = 2 from hno 2 (by omega)), if_neg (show ¬ wh = 3 from hno 3 (by omega)), if_neg (show ¬ wh = 4 from hno 4 (by omega))], rfl⟩) d_SF_count_74
end
section
/-! the files as a list of values, over the shelf's steps -/
theorem map_up {L : List Nat} {af : Nat → AFile} {x : Nat} {v : AFile} (h : x ∉ L) : L.map (va_up af x v) = L.map af := List.map_congr_left (fun q hq => va_up_ne _ _ (fun z => h (by rw [← z]; exact hq)))
theorem map_ins (F : Nat → AFile) : ∀ (L : List Nat) (i x : Nat), (L.insertIdx i x).map F = (L.map F).insertIdx i (F x)
  | _, 0, _ => by simp
  | [], i + 1, _ => by simp
  | a :: l, i + 1, x => by simp [map_ins F l i x]
theorem map_ins_up {L : List Nat} {af : Nat → AFile} {x i : Nat} {v : AFile} (h : x ∉ L) : (L.insertIdx i x).map (va_up af x v) = (L.map af).insertIdx i v := by
  rw [map_ins, map_up h, va_up_self]
theorem map_set_up {L : List Nat} {af : Nat → AFile} {x k : Nat} {v : AFile} (hnd : L.Nodup) (hx : L[k]? = some x) : L.map (va_up af x v) = (L.map af).set k v := by
  apply List.ext_getElem?
  intro j
  rw [List.getElem?_map]
  by_cases e : j = k
  · subst e
    have hl := (List.getElem?_eq_some_iff.mp hx).1
    rw [hx, List.getElem?_set_self (by simpa using hl)]
    show some (va_up af x v x) = some v
    rw [va_up_self]
  · rw [List.getElem?_set_ne (Ne.symm e), List.getElem?_map]
    cases hj : L[j]? with
    | none => rfl
    | some q =>
      show some (va_up af x v q) = some (af q)
      rw [va_up_ne _ _ (fun z => e ?_)]
      obtain ⟨a1, a2⟩ := List.getElem?_eq_some_iff.mp hj
      obtain ⟨b1, b2⟩ := List.getElem?_eq_some_iff.mp hx
      exact (List.getElem_inj hnd).mp (a2.trans (z.trans b2.symm))
theorem sum_ins {F : Nat → Nat} {L : List Nat} {x i : Nat} (hi : i ≤ L.length) : ((L.insertIdx i x).map F).sum = F x + (L.map F).sum := by
  have hp : ((L.insertIdx i x).map F).Perm ((x :: L).map F) := (List.perm_insertIdx x L hi).map F
  rw [hp.sum_nat]; simp
theorem sum_er {F : Nat → Nat} : ∀ {L : List Nat} {x k : Nat}, L[k]? = some x → ((L.eraseIdx k).map F).sum + F x = (L.map F).sum
  | a :: l, x, 0, h => by
    simp at h
    subst h
    simp; omega
  | a :: l, x, k + 1, h => by
    have := sum_er (F := F) (L := l) (k := k) (by simpa using h)
    simp; omega
theorem sum_congr {F G : Nat → Nat} : ∀ {L : List Nat}, (∀ q ∈ L, F q = G q) → (L.map F).sum = (L.map G).sum
  | [], _ => rfl
  | a :: l, h => by
    simp only [List.map_cons, List.sum_cons]
    rw [h a (by simp), sum_congr (fun q hq => h q (by simp [hq]))]
/-- one file is changed -/
theorem sum_up {G : AFile → Nat} {af : Nat → AFile} {x : Nat} {v : AFile} : ∀ {L : List Nat}, L.Nodup → x ∈ L → (L.map (fun q => G (va_up af x v q))).sum + G (af x) = (L.map (fun q => G (af q))).sum + G v
  | a :: l, hnd, hx => by
    obtain ⟨h1, h2⟩ := List.nodup_cons.mp hnd
    simp only [List.map_cons, List.sum_cons]
    rcases List.mem_cons.mp hx with e | e
    · subst e
      rw [va_up_self, sum_congr (L := l) (G := fun q => G (af q)) (fun q hq => by rw [va_up_ne _ _ (fun z => h1 (by rw [← z]; exact hq))])]
      omega
    · have := sum_up (G := G) (af := af) (v := v) h2 e
      rw [va_up_ne _ _ (fun z => h1 (by rw [z]; exact e))]
      omega
theorem cnt_le {len : Nat} {ld : Nat → Bool} {C : Nat → Nat} (h : wfF len ld C) : ∀ k, cntL ld k ≤ (len + 447) / 448
  | 0 => by unfold cntL; omega
  | k + 1 => by
    unfold cntL
    by_cases c : ld k = true
    · rw [if_pos c]
      have h1 := cntL_le ld k
      have h2 := h.2.2.1 k c
      omega
    · rw [if_neg c]
      exact cnt_le h k
theorem sumC_le {af : Nat → AFile} : ∀ {L : List Nat}, (∀ q ∈ L, wfF (af q).2.2.1 (af q).2.2.2.1 (af q).2.2.2.2) → 448 * sumC af L ≤ sumB af L + 447 * L.length
  | [], _ => by simp [sumC, sumB]
  | a :: l, h => by
    have h1 := sumC_le (af := af) (L := l) (fun q hq => h q (by simp [hq]))
    have h2 := cnt_le (h a (by simp)) 19
    unfold sumC sumB at *
    simp only [List.map_cons, List.sum_cons, List.length_cons]
    omega
theorem sumC_121 {af : Nat → AFile} {L : List Nat} (h : ∀ q ∈ L, wfF (af q).2.2.1 (af q).2.2.2.1 (af q).2.2.2.2) (hb : sumB af L ≤ 32768) (hl : L.length ≤ 48) : sumC af L ≤ 121 := by
  have := sumC_le h
  omega
theorem wC_lF {C : Nat → Nat} {g : Nat → Int32} {fr n : Nat} : wC C (fun i => ub (g i)) fr n = wC C (lF (nmL n g)) fr n := by
  funext p; unfold wC lF
  by_cases h : fr ≤ p ∧ p < fr + n
  · rw [if_pos h, if_pos h, List.getD_eq_getElem?_getD, nmL_get (by omega)]; rfl
  · rw [if_neg h, if_neg h]
/-- a written file keeps its law -/
theorem wfF_wr {len fr n : Nat} {ld : Nat → Bool} {C T : Nat → Nat} (h : wfF len ld C) (h8 : (if n = 0 then len else max len (fr + n)) ≤ 8192) : wfF (if n = 0 then len else max len (fr + n)) (wl ld fr n) (wC C T fr n) := by
  obtain ⟨a1, a2, a3, a4⟩ := h
  by_cases hn : n = 0
  · subst hn
    rw [if_pos rfl] at h8 ⊢
    have e1 : wl ld fr 0 = ld := by funext t; unfold wl; rw [show decide (max fr (448 * t) < min (fr + 0) (448 * t + 448)) = false by simp; omega]; simp
    have e2 : wC C T fr 0 = C := by funext p; unfold wC; rw [if_neg (by omega)]
    rw [e1, e2]; exact ⟨a1, a2, a3, a4⟩
  · rw [if_neg hn] at h8 ⊢
    refine ⟨h8, fun p hp => ?_, fun s hs => ?_, fun p hp => ?_⟩
    · unfold wC; rw [if_neg (by omega)]; exact a2 p (by omega)
    · unfold wl at hs
      rcases (Bool.or_eq_true _ _).mp hs with e | e
      · have := a3 s e; omega
      · have := of_decide_eq_true e; omega
    · unfold wl at hp
      obtain ⟨p1, p2⟩ := Bool.or_eq_false_iff.mp hp
      have p3 := of_decide_eq_false p2
      unfold wC
      rw [if_neg (by omega)]
      exact a4 p p1
theorem wfF_cut {len n : Nat} {ld : Nat → Bool} {C : Nat → Nat} (h : wfF len ld C) (hn : n ≤ 8192) : wfF n (ctl ld n) (ctc C n) := by
  obtain ⟨a1, a2, a3, a4⟩ := h
  refine ⟨hn, fun p hp => by unfold ctc; rw [if_pos hp], fun s hs => ?_, fun p hp => ?_⟩
  · unfold ctl at hs
    exact of_decide_eq_true ((Bool.and_eq_true _ _).mp hs).2
  · unfold ctc
    by_cases c : n ≤ p
    · rw [if_pos c]
    · rw [if_neg c]
      unfold ctl at hp
      rcases (Bool.and_eq_false_iff).mp hp with e | e
      · exact a4 p e
      · have := of_decide_eq_false e; omega
theorem getD_map {L : List Nat} {af : Nat → AFile} {k x : Nat} {d : AFile} (h : L[k]? = some x) : (L.map af).getD k d = af x := by
  rw [List.getD_eq_getElem?_getD, List.getElem?_map, h]; rfl
theorem idx_get {L : List Nat} {af : Nat → AFile} {nm : List Nat} {k : Nat} (h : idx (nms af L) nm = some k) : ∃ x, L[k]? = some x ∧ (af x).1 = nm ∧ x ∈ L := by
  obtain ⟨h1, -, h3⟩ := idx_lt h
  rw [nms_get] at h3
  cases hx : L[k]? with
  | none => rw [hx] at h3; cases h3
  | some x =>
    rw [hx] at h3
    exact ⟨x, rfl, Option.some.inj h3, List.mem_of_getElem? hx⟩
end
section
/-! an operation's beginning: one more is counted, nothing is told -/
def aIn (st : ASt) : ASt := (st.1, st.2.1, st.2.2.1, ([] : List Nat), st.2.2.2.2.1 + 1, st.2.2.2.2.2)
noncomputable def aRun (st : ASt) (kind a b : Int32) : Int32 × ASt := @ite (Int32 × ASt) (aRef st kind a b) (Classical.propDecidable _) (-1, st) ((aOp st kind a b).1, aAft st (aOp st kind a b))
theorem aRun_ref {st : ASt} {kind a b : Int32} (h : aRef st kind a b) : aRun st kind a b = (-1, st) := by unfold aRun; rw [if_pos h]
theorem aRun_op {st : ASt} {kind a b : Int32} (h : ¬ aRef st kind a b) : aRun st kind a b = ((aOp st kind a b).1, aAft st (aOp st kind a b)) := by unfold aRun; rw [if_neg h]
theorem aRef_no {st : ASt} {kind a b : Int32} (h0 : ¬ (kind < 0 ∨ 9 < kind)) (h1 : kind ≠ 9 → st.2.1 ≠ []) (h2 : kind = 6 ∨ kind = 7 → st.2.2.1 ≠ []) (h3 : kind = 1 ∨ kind = 3 ∨ kind = 4 → ¬ (a < 0 ∨ 8192 < a)) (h4 : kind = 4 → ¬ (b < 0 ∨ 2048 < b)) : ¬ aRef st kind a b := by
  intro z
  rcases z with z | z | z | z | z
  · exact h0 z
  · exact h1 z.1 z.2
  · exact h2 z.1 z.2
  · exact h3 z.1 z.2
  · exact h4 z.1 z.2
/-- behind a step on the shelf -/
theorem gSF.sh {P : gPar} {f f1 : gM} {a : Nat} {st : ASt} {V : Nat → Prop} {FS : List AFile} (h : gSF P f a st) (hU : gFU f f1 (gUS a V)) (hs : gFS P f1 (a + 9) FS) : gSF P f1 a (st.1, st.2.1, st.2.2.1, st.2.2.2.1, st.2.2.2.2.1, FS) ∧ gFU f f1 V := by
  obtain ⟨h0, h1, h2, h3, h4, -⟩ := h
  have u : ∀ c, a ≤ c → c ≤ a + 8 → gUS a V c := fun c x y => Or.inl ⟨x, y⟩
  exact ⟨⟨hU _ _ (u a (by omega) (by omega)) h0, h1.fu hU (u _ (by omega) (by omega)) (u _ (by omega) (by omega)), h2.fu hU (u _ (by omega) (by omega)) (u _ (by omega) (by omega)), h3.fu hU (u _ (by omega) (by omega)) (u _ (by omega) (by omega)), h4.fu hU (u _ (by omega) (by omega)) (u _ (by omega) (by omega)), hs⟩, fun c v hc hf => hU c v (Or.inr hc) hf⟩
/-- the tape is made empty -/
theorem gSF.sht {P : gPar} {f f1 : gM} {a : Nat} {st : ASt} {V : Nat → Prop} (h : gSF P f a st) (hV : gUo f V) (hVa : ∀ c, V c → a + 14 ≤ c) (hz : f P.2.2.2.1 = none) (hf : f1 = va_up f (a + 1) (some (.inr (1, [.ref (a + 2), .int (nI 0)])))) : gSF P f1 a ([], st.2) ∧ gFU f f1 V := by
  have hF : gFr f f1 [a + 1] := by rw [hf]; exact gFr.upA (by simp) gFr.rf
  have hin := inr1 (a := a) (x := a + 1) (by omega)
  have gfs := gFS.out h hV hz hF hin
  refine ⟨⟨hF a _ h.1 (by simp), ?_, h.2.2.1.fr hF (by simp) (by simp), h.2.2.2.1.fr hF (by simp) (by simp), h.2.2.2.2.1.fr hF (by simp) (by simp), gfs⟩, gFU.out hVa hF hin⟩
  obtain ⟨g, t1, t2, t3, t4, t5⟩ := h.2.1
  exact ⟨g, by rw [hf]; exact va_up_self _ _ _, hF _ _ t2 (by simp), by simp, t4, rfl⟩
/-- a row of what is told -/
theorem gSF.shd {P : gPar} {f f1 : gM} {a : Nat} {st : ASt} {V : Nat → Prop} {T : List Nat} (h : gSF P f a st) (hV : gUo f V) (hVa : ∀ c, V c → a + 14 ≤ c) (hz : f P.2.2.2.1 = none) (hF : gFr f f1 [a + 7, a + 8]) (hr : gRw P f1 (a + 7) 2048 T) : gSF P f1 a (st.1, st.2.1, st.2.2.1, T, st.2.2.2.2) ∧ gFU f f1 V := by
  have hin := inr2 (a := a) (x := a + 7) (y := a + 8) (by omega) (by omega)
  have gfs := gFS.out h hV hz hF hin
  exact ⟨⟨hF a _ h.1 (by simp), h.2.1.fr hF (by simp) (by simp), h.2.2.1.fr hF (by simp) (by simp), h.2.2.2.1.fr hF (by simp) (by simp), hr, gfs⟩, gFU.out hVa hF hin⟩
/-- an operation is counted, and nothing is told -/
theorem gSF.inn {P : gPar} {f f1 f2 : gM} {a : Nat} {st : ASt} {V : Nat → Prop} (h : gSF P f a st) (hV : gUo f V) (hVa : ∀ c, V c → a + 14 ≤ c) (hz : f P.2.2.2.1 = none) (hf : f1 = va_up f a (some (.inr (0, [.ref (a + 1), .ref (a + 3), .ref (a + 5), .ref (a + 7), .ref (a + 9), .int (nI (st.2.2.2.2.1 + 1))])))) (hf2 : f2 = va_up f1 (a + 7) (some (.inr (1, [.ref (a + 8), .int (nI 0)])))) : gSF P f2 a (aIn st) ∧ gFU f f2 V := by
  have hF : gFr f f2 [a, a + 7] := by rw [hf2, hf]; exact gFr.upA (by simp) (gFr.upA (by simp) gFr.rf)
  have hin := inr2 (a := a) (x := a) (y := a + 7) (by omega) (by omega)
  have gfs := gFS.out h hV hz hF hin
  refine ⟨⟨?_, h.2.1.fr hF (nm2 (by omega) (by omega)) (nm2 (by omega) (by omega)), h.2.2.1.fr hF (nm2 (by omega) (by omega)) (nm2 (by omega) (by omega)), h.2.2.2.1.fr hF (nm2 (by omega) (by omega)) (nm2 (by omega) (by omega)), ?_, gfs⟩, gFU.out hVa hF hin⟩
  · rw [hf2, va_up_ne _ _ (by omega), hf]; exact va_up_self _ _ _
  · obtain ⟨g, t1, t2, t3, t4, t5⟩ := h.2.2.2.2.1
    exact ⟨g, by rw [hf2]; exact va_up_self _ _ _, hF _ _ t2 (nm2 (by omega) (by omega)), by simp [aIn], t4, rfl⟩
/-- a file is changed: written, cut -/
theorem gSh.file {P : gPar} {f f1 : gM} {ow ow1 : gO} {sh x nx len' : Nat} {L SF SP SP1 : List Nat} {e1 c1 e2 c2 e3 c3 e3' c3' : Nat} {af : Nat → AFile} {gx : Nat → Int32} {ps ps1 : Nat → Option Nat} {ld' : Nat → Bool} {C' : Nat → Nat} (h : gSh P f ow sh L SF SP e1 c1 e2 c2 e3 c3 af) (h34 : P.2.1 3 ≠ P.2.1 4) (hz : f P.2.2.2.1 = none) (hxL : x ∈ L)
    (x0 : f x = some (.inr (4, [.ref (sh + 3), .ref (x + 1), .ref (x + 3), .int (af x).2.1, .int (nI (af x).2.2.1)]))) (x1 : f (x + 1) = some (.inr (1, [.ref (x + 2), .int (nI nx)]))) (x2 : f (x + 2) = some (.inl (P.2.1 0, 200, .inl gx))) (x3 : f (x + 3) = some (.inl (P.2.1 3, 19, .inr (.inr (.inr (.inr ps)))))) (x4 : nx ≤ 200) (x5 : sb_Fit gx) (x6 : nmL nx gx = (af x).1) (x7 : gPs P f ow x ps (af x).2.2.2.1 (af x).2.2.2.2)
    (q0 : f1 x = some (.inr (4, [.ref (sh + 3), .ref (x + 1), .ref (x + 3), .int (af x).2.1, .int (nI len')]))) (q3 : f1 (x + 3) = some (.inl (P.2.1 3, 19, .inr (.inr (.inr (.inr ps1)))))) (hsp : gSp P f1 ow1 (sh + 3) e3' c3' SP1) (hps1 : gPs P f1 ow1 x ps1 ld' C') (hr : gRel x (sh + 3) f ow e3 SP ps f1 ow1 e3' SP1 ps1) (hwf : wfF len' ld' C') : gSh P f1 ow1 sh L SF SP1 e1 c1 e2 c2 e3' c3' (va_up af x ((af x).1, (af x).2.1, len', ld', C')) := by
  have hout := gXs_row hz x0 x3 x7 h.2.2.2.1 x1 x2
  refine h.rel h34 hz ⟨_, x0⟩ x3 x7 hr hsp (fun q _ hne => va_up_ne _ _ hne) (fun _ => ?_) (fun z => (List.nodup_append.mp h.2.2.2.2.2.2.2.1).2.2 _ hxL _ z rfl)
  rw [va_up_self]
  exact ⟨⟨nx, gx, ps1, q0, hr.1 _ _ x1 hout.1, hr.1 _ _ x2 hout.2, q3, x4, x5, x6, hps1⟩, hwf⟩
/-- counts over a change of one file -/
theorem cnt_file {af : Nat → AFile} {L : List Nat} {x s s1 : Nat} {v : AFile} (hnd : L.Nodup) (hx : x ∈ L) (hc : s + sumC af L ≤ 121) (h : s1 + cntL v.2.2.2.1 19 = s + cntL (af x).2.2.2.1 19) : s1 + sumC (va_up af x v) L ≤ 121 := by
  have e := sum_up (G := fun w => cntL w.2.2.2.1 19) (af := af) (v := v) hnd hx
  unfold sumC at *
  omega
theorem bytes_file {af : Nat → AFile} {L : List Nat} {x : Nat} {v : AFile} (hnd : L.Nodup) (hx : x ∈ L) : sumB (va_up af x v) L + (af x).2.2.1 = sumB af L + v.2.2.1 := sum_up (G := fun w => w.2.2.1) (af := af) (v := v) hnd hx
theorem sumG_ins {G : AFile → Nat} {af : Nat → AFile} {L : List Nat} {x i : Nat} {v : AFile} (h : x ∉ L) (hi : i ≤ L.length) : ((L.insertIdx i x).map (fun q => G (va_up af x v q))).sum = G v + (L.map (fun q => G (af q))).sum := by
  rw [sum_ins (F := fun q => G (va_up af x v q)) hi, va_up_self, sum_congr (F := fun q => G (va_up af x v q)) (G := fun q => G (af q)) (fun q hq => by rw [va_up_ne _ _ (fun z => h (by rw [← z]; exact hq))])]
theorem va_up_up {α : Type} {f : Nat → α} {k : Nat} {v w : α} : va_up (va_up f k v) k w = va_up f k w := by
  funext j
  by_cases e : j = k
  · rw [e, va_up_self, va_up_self]
  · rw [va_up_ne _ _ e, va_up_ne _ _ e, va_up_ne _ _ e]
theorem map_er {α β : Type} (F : α → β) : ∀ (L : List α) (k : Nat), (L.eraseIdx k).map F = (L.map F).eraseIdx k
  | [], _ => by simp
  | _ :: _, 0 => by simp
  | a :: l, k + 1 => by simp [map_er F l k]
theorem sum_set : ∀ {l : List Nat} {i p q : Nat}, l[i]? = some p → (l.set i q).sum + p = l.sum + q
  | a :: l, 0, p, q, h => by simp at h; subst h; simp; omega
  | a :: l, i + 1, p, q, h => by
    have := sum_set (l := l) (q := q) (show l[i]? = some p by simpa using h)
    simp; omega
theorem sum_sw {l : List Nat} {i j p q : Nat} (hi : l[i]? = some p) (hj : l[j]? = some q) : ((l.set i q).set j p).sum = l.sum := by
  have e1 := sum_set (q := q) hi
  by_cases e : i = j
  · subst e
    rw [hi] at hj; injection hj with hj; subst hj
    have e2 := sum_set (l := l.set i p) (i := i) (p := p) (q := p) (by rw [List.getElem?_set_self (List.getElem?_eq_some_iff.mp hi).1])
    omega
  · have e2 := sum_set (l := l.set i q) (i := j) (p := q) (q := p) (by rw [List.getElem?_set_ne e]; exact hj)
    omega
theorem plc_bf : ∀ {l : List (List Nat)} {nm : List Nat} {i : Nat} {x : List Nat}, i < plc l nm → l[i]? = some x → nlt x nm
  | [], nm, i, x, h, _ => by simp [plc] at h
  | y :: ys, nm, i, x, h, hx => by
    unfold plc at h
    by_cases c : nltb y nm = true
    · rw [if_pos c] at h
      cases i with
      | zero => simp at hx; rw [← hx]; exact nltb_iff.mp c
      | succ i => exact plc_bf (l := ys) (i := i) (by omega) (by simpa using hx)
    · rw [if_neg c] at h; omega
/-- a name stays where it is found, if another is taken out -/
theorem idx_er {l : List (List Nat)} {nm : List Nat} {j k : Nat} (h : idx l nm = some k) (hj : j ≠ k) : idx (l.eraseIdx j) nm = some (if j < k then k - 1 else k) := by
  obtain ⟨h1, h2, h3⟩ := idx_lt h
  have hb := fun i x (hi : i < k) => plc_bf (l := l) (nm := nm) (i := i) (x := x) (by omega)
  have hat : (l.eraseIdx j)[if j < k then k - 1 else k]? = some nm := by
    rw [List.getElem?_eraseIdx]
    by_cases c : j < k
    · rw [if_pos c, if_neg (by omega), show k - 1 + 1 = k by omega]; exact h3
    · rw [if_neg c, if_pos (by omega)]; exact h3
  have hp : plc (l.eraseIdx j) nm = (if j < k then k - 1 else k) := by
    refine plc_eq (Nat.le_of_lt (List.getElem?_eq_some_iff.mp hat).1) (fun i x hi hx => ?_) (fun x hx => ?_)
    · rw [List.getElem?_eraseIdx] at hx
      split at hi <;> split at hx <;> exact hb _ x (by omega) hx
    · rw [hat] at hx; injection hx with hx; rw [← hx]; exact nlt_irrefl _
  unfold idx
  rw [hp, if_pos hat]
theorem range_nmL {m fr : Nat} {g : Nat → Int32} {C : Nat → Nat} (h : ∀ i, i < m → ub (g i) = C (fr + i)) : nmL m g = (List.range m).map (fun i => C (fr + i)) := by
  unfold nmL
  exact List.map_congr_left (fun i hi => h i (List.mem_range.mp hi))
/-! the answers, case by case -/
theorem oMake_s {st : ASt} {k : Nat} (h : idx (fN st.2.2.2.2.2) st.2.1 = some k) : oMake st = (-3, [], st.1, st.2.2.2.2.2) := by simp only [oMake, h]
theorem oMake_n {st : ASt} (h : idx (fN st.2.2.2.2.2) st.2.1 = none) : oMake st = if 48 ≤ st.2.2.2.2.2.length then (-4, [], st.1, st.2.2.2.2.2) else (0, [], st.1, fIns st.2.2.2.2.2 (fNew st.2.1 (nI st.2.2.2.2.1))) := by simp only [oMake, h]
theorem oCut_n {st : ASt} {a : Nat} (h : idx (fN st.2.2.2.2.2) st.2.1 = none) : oCut st a = (-2, [], st.1, st.2.2.2.2.2) := by simp only [oCut, h]
theorem oRead_n {st : ASt} {a b : Nat} (h : idx (fN st.2.2.2.2.2) st.2.1 = none) : oRead st a b = (-2, [], st.1, st.2.2.2.2.2) := by simp only [oRead, h]
theorem oRemove_n {st : ASt} (h : idx (fN st.2.2.2.2.2) st.2.1 = none) : oRemove st = (-2, [], st.1, st.2.2.2.2.2) := by simp only [oRemove, h]
theorem oSize_n {st : ASt} (h : idx (fN st.2.2.2.2.2) st.2.1 = none) : oSize st = (-2, [], st.1, st.2.2.2.2.2) := by simp only [oSize, h]
theorem oRename_n {st : ASt} (h : idx (fN st.2.2.2.2.2) st.2.1 = none) : oRename st = (-2, [], st.1, st.2.2.2.2.2) := by simp only [oRename, h]
theorem oCut_s {st : ASt} {a k : Nat} {v : AFile} (h : idx (fN st.2.2.2.2.2) st.2.1 = some k) (hv : st.2.2.2.2.2.getD k (fNew [] 0) = v) : oCut st a = if v.2.2.1 < a ∧ ¬ fB st.2.2.2.2.2 - v.2.2.1 + a ≤ 32768 then (-4, [], st.1, st.2.2.2.2.2) else (nI v.2.2.1, [], st.1, st.2.2.2.2.2.set k (fCut v a)) := by simp only [oCut, h, hv]
theorem oRead_s {st : ASt} {a b k : Nat} {v : AFile} (h : idx (fN st.2.2.2.2.2) st.2.1 = some k) (hv : st.2.2.2.2.2.getD k (fNew [] 0) = v) : oRead st a b = (nI (min v.2.2.1 (a + b) - a), (List.range (min v.2.2.1 (a + b) - a)).map (fun i => v.2.2.2.2 (a + i)), st.1, st.2.2.2.2.2) := by simp only [oRead, h, hv]
theorem oRemove_s {st : ASt} {k : Nat} {v : AFile} (h : idx (fN st.2.2.2.2.2) st.2.1 = some k) (hv : st.2.2.2.2.2.getD k (fNew [] 0) = v) : oRemove st = (nI v.2.2.1, [], st.1, st.2.2.2.2.2.eraseIdx k) := by simp only [oRemove, h, hv]
theorem oSize_s {st : ASt} {k : Nat} {v : AFile} (h : idx (fN st.2.2.2.2.2) st.2.1 = some k) (hv : st.2.2.2.2.2.getD k (fNew [] 0) = v) : oSize st = (nI v.2.2.1, [], st.1, st.2.2.2.2.2) := by simp only [oSize, h, hv]
theorem oWrite_s {st : ASt} {app : Bool} {a k fr at_ : Nat} {v : AFile} (h : idx (fN st.2.2.2.2.2) st.2.1 = some k) (hv : st.2.2.2.2.2.getD k (fNew [] 0) = v) (hfr : fr = if app then v.2.2.1 else a) (hat : at_ = if st.1.length = 0 then v.2.2.1 else max v.2.2.1 (fr + st.1.length)) : oWrite st app a = if at_ ≤ 8192 ∧ fB st.2.2.2.2.2 - v.2.2.1 + at_ ≤ 32768 then (nI st.1.length, [], [], st.2.2.2.2.2.set k (fWr v fr st.1)) else (-4, [], [], st.2.2.2.2.2) := by
  subst hat hfr
  simp only [oWrite, h, hv]
theorem oWrite_n {st : ASt} {app : Bool} {a fr at_ : Nat} (h : idx (fN st.2.2.2.2.2) st.2.1 = none) (hfr : fr = if app then 0 else a) (hat : at_ = if st.1.length = 0 then 0 else fr + st.1.length) : oWrite st app a = if st.2.2.2.2.2.length < 48 ∧ at_ ≤ 8192 ∧ fB st.2.2.2.2.2 + at_ ≤ 32768 then (nI st.1.length, [], [], fIns st.2.2.2.2.2 (fWr (fNew st.2.1 (nI st.2.2.2.2.1)) fr st.1)) else (-4, [], [], st.2.2.2.2.2) := by
  subst hat hfr
  simp only [oWrite, h]
theorem oRename_e {st : ASt} {k : Nat} (h : idx (fN st.2.2.2.2.2) st.2.1 = some k) (he : st.2.1 = st.2.2.1) : oRename st = (0, [], st.1, st.2.2.2.2.2) := by simp only [oRename, h, if_pos he]
theorem oRename_0 {st : ASt} {k : Nat} (h : idx (fN st.2.2.2.2.2) st.2.1 = some k) (he : st.2.1 ≠ st.2.2.1) (h2 : idx (fN st.2.2.2.2.2) st.2.2.1 = none) : oRename st = (0, [], st.1, fIns (st.2.2.2.2.2.eraseIdx k) (st.2.2.1, (st.2.2.2.2.2.getD k (fNew [] 0)).2)) := by simp only [oRename, h, if_neg he, h2]
theorem oRename_1 {st : ASt} {k j k1 : Nat} (h : idx (fN st.2.2.2.2.2) st.2.1 = some k) (he : st.2.1 ≠ st.2.2.1) (h2 : idx (fN st.2.2.2.2.2) st.2.2.1 = some j) (h3 : idx (fN (st.2.2.2.2.2.eraseIdx j)) st.2.1 = some k1) : oRename st = (1, [], st.1, fIns ((st.2.2.2.2.2.eraseIdx j).eraseIdx k1) (st.2.2.1, ((st.2.2.2.2.2.eraseIdx j).getD k1 (fNew [] 0)).2)) := by simp only [oRename, h, if_neg he, h2, h3]
theorem oSwap_n {st : ASt} (h : idx (fN st.2.2.2.2.2) st.2.1 = none ∨ idx (fN st.2.2.2.2.2) st.2.2.1 = none) : oSwap st = (-2, [], st.1, st.2.2.2.2.2) := by
  rcases h with h | h
  · simp only [oSwap, h]
  · simp only [oSwap, h]
    split
    · rename_i z; cases z
    · rfl
theorem oSwap_s {st : ASt} {i j : Nat} (h : idx (fN st.2.2.2.2.2) st.2.1 = some i) (h2 : idx (fN st.2.2.2.2.2) st.2.2.1 = some j) : oSwap st = (0, [], st.1, (st.2.2.2.2.2.set i (st.2.1, (st.2.2.2.2.2.getD j (fNew [] 0)).2)).set j (st.2.2.1, (st.2.2.2.2.2.getD i (fNew [] 0)).2)) := by simp only [oSwap, h, h2]
/-- two files have changed their names and places -/
theorem map_sw {L : List Nat} {af : Nat → AFile} {i j x y : Nat} {n1 n2 : List Nat} (hnd : L.Nodup) (hi : L[i]? = some x) (hj : L[j]? = some y) (h1 : (af x).1 = n1) (h2 : (af y).1 = n2) : ((L.set i y).set j x).map (va_up (va_up af x (n2, (af x).2)) y (n1, (va_up af x (n2, (af x).2) y).2)) = ((L.map af).set i (n1, (af y).2)).set j (n2, (af x).2) := by
  have hil := (List.getElem?_eq_some_iff.mp hi).1
  have hjl := (List.getElem?_eq_some_iff.mp hj).1
  have inj : ∀ {a b z : Nat}, L[a]? = some z → L[b]? = some z → a = b := by
    intro a b z h4 h5
    obtain ⟨a1, a2⟩ := List.getElem?_eq_some_iff.mp h4
    obtain ⟨b1, b2⟩ := List.getElem?_eq_some_iff.mp h5
    exact (List.getElem_inj hnd).mp (a2.trans b2.symm)
  apply List.ext_getElem?
  intro t
  rw [List.getElem?_map]
  by_cases ej : t = j
  · rw [ej, List.getElem?_set_self (by simpa using hjl), List.getElem?_set_self (by simpa using hjl)]
    show some _ = some _
    by_cases e : x = y
    · have e2 : n1 = n2 := by rw [← h1, ← h2, e]
      rw [e, va_up_self, va_up_self, e2]
    · rw [va_up_ne _ _ e, va_up_self]
  · rw [List.getElem?_set_ne (Ne.symm ej), List.getElem?_set_ne (Ne.symm ej)]
    by_cases ei : t = i
    · rw [ei, List.getElem?_set_self hil, List.getElem?_set_self (by simpa using hil)]
      show some _ = some _
      have e : y ≠ x := fun z => ej (by rw [ei]; exact inj hi (by rw [← z]; exact hj))
      rw [va_up_self, va_up_ne _ _ e]
    · rw [List.getElem?_set_ne (Ne.symm ei), List.getElem?_set_ne (Ne.symm ei), List.getElem?_map]
      cases ht : L[t]? with
      | none => rfl
      | some q =>
        show some _ = some _
        rw [va_up_ne _ _ (fun z => ej (inj ht (by rw [z]; exact hj))), va_up_ne _ _ (fun z => ei (inj ht (by rw [z]; exact hi)))]
end
