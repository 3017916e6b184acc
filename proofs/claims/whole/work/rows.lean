section
-- ===== PART A: goes FIRST, ahead of the names: the tables' words, and 'selects' of the private methods out of them =====
/-- a private method of a class that the tables say can be made, by its rows of tables_1 -/
def lw_okq (q : MethodName × Nat) : Prop := (q.1.cls ≠ "java/lang/invoke/MethodHandle" ∧ q.1.cls ≠ "java/lang/invoke/VarHandle") ∧ Cond.instantiable q.1.cls q.2 ∈ tables_1 ∧ Cond.privateMethod q.1 ∈ tables_1 ∧ Cond.instanceMethod q.1 ∈ tables_1
theorem lw_p0 : lw_okq (⟨"ShornHill$Sheet", "faultAs", "(I)I"⟩, 4) := ⟨⟨by decide +kernel, by decide +kernel⟩, List.mem_of_getElem? (i := 97) (by decide +kernel), List.mem_of_getElem? (i := 148) (by decide +kernel), List.mem_of_getElem? (i := 149) (by decide +kernel)⟩
theorem lw_p1 : lw_okq (⟨"ShornHill$Sheet", "spans", "(II)Z"⟩, 4) := ⟨⟨by decide +kernel, by decide +kernel⟩, List.mem_of_getElem? (i := 97) (by decide +kernel), List.mem_of_getElem? (i := 152) (by decide +kernel), List.mem_of_getElem? (i := 153) (by decide +kernel)⟩
theorem lw_p2 : lw_okq (⟨"ShornHill", "failed", "(I)I"⟩, 6) := ⟨⟨by decide +kernel, by decide +kernel⟩, List.mem_of_getElem? (i := 11) (by decide +kernel), List.mem_of_getElem? (i := 156) (by decide +kernel), List.mem_of_getElem? (i := 157) (by decide +kernel)⟩
theorem lw_p3 : lw_okq (⟨"ShornHill$Land", "grow", "([II)V"⟩, 7) := ⟨⟨by decide +kernel, by decide +kernel⟩, List.mem_of_getElem? (i := 19) (by decide +kernel), List.mem_of_getElem? (i := 172) (by decide +kernel), List.mem_of_getElem? (i := 173) (by decide +kernel)⟩
theorem lw_p4 : lw_okq (⟨"ShornHill$Land", "meet", "(III)V"⟩, 7) := ⟨⟨by decide +kernel, by decide +kernel⟩, List.mem_of_getElem? (i := 19) (by decide +kernel), List.mem_of_getElem? (i := 177) (by decide +kernel), List.mem_of_getElem? (i := 178) (by decide +kernel)⟩
theorem lw_p5 : lw_okq (⟨"ShornHill$Land", "softCells", "()I"⟩, 7) := ⟨⟨by decide +kernel, by decide +kernel⟩, List.mem_of_getElem? (i := 19) (by decide +kernel), List.mem_of_getElem? (i := 181) (by decide +kernel), List.mem_of_getElem? (i := 182) (by decide +kernel)⟩
theorem lw_p6 : lw_okq (⟨"ShornHill$Land", "cells", "()I"⟩, 7) := ⟨⟨by decide +kernel, by decide +kernel⟩, List.mem_of_getElem? (i := 19) (by decide +kernel), List.mem_of_getElem? (i := 185) (by decide +kernel), List.mem_of_getElem? (i := 186) (by decide +kernel)⟩
theorem lw_p7 : lw_okq (⟨"ShornHill$Land", "has", "(I)Z"⟩, 7) := ⟨⟨by decide +kernel, by decide +kernel⟩, List.mem_of_getElem? (i := 19) (by decide +kernel), List.mem_of_getElem? (i := 202) (by decide +kernel), List.mem_of_getElem? (i := 203) (by decide +kernel)⟩
theorem lw_p8 : lw_okq (⟨"ShornHill$Land", "weekly", "(I)I"⟩, 7) := ⟨⟨by decide +kernel, by decide +kernel⟩, List.mem_of_getElem? (i := 19) (by decide +kernel), List.mem_of_getElem? (i := 206) (by decide +kernel), List.mem_of_getElem? (i := 207) (by decide +kernel)⟩
theorem lw_p9 : lw_okq (⟨"ShornHill$Land", "isSoft", "(I)Z"⟩, 7) := ⟨⟨by decide +kernel, by decide +kernel⟩, List.mem_of_getElem? (i := 19) (by decide +kernel), List.mem_of_getElem? (i := 214) (by decide +kernel), List.mem_of_getElem? (i := 215) (by decide +kernel)⟩
theorem lw_p10 : lw_okq (⟨"ShornHill$Land", "stands", "()Z"⟩, 7) := ⟨⟨by decide +kernel, by decide +kernel⟩, List.mem_of_getElem? (i := 19) (by decide +kernel), List.mem_of_getElem? (i := 226) (by decide +kernel), List.mem_of_getElem? (i := 227) (by decide +kernel)⟩
theorem lw_p11 : lw_okq (⟨"ShornHill$Land", "inches", "(II)I"⟩, 7) := ⟨⟨by decide +kernel, by decide +kernel⟩, List.mem_of_getElem? (i := 19) (by decide +kernel), List.mem_of_getElem? (i := 241) (by decide +kernel), List.mem_of_getElem? (i := 242) (by decide +kernel)⟩
theorem lw_p12 : lw_okq (⟨"ShornHill$Land", "ripeCells", "(I)I"⟩, 7) := ⟨⟨by decide +kernel, by decide +kernel⟩, List.mem_of_getElem? (i := 19) (by decide +kernel), List.mem_of_getElem? (i := 256) (by decide +kernel), List.mem_of_getElem? (i := 257) (by decide +kernel)⟩
theorem lw_p13 : lw_okq (⟨"ShornHill$Land", "isRipe", "(II)Z"⟩, 7) := ⟨⟨by decide +kernel, by decide +kernel⟩, List.mem_of_getElem? (i := 19) (by decide +kernel), List.mem_of_getElem? (i := 260) (by decide +kernel), List.mem_of_getElem? (i := 261) (by decide +kernel)⟩
theorem lw_p14 : lw_okq (⟨"ShornHill", "followed", "(II[IIII)I"⟩, 6) := ⟨⟨by decide +kernel, by decide +kernel⟩, List.mem_of_getElem? (i := 11) (by decide +kernel), List.mem_of_getElem? (i := 273) (by decide +kernel), List.mem_of_getElem? (i := 274) (by decide +kernel)⟩
theorem lw_p15 : lw_okq (⟨"ShornHill$Land", "beside", "(II)I"⟩, 7) := ⟨⟨by decide +kernel, by decide +kernel⟩, List.mem_of_getElem? (i := 19) (by decide +kernel), List.mem_of_getElem? (i := 281) (by decide +kernel), List.mem_of_getElem? (i := 282) (by decide +kernel)⟩
def lw_privs_1 : List (MethodName × Nat) := [(⟨"ShornHill$Sheet", "faultAs", "(I)I"⟩, 4), (⟨"ShornHill$Sheet", "spans", "(II)Z"⟩, 4), (⟨"ShornHill", "failed", "(I)I"⟩, 6), (⟨"ShornHill$Land", "grow", "([II)V"⟩, 7), (⟨"ShornHill$Land", "meet", "(III)V"⟩, 7), (⟨"ShornHill$Land", "softCells", "()I"⟩, 7), (⟨"ShornHill$Land", "cells", "()I"⟩, 7), (⟨"ShornHill$Land", "has", "(I)Z"⟩, 7), (⟨"ShornHill$Land", "weekly", "(I)I"⟩, 7), (⟨"ShornHill$Land", "isSoft", "(I)Z"⟩, 7), (⟨"ShornHill$Land", "stands", "()Z"⟩, 7), (⟨"ShornHill$Land", "inches", "(II)I"⟩, 7), (⟨"ShornHill$Land", "ripeCells", "(I)I"⟩, 7), (⟨"ShornHill$Land", "isRipe", "(II)Z"⟩, 7), (⟨"ShornHill", "followed", "(II[IIII)I"⟩, 6), (⟨"ShornHill$Land", "beside", "(II)I"⟩, 7)]
theorem lw_r1 : ∀ q ∈ lw_privs_1, lw_okq q := List.forall_mem_cons.mpr ⟨lw_p0, List.forall_mem_cons.mpr ⟨lw_p1, List.forall_mem_cons.mpr ⟨lw_p2, List.forall_mem_cons.mpr ⟨lw_p3, List.forall_mem_cons.mpr ⟨lw_p4, List.forall_mem_cons.mpr ⟨lw_p5, List.forall_mem_cons.mpr ⟨lw_p6, List.forall_mem_cons.mpr ⟨lw_p7, List.forall_mem_cons.mpr ⟨lw_p8, List.forall_mem_cons.mpr ⟨lw_p9, List.forall_mem_cons.mpr ⟨lw_p10, List.forall_mem_cons.mpr ⟨lw_p11, List.forall_mem_cons.mpr ⟨lw_p12, List.forall_mem_cons.mpr ⟨lw_p13, List.forall_mem_cons.mpr ⟨lw_p14, List.forall_mem_cons.mpr ⟨lw_p15, fun _ h => absurd h List.not_mem_nil⟩⟩⟩⟩⟩⟩⟩⟩⟩⟩⟩⟩⟩⟩⟩⟩
theorem lw_p16 : lw_okq (⟨"ShornHill$Land", "inchesOfAll", "(II)I"⟩, 7) := ⟨⟨by decide +kernel, by decide +kernel⟩, List.mem_of_getElem? (i := 19) (by decide +kernel), List.mem_of_getElem? (i := 288) (by decide +kernel), List.mem_of_getElem? (i := 289) (by decide +kernel)⟩
theorem lw_p17 : lw_okq (⟨"ShornHill", "mostShorn", "(II)I"⟩, 6) := ⟨⟨by decide +kernel, by decide +kernel⟩, List.mem_of_getElem? (i := 11) (by decide +kernel), List.mem_of_getElem? (i := 297) (by decide +kernel), List.mem_of_getElem? (i := 298) (by decide +kernel)⟩
theorem lw_p18 : lw_okq (⟨"ShornHill$Shears", "keep", "(I)V"⟩, 4) := ⟨⟨by decide +kernel, by decide +kernel⟩, List.mem_of_getElem? (i := 73) (by decide +kernel), List.mem_of_getElem? (i := 304) (by decide +kernel), List.mem_of_getElem? (i := 305) (by decide +kernel)⟩
theorem lw_p19 : lw_okq (⟨"ShornHill$Land", "isAllRipe", "(I)Z"⟩, 7) := ⟨⟨by decide +kernel, by decide +kernel⟩, List.mem_of_getElem? (i := 19) (by decide +kernel), List.mem_of_getElem? (i := 320) (by decide +kernel), List.mem_of_getElem? (i := 321) (by decide +kernel)⟩
theorem lw_p20 : lw_okq (⟨"ShornHill", "shearsAllSoft", "(I)Z"⟩, 6) := ⟨⟨by decide +kernel, by decide +kernel⟩, List.mem_of_getElem? (i := 11) (by decide +kernel), List.mem_of_getElem? (i := 326) (by decide +kernel), List.mem_of_getElem? (i := 327) (by decide +kernel)⟩
theorem lw_p21 : lw_okq (⟨"ShornHill", "canBeShornWhole", "(I)Z"⟩, 6) := ⟨⟨by decide +kernel, by decide +kernel⟩, List.mem_of_getElem? (i := 11) (by decide +kernel), List.mem_of_getElem? (i := 334) (by decide +kernel), List.mem_of_getElem? (i := 335) (by decide +kernel)⟩
theorem lw_p22 : lw_okq (⟨"ShornHill", "couldBeShornWhole", "(II)Z"⟩, 6) := ⟨⟨by decide +kernel, by decide +kernel⟩, List.mem_of_getElem? (i := 11) (by decide +kernel), List.mem_of_getElem? (i := 338) (by decide +kernel), List.mem_of_getElem? (i := 339) (by decide +kernel)⟩
theorem lw_p23 : lw_okq (⟨"ShornHill$Readings", "add", "(III)I"⟩, 4) := ⟨⟨by decide +kernel, by decide +kernel⟩, List.mem_of_getElem? (i := 53) (by decide +kernel), List.mem_of_getElem? (i := 346) (by decide +kernel), List.mem_of_getElem? (i := 347) (by decide +kernel)⟩
theorem lw_p24 : lw_okq (⟨"ShornHill$Readings", "areSo", "(LShornHill$Land;)Z"⟩, 4) := ⟨⟨by decide +kernel, by decide +kernel⟩, List.mem_of_getElem? (i := 53) (by decide +kernel), List.mem_of_getElem? (i := 358) (by decide +kernel), List.mem_of_getElem? (i := 359) (by decide +kernel)⟩
theorem lw_p25 : lw_okq (⟨"ShornHill$Sheet", "renew", "(II)V"⟩, 4) := ⟨⟨by decide +kernel, by decide +kernel⟩, List.mem_of_getElem? (i := 97) (by decide +kernel), List.mem_of_getElem? (i := 390) (by decide +kernel), List.mem_of_getElem? (i := 391) (by decide +kernel)⟩
theorem lw_p26 : lw_okq (⟨"ShornHill$Sheet", "holds", "(I)Z"⟩, 4) := ⟨⟨by decide +kernel, by decide +kernel⟩, List.mem_of_getElem? (i := 97) (by decide +kernel), List.mem_of_getElem? (i := 402) (by decide +kernel), List.mem_of_getElem? (i := 403) (by decide +kernel)⟩
theorem lw_p27 : lw_okq (⟨"ShornHill$Sheet", "cut", "(I)I"⟩, 4) := ⟨⟨by decide +kernel, by decide +kernel⟩, List.mem_of_getElem? (i := 97) (by decide +kernel), List.mem_of_getElem? (i := 406) (by decide +kernel), List.mem_of_getElem? (i := 407) (by decide +kernel)⟩
theorem lw_p28 : lw_okq (⟨"ShornHill", "hollowTells", "(I)I"⟩, 6) := ⟨⟨by decide +kernel, by decide +kernel⟩, List.mem_of_getElem? (i := 11) (by decide +kernel), List.mem_of_getElem? (i := 423) (by decide +kernel), List.mem_of_getElem? (i := 424) (by decide +kernel)⟩
theorem lw_p29 : lw_okq (⟨"ShornHill", "begin", "(I)V"⟩, 6) := ⟨⟨by decide +kernel, by decide +kernel⟩, List.mem_of_getElem? (i := 11) (by decide +kernel), List.mem_of_getElem? (i := 427) (by decide +kernel), List.mem_of_getElem? (i := 428) (by decide +kernel)⟩
theorem lw_p30 : lw_okq (⟨"ShornHill", "springTells", "(I)I"⟩, 6) := ⟨⟨by decide +kernel, by decide +kernel⟩, List.mem_of_getElem? (i := 11) (by decide +kernel), List.mem_of_getElem? (i := 431) (by decide +kernel), List.mem_of_getElem? (i := 432) (by decide +kernel)⟩
theorem lw_p31 : lw_okq (⟨"ShornHill", "grassTells", "(I)I"⟩, 6) := ⟨⟨by decide +kernel, by decide +kernel⟩, List.mem_of_getElem? (i := 11) (by decide +kernel), List.mem_of_getElem? (i := 435) (by decide +kernel), List.mem_of_getElem? (i := 436) (by decide +kernel)⟩
def lw_privs_2 : List (MethodName × Nat) := [(⟨"ShornHill$Land", "inchesOfAll", "(II)I"⟩, 7), (⟨"ShornHill", "mostShorn", "(II)I"⟩, 6), (⟨"ShornHill$Shears", "keep", "(I)V"⟩, 4), (⟨"ShornHill$Land", "isAllRipe", "(I)Z"⟩, 7), (⟨"ShornHill", "shearsAllSoft", "(I)Z"⟩, 6), (⟨"ShornHill", "canBeShornWhole", "(I)Z"⟩, 6), (⟨"ShornHill", "couldBeShornWhole", "(II)Z"⟩, 6), (⟨"ShornHill$Readings", "add", "(III)I"⟩, 4), (⟨"ShornHill$Readings", "areSo", "(LShornHill$Land;)Z"⟩, 4), (⟨"ShornHill$Sheet", "renew", "(II)V"⟩, 4), (⟨"ShornHill$Sheet", "holds", "(I)Z"⟩, 4), (⟨"ShornHill$Sheet", "cut", "(I)I"⟩, 4), (⟨"ShornHill", "hollowTells", "(I)I"⟩, 6), (⟨"ShornHill", "begin", "(I)V"⟩, 6), (⟨"ShornHill", "springTells", "(I)I"⟩, 6), (⟨"ShornHill", "grassTells", "(I)I"⟩, 6)]
theorem lw_r2 : ∀ q ∈ lw_privs_2, lw_okq q := List.forall_mem_cons.mpr ⟨lw_p16, List.forall_mem_cons.mpr ⟨lw_p17, List.forall_mem_cons.mpr ⟨lw_p18, List.forall_mem_cons.mpr ⟨lw_p19, List.forall_mem_cons.mpr ⟨lw_p20, List.forall_mem_cons.mpr ⟨lw_p21, List.forall_mem_cons.mpr ⟨lw_p22, List.forall_mem_cons.mpr ⟨lw_p23, List.forall_mem_cons.mpr ⟨lw_p24, List.forall_mem_cons.mpr ⟨lw_p25, List.forall_mem_cons.mpr ⟨lw_p26, List.forall_mem_cons.mpr ⟨lw_p27, List.forall_mem_cons.mpr ⟨lw_p28, List.forall_mem_cons.mpr ⟨lw_p29, List.forall_mem_cons.mpr ⟨lw_p30, List.forall_mem_cons.mpr ⟨lw_p31, fun _ h => absurd h List.not_mem_nil⟩⟩⟩⟩⟩⟩⟩⟩⟩⟩⟩⟩⟩⟩⟩⟩
theorem lw_p32 : lw_okq (⟨"ShornHillModel", "refused", "(I)I"⟩, 30) := ⟨⟨by decide +kernel, by decide +kernel⟩, List.mem_of_getElem? (i := 459) (by decide +kernel), List.mem_of_getElem? (i := 568) (by decide +kernel), List.mem_of_getElem? (i := 569) (by decide +kernel)⟩
theorem lw_p33 : lw_okq (⟨"ShornHillModel", "cellsBarred", "(IIIJ)I"⟩, 30) := ⟨⟨by decide +kernel, by decide +kernel⟩, List.mem_of_getElem? (i := 459) (by decide +kernel), List.mem_of_getElem? (i := 573) (by decide +kernel), List.mem_of_getElem? (i := 574) (by decide +kernel)⟩
theorem lw_p34 : lw_okq (⟨"ShornHillModel", "failed", "(I)I"⟩, 30) := ⟨⟨by decide +kernel, by decide +kernel⟩, List.mem_of_getElem? (i := 459) (by decide +kernel), List.mem_of_getElem? (i := 577) (by decide +kernel), List.mem_of_getElem? (i := 578) (by decide +kernel)⟩
theorem lw_p35 : lw_okq (⟨"ShornHillModel", "readsHill", "(II)Z"⟩, 30) := ⟨⟨by decide +kernel, by decide +kernel⟩, List.mem_of_getElem? (i := 459) (by decide +kernel), List.mem_of_getElem? (i := 584) (by decide +kernel), List.mem_of_getElem? (i := 585) (by decide +kernel)⟩
theorem lw_p36 : lw_okq (⟨"ShornHillModel", "codeAt", "(II)I"⟩, 30) := ⟨⟨by decide +kernel, by decide +kernel⟩, List.mem_of_getElem? (i := 459) (by decide +kernel), List.mem_of_getElem? (i := 588) (by decide +kernel), List.mem_of_getElem? (i := 589) (by decide +kernel)⟩
theorem lw_p37 : lw_okq (⟨"ShornHillModel", "figure", "(IIII)I"⟩, 30) := ⟨⟨by decide +kernel, by decide +kernel⟩, List.mem_of_getElem? (i := 459) (by decide +kernel), List.mem_of_getElem? (i := 592) (by decide +kernel), List.mem_of_getElem? (i := 593) (by decide +kernel)⟩
theorem lw_p38 : lw_okq (⟨"ShornHillModel", "readsPlace", "(III)Z"⟩, 30) := ⟨⟨by decide +kernel, by decide +kernel⟩, List.mem_of_getElem? (i := 459) (by decide +kernel), List.mem_of_getElem? (i := 596) (by decide +kernel), List.mem_of_getElem? (i := 597) (by decide +kernel)⟩
theorem lw_p39 : lw_okq (⟨"ShornHillModel", "cells", "()I"⟩, 30) := ⟨⟨by decide +kernel, by decide +kernel⟩, List.mem_of_getElem? (i := 459) (by decide +kernel), List.mem_of_getElem? (i := 600) (by decide +kernel), List.mem_of_getElem? (i := 601) (by decide +kernel)⟩
theorem lw_p40 : lw_okq (⟨"ShornHillModel", "thornsNow", "()I"⟩, 30) := ⟨⟨by decide +kernel, by decide +kernel⟩, List.mem_of_getElem? (i := 459) (by decide +kernel), List.mem_of_getElem? (i := 604) (by decide +kernel), List.mem_of_getElem? (i := 605) (by decide +kernel)⟩
theorem lw_p41 : lw_okq (⟨"ShornHillModel", "noPlace", "(I)Z"⟩, 30) := ⟨⟨by decide +kernel, by decide +kernel⟩, List.mem_of_getElem? (i := 459) (by decide +kernel), List.mem_of_getElem? (i := 612) (by decide +kernel), List.mem_of_getElem? (i := 613) (by decide +kernel)⟩
theorem lw_p42 : lw_okq (⟨"ShornHillModel", "growsOf", "(I)I"⟩, 30) := ⟨⟨by decide +kernel, by decide +kernel⟩, List.mem_of_getElem? (i := 459) (by decide +kernel), List.mem_of_getElem? (i := 616) (by decide +kernel), List.mem_of_getElem? (i := 617) (by decide +kernel)⟩
theorem lw_p43 : lw_okq (⟨"ShornHillModel", "noGrass", "(I)Z"⟩, 30) := ⟨⟨by decide +kernel, by decide +kernel⟩, List.mem_of_getElem? (i := 459) (by decide +kernel), List.mem_of_getElem? (i := 624) (by decide +kernel), List.mem_of_getElem? (i := 625) (by decide +kernel)⟩
theorem lw_p44 : lw_okq (⟨"ShornHillModel", "coatOf", "(II)I"⟩, 30) := ⟨⟨by decide +kernel, by decide +kernel⟩, List.mem_of_getElem? (i := 459) (by decide +kernel), List.mem_of_getElem? (i := 644) (by decide +kernel), List.mem_of_getElem? (i := 645) (by decide +kernel)⟩
theorem lw_p45 : lw_okq (⟨"ShornHillModel", "ripeBy", "(I)I"⟩, 30) := ⟨⟨by decide +kernel, by decide +kernel⟩, List.mem_of_getElem? (i := 459) (by decide +kernel), List.mem_of_getElem? (i := 652) (by decide +kernel), List.mem_of_getElem? (i := 653) (by decide +kernel)⟩
theorem lw_p46 : lw_okq (⟨"ShornHillModel", "goPath", "(IIII)V"⟩, 30) := ⟨⟨by decide +kernel, by decide +kernel⟩, List.mem_of_getElem? (i := 459) (by decide +kernel), List.mem_of_getElem? (i := 664) (by decide +kernel), List.mem_of_getElem? (i := 665) (by decide +kernel)⟩
theorem lw_p47 : lw_okq (⟨"ShornHillModel", "beside", "(II)I"⟩, 30) := ⟨⟨by decide +kernel, by decide +kernel⟩, List.mem_of_getElem? (i := 459) (by decide +kernel), List.mem_of_getElem? (i := 668) (by decide +kernel), List.mem_of_getElem? (i := 669) (by decide +kernel)⟩
def lw_privs_3 : List (MethodName × Nat) := [(⟨"ShornHillModel", "refused", "(I)I"⟩, 30), (⟨"ShornHillModel", "cellsBarred", "(IIIJ)I"⟩, 30), (⟨"ShornHillModel", "failed", "(I)I"⟩, 30), (⟨"ShornHillModel", "readsHill", "(II)Z"⟩, 30), (⟨"ShornHillModel", "codeAt", "(II)I"⟩, 30), (⟨"ShornHillModel", "figure", "(IIII)I"⟩, 30), (⟨"ShornHillModel", "readsPlace", "(III)Z"⟩, 30), (⟨"ShornHillModel", "cells", "()I"⟩, 30), (⟨"ShornHillModel", "thornsNow", "()I"⟩, 30), (⟨"ShornHillModel", "noPlace", "(I)Z"⟩, 30), (⟨"ShornHillModel", "growsOf", "(I)I"⟩, 30), (⟨"ShornHillModel", "noGrass", "(I)Z"⟩, 30), (⟨"ShornHillModel", "coatOf", "(II)I"⟩, 30), (⟨"ShornHillModel", "ripeBy", "(I)I"⟩, 30), (⟨"ShornHillModel", "goPath", "(IIII)V"⟩, 30), (⟨"ShornHillModel", "beside", "(II)I"⟩, 30)]
theorem lw_r3 : ∀ q ∈ lw_privs_3, lw_okq q := List.forall_mem_cons.mpr ⟨lw_p32, List.forall_mem_cons.mpr ⟨lw_p33, List.forall_mem_cons.mpr ⟨lw_p34, List.forall_mem_cons.mpr ⟨lw_p35, List.forall_mem_cons.mpr ⟨lw_p36, List.forall_mem_cons.mpr ⟨lw_p37, List.forall_mem_cons.mpr ⟨lw_p38, List.forall_mem_cons.mpr ⟨lw_p39, List.forall_mem_cons.mpr ⟨lw_p40, List.forall_mem_cons.mpr ⟨lw_p41, List.forall_mem_cons.mpr ⟨lw_p42, List.forall_mem_cons.mpr ⟨lw_p43, List.forall_mem_cons.mpr ⟨lw_p44, List.forall_mem_cons.mpr ⟨lw_p45, List.forall_mem_cons.mpr ⟨lw_p46, List.forall_mem_cons.mpr ⟨lw_p47, fun _ h => absurd h List.not_mem_nil⟩⟩⟩⟩⟩⟩⟩⟩⟩⟩⟩⟩⟩⟩⟩⟩
theorem lw_p48 : lw_okq (⟨"ShornHillModel", "coatsOf", "(II)I"⟩, 30) := ⟨⟨by decide +kernel, by decide +kernel⟩, List.mem_of_getElem? (i := 459) (by decide +kernel), List.mem_of_getElem? (i := 672) (by decide +kernel), List.mem_of_getElem? (i := 673) (by decide +kernel)⟩
theorem lw_p49 : lw_okq (⟨"ShornHillModel", "goFleece", "(II)V"⟩, 30) := ⟨⟨by decide +kernel, by decide +kernel⟩, List.mem_of_getElem? (i := 459) (by decide +kernel), List.mem_of_getElem? (i := 682) (by decide +kernel), List.mem_of_getElem? (i := 683) (by decide +kernel)⟩
theorem lw_p50 : lw_okq (⟨"ShornHillModel", "startBy", "(I)I"⟩, 30) := ⟨⟨by decide +kernel, by decide +kernel⟩, List.mem_of_getElem? (i := 459) (by decide +kernel), List.mem_of_getElem? (i := 693) (by decide +kernel), List.mem_of_getElem? (i := 694) (by decide +kernel)⟩
theorem lw_p51 : lw_okq (⟨"ShornHillModel", "isWholeFrom", "(II)Z"⟩, 30) := ⟨⟨by decide +kernel, by decide +kernel⟩, List.mem_of_getElem? (i := 459) (by decide +kernel), List.mem_of_getElem? (i := 701) (by decide +kernel), List.mem_of_getElem? (i := 702) (by decide +kernel)⟩
theorem lw_p52 : lw_okq (⟨"ShornHillModel", "isWhole", "(I)Z"⟩, 30) := ⟨⟨by decide +kernel, by decide +kernel⟩, List.mem_of_getElem? (i := 459) (by decide +kernel), List.mem_of_getElem? (i := 709) (by decide +kernel), List.mem_of_getElem? (i := 710) (by decide +kernel)⟩
theorem lw_p53 : lw_okq (⟨"ShornHillModel", "areSo", "()Z"⟩, 30) := ⟨⟨by decide +kernel, by decide +kernel⟩, List.mem_of_getElem? (i := 459) (by decide +kernel), List.mem_of_getElem? (i := 725) (by decide +kernel), List.mem_of_getElem? (i := 726) (by decide +kernel)⟩
theorem lw_p54 : lw_okq (⟨"ShornHillModel", "chanceFrom", "(IIJ)J"⟩, 30) := ⟨⟨by decide +kernel, by decide +kernel⟩, List.mem_of_getElem? (i := 459) (by decide +kernel), List.mem_of_getElem? (i := 746) (by decide +kernel), List.mem_of_getElem? (i := 747) (by decide +kernel)⟩
theorem lw_p55 : lw_okq (⟨"ShornHillModel", "waysOn", "(II)I"⟩, 30) := ⟨⟨by decide +kernel, by decide +kernel⟩, List.mem_of_getElem? (i := 459) (by decide +kernel), List.mem_of_getElem? (i := 750) (by decide +kernel), List.mem_of_getElem? (i := 751) (by decide +kernel)⟩
theorem lw_p56 : lw_okq (⟨"ShornHillModel", "noCell", "(II)I"⟩, 30) := ⟨⟨by decide +kernel, by decide +kernel⟩, List.mem_of_getElem? (i := 459) (by decide +kernel), List.mem_of_getElem? (i := 769) (by decide +kernel), List.mem_of_getElem? (i := 770) (by decide +kernel)⟩
theorem lw_p57 : lw_okq (⟨"ShornHillModel", "failedLong", "(I)J"⟩, 30) := ⟨⟨by decide +kernel, by decide +kernel⟩, List.mem_of_getElem? (i := 459) (by decide +kernel), List.mem_of_getElem? (i := 777) (by decide +kernel), List.mem_of_getElem? (i := 778) (by decide +kernel)⟩
theorem lw_p58 : lw_okq (⟨"ShornHillModel", "traced", "(I)V"⟩, 30) := ⟨⟨by decide +kernel, by decide +kernel⟩, List.mem_of_getElem? (i := 459) (by decide +kernel), List.mem_of_getElem? (i := 789) (by decide +kernel), List.mem_of_getElem? (i := 790) (by decide +kernel)⟩
def lw_privs_4 : List (MethodName × Nat) := [(⟨"ShornHillModel", "coatsOf", "(II)I"⟩, 30), (⟨"ShornHillModel", "goFleece", "(II)V"⟩, 30), (⟨"ShornHillModel", "startBy", "(I)I"⟩, 30), (⟨"ShornHillModel", "isWholeFrom", "(II)Z"⟩, 30), (⟨"ShornHillModel", "isWhole", "(I)Z"⟩, 30), (⟨"ShornHillModel", "areSo", "()Z"⟩, 30), (⟨"ShornHillModel", "chanceFrom", "(IIJ)J"⟩, 30), (⟨"ShornHillModel", "waysOn", "(II)I"⟩, 30), (⟨"ShornHillModel", "noCell", "(II)I"⟩, 30), (⟨"ShornHillModel", "failedLong", "(I)J"⟩, 30), (⟨"ShornHillModel", "traced", "(I)V"⟩, 30)]
theorem lw_r4 : ∀ q ∈ lw_privs_4, lw_okq q := List.forall_mem_cons.mpr ⟨lw_p48, List.forall_mem_cons.mpr ⟨lw_p49, List.forall_mem_cons.mpr ⟨lw_p50, List.forall_mem_cons.mpr ⟨lw_p51, List.forall_mem_cons.mpr ⟨lw_p52, List.forall_mem_cons.mpr ⟨lw_p53, List.forall_mem_cons.mpr ⟨lw_p54, List.forall_mem_cons.mpr ⟨lw_p55, List.forall_mem_cons.mpr ⟨lw_p56, List.forall_mem_cons.mpr ⟨lw_p57, List.forall_mem_cons.mpr ⟨lw_p58, fun _ h => absurd h List.not_mem_nil⟩⟩⟩⟩⟩⟩⟩⟩⟩⟩⟩
def lw_privs : List (MethodName × Nat) := lw_privs_1 ++ (lw_privs_2 ++ (lw_privs_3 ++ (lw_privs_4)))
def lw_tbl : List Cond := k2_sels lw_privs ++ tables_1
theorem lw_privs_ok : ∀ q ∈ lw_privs, lw_okq q := by
  show ∀ q ∈ lw_privs_1 ++ (lw_privs_2 ++ (lw_privs_3 ++ (lw_privs_4))), lw_okq q
  exact List.forall_mem_append.mpr ⟨lw_r1, List.forall_mem_append.mpr ⟨lw_r2, List.forall_mem_append.mpr ⟨lw_r3, lw_r4⟩⟩⟩
end
section
/-! ===== BEGIN words of one list among another's, by their places ===== -/
theorem goodIn_r {big : List Cond} (ws : List Cond) (ps : List Nat) (hp : ws = ps.filterMap (fun i => big[i]?)) (h : ws.all goodWord = true) : GoodIn big ws := by
  intro w hw
  have h1 := List.all_eq_true.mp h w hw
  rw [hp] at hw
  obtain ⟨i, -, hi⟩ := List.mem_filterMap.mp hw
  have hm : w ∈ big := by first | exact List.mem_of_getElem? hi | exact List.getElem?_mem hi
  exact ⟨hm, good_of_word h1⟩
theorem goodIn_app {big a b : List Cond} (ha : GoodIn big a) (hb : GoodIn big b) : GoodIn big (a ++ b) := fun w h => (List.mem_append.mp h).elim (ha w) (hb w)
theorem goodIn_ca {big a b : List Cond} {c : Cond} (ha : GoodIn big (c :: a)) (hb : GoodIn big b) : GoodIn big (c :: (a ++ b)) := fun w h => (List.mem_cons.mp h).elim (fun e => ha w (List.mem_cons.mpr (Or.inl e))) (fun h => (List.mem_append.mp h).elim (fun h => ha w (List.mem_cons.mpr (Or.inr h))) (hb w))
theorem goodIn_sub {big ws : List Cond} (hm : ∀ w ∈ ws, w ∈ big) (h : ws.all goodWord = true) : GoodIn big ws := fun w hw => ⟨hm w hw, good_of_word (List.all_eq_true.mp h w hw)⟩
/-! ===== END ===== -/

/-! ===== BEGIN printed: names, fields, word lists, decode rows ===== -/
def RX0 : String := "ShornHill$Land"
def TX0 : u_T := fun k => match k with
  | 0 => ("ShornHill$Land", "high", "I", false)
  | 1 => ("ShornHill$Land", "wide", "I", false)
  | 2 => ("ShornHill$Land", "paceNow", "I", false)
  | 3 => ("ShornHill$Land", "breadthNow", "I", false)
  | 4 => ("ShornHill$Land", "kind", "[I", true)
  | 5 => ("ShornHill$Land", "eaten", "[I", true)
  | _ => ("ShornHill$Land", "neighbours", "[I", true)
def tyX0 : Nat → FieldType := fun k => match k with
  | 0 => .int
  | 1 => .int
  | 2 => .int
  | 3 => .int
  | 4 => .array .int
  | 5 => .array .int
  | _ => .array .int
abbrev wsX00 : List Cond := u_ws RX0 TX0 7
theorem nmX0 : ∀ a, a < 7 → ∀ b, b < 7 → a ≠ b → (TX0 a).2.1 ≠ (TX0 b).2.1 := by decide +kernel
theorem tyX0_ok : ∀ k, k < 7 → parseFieldDescriptor (TX0 k).2.2.1 = some (tyX0 k) := by decide +kernel
abbrev cX0_init : ByteArray := prog_2_method_1_code
def yX0_init : MethodName := ⟨RX0, "<init>", "()V"⟩
abbrev cX0_stands : ByteArray := prog_2_method_2_code
def yX0_stands : MethodName := ⟨RX0, "stands", "()Z"⟩
abbrev cX0_cells : ByteArray := prog_2_method_3_code
def yX0_cells : MethodName := ⟨RX0, "cells", "()I"⟩
abbrev cX0_has : ByteArray := prog_2_method_4_code
def yX0_has : MethodName := ⟨RX0, "has", "(I)Z"⟩
abbrev cX0_isSoft : ByteArray := prog_2_method_5_code
def yX0_isSoft : MethodName := ⟨RX0, "isSoft", "(I)Z"⟩
abbrev cX0_grow : ByteArray := prog_2_method_6_code
def yX0_grow : MethodName := ⟨RX0, "grow", "([II)V"⟩
abbrev cX0_meet : ByteArray := prog_2_method_7_code
def yX0_meet : MethodName := ⟨RX0, "meet", "(III)V"⟩
abbrev cX0_beside : ByteArray := prog_2_method_8_code
def yX0_beside : MethodName := ⟨RX0, "beside", "(II)I"⟩
abbrev cX0_weekly : ByteArray := prog_2_method_9_code
def yX0_weekly : MethodName := ⟨RX0, "weekly", "(I)I"⟩
abbrev cX0_inches : ByteArray := prog_2_method_10_code
def yX0_inches : MethodName := ⟨RX0, "inches", "(II)I"⟩
abbrev cX0_inchesOfAll : ByteArray := prog_2_method_11_code
def yX0_inchesOfAll : MethodName := ⟨RX0, "inchesOfAll", "(II)I"⟩
abbrev cX0_isRipe : ByteArray := prog_2_method_12_code
def yX0_isRipe : MethodName := ⟨RX0, "isRipe", "(II)Z"⟩
abbrev cX0_ripeCells : ByteArray := prog_2_method_13_code
def yX0_ripeCells : MethodName := ⟨RX0, "ripeCells", "(I)I"⟩
abbrev cX0_isAllRipe : ByteArray := prog_2_method_14_code
def yX0_isAllRipe : MethodName := ⟨RX0, "isAllRipe", "(I)Z"⟩
abbrev cX0_softCells : ByteArray := prog_2_method_15_code
def yX0_softCells : MethodName := ⟨RX0, "softCells", "()I"⟩
def RX1 : String := "ShornHill$Readings"
def TX1 : u_T := fun k => match k with
  | 0 => ("ShornHill$Readings", "count", "I", false)
  | 1 => ("ShornHill$Readings", "ofCells", "[I", true)
  | 2 => ("ShornHill$Readings", "behindWeeks", "[I", true)
  | _ => ("ShornHill$Readings", "inchesTold", "[I", true)
def tyX1 : Nat → FieldType := fun k => match k with
  | 0 => .int
  | 1 => .array .int
  | 2 => .array .int
  | _ => .array .int
abbrev wsX10 : List Cond := u_ws RX1 TX1 4
theorem nmX1 : ∀ a, a < 4 → ∀ b, b < 4 → a ≠ b → (TX1 a).2.1 ≠ (TX1 b).2.1 := by decide +kernel
theorem tyX1_ok : ∀ k, k < 4 → parseFieldDescriptor (TX1 k).2.2.1 = some (tyX1 k) := by decide +kernel
abbrev cX1_init : ByteArray := prog_3_method_1_code
def yX1_init : MethodName := ⟨RX1, "<init>", "()V"⟩
abbrev cX1_add : ByteArray := prog_3_method_2_code
def yX1_add : MethodName := ⟨RX1, "add", "(III)I"⟩
abbrev cX1_areSo : ByteArray := prog_3_method_3_code
def yX1_areSo : MethodName := ⟨RX1, "areSo", "(LShornHill$Land;)Z"⟩
def RX2 : String := "ShornHill$Shears"
def TX2 : u_T := fun k => match k with
  | 0 => ("ShornHill$Shears", "tried", "[I", true)
  | 1 => ("ShornHill$Shears", "best", "[I", true)
  | 2 => ("ShornHill$Shears", "most", "I", false)
  | _ => ("ShornHill$Shears", "goal", "I", false)
def tyX2 : Nat → FieldType := fun k => match k with
  | 0 => .array .int
  | 1 => .array .int
  | 2 => .int
  | _ => .int
abbrev wsX20 : List Cond := u_ws RX2 TX2 4
theorem nmX2 : ∀ a, a < 4 → ∀ b, b < 4 → a ≠ b → (TX2 a).2.1 ≠ (TX2 b).2.1 := by decide +kernel
theorem tyX2_ok : ∀ k, k < 4 → parseFieldDescriptor (TX2 k).2.2.1 = some (tyX2 k) := by decide +kernel
abbrev cX2_init : ByteArray := prog_4_method_1_code
def yX2_init : MethodName := ⟨RX2, "<init>", "()V"⟩
abbrev cX2_keep : ByteArray := prog_4_method_2_code
def yX2_keep : MethodName := ⟨RX2, "keep", "(I)V"⟩
def RX3 : String := "ShornHill$Sheet"
def TX3 : u_T := fun k => match k with
  | 0 => ("ShornHill$Sheet", "hasRow", "Z", false)
  | 1 => ("ShornHill$Sheet", "lane", "I", false)
  | 2 => ("ShornHill$Sheet", "length", "I", false)
  | _ => ("ShornHill$Sheet", "row", "[I", true)
def tyX3 : Nat → FieldType := fun k => match k with
  | 0 => .boolean
  | 1 => .int
  | 2 => .int
  | _ => .array .int
abbrev wsX30 : List Cond := u_ws RX3 TX3 4
theorem nmX3 : ∀ a, a < 4 → ∀ b, b < 4 → a ≠ b → (TX3 a).2.1 ≠ (TX3 b).2.1 := by decide +kernel
theorem tyX3_ok : ∀ k, k < 4 → parseFieldDescriptor (TX3 k).2.2.1 = some (tyX3 k) := by decide +kernel
abbrev cX3_init : ByteArray := prog_5_method_1_code
def yX3_init : MethodName := ⟨RX3, "<init>", "()V"⟩
abbrev cX3_renew : ByteArray := prog_5_method_2_code
def yX3_renew : MethodName := ⟨RX3, "renew", "(II)V"⟩
abbrev cX3_faultAs : ByteArray := prog_5_method_3_code
def yX3_faultAs : MethodName := ⟨RX3, "faultAs", "(I)I"⟩
abbrev cX3_holds : ByteArray := prog_5_method_4_code
def yX3_holds : MethodName := ⟨RX3, "holds", "(I)Z"⟩
abbrev cX3_spans : ByteArray := prog_5_method_5_code
def yX3_spans : MethodName := ⟨RX3, "spans", "(II)Z"⟩
abbrev cX3_cut : ByteArray := prog_5_method_6_code
def yX3_cut : MethodName := ⟨RX3, "cut", "(I)I"⟩
def RX4 : String := "ShornHill"
def TX4 : u_T := fun k => match k with
  | 0 => ("ShornHill", "land", "LShornHill$Land;", true)
  | 1 => ("ShornHill", "readings", "LShornHill$Readings;", true)
  | 2 => ("ShornHill", "shears", "LShornHill$Shears;", true)
  | 3 => ("ShornHill", "sheets", "[LShornHill$Sheet;", true)
  | 4 => ("ShornHill", "latestFault", "I", false)
  | _ => ("ShornHill", "bodiesBegun", "I", false)
def tyX4 : Nat → FieldType := fun k => match k with
  | 0 => .object "ShornHill$Land"
  | 1 => .object "ShornHill$Readings"
  | 2 => .object "ShornHill$Shears"
  | 3 => .array (.object "ShornHill$Sheet")
  | 4 => .int
  | _ => .int
abbrev wsX40 : List Cond := u_ws RX4 TX4 6
theorem nmX4 : ∀ a, a < 6 → ∀ b, b < 6 → a ≠ b → (TX4 a).2.1 ≠ (TX4 b).2.1 := by decide +kernel
theorem tyX4_ok : ∀ k, k < 6 → parseFieldDescriptor (TX4 k).2.2.1 = some (tyX4 k) := by decide +kernel
abbrev cX4_init : ByteArray := prog_1_method_1_code
def yX4_init : MethodName := ⟨RX4, "<init>", "()V"⟩
abbrev cX4_hill : ByteArray := prog_1_method_2_code
def yX4_hill : MethodName := ⟨RX4, "hill", "(IIII)I"⟩
abbrev cX4_ofCell : ByteArray := prog_1_method_3_code
def yX4_ofCell : MethodName := ⟨RX4, "ofCell", "(II)I"⟩
abbrev cX4_goats : ByteArray := prog_1_method_4_code
def yX4_goats : MethodName := ⟨RX4, "goats", "(II)I"⟩
abbrev cX4_pace : ByteArray := prog_1_method_5_code
def yX4_pace : MethodName := ⟨RX4, "pace", "(I)I"⟩
abbrev cX4_breadth : ByteArray := prog_1_method_6_code
def yX4_breadth : MethodName := ⟨RX4, "breadth", "(I)I"⟩
abbrev cX4_coat : ByteArray := prog_1_method_7_code
def yX4_coat : MethodName := ⟨RX4, "coat", "(II)I"⟩
abbrev cX4_ripe : ByteArray := prog_1_method_8_code
def yX4_ripe : MethodName := ⟨RX4, "ripe", "(I)I"⟩
abbrev cX4_path : ByteArray := prog_1_method_9_code
def yX4_path : MethodName := ⟨RX4, "path", "(IIIIIII)I"⟩
abbrev cX4_fleece : ByteArray := prog_1_method_10_code
def yX4_fleece : MethodName := ⟨RX4, "fleece", "(III)I"⟩
abbrev cX4_start : ByteArray := prog_1_method_11_code
def yX4_start : MethodName := ⟨RX4, "start", "(I)I"⟩
abbrev cX4_whole : ByteArray := prog_1_method_12_code
def yX4_whole : MethodName := ⟨RX4, "whole", "(I)I"⟩
abbrev cX4_stops : ByteArray := prog_1_method_13_code
def yX4_stops : MethodName := ⟨RX4, "stops", "(I)I"⟩
abbrev cX4_reading : ByteArray := prog_1_method_14_code
def yX4_reading : MethodName := ⟨RX4, "reading", "(III)I"⟩
abbrev cX4_back : ByteArray := prog_1_method_15_code
def yX4_back : MethodName := ⟨RX4, "back", "(I)I"⟩
abbrev cX4_kinds : ByteArray := prog_1_method_16_code
def yX4_kinds : MethodName := ⟨RX4, "kinds", "(I)I"⟩
abbrev cX4_paces : ByteArray := prog_1_method_17_code
def yX4_paces : MethodName := ⟨RX4, "paces", "()I"⟩
abbrev cX4_eatings : ByteArray := prog_1_method_18_code
def yX4_eatings : MethodName := ⟨RX4, "eatings", "(I)I"⟩
abbrev cX4_odds : ByteArray := prog_1_method_19_code
def yX4_odds : MethodName := ⟨RX4, "odds", "(III)J"⟩
abbrev cX4_sheet : ByteArray := prog_1_method_20_code
def yX4_sheet : MethodName := ⟨RX4, "sheet", "(III)I"⟩
abbrev cX4_lose : ByteArray := prog_1_method_21_code
def yX4_lose : MethodName := ⟨RX4, "lose", "(I)I"⟩
abbrev cX4_put : ByteArray := prog_1_method_22_code
def yX4_put : MethodName := ⟨RX4, "put", "(III)I"⟩
abbrev cX4_cell : ByteArray := prog_1_method_23_code
def yX4_cell : MethodName := ⟨RX4, "cell", "(III)J"⟩
abbrev cX4_copy : ByteArray := prog_1_method_24_code
def yX4_copy : MethodName := ⟨RX4, "copy", "(IIIII)I"⟩
abbrev cX4_tell : ByteArray := prog_1_method_25_code
def yX4_tell : MethodName := ⟨RX4, "tell", "(I)I"⟩
abbrev cX4_trod : ByteArray := prog_1_method_26_code
def yX4_trod : MethodName := ⟨RX4, "trod", "(I)I"⟩
abbrev cX4_as : ByteArray := prog_1_method_27_code
def yX4_as : MethodName := ⟨RX4, "as", "(II)I"⟩
abbrev cX4_trace : ByteArray := prog_1_method_28_code
def yX4_trace : MethodName := ⟨RX4, "trace", "()I"⟩
abbrev cX4_fault : ByteArray := prog_1_method_29_code
def yX4_fault : MethodName := ⟨RX4, "fault", "()I"⟩
abbrev cX4_many : ByteArray := prog_1_method_30_code
def yX4_many : MethodName := ⟨RX4, "many", "(I)I"⟩
abbrev cX4_isSheet : ByteArray := prog_1_method_31_code
def yX4_isSheet : MethodName := ⟨RX4, "isSheet", "(I)Z"⟩
abbrev cX4_isLane : ByteArray := prog_1_method_32_code
def yX4_isLane : MethodName := ⟨RX4, "isLane", "(I)Z"⟩
abbrev cX4_isWeeks : ByteArray := prog_1_method_33_code
def yX4_isWeeks : MethodName := ⟨RX4, "isWeeks", "(I)Z"⟩
abbrev cX4_isInches : ByteArray := prog_1_method_34_code
def yX4_isInches : MethodName := ⟨RX4, "isInches", "(I)Z"⟩
abbrev cX4_areStrokes : ByteArray := prog_1_method_35_code
def yX4_areStrokes : MethodName := ⟨RX4, "areStrokes", "([III)Z"⟩
abbrev cX4_failed : ByteArray := prog_1_method_36_code
def yX4_failed : MethodName := ⟨RX4, "failed", "(I)I"⟩
abbrev cX4_bit : ByteArray := prog_1_method_37_code
def yX4_bit : MethodName := ⟨RX4, "bit", "(I)I"⟩
abbrev cX4_isIn : ByteArray := prog_1_method_38_code
def yX4_isIn : MethodName := ⟨RX4, "isIn", "(II)Z"⟩
abbrev cX4_without : ByteArray := prog_1_method_39_code
def yX4_without : MethodName := ⟨RX4, "without", "(II)I"⟩
abbrev cX4_firstFault : ByteArray := prog_1_method_40_code
def yX4_firstFault : MethodName := ⟨RX4, "firstFault", "([III)I"⟩
abbrev cX4_fitsHead : ByteArray := prog_1_method_41_code
def yX4_fitsHead : MethodName := ⟨RX4, "fitsHead", "(II)Z"⟩
abbrev cX4_fitsRow : ByteArray := prog_1_method_42_code
def yX4_fitsRow : MethodName := ⟨RX4, "fitsRow", "(II)Z"⟩
abbrev cX4_kindOf : ByteArray := prog_1_method_43_code
def yX4_kindOf : MethodName := ⟨RX4, "kindOf", "(I)I"⟩
abbrev cX4_followed : ByteArray := prog_1_method_44_code
def yX4_followed : MethodName := ⟨RX4, "followed", "(II[IIII)I"⟩
abbrev cX4_mostShorn : ByteArray := prog_1_method_45_code
def yX4_mostShorn : MethodName := ⟨RX4, "mostShorn", "(II)I"⟩
abbrev cX4_shear : ByteArray := prog_1_method_46_code
def yX4_shear : MethodName := ⟨RX4, "shear", "(LShornHill$Shears;LShornHill$Land;III)V"⟩
abbrev cX4_shearsAllSoft : ByteArray := prog_1_method_47_code
def yX4_shearsAllSoft : MethodName := ⟨RX4, "shearsAllSoft", "(I)Z"⟩
abbrev cX4_canBeShornWhole : ByteArray := prog_1_method_48_code
def yX4_canBeShornWhole : MethodName := ⟨RX4, "canBeShornWhole", "(I)Z"⟩
abbrev cX4_couldBeShornWhole : ByteArray := prog_1_method_49_code
def yX4_couldBeShornWhole : MethodName := ⟨RX4, "couldBeShornWhole", "(II)Z"⟩
abbrev cX4_oddsOn : ByteArray := prog_1_method_50_code
def yX4_oddsOn : MethodName := ⟨RX4, "oddsOn", "(LShornHill$Land;IIJI)J"⟩
abbrev cX4_commonDivisor : ByteArray := prog_1_method_51_code
def yX4_commonDivisor : MethodName := ⟨RX4, "commonDivisor", "(JJ)J"⟩
abbrev cX4_begin : ByteArray := prog_1_method_52_code
def yX4_begin : MethodName := ⟨RX4, "begin", "(I)V"⟩
abbrev cX4_grassTells : ByteArray := prog_1_method_53_code
def yX4_grassTells : MethodName := ⟨RX4, "grassTells", "(I)I"⟩
abbrev cX4_springTells : ByteArray := prog_1_method_54_code
def yX4_springTells : MethodName := ⟨RX4, "springTells", "(I)I"⟩
abbrev cX4_hollowTells : ByteArray := prog_1_method_55_code
def yX4_hollowTells : MethodName := ⟨RX4, "hollowTells", "(I)I"⟩
def RX5 : String := "ShornHillModel"
def TX5 : u_T := fun k => match k with
  | 0 => ("ShornHillModel", "fault", "I", false)
  | 1 => ("ShornHillModel", "high", "I", false)
  | 2 => ("ShornHillModel", "wide", "I", false)
  | 3 => ("ShornHillModel", "paceNow", "I", false)
  | 4 => ("ShornHillModel", "breadthNow", "I", false)
  | 5 => ("ShornHillModel", "kindOf", "[I", true)
  | 6 => ("ShornHillModel", "ateOf", "[I", true)
  | 7 => ("ShornHillModel", "readAt", "I", false)
  | 8 => ("ShornHillModel", "readHigh", "I", false)
  | 9 => ("ShornHillModel", "readWide", "I", false)
  | 10 => ("ShornHillModel", "readPace", "I", false)
  | 11 => ("ShornHillModel", "readBreadth", "I", false)
  | 12 => ("ShornHillModel", "readKind", "[I", true)
  | 13 => ("ShornHillModel", "firstWrong", "I", false)
  | 14 => ("ShornHillModel", "endsAt", "I", false)
  | 15 => ("ShornHillModel", "shornNow", "I", false)
  | 16 => ("ShornHillModel", "placeAt", "[I", true)
  | 17 => ("ShornHillModel", "nextAt", "[I", true)
  | 18 => ("ShornHillModel", "rowBest", "[I", true)
  | 19 => ("ShornHillModel", "most", "I", false)
  | 20 => ("ShornHillModel", "readings", "I", false)
  | 21 => ("ShornHillModel", "readingOf", "[I", true)
  | 22 => ("ShornHillModel", "readingBy", "[I", true)
  | 23 => ("ShornHillModel", "readingWas", "[I", true)
  | 24 => ("ShornHillModel", "chanceAt", "[J", true)
  | 25 => ("ShornHillModel", "sheetSize", "[I", true)
  | 26 => ("ShornHillModel", "sheetLane", "[I", true)
  | 27 => ("ShornHillModel", "sheet", "[I", true)
  | 28 => ("ShornHillModel", "hands", "[I", true)
  | _ => ("ShornHillModel", "traceNow", "I", false)
def tyX5 : Nat → FieldType := fun k => match k with
  | 0 => .int
  | 1 => .int
  | 2 => .int
  | 3 => .int
  | 4 => .int
  | 5 => .array .int
  | 6 => .array .int
  | 7 => .int
  | 8 => .int
  | 9 => .int
  | 10 => .int
  | 11 => .int
  | 12 => .array .int
  | 13 => .int
  | 14 => .int
  | 15 => .int
  | 16 => .array .int
  | 17 => .array .int
  | 18 => .array .int
  | 19 => .int
  | 20 => .int
  | 21 => .array .int
  | 22 => .array .int
  | 23 => .array .int
  | 24 => .array .long
  | 25 => .array .int
  | 26 => .array .int
  | 27 => .array .int
  | 28 => .array .int
  | _ => .int
abbrev wsX50 : List Cond := u_ws RX5 TX5 30
theorem nmX5 : ∀ a, a < 30 → ∀ b, b < 30 → a ≠ b → (TX5 a).2.1 ≠ (TX5 b).2.1 := by decide +kernel
theorem tyX5_ok : ∀ k, k < 30 → parseFieldDescriptor (TX5 k).2.2.1 = some (tyX5 k) := by decide +kernel
abbrev cX5_init : ByteArray := prog_7_method_1_code
def yX5_init : MethodName := ⟨RX5, "<init>", "()V"⟩
abbrev cX5_in : ByteArray := prog_7_method_2_code
def yX5_in : MethodName := ⟨RX5, "in", "(JJJ)Z"⟩
abbrev cX5_lost : ByteArray := prog_7_method_3_code
def yX5_lost : MethodName := ⟨RX5, "lost", "()J"⟩
abbrev cX5_isIn : ByteArray := prog_7_method_4_code
def yX5_isIn : MethodName := ⟨RX5, "isIn", "(II)Z"⟩
abbrev cX5_bits : ByteArray := prog_7_method_5_code
def yX5_bits : MethodName := ⟨RX5, "bits", "(I)I"⟩
abbrev cX5_share : ByteArray := prog_7_method_6_code
def yX5_share : MethodName := ⟨RX5, "share", "(JJI)J"⟩
abbrev cX5_refused : ByteArray := prog_7_method_7_code
def yX5_refused : MethodName := ⟨RX5, "refused", "(I)I"⟩
abbrev cX5_failed : ByteArray := prog_7_method_8_code
def yX5_failed : MethodName := ⟨RX5, "failed", "(I)I"⟩
abbrev cX5_failedLong : ByteArray := prog_7_method_9_code
def yX5_failedLong : MethodName := ⟨RX5, "failedLong", "(I)J"⟩
abbrev cX5_cells : ByteArray := prog_7_method_10_code
def yX5_cells : MethodName := ⟨RX5, "cells", "()I"⟩
abbrev cX5_noPlace : ByteArray := prog_7_method_11_code
def yX5_noPlace : MethodName := ⟨RX5, "noPlace", "(I)Z"⟩
abbrev cX5_noGrass : ByteArray := prog_7_method_12_code
def yX5_noGrass : MethodName := ⟨RX5, "noGrass", "(I)Z"⟩
abbrev cX5_codeAt : ByteArray := prog_7_method_13_code
def yX5_codeAt : MethodName := ⟨RX5, "codeAt", "(II)I"⟩
abbrev cX5_figure : ByteArray := prog_7_method_14_code
def yX5_figure : MethodName := ⟨RX5, "figure", "(IIII)I"⟩
abbrev cX5_readsPlace : ByteArray := prog_7_method_15_code
def yX5_readsPlace : MethodName := ⟨RX5, "readsPlace", "(III)Z"⟩
abbrev cX5_readsHill : ByteArray := prog_7_method_16_code
def yX5_readsHill : MethodName := ⟨RX5, "readsHill", "(II)Z"⟩
abbrev cX5_cellsBarred : ByteArray := prog_7_method_17_code
def yX5_cellsBarred : MethodName := ⟨RX5, "cellsBarred", "(IIIJ)I"⟩
abbrev cX5_hill : ByteArray := prog_7_method_18_code
def yX5_hill : MethodName := ⟨RX5, "hill", "(IIII)I"⟩
abbrev cX5_thornsNow : ByteArray := prog_7_method_19_code
def yX5_thornsNow : MethodName := ⟨RX5, "thornsNow", "()I"⟩
abbrev cX5_growsOf : ByteArray := prog_7_method_20_code
def yX5_growsOf : MethodName := ⟨RX5, "growsOf", "(I)I"⟩
abbrev cX5_coatOf : ByteArray := prog_7_method_21_code
def yX5_coatOf : MethodName := ⟨RX5, "coatOf", "(II)I"⟩
abbrev cX5_ripeBy : ByteArray := prog_7_method_22_code
def yX5_ripeBy : MethodName := ⟨RX5, "ripeBy", "(I)I"⟩
abbrev cX5_noWeeks : ByteArray := prog_7_method_23_code
def yX5_noWeeks : MethodName := ⟨RX5, "noWeeks", "(I)Z"⟩
abbrev cX5_ofCell : ByteArray := prog_7_method_24_code
def yX5_ofCell : MethodName := ⟨RX5, "ofCell", "(II)I"⟩
abbrev cX5_goats : ByteArray := prog_7_method_25_code
def yX5_goats : MethodName := ⟨RX5, "goats", "(II)I"⟩
abbrev cX5_pace : ByteArray := prog_7_method_26_code
def yX5_pace : MethodName := ⟨RX5, "pace", "(I)I"⟩
abbrev cX5_breadth : ByteArray := prog_7_method_27_code
def yX5_breadth : MethodName := ⟨RX5, "breadth", "(I)I"⟩
abbrev cX5_coat : ByteArray := prog_7_method_28_code
def yX5_coat : MethodName := ⟨RX5, "coat", "(II)I"⟩
abbrev cX5_ripe : ByteArray := prog_7_method_29_code
def yX5_ripe : MethodName := ⟨RX5, "ripe", "(I)I"⟩
abbrev cX5_beside : ByteArray := prog_7_method_30_code
def yX5_beside : MethodName := ⟨RX5, "beside", "(II)I"⟩
abbrev cX5_goPath : ByteArray := prog_7_method_31_code
def yX5_goPath : MethodName := ⟨RX5, "goPath", "(IIII)V"⟩
abbrev cX5_coatsOf : ByteArray := prog_7_method_32_code
def yX5_coatsOf : MethodName := ⟨RX5, "coatsOf", "(II)I"⟩
abbrev cX5_path : ByteArray := prog_7_method_33_code
def yX5_path : MethodName := ⟨RX5, "path", "(IIIIIII)I"⟩
abbrev cX5_goFleece : ByteArray := prog_7_method_34_code
def yX5_goFleece : MethodName := ⟨RX5, "goFleece", "(II)V"⟩
abbrev cX5_fleece : ByteArray := prog_7_method_35_code
def yX5_fleece : MethodName := ⟨RX5, "fleece", "(III)I"⟩
abbrev cX5_startBy : ByteArray := prog_7_method_36_code
def yX5_startBy : MethodName := ⟨RX5, "startBy", "(I)I"⟩
abbrev cX5_start : ByteArray := prog_7_method_37_code
def yX5_start : MethodName := ⟨RX5, "start", "(I)I"⟩
abbrev cX5_isWholeFrom : ByteArray := prog_7_method_38_code
def yX5_isWholeFrom : MethodName := ⟨RX5, "isWholeFrom", "(II)Z"⟩
abbrev cX5_isWhole : ByteArray := prog_7_method_39_code
def yX5_isWhole : MethodName := ⟨RX5, "isWhole", "(I)Z"⟩
abbrev cX5_whole : ByteArray := prog_7_method_40_code
def yX5_whole : MethodName := ⟨RX5, "whole", "(I)I"⟩
abbrev cX5_stops : ByteArray := prog_7_method_41_code
def yX5_stops : MethodName := ⟨RX5, "stops", "(I)I"⟩
abbrev cX5_reading : ByteArray := prog_7_method_42_code
def yX5_reading : MethodName := ⟨RX5, "reading", "(III)I"⟩
abbrev cX5_back : ByteArray := prog_7_method_43_code
def yX5_back : MethodName := ⟨RX5, "back", "(I)I"⟩
abbrev cX5_areSo : ByteArray := prog_7_method_44_code
def yX5_areSo : MethodName := ⟨RX5, "areSo", "()Z"⟩
abbrev cX5_kinds : ByteArray := prog_7_method_45_code
def yX5_kinds : MethodName := ⟨RX5, "kinds", "(I)I"⟩
abbrev cX5_paces : ByteArray := prog_7_method_46_code
def yX5_paces : MethodName := ⟨RX5, "paces", "()I"⟩
abbrev cX5_eatings : ByteArray := prog_7_method_47_code
def yX5_eatings : MethodName := ⟨RX5, "eatings", "(I)I"⟩
abbrev cX5_waysOn : ByteArray := prog_7_method_48_code
def yX5_waysOn : MethodName := ⟨RX5, "waysOn", "(II)I"⟩
abbrev cX5_chanceFrom : ByteArray := prog_7_method_49_code
def yX5_chanceFrom : MethodName := ⟨RX5, "chanceFrom", "(IIJ)J"⟩
abbrev cX5_odds : ByteArray := prog_7_method_50_code
def yX5_odds : MethodName := ⟨RX5, "odds", "(III)J"⟩
abbrev cX5_noSheet : ByteArray := prog_7_method_51_code
def yX5_noSheet : MethodName := ⟨RX5, "noSheet", "(I)Z"⟩
abbrev cX5_sheet : ByteArray := prog_7_method_52_code
def yX5_sheet : MethodName := ⟨RX5, "sheet", "(III)I"⟩
abbrev cX5_lose : ByteArray := prog_7_method_53_code
def yX5_lose : MethodName := ⟨RX5, "lose", "(I)I"⟩
abbrev cX5_noCell : ByteArray := prog_7_method_54_code
def yX5_noCell : MethodName := ⟨RX5, "noCell", "(II)I"⟩
abbrev cX5_put : ByteArray := prog_7_method_55_code
def yX5_put : MethodName := ⟨RX5, "put", "(III)I"⟩
abbrev cX5_cell : ByteArray := prog_7_method_56_code
def yX5_cell : MethodName := ⟨RX5, "cell", "(III)J"⟩
abbrev cX5_isBeyond : ByteArray := prog_7_method_57_code
def yX5_isBeyond : MethodName := ⟨RX5, "isBeyond", "(IJI)Z"⟩
abbrev cX5_copy : ByteArray := prog_7_method_58_code
def yX5_copy : MethodName := ⟨RX5, "copy", "(IIIII)I"⟩
abbrev cX5_traced : ByteArray := prog_7_method_59_code
def yX5_traced : MethodName := ⟨RX5, "traced", "(I)V"⟩
abbrev cX5_tell : ByteArray := prog_7_method_60_code
def yX5_tell : MethodName := ⟨RX5, "tell", "(I)I"⟩
abbrev cX5_trod : ByteArray := prog_7_method_61_code
def yX5_trod : MethodName := ⟨RX5, "trod", "(I)I"⟩
abbrev cX5_as : ByteArray := prog_7_method_62_code
def yX5_as : MethodName := ⟨RX5, "as", "(II)I"⟩
abbrev cX5_trace : ByteArray := prog_7_method_63_code
def yX5_trace : MethodName := ⟨RX5, "trace", "()I"⟩
abbrev cX5_fault : ByteArray := prog_7_method_64_code
def yX5_fault : MethodName := ⟨RX5, "fault", "()I"⟩
abbrev cX5_many : ByteArray := prog_7_method_65_code
def yX5_many : MethodName := ⟨RX5, "many", "(I)I"⟩
def RJ6 : String := "java/lang/Integer"
def TJ6 : u_T := fun k => match k with
  | _ => ("", "", "", false)
def tyJ6 : Nat → FieldType := fun k => match k with
  | _ => .int
abbrev wsJ60 : List Cond := u_ws RJ6 TJ6 0
theorem nmJ6 : ∀ a, a < 0 → ∀ b, b < 0 → a ≠ b → (TJ6 a).2.1 ≠ (TJ6 b).2.1 := by decide +kernel
theorem tyJ6_ok : ∀ k, k < 0 → parseFieldDescriptor (TJ6 k).2.2.1 = some (tyJ6 k) := by decide +kernel
abbrev cJ6_bitCount_0f7a4 : ByteArray := prog_8_method_49_code
def yJ6_bitCount_0f7a4 : MethodName := ⟨RJ6, "bitCount", "(I)I"⟩
def RJ9 : String := "java/lang/Math"
def TJ9 : u_T := fun k => match k with
  | _ => ("", "", "", false)
def tyJ9 : Nat → FieldType := fun k => match k with
  | _ => .int
abbrev wsJ90 : List Cond := u_ws RJ9 TJ9 0
theorem nmJ9 : ∀ a, a < 0 → ∀ b, b < 0 → a ≠ b → (TJ9 a).2.1 ≠ (TJ9 b).2.1 := by decide +kernel
theorem tyJ9_ok : ∀ k, k < 0 → parseFieldDescriptor (TJ9 k).2.2.1 = some (tyJ9 k) := by decide +kernel
abbrev cJ9_max_7cf53 : ByteArray := prog_9_method_65_code
def yJ9_max_7cf53 : MethodName := ⟨RJ9, "max", "(II)I"⟩
abbrev cJ9_max_f86c9 : ByteArray := prog_9_method_66_code
def yJ9_max_f86c9 : MethodName := ⟨RJ9, "max", "(JJ)J"⟩
abbrev cJ9_min_7cf53 : ByteArray := prog_9_method_69_code
def yJ9_min_7cf53 : MethodName := ⟨RJ9, "min", "(II)I"⟩
def RJ10 : String := "java/lang/System"
def TJ10 : u_T := fun k => match k with
  | _ => ("", "", "", false)
def tyJ10 : Nat → FieldType := fun k => match k with
  | _ => .int
abbrev wsJ100 : List Cond := u_ws RJ10 TJ10 0
theorem nmJ10 : ∀ a, a < 0 → ∀ b, b < 0 → a ≠ b → (TJ10 a).2.1 ≠ (TJ10 b).2.1 := by decide +kernel
theorem tyJ10_ok : ∀ k, k < 0 → parseFieldDescriptor (TJ10 k).2.2.1 = some (tyJ10 k) := by decide +kernel
def RL : String := "ShornHillLaw"
abbrev cL_law : ByteArray := code
def yL_law : MethodName := ⟨RL, "law", "([I)Z"⟩
def wsX0_init : List Cond := .code yX0_init cX0_init 1 none :: ([.methodLink RX0 3 objectInit, .instanceMethod objectInit, .code objectInit ⟨#[0xb1]⟩ 1 none, .fieldLink RX0 9 "ShornHill$Land" "high" "I", .fieldLink RX0 15 "ShornHill$Land" "wide" "I", .fieldLink RX0 18 "ShornHill$Land" "paceNow" "I", .fieldLink RX0 21 "ShornHill$Land" "breadthNow" "I", .arrayClass .int, .fieldLink RX0 24 "ShornHill$Land" "kind" "[I", .fieldLink RX0 28 "ShornHill$Land" "eaten" "[I", .fieldLink RX0 31 "ShornHill$Land" "neighbours" "[I"] ++ wsX00)
def wsX0_stands : List Cond := .code yX0_stands cX0_stands 1 (some .boolean) :: ([.fieldLink RX0 9 "ShornHill$Land" "high" "I"] ++ wsX00)
def wsX0_cells : List Cond := .code yX0_cells cX0_cells 1 (some .int) :: ([.fieldLink RX0 9 "ShornHill$Land" "high" "I", .fieldLink RX0 15 "ShornHill$Land" "wide" "I"] ++ wsX00)
def wsX0_has : List Cond := .code yX0_has cX0_has 2 (some .boolean) :: ([.methodLink RX0 34 yX0_cells, .instanceMethod yX0_cells, .selects RX0 yX0_cells yX0_cells, .initialized RX0, .code yX0_cells cX0_cells 1 (some .int), .fieldLink RX0 9 "ShornHill$Land" "high" "I", .fieldLink RX0 15 "ShornHill$Land" "wide" "I"] ++ wsX00)
def wsX0_isSoft : List Cond := .code yX0_isSoft cX0_isSoft 2 (some .boolean) :: ([.fieldLink RX0 24 "ShornHill$Land" "kind" "[I", .methodLink RX0 38 yX0_has, .instanceMethod yX0_has, .selects RX0 yX0_has yX0_has, .initialized RX0, .code yX0_has cX0_has 2 (some .boolean), .methodLink RX0 34 yX0_cells, .instanceMethod yX0_cells, .selects RX0 yX0_cells yX0_cells, .code yX0_cells cX0_cells 1 (some .int), .fieldLink RX0 9 "ShornHill$Land" "high" "I", .fieldLink RX0 15 "ShornHill$Land" "wide" "I"] ++ wsX00)
def wsX4_kindOf : List Cond := .code yX4_kindOf cX4_kindOf 1 (some .int) :: ([])
def wsX0_meet : List Cond := .code yX0_meet cX0_meet 4 none :: ([.fieldLink RX0 31 "ShornHill$Land" "neighbours" "[I", .fieldLink RX0 15 "ShornHill$Land" "wide" "I", .fieldLink RX0 9 "ShornHill$Land" "high" "I"] ++ wsX00)
def wsX0_grow : List Cond := .code yX0_grow cX0_grow 7 none :: ([.fieldLink RX0 9 "ShornHill$Land" "high" "I", .fieldLink RX0 15 "ShornHill$Land" "wide" "I", .fieldLink RX0 18 "ShornHill$Land" "paceNow" "I", .fieldLink RX0 21 "ShornHill$Land" "breadthNow" "I", .fieldLink RX0 24 "ShornHill$Land" "kind" "[I", .fieldLink RX0 28 "ShornHill$Land" "eaten" "[I", .static yX4_kindOf, .initialized RX4, .code yX4_kindOf cX4_kindOf 1 (some .int), .methodLink RX0 46 yX0_meet, .instanceMethod yX0_meet, .selects RX0 yX0_meet yX0_meet, .initialized RX0, .code yX0_meet cX0_meet 4 none, .fieldLink RX0 31 "ShornHill$Land" "neighbours" "[I"] ++ wsX00)
def wsX0_beside : List Cond := .code yX0_beside cX0_beside 3 (some .int) :: ([.fieldLink RX0 31 "ShornHill$Land" "neighbours" "[I"] ++ wsX00)
def wsX0_weekly : List Cond := .code yX0_weekly cX0_weekly 2 (some .int) :: ([.fieldLink RX0 24 "ShornHill$Land" "kind" "[I", .fieldLink RX0 18 "ShornHill$Land" "paceNow" "I"] ++ wsX00)
def wsX0_inches : List Cond := .code yX0_inches cX0_inches 4 (some .int) :: ([.fieldLink RX0 28 "ShornHill$Land" "eaten" "[I", .methodLink RX0 53 Lib.Math.min.name, .static Lib.Math.min.name, .initialized "java/lang/Math", .code Lib.Math.min.name Lib.Math.min.code 2 (some .int), .methodLink RX0 59 Lib.Math.max.name, .static Lib.Math.max.name, .code Lib.Math.max.name Lib.Math.max.code 2 (some .int), .methodLink RX0 50 yX0_weekly, .instanceMethod yX0_weekly, .selects RX0 yX0_weekly yX0_weekly, .initialized RX0, .code yX0_weekly cX0_weekly 2 (some .int), .fieldLink RX0 24 "ShornHill$Land" "kind" "[I", .fieldLink RX0 18 "ShornHill$Land" "paceNow" "I"] ++ wsX00)
def wsX4_bit : List Cond := .code yX4_bit cX4_bit 1 (some .int) :: ([])
def wsX4_isIn : List Cond := .code yX4_isIn cX4_isIn 2 (some .boolean) :: ([.methodLink RX4 169 yX4_bit, .static yX4_bit, .initialized RX4, .code yX4_bit cX4_bit 1 (some .int)])
def wsX0_inchesOfAll_r1 : List Cond := [Cond.methodLink RX0 34 yX0_cells, Cond.instanceMethod yX0_cells, Cond.selects RX0 yX0_cells yX0_cells, Cond.initialized RX0, Cond.code yX0_cells cX0_cells 1 (some .int), Cond.fieldLink RX0 9 "ShornHill$Land" "high" "I", Cond.fieldLink RX0 15 "ShornHill$Land" "wide" "I", Cond.static yX4_isIn, Cond.initialized RX4, Cond.code yX4_isIn cX4_isIn 2 (some .boolean), Cond.methodLink RX4 169 yX4_bit, Cond.static yX4_bit, Cond.code yX4_bit cX4_bit 1 (some .int), Cond.methodLink RX0 66 yX0_inches, Cond.instanceMethod yX0_inches, Cond.selects RX0 yX0_inches yX0_inches, Cond.code yX0_inches cX0_inches 4 (some .int), Cond.fieldLink RX0 28 "ShornHill$Land" "eaten" "[I", Cond.methodLink RX0 53 Lib.Math.min.name, Cond.static Lib.Math.min.name, Cond.initialized "java/lang/Math", Cond.code Lib.Math.min.name Lib.Math.min.code 2 (some .int), Cond.methodLink RX0 59 Lib.Math.max.name, Cond.static Lib.Math.max.name]
def wsX0_inchesOfAll_r2 : List Cond := [Cond.code Lib.Math.max.name Lib.Math.max.code 2 (some .int), Cond.methodLink RX0 50 yX0_weekly, Cond.instanceMethod yX0_weekly, Cond.selects RX0 yX0_weekly yX0_weekly, Cond.code yX0_weekly cX0_weekly 2 (some .int), Cond.fieldLink RX0 24 "ShornHill$Land" "kind" "[I", Cond.fieldLink RX0 18 "ShornHill$Land" "paceNow" "I"]
def wsX0_inchesOfAll : List Cond := .code yX0_inchesOfAll cX0_inchesOfAll 5 (some .int) :: ((wsX0_inchesOfAll_r1 ++ wsX0_inchesOfAll_r2) ++ wsX00)
def wsX0_isRipe : List Cond := .code yX0_isRipe cX0_isRipe 3 (some .boolean) :: ([.fieldLink RX0 24 "ShornHill$Land" "kind" "[I", .fieldLink RX0 21 "ShornHill$Land" "breadthNow" "I", .methodLink RX0 66 yX0_inches, .instanceMethod yX0_inches, .selects RX0 yX0_inches yX0_inches, .initialized RX0, .code yX0_inches cX0_inches 4 (some .int), .fieldLink RX0 28 "ShornHill$Land" "eaten" "[I", .methodLink RX0 53 Lib.Math.min.name, .static Lib.Math.min.name, .initialized "java/lang/Math", .code Lib.Math.min.name Lib.Math.min.code 2 (some .int), .methodLink RX0 59 Lib.Math.max.name, .static Lib.Math.max.name, .code Lib.Math.max.name Lib.Math.max.code 2 (some .int), .methodLink RX0 50 yX0_weekly, .instanceMethod yX0_weekly, .selects RX0 yX0_weekly yX0_weekly, .code yX0_weekly cX0_weekly 2 (some .int), .fieldLink RX0 18 "ShornHill$Land" "paceNow" "I"] ++ wsX00)
def wsX0_ripeCells_r1 : List Cond := [Cond.methodLink RX0 34 yX0_cells, Cond.instanceMethod yX0_cells, Cond.selects RX0 yX0_cells yX0_cells, Cond.initialized RX0, Cond.code yX0_cells cX0_cells 1 (some .int), Cond.fieldLink RX0 9 "ShornHill$Land" "high" "I", Cond.fieldLink RX0 15 "ShornHill$Land" "wide" "I", Cond.methodLink RX0 69 yX0_isRipe, Cond.instanceMethod yX0_isRipe, Cond.selects RX0 yX0_isRipe yX0_isRipe, Cond.code yX0_isRipe cX0_isRipe 3 (some .boolean), Cond.fieldLink RX0 24 "ShornHill$Land" "kind" "[I", Cond.fieldLink RX0 21 "ShornHill$Land" "breadthNow" "I", Cond.methodLink RX0 66 yX0_inches, Cond.instanceMethod yX0_inches, Cond.selects RX0 yX0_inches yX0_inches, Cond.code yX0_inches cX0_inches 4 (some .int), Cond.fieldLink RX0 28 "ShornHill$Land" "eaten" "[I", Cond.methodLink RX0 53 Lib.Math.min.name, Cond.static Lib.Math.min.name, Cond.initialized "java/lang/Math", Cond.code Lib.Math.min.name Lib.Math.min.code 2 (some .int), Cond.methodLink RX0 59 Lib.Math.max.name, Cond.static Lib.Math.max.name]
def wsX0_ripeCells_r2 : List Cond := [Cond.code Lib.Math.max.name Lib.Math.max.code 2 (some .int), Cond.methodLink RX0 50 yX0_weekly, Cond.instanceMethod yX0_weekly, Cond.selects RX0 yX0_weekly yX0_weekly, Cond.code yX0_weekly cX0_weekly 2 (some .int), Cond.fieldLink RX0 18 "ShornHill$Land" "paceNow" "I", Cond.static yX4_bit, Cond.initialized RX4, Cond.code yX4_bit cX4_bit 1 (some .int)]
def wsX0_ripeCells : List Cond := .code yX0_ripeCells cX0_ripeCells 4 (some .int) :: ((wsX0_ripeCells_r1 ++ wsX0_ripeCells_r2) ++ wsX00)
def wsX0_softCells : List Cond := .code yX0_softCells cX0_softCells 3 (some .int) :: ([.fieldLink RX0 24 "ShornHill$Land" "kind" "[I", .methodLink RX0 34 yX0_cells, .instanceMethod yX0_cells, .selects RX0 yX0_cells yX0_cells, .initialized RX0, .code yX0_cells cX0_cells 1 (some .int), .fieldLink RX0 9 "ShornHill$Land" "high" "I", .fieldLink RX0 15 "ShornHill$Land" "wide" "I", .static yX4_bit, .initialized RX4, .code yX4_bit cX4_bit 1 (some .int)] ++ wsX00)
def wsX0_isAllRipe_r1 : List Cond := [Cond.methodLink RX0 75 yX0_ripeCells, Cond.instanceMethod yX0_ripeCells, Cond.selects RX0 yX0_ripeCells yX0_ripeCells, Cond.initialized RX0, Cond.code yX0_ripeCells cX0_ripeCells 4 (some .int), Cond.methodLink RX0 34 yX0_cells, Cond.instanceMethod yX0_cells, Cond.selects RX0 yX0_cells yX0_cells, Cond.code yX0_cells cX0_cells 1 (some .int), Cond.fieldLink RX0 9 "ShornHill$Land" "high" "I", Cond.fieldLink RX0 15 "ShornHill$Land" "wide" "I", Cond.methodLink RX0 69 yX0_isRipe, Cond.instanceMethod yX0_isRipe, Cond.selects RX0 yX0_isRipe yX0_isRipe, Cond.code yX0_isRipe cX0_isRipe 3 (some .boolean), Cond.fieldLink RX0 24 "ShornHill$Land" "kind" "[I", Cond.fieldLink RX0 21 "ShornHill$Land" "breadthNow" "I", Cond.methodLink RX0 66 yX0_inches, Cond.instanceMethod yX0_inches, Cond.selects RX0 yX0_inches yX0_inches, Cond.code yX0_inches cX0_inches 4 (some .int), Cond.fieldLink RX0 28 "ShornHill$Land" "eaten" "[I", Cond.methodLink RX0 53 Lib.Math.min.name, Cond.static Lib.Math.min.name]
def wsX0_isAllRipe_r2 : List Cond := [Cond.initialized "java/lang/Math", Cond.code Lib.Math.min.name Lib.Math.min.code 2 (some .int), Cond.methodLink RX0 59 Lib.Math.max.name, Cond.static Lib.Math.max.name, Cond.code Lib.Math.max.name Lib.Math.max.code 2 (some .int), Cond.methodLink RX0 50 yX0_weekly, Cond.instanceMethod yX0_weekly, Cond.selects RX0 yX0_weekly yX0_weekly, Cond.code yX0_weekly cX0_weekly 2 (some .int), Cond.fieldLink RX0 18 "ShornHill$Land" "paceNow" "I", Cond.static yX4_bit, Cond.initialized RX4, Cond.code yX4_bit cX4_bit 1 (some .int), Cond.methodLink RX0 78 yX0_softCells, Cond.instanceMethod yX0_softCells, Cond.selects RX0 yX0_softCells yX0_softCells, Cond.code yX0_softCells cX0_softCells 3 (some .int)]
def wsX0_isAllRipe : List Cond := .code yX0_isAllRipe cX0_isAllRipe 2 (some .boolean) :: ((wsX0_isAllRipe_r1 ++ wsX0_isAllRipe_r2) ++ wsX00)
def wsX1_init : List Cond := .code yX1_init cX1_init 1 none :: ([.methodLink RX1 3 objectInit, .instanceMethod objectInit, .code objectInit ⟨#[0xb1]⟩ 1 none, .fieldLink RX1 9 "ShornHill$Readings" "count" "I", .arrayClass .int, .fieldLink RX1 15 "ShornHill$Readings" "ofCells" "[I", .fieldLink RX1 19 "ShornHill$Readings" "behindWeeks" "[I", .fieldLink RX1 22 "ShornHill$Readings" "inchesTold" "[I"] ++ wsX10)
def wsX1_add : List Cond := .code yX1_add cX1_add 4 (some .int) :: ([.fieldLink RX1 15 "ShornHill$Readings" "ofCells" "[I", .fieldLink RX1 9 "ShornHill$Readings" "count" "I", .fieldLink RX1 19 "ShornHill$Readings" "behindWeeks" "[I", .fieldLink RX1 22 "ShornHill$Readings" "inchesTold" "[I"] ++ wsX10)
def wsX1_areSo : List Cond := .code yX1_areSo cX1_areSo 3 (some .boolean) :: ([.fieldLink RX1 9 "ShornHill$Readings" "count" "I", .fieldLink RX1 15 "ShornHill$Readings" "ofCells" "[I", .fieldLink RX1 19 "ShornHill$Readings" "behindWeeks" "[I", .fieldLink RX1 22 "ShornHill$Readings" "inchesTold" "[I", .instanceMethod yX0_inches, .initialized RX0, .selects RX0 yX0_inches yX0_inches, .code yX0_inches cX0_inches 4 (some .int), .fieldLink RX0 28 "ShornHill$Land" "eaten" "[I", .methodLink RX0 53 Lib.Math.min.name, .static Lib.Math.min.name, .initialized "java/lang/Math", .code Lib.Math.min.name Lib.Math.min.code 2 (some .int), .methodLink RX0 59 Lib.Math.max.name, .static Lib.Math.max.name, .code Lib.Math.max.name Lib.Math.max.code 2 (some .int), .methodLink RX0 50 yX0_weekly, .instanceMethod yX0_weekly, .selects RX0 yX0_weekly yX0_weekly, .code yX0_weekly cX0_weekly 2 (some .int), .fieldLink RX0 24 "ShornHill$Land" "kind" "[I", .fieldLink RX0 18 "ShornHill$Land" "paceNow" "I"] ++ wsX10 ++ wsX00)
def wsX2_init : List Cond := .code yX2_init cX2_init 1 none :: ([.methodLink RX2 3 objectInit, .instanceMethod objectInit, .code objectInit ⟨#[0xb1]⟩ 1 none, .arrayClass .int, .fieldLink RX2 9 "ShornHill$Shears" "tried" "[I", .fieldLink RX2 15 "ShornHill$Shears" "best" "[I", .fieldLink RX2 18 "ShornHill$Shears" "most" "I", .fieldLink RX2 22 "ShornHill$Shears" "goal" "I"] ++ wsX20)
def wsX2_keep : List Cond := .code yX2_keep cX2_keep 2 none :: ([.fieldLink RX2 18 "ShornHill$Shears" "most" "I", .fieldLink RX2 9 "ShornHill$Shears" "tried" "[I", .fieldLink RX2 15 "ShornHill$Shears" "best" "[I", .methodLink RX2 25 arraycopyName, .native arraycopyName, .static arraycopyName, .initialized "java/lang/System"] ++ wsX20)
def wsX3_init : List Cond := .code yX3_init cX3_init 1 none :: ([.methodLink RX3 3 objectInit, .instanceMethod objectInit, .code objectInit ⟨#[0xb1]⟩ 1 none, .fieldLink RX3 9 "ShornHill$Sheet" "hasRow" "Z", .fieldLink RX3 15 "ShornHill$Sheet" "lane" "I", .fieldLink RX3 19 "ShornHill$Sheet" "length" "I", .arrayClass .int, .fieldLink RX3 22 "ShornHill$Sheet" "row" "[I"] ++ wsX30)
def wsX3_renew : List Cond := .code yX3_renew cX3_renew 4 none :: ([.fieldLink RX3 9 "ShornHill$Sheet" "hasRow" "Z", .fieldLink RX3 15 "ShornHill$Sheet" "lane" "I", .fieldLink RX3 19 "ShornHill$Sheet" "length" "I", .fieldLink RX3 22 "ShornHill$Sheet" "row" "[I"] ++ wsX30)
def wsX3_faultAs : List Cond := .code yX3_faultAs cX3_faultAs 2 (some .int) :: ([.fieldLink RX3 9 "ShornHill$Sheet" "hasRow" "Z", .fieldLink RX3 15 "ShornHill$Sheet" "lane" "I"] ++ wsX30)
def wsX3_holds : List Cond := .code yX3_holds cX3_holds 2 (some .boolean) :: ([.fieldLink RX3 19 "ShornHill$Sheet" "length" "I"] ++ wsX30)
def wsX3_spans : List Cond := .code yX3_spans cX3_spans 3 (some .boolean) :: ([.fieldLink RX3 19 "ShornHill$Sheet" "length" "I"] ++ wsX30)
def wsX3_cut : List Cond := .code yX3_cut cX3_cut 2 (some .int) :: ([.fieldLink RX3 15 "ShornHill$Sheet" "lane" "I"] ++ wsX30)
def wsX4_init_r1 : List Cond := [Cond.methodLink RX4 5 objectInit, Cond.instanceMethod objectInit, Cond.code objectInit ⟨#[0xb1]⟩ 1 none, Cond.classLink RX4 11 RX0, Cond.instantiable RX0 7, Cond.initialized RX0, Cond.fieldLink RX4 14 "ShornHill" "land" "LShornHill$Land;", Cond.classLink RX4 18 RX1, Cond.instantiable RX1 4, Cond.initialized RX1, Cond.fieldLink RX4 21 "ShornHill" "readings" "LShornHill$Readings;", Cond.classLink RX4 25 RX2, Cond.instantiable RX2 4, Cond.initialized RX2, Cond.fieldLink RX4 28 "ShornHill" "shears" "LShornHill$Shears;", Cond.classLink RX4 32 RX3, Cond.fieldLink RX4 34 "ShornHill" "sheets" "[LShornHill$Sheet;", Cond.fieldLink RX4 38 "ShornHill" "latestFault" "I", Cond.fieldLink RX4 42 "ShornHill" "bodiesBegun" "I", Cond.instantiable RX3 4, Cond.initialized RX3, Cond.instanceMethod yX0_init, Cond.code yX0_init cX0_init 1 none, Cond.methodLink RX0 3 objectInit]
def wsX4_init_r2 : List Cond := [Cond.fieldLink RX0 9 "ShornHill$Land" "high" "I", Cond.fieldLink RX0 15 "ShornHill$Land" "wide" "I", Cond.fieldLink RX0 18 "ShornHill$Land" "paceNow" "I", Cond.fieldLink RX0 21 "ShornHill$Land" "breadthNow" "I", Cond.arrayClass .int, Cond.fieldLink RX0 24 "ShornHill$Land" "kind" "[I", Cond.fieldLink RX0 28 "ShornHill$Land" "eaten" "[I", Cond.fieldLink RX0 31 "ShornHill$Land" "neighbours" "[I", Cond.instanceMethod yX1_init, Cond.code yX1_init cX1_init 1 none, Cond.methodLink RX1 3 objectInit, Cond.fieldLink RX1 9 "ShornHill$Readings" "count" "I", Cond.fieldLink RX1 15 "ShornHill$Readings" "ofCells" "[I", Cond.fieldLink RX1 19 "ShornHill$Readings" "behindWeeks" "[I", Cond.fieldLink RX1 22 "ShornHill$Readings" "inchesTold" "[I", Cond.instanceMethod yX2_init, Cond.code yX2_init cX2_init 1 none, Cond.methodLink RX2 3 objectInit, Cond.fieldLink RX2 9 "ShornHill$Shears" "tried" "[I", Cond.fieldLink RX2 15 "ShornHill$Shears" "best" "[I", Cond.fieldLink RX2 18 "ShornHill$Shears" "most" "I", Cond.fieldLink RX2 22 "ShornHill$Shears" "goal" "I", Cond.instanceMethod yX3_init, Cond.code yX3_init cX3_init 1 none]
def wsX4_init_r3 : List Cond := [Cond.methodLink RX3 3 objectInit, Cond.fieldLink RX3 9 "ShornHill$Sheet" "hasRow" "Z", Cond.fieldLink RX3 15 "ShornHill$Sheet" "lane" "I", Cond.fieldLink RX3 19 "ShornHill$Sheet" "length" "I", Cond.fieldLink RX3 22 "ShornHill$Sheet" "row" "[I"]
def wsX4_init : List Cond := .code yX4_init cX4_init 2 none :: ((wsX4_init_r1 ++ (wsX4_init_r2 ++ wsX4_init_r3)) ++ wsX00 ++ wsX40 ++ wsX10 ++ wsX20 ++ wsX30)
def wsX4_isSheet : List Cond := .code yX4_isSheet cX4_isSheet 1 (some .boolean) :: ([])
def wsX4_isLane : List Cond := .code yX4_isLane cX4_isLane 1 (some .boolean) :: ([])
def wsX4_failed : List Cond := .code yX4_failed cX4_failed 2 (some .int) :: ([.fieldLink RX4 38 "ShornHill" "latestFault" "I"] ++ wsX40)
def wsX4_fitsHead : List Cond := .code yX4_fitsHead cX4_fitsHead 2 (some .boolean) :: ([])
def wsX4_fitsRow : List Cond := .code yX4_fitsRow cX4_fitsRow 2 (some .boolean) :: ([.methodLink RX4 237 yX4_kindOf, .static yX4_kindOf, .initialized RX4, .code yX4_kindOf cX4_kindOf 1 (some .int)])
def wsX4_firstFault : List Cond := .code yX4_firstFault cX4_firstFault 9 (some .int) :: ([.methodLink RX4 231 yX4_fitsHead, .static yX4_fitsHead, .initialized RX4, .code yX4_fitsHead cX4_fitsHead 2 (some .boolean), .methodLink RX4 234 yX4_fitsRow, .static yX4_fitsRow, .code yX4_fitsRow cX4_fitsRow 2 (some .boolean), .methodLink RX4 237 yX4_kindOf, .static yX4_kindOf, .code yX4_kindOf cX4_kindOf 1 (some .int)])
def wsJ6_bitCount_0f7a4 : List Cond := .code yJ6_bitCount_0f7a4 cJ6_bitCount_0f7a4 1 (some .int) :: ([.constant RJ6 265 (1431655765), .constant RJ6 266 (858993459), .constant RJ6 267 (252645135)])
def wsX4_hill_r1 : List Cond := [Cond.fieldLink RX4 38 "ShornHill" "latestFault" "I", Cond.fieldLink RX4 34 "ShornHill" "sheets" "[LShornHill$Sheet;", Cond.fieldLink RX4 14 "ShornHill" "land" "LShornHill$Land;", Cond.fieldLink RX4 21 "ShornHill" "readings" "LShornHill$Readings;", Cond.methodLink RX4 46 yX4_isSheet, Cond.static yX4_isSheet, Cond.initialized RX4, Cond.code yX4_isSheet cX4_isSheet 1 (some .boolean), Cond.methodLink RX4 50 yX4_isLane, Cond.static yX4_isLane, Cond.code yX4_isLane cX4_isLane 1 (some .boolean), Cond.instanceMethod yX3_faultAs, Cond.initialized RX3, Cond.selects RX3 yX3_faultAs yX3_faultAs, Cond.code yX3_faultAs cX3_faultAs 2 (some .int), Cond.fieldLink RX3 9 "ShornHill$Sheet" "hasRow" "Z", Cond.fieldLink RX3 15 "ShornHill$Sheet" "lane" "I", Cond.instanceMethod yX3_spans, Cond.selects RX3 yX3_spans yX3_spans, Cond.code yX3_spans cX3_spans 3 (some .boolean), Cond.fieldLink RX3 19 "ShornHill$Sheet" "length" "I", Cond.methodLink RX4 61 yX4_failed, Cond.instanceMethod yX4_failed, Cond.selects RX4 yX4_failed yX4_failed]
def wsX4_hill_r2 : List Cond := [Cond.code yX4_failed cX4_failed 2 (some .int), Cond.methodLink RX4 68 yX4_firstFault, Cond.static yX4_firstFault, Cond.code yX4_firstFault cX4_firstFault 9 (some .int), Cond.methodLink RX4 231 yX4_fitsHead, Cond.static yX4_fitsHead, Cond.code yX4_fitsHead cX4_fitsHead 2 (some .boolean), Cond.methodLink RX4 234 yX4_fitsRow, Cond.static yX4_fitsRow, Cond.code yX4_fitsRow cX4_fitsRow 2 (some .boolean), Cond.methodLink RX4 237 yX4_kindOf, Cond.static yX4_kindOf, Cond.code yX4_kindOf cX4_kindOf 1 (some .int), Cond.instanceMethod yX0_grow, Cond.initialized RX0, Cond.selects RX0 yX0_grow yX0_grow, Cond.code yX0_grow cX0_grow 7 none, Cond.fieldLink RX0 9 "ShornHill$Land" "high" "I", Cond.fieldLink RX0 15 "ShornHill$Land" "wide" "I", Cond.fieldLink RX0 18 "ShornHill$Land" "paceNow" "I", Cond.fieldLink RX0 21 "ShornHill$Land" "breadthNow" "I", Cond.fieldLink RX0 24 "ShornHill$Land" "kind" "[I", Cond.fieldLink RX0 28 "ShornHill$Land" "eaten" "[I", Cond.methodLink RX0 46 yX0_meet]
def wsX4_hill_r3 : List Cond := [Cond.instanceMethod yX0_meet, Cond.selects RX0 yX0_meet yX0_meet, Cond.code yX0_meet cX0_meet 4 none, Cond.fieldLink RX0 31 "ShornHill$Land" "neighbours" "[I", Cond.instanceMethod yX0_softCells, Cond.selects RX0 yX0_softCells yX0_softCells, Cond.code yX0_softCells cX0_softCells 3 (some .int), Cond.methodLink RX0 34 yX0_cells, Cond.instanceMethod yX0_cells, Cond.selects RX0 yX0_cells yX0_cells, Cond.code yX0_cells cX0_cells 1 (some .int), Cond.static yX4_bit, Cond.code yX4_bit cX4_bit 1 (some .int), Cond.methodLink RX4 83 yJ6_bitCount_0f7a4, Cond.static yJ6_bitCount_0f7a4, Cond.initialized RJ6, Cond.code yJ6_bitCount_0f7a4 cJ6_bitCount_0f7a4 1 (some .int), Cond.constant RJ6 265 (1431655765), Cond.constant RJ6 266 (858993459), Cond.constant RJ6 267 (252645135)]
def wsX4_hill : List Cond := .code yX4_hill cX4_hill 8 (some .int) :: ((wsX4_hill_r1 ++ (wsX4_hill_r2 ++ wsX4_hill_r3)) ++ wsX40 ++ wsX30 ++ wsX10 ++ wsX00)
def wsX4_ofCell : List Cond := .code yX4_ofCell cX4_ofCell 3 (some .int) :: ([.fieldLink RX4 14 "ShornHill" "land" "LShornHill$Land;", .instanceMethod yX0_has, .initialized RX0, .selects RX0 yX0_has yX0_has, .code yX0_has cX0_has 2 (some .boolean), .methodLink RX0 34 yX0_cells, .instanceMethod yX0_cells, .selects RX0 yX0_cells yX0_cells, .code yX0_cells cX0_cells 1 (some .int), .fieldLink RX0 9 "ShornHill$Land" "high" "I", .fieldLink RX0 15 "ShornHill$Land" "wide" "I", .instanceMethod yX0_weekly, .selects RX0 yX0_weekly yX0_weekly, .code yX0_weekly cX0_weekly 2 (some .int), .fieldLink RX0 24 "ShornHill$Land" "kind" "[I", .fieldLink RX0 18 "ShornHill$Land" "paceNow" "I"] ++ wsX40 ++ wsX00)
def wsX4_isInches : List Cond := .code yX4_isInches cX4_isInches 1 (some .boolean) :: ([])
def wsX4_goats : List Cond := .code yX4_goats cX4_goats 4 (some .int) :: ([.fieldLink RX4 14 "ShornHill" "land" "LShornHill$Land;", .instanceMethod yX0_isSoft, .initialized RX0, .selects RX0 yX0_isSoft yX0_isSoft, .code yX0_isSoft cX0_isSoft 2 (some .boolean), .fieldLink RX0 24 "ShornHill$Land" "kind" "[I", .methodLink RX0 38 yX0_has, .instanceMethod yX0_has, .selects RX0 yX0_has yX0_has, .code yX0_has cX0_has 2 (some .boolean), .methodLink RX0 34 yX0_cells, .instanceMethod yX0_cells, .selects RX0 yX0_cells yX0_cells, .code yX0_cells cX0_cells 1 (some .int), .fieldLink RX0 9 "ShornHill$Land" "high" "I", .fieldLink RX0 15 "ShornHill$Land" "wide" "I", .methodLink RX4 103 yX4_isInches, .static yX4_isInches, .initialized RX4, .code yX4_isInches cX4_isInches 1 (some .boolean)] ++ wsX40 ++ wsX00)
def wsX4_pace : List Cond := .code yX4_pace cX4_pace 3 (some .int) :: ([.fieldLink RX4 14 "ShornHill" "land" "LShornHill$Land;", .instanceMethod yX0_stands, .initialized RX0, .selects RX0 yX0_stands yX0_stands, .code yX0_stands cX0_stands 1 (some .boolean), .fieldLink RX0 9 "ShornHill$Land" "high" "I"] ++ wsX40 ++ wsX00)
def wsX4_breadth : List Cond := .code yX4_breadth cX4_breadth 3 (some .int) :: ([.fieldLink RX4 14 "ShornHill" "land" "LShornHill$Land;", .instanceMethod yX0_stands, .initialized RX0, .selects RX0 yX0_stands yX0_stands, .code yX0_stands cX0_stands 1 (some .boolean), .fieldLink RX0 9 "ShornHill$Land" "high" "I"] ++ wsX40 ++ wsX00)
def wsX4_isWeeks : List Cond := .code yX4_isWeeks cX4_isWeeks 1 (some .boolean) :: ([])
def wsX4_coat_r1 : List Cond := [Cond.fieldLink RX4 14 "ShornHill" "land" "LShornHill$Land;", Cond.instanceMethod yX0_has, Cond.initialized RX0, Cond.selects RX0 yX0_has yX0_has, Cond.code yX0_has cX0_has 2 (some .boolean), Cond.methodLink RX0 34 yX0_cells, Cond.instanceMethod yX0_cells, Cond.selects RX0 yX0_cells yX0_cells, Cond.code yX0_cells cX0_cells 1 (some .int), Cond.fieldLink RX0 9 "ShornHill$Land" "high" "I", Cond.fieldLink RX0 15 "ShornHill$Land" "wide" "I", Cond.methodLink RX4 116 yX4_isWeeks, Cond.static yX4_isWeeks, Cond.initialized RX4, Cond.code yX4_isWeeks cX4_isWeeks 1 (some .boolean), Cond.instanceMethod yX0_inches, Cond.selects RX0 yX0_inches yX0_inches, Cond.code yX0_inches cX0_inches 4 (some .int), Cond.fieldLink RX0 28 "ShornHill$Land" "eaten" "[I", Cond.methodLink RX0 53 Lib.Math.min.name, Cond.static Lib.Math.min.name, Cond.initialized "java/lang/Math", Cond.code Lib.Math.min.name Lib.Math.min.code 2 (some .int), Cond.methodLink RX0 59 Lib.Math.max.name]
def wsX4_coat_r2 : List Cond := [Cond.static Lib.Math.max.name, Cond.code Lib.Math.max.name Lib.Math.max.code 2 (some .int), Cond.methodLink RX0 50 yX0_weekly, Cond.instanceMethod yX0_weekly, Cond.selects RX0 yX0_weekly yX0_weekly, Cond.code yX0_weekly cX0_weekly 2 (some .int), Cond.fieldLink RX0 24 "ShornHill$Land" "kind" "[I", Cond.fieldLink RX0 18 "ShornHill$Land" "paceNow" "I"]
def wsX4_coat : List Cond := .code yX4_coat cX4_coat 3 (some .int) :: ((wsX4_coat_r1 ++ wsX4_coat_r2) ++ wsX40 ++ wsX00)
def wsX4_ripe_r1 : List Cond := [Cond.fieldLink RX4 14 "ShornHill" "land" "LShornHill$Land;", Cond.instanceMethod yX0_stands, Cond.initialized RX0, Cond.selects RX0 yX0_stands yX0_stands, Cond.code yX0_stands cX0_stands 1 (some .boolean), Cond.fieldLink RX0 9 "ShornHill$Land" "high" "I", Cond.methodLink RX4 116 yX4_isWeeks, Cond.static yX4_isWeeks, Cond.initialized RX4, Cond.code yX4_isWeeks cX4_isWeeks 1 (some .boolean), Cond.instanceMethod yX0_ripeCells, Cond.selects RX0 yX0_ripeCells yX0_ripeCells, Cond.code yX0_ripeCells cX0_ripeCells 4 (some .int), Cond.methodLink RX0 34 yX0_cells, Cond.instanceMethod yX0_cells, Cond.selects RX0 yX0_cells yX0_cells, Cond.code yX0_cells cX0_cells 1 (some .int), Cond.fieldLink RX0 15 "ShornHill$Land" "wide" "I", Cond.methodLink RX0 69 yX0_isRipe, Cond.instanceMethod yX0_isRipe, Cond.selects RX0 yX0_isRipe yX0_isRipe, Cond.code yX0_isRipe cX0_isRipe 3 (some .boolean), Cond.fieldLink RX0 24 "ShornHill$Land" "kind" "[I", Cond.fieldLink RX0 21 "ShornHill$Land" "breadthNow" "I"]
def wsX4_ripe_r2 : List Cond := [Cond.methodLink RX0 66 yX0_inches, Cond.instanceMethod yX0_inches, Cond.selects RX0 yX0_inches yX0_inches, Cond.code yX0_inches cX0_inches 4 (some .int), Cond.fieldLink RX0 28 "ShornHill$Land" "eaten" "[I", Cond.methodLink RX0 53 Lib.Math.min.name, Cond.static Lib.Math.min.name, Cond.initialized "java/lang/Math", Cond.code Lib.Math.min.name Lib.Math.min.code 2 (some .int), Cond.methodLink RX0 59 Lib.Math.max.name, Cond.static Lib.Math.max.name, Cond.code Lib.Math.max.name Lib.Math.max.code 2 (some .int), Cond.methodLink RX0 50 yX0_weekly, Cond.instanceMethod yX0_weekly, Cond.selects RX0 yX0_weekly yX0_weekly, Cond.code yX0_weekly cX0_weekly 2 (some .int), Cond.fieldLink RX0 18 "ShornHill$Land" "paceNow" "I", Cond.static yX4_bit, Cond.code yX4_bit cX4_bit 1 (some .int)]
def wsX4_ripe : List Cond := .code yX4_ripe cX4_ripe 2 (some .int) :: ((wsX4_ripe_r1 ++ wsX4_ripe_r2) ++ wsX40 ++ wsX00)
def wsX4_areStrokes : List Cond := .code yX4_areStrokes cX4_areStrokes 4 (some .boolean) :: ([])
def wsX4_without : List Cond := .code yX4_without cX4_without 2 (some .int) :: ([.methodLink RX4 169 yX4_bit, .static yX4_bit, .initialized RX4, .code yX4_bit cX4_bit 1 (some .int)])
def wsX4_followed_r1 : List Cond := [Cond.fieldLink RX4 14 "ShornHill" "land" "LShornHill$Land;", Cond.instanceMethod yX0_ripeCells, Cond.initialized RX0, Cond.selects RX0 yX0_ripeCells yX0_ripeCells, Cond.code yX0_ripeCells cX0_ripeCells 4 (some .int), Cond.methodLink RX0 34 yX0_cells, Cond.instanceMethod yX0_cells, Cond.selects RX0 yX0_cells yX0_cells, Cond.code yX0_cells cX0_cells 1 (some .int), Cond.fieldLink RX0 9 "ShornHill$Land" "high" "I", Cond.fieldLink RX0 15 "ShornHill$Land" "wide" "I", Cond.methodLink RX0 69 yX0_isRipe, Cond.instanceMethod yX0_isRipe, Cond.selects RX0 yX0_isRipe yX0_isRipe, Cond.code yX0_isRipe cX0_isRipe 3 (some .boolean), Cond.fieldLink RX0 24 "ShornHill$Land" "kind" "[I", Cond.fieldLink RX0 21 "ShornHill$Land" "breadthNow" "I", Cond.methodLink RX0 66 yX0_inches, Cond.instanceMethod yX0_inches, Cond.selects RX0 yX0_inches yX0_inches, Cond.code yX0_inches cX0_inches 4 (some .int), Cond.fieldLink RX0 28 "ShornHill$Land" "eaten" "[I", Cond.methodLink RX0 53 Lib.Math.min.name, Cond.static Lib.Math.min.name]
def wsX4_followed_r2 : List Cond := [Cond.initialized "java/lang/Math", Cond.code Lib.Math.min.name Lib.Math.min.code 2 (some .int), Cond.methodLink RX0 59 Lib.Math.max.name, Cond.static Lib.Math.max.name, Cond.code Lib.Math.max.name Lib.Math.max.code 2 (some .int), Cond.methodLink RX0 50 yX0_weekly, Cond.instanceMethod yX0_weekly, Cond.selects RX0 yX0_weekly yX0_weekly, Cond.code yX0_weekly cX0_weekly 2 (some .int), Cond.fieldLink RX0 18 "ShornHill$Land" "paceNow" "I", Cond.static yX4_bit, Cond.initialized RX4, Cond.code yX4_bit cX4_bit 1 (some .int), Cond.methodLink RX4 174 yX4_without, Cond.static yX4_without, Cond.code yX4_without cX4_without 2 (some .int), Cond.methodLink RX4 169 yX4_bit, Cond.instanceMethod yX0_beside, Cond.selects RX0 yX0_beside yX0_beside, Cond.code yX0_beside cX0_beside 3 (some .int), Cond.fieldLink RX0 31 "ShornHill$Land" "neighbours" "[I", Cond.methodLink RX4 146 yX4_isIn, Cond.static yX4_isIn, Cond.code yX4_isIn cX4_isIn 2 (some .boolean)]
def wsX4_followed_r3 : List Cond := [Cond.instanceMethod yX0_inchesOfAll, Cond.selects RX0 yX0_inchesOfAll yX0_inchesOfAll, Cond.code yX0_inchesOfAll cX0_inchesOfAll 5 (some .int)]
def wsX4_followed : List Cond := .code yX4_followed cX4_followed 13 (some .int) :: ((wsX4_followed_r1 ++ (wsX4_followed_r2 ++ wsX4_followed_r3)) ++ wsX40 ++ wsX00)
def wsX4_path_r1 : List Cond := [Cond.fieldLink RX4 38 "ShornHill" "latestFault" "I", Cond.fieldLink RX4 14 "ShornHill" "land" "LShornHill$Land;", Cond.fieldLink RX4 34 "ShornHill" "sheets" "[LShornHill$Sheet;", Cond.instanceMethod yX0_has, Cond.initialized RX0, Cond.selects RX0 yX0_has yX0_has, Cond.code yX0_has cX0_has 2 (some .boolean), Cond.methodLink RX0 34 yX0_cells, Cond.instanceMethod yX0_cells, Cond.selects RX0 yX0_cells yX0_cells, Cond.code yX0_cells cX0_cells 1 (some .int), Cond.fieldLink RX0 9 "ShornHill$Land" "high" "I", Cond.fieldLink RX0 15 "ShornHill$Land" "wide" "I", Cond.methodLink RX4 46 yX4_isSheet, Cond.static yX4_isSheet, Cond.initialized RX4, Cond.code yX4_isSheet cX4_isSheet 1 (some .boolean), Cond.methodLink RX4 50 yX4_isLane, Cond.static yX4_isLane, Cond.code yX4_isLane cX4_isLane 1 (some .boolean), Cond.methodLink RX4 116 yX4_isWeeks, Cond.static yX4_isWeeks, Cond.code yX4_isWeeks cX4_isWeeks 1 (some .boolean), Cond.instanceMethod yX0_isRipe]
def wsX4_path_r2 : List Cond := [Cond.selects RX0 yX0_isRipe yX0_isRipe, Cond.code yX0_isRipe cX0_isRipe 3 (some .boolean), Cond.fieldLink RX0 24 "ShornHill$Land" "kind" "[I", Cond.fieldLink RX0 21 "ShornHill$Land" "breadthNow" "I", Cond.methodLink RX0 66 yX0_inches, Cond.instanceMethod yX0_inches, Cond.selects RX0 yX0_inches yX0_inches, Cond.code yX0_inches cX0_inches 4 (some .int), Cond.fieldLink RX0 28 "ShornHill$Land" "eaten" "[I", Cond.methodLink RX0 53 Lib.Math.min.name, Cond.static Lib.Math.min.name, Cond.initialized "java/lang/Math", Cond.code Lib.Math.min.name Lib.Math.min.code 2 (some .int), Cond.methodLink RX0 59 Lib.Math.max.name, Cond.static Lib.Math.max.name, Cond.code Lib.Math.max.name Lib.Math.max.code 2 (some .int), Cond.methodLink RX0 50 yX0_weekly, Cond.instanceMethod yX0_weekly, Cond.selects RX0 yX0_weekly yX0_weekly, Cond.code yX0_weekly cX0_weekly 2 (some .int), Cond.fieldLink RX0 18 "ShornHill$Land" "paceNow" "I", Cond.instanceMethod yX3_faultAs, Cond.initialized RX3, Cond.selects RX3 yX3_faultAs yX3_faultAs]
def wsX4_path_r3 : List Cond := [Cond.code yX3_faultAs cX3_faultAs 2 (some .int), Cond.fieldLink RX3 9 "ShornHill$Sheet" "hasRow" "Z", Cond.fieldLink RX3 15 "ShornHill$Sheet" "lane" "I", Cond.instanceMethod yX3_spans, Cond.selects RX3 yX3_spans yX3_spans, Cond.code yX3_spans cX3_spans 3 (some .boolean), Cond.fieldLink RX3 19 "ShornHill$Sheet" "length" "I", Cond.methodLink RX4 61 yX4_failed, Cond.instanceMethod yX4_failed, Cond.selects RX4 yX4_failed yX4_failed, Cond.code yX4_failed cX4_failed 2 (some .int), Cond.methodLink RX4 129 yX4_areStrokes, Cond.static yX4_areStrokes, Cond.code yX4_areStrokes cX4_areStrokes 4 (some .boolean), Cond.methodLink RX4 133 yX4_followed, Cond.instanceMethod yX4_followed, Cond.selects RX4 yX4_followed yX4_followed, Cond.code yX4_followed cX4_followed 13 (some .int), Cond.instanceMethod yX0_ripeCells, Cond.selects RX0 yX0_ripeCells yX0_ripeCells, Cond.code yX0_ripeCells cX0_ripeCells 4 (some .int), Cond.methodLink RX0 69 yX0_isRipe, Cond.static yX4_bit, Cond.code yX4_bit cX4_bit 1 (some .int)]
def wsX4_path_r4 : List Cond := [Cond.methodLink RX4 174 yX4_without, Cond.static yX4_without, Cond.code yX4_without cX4_without 2 (some .int), Cond.methodLink RX4 169 yX4_bit, Cond.instanceMethod yX0_beside, Cond.selects RX0 yX0_beside yX0_beside, Cond.code yX0_beside cX0_beside 3 (some .int), Cond.fieldLink RX0 31 "ShornHill$Land" "neighbours" "[I", Cond.methodLink RX4 146 yX4_isIn, Cond.static yX4_isIn, Cond.code yX4_isIn cX4_isIn 2 (some .boolean), Cond.instanceMethod yX0_inchesOfAll, Cond.selects RX0 yX0_inchesOfAll yX0_inchesOfAll, Cond.code yX0_inchesOfAll cX0_inchesOfAll 5 (some .int)]
def wsX4_path : List Cond := .code yX4_path cX4_path 11 (some .int) :: ((wsX4_path_r1 ++ (wsX4_path_r2 ++ (wsX4_path_r3 ++ wsX4_path_r4))) ++ wsX40 ++ wsX30 ++ wsX00)
def wsX4_shear_r1 : List Cond := [Cond.instanceMethod yX2_keep, Cond.initialized RX2, Cond.selects RX2 yX2_keep yX2_keep, Cond.code yX2_keep cX2_keep 2 none, Cond.fieldLink RX2 18 "ShornHill$Shears" "most" "I", Cond.fieldLink RX2 9 "ShornHill$Shears" "tried" "[I", Cond.fieldLink RX2 15 "ShornHill$Shears" "best" "[I", Cond.methodLink RX2 25 arraycopyName, Cond.native arraycopyName, Cond.static arraycopyName, Cond.initialized "java/lang/System", Cond.instanceMethod yX0_beside, Cond.initialized RX0, Cond.selects RX0 yX0_beside yX0_beside, Cond.code yX0_beside cX0_beside 3 (some .int), Cond.fieldLink RX0 31 "ShornHill$Land" "neighbours" "[I", Cond.methodLink RX4 146 yX4_isIn, Cond.static yX4_isIn, Cond.initialized RX4, Cond.code yX4_isIn cX4_isIn 2 (some .boolean), Cond.methodLink RX4 169 yX4_bit, Cond.static yX4_bit, Cond.code yX4_bit cX4_bit 1 (some .int), Cond.methodLink RX4 174 yX4_without]
def wsX4_shear_r2 : List Cond := [Cond.static yX4_without, Cond.code yX4_without cX4_without 2 (some .int), Cond.methodLink RX4 252 yX4_shear, Cond.static yX4_shear]
def wsX4_shear : List Cond := .code yX4_shear cX4_shear 7 none :: ((wsX4_shear_r1 ++ wsX4_shear_r2) ++ wsX20 ++ wsX00)
def wsX4_mostShorn_r1 : List Cond := [Cond.fieldLink RX4 28 "ShornHill" "shears" "LShornHill$Shears;", Cond.fieldLink RX4 14 "ShornHill" "land" "LShornHill$Land;", Cond.methodLink RX4 83 yJ6_bitCount_0f7a4, Cond.static yJ6_bitCount_0f7a4, Cond.initialized RJ6, Cond.code yJ6_bitCount_0f7a4 cJ6_bitCount_0f7a4 1 (some .int), Cond.constant RJ6 265 (1431655765), Cond.constant RJ6 266 (858993459), Cond.constant RJ6 267 (252645135), Cond.methodLink RX4 174 yX4_without, Cond.static yX4_without, Cond.initialized RX4, Cond.code yX4_without cX4_without 2 (some .int), Cond.methodLink RX4 169 yX4_bit, Cond.static yX4_bit, Cond.code yX4_bit cX4_bit 1 (some .int), Cond.methodLink RX4 252 yX4_shear, Cond.static yX4_shear, Cond.code yX4_shear cX4_shear 7 none, Cond.instanceMethod yX2_keep, Cond.initialized RX2, Cond.selects RX2 yX2_keep yX2_keep, Cond.code yX2_keep cX2_keep 2 none, Cond.fieldLink RX2 18 "ShornHill$Shears" "most" "I"]
def wsX4_mostShorn_r2 : List Cond := [Cond.fieldLink RX2 9 "ShornHill$Shears" "tried" "[I", Cond.fieldLink RX2 15 "ShornHill$Shears" "best" "[I", Cond.methodLink RX2 25 arraycopyName, Cond.native arraycopyName, Cond.static arraycopyName, Cond.initialized "java/lang/System", Cond.instanceMethod yX0_beside, Cond.initialized RX0, Cond.selects RX0 yX0_beside yX0_beside, Cond.code yX0_beside cX0_beside 3 (some .int), Cond.fieldLink RX0 31 "ShornHill$Land" "neighbours" "[I", Cond.methodLink RX4 146 yX4_isIn, Cond.static yX4_isIn, Cond.code yX4_isIn cX4_isIn 2 (some .boolean)]
def wsX4_mostShorn : List Cond := .code yX4_mostShorn cX4_mostShorn 3 (some .int) :: ((wsX4_mostShorn_r1 ++ wsX4_mostShorn_r2) ++ wsX40 ++ wsX20 ++ wsX00)
def wsX4_fleece_r1 : List Cond := [Cond.fieldLink RX4 14 "ShornHill" "land" "LShornHill$Land;", Cond.fieldLink RX4 28 "ShornHill" "shears" "LShornHill$Shears;", Cond.instanceMethod yX0_has, Cond.initialized RX0, Cond.selects RX0 yX0_has yX0_has, Cond.code yX0_has cX0_has 2 (some .boolean), Cond.methodLink RX0 34 yX0_cells, Cond.instanceMethod yX0_cells, Cond.selects RX0 yX0_cells yX0_cells, Cond.code yX0_cells cX0_cells 1 (some .int), Cond.fieldLink RX0 9 "ShornHill$Land" "high" "I", Cond.fieldLink RX0 15 "ShornHill$Land" "wide" "I", Cond.methodLink RX4 116 yX4_isWeeks, Cond.static yX4_isWeeks, Cond.initialized RX4, Cond.code yX4_isWeeks cX4_isWeeks 1 (some .boolean), Cond.instanceMethod yX0_isRipe, Cond.selects RX0 yX0_isRipe yX0_isRipe, Cond.code yX0_isRipe cX0_isRipe 3 (some .boolean), Cond.fieldLink RX0 24 "ShornHill$Land" "kind" "[I", Cond.fieldLink RX0 21 "ShornHill$Land" "breadthNow" "I", Cond.methodLink RX0 66 yX0_inches, Cond.instanceMethod yX0_inches, Cond.selects RX0 yX0_inches yX0_inches]
def wsX4_fleece_r2 : List Cond := [Cond.code yX0_inches cX0_inches 4 (some .int), Cond.fieldLink RX0 28 "ShornHill$Land" "eaten" "[I", Cond.methodLink RX0 53 Lib.Math.min.name, Cond.static Lib.Math.min.name, Cond.initialized "java/lang/Math", Cond.code Lib.Math.min.name Lib.Math.min.code 2 (some .int), Cond.methodLink RX0 59 Lib.Math.max.name, Cond.static Lib.Math.max.name, Cond.code Lib.Math.max.name Lib.Math.max.code 2 (some .int), Cond.methodLink RX0 50 yX0_weekly, Cond.instanceMethod yX0_weekly, Cond.selects RX0 yX0_weekly yX0_weekly, Cond.code yX0_weekly cX0_weekly 2 (some .int), Cond.fieldLink RX0 18 "ShornHill$Land" "paceNow" "I", Cond.instanceMethod yX0_ripeCells, Cond.selects RX0 yX0_ripeCells yX0_ripeCells, Cond.code yX0_ripeCells cX0_ripeCells 4 (some .int), Cond.methodLink RX0 69 yX0_isRipe, Cond.static yX4_bit, Cond.code yX4_bit cX4_bit 1 (some .int), Cond.methodLink RX4 137 yX4_mostShorn, Cond.instanceMethod yX4_mostShorn, Cond.selects RX4 yX4_mostShorn yX4_mostShorn, Cond.code yX4_mostShorn cX4_mostShorn 3 (some .int)]
def wsX4_fleece_r3 : List Cond := [Cond.methodLink RX4 83 yJ6_bitCount_0f7a4, Cond.static yJ6_bitCount_0f7a4, Cond.initialized RJ6, Cond.code yJ6_bitCount_0f7a4 cJ6_bitCount_0f7a4 1 (some .int), Cond.constant RJ6 265 (1431655765), Cond.constant RJ6 266 (858993459), Cond.constant RJ6 267 (252645135), Cond.methodLink RX4 174 yX4_without, Cond.static yX4_without, Cond.code yX4_without cX4_without 2 (some .int), Cond.methodLink RX4 169 yX4_bit, Cond.methodLink RX4 252 yX4_shear, Cond.static yX4_shear, Cond.code yX4_shear cX4_shear 7 none, Cond.instanceMethod yX2_keep, Cond.initialized RX2, Cond.selects RX2 yX2_keep yX2_keep, Cond.code yX2_keep cX2_keep 2 none, Cond.fieldLink RX2 18 "ShornHill$Shears" "most" "I", Cond.fieldLink RX2 9 "ShornHill$Shears" "tried" "[I", Cond.fieldLink RX2 15 "ShornHill$Shears" "best" "[I", Cond.methodLink RX2 25 arraycopyName, Cond.native arraycopyName, Cond.static arraycopyName]
def wsX4_fleece_r4 : List Cond := [Cond.initialized "java/lang/System", Cond.instanceMethod yX0_beside, Cond.selects RX0 yX0_beside yX0_beside, Cond.code yX0_beside cX0_beside 3 (some .int), Cond.fieldLink RX0 31 "ShornHill$Land" "neighbours" "[I", Cond.methodLink RX4 146 yX4_isIn, Cond.static yX4_isIn, Cond.code yX4_isIn cX4_isIn 2 (some .boolean)]
def wsX4_fleece : List Cond := .code yX4_fleece cX4_fleece 5 (some .int) :: ((wsX4_fleece_r1 ++ (wsX4_fleece_r2 ++ (wsX4_fleece_r3 ++ wsX4_fleece_r4))) ++ wsX40 ++ wsX20 ++ wsX00)
def wsX4_start_r1 : List Cond := [Cond.fieldLink RX4 14 "ShornHill" "land" "LShornHill$Land;", Cond.instanceMethod yX0_stands, Cond.initialized RX0, Cond.selects RX0 yX0_stands yX0_stands, Cond.code yX0_stands cX0_stands 1 (some .boolean), Cond.fieldLink RX0 9 "ShornHill$Land" "high" "I", Cond.methodLink RX4 116 yX4_isWeeks, Cond.static yX4_isWeeks, Cond.initialized RX4, Cond.code yX4_isWeeks cX4_isWeeks 1 (some .boolean), Cond.instanceMethod yX0_ripeCells, Cond.selects RX0 yX0_ripeCells yX0_ripeCells, Cond.code yX0_ripeCells cX0_ripeCells 4 (some .int), Cond.methodLink RX0 34 yX0_cells, Cond.instanceMethod yX0_cells, Cond.selects RX0 yX0_cells yX0_cells, Cond.code yX0_cells cX0_cells 1 (some .int), Cond.fieldLink RX0 15 "ShornHill$Land" "wide" "I", Cond.methodLink RX0 69 yX0_isRipe, Cond.instanceMethod yX0_isRipe, Cond.selects RX0 yX0_isRipe yX0_isRipe, Cond.code yX0_isRipe cX0_isRipe 3 (some .boolean), Cond.fieldLink RX0 24 "ShornHill$Land" "kind" "[I", Cond.fieldLink RX0 21 "ShornHill$Land" "breadthNow" "I"]
def wsX4_start_r2 : List Cond := [Cond.methodLink RX0 66 yX0_inches, Cond.instanceMethod yX0_inches, Cond.selects RX0 yX0_inches yX0_inches, Cond.code yX0_inches cX0_inches 4 (some .int), Cond.fieldLink RX0 28 "ShornHill$Land" "eaten" "[I", Cond.methodLink RX0 53 Lib.Math.min.name, Cond.static Lib.Math.min.name, Cond.initialized "java/lang/Math", Cond.code Lib.Math.min.name Lib.Math.min.code 2 (some .int), Cond.methodLink RX0 59 Lib.Math.max.name, Cond.static Lib.Math.max.name, Cond.code Lib.Math.max.name Lib.Math.max.code 2 (some .int), Cond.methodLink RX0 50 yX0_weekly, Cond.instanceMethod yX0_weekly, Cond.selects RX0 yX0_weekly yX0_weekly, Cond.code yX0_weekly cX0_weekly 2 (some .int), Cond.fieldLink RX0 18 "ShornHill$Land" "paceNow" "I", Cond.static yX4_bit, Cond.code yX4_bit cX4_bit 1 (some .int), Cond.methodLink RX4 146 yX4_isIn, Cond.static yX4_isIn, Cond.code yX4_isIn cX4_isIn 2 (some .boolean), Cond.methodLink RX4 169 yX4_bit, Cond.methodLink RX4 137 yX4_mostShorn]
def wsX4_start_r3 : List Cond := [Cond.instanceMethod yX4_mostShorn, Cond.selects RX4 yX4_mostShorn yX4_mostShorn, Cond.code yX4_mostShorn cX4_mostShorn 3 (some .int), Cond.fieldLink RX4 28 "ShornHill" "shears" "LShornHill$Shears;", Cond.methodLink RX4 83 yJ6_bitCount_0f7a4, Cond.static yJ6_bitCount_0f7a4, Cond.initialized RJ6, Cond.code yJ6_bitCount_0f7a4 cJ6_bitCount_0f7a4 1 (some .int), Cond.constant RJ6 265 (1431655765), Cond.constant RJ6 266 (858993459), Cond.constant RJ6 267 (252645135), Cond.methodLink RX4 174 yX4_without, Cond.static yX4_without, Cond.code yX4_without cX4_without 2 (some .int), Cond.methodLink RX4 252 yX4_shear, Cond.static yX4_shear, Cond.code yX4_shear cX4_shear 7 none, Cond.instanceMethod yX2_keep, Cond.initialized RX2, Cond.selects RX2 yX2_keep yX2_keep, Cond.code yX2_keep cX2_keep 2 none, Cond.fieldLink RX2 18 "ShornHill$Shears" "most" "I", Cond.fieldLink RX2 9 "ShornHill$Shears" "tried" "[I", Cond.fieldLink RX2 15 "ShornHill$Shears" "best" "[I"]
def wsX4_start_r4 : List Cond := [Cond.methodLink RX2 25 arraycopyName, Cond.native arraycopyName, Cond.static arraycopyName, Cond.initialized "java/lang/System", Cond.instanceMethod yX0_beside, Cond.selects RX0 yX0_beside yX0_beside, Cond.code yX0_beside cX0_beside 3 (some .int), Cond.fieldLink RX0 31 "ShornHill$Land" "neighbours" "[I"]
def wsX4_start : List Cond := .code yX4_start cX4_start 7 (some .int) :: ((wsX4_start_r1 ++ (wsX4_start_r2 ++ (wsX4_start_r3 ++ wsX4_start_r4))) ++ wsX40 ++ wsX00 ++ wsX20)
def wsX4_shearsAllSoft_r1 : List Cond := [Cond.fieldLink RX4 14 "ShornHill" "land" "LShornHill$Land;", Cond.instanceMethod yX0_softCells, Cond.initialized RX0, Cond.selects RX0 yX0_softCells yX0_softCells, Cond.code yX0_softCells cX0_softCells 3 (some .int), Cond.fieldLink RX0 24 "ShornHill$Land" "kind" "[I", Cond.methodLink RX0 34 yX0_cells, Cond.instanceMethod yX0_cells, Cond.selects RX0 yX0_cells yX0_cells, Cond.code yX0_cells cX0_cells 1 (some .int), Cond.fieldLink RX0 9 "ShornHill$Land" "high" "I", Cond.fieldLink RX0 15 "ShornHill$Land" "wide" "I", Cond.static yX4_bit, Cond.initialized RX4, Cond.code yX4_bit cX4_bit 1 (some .int), Cond.methodLink RX4 137 yX4_mostShorn, Cond.instanceMethod yX4_mostShorn, Cond.selects RX4 yX4_mostShorn yX4_mostShorn, Cond.code yX4_mostShorn cX4_mostShorn 3 (some .int), Cond.fieldLink RX4 28 "ShornHill" "shears" "LShornHill$Shears;", Cond.methodLink RX4 83 yJ6_bitCount_0f7a4, Cond.static yJ6_bitCount_0f7a4, Cond.initialized RJ6, Cond.code yJ6_bitCount_0f7a4 cJ6_bitCount_0f7a4 1 (some .int)]
def wsX4_shearsAllSoft_r2 : List Cond := [Cond.constant RJ6 265 (1431655765), Cond.constant RJ6 266 (858993459), Cond.constant RJ6 267 (252645135), Cond.methodLink RX4 174 yX4_without, Cond.static yX4_without, Cond.code yX4_without cX4_without 2 (some .int), Cond.methodLink RX4 169 yX4_bit, Cond.methodLink RX4 252 yX4_shear, Cond.static yX4_shear, Cond.code yX4_shear cX4_shear 7 none, Cond.instanceMethod yX2_keep, Cond.initialized RX2, Cond.selects RX2 yX2_keep yX2_keep, Cond.code yX2_keep cX2_keep 2 none, Cond.fieldLink RX2 18 "ShornHill$Shears" "most" "I", Cond.fieldLink RX2 9 "ShornHill$Shears" "tried" "[I", Cond.fieldLink RX2 15 "ShornHill$Shears" "best" "[I", Cond.methodLink RX2 25 arraycopyName, Cond.native arraycopyName, Cond.static arraycopyName, Cond.initialized "java/lang/System", Cond.instanceMethod yX0_beside, Cond.selects RX0 yX0_beside yX0_beside, Cond.code yX0_beside cX0_beside 3 (some .int)]
def wsX4_shearsAllSoft_r3 : List Cond := [Cond.fieldLink RX0 31 "ShornHill$Land" "neighbours" "[I", Cond.methodLink RX4 146 yX4_isIn, Cond.static yX4_isIn, Cond.code yX4_isIn cX4_isIn 2 (some .boolean)]
def wsX4_shearsAllSoft : List Cond := .code yX4_shearsAllSoft cX4_shearsAllSoft 3 (some .boolean) :: ((wsX4_shearsAllSoft_r1 ++ (wsX4_shearsAllSoft_r2 ++ wsX4_shearsAllSoft_r3)) ++ wsX40 ++ wsX00 ++ wsX20)
def wsX4_whole_r1 : List Cond := [Cond.fieldLink RX4 14 "ShornHill" "land" "LShornHill$Land;", Cond.instanceMethod yX0_isSoft, Cond.initialized RX0, Cond.selects RX0 yX0_isSoft yX0_isSoft, Cond.code yX0_isSoft cX0_isSoft 2 (some .boolean), Cond.fieldLink RX0 24 "ShornHill$Land" "kind" "[I", Cond.methodLink RX0 38 yX0_has, Cond.instanceMethod yX0_has, Cond.selects RX0 yX0_has yX0_has, Cond.code yX0_has cX0_has 2 (some .boolean), Cond.methodLink RX0 34 yX0_cells, Cond.instanceMethod yX0_cells, Cond.selects RX0 yX0_cells yX0_cells, Cond.code yX0_cells cX0_cells 1 (some .int), Cond.fieldLink RX0 9 "ShornHill$Land" "high" "I", Cond.fieldLink RX0 15 "ShornHill$Land" "wide" "I", Cond.instanceMethod yX0_isAllRipe, Cond.selects RX0 yX0_isAllRipe yX0_isAllRipe, Cond.code yX0_isAllRipe cX0_isAllRipe 2 (some .boolean), Cond.methodLink RX0 75 yX0_ripeCells, Cond.instanceMethod yX0_ripeCells, Cond.selects RX0 yX0_ripeCells yX0_ripeCells, Cond.code yX0_ripeCells cX0_ripeCells 4 (some .int), Cond.methodLink RX0 69 yX0_isRipe]
def wsX4_whole_r2 : List Cond := [Cond.instanceMethod yX0_isRipe, Cond.selects RX0 yX0_isRipe yX0_isRipe, Cond.code yX0_isRipe cX0_isRipe 3 (some .boolean), Cond.fieldLink RX0 21 "ShornHill$Land" "breadthNow" "I", Cond.methodLink RX0 66 yX0_inches, Cond.instanceMethod yX0_inches, Cond.selects RX0 yX0_inches yX0_inches, Cond.code yX0_inches cX0_inches 4 (some .int), Cond.fieldLink RX0 28 "ShornHill$Land" "eaten" "[I", Cond.methodLink RX0 53 Lib.Math.min.name, Cond.static Lib.Math.min.name, Cond.initialized "java/lang/Math", Cond.code Lib.Math.min.name Lib.Math.min.code 2 (some .int), Cond.methodLink RX0 59 Lib.Math.max.name, Cond.static Lib.Math.max.name, Cond.code Lib.Math.max.name Lib.Math.max.code 2 (some .int), Cond.methodLink RX0 50 yX0_weekly, Cond.instanceMethod yX0_weekly, Cond.selects RX0 yX0_weekly yX0_weekly, Cond.code yX0_weekly cX0_weekly 2 (some .int), Cond.fieldLink RX0 18 "ShornHill$Land" "paceNow" "I", Cond.static yX4_bit, Cond.initialized RX4, Cond.code yX4_bit cX4_bit 1 (some .int)]
def wsX4_whole_r3 : List Cond := [Cond.methodLink RX0 78 yX0_softCells, Cond.instanceMethod yX0_softCells, Cond.selects RX0 yX0_softCells yX0_softCells, Cond.code yX0_softCells cX0_softCells 3 (some .int), Cond.methodLink RX4 152 yX4_shearsAllSoft, Cond.instanceMethod yX4_shearsAllSoft, Cond.selects RX4 yX4_shearsAllSoft yX4_shearsAllSoft, Cond.code yX4_shearsAllSoft cX4_shearsAllSoft 3 (some .boolean), Cond.methodLink RX4 137 yX4_mostShorn, Cond.instanceMethod yX4_mostShorn, Cond.selects RX4 yX4_mostShorn yX4_mostShorn, Cond.code yX4_mostShorn cX4_mostShorn 3 (some .int), Cond.fieldLink RX4 28 "ShornHill" "shears" "LShornHill$Shears;", Cond.methodLink RX4 83 yJ6_bitCount_0f7a4, Cond.static yJ6_bitCount_0f7a4, Cond.initialized RJ6, Cond.code yJ6_bitCount_0f7a4 cJ6_bitCount_0f7a4 1 (some .int), Cond.constant RJ6 265 (1431655765), Cond.constant RJ6 266 (858993459), Cond.constant RJ6 267 (252645135), Cond.methodLink RX4 174 yX4_without, Cond.static yX4_without, Cond.code yX4_without cX4_without 2 (some .int), Cond.methodLink RX4 169 yX4_bit]
def wsX4_whole_r4 : List Cond := [Cond.methodLink RX4 252 yX4_shear, Cond.static yX4_shear, Cond.code yX4_shear cX4_shear 7 none, Cond.instanceMethod yX2_keep, Cond.initialized RX2, Cond.selects RX2 yX2_keep yX2_keep, Cond.code yX2_keep cX2_keep 2 none, Cond.fieldLink RX2 18 "ShornHill$Shears" "most" "I", Cond.fieldLink RX2 9 "ShornHill$Shears" "tried" "[I", Cond.fieldLink RX2 15 "ShornHill$Shears" "best" "[I", Cond.methodLink RX2 25 arraycopyName, Cond.native arraycopyName, Cond.static arraycopyName, Cond.initialized "java/lang/System", Cond.instanceMethod yX0_beside, Cond.selects RX0 yX0_beside yX0_beside, Cond.code yX0_beside cX0_beside 3 (some .int), Cond.fieldLink RX0 31 "ShornHill$Land" "neighbours" "[I", Cond.methodLink RX4 146 yX4_isIn, Cond.static yX4_isIn, Cond.code yX4_isIn cX4_isIn 2 (some .boolean)]
def wsX4_whole : List Cond := .code yX4_whole cX4_whole 3 (some .int) :: ((wsX4_whole_r1 ++ (wsX4_whole_r2 ++ (wsX4_whole_r3 ++ wsX4_whole_r4))) ++ wsX40 ++ wsX00 ++ wsX20)
def wsX4_canBeShornWhole_r1 : List Cond := [Cond.fieldLink RX4 14 "ShornHill" "land" "LShornHill$Land;", Cond.instanceMethod yX0_isAllRipe, Cond.initialized RX0, Cond.selects RX0 yX0_isAllRipe yX0_isAllRipe, Cond.code yX0_isAllRipe cX0_isAllRipe 2 (some .boolean), Cond.methodLink RX0 75 yX0_ripeCells, Cond.instanceMethod yX0_ripeCells, Cond.selects RX0 yX0_ripeCells yX0_ripeCells, Cond.code yX0_ripeCells cX0_ripeCells 4 (some .int), Cond.methodLink RX0 34 yX0_cells, Cond.instanceMethod yX0_cells, Cond.selects RX0 yX0_cells yX0_cells, Cond.code yX0_cells cX0_cells 1 (some .int), Cond.fieldLink RX0 9 "ShornHill$Land" "high" "I", Cond.fieldLink RX0 15 "ShornHill$Land" "wide" "I", Cond.methodLink RX0 69 yX0_isRipe, Cond.instanceMethod yX0_isRipe, Cond.selects RX0 yX0_isRipe yX0_isRipe, Cond.code yX0_isRipe cX0_isRipe 3 (some .boolean), Cond.fieldLink RX0 24 "ShornHill$Land" "kind" "[I", Cond.fieldLink RX0 21 "ShornHill$Land" "breadthNow" "I", Cond.methodLink RX0 66 yX0_inches, Cond.instanceMethod yX0_inches, Cond.selects RX0 yX0_inches yX0_inches]
def wsX4_canBeShornWhole_r2 : List Cond := [Cond.code yX0_inches cX0_inches 4 (some .int), Cond.fieldLink RX0 28 "ShornHill$Land" "eaten" "[I", Cond.methodLink RX0 53 Lib.Math.min.name, Cond.static Lib.Math.min.name, Cond.initialized "java/lang/Math", Cond.code Lib.Math.min.name Lib.Math.min.code 2 (some .int), Cond.methodLink RX0 59 Lib.Math.max.name, Cond.static Lib.Math.max.name, Cond.code Lib.Math.max.name Lib.Math.max.code 2 (some .int), Cond.methodLink RX0 50 yX0_weekly, Cond.instanceMethod yX0_weekly, Cond.selects RX0 yX0_weekly yX0_weekly, Cond.code yX0_weekly cX0_weekly 2 (some .int), Cond.fieldLink RX0 18 "ShornHill$Land" "paceNow" "I", Cond.static yX4_bit, Cond.initialized RX4, Cond.code yX4_bit cX4_bit 1 (some .int), Cond.methodLink RX0 78 yX0_softCells, Cond.instanceMethod yX0_softCells, Cond.selects RX0 yX0_softCells yX0_softCells, Cond.code yX0_softCells cX0_softCells 3 (some .int), Cond.instanceMethod yX0_isSoft, Cond.selects RX0 yX0_isSoft yX0_isSoft, Cond.code yX0_isSoft cX0_isSoft 2 (some .boolean)]
def wsX4_canBeShornWhole_r3 : List Cond := [Cond.methodLink RX0 38 yX0_has, Cond.instanceMethod yX0_has, Cond.selects RX0 yX0_has yX0_has, Cond.code yX0_has cX0_has 2 (some .boolean), Cond.methodLink RX4 152 yX4_shearsAllSoft, Cond.instanceMethod yX4_shearsAllSoft, Cond.selects RX4 yX4_shearsAllSoft yX4_shearsAllSoft, Cond.code yX4_shearsAllSoft cX4_shearsAllSoft 3 (some .boolean), Cond.methodLink RX4 137 yX4_mostShorn, Cond.instanceMethod yX4_mostShorn, Cond.selects RX4 yX4_mostShorn yX4_mostShorn, Cond.code yX4_mostShorn cX4_mostShorn 3 (some .int), Cond.fieldLink RX4 28 "ShornHill" "shears" "LShornHill$Shears;", Cond.methodLink RX4 83 yJ6_bitCount_0f7a4, Cond.static yJ6_bitCount_0f7a4, Cond.initialized RJ6, Cond.code yJ6_bitCount_0f7a4 cJ6_bitCount_0f7a4 1 (some .int), Cond.constant RJ6 265 (1431655765), Cond.constant RJ6 266 (858993459), Cond.constant RJ6 267 (252645135), Cond.methodLink RX4 174 yX4_without, Cond.static yX4_without, Cond.code yX4_without cX4_without 2 (some .int), Cond.methodLink RX4 169 yX4_bit]
def wsX4_canBeShornWhole_r4 : List Cond := [Cond.methodLink RX4 252 yX4_shear, Cond.static yX4_shear, Cond.code yX4_shear cX4_shear 7 none, Cond.instanceMethod yX2_keep, Cond.initialized RX2, Cond.selects RX2 yX2_keep yX2_keep, Cond.code yX2_keep cX2_keep 2 none, Cond.fieldLink RX2 18 "ShornHill$Shears" "most" "I", Cond.fieldLink RX2 9 "ShornHill$Shears" "tried" "[I", Cond.fieldLink RX2 15 "ShornHill$Shears" "best" "[I", Cond.methodLink RX2 25 arraycopyName, Cond.native arraycopyName, Cond.static arraycopyName, Cond.initialized "java/lang/System", Cond.instanceMethod yX0_beside, Cond.selects RX0 yX0_beside yX0_beside, Cond.code yX0_beside cX0_beside 3 (some .int), Cond.fieldLink RX0 31 "ShornHill$Land" "neighbours" "[I", Cond.methodLink RX4 146 yX4_isIn, Cond.static yX4_isIn, Cond.code yX4_isIn cX4_isIn 2 (some .boolean)]
def wsX4_canBeShornWhole : List Cond := .code yX4_canBeShornWhole cX4_canBeShornWhole 3 (some .boolean) :: ((wsX4_canBeShornWhole_r1 ++ (wsX4_canBeShornWhole_r2 ++ (wsX4_canBeShornWhole_r3 ++ wsX4_canBeShornWhole_r4))) ++ wsX40 ++ wsX00 ++ wsX20)
def wsX4_couldBeShornWhole_r1 : List Cond := [Cond.fieldLink RX4 14 "ShornHill" "land" "LShornHill$Land;", Cond.methodLink RX4 155 yX4_canBeShornWhole, Cond.instanceMethod yX4_canBeShornWhole, Cond.selects RX4 yX4_canBeShornWhole yX4_canBeShornWhole, Cond.initialized RX4, Cond.code yX4_canBeShornWhole cX4_canBeShornWhole 3 (some .boolean), Cond.instanceMethod yX0_isAllRipe, Cond.initialized RX0, Cond.selects RX0 yX0_isAllRipe yX0_isAllRipe, Cond.code yX0_isAllRipe cX0_isAllRipe 2 (some .boolean), Cond.methodLink RX0 75 yX0_ripeCells, Cond.instanceMethod yX0_ripeCells, Cond.selects RX0 yX0_ripeCells yX0_ripeCells, Cond.code yX0_ripeCells cX0_ripeCells 4 (some .int), Cond.methodLink RX0 34 yX0_cells, Cond.instanceMethod yX0_cells, Cond.selects RX0 yX0_cells yX0_cells, Cond.code yX0_cells cX0_cells 1 (some .int), Cond.fieldLink RX0 9 "ShornHill$Land" "high" "I", Cond.fieldLink RX0 15 "ShornHill$Land" "wide" "I", Cond.methodLink RX0 69 yX0_isRipe, Cond.instanceMethod yX0_isRipe, Cond.selects RX0 yX0_isRipe yX0_isRipe, Cond.code yX0_isRipe cX0_isRipe 3 (some .boolean)]
def wsX4_couldBeShornWhole_r2 : List Cond := [Cond.fieldLink RX0 24 "ShornHill$Land" "kind" "[I", Cond.fieldLink RX0 21 "ShornHill$Land" "breadthNow" "I", Cond.methodLink RX0 66 yX0_inches, Cond.instanceMethod yX0_inches, Cond.selects RX0 yX0_inches yX0_inches, Cond.code yX0_inches cX0_inches 4 (some .int), Cond.fieldLink RX0 28 "ShornHill$Land" "eaten" "[I", Cond.methodLink RX0 53 Lib.Math.min.name, Cond.static Lib.Math.min.name, Cond.initialized "java/lang/Math", Cond.code Lib.Math.min.name Lib.Math.min.code 2 (some .int), Cond.methodLink RX0 59 Lib.Math.max.name, Cond.static Lib.Math.max.name, Cond.code Lib.Math.max.name Lib.Math.max.code 2 (some .int), Cond.methodLink RX0 50 yX0_weekly, Cond.instanceMethod yX0_weekly, Cond.selects RX0 yX0_weekly yX0_weekly, Cond.code yX0_weekly cX0_weekly 2 (some .int), Cond.fieldLink RX0 18 "ShornHill$Land" "paceNow" "I", Cond.static yX4_bit, Cond.code yX4_bit cX4_bit 1 (some .int), Cond.methodLink RX0 78 yX0_softCells, Cond.instanceMethod yX0_softCells, Cond.selects RX0 yX0_softCells yX0_softCells]
def wsX4_couldBeShornWhole_r3 : List Cond := [Cond.code yX0_softCells cX0_softCells 3 (some .int), Cond.instanceMethod yX0_isSoft, Cond.selects RX0 yX0_isSoft yX0_isSoft, Cond.code yX0_isSoft cX0_isSoft 2 (some .boolean), Cond.methodLink RX0 38 yX0_has, Cond.instanceMethod yX0_has, Cond.selects RX0 yX0_has yX0_has, Cond.code yX0_has cX0_has 2 (some .boolean), Cond.methodLink RX4 152 yX4_shearsAllSoft, Cond.instanceMethod yX4_shearsAllSoft, Cond.selects RX4 yX4_shearsAllSoft yX4_shearsAllSoft, Cond.code yX4_shearsAllSoft cX4_shearsAllSoft 3 (some .boolean), Cond.methodLink RX4 137 yX4_mostShorn, Cond.instanceMethod yX4_mostShorn, Cond.selects RX4 yX4_mostShorn yX4_mostShorn, Cond.code yX4_mostShorn cX4_mostShorn 3 (some .int), Cond.fieldLink RX4 28 "ShornHill" "shears" "LShornHill$Shears;", Cond.methodLink RX4 83 yJ6_bitCount_0f7a4, Cond.static yJ6_bitCount_0f7a4, Cond.initialized RJ6, Cond.code yJ6_bitCount_0f7a4 cJ6_bitCount_0f7a4 1 (some .int), Cond.constant RJ6 265 (1431655765), Cond.constant RJ6 266 (858993459), Cond.constant RJ6 267 (252645135)]
def wsX4_couldBeShornWhole_r4 : List Cond := [Cond.methodLink RX4 174 yX4_without, Cond.static yX4_without, Cond.code yX4_without cX4_without 2 (some .int), Cond.methodLink RX4 169 yX4_bit, Cond.methodLink RX4 252 yX4_shear, Cond.static yX4_shear, Cond.code yX4_shear cX4_shear 7 none, Cond.instanceMethod yX2_keep, Cond.initialized RX2, Cond.selects RX2 yX2_keep yX2_keep, Cond.code yX2_keep cX2_keep 2 none, Cond.fieldLink RX2 18 "ShornHill$Shears" "most" "I", Cond.fieldLink RX2 9 "ShornHill$Shears" "tried" "[I", Cond.fieldLink RX2 15 "ShornHill$Shears" "best" "[I", Cond.methodLink RX2 25 arraycopyName, Cond.native arraycopyName, Cond.static arraycopyName, Cond.initialized "java/lang/System", Cond.instanceMethod yX0_beside, Cond.selects RX0 yX0_beside yX0_beside, Cond.code yX0_beside cX0_beside 3 (some .int), Cond.fieldLink RX0 31 "ShornHill$Land" "neighbours" "[I", Cond.methodLink RX4 146 yX4_isIn, Cond.static yX4_isIn]
def wsX4_couldBeShornWhole_r5 : List Cond := [Cond.code yX4_isIn cX4_isIn 2 (some .boolean)]
def wsX4_couldBeShornWhole : List Cond := .code yX4_couldBeShornWhole cX4_couldBeShornWhole 4 (some .boolean) :: ((wsX4_couldBeShornWhole_r1 ++ (wsX4_couldBeShornWhole_r2 ++ (wsX4_couldBeShornWhole_r3 ++ (wsX4_couldBeShornWhole_r4 ++ wsX4_couldBeShornWhole_r5)))) ++ wsX40 ++ wsX00 ++ wsX20)
def wsX4_stops_r1 : List Cond := [Cond.fieldLink RX4 14 "ShornHill" "land" "LShornHill$Land;", Cond.instanceMethod yX0_stands, Cond.initialized RX0, Cond.selects RX0 yX0_stands yX0_stands, Cond.code yX0_stands cX0_stands 1 (some .boolean), Cond.fieldLink RX0 9 "ShornHill$Land" "high" "I", Cond.methodLink RX4 116 yX4_isWeeks, Cond.static yX4_isWeeks, Cond.initialized RX4, Cond.code yX4_isWeeks cX4_isWeeks 1 (some .boolean), Cond.methodLink RX4 155 yX4_canBeShornWhole, Cond.instanceMethod yX4_canBeShornWhole, Cond.selects RX4 yX4_canBeShornWhole yX4_canBeShornWhole, Cond.code yX4_canBeShornWhole cX4_canBeShornWhole 3 (some .boolean), Cond.instanceMethod yX0_isAllRipe, Cond.selects RX0 yX0_isAllRipe yX0_isAllRipe, Cond.code yX0_isAllRipe cX0_isAllRipe 2 (some .boolean), Cond.methodLink RX0 75 yX0_ripeCells, Cond.instanceMethod yX0_ripeCells, Cond.selects RX0 yX0_ripeCells yX0_ripeCells, Cond.code yX0_ripeCells cX0_ripeCells 4 (some .int), Cond.methodLink RX0 34 yX0_cells, Cond.instanceMethod yX0_cells, Cond.selects RX0 yX0_cells yX0_cells]
def wsX4_stops_r2 : List Cond := [Cond.code yX0_cells cX0_cells 1 (some .int), Cond.fieldLink RX0 15 "ShornHill$Land" "wide" "I", Cond.methodLink RX0 69 yX0_isRipe, Cond.instanceMethod yX0_isRipe, Cond.selects RX0 yX0_isRipe yX0_isRipe, Cond.code yX0_isRipe cX0_isRipe 3 (some .boolean), Cond.fieldLink RX0 24 "ShornHill$Land" "kind" "[I", Cond.fieldLink RX0 21 "ShornHill$Land" "breadthNow" "I", Cond.methodLink RX0 66 yX0_inches, Cond.instanceMethod yX0_inches, Cond.selects RX0 yX0_inches yX0_inches, Cond.code yX0_inches cX0_inches 4 (some .int), Cond.fieldLink RX0 28 "ShornHill$Land" "eaten" "[I", Cond.methodLink RX0 53 Lib.Math.min.name, Cond.static Lib.Math.min.name, Cond.initialized "java/lang/Math", Cond.code Lib.Math.min.name Lib.Math.min.code 2 (some .int), Cond.methodLink RX0 59 Lib.Math.max.name, Cond.static Lib.Math.max.name, Cond.code Lib.Math.max.name Lib.Math.max.code 2 (some .int), Cond.methodLink RX0 50 yX0_weekly, Cond.instanceMethod yX0_weekly, Cond.selects RX0 yX0_weekly yX0_weekly, Cond.code yX0_weekly cX0_weekly 2 (some .int)]
def wsX4_stops_r3 : List Cond := [Cond.fieldLink RX0 18 "ShornHill$Land" "paceNow" "I", Cond.static yX4_bit, Cond.code yX4_bit cX4_bit 1 (some .int), Cond.methodLink RX0 78 yX0_softCells, Cond.instanceMethod yX0_softCells, Cond.selects RX0 yX0_softCells yX0_softCells, Cond.code yX0_softCells cX0_softCells 3 (some .int), Cond.instanceMethod yX0_isSoft, Cond.selects RX0 yX0_isSoft yX0_isSoft, Cond.code yX0_isSoft cX0_isSoft 2 (some .boolean), Cond.methodLink RX0 38 yX0_has, Cond.instanceMethod yX0_has, Cond.selects RX0 yX0_has yX0_has, Cond.code yX0_has cX0_has 2 (some .boolean), Cond.methodLink RX4 152 yX4_shearsAllSoft, Cond.instanceMethod yX4_shearsAllSoft, Cond.selects RX4 yX4_shearsAllSoft yX4_shearsAllSoft, Cond.code yX4_shearsAllSoft cX4_shearsAllSoft 3 (some .boolean), Cond.methodLink RX4 137 yX4_mostShorn, Cond.instanceMethod yX4_mostShorn, Cond.selects RX4 yX4_mostShorn yX4_mostShorn, Cond.code yX4_mostShorn cX4_mostShorn 3 (some .int), Cond.fieldLink RX4 28 "ShornHill" "shears" "LShornHill$Shears;", Cond.methodLink RX4 83 yJ6_bitCount_0f7a4]
def wsX4_stops_r4 : List Cond := [Cond.static yJ6_bitCount_0f7a4, Cond.initialized RJ6, Cond.code yJ6_bitCount_0f7a4 cJ6_bitCount_0f7a4 1 (some .int), Cond.constant RJ6 265 (1431655765), Cond.constant RJ6 266 (858993459), Cond.constant RJ6 267 (252645135), Cond.methodLink RX4 174 yX4_without, Cond.static yX4_without, Cond.code yX4_without cX4_without 2 (some .int), Cond.methodLink RX4 169 yX4_bit, Cond.methodLink RX4 252 yX4_shear, Cond.static yX4_shear, Cond.code yX4_shear cX4_shear 7 none, Cond.instanceMethod yX2_keep, Cond.initialized RX2, Cond.selects RX2 yX2_keep yX2_keep, Cond.code yX2_keep cX2_keep 2 none, Cond.fieldLink RX2 18 "ShornHill$Shears" "most" "I", Cond.fieldLink RX2 9 "ShornHill$Shears" "tried" "[I", Cond.fieldLink RX2 15 "ShornHill$Shears" "best" "[I", Cond.methodLink RX2 25 arraycopyName, Cond.native arraycopyName, Cond.static arraycopyName, Cond.initialized "java/lang/System"]
def wsX4_stops_r5 : List Cond := [Cond.instanceMethod yX0_beside, Cond.selects RX0 yX0_beside yX0_beside, Cond.code yX0_beside cX0_beside 3 (some .int), Cond.fieldLink RX0 31 "ShornHill$Land" "neighbours" "[I", Cond.methodLink RX4 146 yX4_isIn, Cond.static yX4_isIn, Cond.code yX4_isIn cX4_isIn 2 (some .boolean), Cond.methodLink RX4 158 yX4_couldBeShornWhole, Cond.instanceMethod yX4_couldBeShornWhole, Cond.selects RX4 yX4_couldBeShornWhole yX4_couldBeShornWhole, Cond.code yX4_couldBeShornWhole cX4_couldBeShornWhole 4 (some .boolean)]
def wsX4_stops : List Cond := .code yX4_stops cX4_stops 3 (some .int) :: ((wsX4_stops_r1 ++ (wsX4_stops_r2 ++ (wsX4_stops_r3 ++ (wsX4_stops_r4 ++ wsX4_stops_r5)))) ++ wsX40 ++ wsX00 ++ wsX20)
def wsX4_reading_r1 : List Cond := [Cond.fieldLink RX4 14 "ShornHill" "land" "LShornHill$Land;", Cond.fieldLink RX4 21 "ShornHill" "readings" "LShornHill$Readings;", Cond.instanceMethod yX0_isSoft, Cond.initialized RX0, Cond.selects RX0 yX0_isSoft yX0_isSoft, Cond.code yX0_isSoft cX0_isSoft 2 (some .boolean), Cond.fieldLink RX0 24 "ShornHill$Land" "kind" "[I", Cond.methodLink RX0 38 yX0_has, Cond.instanceMethod yX0_has, Cond.selects RX0 yX0_has yX0_has, Cond.code yX0_has cX0_has 2 (some .boolean), Cond.methodLink RX0 34 yX0_cells, Cond.instanceMethod yX0_cells, Cond.selects RX0 yX0_cells yX0_cells, Cond.code yX0_cells cX0_cells 1 (some .int), Cond.fieldLink RX0 9 "ShornHill$Land" "high" "I", Cond.fieldLink RX0 15 "ShornHill$Land" "wide" "I", Cond.methodLink RX4 116 yX4_isWeeks, Cond.static yX4_isWeeks, Cond.initialized RX4, Cond.code yX4_isWeeks cX4_isWeeks 1 (some .boolean), Cond.methodLink RX4 103 yX4_isInches, Cond.static yX4_isInches, Cond.code yX4_isInches cX4_isInches 1 (some .boolean)]
def wsX4_reading_r2 : List Cond := [Cond.instanceMethod yX1_add, Cond.initialized RX1, Cond.selects RX1 yX1_add yX1_add, Cond.code yX1_add cX1_add 4 (some .int), Cond.fieldLink RX1 15 "ShornHill$Readings" "ofCells" "[I", Cond.fieldLink RX1 9 "ShornHill$Readings" "count" "I", Cond.fieldLink RX1 19 "ShornHill$Readings" "behindWeeks" "[I", Cond.fieldLink RX1 22 "ShornHill$Readings" "inchesTold" "[I"]
def wsX4_reading : List Cond := .code yX4_reading cX4_reading 4 (some .int) :: ((wsX4_reading_r1 ++ wsX4_reading_r2) ++ wsX40 ++ wsX10 ++ wsX00)
def wsX4_back : List Cond := .code yX4_back cX4_back 2 (some .int) :: ([.fieldLink RX4 21 "ShornHill" "readings" "LShornHill$Readings;"] ++ wsX40 ++ wsX10)
def wsX4_kinds_r1 : List Cond := [Cond.fieldLink RX4 14 "ShornHill" "land" "LShornHill$Land;", Cond.fieldLink RX4 21 "ShornHill" "readings" "LShornHill$Readings;", Cond.instanceMethod yX0_isSoft, Cond.initialized RX0, Cond.selects RX0 yX0_isSoft yX0_isSoft, Cond.code yX0_isSoft cX0_isSoft 2 (some .boolean), Cond.fieldLink RX0 24 "ShornHill$Land" "kind" "[I", Cond.methodLink RX0 38 yX0_has, Cond.instanceMethod yX0_has, Cond.selects RX0 yX0_has yX0_has, Cond.code yX0_has cX0_has 2 (some .boolean), Cond.methodLink RX0 34 yX0_cells, Cond.instanceMethod yX0_cells, Cond.selects RX0 yX0_cells yX0_cells, Cond.code yX0_cells cX0_cells 1 (some .int), Cond.fieldLink RX0 9 "ShornHill$Land" "high" "I", Cond.fieldLink RX0 15 "ShornHill$Land" "wide" "I", Cond.instanceMethod yX1_areSo, Cond.initialized RX1, Cond.selects RX1 yX1_areSo yX1_areSo, Cond.code yX1_areSo cX1_areSo 3 (some .boolean), Cond.fieldLink RX1 9 "ShornHill$Readings" "count" "I", Cond.fieldLink RX1 15 "ShornHill$Readings" "ofCells" "[I", Cond.fieldLink RX1 19 "ShornHill$Readings" "behindWeeks" "[I"]
def wsX4_kinds_r2 : List Cond := [Cond.fieldLink RX1 22 "ShornHill$Readings" "inchesTold" "[I", Cond.instanceMethod yX0_inches, Cond.selects RX0 yX0_inches yX0_inches, Cond.code yX0_inches cX0_inches 4 (some .int), Cond.fieldLink RX0 28 "ShornHill$Land" "eaten" "[I", Cond.methodLink RX0 53 Lib.Math.min.name, Cond.static Lib.Math.min.name, Cond.initialized "java/lang/Math", Cond.code Lib.Math.min.name Lib.Math.min.code 2 (some .int), Cond.methodLink RX0 59 Lib.Math.max.name, Cond.static Lib.Math.max.name, Cond.code Lib.Math.max.name Lib.Math.max.code 2 (some .int), Cond.methodLink RX0 50 yX0_weekly, Cond.instanceMethod yX0_weekly, Cond.selects RX0 yX0_weekly yX0_weekly, Cond.code yX0_weekly cX0_weekly 2 (some .int), Cond.fieldLink RX0 18 "ShornHill$Land" "paceNow" "I", Cond.methodLink RX4 169 yX4_bit, Cond.static yX4_bit, Cond.initialized RX4, Cond.code yX4_bit cX4_bit 1 (some .int)]
def wsX4_kinds : List Cond := .code yX4_kinds cX4_kinds 5 (some .int) :: ((wsX4_kinds_r1 ++ wsX4_kinds_r2) ++ wsX40 ++ wsX00 ++ wsX10)
def wsX4_paces_r1 : List Cond := [Cond.fieldLink RX4 14 "ShornHill" "land" "LShornHill$Land;", Cond.fieldLink RX4 21 "ShornHill" "readings" "LShornHill$Readings;", Cond.instanceMethod yX0_stands, Cond.initialized RX0, Cond.selects RX0 yX0_stands yX0_stands, Cond.code yX0_stands cX0_stands 1 (some .boolean), Cond.fieldLink RX0 9 "ShornHill$Land" "high" "I", Cond.instanceMethod yX1_areSo, Cond.initialized RX1, Cond.selects RX1 yX1_areSo yX1_areSo, Cond.code yX1_areSo cX1_areSo 3 (some .boolean), Cond.fieldLink RX1 9 "ShornHill$Readings" "count" "I", Cond.fieldLink RX1 15 "ShornHill$Readings" "ofCells" "[I", Cond.fieldLink RX1 19 "ShornHill$Readings" "behindWeeks" "[I", Cond.fieldLink RX1 22 "ShornHill$Readings" "inchesTold" "[I", Cond.instanceMethod yX0_inches, Cond.selects RX0 yX0_inches yX0_inches, Cond.code yX0_inches cX0_inches 4 (some .int), Cond.fieldLink RX0 28 "ShornHill$Land" "eaten" "[I", Cond.methodLink RX0 53 Lib.Math.min.name, Cond.static Lib.Math.min.name, Cond.initialized "java/lang/Math", Cond.code Lib.Math.min.name Lib.Math.min.code 2 (some .int), Cond.methodLink RX0 59 Lib.Math.max.name]
def wsX4_paces_r2 : List Cond := [Cond.static Lib.Math.max.name, Cond.code Lib.Math.max.name Lib.Math.max.code 2 (some .int), Cond.methodLink RX0 50 yX0_weekly, Cond.instanceMethod yX0_weekly, Cond.selects RX0 yX0_weekly yX0_weekly, Cond.code yX0_weekly cX0_weekly 2 (some .int), Cond.fieldLink RX0 24 "ShornHill$Land" "kind" "[I", Cond.fieldLink RX0 18 "ShornHill$Land" "paceNow" "I", Cond.methodLink RX4 169 yX4_bit, Cond.static yX4_bit, Cond.initialized RX4, Cond.code yX4_bit cX4_bit 1 (some .int)]
def wsX4_paces : List Cond := .code yX4_paces cX4_paces 4 (some .int) :: ((wsX4_paces_r1 ++ wsX4_paces_r2) ++ wsX40 ++ wsX00 ++ wsX10)
def wsX4_eatings_r1 : List Cond := [Cond.fieldLink RX4 14 "ShornHill" "land" "LShornHill$Land;", Cond.fieldLink RX4 21 "ShornHill" "readings" "LShornHill$Readings;", Cond.instanceMethod yX0_isSoft, Cond.initialized RX0, Cond.selects RX0 yX0_isSoft yX0_isSoft, Cond.code yX0_isSoft cX0_isSoft 2 (some .boolean), Cond.fieldLink RX0 24 "ShornHill$Land" "kind" "[I", Cond.methodLink RX0 38 yX0_has, Cond.instanceMethod yX0_has, Cond.selects RX0 yX0_has yX0_has, Cond.code yX0_has cX0_has 2 (some .boolean), Cond.methodLink RX0 34 yX0_cells, Cond.instanceMethod yX0_cells, Cond.selects RX0 yX0_cells yX0_cells, Cond.code yX0_cells cX0_cells 1 (some .int), Cond.fieldLink RX0 9 "ShornHill$Land" "high" "I", Cond.fieldLink RX0 15 "ShornHill$Land" "wide" "I", Cond.instanceMethod yX1_areSo, Cond.initialized RX1, Cond.selects RX1 yX1_areSo yX1_areSo, Cond.code yX1_areSo cX1_areSo 3 (some .boolean), Cond.fieldLink RX1 9 "ShornHill$Readings" "count" "I", Cond.fieldLink RX1 15 "ShornHill$Readings" "ofCells" "[I", Cond.fieldLink RX1 19 "ShornHill$Readings" "behindWeeks" "[I"]
def wsX4_eatings_r2 : List Cond := [Cond.fieldLink RX1 22 "ShornHill$Readings" "inchesTold" "[I", Cond.instanceMethod yX0_inches, Cond.selects RX0 yX0_inches yX0_inches, Cond.code yX0_inches cX0_inches 4 (some .int), Cond.fieldLink RX0 28 "ShornHill$Land" "eaten" "[I", Cond.methodLink RX0 53 Lib.Math.min.name, Cond.static Lib.Math.min.name, Cond.initialized "java/lang/Math", Cond.code Lib.Math.min.name Lib.Math.min.code 2 (some .int), Cond.methodLink RX0 59 Lib.Math.max.name, Cond.static Lib.Math.max.name, Cond.code Lib.Math.max.name Lib.Math.max.code 2 (some .int), Cond.methodLink RX0 50 yX0_weekly, Cond.instanceMethod yX0_weekly, Cond.selects RX0 yX0_weekly yX0_weekly, Cond.code yX0_weekly cX0_weekly 2 (some .int), Cond.fieldLink RX0 18 "ShornHill$Land" "paceNow" "I", Cond.methodLink RX4 169 yX4_bit, Cond.static yX4_bit, Cond.initialized RX4, Cond.code yX4_bit cX4_bit 1 (some .int)]
def wsX4_eatings : List Cond := .code yX4_eatings cX4_eatings 5 (some .int) :: ((wsX4_eatings_r1 ++ wsX4_eatings_r2) ++ wsX40 ++ wsX00 ++ wsX10)
def wsX4_oddsOn : List Cond := .code yX4_oddsOn cX4_oddsOn 11 (some .long) :: ([.instanceMethod yX0_beside, .initialized RX0, .selects RX0 yX0_beside yX0_beside, .code yX0_beside cX0_beside 3 (some .int), .fieldLink RX0 31 "ShornHill$Land" "neighbours" "[I", .methodLink RX4 146 yX4_isIn, .static yX4_isIn, .initialized RX4, .code yX4_isIn cX4_isIn 2 (some .boolean), .methodLink RX4 169 yX4_bit, .static yX4_bit, .code yX4_bit cX4_bit 1 (some .int), .methodLink RX4 174 yX4_without, .static yX4_without, .code yX4_without cX4_without 2 (some .int), .methodLink RX4 179 yX4_oddsOn, .static yX4_oddsOn] ++ wsX00)
def wsX4_commonDivisor : List Cond := .code yX4_commonDivisor cX4_commonDivisor 7 (some .long) :: ([])
def wsX4_odds_r1 : List Cond := [Cond.fieldLink RX4 14 "ShornHill" "land" "LShornHill$Land;", Cond.constantLong RX4 172 (-9223372036854775808), Cond.constantLong RX4 177 (15407021574586368), Cond.methodLink RX4 187 Lib.MathLoose.max_long.x, Cond.static Lib.MathLoose.max_long.x, Cond.initialized "java/lang/Math", Cond.code Lib.MathLoose.max_long.x Lib.MathLoose.max_long.code 4 (some .long), Cond.instanceMethod yX0_has, Cond.initialized RX0, Cond.selects RX0 yX0_has yX0_has, Cond.code yX0_has cX0_has 2 (some .boolean), Cond.methodLink RX0 34 yX0_cells, Cond.instanceMethod yX0_cells, Cond.selects RX0 yX0_cells yX0_cells, Cond.code yX0_cells cX0_cells 1 (some .int), Cond.fieldLink RX0 9 "ShornHill$Land" "high" "I", Cond.fieldLink RX0 15 "ShornHill$Land" "wide" "I", Cond.methodLink RX4 116 yX4_isWeeks, Cond.static yX4_isWeeks, Cond.initialized RX4, Cond.code yX4_isWeeks cX4_isWeeks 1 (some .boolean), Cond.instanceMethod yX0_isRipe, Cond.selects RX0 yX0_isRipe yX0_isRipe, Cond.code yX0_isRipe cX0_isRipe 3 (some .boolean)]
def wsX4_odds_r2 : List Cond := [Cond.fieldLink RX0 24 "ShornHill$Land" "kind" "[I", Cond.fieldLink RX0 21 "ShornHill$Land" "breadthNow" "I", Cond.methodLink RX0 66 yX0_inches, Cond.instanceMethod yX0_inches, Cond.selects RX0 yX0_inches yX0_inches, Cond.code yX0_inches cX0_inches 4 (some .int), Cond.fieldLink RX0 28 "ShornHill$Land" "eaten" "[I", Cond.methodLink RX0 53 Lib.Math.min.name, Cond.static Lib.Math.min.name, Cond.code Lib.Math.min.name Lib.Math.min.code 2 (some .int), Cond.methodLink RX0 59 Lib.Math.max.name, Cond.static Lib.Math.max.name, Cond.code Lib.Math.max.name Lib.Math.max.code 2 (some .int), Cond.methodLink RX0 50 yX0_weekly, Cond.instanceMethod yX0_weekly, Cond.selects RX0 yX0_weekly yX0_weekly, Cond.code yX0_weekly cX0_weekly 2 (some .int), Cond.fieldLink RX0 18 "ShornHill$Land" "paceNow" "I", Cond.instanceMethod yX0_ripeCells, Cond.selects RX0 yX0_ripeCells yX0_ripeCells, Cond.code yX0_ripeCells cX0_ripeCells 4 (some .int), Cond.methodLink RX0 69 yX0_isRipe, Cond.static yX4_bit, Cond.code yX4_bit cX4_bit 1 (some .int)]
def wsX4_odds_r3 : List Cond := [Cond.methodLink RX4 174 yX4_without, Cond.static yX4_without, Cond.code yX4_without cX4_without 2 (some .int), Cond.methodLink RX4 169 yX4_bit, Cond.methodLink RX4 179 yX4_oddsOn, Cond.static yX4_oddsOn, Cond.code yX4_oddsOn cX4_oddsOn 11 (some .long), Cond.instanceMethod yX0_beside, Cond.selects RX0 yX0_beside yX0_beside, Cond.code yX0_beside cX0_beside 3 (some .int), Cond.fieldLink RX0 31 "ShornHill$Land" "neighbours" "[I", Cond.methodLink RX4 146 yX4_isIn, Cond.static yX4_isIn, Cond.code yX4_isIn cX4_isIn 2 (some .boolean), Cond.methodLink RX4 183 yX4_commonDivisor, Cond.static yX4_commonDivisor, Cond.code yX4_commonDivisor cX4_commonDivisor 7 (some .long)]
def wsX4_odds : List Cond := .code yX4_odds cX4_odds 8 (some .long) :: ((wsX4_odds_r1 ++ (wsX4_odds_r2 ++ wsX4_odds_r3)) ++ wsX40 ++ wsX00)
def wsX4_sheet : List Cond := .code yX4_sheet cX4_sheet 4 (some .int) :: ([.fieldLink RX4 38 "ShornHill" "latestFault" "I", .fieldLink RX4 34 "ShornHill" "sheets" "[LShornHill$Sheet;", .methodLink RX4 46 yX4_isSheet, .static yX4_isSheet, .initialized RX4, .code yX4_isSheet cX4_isSheet 1 (some .boolean), .methodLink RX4 50 yX4_isLane, .static yX4_isLane, .code yX4_isLane cX4_isLane 1 (some .boolean), .methodLink RX4 61 yX4_failed, .instanceMethod yX4_failed, .selects RX4 yX4_failed yX4_failed, .code yX4_failed cX4_failed 2 (some .int), .instanceMethod yX3_renew, .initialized RX3, .selects RX3 yX3_renew yX3_renew, .code yX3_renew cX3_renew 4 none, .fieldLink RX3 9 "ShornHill$Sheet" "hasRow" "Z", .fieldLink RX3 15 "ShornHill$Sheet" "lane" "I", .fieldLink RX3 19 "ShornHill$Sheet" "length" "I", .fieldLink RX3 22 "ShornHill$Sheet" "row" "[I"] ++ wsX40 ++ wsX30)
def wsX4_lose : List Cond := .code yX4_lose cX4_lose 3 (some .int) :: ([.fieldLink RX4 34 "ShornHill" "sheets" "[LShornHill$Sheet;", .methodLink RX4 46 yX4_isSheet, .static yX4_isSheet, .initialized RX4, .code yX4_isSheet cX4_isSheet 1 (some .boolean)] ++ wsX40 ++ wsX30)
def wsX4_put : List Cond := .code yX4_put cX4_put 5 (some .int) :: ([.fieldLink RX4 38 "ShornHill" "latestFault" "I", .fieldLink RX4 34 "ShornHill" "sheets" "[LShornHill$Sheet;", .methodLink RX4 46 yX4_isSheet, .static yX4_isSheet, .initialized RX4, .code yX4_isSheet cX4_isSheet 1 (some .boolean), .methodLink RX4 61 yX4_failed, .instanceMethod yX4_failed, .selects RX4 yX4_failed yX4_failed, .code yX4_failed cX4_failed 2 (some .int), .instanceMethod yX3_holds, .initialized RX3, .selects RX3 yX3_holds yX3_holds, .code yX3_holds cX3_holds 2 (some .boolean), .fieldLink RX3 19 "ShornHill$Sheet" "length" "I", .instanceMethod yX3_cut, .selects RX3 yX3_cut yX3_cut, .code yX3_cut cX3_cut 2 (some .int), .fieldLink RX3 15 "ShornHill$Sheet" "lane" "I"] ++ wsX40 ++ wsX30)
def wsX4_cell : List Cond := .code yX4_cell cX4_cell 5 (some .long) :: ([.fieldLink RX4 38 "ShornHill" "latestFault" "I", .constantLong RX4 172 (-9223372036854775808), .fieldLink RX4 34 "ShornHill" "sheets" "[LShornHill$Sheet;", .methodLink RX4 46 yX4_isSheet, .static yX4_isSheet, .initialized RX4, .code yX4_isSheet cX4_isSheet 1 (some .boolean), .methodLink RX4 50 yX4_isLane, .static yX4_isLane, .code yX4_isLane cX4_isLane 1 (some .boolean), .instanceMethod yX3_faultAs, .initialized RX3, .selects RX3 yX3_faultAs yX3_faultAs, .code yX3_faultAs cX3_faultAs 2 (some .int), .fieldLink RX3 9 "ShornHill$Sheet" "hasRow" "Z", .fieldLink RX3 15 "ShornHill$Sheet" "lane" "I", .instanceMethod yX3_holds, .selects RX3 yX3_holds yX3_holds, .code yX3_holds cX3_holds 2 (some .boolean), .fieldLink RX3 19 "ShornHill$Sheet" "length" "I"] ++ wsX40 ++ wsX30)
def wsX4_copy : List Cond := .code yX4_copy cX4_copy 8 (some .int) :: ([.fieldLink RX4 38 "ShornHill" "latestFault" "I", .fieldLink RX4 34 "ShornHill" "sheets" "[LShornHill$Sheet;", .methodLink RX4 209 arraycopyName, .native arraycopyName, .static arraycopyName, .initialized "java/lang/System", .methodLink RX4 46 yX4_isSheet, .static yX4_isSheet, .initialized RX4, .code yX4_isSheet cX4_isSheet 1 (some .boolean), .methodLink RX4 61 yX4_failed, .instanceMethod yX4_failed, .selects RX4 yX4_failed yX4_failed, .code yX4_failed cX4_failed 2 (some .int), .instanceMethod yX3_spans, .initialized RX3, .selects RX3 yX3_spans yX3_spans, .code yX3_spans cX3_spans 3 (some .boolean), .fieldLink RX3 19 "ShornHill$Sheet" "length" "I"] ++ wsX40 ++ wsX30)
def wsX4_begin : List Cond := .code yX4_begin cX4_begin 2 none :: ([.fieldLink RX4 42 "ShornHill" "bodiesBegun" "I"] ++ wsX40)
def wsX4_grassTells : List Cond := .code yX4_grassTells cX4_grassTells 2 (some .int) :: ([.fieldLink RX4 14 "ShornHill" "land" "LShornHill$Land;", .methodLink RX4 224 yX4_begin, .instanceMethod yX4_begin, .selects RX4 yX4_begin yX4_begin, .initialized RX4, .code yX4_begin cX4_begin 2 none, .fieldLink RX4 42 "ShornHill" "bodiesBegun" "I"] ++ wsX40 ++ wsX00)
def wsX4_springTells : List Cond := .code yX4_springTells cX4_springTells 2 (some .int) :: ([.methodLink RX4 224 yX4_begin, .instanceMethod yX4_begin, .selects RX4 yX4_begin yX4_begin, .initialized RX4, .code yX4_begin cX4_begin 2 none, .fieldLink RX4 42 "ShornHill" "bodiesBegun" "I", .methodLink RX4 221 yX4_grassTells, .instanceMethod yX4_grassTells, .selects RX4 yX4_grassTells yX4_grassTells, .code yX4_grassTells cX4_grassTells 2 (some .int), .fieldLink RX4 14 "ShornHill" "land" "LShornHill$Land;"] ++ wsX40 ++ wsX00)
def wsX4_hollowTells : List Cond := .code yX4_hollowTells cX4_hollowTells 3 (some .int) :: ([.methodLink RX4 224 yX4_begin, .instanceMethod yX4_begin, .selects RX4 yX4_begin yX4_begin, .initialized RX4, .code yX4_begin cX4_begin 2 none, .fieldLink RX4 42 "ShornHill" "bodiesBegun" "I", .methodLink RX4 218 yX4_springTells, .instanceMethod yX4_springTells, .selects RX4 yX4_springTells yX4_springTells, .code yX4_springTells cX4_springTells 2 (some .int), .methodLink RX4 221 yX4_grassTells, .instanceMethod yX4_grassTells, .selects RX4 yX4_grassTells yX4_grassTells, .code yX4_grassTells cX4_grassTells 2 (some .int), .fieldLink RX4 14 "ShornHill" "land" "LShornHill$Land;"] ++ wsX40 ++ wsX00)
def wsX4_tell_r1 : List Cond := [Cond.fieldLink RX4 14 "ShornHill" "land" "LShornHill$Land;", Cond.instanceMethod yX0_isSoft, Cond.initialized RX0, Cond.selects RX0 yX0_isSoft yX0_isSoft, Cond.code yX0_isSoft cX0_isSoft 2 (some .boolean), Cond.fieldLink RX0 24 "ShornHill$Land" "kind" "[I", Cond.methodLink RX0 38 yX0_has, Cond.instanceMethod yX0_has, Cond.selects RX0 yX0_has yX0_has, Cond.code yX0_has cX0_has 2 (some .boolean), Cond.methodLink RX0 34 yX0_cells, Cond.instanceMethod yX0_cells, Cond.selects RX0 yX0_cells yX0_cells, Cond.code yX0_cells cX0_cells 1 (some .int), Cond.fieldLink RX0 9 "ShornHill$Land" "high" "I", Cond.fieldLink RX0 15 "ShornHill$Land" "wide" "I", Cond.methodLink RX4 215 yX4_hollowTells, Cond.instanceMethod yX4_hollowTells, Cond.selects RX4 yX4_hollowTells yX4_hollowTells, Cond.initialized RX4, Cond.code yX4_hollowTells cX4_hollowTells 3 (some .int), Cond.methodLink RX4 224 yX4_begin, Cond.instanceMethod yX4_begin, Cond.selects RX4 yX4_begin yX4_begin]
def wsX4_tell_r2 : List Cond := [Cond.code yX4_begin cX4_begin 2 none, Cond.fieldLink RX4 42 "ShornHill" "bodiesBegun" "I", Cond.methodLink RX4 218 yX4_springTells, Cond.instanceMethod yX4_springTells, Cond.selects RX4 yX4_springTells yX4_springTells, Cond.code yX4_springTells cX4_springTells 2 (some .int), Cond.methodLink RX4 221 yX4_grassTells, Cond.instanceMethod yX4_grassTells, Cond.selects RX4 yX4_grassTells yX4_grassTells, Cond.code yX4_grassTells cX4_grassTells 2 (some .int)]
def wsX4_tell : List Cond := .code yX4_tell cX4_tell 2 (some .int) :: ((wsX4_tell_r1 ++ wsX4_tell_r2) ++ wsX40 ++ wsX00)
def wsX4_trod : List Cond := .code yX4_trod cX4_trod 2 (some .int) :: ([.fieldLink RX4 14 "ShornHill" "land" "LShornHill$Land;", .instanceMethod yX0_isSoft, .initialized RX0, .selects RX0 yX0_isSoft yX0_isSoft, .code yX0_isSoft cX0_isSoft 2 (some .boolean), .fieldLink RX0 24 "ShornHill$Land" "kind" "[I", .methodLink RX0 38 yX0_has, .instanceMethod yX0_has, .selects RX0 yX0_has yX0_has, .code yX0_has cX0_has 2 (some .boolean), .methodLink RX0 34 yX0_cells, .instanceMethod yX0_cells, .selects RX0 yX0_cells yX0_cells, .code yX0_cells cX0_cells 1 (some .int), .fieldLink RX0 9 "ShornHill$Land" "high" "I", .fieldLink RX0 15 "ShornHill$Land" "wide" "I", .methodLink RX4 224 yX4_begin, .instanceMethod yX4_begin, .selects RX4 yX4_begin yX4_begin, .initialized RX4, .code yX4_begin cX4_begin 2 none, .fieldLink RX4 42 "ShornHill" "bodiesBegun" "I"] ++ wsX40 ++ wsX00)
def wsX4_as : List Cond := .code yX4_as cX4_as 3 (some .int) :: ([.fieldLink RX4 38 "ShornHill" "latestFault" "I", .fieldLink RX4 14 "ShornHill" "land" "LShornHill$Land;", .instanceMethod yX0_isSoft, .initialized RX0, .selects RX0 yX0_isSoft yX0_isSoft, .code yX0_isSoft cX0_isSoft 2 (some .boolean), .fieldLink RX0 24 "ShornHill$Land" "kind" "[I", .methodLink RX0 38 yX0_has, .instanceMethod yX0_has, .selects RX0 yX0_has yX0_has, .code yX0_has cX0_has 2 (some .boolean), .methodLink RX0 34 yX0_cells, .instanceMethod yX0_cells, .selects RX0 yX0_cells yX0_cells, .code yX0_cells cX0_cells 1 (some .int), .fieldLink RX0 9 "ShornHill$Land" "high" "I", .fieldLink RX0 15 "ShornHill$Land" "wide" "I", .methodLink RX4 61 yX4_failed, .instanceMethod yX4_failed, .selects RX4 yX4_failed yX4_failed, .initialized RX4, .code yX4_failed cX4_failed 2 (some .int)] ++ wsX40 ++ wsX00)
def wsX4_trace : List Cond := .code yX4_trace cX4_trace 1 (some .int) :: ([.fieldLink RX4 42 "ShornHill" "bodiesBegun" "I"] ++ wsX40)
def wsX4_fault : List Cond := .code yX4_fault cX4_fault 1 (some .int) :: ([.fieldLink RX4 38 "ShornHill" "latestFault" "I"] ++ wsX40)
def wsX4_many : List Cond := .code yX4_many cX4_many 2 (some .int) :: ([.fieldLink RX4 14 "ShornHill" "land" "LShornHill$Land;", .fieldLink RX4 21 "ShornHill" "readings" "LShornHill$Readings;", .instanceMethod yX0_cells, .initialized RX0, .selects RX0 yX0_cells yX0_cells, .code yX0_cells cX0_cells 1 (some .int), .fieldLink RX0 9 "ShornHill$Land" "high" "I", .fieldLink RX0 15 "ShornHill$Land" "wide" "I", .instanceMethod yX0_softCells, .selects RX0 yX0_softCells yX0_softCells, .code yX0_softCells cX0_softCells 3 (some .int), .fieldLink RX0 24 "ShornHill$Land" "kind" "[I", .methodLink RX0 34 yX0_cells, .static yX4_bit, .initialized RX4, .code yX4_bit cX4_bit 1 (some .int), .methodLink RX4 83 yJ6_bitCount_0f7a4, .static yJ6_bitCount_0f7a4, .initialized RJ6, .code yJ6_bitCount_0f7a4 cJ6_bitCount_0f7a4 1 (some .int), .constant RJ6 265 (1431655765), .constant RJ6 266 (858993459), .constant RJ6 267 (252645135)] ++ wsX40 ++ wsX00 ++ wsX10)
def wsX5_init : List Cond := .code yX5_init cX5_init 2 none :: ([.methodLink RX5 1 objectInit, .instanceMethod objectInit, .code objectInit ⟨#[0xb1]⟩ 1 none, .arrayClass .int, .fieldLink RX5 7 "ShornHillModel" "kindOf" "[I", .fieldLink RX5 13 "ShornHillModel" "ateOf" "[I", .fieldLink RX5 16 "ShornHillModel" "readKind" "[I", .fieldLink RX5 19 "ShornHillModel" "placeAt" "[I", .fieldLink RX5 22 "ShornHillModel" "nextAt" "[I", .fieldLink RX5 25 "ShornHillModel" "rowBest" "[I", .fieldLink RX5 28 "ShornHillModel" "readingOf" "[I", .fieldLink RX5 31 "ShornHillModel" "readingBy" "[I", .fieldLink RX5 34 "ShornHillModel" "readingWas" "[I", .arrayClass .long, .fieldLink RX5 37 "ShornHillModel" "chanceAt" "[J", .fieldLink RX5 41 "ShornHillModel" "sheetSize" "[I", .fieldLink RX5 44 "ShornHillModel" "sheetLane" "[I", .fieldLink RX5 47 "ShornHillModel" "sheet" "[I", .fieldLink RX5 50 "ShornHillModel" "hands" "[I"] ++ wsX50)
def wsX5_in : List Cond := .code yX5_in cX5_in 6 (some .boolean) :: ([])
def wsX5_lost : List Cond := .code yX5_lost cX5_lost 0 (some .long) :: ([.constantLong RX5 53 (-9223372036854775808)])
def wsX5_isIn : List Cond := .code yX5_isIn cX5_isIn 2 (some .boolean) :: ([])
def wsX5_bits : List Cond := .code yX5_bits cX5_bits 3 (some .int) :: ([])
def wsX5_share : List Cond := .code yX5_share cX5_share 11 (some .long) :: ([])
def wsX5_refused : List Cond := .code yX5_refused cX5_refused 2 (some .int) :: ([.fieldLink RX5 55 "ShornHillModel" "fault" "I"] ++ wsX50)
def wsX5_failed : List Cond := .code yX5_failed cX5_failed 2 (some .int) :: ([.fieldLink RX5 55 "ShornHillModel" "fault" "I"] ++ wsX50)
def wsX5_failedLong : List Cond := .code yX5_failedLong cX5_failedLong 2 (some .long) :: ([.fieldLink RX5 55 "ShornHillModel" "fault" "I", .methodLink RX5 59 yX5_lost, .static yX5_lost, .initialized RX5, .code yX5_lost cX5_lost 0 (some .long), .constantLong RX5 53 (-9223372036854775808)] ++ wsX50)
def wsX5_cells : List Cond := .code yX5_cells cX5_cells 1 (some .int) :: ([.fieldLink RX5 63 "ShornHillModel" "high" "I", .fieldLink RX5 66 "ShornHillModel" "wide" "I"] ++ wsX50)
def wsX5_noPlace : List Cond := .code yX5_noPlace cX5_noPlace 2 (some .boolean) :: ([.methodLink RX5 69 yX5_cells, .instanceMethod yX5_cells, .selects RX5 yX5_cells yX5_cells, .initialized RX5, .code yX5_cells cX5_cells 1 (some .int), .fieldLink RX5 63 "ShornHillModel" "high" "I", .fieldLink RX5 66 "ShornHillModel" "wide" "I", .methodLink RX5 73 yX5_in, .static yX5_in, .code yX5_in cX5_in 6 (some .boolean)] ++ wsX50)
def wsX5_noGrass : List Cond := .code yX5_noGrass cX5_noGrass 2 (some .boolean) :: ([.fieldLink RX5 7 "ShornHillModel" "kindOf" "[I", .methodLink RX5 77 yX5_noPlace, .instanceMethod yX5_noPlace, .selects RX5 yX5_noPlace yX5_noPlace, .initialized RX5, .code yX5_noPlace cX5_noPlace 2 (some .boolean), .methodLink RX5 69 yX5_cells, .instanceMethod yX5_cells, .selects RX5 yX5_cells yX5_cells, .code yX5_cells cX5_cells 1 (some .int), .fieldLink RX5 63 "ShornHillModel" "high" "I", .fieldLink RX5 66 "ShornHillModel" "wide" "I", .methodLink RX5 73 yX5_in, .static yX5_in, .code yX5_in cX5_in 6 (some .boolean)] ++ wsX50)
def wsX5_codeAt : List Cond := .code yX5_codeAt cX5_codeAt 3 (some .int) :: ([.fieldLink RX5 81 "ShornHillModel" "readAt" "I", .fieldLink RX5 47 "ShornHillModel" "sheet" "[I"] ++ wsX50)
def wsX5_figure : List Cond := .code yX5_figure cX5_figure 7 (some .int) :: ([.fieldLink RX5 81 "ShornHillModel" "readAt" "I", .methodLink RX5 84 yX5_codeAt, .instanceMethod yX5_codeAt, .selects RX5 yX5_codeAt yX5_codeAt, .initialized RX5, .code yX5_codeAt cX5_codeAt 3 (some .int), .fieldLink RX5 47 "ShornHillModel" "sheet" "[I", .methodLink RX5 73 yX5_in, .static yX5_in, .code yX5_in cX5_in 6 (some .boolean)] ++ wsX50)
def wsX5_readsPlace : List Cond := .code yX5_readsPlace cX5_readsPlace 5 (some .boolean) :: ([.fieldLink RX5 88 "ShornHillModel" "readWide" "I", .fieldLink RX5 81 "ShornHillModel" "readAt" "I", .fieldLink RX5 16 "ShornHillModel" "readKind" "[I", .methodLink RX5 84 yX5_codeAt, .instanceMethod yX5_codeAt, .selects RX5 yX5_codeAt yX5_codeAt, .initialized RX5, .code yX5_codeAt cX5_codeAt 3 (some .int), .fieldLink RX5 47 "ShornHillModel" "sheet" "[I"] ++ wsX50)
def wsX5_readsHill : List Cond := .code yX5_readsHill cX5_readsHill 5 (some .boolean) :: ([.fieldLink RX5 81 "ShornHillModel" "readAt" "I", .fieldLink RX5 95 "ShornHillModel" "readHigh" "I", .fieldLink RX5 88 "ShornHillModel" "readWide" "I", .fieldLink RX5 98 "ShornHillModel" "readPace" "I", .fieldLink RX5 101 "ShornHillModel" "readBreadth" "I", .methodLink RX5 84 yX5_codeAt, .instanceMethod yX5_codeAt, .selects RX5 yX5_codeAt yX5_codeAt, .initialized RX5, .code yX5_codeAt cX5_codeAt 3 (some .int), .fieldLink RX5 47 "ShornHillModel" "sheet" "[I", .methodLink RX5 91 yX5_figure, .instanceMethod yX5_figure, .selects RX5 yX5_figure yX5_figure, .code yX5_figure cX5_figure 7 (some .int), .methodLink RX5 73 yX5_in, .static yX5_in, .code yX5_in cX5_in 6 (some .boolean), .methodLink RX5 104 yX5_readsPlace, .instanceMethod yX5_readsPlace, .selects RX5 yX5_readsPlace yX5_readsPlace, .code yX5_readsPlace cX5_readsPlace 5 (some .boolean), .fieldLink RX5 16 "ShornHillModel" "readKind" "[I"] ++ wsX50)
def wsX5_isBeyond : List Cond := .code yX5_isBeyond cX5_isBeyond 4 (some .boolean) :: ([])
def wsX5_cellsBarred : List Cond := .code yX5_cellsBarred cX5_cellsBarred 6 (some .int) :: ([.fieldLink RX5 41 "ShornHillModel" "sheetSize" "[I", .fieldLink RX5 44 "ShornHillModel" "sheetLane" "[I", .methodLink RX5 108 yX5_failed, .instanceMethod yX5_failed, .selects RX5 yX5_failed yX5_failed, .initialized RX5, .code yX5_failed cX5_failed 2 (some .int), .fieldLink RX5 55 "ShornHillModel" "fault" "I", .methodLink RX5 112 yX5_isBeyond, .static yX5_isBeyond, .code yX5_isBeyond cX5_isBeyond 4 (some .boolean)] ++ wsX50)
def wsX5_noSheet : List Cond := .code yX5_noSheet cX5_noSheet 1 (some .boolean) :: ([.constantLong RX5 155 (3), .methodLink RX5 73 yX5_in, .static yX5_in, .initialized RX5, .code yX5_in cX5_in 6 (some .boolean)])
def wsX5_thornsNow : List Cond := .code yX5_thornsNow cX5_thornsNow 3 (some .int) :: ([.fieldLink RX5 7 "ShornHillModel" "kindOf" "[I", .methodLink RX5 69 yX5_cells, .instanceMethod yX5_cells, .selects RX5 yX5_cells yX5_cells, .initialized RX5, .code yX5_cells cX5_cells 1 (some .int), .fieldLink RX5 63 "ShornHillModel" "high" "I", .fieldLink RX5 66 "ShornHillModel" "wide" "I"] ++ wsX50)
def wsX5_hill_r1 : List Cond := [Cond.constantLong RX5 122 (2), Cond.fieldLink RX5 81 "ShornHillModel" "readAt" "I", Cond.fieldLink RX5 95 "ShornHillModel" "readHigh" "I", Cond.fieldLink RX5 63 "ShornHillModel" "high" "I", Cond.fieldLink RX5 88 "ShornHillModel" "readWide" "I", Cond.fieldLink RX5 66 "ShornHillModel" "wide" "I", Cond.fieldLink RX5 98 "ShornHillModel" "readPace" "I", Cond.fieldLink RX5 132 "ShornHillModel" "paceNow" "I", Cond.fieldLink RX5 101 "ShornHillModel" "readBreadth" "I", Cond.fieldLink RX5 135 "ShornHillModel" "breadthNow" "I", Cond.fieldLink RX5 7 "ShornHillModel" "kindOf" "[I", Cond.fieldLink RX5 16 "ShornHillModel" "readKind" "[I", Cond.fieldLink RX5 13 "ShornHillModel" "ateOf" "[I", Cond.fieldLink RX5 138 "ShornHillModel" "readings" "I", Cond.methodLink RX5 116 yX5_noSheet, Cond.static yX5_noSheet, Cond.initialized RX5, Cond.code yX5_noSheet cX5_noSheet 1 (some .boolean), Cond.constantLong RX5 155 (3), Cond.methodLink RX5 73 yX5_in, Cond.static yX5_in, Cond.code yX5_in cX5_in 6 (some .boolean), Cond.methodLink RX5 119 yX5_refused, Cond.instanceMethod yX5_refused]
def wsX5_hill_r2 : List Cond := [Cond.selects RX5 yX5_refused yX5_refused, Cond.code yX5_refused cX5_refused 2 (some .int), Cond.fieldLink RX5 55 "ShornHillModel" "fault" "I", Cond.methodLink RX5 124 yX5_cellsBarred, Cond.instanceMethod yX5_cellsBarred, Cond.selects RX5 yX5_cellsBarred yX5_cellsBarred, Cond.code yX5_cellsBarred cX5_cellsBarred 6 (some .int), Cond.fieldLink RX5 41 "ShornHillModel" "sheetSize" "[I", Cond.fieldLink RX5 44 "ShornHillModel" "sheetLane" "[I", Cond.methodLink RX5 108 yX5_failed, Cond.instanceMethod yX5_failed, Cond.selects RX5 yX5_failed yX5_failed, Cond.code yX5_failed cX5_failed 2 (some .int), Cond.methodLink RX5 112 yX5_isBeyond, Cond.static yX5_isBeyond, Cond.code yX5_isBeyond cX5_isBeyond 4 (some .boolean), Cond.methodLink RX5 128 yX5_readsHill, Cond.instanceMethod yX5_readsHill, Cond.selects RX5 yX5_readsHill yX5_readsHill, Cond.code yX5_readsHill cX5_readsHill 5 (some .boolean), Cond.methodLink RX5 84 yX5_codeAt, Cond.instanceMethod yX5_codeAt, Cond.selects RX5 yX5_codeAt yX5_codeAt, Cond.code yX5_codeAt cX5_codeAt 3 (some .int)]
def wsX5_hill_r3 : List Cond := [Cond.fieldLink RX5 47 "ShornHillModel" "sheet" "[I", Cond.methodLink RX5 91 yX5_figure, Cond.instanceMethod yX5_figure, Cond.selects RX5 yX5_figure yX5_figure, Cond.code yX5_figure cX5_figure 7 (some .int), Cond.methodLink RX5 104 yX5_readsPlace, Cond.instanceMethod yX5_readsPlace, Cond.selects RX5 yX5_readsPlace yX5_readsPlace, Cond.code yX5_readsPlace cX5_readsPlace 5 (some .boolean), Cond.methodLink RX5 69 yX5_cells, Cond.instanceMethod yX5_cells, Cond.selects RX5 yX5_cells yX5_cells, Cond.code yX5_cells cX5_cells 1 (some .int), Cond.methodLink RX5 141 yX5_thornsNow, Cond.instanceMethod yX5_thornsNow, Cond.selects RX5 yX5_thornsNow yX5_thornsNow, Cond.code yX5_thornsNow cX5_thornsNow 3 (some .int)]
def wsX5_hill : List Cond := .code yX5_hill cX5_hill 7 (some .int) :: ((wsX5_hill_r1 ++ (wsX5_hill_r2 ++ wsX5_hill_r3)) ++ wsX50)
def wsX5_growsOf : List Cond := .code yX5_growsOf cX5_growsOf 3 (some .int) :: ([.fieldLink RX5 7 "ShornHillModel" "kindOf" "[I", .fieldLink RX5 132 "ShornHillModel" "paceNow" "I"] ++ wsX50)
def wsX5_coatOf : List Cond := .code yX5_coatOf cX5_coatOf 4 (some .int) :: ([.fieldLink RX5 13 "ShornHillModel" "ateOf" "[I", .fieldLink RX5 7 "ShornHillModel" "kindOf" "[I", .methodLink RX5 144 yX5_growsOf, .instanceMethod yX5_growsOf, .selects RX5 yX5_growsOf yX5_growsOf, .initialized RX5, .code yX5_growsOf cX5_growsOf 3 (some .int), .fieldLink RX5 132 "ShornHillModel" "paceNow" "I"] ++ wsX50)
def wsX5_ripeBy : List Cond := .code yX5_ripeBy cX5_ripeBy 4 (some .int) :: ([.fieldLink RX5 135 "ShornHillModel" "breadthNow" "I", .methodLink RX5 69 yX5_cells, .instanceMethod yX5_cells, .selects RX5 yX5_cells yX5_cells, .initialized RX5, .code yX5_cells cX5_cells 1 (some .int), .fieldLink RX5 63 "ShornHillModel" "high" "I", .fieldLink RX5 66 "ShornHillModel" "wide" "I", .methodLink RX5 147 yX5_coatOf, .instanceMethod yX5_coatOf, .selects RX5 yX5_coatOf yX5_coatOf, .code yX5_coatOf cX5_coatOf 4 (some .int), .fieldLink RX5 13 "ShornHillModel" "ateOf" "[I", .fieldLink RX5 7 "ShornHillModel" "kindOf" "[I", .methodLink RX5 144 yX5_growsOf, .instanceMethod yX5_growsOf, .selects RX5 yX5_growsOf yX5_growsOf, .code yX5_growsOf cX5_growsOf 3 (some .int), .fieldLink RX5 132 "ShornHillModel" "paceNow" "I"] ++ wsX50)
def wsX5_noWeeks : List Cond := .code yX5_noWeeks cX5_noWeeks 1 (some .boolean) :: ([.constantLong RX5 150 (9), .methodLink RX5 73 yX5_in, .static yX5_in, .initialized RX5, .code yX5_in cX5_in 6 (some .boolean)])
def wsX5_ofCell : List Cond := .code yX5_ofCell cX5_ofCell 3 (some .int) :: ([.fieldLink RX5 7 "ShornHillModel" "kindOf" "[I", .fieldLink RX5 13 "ShornHillModel" "ateOf" "[I", .methodLink RX5 77 yX5_noPlace, .instanceMethod yX5_noPlace, .selects RX5 yX5_noPlace yX5_noPlace, .initialized RX5, .code yX5_noPlace cX5_noPlace 2 (some .boolean), .methodLink RX5 69 yX5_cells, .instanceMethod yX5_cells, .selects RX5 yX5_cells yX5_cells, .code yX5_cells cX5_cells 1 (some .int), .fieldLink RX5 63 "ShornHillModel" "high" "I", .fieldLink RX5 66 "ShornHillModel" "wide" "I", .methodLink RX5 73 yX5_in, .static yX5_in, .code yX5_in cX5_in 6 (some .boolean), .methodLink RX5 144 yX5_growsOf, .instanceMethod yX5_growsOf, .selects RX5 yX5_growsOf yX5_growsOf, .code yX5_growsOf cX5_growsOf 3 (some .int), .fieldLink RX5 132 "ShornHillModel" "paceNow" "I"] ++ wsX50)
def wsX5_goats : List Cond := .code yX5_goats cX5_goats 4 (some .int) :: ([.constantLong RX5 150 (9), .fieldLink RX5 13 "ShornHillModel" "ateOf" "[I", .methodLink RX5 152 yX5_noGrass, .instanceMethod yX5_noGrass, .selects RX5 yX5_noGrass yX5_noGrass, .initialized RX5, .code yX5_noGrass cX5_noGrass 2 (some .boolean), .fieldLink RX5 7 "ShornHillModel" "kindOf" "[I", .methodLink RX5 77 yX5_noPlace, .instanceMethod yX5_noPlace, .selects RX5 yX5_noPlace yX5_noPlace, .code yX5_noPlace cX5_noPlace 2 (some .boolean), .methodLink RX5 69 yX5_cells, .instanceMethod yX5_cells, .selects RX5 yX5_cells yX5_cells, .code yX5_cells cX5_cells 1 (some .int), .fieldLink RX5 63 "ShornHillModel" "high" "I", .fieldLink RX5 66 "ShornHillModel" "wide" "I", .methodLink RX5 73 yX5_in, .static yX5_in, .code yX5_in cX5_in 6 (some .boolean)] ++ wsX50)
def wsX5_pace : List Cond := .code yX5_pace cX5_pace 3 (some .int) :: ([.constantLong RX5 155 (3), .fieldLink RX5 63 "ShornHillModel" "high" "I", .fieldLink RX5 132 "ShornHillModel" "paceNow" "I", .methodLink RX5 73 yX5_in, .static yX5_in, .initialized RX5, .code yX5_in cX5_in 6 (some .boolean)] ++ wsX50)
def wsX5_breadth : List Cond := .code yX5_breadth cX5_breadth 3 (some .int) :: ([.constantLong RX5 150 (9), .fieldLink RX5 63 "ShornHillModel" "high" "I", .fieldLink RX5 135 "ShornHillModel" "breadthNow" "I", .methodLink RX5 73 yX5_in, .static yX5_in, .initialized RX5, .code yX5_in cX5_in 6 (some .boolean)] ++ wsX50)
def wsX5_coat_r1 : List Cond := [Cond.methodLink RX5 77 yX5_noPlace, Cond.instanceMethod yX5_noPlace, Cond.selects RX5 yX5_noPlace yX5_noPlace, Cond.initialized RX5, Cond.code yX5_noPlace cX5_noPlace 2 (some .boolean), Cond.methodLink RX5 69 yX5_cells, Cond.instanceMethod yX5_cells, Cond.selects RX5 yX5_cells yX5_cells, Cond.code yX5_cells cX5_cells 1 (some .int), Cond.fieldLink RX5 63 "ShornHillModel" "high" "I", Cond.fieldLink RX5 66 "ShornHillModel" "wide" "I", Cond.methodLink RX5 73 yX5_in, Cond.static yX5_in, Cond.code yX5_in cX5_in 6 (some .boolean), Cond.methodLink RX5 157 yX5_noWeeks, Cond.static yX5_noWeeks, Cond.code yX5_noWeeks cX5_noWeeks 1 (some .boolean), Cond.constantLong RX5 150 (9), Cond.methodLink RX5 147 yX5_coatOf, Cond.instanceMethod yX5_coatOf, Cond.selects RX5 yX5_coatOf yX5_coatOf, Cond.code yX5_coatOf cX5_coatOf 4 (some .int), Cond.fieldLink RX5 13 "ShornHillModel" "ateOf" "[I", Cond.fieldLink RX5 7 "ShornHillModel" "kindOf" "[I"]
def wsX5_coat_r2 : List Cond := [Cond.methodLink RX5 144 yX5_growsOf, Cond.instanceMethod yX5_growsOf, Cond.selects RX5 yX5_growsOf yX5_growsOf, Cond.code yX5_growsOf cX5_growsOf 3 (some .int), Cond.fieldLink RX5 132 "ShornHillModel" "paceNow" "I"]
def wsX5_coat : List Cond := .code yX5_coat cX5_coat 3 (some .int) :: ((wsX5_coat_r1 ++ wsX5_coat_r2) ++ wsX50)
def wsX5_ripe_r1 : List Cond := [Cond.fieldLink RX5 63 "ShornHillModel" "high" "I", Cond.methodLink RX5 157 yX5_noWeeks, Cond.static yX5_noWeeks, Cond.initialized RX5, Cond.code yX5_noWeeks cX5_noWeeks 1 (some .boolean), Cond.constantLong RX5 150 (9), Cond.methodLink RX5 73 yX5_in, Cond.static yX5_in, Cond.code yX5_in cX5_in 6 (some .boolean), Cond.methodLink RX5 160 yX5_ripeBy, Cond.instanceMethod yX5_ripeBy, Cond.selects RX5 yX5_ripeBy yX5_ripeBy, Cond.code yX5_ripeBy cX5_ripeBy 4 (some .int), Cond.fieldLink RX5 135 "ShornHillModel" "breadthNow" "I", Cond.methodLink RX5 69 yX5_cells, Cond.instanceMethod yX5_cells, Cond.selects RX5 yX5_cells yX5_cells, Cond.code yX5_cells cX5_cells 1 (some .int), Cond.fieldLink RX5 66 "ShornHillModel" "wide" "I", Cond.methodLink RX5 147 yX5_coatOf, Cond.instanceMethod yX5_coatOf, Cond.selects RX5 yX5_coatOf yX5_coatOf, Cond.code yX5_coatOf cX5_coatOf 4 (some .int), Cond.fieldLink RX5 13 "ShornHillModel" "ateOf" "[I"]
def wsX5_ripe_r2 : List Cond := [Cond.fieldLink RX5 7 "ShornHillModel" "kindOf" "[I", Cond.methodLink RX5 144 yX5_growsOf, Cond.instanceMethod yX5_growsOf, Cond.selects RX5 yX5_growsOf yX5_growsOf, Cond.code yX5_growsOf cX5_growsOf 3 (some .int), Cond.fieldLink RX5 132 "ShornHillModel" "paceNow" "I"]
def wsX5_ripe : List Cond := .code yX5_ripe cX5_ripe 2 (some .int) :: ((wsX5_ripe_r1 ++ wsX5_ripe_r2) ++ wsX50)
def wsX5_beside : List Cond := .code yX5_beside cX5_beside 5 (some .int) :: ([.fieldLink RX5 66 "ShornHillModel" "wide" "I", .fieldLink RX5 63 "ShornHillModel" "high" "I", .methodLink RX5 73 yX5_in, .static yX5_in, .initialized RX5, .code yX5_in cX5_in 6 (some .boolean)] ++ wsX50)
def wsX5_goPath : List Cond := .code yX5_goPath cX5_goPath 7 none :: ([.fieldLink RX5 163 "ShornHillModel" "firstWrong" "I", .fieldLink RX5 166 "ShornHillModel" "endsAt" "I", .fieldLink RX5 169 "ShornHillModel" "shornNow" "I", .fieldLink RX5 47 "ShornHillModel" "sheet" "[I", .methodLink RX5 172 yX5_beside, .instanceMethod yX5_beside, .selects RX5 yX5_beside yX5_beside, .initialized RX5, .code yX5_beside cX5_beside 5 (some .int), .fieldLink RX5 66 "ShornHillModel" "wide" "I", .fieldLink RX5 63 "ShornHillModel" "high" "I", .methodLink RX5 73 yX5_in, .static yX5_in, .code yX5_in cX5_in 6 (some .boolean), .methodLink RX5 175 yX5_isIn, .static yX5_isIn, .code yX5_isIn cX5_isIn 2 (some .boolean)] ++ wsX50)
def wsX5_coatsOf : List Cond := .code yX5_coatsOf cX5_coatsOf 5 (some .int) :: ([.methodLink RX5 69 yX5_cells, .instanceMethod yX5_cells, .selects RX5 yX5_cells yX5_cells, .initialized RX5, .code yX5_cells cX5_cells 1 (some .int), .fieldLink RX5 63 "ShornHillModel" "high" "I", .fieldLink RX5 66 "ShornHillModel" "wide" "I", .methodLink RX5 175 yX5_isIn, .static yX5_isIn, .code yX5_isIn cX5_isIn 2 (some .boolean), .methodLink RX5 147 yX5_coatOf, .instanceMethod yX5_coatOf, .selects RX5 yX5_coatOf yX5_coatOf, .code yX5_coatOf cX5_coatOf 4 (some .int), .fieldLink RX5 13 "ShornHillModel" "ateOf" "[I", .fieldLink RX5 7 "ShornHillModel" "kindOf" "[I", .methodLink RX5 144 yX5_growsOf, .instanceMethod yX5_growsOf, .selects RX5 yX5_growsOf yX5_growsOf, .code yX5_growsOf cX5_growsOf 3 (some .int), .fieldLink RX5 132 "ShornHillModel" "paceNow" "I"] ++ wsX50)
def wsX5_path_r1 : List Cond := [Cond.constantLong RX5 122 (2), Cond.constantLong RX5 178 (20), Cond.constantLong RX5 155 (3), Cond.fieldLink RX5 47 "ShornHillModel" "sheet" "[I", Cond.fieldLink RX5 163 "ShornHillModel" "firstWrong" "I", Cond.fieldLink RX5 166 "ShornHillModel" "endsAt" "I", Cond.fieldLink RX5 169 "ShornHillModel" "shornNow" "I", Cond.methodLink RX5 77 yX5_noPlace, Cond.instanceMethod yX5_noPlace, Cond.selects RX5 yX5_noPlace yX5_noPlace, Cond.initialized RX5, Cond.code yX5_noPlace cX5_noPlace 2 (some .boolean), Cond.methodLink RX5 69 yX5_cells, Cond.instanceMethod yX5_cells, Cond.selects RX5 yX5_cells yX5_cells, Cond.code yX5_cells cX5_cells 1 (some .int), Cond.fieldLink RX5 63 "ShornHillModel" "high" "I", Cond.fieldLink RX5 66 "ShornHillModel" "wide" "I", Cond.methodLink RX5 73 yX5_in, Cond.static yX5_in, Cond.code yX5_in cX5_in 6 (some .boolean), Cond.methodLink RX5 116 yX5_noSheet, Cond.static yX5_noSheet, Cond.code yX5_noSheet cX5_noSheet 1 (some .boolean)]
def wsX5_path_r2 : List Cond := [Cond.methodLink RX5 119 yX5_refused, Cond.instanceMethod yX5_refused, Cond.selects RX5 yX5_refused yX5_refused, Cond.code yX5_refused cX5_refused 2 (some .int), Cond.fieldLink RX5 55 "ShornHillModel" "fault" "I", Cond.methodLink RX5 157 yX5_noWeeks, Cond.static yX5_noWeeks, Cond.code yX5_noWeeks cX5_noWeeks 1 (some .boolean), Cond.constantLong RX5 150 (9), Cond.methodLink RX5 160 yX5_ripeBy, Cond.instanceMethod yX5_ripeBy, Cond.selects RX5 yX5_ripeBy yX5_ripeBy, Cond.code yX5_ripeBy cX5_ripeBy 4 (some .int), Cond.fieldLink RX5 135 "ShornHillModel" "breadthNow" "I", Cond.methodLink RX5 147 yX5_coatOf, Cond.instanceMethod yX5_coatOf, Cond.selects RX5 yX5_coatOf yX5_coatOf, Cond.code yX5_coatOf cX5_coatOf 4 (some .int), Cond.fieldLink RX5 13 "ShornHillModel" "ateOf" "[I", Cond.fieldLink RX5 7 "ShornHillModel" "kindOf" "[I", Cond.methodLink RX5 144 yX5_growsOf, Cond.instanceMethod yX5_growsOf, Cond.selects RX5 yX5_growsOf yX5_growsOf, Cond.code yX5_growsOf cX5_growsOf 3 (some .int)]
def wsX5_path_r3 : List Cond := [Cond.fieldLink RX5 132 "ShornHillModel" "paceNow" "I", Cond.methodLink RX5 175 yX5_isIn, Cond.static yX5_isIn, Cond.code yX5_isIn cX5_isIn 2 (some .boolean), Cond.methodLink RX5 124 yX5_cellsBarred, Cond.instanceMethod yX5_cellsBarred, Cond.selects RX5 yX5_cellsBarred yX5_cellsBarred, Cond.code yX5_cellsBarred cX5_cellsBarred 6 (some .int), Cond.fieldLink RX5 41 "ShornHillModel" "sheetSize" "[I", Cond.fieldLink RX5 44 "ShornHillModel" "sheetLane" "[I", Cond.methodLink RX5 108 yX5_failed, Cond.instanceMethod yX5_failed, Cond.selects RX5 yX5_failed yX5_failed, Cond.code yX5_failed cX5_failed 2 (some .int), Cond.methodLink RX5 112 yX5_isBeyond, Cond.static yX5_isBeyond, Cond.code yX5_isBeyond cX5_isBeyond 4 (some .boolean), Cond.methodLink RX5 180 yX5_goPath, Cond.instanceMethod yX5_goPath, Cond.selects RX5 yX5_goPath yX5_goPath, Cond.code yX5_goPath cX5_goPath 7 none, Cond.methodLink RX5 172 yX5_beside, Cond.instanceMethod yX5_beside, Cond.selects RX5 yX5_beside yX5_beside]
def wsX5_path_r4 : List Cond := [Cond.code yX5_beside cX5_beside 5 (some .int), Cond.methodLink RX5 184 yX5_coatsOf, Cond.instanceMethod yX5_coatsOf, Cond.selects RX5 yX5_coatsOf yX5_coatsOf, Cond.code yX5_coatsOf cX5_coatsOf 5 (some .int)]
def wsX5_path : List Cond := .code yX5_path cX5_path 10 (some .int) :: ((wsX5_path_r1 ++ (wsX5_path_r2 ++ (wsX5_path_r3 ++ wsX5_path_r4))) ++ wsX50)
def wsX5_goFleece : List Cond := .code yX5_goFleece cX5_goFleece 9 none :: ([.fieldLink RX5 19 "ShornHillModel" "placeAt" "[I", .fieldLink RX5 22 "ShornHillModel" "nextAt" "[I", .fieldLink RX5 187 "ShornHillModel" "most" "I", .fieldLink RX5 25 "ShornHillModel" "rowBest" "[I", .methodLink RX5 190 yX5_bits, .static yX5_bits, .initialized RX5, .code yX5_bits cX5_bits 3 (some .int), .methodLink RX5 172 yX5_beside, .instanceMethod yX5_beside, .selects RX5 yX5_beside yX5_beside, .code yX5_beside cX5_beside 5 (some .int), .fieldLink RX5 66 "ShornHillModel" "wide" "I", .fieldLink RX5 63 "ShornHillModel" "high" "I", .methodLink RX5 73 yX5_in, .static yX5_in, .code yX5_in cX5_in 6 (some .boolean), .methodLink RX5 175 yX5_isIn, .static yX5_isIn, .code yX5_isIn cX5_isIn 2 (some .boolean)] ++ wsX50)
def wsX5_fleece_r1 : List Cond := [Cond.constantLong RX5 193 (-1), Cond.constantLong RX5 195 (14), Cond.fieldLink RX5 187 "ShornHillModel" "most" "I", Cond.fieldLink RX5 25 "ShornHillModel" "rowBest" "[I", Cond.methodLink RX5 77 yX5_noPlace, Cond.instanceMethod yX5_noPlace, Cond.selects RX5 yX5_noPlace yX5_noPlace, Cond.initialized RX5, Cond.code yX5_noPlace cX5_noPlace 2 (some .boolean), Cond.methodLink RX5 69 yX5_cells, Cond.instanceMethod yX5_cells, Cond.selects RX5 yX5_cells yX5_cells, Cond.code yX5_cells cX5_cells 1 (some .int), Cond.fieldLink RX5 63 "ShornHillModel" "high" "I", Cond.fieldLink RX5 66 "ShornHillModel" "wide" "I", Cond.methodLink RX5 73 yX5_in, Cond.static yX5_in, Cond.code yX5_in cX5_in 6 (some .boolean), Cond.methodLink RX5 157 yX5_noWeeks, Cond.static yX5_noWeeks, Cond.code yX5_noWeeks cX5_noWeeks 1 (some .boolean), Cond.constantLong RX5 150 (9), Cond.methodLink RX5 160 yX5_ripeBy, Cond.instanceMethod yX5_ripeBy]
def wsX5_fleece_r2 : List Cond := [Cond.selects RX5 yX5_ripeBy yX5_ripeBy, Cond.code yX5_ripeBy cX5_ripeBy 4 (some .int), Cond.fieldLink RX5 135 "ShornHillModel" "breadthNow" "I", Cond.methodLink RX5 147 yX5_coatOf, Cond.instanceMethod yX5_coatOf, Cond.selects RX5 yX5_coatOf yX5_coatOf, Cond.code yX5_coatOf cX5_coatOf 4 (some .int), Cond.fieldLink RX5 13 "ShornHillModel" "ateOf" "[I", Cond.fieldLink RX5 7 "ShornHillModel" "kindOf" "[I", Cond.methodLink RX5 144 yX5_growsOf, Cond.instanceMethod yX5_growsOf, Cond.selects RX5 yX5_growsOf yX5_growsOf, Cond.code yX5_growsOf cX5_growsOf 3 (some .int), Cond.fieldLink RX5 132 "ShornHillModel" "paceNow" "I", Cond.methodLink RX5 175 yX5_isIn, Cond.static yX5_isIn, Cond.code yX5_isIn cX5_isIn 2 (some .boolean), Cond.methodLink RX5 197 yX5_goFleece, Cond.instanceMethod yX5_goFleece, Cond.selects RX5 yX5_goFleece yX5_goFleece, Cond.code yX5_goFleece cX5_goFleece 9 none, Cond.fieldLink RX5 19 "ShornHillModel" "placeAt" "[I", Cond.fieldLink RX5 22 "ShornHillModel" "nextAt" "[I", Cond.methodLink RX5 190 yX5_bits]
def wsX5_fleece_r3 : List Cond := [Cond.static yX5_bits, Cond.code yX5_bits cX5_bits 3 (some .int), Cond.methodLink RX5 172 yX5_beside, Cond.instanceMethod yX5_beside, Cond.selects RX5 yX5_beside yX5_beside, Cond.code yX5_beside cX5_beside 5 (some .int)]
def wsX5_fleece : List Cond := .code yX5_fleece cX5_fleece 4 (some .int) :: ((wsX5_fleece_r1 ++ (wsX5_fleece_r2 ++ wsX5_fleece_r3)) ++ wsX50)
def wsX5_startBy_r1 : List Cond := [Cond.fieldLink RX5 187 "ShornHillModel" "most" "I", Cond.methodLink RX5 160 yX5_ripeBy, Cond.instanceMethod yX5_ripeBy, Cond.selects RX5 yX5_ripeBy yX5_ripeBy, Cond.initialized RX5, Cond.code yX5_ripeBy cX5_ripeBy 4 (some .int), Cond.fieldLink RX5 135 "ShornHillModel" "breadthNow" "I", Cond.methodLink RX5 69 yX5_cells, Cond.instanceMethod yX5_cells, Cond.selects RX5 yX5_cells yX5_cells, Cond.code yX5_cells cX5_cells 1 (some .int), Cond.fieldLink RX5 63 "ShornHillModel" "high" "I", Cond.fieldLink RX5 66 "ShornHillModel" "wide" "I", Cond.methodLink RX5 147 yX5_coatOf, Cond.instanceMethod yX5_coatOf, Cond.selects RX5 yX5_coatOf yX5_coatOf, Cond.code yX5_coatOf cX5_coatOf 4 (some .int), Cond.fieldLink RX5 13 "ShornHillModel" "ateOf" "[I", Cond.fieldLink RX5 7 "ShornHillModel" "kindOf" "[I", Cond.methodLink RX5 144 yX5_growsOf, Cond.instanceMethod yX5_growsOf, Cond.selects RX5 yX5_growsOf yX5_growsOf, Cond.code yX5_growsOf cX5_growsOf 3 (some .int), Cond.fieldLink RX5 132 "ShornHillModel" "paceNow" "I"]
def wsX5_startBy_r2 : List Cond := [Cond.methodLink RX5 175 yX5_isIn, Cond.static yX5_isIn, Cond.code yX5_isIn cX5_isIn 2 (some .boolean), Cond.methodLink RX5 190 yX5_bits, Cond.static yX5_bits, Cond.code yX5_bits cX5_bits 3 (some .int), Cond.methodLink RX5 197 yX5_goFleece, Cond.instanceMethod yX5_goFleece, Cond.selects RX5 yX5_goFleece yX5_goFleece, Cond.code yX5_goFleece cX5_goFleece 9 none, Cond.fieldLink RX5 19 "ShornHillModel" "placeAt" "[I", Cond.fieldLink RX5 22 "ShornHillModel" "nextAt" "[I", Cond.fieldLink RX5 25 "ShornHillModel" "rowBest" "[I", Cond.methodLink RX5 172 yX5_beside, Cond.instanceMethod yX5_beside, Cond.selects RX5 yX5_beside yX5_beside, Cond.code yX5_beside cX5_beside 5 (some .int), Cond.methodLink RX5 73 yX5_in, Cond.static yX5_in, Cond.code yX5_in cX5_in 6 (some .boolean)]
def wsX5_startBy : List Cond := .code yX5_startBy cX5_startBy 6 (some .int) :: ((wsX5_startBy_r1 ++ wsX5_startBy_r2) ++ wsX50)
def wsX5_start_r1 : List Cond := [Cond.fieldLink RX5 63 "ShornHillModel" "high" "I", Cond.methodLink RX5 157 yX5_noWeeks, Cond.static yX5_noWeeks, Cond.initialized RX5, Cond.code yX5_noWeeks cX5_noWeeks 1 (some .boolean), Cond.constantLong RX5 150 (9), Cond.methodLink RX5 73 yX5_in, Cond.static yX5_in, Cond.code yX5_in cX5_in 6 (some .boolean), Cond.methodLink RX5 201 yX5_startBy, Cond.instanceMethod yX5_startBy, Cond.selects RX5 yX5_startBy yX5_startBy, Cond.code yX5_startBy cX5_startBy 6 (some .int), Cond.fieldLink RX5 187 "ShornHillModel" "most" "I", Cond.methodLink RX5 160 yX5_ripeBy, Cond.instanceMethod yX5_ripeBy, Cond.selects RX5 yX5_ripeBy yX5_ripeBy, Cond.code yX5_ripeBy cX5_ripeBy 4 (some .int), Cond.fieldLink RX5 135 "ShornHillModel" "breadthNow" "I", Cond.methodLink RX5 69 yX5_cells, Cond.instanceMethod yX5_cells, Cond.selects RX5 yX5_cells yX5_cells, Cond.code yX5_cells cX5_cells 1 (some .int), Cond.fieldLink RX5 66 "ShornHillModel" "wide" "I"]
def wsX5_start_r2 : List Cond := [Cond.methodLink RX5 147 yX5_coatOf, Cond.instanceMethod yX5_coatOf, Cond.selects RX5 yX5_coatOf yX5_coatOf, Cond.code yX5_coatOf cX5_coatOf 4 (some .int), Cond.fieldLink RX5 13 "ShornHillModel" "ateOf" "[I", Cond.fieldLink RX5 7 "ShornHillModel" "kindOf" "[I", Cond.methodLink RX5 144 yX5_growsOf, Cond.instanceMethod yX5_growsOf, Cond.selects RX5 yX5_growsOf yX5_growsOf, Cond.code yX5_growsOf cX5_growsOf 3 (some .int), Cond.fieldLink RX5 132 "ShornHillModel" "paceNow" "I", Cond.methodLink RX5 175 yX5_isIn, Cond.static yX5_isIn, Cond.code yX5_isIn cX5_isIn 2 (some .boolean), Cond.methodLink RX5 190 yX5_bits, Cond.static yX5_bits, Cond.code yX5_bits cX5_bits 3 (some .int), Cond.methodLink RX5 197 yX5_goFleece, Cond.instanceMethod yX5_goFleece, Cond.selects RX5 yX5_goFleece yX5_goFleece, Cond.code yX5_goFleece cX5_goFleece 9 none, Cond.fieldLink RX5 19 "ShornHillModel" "placeAt" "[I", Cond.fieldLink RX5 22 "ShornHillModel" "nextAt" "[I", Cond.fieldLink RX5 25 "ShornHillModel" "rowBest" "[I"]
def wsX5_start_r3 : List Cond := [Cond.methodLink RX5 172 yX5_beside, Cond.instanceMethod yX5_beside, Cond.selects RX5 yX5_beside yX5_beside, Cond.code yX5_beside cX5_beside 5 (some .int)]
def wsX5_start : List Cond := .code yX5_start cX5_start 2 (some .int) :: ((wsX5_start_r1 ++ (wsX5_start_r2 ++ wsX5_start_r3)) ++ wsX50)
def wsX5_isWholeFrom_r1 : List Cond := [Cond.fieldLink RX5 187 "ShornHillModel" "most" "I", Cond.methodLink RX5 160 yX5_ripeBy, Cond.instanceMethod yX5_ripeBy, Cond.selects RX5 yX5_ripeBy yX5_ripeBy, Cond.initialized RX5, Cond.code yX5_ripeBy cX5_ripeBy 4 (some .int), Cond.fieldLink RX5 135 "ShornHillModel" "breadthNow" "I", Cond.methodLink RX5 69 yX5_cells, Cond.instanceMethod yX5_cells, Cond.selects RX5 yX5_cells yX5_cells, Cond.code yX5_cells cX5_cells 1 (some .int), Cond.fieldLink RX5 63 "ShornHillModel" "high" "I", Cond.fieldLink RX5 66 "ShornHillModel" "wide" "I", Cond.methodLink RX5 147 yX5_coatOf, Cond.instanceMethod yX5_coatOf, Cond.selects RX5 yX5_coatOf yX5_coatOf, Cond.code yX5_coatOf cX5_coatOf 4 (some .int), Cond.fieldLink RX5 13 "ShornHillModel" "ateOf" "[I", Cond.fieldLink RX5 7 "ShornHillModel" "kindOf" "[I", Cond.methodLink RX5 144 yX5_growsOf, Cond.instanceMethod yX5_growsOf, Cond.selects RX5 yX5_growsOf yX5_growsOf, Cond.code yX5_growsOf cX5_growsOf 3 (some .int), Cond.fieldLink RX5 132 "ShornHillModel" "paceNow" "I"]
def wsX5_isWholeFrom_r2 : List Cond := [Cond.methodLink RX5 175 yX5_isIn, Cond.static yX5_isIn, Cond.code yX5_isIn cX5_isIn 2 (some .boolean), Cond.methodLink RX5 190 yX5_bits, Cond.static yX5_bits, Cond.code yX5_bits cX5_bits 3 (some .int), Cond.methodLink RX5 141 yX5_thornsNow, Cond.instanceMethod yX5_thornsNow, Cond.selects RX5 yX5_thornsNow yX5_thornsNow, Cond.code yX5_thornsNow cX5_thornsNow 3 (some .int), Cond.methodLink RX5 197 yX5_goFleece, Cond.instanceMethod yX5_goFleece, Cond.selects RX5 yX5_goFleece yX5_goFleece, Cond.code yX5_goFleece cX5_goFleece 9 none, Cond.fieldLink RX5 19 "ShornHillModel" "placeAt" "[I", Cond.fieldLink RX5 22 "ShornHillModel" "nextAt" "[I", Cond.fieldLink RX5 25 "ShornHillModel" "rowBest" "[I", Cond.methodLink RX5 172 yX5_beside, Cond.instanceMethod yX5_beside, Cond.selects RX5 yX5_beside yX5_beside, Cond.code yX5_beside cX5_beside 5 (some .int), Cond.methodLink RX5 73 yX5_in, Cond.static yX5_in, Cond.code yX5_in cX5_in 6 (some .boolean)]
def wsX5_isWholeFrom : List Cond := .code yX5_isWholeFrom cX5_isWholeFrom 4 (some .boolean) :: ((wsX5_isWholeFrom_r1 ++ wsX5_isWholeFrom_r2) ++ wsX50)
def wsX5_isWhole_r1 : List Cond := [Cond.methodLink RX5 69 yX5_cells, Cond.instanceMethod yX5_cells, Cond.selects RX5 yX5_cells yX5_cells, Cond.initialized RX5, Cond.code yX5_cells cX5_cells 1 (some .int), Cond.fieldLink RX5 63 "ShornHillModel" "high" "I", Cond.fieldLink RX5 66 "ShornHillModel" "wide" "I", Cond.methodLink RX5 204 yX5_isWholeFrom, Cond.instanceMethod yX5_isWholeFrom, Cond.selects RX5 yX5_isWholeFrom yX5_isWholeFrom, Cond.code yX5_isWholeFrom cX5_isWholeFrom 4 (some .boolean), Cond.fieldLink RX5 187 "ShornHillModel" "most" "I", Cond.methodLink RX5 160 yX5_ripeBy, Cond.instanceMethod yX5_ripeBy, Cond.selects RX5 yX5_ripeBy yX5_ripeBy, Cond.code yX5_ripeBy cX5_ripeBy 4 (some .int), Cond.fieldLink RX5 135 "ShornHillModel" "breadthNow" "I", Cond.methodLink RX5 147 yX5_coatOf, Cond.instanceMethod yX5_coatOf, Cond.selects RX5 yX5_coatOf yX5_coatOf, Cond.code yX5_coatOf cX5_coatOf 4 (some .int), Cond.fieldLink RX5 13 "ShornHillModel" "ateOf" "[I", Cond.fieldLink RX5 7 "ShornHillModel" "kindOf" "[I", Cond.methodLink RX5 144 yX5_growsOf]
def wsX5_isWhole_r2 : List Cond := [Cond.instanceMethod yX5_growsOf, Cond.selects RX5 yX5_growsOf yX5_growsOf, Cond.code yX5_growsOf cX5_growsOf 3 (some .int), Cond.fieldLink RX5 132 "ShornHillModel" "paceNow" "I", Cond.methodLink RX5 175 yX5_isIn, Cond.static yX5_isIn, Cond.code yX5_isIn cX5_isIn 2 (some .boolean), Cond.methodLink RX5 190 yX5_bits, Cond.static yX5_bits, Cond.code yX5_bits cX5_bits 3 (some .int), Cond.methodLink RX5 141 yX5_thornsNow, Cond.instanceMethod yX5_thornsNow, Cond.selects RX5 yX5_thornsNow yX5_thornsNow, Cond.code yX5_thornsNow cX5_thornsNow 3 (some .int), Cond.methodLink RX5 197 yX5_goFleece, Cond.instanceMethod yX5_goFleece, Cond.selects RX5 yX5_goFleece yX5_goFleece, Cond.code yX5_goFleece cX5_goFleece 9 none, Cond.fieldLink RX5 19 "ShornHillModel" "placeAt" "[I", Cond.fieldLink RX5 22 "ShornHillModel" "nextAt" "[I", Cond.fieldLink RX5 25 "ShornHillModel" "rowBest" "[I", Cond.methodLink RX5 172 yX5_beside, Cond.instanceMethod yX5_beside, Cond.selects RX5 yX5_beside yX5_beside]
def wsX5_isWhole_r3 : List Cond := [Cond.code yX5_beside cX5_beside 5 (some .int), Cond.methodLink RX5 73 yX5_in, Cond.static yX5_in, Cond.code yX5_in cX5_in 6 (some .boolean)]
def wsX5_isWhole : List Cond := .code yX5_isWhole cX5_isWhole 4 (some .boolean) :: ((wsX5_isWhole_r1 ++ (wsX5_isWhole_r2 ++ wsX5_isWhole_r3)) ++ wsX50)
def wsX5_whole_r1 : List Cond := [Cond.methodLink RX5 152 yX5_noGrass, Cond.instanceMethod yX5_noGrass, Cond.selects RX5 yX5_noGrass yX5_noGrass, Cond.initialized RX5, Cond.code yX5_noGrass cX5_noGrass 2 (some .boolean), Cond.fieldLink RX5 7 "ShornHillModel" "kindOf" "[I", Cond.methodLink RX5 77 yX5_noPlace, Cond.instanceMethod yX5_noPlace, Cond.selects RX5 yX5_noPlace yX5_noPlace, Cond.code yX5_noPlace cX5_noPlace 2 (some .boolean), Cond.methodLink RX5 69 yX5_cells, Cond.instanceMethod yX5_cells, Cond.selects RX5 yX5_cells yX5_cells, Cond.code yX5_cells cX5_cells 1 (some .int), Cond.fieldLink RX5 63 "ShornHillModel" "high" "I", Cond.fieldLink RX5 66 "ShornHillModel" "wide" "I", Cond.methodLink RX5 73 yX5_in, Cond.static yX5_in, Cond.code yX5_in cX5_in 6 (some .boolean), Cond.methodLink RX5 204 yX5_isWholeFrom, Cond.instanceMethod yX5_isWholeFrom, Cond.selects RX5 yX5_isWholeFrom yX5_isWholeFrom, Cond.code yX5_isWholeFrom cX5_isWholeFrom 4 (some .boolean), Cond.fieldLink RX5 187 "ShornHillModel" "most" "I"]
def wsX5_whole_r2 : List Cond := [Cond.methodLink RX5 160 yX5_ripeBy, Cond.instanceMethod yX5_ripeBy, Cond.selects RX5 yX5_ripeBy yX5_ripeBy, Cond.code yX5_ripeBy cX5_ripeBy 4 (some .int), Cond.fieldLink RX5 135 "ShornHillModel" "breadthNow" "I", Cond.methodLink RX5 147 yX5_coatOf, Cond.instanceMethod yX5_coatOf, Cond.selects RX5 yX5_coatOf yX5_coatOf, Cond.code yX5_coatOf cX5_coatOf 4 (some .int), Cond.fieldLink RX5 13 "ShornHillModel" "ateOf" "[I", Cond.methodLink RX5 144 yX5_growsOf, Cond.instanceMethod yX5_growsOf, Cond.selects RX5 yX5_growsOf yX5_growsOf, Cond.code yX5_growsOf cX5_growsOf 3 (some .int), Cond.fieldLink RX5 132 "ShornHillModel" "paceNow" "I", Cond.methodLink RX5 175 yX5_isIn, Cond.static yX5_isIn, Cond.code yX5_isIn cX5_isIn 2 (some .boolean), Cond.methodLink RX5 190 yX5_bits, Cond.static yX5_bits, Cond.code yX5_bits cX5_bits 3 (some .int), Cond.methodLink RX5 141 yX5_thornsNow, Cond.instanceMethod yX5_thornsNow, Cond.selects RX5 yX5_thornsNow yX5_thornsNow]
def wsX5_whole_r3 : List Cond := [Cond.code yX5_thornsNow cX5_thornsNow 3 (some .int), Cond.methodLink RX5 197 yX5_goFleece, Cond.instanceMethod yX5_goFleece, Cond.selects RX5 yX5_goFleece yX5_goFleece, Cond.code yX5_goFleece cX5_goFleece 9 none, Cond.fieldLink RX5 19 "ShornHillModel" "placeAt" "[I", Cond.fieldLink RX5 22 "ShornHillModel" "nextAt" "[I", Cond.fieldLink RX5 25 "ShornHillModel" "rowBest" "[I", Cond.methodLink RX5 172 yX5_beside, Cond.instanceMethod yX5_beside, Cond.selects RX5 yX5_beside yX5_beside, Cond.code yX5_beside cX5_beside 5 (some .int)]
def wsX5_whole : List Cond := .code yX5_whole cX5_whole 3 (some .int) :: ((wsX5_whole_r1 ++ (wsX5_whole_r2 ++ wsX5_whole_r3)) ++ wsX50)
def wsX5_stops_r1 : List Cond := [Cond.fieldLink RX5 63 "ShornHillModel" "high" "I", Cond.fieldLink RX5 7 "ShornHillModel" "kindOf" "[I", Cond.methodLink RX5 157 yX5_noWeeks, Cond.static yX5_noWeeks, Cond.initialized RX5, Cond.code yX5_noWeeks cX5_noWeeks 1 (some .boolean), Cond.constantLong RX5 150 (9), Cond.methodLink RX5 73 yX5_in, Cond.static yX5_in, Cond.code yX5_in cX5_in 6 (some .boolean), Cond.methodLink RX5 207 yX5_isWhole, Cond.instanceMethod yX5_isWhole, Cond.selects RX5 yX5_isWhole yX5_isWhole, Cond.code yX5_isWhole cX5_isWhole 4 (some .boolean), Cond.methodLink RX5 69 yX5_cells, Cond.instanceMethod yX5_cells, Cond.selects RX5 yX5_cells yX5_cells, Cond.code yX5_cells cX5_cells 1 (some .int), Cond.fieldLink RX5 66 "ShornHillModel" "wide" "I", Cond.methodLink RX5 204 yX5_isWholeFrom, Cond.instanceMethod yX5_isWholeFrom, Cond.selects RX5 yX5_isWholeFrom yX5_isWholeFrom, Cond.code yX5_isWholeFrom cX5_isWholeFrom 4 (some .boolean), Cond.fieldLink RX5 187 "ShornHillModel" "most" "I"]
def wsX5_stops_r2 : List Cond := [Cond.methodLink RX5 160 yX5_ripeBy, Cond.instanceMethod yX5_ripeBy, Cond.selects RX5 yX5_ripeBy yX5_ripeBy, Cond.code yX5_ripeBy cX5_ripeBy 4 (some .int), Cond.fieldLink RX5 135 "ShornHillModel" "breadthNow" "I", Cond.methodLink RX5 147 yX5_coatOf, Cond.instanceMethod yX5_coatOf, Cond.selects RX5 yX5_coatOf yX5_coatOf, Cond.code yX5_coatOf cX5_coatOf 4 (some .int), Cond.fieldLink RX5 13 "ShornHillModel" "ateOf" "[I", Cond.methodLink RX5 144 yX5_growsOf, Cond.instanceMethod yX5_growsOf, Cond.selects RX5 yX5_growsOf yX5_growsOf, Cond.code yX5_growsOf cX5_growsOf 3 (some .int), Cond.fieldLink RX5 132 "ShornHillModel" "paceNow" "I", Cond.methodLink RX5 175 yX5_isIn, Cond.static yX5_isIn, Cond.code yX5_isIn cX5_isIn 2 (some .boolean), Cond.methodLink RX5 190 yX5_bits, Cond.static yX5_bits, Cond.code yX5_bits cX5_bits 3 (some .int), Cond.methodLink RX5 141 yX5_thornsNow, Cond.instanceMethod yX5_thornsNow, Cond.selects RX5 yX5_thornsNow yX5_thornsNow]
def wsX5_stops_r3 : List Cond := [Cond.code yX5_thornsNow cX5_thornsNow 3 (some .int), Cond.methodLink RX5 197 yX5_goFleece, Cond.instanceMethod yX5_goFleece, Cond.selects RX5 yX5_goFleece yX5_goFleece, Cond.code yX5_goFleece cX5_goFleece 9 none, Cond.fieldLink RX5 19 "ShornHillModel" "placeAt" "[I", Cond.fieldLink RX5 22 "ShornHillModel" "nextAt" "[I", Cond.fieldLink RX5 25 "ShornHillModel" "rowBest" "[I", Cond.methodLink RX5 172 yX5_beside, Cond.instanceMethod yX5_beside, Cond.selects RX5 yX5_beside yX5_beside, Cond.code yX5_beside cX5_beside 5 (some .int)]
def wsX5_stops : List Cond := .code yX5_stops cX5_stops 5 (some .int) :: ((wsX5_stops_r1 ++ (wsX5_stops_r2 ++ wsX5_stops_r3)) ++ wsX50)
def wsX5_reading_r1 : List Cond := [Cond.constantLong RX5 150 (9), Cond.fieldLink RX5 138 "ShornHillModel" "readings" "I", Cond.fieldLink RX5 28 "ShornHillModel" "readingOf" "[I", Cond.fieldLink RX5 31 "ShornHillModel" "readingBy" "[I", Cond.fieldLink RX5 34 "ShornHillModel" "readingWas" "[I", Cond.methodLink RX5 152 yX5_noGrass, Cond.instanceMethod yX5_noGrass, Cond.selects RX5 yX5_noGrass yX5_noGrass, Cond.initialized RX5, Cond.code yX5_noGrass cX5_noGrass 2 (some .boolean), Cond.fieldLink RX5 7 "ShornHillModel" "kindOf" "[I", Cond.methodLink RX5 77 yX5_noPlace, Cond.instanceMethod yX5_noPlace, Cond.selects RX5 yX5_noPlace yX5_noPlace, Cond.code yX5_noPlace cX5_noPlace 2 (some .boolean), Cond.methodLink RX5 69 yX5_cells, Cond.instanceMethod yX5_cells, Cond.selects RX5 yX5_cells yX5_cells, Cond.code yX5_cells cX5_cells 1 (some .int), Cond.fieldLink RX5 63 "ShornHillModel" "high" "I", Cond.fieldLink RX5 66 "ShornHillModel" "wide" "I", Cond.methodLink RX5 73 yX5_in, Cond.static yX5_in, Cond.code yX5_in cX5_in 6 (some .boolean)]
def wsX5_reading_r2 : List Cond := [Cond.methodLink RX5 157 yX5_noWeeks, Cond.static yX5_noWeeks, Cond.code yX5_noWeeks cX5_noWeeks 1 (some .boolean)]
def wsX5_reading : List Cond := .code yX5_reading cX5_reading 4 (some .int) :: ((wsX5_reading_r1 ++ wsX5_reading_r2) ++ wsX50)
def wsX5_back : List Cond := .code yX5_back cX5_back 2 (some .int) :: ([.fieldLink RX5 138 "ShornHillModel" "readings" "I", .methodLink RX5 73 yX5_in, .static yX5_in, .initialized RX5, .code yX5_in cX5_in 6 (some .boolean)] ++ wsX50)
def wsX5_areSo : List Cond := .code yX5_areSo cX5_areSo 3 (some .boolean) :: ([.fieldLink RX5 138 "ShornHillModel" "readings" "I", .fieldLink RX5 28 "ShornHillModel" "readingOf" "[I", .fieldLink RX5 31 "ShornHillModel" "readingBy" "[I", .fieldLink RX5 34 "ShornHillModel" "readingWas" "[I", .methodLink RX5 147 yX5_coatOf, .instanceMethod yX5_coatOf, .selects RX5 yX5_coatOf yX5_coatOf, .initialized RX5, .code yX5_coatOf cX5_coatOf 4 (some .int), .fieldLink RX5 13 "ShornHillModel" "ateOf" "[I", .fieldLink RX5 7 "ShornHillModel" "kindOf" "[I", .methodLink RX5 144 yX5_growsOf, .instanceMethod yX5_growsOf, .selects RX5 yX5_growsOf yX5_growsOf, .code yX5_growsOf cX5_growsOf 3 (some .int), .fieldLink RX5 132 "ShornHillModel" "paceNow" "I"] ++ wsX50)
def wsX5_kinds_r1 : List Cond := [Cond.fieldLink RX5 7 "ShornHillModel" "kindOf" "[I", Cond.methodLink RX5 152 yX5_noGrass, Cond.instanceMethod yX5_noGrass, Cond.selects RX5 yX5_noGrass yX5_noGrass, Cond.initialized RX5, Cond.code yX5_noGrass cX5_noGrass 2 (some .boolean), Cond.methodLink RX5 77 yX5_noPlace, Cond.instanceMethod yX5_noPlace, Cond.selects RX5 yX5_noPlace yX5_noPlace, Cond.code yX5_noPlace cX5_noPlace 2 (some .boolean), Cond.methodLink RX5 69 yX5_cells, Cond.instanceMethod yX5_cells, Cond.selects RX5 yX5_cells yX5_cells, Cond.code yX5_cells cX5_cells 1 (some .int), Cond.fieldLink RX5 63 "ShornHillModel" "high" "I", Cond.fieldLink RX5 66 "ShornHillModel" "wide" "I", Cond.methodLink RX5 73 yX5_in, Cond.static yX5_in, Cond.code yX5_in cX5_in 6 (some .boolean), Cond.methodLink RX5 210 yX5_areSo, Cond.instanceMethod yX5_areSo, Cond.selects RX5 yX5_areSo yX5_areSo, Cond.code yX5_areSo cX5_areSo 3 (some .boolean), Cond.fieldLink RX5 138 "ShornHillModel" "readings" "I"]
def wsX5_kinds_r2 : List Cond := [Cond.fieldLink RX5 28 "ShornHillModel" "readingOf" "[I", Cond.fieldLink RX5 31 "ShornHillModel" "readingBy" "[I", Cond.fieldLink RX5 34 "ShornHillModel" "readingWas" "[I", Cond.methodLink RX5 147 yX5_coatOf, Cond.instanceMethod yX5_coatOf, Cond.selects RX5 yX5_coatOf yX5_coatOf, Cond.code yX5_coatOf cX5_coatOf 4 (some .int), Cond.fieldLink RX5 13 "ShornHillModel" "ateOf" "[I", Cond.methodLink RX5 144 yX5_growsOf, Cond.instanceMethod yX5_growsOf, Cond.selects RX5 yX5_growsOf yX5_growsOf, Cond.code yX5_growsOf cX5_growsOf 3 (some .int), Cond.fieldLink RX5 132 "ShornHillModel" "paceNow" "I"]
def wsX5_kinds : List Cond := .code yX5_kinds cX5_kinds 5 (some .int) :: ((wsX5_kinds_r1 ++ wsX5_kinds_r2) ++ wsX50)
def wsX5_paces : List Cond := .code yX5_paces cX5_paces 4 (some .int) :: ([.fieldLink RX5 63 "ShornHillModel" "high" "I", .fieldLink RX5 132 "ShornHillModel" "paceNow" "I", .methodLink RX5 210 yX5_areSo, .instanceMethod yX5_areSo, .selects RX5 yX5_areSo yX5_areSo, .initialized RX5, .code yX5_areSo cX5_areSo 3 (some .boolean), .fieldLink RX5 138 "ShornHillModel" "readings" "I", .fieldLink RX5 28 "ShornHillModel" "readingOf" "[I", .fieldLink RX5 31 "ShornHillModel" "readingBy" "[I", .fieldLink RX5 34 "ShornHillModel" "readingWas" "[I", .methodLink RX5 147 yX5_coatOf, .instanceMethod yX5_coatOf, .selects RX5 yX5_coatOf yX5_coatOf, .code yX5_coatOf cX5_coatOf 4 (some .int), .fieldLink RX5 13 "ShornHillModel" "ateOf" "[I", .fieldLink RX5 7 "ShornHillModel" "kindOf" "[I", .methodLink RX5 144 yX5_growsOf, .instanceMethod yX5_growsOf, .selects RX5 yX5_growsOf yX5_growsOf, .code yX5_growsOf cX5_growsOf 3 (some .int)] ++ wsX50)
def wsX5_eatings_r1 : List Cond := [Cond.fieldLink RX5 13 "ShornHillModel" "ateOf" "[I", Cond.methodLink RX5 152 yX5_noGrass, Cond.instanceMethod yX5_noGrass, Cond.selects RX5 yX5_noGrass yX5_noGrass, Cond.initialized RX5, Cond.code yX5_noGrass cX5_noGrass 2 (some .boolean), Cond.fieldLink RX5 7 "ShornHillModel" "kindOf" "[I", Cond.methodLink RX5 77 yX5_noPlace, Cond.instanceMethod yX5_noPlace, Cond.selects RX5 yX5_noPlace yX5_noPlace, Cond.code yX5_noPlace cX5_noPlace 2 (some .boolean), Cond.methodLink RX5 69 yX5_cells, Cond.instanceMethod yX5_cells, Cond.selects RX5 yX5_cells yX5_cells, Cond.code yX5_cells cX5_cells 1 (some .int), Cond.fieldLink RX5 63 "ShornHillModel" "high" "I", Cond.fieldLink RX5 66 "ShornHillModel" "wide" "I", Cond.methodLink RX5 73 yX5_in, Cond.static yX5_in, Cond.code yX5_in cX5_in 6 (some .boolean), Cond.methodLink RX5 210 yX5_areSo, Cond.instanceMethod yX5_areSo, Cond.selects RX5 yX5_areSo yX5_areSo, Cond.code yX5_areSo cX5_areSo 3 (some .boolean)]
def wsX5_eatings_r2 : List Cond := [Cond.fieldLink RX5 138 "ShornHillModel" "readings" "I", Cond.fieldLink RX5 28 "ShornHillModel" "readingOf" "[I", Cond.fieldLink RX5 31 "ShornHillModel" "readingBy" "[I", Cond.fieldLink RX5 34 "ShornHillModel" "readingWas" "[I", Cond.methodLink RX5 147 yX5_coatOf, Cond.instanceMethod yX5_coatOf, Cond.selects RX5 yX5_coatOf yX5_coatOf, Cond.code yX5_coatOf cX5_coatOf 4 (some .int), Cond.methodLink RX5 144 yX5_growsOf, Cond.instanceMethod yX5_growsOf, Cond.selects RX5 yX5_growsOf yX5_growsOf, Cond.code yX5_growsOf cX5_growsOf 3 (some .int), Cond.fieldLink RX5 132 "ShornHillModel" "paceNow" "I"]
def wsX5_eatings : List Cond := .code yX5_eatings cX5_eatings 5 (some .int) :: ((wsX5_eatings_r1 ++ wsX5_eatings_r2) ++ wsX50)
def wsX5_waysOn : List Cond := .code yX5_waysOn cX5_waysOn 6 (some .int) :: ([.methodLink RX5 172 yX5_beside, .instanceMethod yX5_beside, .selects RX5 yX5_beside yX5_beside, .initialized RX5, .code yX5_beside cX5_beside 5 (some .int), .fieldLink RX5 66 "ShornHillModel" "wide" "I", .fieldLink RX5 63 "ShornHillModel" "high" "I", .methodLink RX5 73 yX5_in, .static yX5_in, .code yX5_in cX5_in 6 (some .boolean), .methodLink RX5 175 yX5_isIn, .static yX5_isIn, .code yX5_isIn cX5_isIn 2 (some .boolean)] ++ wsX50)
def wsX5_chanceFrom : List Cond := .code yX5_chanceFrom cX5_chanceFrom 12 (some .long) :: ([.fieldLink RX5 19 "ShornHillModel" "placeAt" "[I", .fieldLink RX5 22 "ShornHillModel" "nextAt" "[I", .fieldLink RX5 37 "ShornHillModel" "chanceAt" "[J", .methodLink RX5 172 yX5_beside, .instanceMethod yX5_beside, .selects RX5 yX5_beside yX5_beside, .initialized RX5, .code yX5_beside cX5_beside 5 (some .int), .fieldLink RX5 66 "ShornHillModel" "wide" "I", .fieldLink RX5 63 "ShornHillModel" "high" "I", .methodLink RX5 73 yX5_in, .static yX5_in, .code yX5_in cX5_in 6 (some .boolean), .methodLink RX5 175 yX5_isIn, .static yX5_isIn, .code yX5_isIn cX5_isIn 2 (some .boolean), .methodLink RX5 214 yX5_waysOn, .instanceMethod yX5_waysOn, .selects RX5 yX5_waysOn yX5_waysOn, .code yX5_waysOn cX5_waysOn 6 (some .int)] ++ wsX50)
def wsX5_odds_r1 : List Cond := [Cond.constantLong RX5 217 (12), Cond.methodLink RX5 77 yX5_noPlace, Cond.instanceMethod yX5_noPlace, Cond.selects RX5 yX5_noPlace yX5_noPlace, Cond.initialized RX5, Cond.code yX5_noPlace cX5_noPlace 2 (some .boolean), Cond.methodLink RX5 69 yX5_cells, Cond.instanceMethod yX5_cells, Cond.selects RX5 yX5_cells yX5_cells, Cond.code yX5_cells cX5_cells 1 (some .int), Cond.fieldLink RX5 63 "ShornHillModel" "high" "I", Cond.fieldLink RX5 66 "ShornHillModel" "wide" "I", Cond.methodLink RX5 73 yX5_in, Cond.static yX5_in, Cond.code yX5_in cX5_in 6 (some .boolean), Cond.methodLink RX5 157 yX5_noWeeks, Cond.static yX5_noWeeks, Cond.code yX5_noWeeks cX5_noWeeks 1 (some .boolean), Cond.constantLong RX5 150 (9), Cond.methodLink RX5 59 yX5_lost, Cond.static yX5_lost, Cond.code yX5_lost cX5_lost 0 (some .long), Cond.constantLong RX5 53 (-9223372036854775808), Cond.methodLink RX5 160 yX5_ripeBy]
def wsX5_odds_r2 : List Cond := [Cond.instanceMethod yX5_ripeBy, Cond.selects RX5 yX5_ripeBy yX5_ripeBy, Cond.code yX5_ripeBy cX5_ripeBy 4 (some .int), Cond.fieldLink RX5 135 "ShornHillModel" "breadthNow" "I", Cond.methodLink RX5 147 yX5_coatOf, Cond.instanceMethod yX5_coatOf, Cond.selects RX5 yX5_coatOf yX5_coatOf, Cond.code yX5_coatOf cX5_coatOf 4 (some .int), Cond.fieldLink RX5 13 "ShornHillModel" "ateOf" "[I", Cond.fieldLink RX5 7 "ShornHillModel" "kindOf" "[I", Cond.methodLink RX5 144 yX5_growsOf, Cond.instanceMethod yX5_growsOf, Cond.selects RX5 yX5_growsOf yX5_growsOf, Cond.code yX5_growsOf cX5_growsOf 3 (some .int), Cond.fieldLink RX5 132 "ShornHillModel" "paceNow" "I", Cond.methodLink RX5 175 yX5_isIn, Cond.static yX5_isIn, Cond.code yX5_isIn cX5_isIn 2 (some .boolean), Cond.methodLink RX5 219 yX5_chanceFrom, Cond.instanceMethod yX5_chanceFrom, Cond.selects RX5 yX5_chanceFrom yX5_chanceFrom, Cond.code yX5_chanceFrom cX5_chanceFrom 12 (some .long), Cond.fieldLink RX5 19 "ShornHillModel" "placeAt" "[I", Cond.fieldLink RX5 22 "ShornHillModel" "nextAt" "[I"]
def wsX5_odds_r3 : List Cond := [Cond.fieldLink RX5 37 "ShornHillModel" "chanceAt" "[J", Cond.methodLink RX5 172 yX5_beside, Cond.instanceMethod yX5_beside, Cond.selects RX5 yX5_beside yX5_beside, Cond.code yX5_beside cX5_beside 5 (some .int), Cond.methodLink RX5 214 yX5_waysOn, Cond.instanceMethod yX5_waysOn, Cond.selects RX5 yX5_waysOn yX5_waysOn, Cond.code yX5_waysOn cX5_waysOn 6 (some .int), Cond.methodLink RX5 223 yX5_share, Cond.static yX5_share, Cond.code yX5_share cX5_share 11 (some .long)]
def wsX5_odds : List Cond := .code yX5_odds cX5_odds 7 (some .long) :: ((wsX5_odds_r1 ++ (wsX5_odds_r2 ++ wsX5_odds_r3)) ++ wsX50)
def wsX5_sheet : List Cond := .code yX5_sheet cX5_sheet 5 (some .int) :: ([.constantLong RX5 122 (2), .fieldLink RX5 41 "ShornHillModel" "sheetSize" "[I", .fieldLink RX5 44 "ShornHillModel" "sheetLane" "[I", .fieldLink RX5 47 "ShornHillModel" "sheet" "[I", .methodLink RX5 116 yX5_noSheet, .static yX5_noSheet, .initialized RX5, .code yX5_noSheet cX5_noSheet 1 (some .boolean), .constantLong RX5 155 (3), .methodLink RX5 73 yX5_in, .static yX5_in, .code yX5_in cX5_in 6 (some .boolean), .methodLink RX5 119 yX5_refused, .instanceMethod yX5_refused, .selects RX5 yX5_refused yX5_refused, .code yX5_refused cX5_refused 2 (some .int), .fieldLink RX5 55 "ShornHillModel" "fault" "I", .methodLink RX5 108 yX5_failed, .instanceMethod yX5_failed, .selects RX5 yX5_failed yX5_failed, .code yX5_failed cX5_failed 2 (some .int)] ++ wsX50)
def wsX5_lose : List Cond := .code yX5_lose cX5_lose 3 (some .int) :: ([.fieldLink RX5 41 "ShornHillModel" "sheetSize" "[I", .methodLink RX5 116 yX5_noSheet, .static yX5_noSheet, .initialized RX5, .code yX5_noSheet cX5_noSheet 1 (some .boolean), .constantLong RX5 155 (3), .methodLink RX5 73 yX5_in, .static yX5_in, .code yX5_in cX5_in 6 (some .boolean)] ++ wsX50)
def wsX5_noCell : List Cond := .code yX5_noCell cX5_noCell 3 (some .int) :: ([.fieldLink RX5 41 "ShornHillModel" "sheetSize" "[I", .methodLink RX5 73 yX5_in, .static yX5_in, .initialized RX5, .code yX5_in cX5_in 6 (some .boolean)] ++ wsX50)
def wsX5_put : List Cond := .code yX5_put cX5_put 4 (some .int) :: ([.fieldLink RX5 47 "ShornHillModel" "sheet" "[I", .fieldLink RX5 44 "ShornHillModel" "sheetLane" "[I", .methodLink RX5 116 yX5_noSheet, .static yX5_noSheet, .initialized RX5, .code yX5_noSheet cX5_noSheet 1 (some .boolean), .constantLong RX5 155 (3), .methodLink RX5 73 yX5_in, .static yX5_in, .code yX5_in cX5_in 6 (some .boolean), .methodLink RX5 119 yX5_refused, .instanceMethod yX5_refused, .selects RX5 yX5_refused yX5_refused, .code yX5_refused cX5_refused 2 (some .int), .fieldLink RX5 55 "ShornHillModel" "fault" "I", .methodLink RX5 227 yX5_noCell, .instanceMethod yX5_noCell, .selects RX5 yX5_noCell yX5_noCell, .code yX5_noCell cX5_noCell 3 (some .int), .fieldLink RX5 41 "ShornHillModel" "sheetSize" "[I", .methodLink RX5 108 yX5_failed, .instanceMethod yX5_failed, .selects RX5 yX5_failed yX5_failed, .code yX5_failed cX5_failed 2 (some .int)] ++ wsX50)
def wsX5_cell_r1 : List Cond := [Cond.fieldLink RX5 55 "ShornHillModel" "fault" "I", Cond.constantLong RX5 122 (2), Cond.fieldLink RX5 41 "ShornHillModel" "sheetSize" "[I", Cond.fieldLink RX5 44 "ShornHillModel" "sheetLane" "[I", Cond.fieldLink RX5 47 "ShornHillModel" "sheet" "[I", Cond.methodLink RX5 116 yX5_noSheet, Cond.static yX5_noSheet, Cond.initialized RX5, Cond.code yX5_noSheet cX5_noSheet 1 (some .boolean), Cond.constantLong RX5 155 (3), Cond.methodLink RX5 73 yX5_in, Cond.static yX5_in, Cond.code yX5_in cX5_in 6 (some .boolean), Cond.methodLink RX5 59 yX5_lost, Cond.static yX5_lost, Cond.code yX5_lost cX5_lost 0 (some .long), Cond.constantLong RX5 53 (-9223372036854775808), Cond.methodLink RX5 230 yX5_failedLong, Cond.instanceMethod yX5_failedLong, Cond.selects RX5 yX5_failedLong yX5_failedLong, Cond.code yX5_failedLong cX5_failedLong 2 (some .long), Cond.methodLink RX5 227 yX5_noCell, Cond.instanceMethod yX5_noCell, Cond.selects RX5 yX5_noCell yX5_noCell]
def wsX5_cell_r2 : List Cond := [Cond.code yX5_noCell cX5_noCell 3 (some .int)]
def wsX5_cell : List Cond := .code yX5_cell cX5_cell 4 (some .long) :: ((wsX5_cell_r1 ++ wsX5_cell_r2) ++ wsX50)
def wsX5_copy : List Cond := .code yX5_copy cX5_copy 7 (some .int) :: ([.fieldLink RX5 41 "ShornHillModel" "sheetSize" "[I", .fieldLink RX5 44 "ShornHillModel" "sheetLane" "[I", .fieldLink RX5 50 "ShornHillModel" "hands" "[I", .fieldLink RX5 47 "ShornHillModel" "sheet" "[I", .methodLink RX5 116 yX5_noSheet, .static yX5_noSheet, .initialized RX5, .code yX5_noSheet cX5_noSheet 1 (some .boolean), .constantLong RX5 155 (3), .methodLink RX5 73 yX5_in, .static yX5_in, .code yX5_in cX5_in 6 (some .boolean), .methodLink RX5 119 yX5_refused, .instanceMethod yX5_refused, .selects RX5 yX5_refused yX5_refused, .code yX5_refused cX5_refused 2 (some .int), .fieldLink RX5 55 "ShornHillModel" "fault" "I", .methodLink RX5 108 yX5_failed, .instanceMethod yX5_failed, .selects RX5 yX5_failed yX5_failed, .code yX5_failed cX5_failed 2 (some .int), .methodLink RX5 112 yX5_isBeyond, .static yX5_isBeyond, .code yX5_isBeyond cX5_isBeyond 4 (some .boolean)] ++ wsX50)
def wsX5_traced : List Cond := .code yX5_traced cX5_traced 2 none :: ([.fieldLink RX5 234 "ShornHillModel" "traceNow" "I"] ++ wsX50)
def wsX5_tell_r1 : List Cond := [Cond.fieldLink RX5 7 "ShornHillModel" "kindOf" "[I", Cond.fieldLink RX5 13 "ShornHillModel" "ateOf" "[I", Cond.methodLink RX5 152 yX5_noGrass, Cond.instanceMethod yX5_noGrass, Cond.selects RX5 yX5_noGrass yX5_noGrass, Cond.initialized RX5, Cond.code yX5_noGrass cX5_noGrass 2 (some .boolean), Cond.methodLink RX5 77 yX5_noPlace, Cond.instanceMethod yX5_noPlace, Cond.selects RX5 yX5_noPlace yX5_noPlace, Cond.code yX5_noPlace cX5_noPlace 2 (some .boolean), Cond.methodLink RX5 69 yX5_cells, Cond.instanceMethod yX5_cells, Cond.selects RX5 yX5_cells yX5_cells, Cond.code yX5_cells cX5_cells 1 (some .int), Cond.fieldLink RX5 63 "ShornHillModel" "high" "I", Cond.fieldLink RX5 66 "ShornHillModel" "wide" "I", Cond.methodLink RX5 73 yX5_in, Cond.static yX5_in, Cond.code yX5_in cX5_in 6 (some .boolean), Cond.methodLink RX5 237 yX5_traced, Cond.instanceMethod yX5_traced, Cond.selects RX5 yX5_traced yX5_traced, Cond.code yX5_traced cX5_traced 2 none]
def wsX5_tell_r2 : List Cond := [Cond.fieldLink RX5 234 "ShornHillModel" "traceNow" "I"]
def wsX5_tell : List Cond := .code yX5_tell cX5_tell 4 (some .int) :: ((wsX5_tell_r1 ++ wsX5_tell_r2) ++ wsX50)
def wsX5_trod : List Cond := .code yX5_trod cX5_trod 2 (some .int) :: ([.fieldLink RX5 7 "ShornHillModel" "kindOf" "[I", .methodLink RX5 152 yX5_noGrass, .instanceMethod yX5_noGrass, .selects RX5 yX5_noGrass yX5_noGrass, .initialized RX5, .code yX5_noGrass cX5_noGrass 2 (some .boolean), .methodLink RX5 77 yX5_noPlace, .instanceMethod yX5_noPlace, .selects RX5 yX5_noPlace yX5_noPlace, .code yX5_noPlace cX5_noPlace 2 (some .boolean), .methodLink RX5 69 yX5_cells, .instanceMethod yX5_cells, .selects RX5 yX5_cells yX5_cells, .code yX5_cells cX5_cells 1 (some .int), .fieldLink RX5 63 "ShornHillModel" "high" "I", .fieldLink RX5 66 "ShornHillModel" "wide" "I", .methodLink RX5 73 yX5_in, .static yX5_in, .code yX5_in cX5_in 6 (some .boolean), .methodLink RX5 237 yX5_traced, .instanceMethod yX5_traced, .selects RX5 yX5_traced yX5_traced, .code yX5_traced cX5_traced 2 none, .fieldLink RX5 234 "ShornHillModel" "traceNow" "I"] ++ wsX50)
def wsX5_as_r1 : List Cond := [Cond.constantLong RX5 122 (2), Cond.fieldLink RX5 7 "ShornHillModel" "kindOf" "[I", Cond.methodLink RX5 152 yX5_noGrass, Cond.instanceMethod yX5_noGrass, Cond.selects RX5 yX5_noGrass yX5_noGrass, Cond.initialized RX5, Cond.code yX5_noGrass cX5_noGrass 2 (some .boolean), Cond.methodLink RX5 77 yX5_noPlace, Cond.instanceMethod yX5_noPlace, Cond.selects RX5 yX5_noPlace yX5_noPlace, Cond.code yX5_noPlace cX5_noPlace 2 (some .boolean), Cond.methodLink RX5 69 yX5_cells, Cond.instanceMethod yX5_cells, Cond.selects RX5 yX5_cells yX5_cells, Cond.code yX5_cells cX5_cells 1 (some .int), Cond.fieldLink RX5 63 "ShornHillModel" "high" "I", Cond.fieldLink RX5 66 "ShornHillModel" "wide" "I", Cond.methodLink RX5 73 yX5_in, Cond.static yX5_in, Cond.code yX5_in cX5_in 6 (some .boolean), Cond.methodLink RX5 119 yX5_refused, Cond.instanceMethod yX5_refused, Cond.selects RX5 yX5_refused yX5_refused, Cond.code yX5_refused cX5_refused 2 (some .int)]
def wsX5_as_r2 : List Cond := [Cond.fieldLink RX5 55 "ShornHillModel" "fault" "I", Cond.methodLink RX5 108 yX5_failed, Cond.instanceMethod yX5_failed, Cond.selects RX5 yX5_failed yX5_failed, Cond.code yX5_failed cX5_failed 2 (some .int)]
def wsX5_as : List Cond := .code yX5_as cX5_as 3 (some .int) :: ((wsX5_as_r1 ++ wsX5_as_r2) ++ wsX50)
def wsX5_trace : List Cond := .code yX5_trace cX5_trace 1 (some .int) :: ([.fieldLink RX5 234 "ShornHillModel" "traceNow" "I"] ++ wsX50)
def wsX5_fault : List Cond := .code yX5_fault cX5_fault 1 (some .int) :: ([.fieldLink RX5 55 "ShornHillModel" "fault" "I"] ++ wsX50)
def wsX5_many : List Cond := .code yX5_many cX5_many 2 (some .int) :: ([.fieldLink RX5 66 "ShornHillModel" "wide" "I", .fieldLink RX5 132 "ShornHillModel" "paceNow" "I", .fieldLink RX5 135 "ShornHillModel" "breadthNow" "I", .fieldLink RX5 138 "ShornHillModel" "readings" "I", .methodLink RX5 69 yX5_cells, .instanceMethod yX5_cells, .selects RX5 yX5_cells yX5_cells, .initialized RX5, .code yX5_cells cX5_cells 1 (some .int), .fieldLink RX5 63 "ShornHillModel" "high" "I", .methodLink RX5 141 yX5_thornsNow, .instanceMethod yX5_thornsNow, .selects RX5 yX5_thornsNow yX5_thornsNow, .code yX5_thornsNow cX5_thornsNow 3 (some .int), .fieldLink RX5 7 "ShornHillModel" "kindOf" "[I"] ++ wsX50)
def wsJ9_max_7cf53 : List Cond := .code yJ9_max_7cf53 cJ9_max_7cf53 2 (some .int) :: ([])
def wsJ9_max_f86c9 : List Cond := .code yJ9_max_f86c9 cJ9_max_f86c9 4 (some .long) :: ([])
def wsJ9_min_7cf53 : List Cond := .code yJ9_min_7cf53 cJ9_min_7cf53 2 (some .int) :: ([])
def wsL_law_r1 : List Cond := [Cond.classLink RL 7 RX4, Cond.instantiable RX4 6, Cond.initialized RX4, Cond.classLink RL 10 RX5, Cond.instantiable RX5 30, Cond.initialized RX5, Cond.methodLink RL 9 yX4_init, Cond.instanceMethod yX4_init, Cond.code yX4_init cX4_init 2 none, Cond.methodLink RX4 5 objectInit, Cond.instanceMethod objectInit, Cond.code objectInit ⟨#[0xb1]⟩ 1 none, Cond.classLink RX4 11 RX0, Cond.instantiable RX0 7, Cond.initialized RX0, Cond.fieldLink RX4 14 "ShornHill" "land" "LShornHill$Land;", Cond.classLink RX4 18 RX1, Cond.instantiable RX1 4, Cond.initialized RX1, Cond.fieldLink RX4 21 "ShornHill" "readings" "LShornHill$Readings;", Cond.classLink RX4 25 RX2, Cond.instantiable RX2 4, Cond.initialized RX2, Cond.fieldLink RX4 28 "ShornHill" "shears" "LShornHill$Shears;"]
def wsL_law_r2 : List Cond := [Cond.classLink RX4 32 RX3, Cond.fieldLink RX4 34 "ShornHill" "sheets" "[LShornHill$Sheet;", Cond.fieldLink RX4 38 "ShornHill" "latestFault" "I", Cond.fieldLink RX4 42 "ShornHill" "bodiesBegun" "I", Cond.instantiable RX3 4, Cond.initialized RX3, Cond.instanceMethod yX0_init, Cond.code yX0_init cX0_init 1 none, Cond.methodLink RX0 3 objectInit, Cond.fieldLink RX0 9 "ShornHill$Land" "high" "I", Cond.fieldLink RX0 15 "ShornHill$Land" "wide" "I", Cond.fieldLink RX0 18 "ShornHill$Land" "paceNow" "I", Cond.fieldLink RX0 21 "ShornHill$Land" "breadthNow" "I", Cond.arrayClass .int, Cond.fieldLink RX0 24 "ShornHill$Land" "kind" "[I", Cond.fieldLink RX0 28 "ShornHill$Land" "eaten" "[I", Cond.fieldLink RX0 31 "ShornHill$Land" "neighbours" "[I", Cond.instanceMethod yX1_init, Cond.code yX1_init cX1_init 1 none, Cond.methodLink RX1 3 objectInit, Cond.fieldLink RX1 9 "ShornHill$Readings" "count" "I", Cond.fieldLink RX1 15 "ShornHill$Readings" "ofCells" "[I", Cond.fieldLink RX1 19 "ShornHill$Readings" "behindWeeks" "[I", Cond.fieldLink RX1 22 "ShornHill$Readings" "inchesTold" "[I"]
def wsL_law_r3 : List Cond := [Cond.instanceMethod yX2_init, Cond.code yX2_init cX2_init 1 none, Cond.methodLink RX2 3 objectInit, Cond.fieldLink RX2 9 "ShornHill$Shears" "tried" "[I", Cond.fieldLink RX2 15 "ShornHill$Shears" "best" "[I", Cond.fieldLink RX2 18 "ShornHill$Shears" "most" "I", Cond.fieldLink RX2 22 "ShornHill$Shears" "goal" "I", Cond.instanceMethod yX3_init, Cond.code yX3_init cX3_init 1 none, Cond.methodLink RX3 3 objectInit, Cond.fieldLink RX3 9 "ShornHill$Sheet" "hasRow" "Z", Cond.fieldLink RX3 15 "ShornHill$Sheet" "lane" "I", Cond.fieldLink RX3 19 "ShornHill$Sheet" "length" "I", Cond.fieldLink RX3 22 "ShornHill$Sheet" "row" "[I", Cond.methodLink RL 12 yX5_init, Cond.instanceMethod yX5_init, Cond.code yX5_init cX5_init 2 none, Cond.methodLink RX5 1 objectInit, Cond.fieldLink RX5 7 "ShornHillModel" "kindOf" "[I", Cond.fieldLink RX5 13 "ShornHillModel" "ateOf" "[I", Cond.fieldLink RX5 16 "ShornHillModel" "readKind" "[I", Cond.fieldLink RX5 19 "ShornHillModel" "placeAt" "[I", Cond.fieldLink RX5 22 "ShornHillModel" "nextAt" "[I", Cond.fieldLink RX5 25 "ShornHillModel" "rowBest" "[I"]
def wsL_law_r4 : List Cond := [Cond.fieldLink RX5 28 "ShornHillModel" "readingOf" "[I", Cond.fieldLink RX5 31 "ShornHillModel" "readingBy" "[I", Cond.fieldLink RX5 34 "ShornHillModel" "readingWas" "[I", Cond.arrayClass .long, Cond.fieldLink RX5 37 "ShornHillModel" "chanceAt" "[J", Cond.fieldLink RX5 41 "ShornHillModel" "sheetSize" "[I", Cond.fieldLink RX5 44 "ShornHillModel" "sheetLane" "[I", Cond.fieldLink RX5 47 "ShornHillModel" "sheet" "[I", Cond.fieldLink RX5 50 "ShornHillModel" "hands" "[I", Cond.methodLink RL 13 yX4_hill, Cond.instanceMethod yX4_hill, Cond.selects RX4 yX4_hill yX4_hill, Cond.code yX4_hill cX4_hill 8 (some .int), Cond.methodLink RX4 46 yX4_isSheet, Cond.static yX4_isSheet, Cond.code yX4_isSheet cX4_isSheet 1 (some .boolean), Cond.methodLink RX4 50 yX4_isLane, Cond.static yX4_isLane, Cond.code yX4_isLane cX4_isLane 1 (some .boolean), Cond.instanceMethod yX3_faultAs, Cond.selects RX3 yX3_faultAs yX3_faultAs, Cond.code yX3_faultAs cX3_faultAs 2 (some .int), Cond.instanceMethod yX3_spans, Cond.selects RX3 yX3_spans yX3_spans]
def wsL_law_r5 : List Cond := [Cond.code yX3_spans cX3_spans 3 (some .boolean), Cond.methodLink RX4 61 yX4_failed, Cond.instanceMethod yX4_failed, Cond.selects RX4 yX4_failed yX4_failed, Cond.code yX4_failed cX4_failed 2 (some .int), Cond.methodLink RX4 68 yX4_firstFault, Cond.static yX4_firstFault, Cond.code yX4_firstFault cX4_firstFault 9 (some .int), Cond.methodLink RX4 231 yX4_fitsHead, Cond.static yX4_fitsHead, Cond.code yX4_fitsHead cX4_fitsHead 2 (some .boolean), Cond.methodLink RX4 234 yX4_fitsRow, Cond.static yX4_fitsRow, Cond.code yX4_fitsRow cX4_fitsRow 2 (some .boolean), Cond.methodLink RX4 237 yX4_kindOf, Cond.static yX4_kindOf, Cond.code yX4_kindOf cX4_kindOf 1 (some .int), Cond.instanceMethod yX0_grow, Cond.selects RX0 yX0_grow yX0_grow, Cond.code yX0_grow cX0_grow 7 none, Cond.methodLink RX0 46 yX0_meet, Cond.instanceMethod yX0_meet, Cond.selects RX0 yX0_meet yX0_meet, Cond.code yX0_meet cX0_meet 4 none]
def wsL_law_r6 : List Cond := [Cond.instanceMethod yX0_softCells, Cond.selects RX0 yX0_softCells yX0_softCells, Cond.code yX0_softCells cX0_softCells 3 (some .int), Cond.methodLink RX0 34 yX0_cells, Cond.instanceMethod yX0_cells, Cond.selects RX0 yX0_cells yX0_cells, Cond.code yX0_cells cX0_cells 1 (some .int), Cond.static yX4_bit, Cond.code yX4_bit cX4_bit 1 (some .int), Cond.methodLink RX4 83 yJ6_bitCount_0f7a4, Cond.static yJ6_bitCount_0f7a4, Cond.initialized RJ6, Cond.code yJ6_bitCount_0f7a4 cJ6_bitCount_0f7a4 1 (some .int), Cond.constant RJ6 265 (1431655765), Cond.constant RJ6 266 (858993459), Cond.constant RJ6 267 (252645135), Cond.methodLink RL 17 yX5_hill, Cond.instanceMethod yX5_hill, Cond.selects RX5 yX5_hill yX5_hill, Cond.code yX5_hill cX5_hill 7 (some .int), Cond.constantLong RX5 122 (2), Cond.fieldLink RX5 81 "ShornHillModel" "readAt" "I", Cond.fieldLink RX5 95 "ShornHillModel" "readHigh" "I", Cond.fieldLink RX5 63 "ShornHillModel" "high" "I"]
def wsL_law_r7 : List Cond := [Cond.fieldLink RX5 88 "ShornHillModel" "readWide" "I", Cond.fieldLink RX5 66 "ShornHillModel" "wide" "I", Cond.fieldLink RX5 98 "ShornHillModel" "readPace" "I", Cond.fieldLink RX5 132 "ShornHillModel" "paceNow" "I", Cond.fieldLink RX5 101 "ShornHillModel" "readBreadth" "I", Cond.fieldLink RX5 135 "ShornHillModel" "breadthNow" "I", Cond.fieldLink RX5 138 "ShornHillModel" "readings" "I", Cond.methodLink RX5 116 yX5_noSheet, Cond.static yX5_noSheet, Cond.code yX5_noSheet cX5_noSheet 1 (some .boolean), Cond.constantLong RX5 155 (3), Cond.methodLink RX5 73 yX5_in, Cond.static yX5_in, Cond.code yX5_in cX5_in 6 (some .boolean), Cond.methodLink RX5 119 yX5_refused, Cond.instanceMethod yX5_refused, Cond.selects RX5 yX5_refused yX5_refused, Cond.code yX5_refused cX5_refused 2 (some .int), Cond.fieldLink RX5 55 "ShornHillModel" "fault" "I", Cond.methodLink RX5 124 yX5_cellsBarred, Cond.instanceMethod yX5_cellsBarred, Cond.selects RX5 yX5_cellsBarred yX5_cellsBarred, Cond.code yX5_cellsBarred cX5_cellsBarred 6 (some .int), Cond.methodLink RX5 108 yX5_failed]
def wsL_law_r8 : List Cond := [Cond.instanceMethod yX5_failed, Cond.selects RX5 yX5_failed yX5_failed, Cond.code yX5_failed cX5_failed 2 (some .int), Cond.methodLink RX5 112 yX5_isBeyond, Cond.static yX5_isBeyond, Cond.code yX5_isBeyond cX5_isBeyond 4 (some .boolean), Cond.methodLink RX5 128 yX5_readsHill, Cond.instanceMethod yX5_readsHill, Cond.selects RX5 yX5_readsHill yX5_readsHill, Cond.code yX5_readsHill cX5_readsHill 5 (some .boolean), Cond.methodLink RX5 84 yX5_codeAt, Cond.instanceMethod yX5_codeAt, Cond.selects RX5 yX5_codeAt yX5_codeAt, Cond.code yX5_codeAt cX5_codeAt 3 (some .int), Cond.methodLink RX5 91 yX5_figure, Cond.instanceMethod yX5_figure, Cond.selects RX5 yX5_figure yX5_figure, Cond.code yX5_figure cX5_figure 7 (some .int), Cond.methodLink RX5 104 yX5_readsPlace, Cond.instanceMethod yX5_readsPlace, Cond.selects RX5 yX5_readsPlace yX5_readsPlace, Cond.code yX5_readsPlace cX5_readsPlace 5 (some .boolean), Cond.methodLink RX5 69 yX5_cells, Cond.instanceMethod yX5_cells]
def wsL_law_r9 : List Cond := [Cond.selects RX5 yX5_cells yX5_cells, Cond.code yX5_cells cX5_cells 1 (some .int), Cond.methodLink RX5 141 yX5_thornsNow, Cond.instanceMethod yX5_thornsNow, Cond.selects RX5 yX5_thornsNow yX5_thornsNow, Cond.code yX5_thornsNow cX5_thornsNow 3 (some .int), Cond.methodLink RL 18 yX4_ofCell, Cond.instanceMethod yX4_ofCell, Cond.selects RX4 yX4_ofCell yX4_ofCell, Cond.code yX4_ofCell cX4_ofCell 3 (some .int), Cond.instanceMethod yX0_has, Cond.selects RX0 yX0_has yX0_has, Cond.code yX0_has cX0_has 2 (some .boolean), Cond.instanceMethod yX0_weekly, Cond.selects RX0 yX0_weekly yX0_weekly, Cond.code yX0_weekly cX0_weekly 2 (some .int), Cond.methodLink RL 22 yX5_ofCell, Cond.instanceMethod yX5_ofCell, Cond.selects RX5 yX5_ofCell yX5_ofCell, Cond.code yX5_ofCell cX5_ofCell 3 (some .int), Cond.methodLink RX5 77 yX5_noPlace, Cond.instanceMethod yX5_noPlace, Cond.selects RX5 yX5_noPlace yX5_noPlace, Cond.code yX5_noPlace cX5_noPlace 2 (some .boolean)]
def wsL_law_r10 : List Cond := [Cond.methodLink RX5 144 yX5_growsOf, Cond.instanceMethod yX5_growsOf, Cond.selects RX5 yX5_growsOf yX5_growsOf, Cond.code yX5_growsOf cX5_growsOf 3 (some .int), Cond.methodLink RL 23 yX4_goats, Cond.instanceMethod yX4_goats, Cond.selects RX4 yX4_goats yX4_goats, Cond.code yX4_goats cX4_goats 4 (some .int), Cond.instanceMethod yX0_isSoft, Cond.selects RX0 yX0_isSoft yX0_isSoft, Cond.code yX0_isSoft cX0_isSoft 2 (some .boolean), Cond.methodLink RX0 38 yX0_has, Cond.methodLink RX4 103 yX4_isInches, Cond.static yX4_isInches, Cond.code yX4_isInches cX4_isInches 1 (some .boolean), Cond.methodLink RL 26 yX5_goats, Cond.instanceMethod yX5_goats, Cond.selects RX5 yX5_goats yX5_goats, Cond.code yX5_goats cX5_goats 4 (some .int), Cond.constantLong RX5 150 (9), Cond.methodLink RX5 152 yX5_noGrass, Cond.instanceMethod yX5_noGrass, Cond.selects RX5 yX5_noGrass yX5_noGrass, Cond.code yX5_noGrass cX5_noGrass 2 (some .boolean)]
def wsL_law_r11 : List Cond := [Cond.methodLink RL 27 yX4_pace, Cond.instanceMethod yX4_pace, Cond.selects RX4 yX4_pace yX4_pace, Cond.code yX4_pace cX4_pace 3 (some .int), Cond.instanceMethod yX0_stands, Cond.selects RX0 yX0_stands yX0_stands, Cond.code yX0_stands cX0_stands 1 (some .boolean), Cond.methodLink RL 31 yX5_pace, Cond.instanceMethod yX5_pace, Cond.selects RX5 yX5_pace yX5_pace, Cond.code yX5_pace cX5_pace 3 (some .int), Cond.methodLink RL 32 yX4_breadth, Cond.instanceMethod yX4_breadth, Cond.selects RX4 yX4_breadth yX4_breadth, Cond.code yX4_breadth cX4_breadth 3 (some .int), Cond.methodLink RL 35 yX5_breadth, Cond.instanceMethod yX5_breadth, Cond.selects RX5 yX5_breadth yX5_breadth, Cond.code yX5_breadth cX5_breadth 3 (some .int), Cond.methodLink RL 36 yX4_coat, Cond.instanceMethod yX4_coat, Cond.selects RX4 yX4_coat yX4_coat, Cond.code yX4_coat cX4_coat 3 (some .int), Cond.methodLink RX4 116 yX4_isWeeks]
def wsL_law_r12 : List Cond := [Cond.static yX4_isWeeks, Cond.code yX4_isWeeks cX4_isWeeks 1 (some .boolean), Cond.instanceMethod yX0_inches, Cond.selects RX0 yX0_inches yX0_inches, Cond.code yX0_inches cX0_inches 4 (some .int), Cond.methodLink RX0 53 Lib.Math.min.name, Cond.static Lib.Math.min.name, Cond.initialized "java/lang/Math", Cond.code Lib.Math.min.name Lib.Math.min.code 2 (some .int), Cond.methodLink RX0 59 Lib.Math.max.name, Cond.static Lib.Math.max.name, Cond.code Lib.Math.max.name Lib.Math.max.code 2 (some .int), Cond.methodLink RX0 50 yX0_weekly, Cond.methodLink RL 39 yX5_coat, Cond.instanceMethod yX5_coat, Cond.selects RX5 yX5_coat yX5_coat, Cond.code yX5_coat cX5_coat 3 (some .int), Cond.methodLink RX5 157 yX5_noWeeks, Cond.static yX5_noWeeks, Cond.code yX5_noWeeks cX5_noWeeks 1 (some .boolean), Cond.methodLink RX5 147 yX5_coatOf, Cond.instanceMethod yX5_coatOf, Cond.selects RX5 yX5_coatOf yX5_coatOf, Cond.code yX5_coatOf cX5_coatOf 4 (some .int)]
def wsL_law_r13 : List Cond := [Cond.methodLink RL 40 yX4_ripe, Cond.instanceMethod yX4_ripe, Cond.selects RX4 yX4_ripe yX4_ripe, Cond.code yX4_ripe cX4_ripe 2 (some .int), Cond.instanceMethod yX0_ripeCells, Cond.selects RX0 yX0_ripeCells yX0_ripeCells, Cond.code yX0_ripeCells cX0_ripeCells 4 (some .int), Cond.methodLink RX0 69 yX0_isRipe, Cond.instanceMethod yX0_isRipe, Cond.selects RX0 yX0_isRipe yX0_isRipe, Cond.code yX0_isRipe cX0_isRipe 3 (some .boolean), Cond.methodLink RX0 66 yX0_inches, Cond.methodLink RL 43 yX5_ripe, Cond.instanceMethod yX5_ripe, Cond.selects RX5 yX5_ripe yX5_ripe, Cond.code yX5_ripe cX5_ripe 2 (some .int), Cond.methodLink RX5 160 yX5_ripeBy, Cond.instanceMethod yX5_ripeBy, Cond.selects RX5 yX5_ripeBy yX5_ripeBy, Cond.code yX5_ripeBy cX5_ripeBy 4 (some .int), Cond.methodLink RL 44 yX4_path, Cond.instanceMethod yX4_path, Cond.selects RX4 yX4_path yX4_path, Cond.code yX4_path cX4_path 11 (some .int)]
def wsL_law_r14 : List Cond := [Cond.methodLink RX4 129 yX4_areStrokes, Cond.static yX4_areStrokes, Cond.code yX4_areStrokes cX4_areStrokes 4 (some .boolean), Cond.methodLink RX4 133 yX4_followed, Cond.instanceMethod yX4_followed, Cond.selects RX4 yX4_followed yX4_followed, Cond.code yX4_followed cX4_followed 13 (some .int), Cond.methodLink RX4 174 yX4_without, Cond.static yX4_without, Cond.code yX4_without cX4_without 2 (some .int), Cond.methodLink RX4 169 yX4_bit, Cond.instanceMethod yX0_beside, Cond.selects RX0 yX0_beside yX0_beside, Cond.code yX0_beside cX0_beside 3 (some .int), Cond.methodLink RX4 146 yX4_isIn, Cond.static yX4_isIn, Cond.code yX4_isIn cX4_isIn 2 (some .boolean), Cond.instanceMethod yX0_inchesOfAll, Cond.selects RX0 yX0_inchesOfAll yX0_inchesOfAll, Cond.code yX0_inchesOfAll cX0_inchesOfAll 5 (some .int), Cond.methodLink RL 48 yX5_path, Cond.instanceMethod yX5_path, Cond.selects RX5 yX5_path yX5_path, Cond.code yX5_path cX5_path 10 (some .int)]
def wsL_law_r15 : List Cond := [Cond.constantLong RX5 178 (20), Cond.fieldLink RX5 163 "ShornHillModel" "firstWrong" "I", Cond.fieldLink RX5 166 "ShornHillModel" "endsAt" "I", Cond.fieldLink RX5 169 "ShornHillModel" "shornNow" "I", Cond.methodLink RX5 175 yX5_isIn, Cond.static yX5_isIn, Cond.code yX5_isIn cX5_isIn 2 (some .boolean), Cond.methodLink RX5 180 yX5_goPath, Cond.instanceMethod yX5_goPath, Cond.selects RX5 yX5_goPath yX5_goPath, Cond.code yX5_goPath cX5_goPath 7 none, Cond.methodLink RX5 172 yX5_beside, Cond.instanceMethod yX5_beside, Cond.selects RX5 yX5_beside yX5_beside, Cond.code yX5_beside cX5_beside 5 (some .int), Cond.methodLink RX5 184 yX5_coatsOf, Cond.instanceMethod yX5_coatsOf, Cond.selects RX5 yX5_coatsOf yX5_coatsOf, Cond.code yX5_coatsOf cX5_coatsOf 5 (some .int), Cond.methodLink RL 49 yX4_fleece, Cond.instanceMethod yX4_fleece, Cond.selects RX4 yX4_fleece yX4_fleece, Cond.code yX4_fleece cX4_fleece 5 (some .int), Cond.methodLink RX4 137 yX4_mostShorn]
def wsL_law_r16 : List Cond := [Cond.instanceMethod yX4_mostShorn, Cond.selects RX4 yX4_mostShorn yX4_mostShorn, Cond.code yX4_mostShorn cX4_mostShorn 3 (some .int), Cond.methodLink RX4 252 yX4_shear, Cond.static yX4_shear, Cond.code yX4_shear cX4_shear 7 none, Cond.instanceMethod yX2_keep, Cond.selects RX2 yX2_keep yX2_keep, Cond.code yX2_keep cX2_keep 2 none, Cond.methodLink RX2 25 arraycopyName, Cond.native arraycopyName, Cond.static arraycopyName, Cond.initialized "java/lang/System", Cond.methodLink RL 53 yX5_fleece, Cond.instanceMethod yX5_fleece, Cond.selects RX5 yX5_fleece yX5_fleece, Cond.code yX5_fleece cX5_fleece 4 (some .int), Cond.constantLong RX5 193 (-1), Cond.constantLong RX5 195 (14), Cond.fieldLink RX5 187 "ShornHillModel" "most" "I", Cond.methodLink RX5 197 yX5_goFleece, Cond.instanceMethod yX5_goFleece, Cond.selects RX5 yX5_goFleece yX5_goFleece, Cond.code yX5_goFleece cX5_goFleece 9 none]
def wsL_law_r17 : List Cond := [Cond.methodLink RX5 190 yX5_bits, Cond.static yX5_bits, Cond.code yX5_bits cX5_bits 3 (some .int), Cond.methodLink RL 54 yX4_start, Cond.instanceMethod yX4_start, Cond.selects RX4 yX4_start yX4_start, Cond.code yX4_start cX4_start 7 (some .int), Cond.methodLink RL 57 yX5_start, Cond.instanceMethod yX5_start, Cond.selects RX5 yX5_start yX5_start, Cond.code yX5_start cX5_start 2 (some .int), Cond.methodLink RX5 201 yX5_startBy, Cond.instanceMethod yX5_startBy, Cond.selects RX5 yX5_startBy yX5_startBy, Cond.code yX5_startBy cX5_startBy 6 (some .int), Cond.methodLink RL 58 yX4_whole, Cond.instanceMethod yX4_whole, Cond.selects RX4 yX4_whole yX4_whole, Cond.code yX4_whole cX4_whole 3 (some .int), Cond.instanceMethod yX0_isAllRipe, Cond.selects RX0 yX0_isAllRipe yX0_isAllRipe, Cond.code yX0_isAllRipe cX0_isAllRipe 2 (some .boolean), Cond.methodLink RX0 75 yX0_ripeCells, Cond.methodLink RX0 78 yX0_softCells]
def wsL_law_r18 : List Cond := [Cond.methodLink RX4 152 yX4_shearsAllSoft, Cond.instanceMethod yX4_shearsAllSoft, Cond.selects RX4 yX4_shearsAllSoft yX4_shearsAllSoft, Cond.code yX4_shearsAllSoft cX4_shearsAllSoft 3 (some .boolean), Cond.methodLink RL 61 yX5_whole, Cond.instanceMethod yX5_whole, Cond.selects RX5 yX5_whole yX5_whole, Cond.code yX5_whole cX5_whole 3 (some .int), Cond.methodLink RX5 204 yX5_isWholeFrom, Cond.instanceMethod yX5_isWholeFrom, Cond.selects RX5 yX5_isWholeFrom yX5_isWholeFrom, Cond.code yX5_isWholeFrom cX5_isWholeFrom 4 (some .boolean), Cond.methodLink RL 62 yX4_stops, Cond.instanceMethod yX4_stops, Cond.selects RX4 yX4_stops yX4_stops, Cond.code yX4_stops cX4_stops 3 (some .int), Cond.methodLink RX4 155 yX4_canBeShornWhole, Cond.instanceMethod yX4_canBeShornWhole, Cond.selects RX4 yX4_canBeShornWhole yX4_canBeShornWhole, Cond.code yX4_canBeShornWhole cX4_canBeShornWhole 3 (some .boolean), Cond.methodLink RX4 158 yX4_couldBeShornWhole, Cond.instanceMethod yX4_couldBeShornWhole, Cond.selects RX4 yX4_couldBeShornWhole yX4_couldBeShornWhole, Cond.code yX4_couldBeShornWhole cX4_couldBeShornWhole 4 (some .boolean)]
def wsL_law_r19 : List Cond := [Cond.methodLink RL 65 yX5_stops, Cond.instanceMethod yX5_stops, Cond.selects RX5 yX5_stops yX5_stops, Cond.code yX5_stops cX5_stops 5 (some .int), Cond.methodLink RX5 207 yX5_isWhole, Cond.instanceMethod yX5_isWhole, Cond.selects RX5 yX5_isWhole yX5_isWhole, Cond.code yX5_isWhole cX5_isWhole 4 (some .boolean), Cond.methodLink RL 66 yX4_reading, Cond.instanceMethod yX4_reading, Cond.selects RX4 yX4_reading yX4_reading, Cond.code yX4_reading cX4_reading 4 (some .int), Cond.instanceMethod yX1_add, Cond.selects RX1 yX1_add yX1_add, Cond.code yX1_add cX1_add 4 (some .int), Cond.methodLink RL 69 yX5_reading, Cond.instanceMethod yX5_reading, Cond.selects RX5 yX5_reading yX5_reading, Cond.code yX5_reading cX5_reading 4 (some .int), Cond.methodLink RL 70 yX4_back, Cond.instanceMethod yX4_back, Cond.selects RX4 yX4_back yX4_back, Cond.code yX4_back cX4_back 2 (some .int), Cond.methodLink RL 73 yX5_back]
def wsL_law_r20 : List Cond := [Cond.instanceMethod yX5_back, Cond.selects RX5 yX5_back yX5_back, Cond.code yX5_back cX5_back 2 (some .int), Cond.methodLink RL 74 yX4_kinds, Cond.instanceMethod yX4_kinds, Cond.selects RX4 yX4_kinds yX4_kinds, Cond.code yX4_kinds cX4_kinds 5 (some .int), Cond.instanceMethod yX1_areSo, Cond.selects RX1 yX1_areSo yX1_areSo, Cond.code yX1_areSo cX1_areSo 3 (some .boolean), Cond.methodLink RL 77 yX5_kinds, Cond.instanceMethod yX5_kinds, Cond.selects RX5 yX5_kinds yX5_kinds, Cond.code yX5_kinds cX5_kinds 5 (some .int), Cond.methodLink RX5 210 yX5_areSo, Cond.instanceMethod yX5_areSo, Cond.selects RX5 yX5_areSo yX5_areSo, Cond.code yX5_areSo cX5_areSo 3 (some .boolean), Cond.methodLink RL 78 yX4_paces, Cond.instanceMethod yX4_paces, Cond.selects RX4 yX4_paces yX4_paces, Cond.code yX4_paces cX4_paces 4 (some .int), Cond.methodLink RL 82 yX5_paces, Cond.instanceMethod yX5_paces]
def wsL_law_r21 : List Cond := [Cond.selects RX5 yX5_paces yX5_paces, Cond.code yX5_paces cX5_paces 4 (some .int), Cond.methodLink RL 83 yX4_eatings, Cond.instanceMethod yX4_eatings, Cond.selects RX4 yX4_eatings yX4_eatings, Cond.code yX4_eatings cX4_eatings 5 (some .int), Cond.methodLink RL 86 yX5_eatings, Cond.instanceMethod yX5_eatings, Cond.selects RX5 yX5_eatings yX5_eatings, Cond.code yX5_eatings cX5_eatings 5 (some .int), Cond.methodLink RL 87 yX4_odds, Cond.instanceMethod yX4_odds, Cond.selects RX4 yX4_odds yX4_odds, Cond.code yX4_odds cX4_odds 8 (some .long), Cond.constantLong RX4 172 (-9223372036854775808), Cond.constantLong RX4 177 (15407021574586368), Cond.methodLink RX4 187 Lib.MathLoose.max_long.x, Cond.static Lib.MathLoose.max_long.x, Cond.code Lib.MathLoose.max_long.x Lib.MathLoose.max_long.code 4 (some .long), Cond.methodLink RX4 179 yX4_oddsOn, Cond.static yX4_oddsOn, Cond.code yX4_oddsOn cX4_oddsOn 11 (some .long), Cond.methodLink RX4 183 yX4_commonDivisor, Cond.static yX4_commonDivisor]
def wsL_law_r22 : List Cond := [Cond.code yX4_commonDivisor cX4_commonDivisor 7 (some .long), Cond.methodLink RL 91 yX5_odds, Cond.instanceMethod yX5_odds, Cond.selects RX5 yX5_odds yX5_odds, Cond.code yX5_odds cX5_odds 7 (some .long), Cond.constantLong RX5 217 (12), Cond.methodLink RX5 59 yX5_lost, Cond.static yX5_lost, Cond.code yX5_lost cX5_lost 0 (some .long), Cond.constantLong RX5 53 (-9223372036854775808), Cond.methodLink RX5 219 yX5_chanceFrom, Cond.instanceMethod yX5_chanceFrom, Cond.selects RX5 yX5_chanceFrom yX5_chanceFrom, Cond.code yX5_chanceFrom cX5_chanceFrom 12 (some .long), Cond.methodLink RX5 214 yX5_waysOn, Cond.instanceMethod yX5_waysOn, Cond.selects RX5 yX5_waysOn yX5_waysOn, Cond.code yX5_waysOn cX5_waysOn 6 (some .int), Cond.methodLink RX5 223 yX5_share, Cond.static yX5_share, Cond.code yX5_share cX5_share 11 (some .long), Cond.methodLink RL 92 yX4_sheet, Cond.instanceMethod yX4_sheet, Cond.selects RX4 yX4_sheet yX4_sheet]
def wsL_law_r23 : List Cond := [Cond.code yX4_sheet cX4_sheet 4 (some .int), Cond.instanceMethod yX3_renew, Cond.selects RX3 yX3_renew yX3_renew, Cond.code yX3_renew cX3_renew 4 none, Cond.methodLink RL 95 yX5_sheet, Cond.instanceMethod yX5_sheet, Cond.selects RX5 yX5_sheet yX5_sheet, Cond.code yX5_sheet cX5_sheet 5 (some .int), Cond.methodLink RL 96 yX4_lose, Cond.instanceMethod yX4_lose, Cond.selects RX4 yX4_lose yX4_lose, Cond.code yX4_lose cX4_lose 3 (some .int), Cond.methodLink RL 99 yX5_lose, Cond.instanceMethod yX5_lose, Cond.selects RX5 yX5_lose yX5_lose, Cond.code yX5_lose cX5_lose 3 (some .int), Cond.methodLink RL 100 yX4_put, Cond.instanceMethod yX4_put, Cond.selects RX4 yX4_put yX4_put, Cond.code yX4_put cX4_put 5 (some .int), Cond.instanceMethod yX3_holds, Cond.selects RX3 yX3_holds yX3_holds, Cond.code yX3_holds cX3_holds 2 (some .boolean), Cond.instanceMethod yX3_cut]
def wsL_law_r24 : List Cond := [Cond.selects RX3 yX3_cut yX3_cut, Cond.code yX3_cut cX3_cut 2 (some .int), Cond.methodLink RL 103 yX5_put, Cond.instanceMethod yX5_put, Cond.selects RX5 yX5_put yX5_put, Cond.code yX5_put cX5_put 4 (some .int), Cond.methodLink RX5 227 yX5_noCell, Cond.instanceMethod yX5_noCell, Cond.selects RX5 yX5_noCell yX5_noCell, Cond.code yX5_noCell cX5_noCell 3 (some .int), Cond.methodLink RL 104 yX4_cell, Cond.instanceMethod yX4_cell, Cond.selects RX4 yX4_cell yX4_cell, Cond.code yX4_cell cX4_cell 5 (some .long), Cond.methodLink RL 107 yX5_cell, Cond.instanceMethod yX5_cell, Cond.selects RX5 yX5_cell yX5_cell, Cond.code yX5_cell cX5_cell 4 (some .long), Cond.methodLink RX5 230 yX5_failedLong, Cond.instanceMethod yX5_failedLong, Cond.selects RX5 yX5_failedLong yX5_failedLong, Cond.code yX5_failedLong cX5_failedLong 2 (some .long), Cond.methodLink RL 108 yX4_copy, Cond.instanceMethod yX4_copy]
def wsL_law_r25 : List Cond := [Cond.selects RX4 yX4_copy yX4_copy, Cond.code yX4_copy cX4_copy 8 (some .int), Cond.methodLink RX4 209 arraycopyName, Cond.methodLink RL 112 yX5_copy, Cond.instanceMethod yX5_copy, Cond.selects RX5 yX5_copy yX5_copy, Cond.code yX5_copy cX5_copy 7 (some .int), Cond.methodLink RL 113 yX4_tell, Cond.instanceMethod yX4_tell, Cond.selects RX4 yX4_tell yX4_tell, Cond.code yX4_tell cX4_tell 2 (some .int), Cond.methodLink RX4 215 yX4_hollowTells, Cond.instanceMethod yX4_hollowTells, Cond.selects RX4 yX4_hollowTells yX4_hollowTells, Cond.code yX4_hollowTells cX4_hollowTells 3 (some .int), Cond.methodLink RX4 224 yX4_begin, Cond.instanceMethod yX4_begin, Cond.selects RX4 yX4_begin yX4_begin, Cond.code yX4_begin cX4_begin 2 none, Cond.methodLink RX4 218 yX4_springTells, Cond.instanceMethod yX4_springTells, Cond.selects RX4 yX4_springTells yX4_springTells, Cond.code yX4_springTells cX4_springTells 2 (some .int), Cond.methodLink RX4 221 yX4_grassTells]
def wsL_law_r26 : List Cond := [Cond.instanceMethod yX4_grassTells, Cond.selects RX4 yX4_grassTells yX4_grassTells, Cond.code yX4_grassTells cX4_grassTells 2 (some .int), Cond.methodLink RL 116 yX5_tell, Cond.instanceMethod yX5_tell, Cond.selects RX5 yX5_tell yX5_tell, Cond.code yX5_tell cX5_tell 4 (some .int), Cond.methodLink RX5 237 yX5_traced, Cond.instanceMethod yX5_traced, Cond.selects RX5 yX5_traced yX5_traced, Cond.code yX5_traced cX5_traced 2 none, Cond.fieldLink RX5 234 "ShornHillModel" "traceNow" "I", Cond.methodLink RL 117 yX4_trod, Cond.instanceMethod yX4_trod, Cond.selects RX4 yX4_trod yX4_trod, Cond.code yX4_trod cX4_trod 2 (some .int), Cond.methodLink RL 120 yX5_trod, Cond.instanceMethod yX5_trod, Cond.selects RX5 yX5_trod yX5_trod, Cond.code yX5_trod cX5_trod 2 (some .int), Cond.methodLink RL 121 yX4_as, Cond.instanceMethod yX4_as, Cond.selects RX4 yX4_as yX4_as, Cond.code yX4_as cX4_as 3 (some .int)]
def wsL_law_r27 : List Cond := [Cond.methodLink RL 124 yX5_as, Cond.instanceMethod yX5_as, Cond.selects RX5 yX5_as yX5_as, Cond.code yX5_as cX5_as 3 (some .int), Cond.methodLink RL 125 yX4_trace, Cond.instanceMethod yX4_trace, Cond.selects RX4 yX4_trace yX4_trace, Cond.code yX4_trace cX4_trace 1 (some .int), Cond.methodLink RL 128 yX5_trace, Cond.instanceMethod yX5_trace, Cond.selects RX5 yX5_trace yX5_trace, Cond.code yX5_trace cX5_trace 1 (some .int), Cond.methodLink RL 129 yX4_fault, Cond.instanceMethod yX4_fault, Cond.selects RX4 yX4_fault yX4_fault, Cond.code yX4_fault cX4_fault 1 (some .int), Cond.methodLink RL 132 yX5_fault, Cond.instanceMethod yX5_fault, Cond.selects RX5 yX5_fault yX5_fault, Cond.code yX5_fault cX5_fault 1 (some .int), Cond.methodLink RL 133 yX4_many, Cond.instanceMethod yX4_many, Cond.selects RX4 yX4_many yX4_many, Cond.code yX4_many cX4_many 2 (some .int)]
def wsL_law_r28 : List Cond := [Cond.methodLink RL 136 yX5_many, Cond.instanceMethod yX5_many, Cond.selects RX5 yX5_many yX5_many, Cond.code yX5_many cX5_many 2 (some .int)]
def wsL_law : List Cond := (wsL_law_r1 ++ (wsL_law_r2 ++ (wsL_law_r3 ++ (wsL_law_r4 ++ (wsL_law_r5 ++ (wsL_law_r6 ++ (wsL_law_r7 ++ (wsL_law_r8 ++ (wsL_law_r9 ++ (wsL_law_r10 ++ (wsL_law_r11 ++ (wsL_law_r12 ++ (wsL_law_r13 ++ (wsL_law_r14 ++ (wsL_law_r15 ++ (wsL_law_r16 ++ (wsL_law_r17 ++ (wsL_law_r18 ++ (wsL_law_r19 ++ (wsL_law_r20 ++ (wsL_law_r21 ++ (wsL_law_r22 ++ (wsL_law_r23 ++ (wsL_law_r24 ++ (wsL_law_r25 ++ (wsL_law_r26 ++ (wsL_law_r27 ++ wsL_law_r28))))))))))))))))))))))))))) ++ wsX40 ++ wsX50 ++ wsX00 ++ wsX10 ++ wsX20 ++ wsX30 ++ ([] : List Cond)
abbrev vwCl : List vw_C := [(RX0, TX0, 7), (RX1, TX1, 4), (RX2, TX2, 4), (RX3, TX3, 4), (RX4, TX4, 6), (RX5, TX5, 30)]
end
section
theorem dX0_init_0 : decode cX0_init 0 = .ok (.aload_n 0, 1) := by decide +kernel
theorem dX0_init_1 : decode cX0_init 1 = .ok (.invokespecial 3, 3) := by decide +kernel
theorem dX0_init_4 : decode cX0_init 4 = .ok (.aload_n 0, 1) := by decide +kernel
theorem dX0_init_5 : decode cX0_init 5 = .ok (.iconst 0, 1) := by decide +kernel
theorem dX0_init_6 : decode cX0_init 6 = .ok (.putfield 9, 3) := by decide +kernel
theorem dX0_init_9 : decode cX0_init 9 = .ok (.aload_n 0, 1) := by decide +kernel
theorem dX0_init_10 : decode cX0_init 10 = .ok (.iconst 0, 1) := by decide +kernel
theorem dX0_init_11 : decode cX0_init 11 = .ok (.putfield 15, 3) := by decide +kernel
theorem dX0_init_14 : decode cX0_init 14 = .ok (.aload_n 0, 1) := by decide +kernel
theorem dX0_init_15 : decode cX0_init 15 = .ok (.iconst 0, 1) := by decide +kernel
theorem dX0_init_16 : decode cX0_init 16 = .ok (.putfield 18, 3) := by decide +kernel
theorem dX0_init_19 : decode cX0_init 19 = .ok (.aload_n 0, 1) := by decide +kernel
theorem dX0_init_20 : decode cX0_init 20 = .ok (.iconst 0, 1) := by decide +kernel
theorem dX0_init_21 : decode cX0_init 21 = .ok (.putfield 21, 3) := by decide +kernel
theorem dX0_init_24 : decode cX0_init 24 = .ok (.aload_n 0, 1) := by decide +kernel
theorem dX0_init_25 : decode cX0_init 25 = .ok (.bipush 16, 2) := by decide +kernel
theorem dX0_init_27 : decode cX0_init 27 = .ok (.newarray .int, 2) := by decide +kernel
theorem dX0_init_29 : decode cX0_init 29 = .ok (.putfield 24, 3) := by decide +kernel
theorem dX0_init_32 : decode cX0_init 32 = .ok (.aload_n 0, 1) := by decide +kernel
theorem dX0_init_33 : decode cX0_init 33 = .ok (.bipush 16, 2) := by decide +kernel
theorem dX0_init_35 : decode cX0_init 35 = .ok (.newarray .int, 2) := by decide +kernel
theorem dX0_init_37 : decode cX0_init 37 = .ok (.putfield 28, 3) := by decide +kernel
theorem dX0_init_40 : decode cX0_init 40 = .ok (.aload_n 0, 1) := by decide +kernel
theorem dX0_init_41 : decode cX0_init 41 = .ok (.bipush 64, 2) := by decide +kernel
theorem dX0_init_43 : decode cX0_init 43 = .ok (.newarray .int, 2) := by decide +kernel
theorem dX0_init_45 : decode cX0_init 45 = .ok (.putfield 31, 3) := by decide +kernel
theorem dX0_init_48 : decode cX0_init 48 = .ok (.return_, 1) := by decide +kernel
theorem dX0_stands_0 : decode cX0_stands 0 = .ok (.aload_n 0, 1) := by decide +kernel
theorem dX0_stands_1 : decode cX0_stands 1 = .ok (.getfield 9, 3) := by decide +kernel
theorem dX0_stands_4 : decode cX0_stands 4 = .ok (.ifCond .le 7, 3) := by decide +kernel
theorem dX0_stands_7 : decode cX0_stands 7 = .ok (.iconst 1, 1) := by decide +kernel
theorem dX0_stands_8 : decode cX0_stands 8 = .ok (.goto 4, 3) := by decide +kernel
theorem dX0_stands_11 : decode cX0_stands 11 = .ok (.iconst 0, 1) := by decide +kernel
theorem dX0_stands_12 : decode cX0_stands 12 = .ok (.ireturn, 1) := by decide +kernel
theorem dX0_cells_0 : decode cX0_cells 0 = .ok (.aload_n 0, 1) := by decide +kernel
theorem dX0_cells_1 : decode cX0_cells 1 = .ok (.getfield 9, 3) := by decide +kernel
theorem dX0_cells_4 : decode cX0_cells 4 = .ok (.aload_n 0, 1) := by decide +kernel
theorem dX0_cells_5 : decode cX0_cells 5 = .ok (.getfield 15, 3) := by decide +kernel
theorem dX0_cells_8 : decode cX0_cells 8 = .ok (.imul, 1) := by decide +kernel
theorem dX0_cells_9 : decode cX0_cells 9 = .ok (.ireturn, 1) := by decide +kernel
set_option maxRecDepth 20000 in
theorem ggX0_has_X0_cells : GoodIn wsX0_has wsX0_cells := goodIn_r _ [5, 6, 7, 8, 9, 10, 11, 12, 13, 14] (by decide +kernel) (by decide +kernel)
set_option maxRecDepth 20000 in
theorem gX0_has_X0_cells : GoodIn wsX0_has (wsV RX0 34 RX0 yX0_cells wsX0_cells) := goodIn_app (goodIn_of _ (by decide +kernel)) ggX0_has_X0_cells
theorem dX0_has_0 : decode cX0_has 0 = .ok (.iload_n 1, 1) := by decide +kernel
theorem dX0_has_1 : decode cX0_has 1 = .ok (.ifCond .lt 15, 3) := by decide +kernel
theorem dX0_has_4 : decode cX0_has 4 = .ok (.iload_n 1, 1) := by decide +kernel
theorem dX0_has_5 : decode cX0_has 5 = .ok (.aload_n 0, 1) := by decide +kernel
theorem dX0_has_6 : decode cX0_has 6 = .ok (.invokevirtual 34, 3) := by decide +kernel
theorem dX0_has_9 : decode cX0_has 9 = .ok (.if_icmp .ge 7, 3) := by decide +kernel
theorem dX0_has_12 : decode cX0_has 12 = .ok (.iconst 1, 1) := by decide +kernel
theorem dX0_has_13 : decode cX0_has 13 = .ok (.goto 4, 3) := by decide +kernel
theorem dX0_has_16 : decode cX0_has 16 = .ok (.iconst 0, 1) := by decide +kernel
theorem dX0_has_17 : decode cX0_has 17 = .ok (.ireturn, 1) := by decide +kernel
set_option maxRecDepth 20000 in
theorem ggX0_isSoft_X0_has : GoodIn wsX0_isSoft wsX0_has := goodIn_r _ [6, 7, 8, 9, 5, 10, 11, 12, 13, 14, 15, 16, 17, 18, 19] (by decide +kernel) (by decide +kernel)
set_option maxRecDepth 20000 in
theorem gX0_isSoft_X0_has : GoodIn wsX0_isSoft (wsV RX0 38 RX0 yX0_has wsX0_has) := goodIn_app (goodIn_of _ (by decide +kernel)) ggX0_isSoft_X0_has
theorem dX0_isSoft_0 : decode cX0_isSoft 0 = .ok (.aload_n 0, 1) := by decide +kernel
theorem dX0_isSoft_1 : decode cX0_isSoft 1 = .ok (.iload_n 1, 1) := by decide +kernel
theorem dX0_isSoft_2 : decode cX0_isSoft 2 = .ok (.invokevirtual 38, 3) := by decide +kernel
theorem dX0_isSoft_5 : decode cX0_isSoft 5 = .ok (.ifCond .eq 17, 3) := by decide +kernel
theorem dX0_isSoft_8 : decode cX0_isSoft 8 = .ok (.aload_n 0, 1) := by decide +kernel
theorem dX0_isSoft_9 : decode cX0_isSoft 9 = .ok (.getfield 24, 3) := by decide +kernel
theorem dX0_isSoft_12 : decode cX0_isSoft 12 = .ok (.iload_n 1, 1) := by decide +kernel
theorem dX0_isSoft_13 : decode cX0_isSoft 13 = .ok (.iaload, 1) := by decide +kernel
theorem dX0_isSoft_14 : decode cX0_isSoft 14 = .ok (.iconst 3, 1) := by decide +kernel
theorem dX0_isSoft_15 : decode cX0_isSoft 15 = .ok (.if_icmp .eq 7, 3) := by decide +kernel
theorem dX0_isSoft_18 : decode cX0_isSoft 18 = .ok (.iconst 1, 1) := by decide +kernel
theorem dX0_isSoft_19 : decode cX0_isSoft 19 = .ok (.goto 4, 3) := by decide +kernel
theorem dX0_isSoft_22 : decode cX0_isSoft 22 = .ok (.iconst 0, 1) := by decide +kernel
theorem dX0_isSoft_23 : decode cX0_isSoft 23 = .ok (.ireturn, 1) := by decide +kernel
set_option maxRecDepth 20000 in
theorem ggX0_grow_X4_kindOf : GoodIn wsX0_grow wsX4_kindOf := goodIn_r _ [9] (by decide +kernel) (by decide +kernel)
set_option maxRecDepth 20000 in
theorem gX0_grow_X4_kindOf_n42 : GoodIn wsX0_grow (wsX4_kindOf) := ggX0_grow_X4_kindOf
set_option maxRecDepth 20000 in
theorem ggX0_grow_X0_meet : GoodIn wsX0_grow wsX0_meet := goodIn_r _ [14, 15, 2, 1, 16, 17, 18, 19, 20, 21, 22] (by decide +kernel) (by decide +kernel)
set_option maxRecDepth 20000 in
theorem gX0_grow_X0_meet : GoodIn wsX0_grow (wsV RX0 46 RX0 yX0_meet wsX0_meet) := goodIn_app (goodIn_of _ (by decide +kernel)) ggX0_grow_X0_meet
theorem dX0_grow_0 : decode cX0_grow 0 = .ok (.aload_n 0, 1) := by decide +kernel
theorem dX0_grow_1 : decode cX0_grow 1 = .ok (.aload_n 1, 1) := by decide +kernel
theorem dX0_grow_2 : decode cX0_grow 2 = .ok (.iload_n 2, 1) := by decide +kernel
theorem dX0_grow_3 : decode cX0_grow 3 = .ok (.iconst 1, 1) := by decide +kernel
theorem dX0_grow_4 : decode cX0_grow 4 = .ok (.iadd, 1) := by decide +kernel
theorem dX0_grow_5 : decode cX0_grow 5 = .ok (.iaload, 1) := by decide +kernel
theorem dX0_grow_6 : decode cX0_grow 6 = .ok (.bipush 48, 2) := by decide +kernel
theorem dX0_grow_8 : decode cX0_grow 8 = .ok (.isub, 1) := by decide +kernel
theorem dX0_grow_9 : decode cX0_grow 9 = .ok (.putfield 9, 3) := by decide +kernel
theorem dX0_grow_12 : decode cX0_grow 12 = .ok (.aload_n 0, 1) := by decide +kernel
theorem dX0_grow_13 : decode cX0_grow 13 = .ok (.aload_n 1, 1) := by decide +kernel
theorem dX0_grow_14 : decode cX0_grow 14 = .ok (.iload_n 2, 1) := by decide +kernel
theorem dX0_grow_15 : decode cX0_grow 15 = .ok (.iconst 2, 1) := by decide +kernel
theorem dX0_grow_16 : decode cX0_grow 16 = .ok (.iadd, 1) := by decide +kernel
theorem dX0_grow_17 : decode cX0_grow 17 = .ok (.iaload, 1) := by decide +kernel
theorem dX0_grow_18 : decode cX0_grow 18 = .ok (.bipush 48, 2) := by decide +kernel
theorem dX0_grow_20 : decode cX0_grow 20 = .ok (.isub, 1) := by decide +kernel
theorem dX0_grow_21 : decode cX0_grow 21 = .ok (.putfield 15, 3) := by decide +kernel
theorem dX0_grow_24 : decode cX0_grow 24 = .ok (.aload_n 0, 1) := by decide +kernel
theorem dX0_grow_25 : decode cX0_grow 25 = .ok (.aload_n 1, 1) := by decide +kernel
theorem dX0_grow_26 : decode cX0_grow 26 = .ok (.iload_n 2, 1) := by decide +kernel
theorem dX0_grow_27 : decode cX0_grow 27 = .ok (.iconst 3, 1) := by decide +kernel
theorem dX0_grow_28 : decode cX0_grow 28 = .ok (.iadd, 1) := by decide +kernel
theorem dX0_grow_29 : decode cX0_grow 29 = .ok (.iaload, 1) := by decide +kernel
theorem dX0_grow_30 : decode cX0_grow 30 = .ok (.bipush 48, 2) := by decide +kernel
theorem dX0_grow_32 : decode cX0_grow 32 = .ok (.isub, 1) := by decide +kernel
theorem dX0_grow_33 : decode cX0_grow 33 = .ok (.putfield 18, 3) := by decide +kernel
theorem dX0_grow_36 : decode cX0_grow 36 = .ok (.aload_n 0, 1) := by decide +kernel
theorem dX0_grow_37 : decode cX0_grow 37 = .ok (.aload_n 1, 1) := by decide +kernel
theorem dX0_grow_38 : decode cX0_grow 38 = .ok (.iload_n 2, 1) := by decide +kernel
theorem dX0_grow_39 : decode cX0_grow 39 = .ok (.iconst 4, 1) := by decide +kernel
theorem dX0_grow_40 : decode cX0_grow 40 = .ok (.iadd, 1) := by decide +kernel
theorem dX0_grow_41 : decode cX0_grow 41 = .ok (.iaload, 1) := by decide +kernel
theorem dX0_grow_42 : decode cX0_grow 42 = .ok (.bipush 48, 2) := by decide +kernel
theorem dX0_grow_44 : decode cX0_grow 44 = .ok (.isub, 1) := by decide +kernel
theorem dX0_grow_45 : decode cX0_grow 45 = .ok (.putfield 21, 3) := by decide +kernel
theorem dX0_grow_48 : decode cX0_grow 48 = .ok (.iconst 0, 1) := by decide +kernel
theorem dX0_grow_49 : decode cX0_grow 49 = .ok (.istore_n 3, 1) := by decide +kernel
theorem dX0_grow_50 : decode cX0_grow 50 = .ok (.iconst 0, 1) := by decide +kernel
theorem dX0_grow_51 : decode cX0_grow 51 = .ok (.istore 4, 2) := by decide +kernel
theorem dX0_grow_53 : decode cX0_grow 53 = .ok (.iload 4, 2) := by decide +kernel
theorem dX0_grow_55 : decode cX0_grow 55 = .ok (.aload_n 0, 1) := by decide +kernel
theorem dX0_grow_56 : decode cX0_grow 56 = .ok (.getfield 9, 3) := by decide +kernel
theorem dX0_grow_59 : decode cX0_grow 59 = .ok (.if_icmp .ge 79, 3) := by decide +kernel
theorem dX0_grow_62 : decode cX0_grow 62 = .ok (.iload_n 2, 1) := by decide +kernel
theorem dX0_grow_63 : decode cX0_grow 63 = .ok (.iconst 5, 1) := by decide +kernel
theorem dX0_grow_64 : decode cX0_grow 64 = .ok (.iadd, 1) := by decide +kernel
theorem dX0_grow_65 : decode cX0_grow 65 = .ok (.iload 4, 2) := by decide +kernel
theorem dX0_grow_67 : decode cX0_grow 67 = .ok (.aload_n 0, 1) := by decide +kernel
theorem dX0_grow_68 : decode cX0_grow 68 = .ok (.getfield 15, 3) := by decide +kernel
theorem dX0_grow_71 : decode cX0_grow 71 = .ok (.iconst 1, 1) := by decide +kernel
theorem dX0_grow_72 : decode cX0_grow 72 = .ok (.iadd, 1) := by decide +kernel
theorem dX0_grow_73 : decode cX0_grow 73 = .ok (.imul, 1) := by decide +kernel
theorem dX0_grow_74 : decode cX0_grow 74 = .ok (.iadd, 1) := by decide +kernel
theorem dX0_grow_75 : decode cX0_grow 75 = .ok (.iconst 1, 1) := by decide +kernel
theorem dX0_grow_76 : decode cX0_grow 76 = .ok (.iadd, 1) := by decide +kernel
theorem dX0_grow_77 : decode cX0_grow 77 = .ok (.istore 5, 2) := by decide +kernel
theorem dX0_grow_79 : decode cX0_grow 79 = .ok (.iconst 0, 1) := by decide +kernel
theorem dX0_grow_80 : decode cX0_grow 80 = .ok (.istore 6, 2) := by decide +kernel
theorem dX0_grow_82 : decode cX0_grow 82 = .ok (.iload 6, 2) := by decide +kernel
theorem dX0_grow_84 : decode cX0_grow 84 = .ok (.aload_n 0, 1) := by decide +kernel
theorem dX0_grow_85 : decode cX0_grow 85 = .ok (.getfield 15, 3) := by decide +kernel
theorem dX0_grow_88 : decode cX0_grow 88 = .ok (.if_icmp .ge 44, 3) := by decide +kernel
theorem dX0_grow_91 : decode cX0_grow 91 = .ok (.aload_n 0, 1) := by decide +kernel
theorem dX0_grow_92 : decode cX0_grow 92 = .ok (.getfield 24, 3) := by decide +kernel
theorem dX0_grow_95 : decode cX0_grow 95 = .ok (.iload_n 3, 1) := by decide +kernel
theorem dX0_grow_96 : decode cX0_grow 96 = .ok (.aload_n 1, 1) := by decide +kernel
theorem dX0_grow_97 : decode cX0_grow 97 = .ok (.iload 5, 2) := by decide +kernel
theorem dX0_grow_99 : decode cX0_grow 99 = .ok (.iload 6, 2) := by decide +kernel
theorem dX0_grow_101 : decode cX0_grow 101 = .ok (.iadd, 1) := by decide +kernel
theorem dX0_grow_102 : decode cX0_grow 102 = .ok (.iaload, 1) := by decide +kernel
theorem dX0_grow_103 : decode cX0_grow 103 = .ok (.invokestatic 42, 3) := by decide +kernel
theorem dX0_grow_106 : decode cX0_grow 106 = .ok (.iastore, 1) := by decide +kernel
theorem dX0_grow_107 : decode cX0_grow 107 = .ok (.aload_n 0, 1) := by decide +kernel
theorem dX0_grow_108 : decode cX0_grow 108 = .ok (.getfield 28, 3) := by decide +kernel
theorem dX0_grow_111 : decode cX0_grow 111 = .ok (.iload_n 3, 1) := by decide +kernel
theorem dX0_grow_112 : decode cX0_grow 112 = .ok (.iconst 0, 1) := by decide +kernel
theorem dX0_grow_113 : decode cX0_grow 113 = .ok (.iastore, 1) := by decide +kernel
theorem dX0_grow_114 : decode cX0_grow 114 = .ok (.aload_n 0, 1) := by decide +kernel
theorem dX0_grow_115 : decode cX0_grow 115 = .ok (.iload_n 3, 1) := by decide +kernel
theorem dX0_grow_116 : decode cX0_grow 116 = .ok (.iload 4, 2) := by decide +kernel
theorem dX0_grow_118 : decode cX0_grow 118 = .ok (.iload 6, 2) := by decide +kernel
theorem dX0_grow_120 : decode cX0_grow 120 = .ok (.invokevirtual 46, 3) := by decide +kernel
theorem dX0_grow_123 : decode cX0_grow 123 = .ok (.iinc 3 1, 3) := by decide +kernel
theorem dX0_grow_126 : decode cX0_grow 126 = .ok (.iinc 6 1, 3) := by decide +kernel
theorem dX0_grow_129 : decode cX0_grow 129 = .ok (.goto (-47), 3) := by decide +kernel
theorem dX0_grow_132 : decode cX0_grow 132 = .ok (.iinc 4 1, 3) := by decide +kernel
theorem dX0_grow_135 : decode cX0_grow 135 = .ok (.goto (-82), 3) := by decide +kernel
theorem dX0_grow_138 : decode cX0_grow 138 = .ok (.return_, 1) := by decide +kernel
theorem dX0_meet_0 : decode cX0_meet 0 = .ok (.aload_n 0, 1) := by decide +kernel
theorem dX0_meet_1 : decode cX0_meet 1 = .ok (.getfield 31, 3) := by decide +kernel
theorem dX0_meet_4 : decode cX0_meet 4 = .ok (.iconst 4, 1) := by decide +kernel
theorem dX0_meet_5 : decode cX0_meet 5 = .ok (.iload_n 1, 1) := by decide +kernel
theorem dX0_meet_6 : decode cX0_meet 6 = .ok (.imul, 1) := by decide +kernel
theorem dX0_meet_7 : decode cX0_meet 7 = .ok (.iload_n 2, 1) := by decide +kernel
theorem dX0_meet_8 : decode cX0_meet 8 = .ok (.ifCond .le 12, 3) := by decide +kernel
theorem dX0_meet_11 : decode cX0_meet 11 = .ok (.iload_n 1, 1) := by decide +kernel
theorem dX0_meet_12 : decode cX0_meet 12 = .ok (.aload_n 0, 1) := by decide +kernel
theorem dX0_meet_13 : decode cX0_meet 13 = .ok (.getfield 15, 3) := by decide +kernel
theorem dX0_meet_16 : decode cX0_meet 16 = .ok (.isub, 1) := by decide +kernel
theorem dX0_meet_17 : decode cX0_meet 17 = .ok (.goto 5, 3) := by decide +kernel
theorem dX0_meet_20 : decode cX0_meet 20 = .ok (.bipush (-9), 2) := by decide +kernel
theorem dX0_meet_22 : decode cX0_meet 22 = .ok (.iastore, 1) := by decide +kernel
theorem dX0_meet_23 : decode cX0_meet 23 = .ok (.aload_n 0, 1) := by decide +kernel
theorem dX0_meet_24 : decode cX0_meet 24 = .ok (.getfield 31, 3) := by decide +kernel
theorem dX0_meet_27 : decode cX0_meet 27 = .ok (.iconst 4, 1) := by decide +kernel
theorem dX0_meet_28 : decode cX0_meet 28 = .ok (.iload_n 1, 1) := by decide +kernel
theorem dX0_meet_29 : decode cX0_meet 29 = .ok (.imul, 1) := by decide +kernel
theorem dX0_meet_30 : decode cX0_meet 30 = .ok (.iconst 1, 1) := by decide +kernel
theorem dX0_meet_31 : decode cX0_meet 31 = .ok (.iadd, 1) := by decide +kernel
theorem dX0_meet_32 : decode cX0_meet 32 = .ok (.iload_n 3, 1) := by decide +kernel
theorem dX0_meet_33 : decode cX0_meet 33 = .ok (.aload_n 0, 1) := by decide +kernel
theorem dX0_meet_34 : decode cX0_meet 34 = .ok (.getfield 15, 3) := by decide +kernel
theorem dX0_meet_37 : decode cX0_meet 37 = .ok (.iconst 1, 1) := by decide +kernel
theorem dX0_meet_38 : decode cX0_meet 38 = .ok (.isub, 1) := by decide +kernel
theorem dX0_meet_39 : decode cX0_meet 39 = .ok (.if_icmp .ge 9, 3) := by decide +kernel
theorem dX0_meet_42 : decode cX0_meet 42 = .ok (.iload_n 1, 1) := by decide +kernel
theorem dX0_meet_43 : decode cX0_meet 43 = .ok (.iconst 1, 1) := by decide +kernel
theorem dX0_meet_44 : decode cX0_meet 44 = .ok (.iadd, 1) := by decide +kernel
theorem dX0_meet_45 : decode cX0_meet 45 = .ok (.goto 5, 3) := by decide +kernel
theorem dX0_meet_48 : decode cX0_meet 48 = .ok (.bipush (-9), 2) := by decide +kernel
theorem dX0_meet_50 : decode cX0_meet 50 = .ok (.iastore, 1) := by decide +kernel
theorem dX0_meet_51 : decode cX0_meet 51 = .ok (.aload_n 0, 1) := by decide +kernel
theorem dX0_meet_52 : decode cX0_meet 52 = .ok (.getfield 31, 3) := by decide +kernel
theorem dX0_meet_55 : decode cX0_meet 55 = .ok (.iconst 4, 1) := by decide +kernel
theorem dX0_meet_56 : decode cX0_meet 56 = .ok (.iload_n 1, 1) := by decide +kernel
theorem dX0_meet_57 : decode cX0_meet 57 = .ok (.imul, 1) := by decide +kernel
theorem dX0_meet_58 : decode cX0_meet 58 = .ok (.iconst 2, 1) := by decide +kernel
theorem dX0_meet_59 : decode cX0_meet 59 = .ok (.iadd, 1) := by decide +kernel
theorem dX0_meet_60 : decode cX0_meet 60 = .ok (.iload_n 2, 1) := by decide +kernel
theorem dX0_meet_61 : decode cX0_meet 61 = .ok (.aload_n 0, 1) := by decide +kernel
theorem dX0_meet_62 : decode cX0_meet 62 = .ok (.getfield 9, 3) := by decide +kernel
theorem dX0_meet_65 : decode cX0_meet 65 = .ok (.iconst 1, 1) := by decide +kernel
theorem dX0_meet_66 : decode cX0_meet 66 = .ok (.isub, 1) := by decide +kernel
theorem dX0_meet_67 : decode cX0_meet 67 = .ok (.if_icmp .ge 12, 3) := by decide +kernel
theorem dX0_meet_70 : decode cX0_meet 70 = .ok (.iload_n 1, 1) := by decide +kernel
theorem dX0_meet_71 : decode cX0_meet 71 = .ok (.aload_n 0, 1) := by decide +kernel
theorem dX0_meet_72 : decode cX0_meet 72 = .ok (.getfield 15, 3) := by decide +kernel
theorem dX0_meet_75 : decode cX0_meet 75 = .ok (.iadd, 1) := by decide +kernel
theorem dX0_meet_76 : decode cX0_meet 76 = .ok (.goto 5, 3) := by decide +kernel
theorem dX0_meet_79 : decode cX0_meet 79 = .ok (.bipush (-9), 2) := by decide +kernel
theorem dX0_meet_81 : decode cX0_meet 81 = .ok (.iastore, 1) := by decide +kernel
theorem dX0_meet_82 : decode cX0_meet 82 = .ok (.aload_n 0, 1) := by decide +kernel
theorem dX0_meet_83 : decode cX0_meet 83 = .ok (.getfield 31, 3) := by decide +kernel
theorem dX0_meet_86 : decode cX0_meet 86 = .ok (.iconst 4, 1) := by decide +kernel
theorem dX0_meet_87 : decode cX0_meet 87 = .ok (.iload_n 1, 1) := by decide +kernel
theorem dX0_meet_88 : decode cX0_meet 88 = .ok (.imul, 1) := by decide +kernel
theorem dX0_meet_89 : decode cX0_meet 89 = .ok (.iconst 3, 1) := by decide +kernel
theorem dX0_meet_90 : decode cX0_meet 90 = .ok (.iadd, 1) := by decide +kernel
theorem dX0_meet_91 : decode cX0_meet 91 = .ok (.iload_n 3, 1) := by decide +kernel
theorem dX0_meet_92 : decode cX0_meet 92 = .ok (.ifCond .le 9, 3) := by decide +kernel
theorem dX0_meet_95 : decode cX0_meet 95 = .ok (.iload_n 1, 1) := by decide +kernel
theorem dX0_meet_96 : decode cX0_meet 96 = .ok (.iconst 1, 1) := by decide +kernel
theorem dX0_meet_97 : decode cX0_meet 97 = .ok (.isub, 1) := by decide +kernel
theorem dX0_meet_98 : decode cX0_meet 98 = .ok (.goto 5, 3) := by decide +kernel
theorem dX0_meet_101 : decode cX0_meet 101 = .ok (.bipush (-9), 2) := by decide +kernel
theorem dX0_meet_103 : decode cX0_meet 103 = .ok (.iastore, 1) := by decide +kernel
theorem dX0_meet_104 : decode cX0_meet 104 = .ok (.return_, 1) := by decide +kernel
theorem dX0_beside_0 : decode cX0_beside 0 = .ok (.aload_n 0, 1) := by decide +kernel
theorem dX0_beside_1 : decode cX0_beside 1 = .ok (.getfield 31, 3) := by decide +kernel
theorem dX0_beside_4 : decode cX0_beside 4 = .ok (.iconst 4, 1) := by decide +kernel
theorem dX0_beside_5 : decode cX0_beside 5 = .ok (.iload_n 1, 1) := by decide +kernel
theorem dX0_beside_6 : decode cX0_beside 6 = .ok (.imul, 1) := by decide +kernel
theorem dX0_beside_7 : decode cX0_beside 7 = .ok (.iload_n 2, 1) := by decide +kernel
theorem dX0_beside_8 : decode cX0_beside 8 = .ok (.iadd, 1) := by decide +kernel
theorem dX0_beside_9 : decode cX0_beside 9 = .ok (.iaload, 1) := by decide +kernel
theorem dX0_beside_10 : decode cX0_beside 10 = .ok (.ireturn, 1) := by decide +kernel
theorem dX0_weekly_0 : decode cX0_weekly 0 = .ok (.aload_n 0, 1) := by decide +kernel
theorem dX0_weekly_1 : decode cX0_weekly 1 = .ok (.getfield 24, 3) := by decide +kernel
theorem dX0_weekly_4 : decode cX0_weekly 4 = .ok (.iload_n 1, 1) := by decide +kernel
theorem dX0_weekly_5 : decode cX0_weekly 5 = .ok (.iaload, 1) := by decide +kernel
theorem dX0_weekly_6 : decode cX0_weekly 6 = .ok (.tableswitch 47 0 2 #[26, 31, 38], 26) := by decide +kernel
theorem dX0_weekly_32 : decode cX0_weekly 32 = .ok (.aload_n 0, 1) := by decide +kernel
theorem dX0_weekly_33 : decode cX0_weekly 33 = .ok (.getfield 18, 3) := by decide +kernel
theorem dX0_weekly_36 : decode cX0_weekly 36 = .ok (.ireturn, 1) := by decide +kernel
theorem dX0_weekly_37 : decode cX0_weekly 37 = .ok (.aload_n 0, 1) := by decide +kernel
theorem dX0_weekly_38 : decode cX0_weekly 38 = .ok (.getfield 18, 3) := by decide +kernel
theorem dX0_weekly_41 : decode cX0_weekly 41 = .ok (.iconst 1, 1) := by decide +kernel
theorem dX0_weekly_42 : decode cX0_weekly 42 = .ok (.iadd, 1) := by decide +kernel
theorem dX0_weekly_43 : decode cX0_weekly 43 = .ok (.ireturn, 1) := by decide +kernel
theorem dX0_weekly_44 : decode cX0_weekly 44 = .ok (.iconst 2, 1) := by decide +kernel
theorem dX0_weekly_45 : decode cX0_weekly 45 = .ok (.aload_n 0, 1) := by decide +kernel
theorem dX0_weekly_46 : decode cX0_weekly 46 = .ok (.getfield 18, 3) := by decide +kernel
theorem dX0_weekly_49 : decode cX0_weekly 49 = .ok (.iconst 1, 1) := by decide +kernel
theorem dX0_weekly_50 : decode cX0_weekly 50 = .ok (.iadd, 1) := by decide +kernel
theorem dX0_weekly_51 : decode cX0_weekly 51 = .ok (.imul, 1) := by decide +kernel
theorem dX0_weekly_52 : decode cX0_weekly 52 = .ok (.ireturn, 1) := by decide +kernel
theorem dX0_weekly_53 : decode cX0_weekly 53 = .ok (.iconst 0, 1) := by decide +kernel
theorem dX0_weekly_54 : decode cX0_weekly 54 = .ok (.ireturn, 1) := by decide +kernel
set_option maxRecDepth 20000 in
theorem ggX0_inches_X0_weekly : GoodIn wsX0_inches wsX0_weekly := goodIn_r _ [13, 14, 15, 16, 17, 18, 19, 20, 21, 22] (by decide +kernel) (by decide +kernel)
set_option maxRecDepth 20000 in
theorem gX0_inches_X0_weekly : GoodIn wsX0_inches (wsV RX0 50 RX0 yX0_weekly wsX0_weekly) := goodIn_app (goodIn_of _ (by decide +kernel)) ggX0_inches_X0_weekly
theorem dX0_inches_0 : decode cX0_inches 0 = .ok (.iload_n 2, 1) := by decide +kernel
theorem dX0_inches_1 : decode cX0_inches 1 = .ok (.aload_n 0, 1) := by decide +kernel
theorem dX0_inches_2 : decode cX0_inches 2 = .ok (.iload_n 1, 1) := by decide +kernel
theorem dX0_inches_3 : decode cX0_inches 3 = .ok (.invokevirtual 50, 3) := by decide +kernel
theorem dX0_inches_6 : decode cX0_inches 6 = .ok (.imul, 1) := by decide +kernel
theorem dX0_inches_7 : decode cX0_inches 7 = .ok (.aload_n 0, 1) := by decide +kernel
theorem dX0_inches_8 : decode cX0_inches 8 = .ok (.getfield 28, 3) := by decide +kernel
theorem dX0_inches_11 : decode cX0_inches 11 = .ok (.iload_n 1, 1) := by decide +kernel
theorem dX0_inches_12 : decode cX0_inches 12 = .ok (.iaload, 1) := by decide +kernel
theorem dX0_inches_13 : decode cX0_inches 13 = .ok (.isub, 1) := by decide +kernel
theorem dX0_inches_14 : decode cX0_inches 14 = .ok (.istore_n 3, 1) := by decide +kernel
theorem dX0_inches_15 : decode cX0_inches 15 = .ok (.iconst 0, 1) := by decide +kernel
theorem dX0_inches_16 : decode cX0_inches 16 = .ok (.bipush 9, 2) := by decide +kernel
theorem dX0_inches_18 : decode cX0_inches 18 = .ok (.iload_n 3, 1) := by decide +kernel
theorem dX0_inches_19 : decode cX0_inches 19 = .ok (.invokestatic 53, 3) := by decide +kernel
theorem dX0_inches_22 : decode cX0_inches 22 = .ok (.invokestatic 59, 3) := by decide +kernel
theorem dX0_inches_25 : decode cX0_inches 25 = .ok (.ireturn, 1) := by decide +kernel
set_option maxRecDepth 20000 in
theorem ggX0_inchesOfAll_X0_cells : GoodIn wsX0_inchesOfAll wsX0_cells := goodIn_r _ [5, 6, 7, 32, 33, 34, 35, 36, 37, 38] (by decide +kernel) (by decide +kernel)
set_option maxRecDepth 20000 in
theorem gX0_inchesOfAll_X0_cells : GoodIn wsX0_inchesOfAll (wsV RX0 34 RX0 yX0_cells wsX0_cells) := goodIn_app (goodIn_of _ (by decide +kernel)) ggX0_inchesOfAll_X0_cells
set_option maxRecDepth 20000 in
theorem ggX0_inchesOfAll_X4_isIn : GoodIn wsX0_inchesOfAll wsX4_isIn := goodIn_r _ [10, 11, 12, 9, 13] (by decide +kernel) (by decide +kernel)
set_option maxRecDepth 20000 in
theorem gX0_inchesOfAll_X4_isIn_n62 : GoodIn wsX0_inchesOfAll (wsX4_isIn) := ggX0_inchesOfAll_X4_isIn
set_option maxRecDepth 20000 in
theorem ggX0_inchesOfAll_X0_inches : GoodIn wsX0_inchesOfAll wsX0_inches := goodIn_r _ [17, 18, 19, 20, 21, 22, 23, 24, 25, 26, 27, 28, 4, 29, 30, 31, 32, 33, 34, 35, 36, 37, 38] (by decide +kernel) (by decide +kernel)
set_option maxRecDepth 20000 in
theorem gX0_inchesOfAll_X0_inches : GoodIn wsX0_inchesOfAll (wsV RX0 66 RX0 yX0_inches wsX0_inches) := goodIn_app (goodIn_of _ (by decide +kernel)) ggX0_inchesOfAll_X0_inches
theorem dX0_inchesOfAll_0 : decode cX0_inchesOfAll 0 = .ok (.iconst 0, 1) := by decide +kernel
theorem dX0_inchesOfAll_1 : decode cX0_inchesOfAll 1 = .ok (.istore_n 3, 1) := by decide +kernel
theorem dX0_inchesOfAll_2 : decode cX0_inchesOfAll 2 = .ok (.iconst 0, 1) := by decide +kernel
theorem dX0_inchesOfAll_3 : decode cX0_inchesOfAll 3 = .ok (.istore 4, 2) := by decide +kernel
theorem dX0_inchesOfAll_5 : decode cX0_inchesOfAll 5 = .ok (.iload 4, 2) := by decide +kernel
theorem dX0_inchesOfAll_7 : decode cX0_inchesOfAll 7 = .ok (.aload_n 0, 1) := by decide +kernel
theorem dX0_inchesOfAll_8 : decode cX0_inchesOfAll 8 = .ok (.invokevirtual 34, 3) := by decide +kernel
theorem dX0_inchesOfAll_11 : decode cX0_inchesOfAll 11 = .ok (.if_icmp .ge 32, 3) := by decide +kernel
theorem dX0_inchesOfAll_14 : decode cX0_inchesOfAll 14 = .ok (.iload_n 3, 1) := by decide +kernel
theorem dX0_inchesOfAll_15 : decode cX0_inchesOfAll 15 = .ok (.iload_n 1, 1) := by decide +kernel
theorem dX0_inchesOfAll_16 : decode cX0_inchesOfAll 16 = .ok (.iload 4, 2) := by decide +kernel
theorem dX0_inchesOfAll_18 : decode cX0_inchesOfAll 18 = .ok (.invokestatic 62, 3) := by decide +kernel
theorem dX0_inchesOfAll_21 : decode cX0_inchesOfAll 21 = .ok (.ifCond .eq 13, 3) := by decide +kernel
theorem dX0_inchesOfAll_24 : decode cX0_inchesOfAll 24 = .ok (.aload_n 0, 1) := by decide +kernel
theorem dX0_inchesOfAll_25 : decode cX0_inchesOfAll 25 = .ok (.iload 4, 2) := by decide +kernel
theorem dX0_inchesOfAll_27 : decode cX0_inchesOfAll 27 = .ok (.iload_n 2, 1) := by decide +kernel
theorem dX0_inchesOfAll_28 : decode cX0_inchesOfAll 28 = .ok (.invokevirtual 66, 3) := by decide +kernel
theorem dX0_inchesOfAll_31 : decode cX0_inchesOfAll 31 = .ok (.goto 4, 3) := by decide +kernel
theorem dX0_inchesOfAll_34 : decode cX0_inchesOfAll 34 = .ok (.iconst 0, 1) := by decide +kernel
theorem dX0_inchesOfAll_35 : decode cX0_inchesOfAll 35 = .ok (.iadd, 1) := by decide +kernel
theorem dX0_inchesOfAll_36 : decode cX0_inchesOfAll 36 = .ok (.istore_n 3, 1) := by decide +kernel
theorem dX0_inchesOfAll_37 : decode cX0_inchesOfAll 37 = .ok (.iinc 4 1, 3) := by decide +kernel
theorem dX0_inchesOfAll_40 : decode cX0_inchesOfAll 40 = .ok (.goto (-35), 3) := by decide +kernel
theorem dX0_inchesOfAll_43 : decode cX0_inchesOfAll 43 = .ok (.iload_n 3, 1) := by decide +kernel
theorem dX0_inchesOfAll_44 : decode cX0_inchesOfAll 44 = .ok (.ireturn, 1) := by decide +kernel
set_option maxRecDepth 20000 in
theorem ggX0_isRipe_X0_inches : GoodIn wsX0_isRipe wsX0_inches := goodIn_r _ [7, 8, 9, 10, 11, 12, 13, 14, 15, 16, 17, 18, 6, 19, 1, 20, 21, 22, 23, 24, 25, 26, 27] (by decide +kernel) (by decide +kernel)
set_option maxRecDepth 20000 in
theorem gX0_isRipe_X0_inches : GoodIn wsX0_isRipe (wsV RX0 66 RX0 yX0_inches wsX0_inches) := goodIn_app (goodIn_of _ (by decide +kernel)) ggX0_isRipe_X0_inches
theorem dX0_isRipe_0 : decode cX0_isRipe 0 = .ok (.aload_n 0, 1) := by decide +kernel
theorem dX0_isRipe_1 : decode cX0_isRipe 1 = .ok (.getfield 24, 3) := by decide +kernel
theorem dX0_isRipe_4 : decode cX0_isRipe 4 = .ok (.iload_n 1, 1) := by decide +kernel
theorem dX0_isRipe_5 : decode cX0_isRipe 5 = .ok (.iaload, 1) := by decide +kernel
theorem dX0_isRipe_6 : decode cX0_isRipe 6 = .ok (.iconst 3, 1) := by decide +kernel
theorem dX0_isRipe_7 : decode cX0_isRipe 7 = .ok (.if_icmp .eq 20, 3) := by decide +kernel
theorem dX0_isRipe_10 : decode cX0_isRipe 10 = .ok (.aload_n 0, 1) := by decide +kernel
theorem dX0_isRipe_11 : decode cX0_isRipe 11 = .ok (.iload_n 1, 1) := by decide +kernel
theorem dX0_isRipe_12 : decode cX0_isRipe 12 = .ok (.iload_n 2, 1) := by decide +kernel
theorem dX0_isRipe_13 : decode cX0_isRipe 13 = .ok (.invokevirtual 66, 3) := by decide +kernel
theorem dX0_isRipe_16 : decode cX0_isRipe 16 = .ok (.aload_n 0, 1) := by decide +kernel
theorem dX0_isRipe_17 : decode cX0_isRipe 17 = .ok (.getfield 21, 3) := by decide +kernel
theorem dX0_isRipe_20 : decode cX0_isRipe 20 = .ok (.if_icmp .lt 7, 3) := by decide +kernel
theorem dX0_isRipe_23 : decode cX0_isRipe 23 = .ok (.iconst 1, 1) := by decide +kernel
theorem dX0_isRipe_24 : decode cX0_isRipe 24 = .ok (.goto 4, 3) := by decide +kernel
theorem dX0_isRipe_27 : decode cX0_isRipe 27 = .ok (.iconst 0, 1) := by decide +kernel
theorem dX0_isRipe_28 : decode cX0_isRipe 28 = .ok (.ireturn, 1) := by decide +kernel
set_option maxRecDepth 20000 in
theorem ggX0_ripeCells_X0_cells : GoodIn wsX0_ripeCells wsX0_cells := goodIn_r _ [5, 6, 7, 34, 35, 36, 37, 38, 39, 40] (by decide +kernel) (by decide +kernel)
set_option maxRecDepth 20000 in
theorem gX0_ripeCells_X0_cells : GoodIn wsX0_ripeCells (wsV RX0 34 RX0 yX0_cells wsX0_cells) := goodIn_app (goodIn_of _ (by decide +kernel)) ggX0_ripeCells_X0_cells
set_option maxRecDepth 20000 in
theorem ggX0_ripeCells_X0_isRipe : GoodIn wsX0_ripeCells wsX0_isRipe := goodIn_r _ [11, 12, 13, 14, 15, 16, 4, 17, 18, 19, 20, 21, 22, 23, 24, 25, 26, 27, 28, 29, 30, 34, 35, 36, 37, 38, 39, 40] (by decide +kernel) (by decide +kernel)
set_option maxRecDepth 20000 in
theorem gX0_ripeCells_X0_isRipe : GoodIn wsX0_ripeCells (wsV RX0 69 RX0 yX0_isRipe wsX0_isRipe) := goodIn_app (goodIn_of _ (by decide +kernel)) ggX0_ripeCells_X0_isRipe
set_option maxRecDepth 20000 in
theorem ggX0_ripeCells_X4_bit : GoodIn wsX0_ripeCells wsX4_bit := goodIn_r _ [33] (by decide +kernel) (by decide +kernel)
set_option maxRecDepth 20000 in
theorem gX0_ripeCells_X4_bit_n72 : GoodIn wsX0_ripeCells (wsX4_bit) := ggX0_ripeCells_X4_bit
theorem dX0_ripeCells_0 : decode cX0_ripeCells 0 = .ok (.iconst 0, 1) := by decide +kernel
theorem dX0_ripeCells_1 : decode cX0_ripeCells 1 = .ok (.istore_n 2, 1) := by decide +kernel
theorem dX0_ripeCells_2 : decode cX0_ripeCells 2 = .ok (.iconst 0, 1) := by decide +kernel
theorem dX0_ripeCells_3 : decode cX0_ripeCells 3 = .ok (.istore_n 3, 1) := by decide +kernel
theorem dX0_ripeCells_4 : decode cX0_ripeCells 4 = .ok (.iload_n 3, 1) := by decide +kernel
theorem dX0_ripeCells_5 : decode cX0_ripeCells 5 = .ok (.aload_n 0, 1) := by decide +kernel
theorem dX0_ripeCells_6 : decode cX0_ripeCells 6 = .ok (.invokevirtual 34, 3) := by decide +kernel
theorem dX0_ripeCells_9 : decode cX0_ripeCells 9 = .ok (.if_icmp .ge 29, 3) := by decide +kernel
theorem dX0_ripeCells_12 : decode cX0_ripeCells 12 = .ok (.iload_n 2, 1) := by decide +kernel
theorem dX0_ripeCells_13 : decode cX0_ripeCells 13 = .ok (.aload_n 0, 1) := by decide +kernel
theorem dX0_ripeCells_14 : decode cX0_ripeCells 14 = .ok (.iload_n 3, 1) := by decide +kernel
theorem dX0_ripeCells_15 : decode cX0_ripeCells 15 = .ok (.iload_n 1, 1) := by decide +kernel
theorem dX0_ripeCells_16 : decode cX0_ripeCells 16 = .ok (.invokevirtual 69, 3) := by decide +kernel
theorem dX0_ripeCells_19 : decode cX0_ripeCells 19 = .ok (.ifCond .eq 10, 3) := by decide +kernel
theorem dX0_ripeCells_22 : decode cX0_ripeCells 22 = .ok (.iload_n 3, 1) := by decide +kernel
theorem dX0_ripeCells_23 : decode cX0_ripeCells 23 = .ok (.invokestatic 72, 3) := by decide +kernel
theorem dX0_ripeCells_26 : decode cX0_ripeCells 26 = .ok (.goto 4, 3) := by decide +kernel
theorem dX0_ripeCells_29 : decode cX0_ripeCells 29 = .ok (.iconst 0, 1) := by decide +kernel
theorem dX0_ripeCells_30 : decode cX0_ripeCells 30 = .ok (.ior, 1) := by decide +kernel
theorem dX0_ripeCells_31 : decode cX0_ripeCells 31 = .ok (.istore_n 2, 1) := by decide +kernel
theorem dX0_ripeCells_32 : decode cX0_ripeCells 32 = .ok (.iinc 3 1, 3) := by decide +kernel
theorem dX0_ripeCells_35 : decode cX0_ripeCells 35 = .ok (.goto (-31), 3) := by decide +kernel
theorem dX0_ripeCells_38 : decode cX0_ripeCells 38 = .ok (.iload_n 2, 1) := by decide +kernel
theorem dX0_ripeCells_39 : decode cX0_ripeCells 39 = .ok (.ireturn, 1) := by decide +kernel
set_option maxRecDepth 20000 in
theorem ggX0_isAllRipe_X0_ripeCells : GoodIn wsX0_isAllRipe wsX0_ripeCells := goodIn_r _ [5, 6, 7, 8, 4, 9, 10, 11, 12, 13, 14, 15, 16, 17, 18, 19, 20, 21, 22, 23, 24, 25, 26, 27, 28, 29, 30, 31, 32, 33, 34, 35, 36, 37, 42, 43, 44, 45, 46, 47, 48] (by decide +kernel) (by decide +kernel)
set_option maxRecDepth 20000 in
theorem gX0_isAllRipe_X0_ripeCells : GoodIn wsX0_isAllRipe (wsV RX0 75 RX0 yX0_ripeCells wsX0_ripeCells) := goodIn_app (goodIn_of _ (by decide +kernel)) ggX0_isAllRipe_X0_ripeCells
set_option maxRecDepth 20000 in
theorem ggX0_isAllRipe_X0_softCells : GoodIn wsX0_isAllRipe wsX0_softCells := goodIn_r _ [41, 16, 6, 7, 8, 4, 9, 10, 11, 35, 36, 37, 42, 43, 44, 45, 46, 47, 48] (by decide +kernel) (by decide +kernel)
set_option maxRecDepth 20000 in
theorem gX0_isAllRipe_X0_softCells : GoodIn wsX0_isAllRipe (wsV RX0 78 RX0 yX0_softCells wsX0_softCells) := goodIn_app (goodIn_of _ (by decide +kernel)) ggX0_isAllRipe_X0_softCells
theorem dX0_isAllRipe_0 : decode cX0_isAllRipe 0 = .ok (.aload_n 0, 1) := by decide +kernel
theorem dX0_isAllRipe_1 : decode cX0_isAllRipe 1 = .ok (.iload_n 1, 1) := by decide +kernel
theorem dX0_isAllRipe_2 : decode cX0_isAllRipe 2 = .ok (.invokevirtual 75, 3) := by decide +kernel
theorem dX0_isAllRipe_5 : decode cX0_isAllRipe 5 = .ok (.aload_n 0, 1) := by decide +kernel
theorem dX0_isAllRipe_6 : decode cX0_isAllRipe 6 = .ok (.invokevirtual 78, 3) := by decide +kernel
theorem dX0_isAllRipe_9 : decode cX0_isAllRipe 9 = .ok (.if_icmp .ne 7, 3) := by decide +kernel
theorem dX0_isAllRipe_12 : decode cX0_isAllRipe 12 = .ok (.iconst 1, 1) := by decide +kernel
theorem dX0_isAllRipe_13 : decode cX0_isAllRipe 13 = .ok (.goto 4, 3) := by decide +kernel
theorem dX0_isAllRipe_16 : decode cX0_isAllRipe 16 = .ok (.iconst 0, 1) := by decide +kernel
theorem dX0_isAllRipe_17 : decode cX0_isAllRipe 17 = .ok (.ireturn, 1) := by decide +kernel
set_option maxRecDepth 20000 in
theorem ggX0_softCells_X0_cells : GoodIn wsX0_softCells wsX0_cells := goodIn_r _ [6, 7, 8, 12, 13, 14, 15, 16, 17, 18] (by decide +kernel) (by decide +kernel)
set_option maxRecDepth 20000 in
theorem gX0_softCells_X0_cells : GoodIn wsX0_softCells (wsV RX0 34 RX0 yX0_cells wsX0_cells) := goodIn_app (goodIn_of _ (by decide +kernel)) ggX0_softCells_X0_cells
set_option maxRecDepth 20000 in
theorem ggX0_softCells_X4_bit : GoodIn wsX0_softCells wsX4_bit := goodIn_r _ [11] (by decide +kernel) (by decide +kernel)
set_option maxRecDepth 20000 in
theorem gX0_softCells_X4_bit_n72 : GoodIn wsX0_softCells (wsX4_bit) := ggX0_softCells_X4_bit
theorem dX0_softCells_0 : decode cX0_softCells 0 = .ok (.iconst 0, 1) := by decide +kernel
theorem dX0_softCells_1 : decode cX0_softCells 1 = .ok (.istore_n 1, 1) := by decide +kernel
theorem dX0_softCells_2 : decode cX0_softCells 2 = .ok (.iconst 0, 1) := by decide +kernel
theorem dX0_softCells_3 : decode cX0_softCells 3 = .ok (.istore_n 2, 1) := by decide +kernel
theorem dX0_softCells_4 : decode cX0_softCells 4 = .ok (.iload_n 2, 1) := by decide +kernel
theorem dX0_softCells_5 : decode cX0_softCells 5 = .ok (.aload_n 0, 1) := by decide +kernel
theorem dX0_softCells_6 : decode cX0_softCells 6 = .ok (.invokevirtual 34, 3) := by decide +kernel
theorem dX0_softCells_9 : decode cX0_softCells 9 = .ok (.if_icmp .ge 30, 3) := by decide +kernel
theorem dX0_softCells_12 : decode cX0_softCells 12 = .ok (.iload_n 1, 1) := by decide +kernel
theorem dX0_softCells_13 : decode cX0_softCells 13 = .ok (.aload_n 0, 1) := by decide +kernel
theorem dX0_softCells_14 : decode cX0_softCells 14 = .ok (.getfield 24, 3) := by decide +kernel
theorem dX0_softCells_17 : decode cX0_softCells 17 = .ok (.iload_n 2, 1) := by decide +kernel
theorem dX0_softCells_18 : decode cX0_softCells 18 = .ok (.iaload, 1) := by decide +kernel
theorem dX0_softCells_19 : decode cX0_softCells 19 = .ok (.iconst 3, 1) := by decide +kernel
theorem dX0_softCells_20 : decode cX0_softCells 20 = .ok (.if_icmp .eq 10, 3) := by decide +kernel
theorem dX0_softCells_23 : decode cX0_softCells 23 = .ok (.iload_n 2, 1) := by decide +kernel
theorem dX0_softCells_24 : decode cX0_softCells 24 = .ok (.invokestatic 72, 3) := by decide +kernel
theorem dX0_softCells_27 : decode cX0_softCells 27 = .ok (.goto 4, 3) := by decide +kernel
theorem dX0_softCells_30 : decode cX0_softCells 30 = .ok (.iconst 0, 1) := by decide +kernel
theorem dX0_softCells_31 : decode cX0_softCells 31 = .ok (.ior, 1) := by decide +kernel
theorem dX0_softCells_32 : decode cX0_softCells 32 = .ok (.istore_n 1, 1) := by decide +kernel
theorem dX0_softCells_33 : decode cX0_softCells 33 = .ok (.iinc 2 1, 3) := by decide +kernel
theorem dX0_softCells_36 : decode cX0_softCells 36 = .ok (.goto (-32), 3) := by decide +kernel
theorem dX0_softCells_39 : decode cX0_softCells 39 = .ok (.iload_n 1, 1) := by decide +kernel
theorem dX0_softCells_40 : decode cX0_softCells 40 = .ok (.ireturn, 1) := by decide +kernel
theorem dX1_init_0 : decode cX1_init 0 = .ok (.aload_n 0, 1) := by decide +kernel
theorem dX1_init_1 : decode cX1_init 1 = .ok (.invokespecial 3, 3) := by decide +kernel
theorem dX1_init_4 : decode cX1_init 4 = .ok (.aload_n 0, 1) := by decide +kernel
theorem dX1_init_5 : decode cX1_init 5 = .ok (.iconst 0, 1) := by decide +kernel
theorem dX1_init_6 : decode cX1_init 6 = .ok (.putfield 9, 3) := by decide +kernel
theorem dX1_init_9 : decode cX1_init 9 = .ok (.aload_n 0, 1) := by decide +kernel
theorem dX1_init_10 : decode cX1_init 10 = .ok (.bipush 8, 2) := by decide +kernel
theorem dX1_init_12 : decode cX1_init 12 = .ok (.newarray .int, 2) := by decide +kernel
theorem dX1_init_14 : decode cX1_init 14 = .ok (.putfield 15, 3) := by decide +kernel
theorem dX1_init_17 : decode cX1_init 17 = .ok (.aload_n 0, 1) := by decide +kernel
theorem dX1_init_18 : decode cX1_init 18 = .ok (.bipush 8, 2) := by decide +kernel
theorem dX1_init_20 : decode cX1_init 20 = .ok (.newarray .int, 2) := by decide +kernel
theorem dX1_init_22 : decode cX1_init 22 = .ok (.putfield 19, 3) := by decide +kernel
theorem dX1_init_25 : decode cX1_init 25 = .ok (.aload_n 0, 1) := by decide +kernel
theorem dX1_init_26 : decode cX1_init 26 = .ok (.bipush 8, 2) := by decide +kernel
theorem dX1_init_28 : decode cX1_init 28 = .ok (.newarray .int, 2) := by decide +kernel
theorem dX1_init_30 : decode cX1_init 30 = .ok (.putfield 22, 3) := by decide +kernel
theorem dX1_init_33 : decode cX1_init 33 = .ok (.return_, 1) := by decide +kernel
theorem dX1_add_0 : decode cX1_add 0 = .ok (.aload_n 0, 1) := by decide +kernel
theorem dX1_add_1 : decode cX1_add 1 = .ok (.getfield 15, 3) := by decide +kernel
theorem dX1_add_4 : decode cX1_add 4 = .ok (.aload_n 0, 1) := by decide +kernel
theorem dX1_add_5 : decode cX1_add 5 = .ok (.getfield 9, 3) := by decide +kernel
theorem dX1_add_8 : decode cX1_add 8 = .ok (.iload_n 1, 1) := by decide +kernel
theorem dX1_add_9 : decode cX1_add 9 = .ok (.iastore, 1) := by decide +kernel
theorem dX1_add_10 : decode cX1_add 10 = .ok (.aload_n 0, 1) := by decide +kernel
theorem dX1_add_11 : decode cX1_add 11 = .ok (.getfield 19, 3) := by decide +kernel
theorem dX1_add_14 : decode cX1_add 14 = .ok (.aload_n 0, 1) := by decide +kernel
theorem dX1_add_15 : decode cX1_add 15 = .ok (.getfield 9, 3) := by decide +kernel
theorem dX1_add_18 : decode cX1_add 18 = .ok (.iload_n 2, 1) := by decide +kernel
theorem dX1_add_19 : decode cX1_add 19 = .ok (.iastore, 1) := by decide +kernel
theorem dX1_add_20 : decode cX1_add 20 = .ok (.aload_n 0, 1) := by decide +kernel
theorem dX1_add_21 : decode cX1_add 21 = .ok (.getfield 22, 3) := by decide +kernel
theorem dX1_add_24 : decode cX1_add 24 = .ok (.aload_n 0, 1) := by decide +kernel
theorem dX1_add_25 : decode cX1_add 25 = .ok (.getfield 9, 3) := by decide +kernel
theorem dX1_add_28 : decode cX1_add 28 = .ok (.iload_n 3, 1) := by decide +kernel
theorem dX1_add_29 : decode cX1_add 29 = .ok (.iastore, 1) := by decide +kernel
theorem dX1_add_30 : decode cX1_add 30 = .ok (.aload_n 0, 1) := by decide +kernel
theorem dX1_add_31 : decode cX1_add 31 = .ok (.dup, 1) := by decide +kernel
theorem dX1_add_32 : decode cX1_add 32 = .ok (.getfield 9, 3) := by decide +kernel
theorem dX1_add_35 : decode cX1_add 35 = .ok (.iconst 1, 1) := by decide +kernel
theorem dX1_add_36 : decode cX1_add 36 = .ok (.iadd, 1) := by decide +kernel
theorem dX1_add_37 : decode cX1_add 37 = .ok (.putfield 9, 3) := by decide +kernel
theorem dX1_add_40 : decode cX1_add 40 = .ok (.aload_n 0, 1) := by decide +kernel
theorem dX1_add_41 : decode cX1_add 41 = .ok (.getfield 9, 3) := by decide +kernel
theorem dX1_add_44 : decode cX1_add 44 = .ok (.iconst 1, 1) := by decide +kernel
theorem dX1_add_45 : decode cX1_add 45 = .ok (.isub, 1) := by decide +kernel
theorem dX1_add_46 : decode cX1_add 46 = .ok (.ireturn, 1) := by decide +kernel
set_option maxRecDepth 20000 in
theorem ggX1_areSo_X0_inches : GoodIn wsX1_areSo wsX0_inches := goodIn_r _ [8, 9, 10, 11, 12, 13, 14, 15, 16, 17, 18, 19, 6, 20, 21, 22, 27, 28, 29, 30, 31, 32, 33] (by decide +kernel) (by decide +kernel)
set_option maxRecDepth 20000 in
theorem gX1_areSo_X0_inches_n25 : GoodIn wsX1_areSo (wsX0_inches) := ggX1_areSo_X0_inches
theorem dX1_areSo_0 : decode cX1_areSo 0 = .ok (.iconst 0, 1) := by decide +kernel
theorem dX1_areSo_1 : decode cX1_areSo 1 = .ok (.istore_n 2, 1) := by decide +kernel
theorem dX1_areSo_2 : decode cX1_areSo 2 = .ok (.iload_n 2, 1) := by decide +kernel
theorem dX1_areSo_3 : decode cX1_areSo 3 = .ok (.aload_n 0, 1) := by decide +kernel
theorem dX1_areSo_4 : decode cX1_areSo 4 = .ok (.getfield 9, 3) := by decide +kernel
theorem dX1_areSo_7 : decode cX1_areSo 7 = .ok (.if_icmp .ge 36, 3) := by decide +kernel
theorem dX1_areSo_10 : decode cX1_areSo 10 = .ok (.aload_n 1, 1) := by decide +kernel
theorem dX1_areSo_11 : decode cX1_areSo 11 = .ok (.aload_n 0, 1) := by decide +kernel
theorem dX1_areSo_12 : decode cX1_areSo 12 = .ok (.getfield 15, 3) := by decide +kernel
theorem dX1_areSo_15 : decode cX1_areSo 15 = .ok (.iload_n 2, 1) := by decide +kernel
theorem dX1_areSo_16 : decode cX1_areSo 16 = .ok (.iaload, 1) := by decide +kernel
theorem dX1_areSo_17 : decode cX1_areSo 17 = .ok (.aload_n 0, 1) := by decide +kernel
theorem dX1_areSo_18 : decode cX1_areSo 18 = .ok (.getfield 19, 3) := by decide +kernel
theorem dX1_areSo_21 : decode cX1_areSo 21 = .ok (.iload_n 2, 1) := by decide +kernel
theorem dX1_areSo_22 : decode cX1_areSo 22 = .ok (.iaload, 1) := by decide +kernel
theorem dX1_areSo_23 : decode cX1_areSo 23 = .ok (.invokevirtual 25, 3) := by decide +kernel
theorem dX1_areSo_26 : decode cX1_areSo 26 = .ok (.aload_n 0, 1) := by decide +kernel
theorem dX1_areSo_27 : decode cX1_areSo 27 = .ok (.getfield 22, 3) := by decide +kernel
theorem dX1_areSo_30 : decode cX1_areSo 30 = .ok (.iload_n 2, 1) := by decide +kernel
theorem dX1_areSo_31 : decode cX1_areSo 31 = .ok (.iaload, 1) := by decide +kernel
theorem dX1_areSo_32 : decode cX1_areSo 32 = .ok (.if_icmp .eq 5, 3) := by decide +kernel
theorem dX1_areSo_35 : decode cX1_areSo 35 = .ok (.iconst 0, 1) := by decide +kernel
theorem dX1_areSo_36 : decode cX1_areSo 36 = .ok (.ireturn, 1) := by decide +kernel
theorem dX1_areSo_37 : decode cX1_areSo 37 = .ok (.iinc 2 1, 3) := by decide +kernel
theorem dX1_areSo_40 : decode cX1_areSo 40 = .ok (.goto (-38), 3) := by decide +kernel
theorem dX1_areSo_43 : decode cX1_areSo 43 = .ok (.iconst 1, 1) := by decide +kernel
theorem dX1_areSo_44 : decode cX1_areSo 44 = .ok (.ireturn, 1) := by decide +kernel
theorem dX2_init_0 : decode cX2_init 0 = .ok (.aload_n 0, 1) := by decide +kernel
theorem dX2_init_1 : decode cX2_init 1 = .ok (.invokespecial 3, 3) := by decide +kernel
theorem dX2_init_4 : decode cX2_init 4 = .ok (.aload_n 0, 1) := by decide +kernel
theorem dX2_init_5 : decode cX2_init 5 = .ok (.bipush 15, 2) := by decide +kernel
theorem dX2_init_7 : decode cX2_init 7 = .ok (.newarray .int, 2) := by decide +kernel
theorem dX2_init_9 : decode cX2_init 9 = .ok (.putfield 9, 3) := by decide +kernel
theorem dX2_init_12 : decode cX2_init 12 = .ok (.aload_n 0, 1) := by decide +kernel
theorem dX2_init_13 : decode cX2_init 13 = .ok (.bipush 15, 2) := by decide +kernel
theorem dX2_init_15 : decode cX2_init 15 = .ok (.newarray .int, 2) := by decide +kernel
theorem dX2_init_17 : decode cX2_init 17 = .ok (.putfield 15, 3) := by decide +kernel
theorem dX2_init_20 : decode cX2_init 20 = .ok (.aload_n 0, 1) := by decide +kernel
theorem dX2_init_21 : decode cX2_init 21 = .ok (.iconst 0, 1) := by decide +kernel
theorem dX2_init_22 : decode cX2_init 22 = .ok (.putfield 18, 3) := by decide +kernel
theorem dX2_init_25 : decode cX2_init 25 = .ok (.aload_n 0, 1) := by decide +kernel
theorem dX2_init_26 : decode cX2_init 26 = .ok (.iconst 0, 1) := by decide +kernel
theorem dX2_init_27 : decode cX2_init 27 = .ok (.putfield 22, 3) := by decide +kernel
theorem dX2_init_30 : decode cX2_init 30 = .ok (.return_, 1) := by decide +kernel
theorem dX2_keep_0 : decode cX2_keep 0 = .ok (.aload_n 0, 1) := by decide +kernel
theorem dX2_keep_1 : decode cX2_keep 1 = .ok (.iload_n 1, 1) := by decide +kernel
theorem dX2_keep_2 : decode cX2_keep 2 = .ok (.putfield 18, 3) := by decide +kernel
theorem dX2_keep_5 : decode cX2_keep 5 = .ok (.aload_n 0, 1) := by decide +kernel
theorem dX2_keep_6 : decode cX2_keep 6 = .ok (.getfield 9, 3) := by decide +kernel
theorem dX2_keep_9 : decode cX2_keep 9 = .ok (.iconst 0, 1) := by decide +kernel
theorem dX2_keep_10 : decode cX2_keep 10 = .ok (.aload_n 0, 1) := by decide +kernel
theorem dX2_keep_11 : decode cX2_keep 11 = .ok (.getfield 15, 3) := by decide +kernel
theorem dX2_keep_14 : decode cX2_keep 14 = .ok (.iconst 0, 1) := by decide +kernel
theorem dX2_keep_15 : decode cX2_keep 15 = .ok (.iload_n 1, 1) := by decide +kernel
theorem dX2_keep_16 : decode cX2_keep 16 = .ok (.iconst 1, 1) := by decide +kernel
theorem dX2_keep_17 : decode cX2_keep 17 = .ok (.isub, 1) := by decide +kernel
theorem dX2_keep_18 : decode cX2_keep 18 = .ok (.invokestatic 25, 3) := by decide +kernel
theorem dX2_keep_21 : decode cX2_keep 21 = .ok (.return_, 1) := by decide +kernel
theorem dX3_init_0 : decode cX3_init 0 = .ok (.aload_n 0, 1) := by decide +kernel
theorem dX3_init_1 : decode cX3_init 1 = .ok (.invokespecial 3, 3) := by decide +kernel
theorem dX3_init_4 : decode cX3_init 4 = .ok (.aload_n 0, 1) := by decide +kernel
theorem dX3_init_5 : decode cX3_init 5 = .ok (.iconst 0, 1) := by decide +kernel
theorem dX3_init_6 : decode cX3_init 6 = .ok (.putfield 9, 3) := by decide +kernel
theorem dX3_init_9 : decode cX3_init 9 = .ok (.aload_n 0, 1) := by decide +kernel
theorem dX3_init_10 : decode cX3_init 10 = .ok (.iconst 0, 1) := by decide +kernel
theorem dX3_init_11 : decode cX3_init 11 = .ok (.putfield 15, 3) := by decide +kernel
theorem dX3_init_14 : decode cX3_init 14 = .ok (.aload_n 0, 1) := by decide +kernel
theorem dX3_init_15 : decode cX3_init 15 = .ok (.iconst 0, 1) := by decide +kernel
theorem dX3_init_16 : decode cX3_init 16 = .ok (.putfield 19, 3) := by decide +kernel
theorem dX3_init_19 : decode cX3_init 19 = .ok (.aload_n 0, 1) := by decide +kernel
theorem dX3_init_20 : decode cX3_init 20 = .ok (.bipush 60, 2) := by decide +kernel
theorem dX3_init_22 : decode cX3_init 22 = .ok (.newarray .int, 2) := by decide +kernel
theorem dX3_init_24 : decode cX3_init 24 = .ok (.putfield 22, 3) := by decide +kernel
theorem dX3_init_27 : decode cX3_init 27 = .ok (.return_, 1) := by decide +kernel
theorem dX3_renew_0 : decode cX3_renew 0 = .ok (.aload_n 0, 1) := by decide +kernel
theorem dX3_renew_1 : decode cX3_renew 1 = .ok (.iconst 1, 1) := by decide +kernel
theorem dX3_renew_2 : decode cX3_renew 2 = .ok (.putfield 9, 3) := by decide +kernel
theorem dX3_renew_5 : decode cX3_renew 5 = .ok (.aload_n 0, 1) := by decide +kernel
theorem dX3_renew_6 : decode cX3_renew 6 = .ok (.iload_n 1, 1) := by decide +kernel
theorem dX3_renew_7 : decode cX3_renew 7 = .ok (.putfield 15, 3) := by decide +kernel
theorem dX3_renew_10 : decode cX3_renew 10 = .ok (.aload_n 0, 1) := by decide +kernel
theorem dX3_renew_11 : decode cX3_renew 11 = .ok (.iload_n 2, 1) := by decide +kernel
theorem dX3_renew_12 : decode cX3_renew 12 = .ok (.putfield 19, 3) := by decide +kernel
theorem dX3_renew_15 : decode cX3_renew 15 = .ok (.iconst 0, 1) := by decide +kernel
theorem dX3_renew_16 : decode cX3_renew 16 = .ok (.istore_n 3, 1) := by decide +kernel
theorem dX3_renew_17 : decode cX3_renew 17 = .ok (.iload_n 3, 1) := by decide +kernel
theorem dX3_renew_18 : decode cX3_renew 18 = .ok (.iload_n 2, 1) := by decide +kernel
theorem dX3_renew_19 : decode cX3_renew 19 = .ok (.if_icmp .ge 16, 3) := by decide +kernel
theorem dX3_renew_22 : decode cX3_renew 22 = .ok (.aload_n 0, 1) := by decide +kernel
theorem dX3_renew_23 : decode cX3_renew 23 = .ok (.getfield 22, 3) := by decide +kernel
theorem dX3_renew_26 : decode cX3_renew 26 = .ok (.iload_n 3, 1) := by decide +kernel
theorem dX3_renew_27 : decode cX3_renew 27 = .ok (.iconst 0, 1) := by decide +kernel
theorem dX3_renew_28 : decode cX3_renew 28 = .ok (.iastore, 1) := by decide +kernel
theorem dX3_renew_29 : decode cX3_renew 29 = .ok (.iinc 3 1, 3) := by decide +kernel
theorem dX3_renew_32 : decode cX3_renew 32 = .ok (.goto (-15), 3) := by decide +kernel
theorem dX3_renew_35 : decode cX3_renew 35 = .ok (.return_, 1) := by decide +kernel
theorem dX3_faultAs_0 : decode cX3_faultAs 0 = .ok (.aload_n 0, 1) := by decide +kernel
theorem dX3_faultAs_1 : decode cX3_faultAs 1 = .ok (.getfield 9, 3) := by decide +kernel
theorem dX3_faultAs_4 : decode cX3_faultAs 4 = .ok (.ifCond .ne 5, 3) := by decide +kernel
theorem dX3_faultAs_7 : decode cX3_faultAs 7 = .ok (.iconst 1, 1) := by decide +kernel
theorem dX3_faultAs_8 : decode cX3_faultAs 8 = .ok (.ireturn, 1) := by decide +kernel
theorem dX3_faultAs_9 : decode cX3_faultAs 9 = .ok (.aload_n 0, 1) := by decide +kernel
theorem dX3_faultAs_10 : decode cX3_faultAs 10 = .ok (.getfield 15, 3) := by decide +kernel
theorem dX3_faultAs_13 : decode cX3_faultAs 13 = .ok (.iload_n 1, 1) := by decide +kernel
theorem dX3_faultAs_14 : decode cX3_faultAs 14 = .ok (.if_icmp .ne 7, 3) := by decide +kernel
theorem dX3_faultAs_17 : decode cX3_faultAs 17 = .ok (.iconst 0, 1) := by decide +kernel
theorem dX3_faultAs_18 : decode cX3_faultAs 18 = .ok (.goto 4, 3) := by decide +kernel
theorem dX3_faultAs_21 : decode cX3_faultAs 21 = .ok (.iconst 2, 1) := by decide +kernel
theorem dX3_faultAs_22 : decode cX3_faultAs 22 = .ok (.ireturn, 1) := by decide +kernel
theorem dX3_holds_0 : decode cX3_holds 0 = .ok (.iload_n 1, 1) := by decide +kernel
theorem dX3_holds_1 : decode cX3_holds 1 = .ok (.ifCond .lt 15, 3) := by decide +kernel
theorem dX3_holds_4 : decode cX3_holds 4 = .ok (.iload_n 1, 1) := by decide +kernel
theorem dX3_holds_5 : decode cX3_holds 5 = .ok (.aload_n 0, 1) := by decide +kernel
theorem dX3_holds_6 : decode cX3_holds 6 = .ok (.getfield 19, 3) := by decide +kernel
theorem dX3_holds_9 : decode cX3_holds 9 = .ok (.if_icmp .ge 7, 3) := by decide +kernel
theorem dX3_holds_12 : decode cX3_holds 12 = .ok (.iconst 1, 1) := by decide +kernel
theorem dX3_holds_13 : decode cX3_holds 13 = .ok (.goto 4, 3) := by decide +kernel
theorem dX3_holds_16 : decode cX3_holds 16 = .ok (.iconst 0, 1) := by decide +kernel
theorem dX3_holds_17 : decode cX3_holds 17 = .ok (.ireturn, 1) := by decide +kernel
theorem dX3_spans_0 : decode cX3_spans 0 = .ok (.iload_n 1, 1) := by decide +kernel
theorem dX3_spans_1 : decode cX3_spans 1 = .ok (.ifCond .lt 29, 3) := by decide +kernel
theorem dX3_spans_4 : decode cX3_spans 4 = .ok (.iload_n 2, 1) := by decide +kernel
theorem dX3_spans_5 : decode cX3_spans 5 = .ok (.ifCond .lt 25, 3) := by decide +kernel
theorem dX3_spans_8 : decode cX3_spans 8 = .ok (.iload_n 1, 1) := by decide +kernel
theorem dX3_spans_9 : decode cX3_spans 9 = .ok (.aload_n 0, 1) := by decide +kernel
theorem dX3_spans_10 : decode cX3_spans 10 = .ok (.getfield 19, 3) := by decide +kernel
theorem dX3_spans_13 : decode cX3_spans 13 = .ok (.if_icmp .gt 17, 3) := by decide +kernel
theorem dX3_spans_16 : decode cX3_spans 16 = .ok (.iload_n 2, 1) := by decide +kernel
theorem dX3_spans_17 : decode cX3_spans 17 = .ok (.aload_n 0, 1) := by decide +kernel
theorem dX3_spans_18 : decode cX3_spans 18 = .ok (.getfield 19, 3) := by decide +kernel
theorem dX3_spans_21 : decode cX3_spans 21 = .ok (.iload_n 1, 1) := by decide +kernel
theorem dX3_spans_22 : decode cX3_spans 22 = .ok (.isub, 1) := by decide +kernel
theorem dX3_spans_23 : decode cX3_spans 23 = .ok (.if_icmp .gt 7, 3) := by decide +kernel
theorem dX3_spans_26 : decode cX3_spans 26 = .ok (.iconst 1, 1) := by decide +kernel
theorem dX3_spans_27 : decode cX3_spans 27 = .ok (.goto 4, 3) := by decide +kernel
theorem dX3_spans_30 : decode cX3_spans 30 = .ok (.iconst 0, 1) := by decide +kernel
theorem dX3_spans_31 : decode cX3_spans 31 = .ok (.ireturn, 1) := by decide +kernel
theorem dX3_cut_0 : decode cX3_cut 0 = .ok (.aload_n 0, 1) := by decide +kernel
theorem dX3_cut_1 : decode cX3_cut 1 = .ok (.getfield 15, 3) := by decide +kernel
theorem dX3_cut_4 : decode cX3_cut 4 = .ok (.lookupswitch 34 #[(0, 28), (1, 31)], 28) := by decide +kernel
theorem dX3_cut_32 : decode cX3_cut 32 = .ok (.iload_n 1, 1) := by decide +kernel
theorem dX3_cut_33 : decode cX3_cut 33 = .ok (.i2b, 1) := by decide +kernel
theorem dX3_cut_34 : decode cX3_cut 34 = .ok (.ireturn, 1) := by decide +kernel
theorem dX3_cut_35 : decode cX3_cut 35 = .ok (.iload_n 1, 1) := by decide +kernel
theorem dX3_cut_36 : decode cX3_cut 36 = .ok (.i2s, 1) := by decide +kernel
theorem dX3_cut_37 : decode cX3_cut 37 = .ok (.ireturn, 1) := by decide +kernel
theorem dX3_cut_38 : decode cX3_cut 38 = .ok (.iload_n 1, 1) := by decide +kernel
theorem dX3_cut_39 : decode cX3_cut 39 = .ok (.ireturn, 1) := by decide +kernel
set_option maxRecDepth 20000 in
theorem ggX4_init_X0_init : GoodIn wsX4_init wsX0_init := goodIn_r _ [23, 24, 2, 3, 25, 26, 27, 28, 29, 30, 31, 32, 54, 55, 56, 57, 58, 59, 60] (by decide +kernel) (by decide +kernel)
set_option maxRecDepth 20000 in
theorem gX4_init_X0_init_n13 : GoodIn wsX4_init (wsX0_init) := ggX4_init_X0_init
set_option maxRecDepth 20000 in
theorem ggX4_init_X1_init : GoodIn wsX4_init wsX1_init := goodIn_r _ [34, 35, 2, 3, 36, 29, 37, 38, 39, 67, 68, 69, 70] (by decide +kernel) (by decide +kernel)
set_option maxRecDepth 20000 in
theorem gX4_init_X1_init_n20 : GoodIn wsX4_init (wsX1_init) := ggX4_init_X1_init
set_option maxRecDepth 20000 in
theorem ggX4_init_X2_init : GoodIn wsX4_init wsX2_init := goodIn_r _ [41, 42, 2, 3, 29, 43, 44, 45, 46, 71, 72, 73, 74] (by decide +kernel) (by decide +kernel)
set_option maxRecDepth 20000 in
theorem gX4_init_X2_init_n27 : GoodIn wsX4_init (wsX2_init) := ggX4_init_X2_init
set_option maxRecDepth 20000 in
theorem ggX4_init_X3_init : GoodIn wsX4_init wsX3_init := goodIn_r _ [48, 49, 2, 3, 50, 51, 52, 29, 53, 75, 76, 77, 78] (by decide +kernel) (by decide +kernel)
set_option maxRecDepth 20000 in
theorem gX4_init_X3_init_n45 : GoodIn wsX4_init (wsX3_init) := ggX4_init_X3_init
theorem dX4_init_0 : decode cX4_init 0 = .ok (.aload_n 0, 1) := by decide +kernel
theorem dX4_init_1 : decode cX4_init 1 = .ok (.invokespecial 5, 3) := by decide +kernel
theorem dX4_init_4 : decode cX4_init 4 = .ok (.aload_n 0, 1) := by decide +kernel
theorem dX4_init_5 : decode cX4_init 5 = .ok (.new 11, 3) := by decide +kernel
theorem dX4_init_8 : decode cX4_init 8 = .ok (.dup, 1) := by decide +kernel
theorem dX4_init_9 : decode cX4_init 9 = .ok (.invokespecial 13, 3) := by decide +kernel
theorem dX4_init_12 : decode cX4_init 12 = .ok (.putfield 14, 3) := by decide +kernel
theorem dX4_init_15 : decode cX4_init 15 = .ok (.aload_n 0, 1) := by decide +kernel
theorem dX4_init_16 : decode cX4_init 16 = .ok (.new 18, 3) := by decide +kernel
theorem dX4_init_19 : decode cX4_init 19 = .ok (.dup, 1) := by decide +kernel
theorem dX4_init_20 : decode cX4_init 20 = .ok (.invokespecial 20, 3) := by decide +kernel
theorem dX4_init_23 : decode cX4_init 23 = .ok (.putfield 21, 3) := by decide +kernel
theorem dX4_init_26 : decode cX4_init 26 = .ok (.aload_n 0, 1) := by decide +kernel
theorem dX4_init_27 : decode cX4_init 27 = .ok (.new 25, 3) := by decide +kernel
theorem dX4_init_30 : decode cX4_init 30 = .ok (.dup, 1) := by decide +kernel
theorem dX4_init_31 : decode cX4_init 31 = .ok (.invokespecial 27, 3) := by decide +kernel
theorem dX4_init_34 : decode cX4_init 34 = .ok (.putfield 28, 3) := by decide +kernel
theorem dX4_init_37 : decode cX4_init 37 = .ok (.aload_n 0, 1) := by decide +kernel
theorem dX4_init_38 : decode cX4_init 38 = .ok (.iconst 4, 1) := by decide +kernel
theorem dX4_init_39 : decode cX4_init 39 = .ok (.anewarray 32, 3) := by decide +kernel
theorem dX4_init_42 : decode cX4_init 42 = .ok (.putfield 34, 3) := by decide +kernel
theorem dX4_init_45 : decode cX4_init 45 = .ok (.aload_n 0, 1) := by decide +kernel
theorem dX4_init_46 : decode cX4_init 46 = .ok (.iconst 0, 1) := by decide +kernel
theorem dX4_init_47 : decode cX4_init 47 = .ok (.putfield 38, 3) := by decide +kernel
theorem dX4_init_50 : decode cX4_init 50 = .ok (.aload_n 0, 1) := by decide +kernel
theorem dX4_init_51 : decode cX4_init 51 = .ok (.iconst 0, 1) := by decide +kernel
theorem dX4_init_52 : decode cX4_init 52 = .ok (.putfield 42, 3) := by decide +kernel
theorem dX4_init_55 : decode cX4_init 55 = .ok (.iconst 0, 1) := by decide +kernel
theorem dX4_init_56 : decode cX4_init 56 = .ok (.istore_n 1, 1) := by decide +kernel
theorem dX4_init_57 : decode cX4_init 57 = .ok (.iload_n 1, 1) := by decide +kernel
theorem dX4_init_58 : decode cX4_init 58 = .ok (.iconst 4, 1) := by decide +kernel
theorem dX4_init_59 : decode cX4_init 59 = .ok (.if_icmp .ge 22, 3) := by decide +kernel
theorem dX4_init_62 : decode cX4_init 62 = .ok (.aload_n 0, 1) := by decide +kernel
theorem dX4_init_63 : decode cX4_init 63 = .ok (.getfield 34, 3) := by decide +kernel
theorem dX4_init_66 : decode cX4_init 66 = .ok (.iload_n 1, 1) := by decide +kernel
theorem dX4_init_67 : decode cX4_init 67 = .ok (.new 32, 3) := by decide +kernel
theorem dX4_init_70 : decode cX4_init 70 = .ok (.dup, 1) := by decide +kernel
theorem dX4_init_71 : decode cX4_init 71 = .ok (.invokespecial 45, 3) := by decide +kernel
theorem dX4_init_74 : decode cX4_init 74 = .ok (.aastore, 1) := by decide +kernel
theorem dX4_init_75 : decode cX4_init 75 = .ok (.iinc 1 1, 3) := by decide +kernel
theorem dX4_init_78 : decode cX4_init 78 = .ok (.goto (-21), 3) := by decide +kernel
theorem dX4_init_81 : decode cX4_init 81 = .ok (.return_, 1) := by decide +kernel
set_option maxRecDepth 20000 in
theorem ggX4_hill_X4_isSheet : GoodIn wsX4_hill wsX4_isSheet := goodIn_r _ [8] (by decide +kernel) (by decide +kernel)
set_option maxRecDepth 20000 in
theorem gX4_hill_X4_isSheet : GoodIn wsX4_hill (va_wsS RX4 46 yX4_isSheet wsX4_isSheet) := goodIn_app (goodIn_of _ (by decide +kernel)) ggX4_hill_X4_isSheet
set_option maxRecDepth 20000 in
theorem ggX4_hill_X4_isLane : GoodIn wsX4_hill wsX4_isLane := goodIn_r _ [11] (by decide +kernel) (by decide +kernel)
set_option maxRecDepth 20000 in
theorem gX4_hill_X4_isLane : GoodIn wsX4_hill (va_wsS RX4 50 yX4_isLane wsX4_isLane) := goodIn_app (goodIn_of _ (by decide +kernel)) ggX4_hill_X4_isLane
set_option maxRecDepth 20000 in
theorem ggX4_hill_X3_faultAs : GoodIn wsX4_hill wsX3_faultAs := goodIn_r _ [15, 16, 17, 75, 76, 77, 78] (by decide +kernel) (by decide +kernel)
set_option maxRecDepth 20000 in
theorem gX4_hill_X3_faultAs_n53 : GoodIn wsX4_hill (wsX3_faultAs) := ggX4_hill_X3_faultAs
set_option maxRecDepth 20000 in
theorem ggX4_hill_X3_spans : GoodIn wsX4_hill wsX3_spans := goodIn_r _ [20, 21, 75, 76, 77, 78] (by decide +kernel) (by decide +kernel)
set_option maxRecDepth 20000 in
theorem gX4_hill_X3_spans_n57 : GoodIn wsX4_hill (wsX3_spans) := ggX4_hill_X3_spans
set_option maxRecDepth 20000 in
theorem ggX4_hill_X4_failed : GoodIn wsX4_hill wsX4_failed := goodIn_r _ [25, 1, 69, 70, 71, 72, 73, 74] (by decide +kernel) (by decide +kernel)
set_option maxRecDepth 20000 in
theorem gX4_hill_X4_failed : GoodIn wsX4_hill (wsV RX4 61 RX4 yX4_failed wsX4_failed) := goodIn_app (goodIn_of _ (by decide +kernel)) ggX4_hill_X4_failed
set_option maxRecDepth 20000 in
theorem ggX4_hill_X4_firstFault : GoodIn wsX4_hill wsX4_firstFault := goodIn_r _ [28, 29, 30, 7, 31, 32, 33, 34, 35, 36, 37] (by decide +kernel) (by decide +kernel)
set_option maxRecDepth 20000 in
theorem gX4_hill_X4_firstFault : GoodIn wsX4_hill (va_wsS RX4 68 yX4_firstFault wsX4_firstFault) := goodIn_app (goodIn_of _ (by decide +kernel)) ggX4_hill_X4_firstFault
set_option maxRecDepth 20000 in
theorem ggX4_hill_X0_grow : GoodIn wsX4_hill wsX0_grow := goodIn_r _ [41, 42, 43, 44, 45, 46, 47, 36, 7, 37, 48, 49, 50, 39, 51, 52, 83, 84, 85, 86, 87, 88, 89] (by decide +kernel) (by decide +kernel)
set_option maxRecDepth 20000 in
theorem gX4_hill_X0_grow_n72 : GoodIn wsX4_hill (wsX0_grow) := ggX4_hill_X0_grow
set_option maxRecDepth 20000 in
theorem ggX4_hill_X0_softCells : GoodIn wsX4_hill wsX0_softCells := goodIn_r _ [55, 46, 56, 57, 58, 39, 59, 42, 43, 60, 7, 61, 83, 84, 85, 86, 87, 88, 89] (by decide +kernel) (by decide +kernel)
set_option maxRecDepth 20000 in
theorem gX4_hill_X0_softCells_n79 : GoodIn wsX4_hill (wsX0_softCells) := ggX4_hill_X0_softCells
set_option maxRecDepth 20000 in
theorem ggX4_hill_J6_bitCount_0f7a4 : GoodIn wsX4_hill wsJ6_bitCount_0f7a4 := goodIn_r _ [65, 66, 67, 68] (by decide +kernel) (by decide +kernel)
set_option maxRecDepth 20000 in
theorem gX4_hill_J6_bitCount_0f7a4 : GoodIn wsX4_hill (va_wsS RX4 83 yJ6_bitCount_0f7a4 wsJ6_bitCount_0f7a4) := goodIn_app (goodIn_of _ (by decide +kernel)) ggX4_hill_J6_bitCount_0f7a4
theorem dX4_hill_0 : decode cX4_hill 0 = .ok (.aload_n 0, 1) := by decide +kernel
theorem dX4_hill_1 : decode cX4_hill 1 = .ok (.iconst 0, 1) := by decide +kernel
theorem dX4_hill_2 : decode cX4_hill 2 = .ok (.putfield 38, 3) := by decide +kernel
theorem dX4_hill_5 : decode cX4_hill 5 = .ok (.iload_n 1, 1) := by decide +kernel
theorem dX4_hill_6 : decode cX4_hill 6 = .ok (.invokestatic 46, 3) := by decide +kernel
theorem dX4_hill_9 : decode cX4_hill 9 = .ok (.ifCond .ne 5, 3) := by decide +kernel
theorem dX4_hill_12 : decode cX4_hill 12 = .ok (.iconst (-1), 1) := by decide +kernel
theorem dX4_hill_13 : decode cX4_hill 13 = .ok (.ireturn, 1) := by decide +kernel
theorem dX4_hill_14 : decode cX4_hill 14 = .ok (.iload_n 2, 1) := by decide +kernel
theorem dX4_hill_15 : decode cX4_hill 15 = .ok (.invokestatic 50, 3) := by decide +kernel
theorem dX4_hill_18 : decode cX4_hill 18 = .ok (.ifCond .ne 6, 3) := by decide +kernel
theorem dX4_hill_21 : decode cX4_hill 21 = .ok (.bipush (-2), 2) := by decide +kernel
theorem dX4_hill_23 : decode cX4_hill 23 = .ok (.ireturn, 1) := by decide +kernel
theorem dX4_hill_24 : decode cX4_hill 24 = .ok (.aload_n 0, 1) := by decide +kernel
theorem dX4_hill_25 : decode cX4_hill 25 = .ok (.getfield 34, 3) := by decide +kernel
theorem dX4_hill_28 : decode cX4_hill 28 = .ok (.iload_n 1, 1) := by decide +kernel
theorem dX4_hill_29 : decode cX4_hill 29 = .ok (.aaload, 1) := by decide +kernel
theorem dX4_hill_30 : decode cX4_hill 30 = .ok (.astore 5, 2) := by decide +kernel
theorem dX4_hill_32 : decode cX4_hill 32 = .ok (.aload 5, 2) := by decide +kernel
theorem dX4_hill_34 : decode cX4_hill 34 = .ok (.iload_n 2, 1) := by decide +kernel
theorem dX4_hill_35 : decode cX4_hill 35 = .ok (.invokevirtual 53, 3) := by decide +kernel
theorem dX4_hill_38 : decode cX4_hill 38 = .ok (.istore 6, 2) := by decide +kernel
theorem dX4_hill_40 : decode cX4_hill 40 = .ok (.iload 6, 2) := by decide +kernel
theorem dX4_hill_42 : decode cX4_hill 42 = .ok (.ifCond .ne 11, 3) := by decide +kernel
theorem dX4_hill_45 : decode cX4_hill 45 = .ok (.iload 4, 2) := by decide +kernel
theorem dX4_hill_47 : decode cX4_hill 47 = .ok (.ifCond .ge 6, 3) := by decide +kernel
theorem dX4_hill_50 : decode cX4_hill 50 = .ok (.iconst 4, 1) := by decide +kernel
theorem dX4_hill_51 : decode cX4_hill 51 = .ok (.istore 6, 2) := by decide +kernel
theorem dX4_hill_53 : decode cX4_hill 53 = .ok (.iload 6, 2) := by decide +kernel
theorem dX4_hill_55 : decode cX4_hill 55 = .ok (.ifCond .ne 17, 3) := by decide +kernel
theorem dX4_hill_58 : decode cX4_hill 58 = .ok (.aload 5, 2) := by decide +kernel
theorem dX4_hill_60 : decode cX4_hill 60 = .ok (.iload_n 3, 1) := by decide +kernel
theorem dX4_hill_61 : decode cX4_hill 61 = .ok (.iload 4, 2) := by decide +kernel
theorem dX4_hill_63 : decode cX4_hill 63 = .ok (.invokevirtual 57, 3) := by decide +kernel
theorem dX4_hill_66 : decode cX4_hill 66 = .ok (.ifCond .ne 6, 3) := by decide +kernel
theorem dX4_hill_69 : decode cX4_hill 69 = .ok (.iconst 3, 1) := by decide +kernel
theorem dX4_hill_70 : decode cX4_hill 70 = .ok (.istore 6, 2) := by decide +kernel
theorem dX4_hill_72 : decode cX4_hill 72 = .ok (.iload 6, 2) := by decide +kernel
theorem dX4_hill_74 : decode cX4_hill 74 = .ok (.ifCond .eq 10, 3) := by decide +kernel
theorem dX4_hill_77 : decode cX4_hill 77 = .ok (.aload_n 0, 1) := by decide +kernel
theorem dX4_hill_78 : decode cX4_hill 78 = .ok (.iload 6, 2) := by decide +kernel
theorem dX4_hill_80 : decode cX4_hill 80 = .ok (.invokevirtual 61, 3) := by decide +kernel
theorem dX4_hill_83 : decode cX4_hill 83 = .ok (.ireturn, 1) := by decide +kernel
theorem dX4_hill_84 : decode cX4_hill 84 = .ok (.aload 5, 2) := by decide +kernel
theorem dX4_hill_86 : decode cX4_hill 86 = .ok (.getfield 64, 3) := by decide +kernel
theorem dX4_hill_89 : decode cX4_hill 89 = .ok (.iload_n 3, 1) := by decide +kernel
theorem dX4_hill_90 : decode cX4_hill 90 = .ok (.iload 4, 2) := by decide +kernel
theorem dX4_hill_92 : decode cX4_hill 92 = .ok (.invokestatic 68, 3) := by decide +kernel
theorem dX4_hill_95 : decode cX4_hill 95 = .ok (.istore 7, 2) := by decide +kernel
theorem dX4_hill_97 : decode cX4_hill 97 = .ok (.iload 7, 2) := by decide +kernel
theorem dX4_hill_99 : decode cX4_hill 99 = .ok (.bipush (-9), 2) := by decide +kernel
theorem dX4_hill_101 : decode cX4_hill 101 = .ok (.if_icmp .eq 9, 3) := by decide +kernel
theorem dX4_hill_104 : decode cX4_hill 104 = .ok (.bipush (-100), 2) := by decide +kernel
theorem dX4_hill_106 : decode cX4_hill 106 = .ok (.iload 7, 2) := by decide +kernel
theorem dX4_hill_108 : decode cX4_hill 108 = .ok (.isub, 1) := by decide +kernel
theorem dX4_hill_109 : decode cX4_hill 109 = .ok (.ireturn, 1) := by decide +kernel
theorem dX4_hill_110 : decode cX4_hill 110 = .ok (.aload_n 0, 1) := by decide +kernel
theorem dX4_hill_111 : decode cX4_hill 111 = .ok (.getfield 14, 3) := by decide +kernel
theorem dX4_hill_114 : decode cX4_hill 114 = .ok (.aload 5, 2) := by decide +kernel
theorem dX4_hill_116 : decode cX4_hill 116 = .ok (.getfield 64, 3) := by decide +kernel
theorem dX4_hill_119 : decode cX4_hill 119 = .ok (.iload_n 3, 1) := by decide +kernel
theorem dX4_hill_120 : decode cX4_hill 120 = .ok (.invokevirtual 72, 3) := by decide +kernel
theorem dX4_hill_123 : decode cX4_hill 123 = .ok (.aload_n 0, 1) := by decide +kernel
theorem dX4_hill_124 : decode cX4_hill 124 = .ok (.getfield 21, 3) := by decide +kernel
theorem dX4_hill_127 : decode cX4_hill 127 = .ok (.iconst 0, 1) := by decide +kernel
theorem dX4_hill_128 : decode cX4_hill 128 = .ok (.putfield 76, 3) := by decide +kernel
theorem dX4_hill_131 : decode cX4_hill 131 = .ok (.aload_n 0, 1) := by decide +kernel
theorem dX4_hill_132 : decode cX4_hill 132 = .ok (.getfield 14, 3) := by decide +kernel
theorem dX4_hill_135 : decode cX4_hill 135 = .ok (.invokevirtual 79, 3) := by decide +kernel
theorem dX4_hill_138 : decode cX4_hill 138 = .ok (.invokestatic 83, 3) := by decide +kernel
theorem dX4_hill_141 : decode cX4_hill 141 = .ok (.ireturn, 1) := by decide +kernel
set_option maxRecDepth 20000 in
theorem ggX4_ofCell_X0_has : GoodIn wsX4_ofCell wsX0_has := goodIn_r _ [5, 6, 7, 8, 3, 9, 10, 11, 23, 24, 25, 26, 27, 28, 29] (by decide +kernel) (by decide +kernel)
set_option maxRecDepth 20000 in
theorem gX4_ofCell_X0_has_n88 : GoodIn wsX4_ofCell (wsX0_has) := ggX4_ofCell_X0_has
set_option maxRecDepth 20000 in
theorem ggX4_ofCell_X0_weekly : GoodIn wsX4_ofCell wsX0_weekly := goodIn_r _ [14, 15, 16, 23, 24, 25, 26, 27, 28, 29] (by decide +kernel) (by decide +kernel)
set_option maxRecDepth 20000 in
theorem gX4_ofCell_X0_weekly_n94 : GoodIn wsX4_ofCell (wsX0_weekly) := ggX4_ofCell_X0_weekly
theorem dX4_ofCell_0 : decode cX4_ofCell 0 = .ok (.aload_n 0, 1) := by decide +kernel
theorem dX4_ofCell_1 : decode cX4_ofCell 1 = .ok (.getfield 14, 3) := by decide +kernel
theorem dX4_ofCell_4 : decode cX4_ofCell 4 = .ok (.iload_n 1, 1) := by decide +kernel
theorem dX4_ofCell_5 : decode cX4_ofCell 5 = .ok (.invokevirtual 88, 3) := by decide +kernel
theorem dX4_ofCell_8 : decode cX4_ofCell 8 = .ok (.ifCond .ne 5, 3) := by decide +kernel
theorem dX4_ofCell_11 : decode cX4_ofCell 11 = .ok (.iconst (-1), 1) := by decide +kernel
theorem dX4_ofCell_12 : decode cX4_ofCell 12 = .ok (.ireturn, 1) := by decide +kernel
theorem dX4_ofCell_13 : decode cX4_ofCell 13 = .ok (.iload_n 2, 1) := by decide +kernel
theorem dX4_ofCell_14 : decode cX4_ofCell 14 = .ok (.tableswitch 55 0 2 #[26, 36, 45], 26) := by decide +kernel
theorem dX4_ofCell_40 : decode cX4_ofCell 40 = .ok (.aload_n 0, 1) := by decide +kernel
theorem dX4_ofCell_41 : decode cX4_ofCell 41 = .ok (.getfield 14, 3) := by decide +kernel
theorem dX4_ofCell_44 : decode cX4_ofCell 44 = .ok (.getfield 91, 3) := by decide +kernel
theorem dX4_ofCell_47 : decode cX4_ofCell 47 = .ok (.iload_n 1, 1) := by decide +kernel
theorem dX4_ofCell_48 : decode cX4_ofCell 48 = .ok (.iaload, 1) := by decide +kernel
theorem dX4_ofCell_49 : decode cX4_ofCell 49 = .ok (.ireturn, 1) := by decide +kernel
theorem dX4_ofCell_50 : decode cX4_ofCell 50 = .ok (.aload_n 0, 1) := by decide +kernel
theorem dX4_ofCell_51 : decode cX4_ofCell 51 = .ok (.getfield 14, 3) := by decide +kernel
theorem dX4_ofCell_54 : decode cX4_ofCell 54 = .ok (.iload_n 1, 1) := by decide +kernel
theorem dX4_ofCell_55 : decode cX4_ofCell 55 = .ok (.invokevirtual 94, 3) := by decide +kernel
theorem dX4_ofCell_58 : decode cX4_ofCell 58 = .ok (.ireturn, 1) := by decide +kernel
theorem dX4_ofCell_59 : decode cX4_ofCell 59 = .ok (.aload_n 0, 1) := by decide +kernel
theorem dX4_ofCell_60 : decode cX4_ofCell 60 = .ok (.getfield 14, 3) := by decide +kernel
theorem dX4_ofCell_63 : decode cX4_ofCell 63 = .ok (.getfield 97, 3) := by decide +kernel
theorem dX4_ofCell_66 : decode cX4_ofCell 66 = .ok (.iload_n 1, 1) := by decide +kernel
theorem dX4_ofCell_67 : decode cX4_ofCell 67 = .ok (.iaload, 1) := by decide +kernel
theorem dX4_ofCell_68 : decode cX4_ofCell 68 = .ok (.ireturn, 1) := by decide +kernel
theorem dX4_ofCell_69 : decode cX4_ofCell 69 = .ok (.bipush (-2), 2) := by decide +kernel
theorem dX4_ofCell_71 : decode cX4_ofCell 71 = .ok (.ireturn, 1) := by decide +kernel
set_option maxRecDepth 20000 in
theorem ggX4_goats_X0_isSoft : GoodIn wsX4_goats wsX0_isSoft := goodIn_r _ [5, 6, 7, 8, 9, 3, 10, 11, 12, 13, 14, 15, 16, 27, 28, 29, 30, 31, 32, 33] (by decide +kernel) (by decide +kernel)
set_option maxRecDepth 20000 in
theorem gX4_goats_X0_isSoft_n100 : GoodIn wsX4_goats (wsX0_isSoft) := ggX4_goats_X0_isSoft
set_option maxRecDepth 20000 in
theorem ggX4_goats_X4_isInches : GoodIn wsX4_goats wsX4_isInches := goodIn_r _ [20] (by decide +kernel) (by decide +kernel)
set_option maxRecDepth 20000 in
theorem gX4_goats_X4_isInches : GoodIn wsX4_goats (va_wsS RX4 103 yX4_isInches wsX4_isInches) := goodIn_app (goodIn_of _ (by decide +kernel)) ggX4_goats_X4_isInches
theorem dX4_goats_0 : decode cX4_goats 0 = .ok (.aload_n 0, 1) := by decide +kernel
theorem dX4_goats_1 : decode cX4_goats 1 = .ok (.getfield 14, 3) := by decide +kernel
theorem dX4_goats_4 : decode cX4_goats 4 = .ok (.iload_n 1, 1) := by decide +kernel
theorem dX4_goats_5 : decode cX4_goats 5 = .ok (.invokevirtual 100, 3) := by decide +kernel
theorem dX4_goats_8 : decode cX4_goats 8 = .ok (.ifCond .ne 5, 3) := by decide +kernel
theorem dX4_goats_11 : decode cX4_goats 11 = .ok (.iconst (-1), 1) := by decide +kernel
theorem dX4_goats_12 : decode cX4_goats 12 = .ok (.ireturn, 1) := by decide +kernel
theorem dX4_goats_13 : decode cX4_goats 13 = .ok (.iload_n 2, 1) := by decide +kernel
theorem dX4_goats_14 : decode cX4_goats 14 = .ok (.invokestatic 103, 3) := by decide +kernel
theorem dX4_goats_17 : decode cX4_goats 17 = .ok (.ifCond .ne 6, 3) := by decide +kernel
theorem dX4_goats_20 : decode cX4_goats 20 = .ok (.bipush (-2), 2) := by decide +kernel
theorem dX4_goats_22 : decode cX4_goats 22 = .ok (.ireturn, 1) := by decide +kernel
theorem dX4_goats_23 : decode cX4_goats 23 = .ok (.aload_n 0, 1) := by decide +kernel
theorem dX4_goats_24 : decode cX4_goats 24 = .ok (.getfield 14, 3) := by decide +kernel
theorem dX4_goats_27 : decode cX4_goats 27 = .ok (.getfield 97, 3) := by decide +kernel
theorem dX4_goats_30 : decode cX4_goats 30 = .ok (.iload_n 1, 1) := by decide +kernel
theorem dX4_goats_31 : decode cX4_goats 31 = .ok (.iaload, 1) := by decide +kernel
theorem dX4_goats_32 : decode cX4_goats 32 = .ok (.istore_n 3, 1) := by decide +kernel
theorem dX4_goats_33 : decode cX4_goats 33 = .ok (.aload_n 0, 1) := by decide +kernel
theorem dX4_goats_34 : decode cX4_goats 34 = .ok (.getfield 14, 3) := by decide +kernel
theorem dX4_goats_37 : decode cX4_goats 37 = .ok (.getfield 97, 3) := by decide +kernel
theorem dX4_goats_40 : decode cX4_goats 40 = .ok (.iload_n 1, 1) := by decide +kernel
theorem dX4_goats_41 : decode cX4_goats 41 = .ok (.iload_n 2, 1) := by decide +kernel
theorem dX4_goats_42 : decode cX4_goats 42 = .ok (.iastore, 1) := by decide +kernel
theorem dX4_goats_43 : decode cX4_goats 43 = .ok (.iload_n 3, 1) := by decide +kernel
theorem dX4_goats_44 : decode cX4_goats 44 = .ok (.ireturn, 1) := by decide +kernel
set_option maxRecDepth 20000 in
theorem ggX4_pace_X0_stands : GoodIn wsX4_pace wsX0_stands := goodIn_r _ [5, 6, 13, 14, 15, 16, 17, 18, 19] (by decide +kernel) (by decide +kernel)
set_option maxRecDepth 20000 in
theorem gX4_pace_X0_stands_n106 : GoodIn wsX4_pace (wsX0_stands) := ggX4_pace_X0_stands
theorem dX4_pace_0 : decode cX4_pace 0 = .ok (.iload_n 1, 1) := by decide +kernel
theorem dX4_pace_1 : decode cX4_pace 1 = .ok (.iconst 1, 1) := by decide +kernel
theorem dX4_pace_2 : decode cX4_pace 2 = .ok (.if_icmp .lt 8, 3) := by decide +kernel
theorem dX4_pace_5 : decode cX4_pace 5 = .ok (.iload_n 1, 1) := by decide +kernel
theorem dX4_pace_6 : decode cX4_pace 6 = .ok (.iconst 3, 1) := by decide +kernel
theorem dX4_pace_7 : decode cX4_pace 7 = .ok (.if_icmp .le 6, 3) := by decide +kernel
theorem dX4_pace_10 : decode cX4_pace 10 = .ok (.bipush (-2), 2) := by decide +kernel
theorem dX4_pace_12 : decode cX4_pace 12 = .ok (.ireturn, 1) := by decide +kernel
theorem dX4_pace_13 : decode cX4_pace 13 = .ok (.aload_n 0, 1) := by decide +kernel
theorem dX4_pace_14 : decode cX4_pace 14 = .ok (.getfield 14, 3) := by decide +kernel
theorem dX4_pace_17 : decode cX4_pace 17 = .ok (.invokevirtual 106, 3) := by decide +kernel
theorem dX4_pace_20 : decode cX4_pace 20 = .ok (.ifCond .ne 6, 3) := by decide +kernel
theorem dX4_pace_23 : decode cX4_pace 23 = .ok (.bipush (-3), 2) := by decide +kernel
theorem dX4_pace_25 : decode cX4_pace 25 = .ok (.ireturn, 1) := by decide +kernel
theorem dX4_pace_26 : decode cX4_pace 26 = .ok (.aload_n 0, 1) := by decide +kernel
theorem dX4_pace_27 : decode cX4_pace 27 = .ok (.getfield 14, 3) := by decide +kernel
theorem dX4_pace_30 : decode cX4_pace 30 = .ok (.getfield 110, 3) := by decide +kernel
theorem dX4_pace_33 : decode cX4_pace 33 = .ok (.istore_n 2, 1) := by decide +kernel
theorem dX4_pace_34 : decode cX4_pace 34 = .ok (.aload_n 0, 1) := by decide +kernel
theorem dX4_pace_35 : decode cX4_pace 35 = .ok (.getfield 14, 3) := by decide +kernel
theorem dX4_pace_38 : decode cX4_pace 38 = .ok (.iload_n 1, 1) := by decide +kernel
theorem dX4_pace_39 : decode cX4_pace 39 = .ok (.putfield 110, 3) := by decide +kernel
theorem dX4_pace_42 : decode cX4_pace 42 = .ok (.iload_n 2, 1) := by decide +kernel
theorem dX4_pace_43 : decode cX4_pace 43 = .ok (.ireturn, 1) := by decide +kernel
set_option maxRecDepth 20000 in
theorem ggX4_breadth_X0_stands : GoodIn wsX4_breadth wsX0_stands := goodIn_r _ [5, 6, 13, 14, 15, 16, 17, 18, 19] (by decide +kernel) (by decide +kernel)
set_option maxRecDepth 20000 in
theorem gX4_breadth_X0_stands_n106 : GoodIn wsX4_breadth (wsX0_stands) := ggX4_breadth_X0_stands
theorem dX4_breadth_0 : decode cX4_breadth 0 = .ok (.iload_n 1, 1) := by decide +kernel
theorem dX4_breadth_1 : decode cX4_breadth 1 = .ok (.iconst 1, 1) := by decide +kernel
theorem dX4_breadth_2 : decode cX4_breadth 2 = .ok (.if_icmp .lt 9, 3) := by decide +kernel
theorem dX4_breadth_5 : decode cX4_breadth 5 = .ok (.iload_n 1, 1) := by decide +kernel
theorem dX4_breadth_6 : decode cX4_breadth 6 = .ok (.bipush 9, 2) := by decide +kernel
theorem dX4_breadth_8 : decode cX4_breadth 8 = .ok (.if_icmp .le 6, 3) := by decide +kernel
theorem dX4_breadth_11 : decode cX4_breadth 11 = .ok (.bipush (-2), 2) := by decide +kernel
theorem dX4_breadth_13 : decode cX4_breadth 13 = .ok (.ireturn, 1) := by decide +kernel
theorem dX4_breadth_14 : decode cX4_breadth 14 = .ok (.aload_n 0, 1) := by decide +kernel
theorem dX4_breadth_15 : decode cX4_breadth 15 = .ok (.getfield 14, 3) := by decide +kernel
theorem dX4_breadth_18 : decode cX4_breadth 18 = .ok (.invokevirtual 106, 3) := by decide +kernel
theorem dX4_breadth_21 : decode cX4_breadth 21 = .ok (.ifCond .ne 6, 3) := by decide +kernel
theorem dX4_breadth_24 : decode cX4_breadth 24 = .ok (.bipush (-3), 2) := by decide +kernel
theorem dX4_breadth_26 : decode cX4_breadth 26 = .ok (.ireturn, 1) := by decide +kernel
theorem dX4_breadth_27 : decode cX4_breadth 27 = .ok (.aload_n 0, 1) := by decide +kernel
theorem dX4_breadth_28 : decode cX4_breadth 28 = .ok (.getfield 14, 3) := by decide +kernel
theorem dX4_breadth_31 : decode cX4_breadth 31 = .ok (.getfield 113, 3) := by decide +kernel
theorem dX4_breadth_34 : decode cX4_breadth 34 = .ok (.istore_n 2, 1) := by decide +kernel
theorem dX4_breadth_35 : decode cX4_breadth 35 = .ok (.aload_n 0, 1) := by decide +kernel
theorem dX4_breadth_36 : decode cX4_breadth 36 = .ok (.getfield 14, 3) := by decide +kernel
theorem dX4_breadth_39 : decode cX4_breadth 39 = .ok (.iload_n 1, 1) := by decide +kernel
theorem dX4_breadth_40 : decode cX4_breadth 40 = .ok (.putfield 113, 3) := by decide +kernel
theorem dX4_breadth_43 : decode cX4_breadth 43 = .ok (.iload_n 2, 1) := by decide +kernel
theorem dX4_breadth_44 : decode cX4_breadth 44 = .ok (.ireturn, 1) := by decide +kernel
set_option maxRecDepth 20000 in
theorem ggX4_coat_X0_has : GoodIn wsX4_coat wsX0_has := goodIn_r _ [5, 6, 7, 8, 3, 9, 10, 11, 39, 40, 41, 42, 43, 44, 45] (by decide +kernel) (by decide +kernel)
set_option maxRecDepth 20000 in
theorem gX4_coat_X0_has_n88 : GoodIn wsX4_coat (wsX0_has) := ggX4_coat_X0_has
set_option maxRecDepth 20000 in
theorem ggX4_coat_X4_isWeeks : GoodIn wsX4_coat wsX4_isWeeks := goodIn_r _ [15] (by decide +kernel) (by decide +kernel)
set_option maxRecDepth 20000 in
theorem gX4_coat_X4_isWeeks : GoodIn wsX4_coat (va_wsS RX4 116 yX4_isWeeks wsX4_isWeeks) := goodIn_app (goodIn_of _ (by decide +kernel)) ggX4_coat_X4_isWeeks
set_option maxRecDepth 20000 in
theorem ggX4_coat_X0_inches : GoodIn wsX4_coat wsX0_inches := goodIn_r _ [18, 19, 20, 21, 22, 23, 24, 25, 26, 27, 28, 29, 3, 30, 31, 32, 39, 40, 41, 42, 43, 44, 45] (by decide +kernel) (by decide +kernel)
set_option maxRecDepth 20000 in
theorem gX4_coat_X0_inches_n119 : GoodIn wsX4_coat (wsX0_inches) := ggX4_coat_X0_inches
theorem dX4_coat_0 : decode cX4_coat 0 = .ok (.aload_n 0, 1) := by decide +kernel
theorem dX4_coat_1 : decode cX4_coat 1 = .ok (.getfield 14, 3) := by decide +kernel
theorem dX4_coat_4 : decode cX4_coat 4 = .ok (.iload_n 1, 1) := by decide +kernel
theorem dX4_coat_5 : decode cX4_coat 5 = .ok (.invokevirtual 88, 3) := by decide +kernel
theorem dX4_coat_8 : decode cX4_coat 8 = .ok (.ifCond .ne 5, 3) := by decide +kernel
theorem dX4_coat_11 : decode cX4_coat 11 = .ok (.iconst (-1), 1) := by decide +kernel
theorem dX4_coat_12 : decode cX4_coat 12 = .ok (.ireturn, 1) := by decide +kernel
theorem dX4_coat_13 : decode cX4_coat 13 = .ok (.iload_n 2, 1) := by decide +kernel
theorem dX4_coat_14 : decode cX4_coat 14 = .ok (.invokestatic 116, 3) := by decide +kernel
theorem dX4_coat_17 : decode cX4_coat 17 = .ok (.ifCond .eq 15, 3) := by decide +kernel
theorem dX4_coat_20 : decode cX4_coat 20 = .ok (.aload_n 0, 1) := by decide +kernel
theorem dX4_coat_21 : decode cX4_coat 21 = .ok (.getfield 14, 3) := by decide +kernel
theorem dX4_coat_24 : decode cX4_coat 24 = .ok (.iload_n 1, 1) := by decide +kernel
theorem dX4_coat_25 : decode cX4_coat 25 = .ok (.iload_n 2, 1) := by decide +kernel
theorem dX4_coat_26 : decode cX4_coat 26 = .ok (.invokevirtual 119, 3) := by decide +kernel
theorem dX4_coat_29 : decode cX4_coat 29 = .ok (.goto 5, 3) := by decide +kernel
theorem dX4_coat_32 : decode cX4_coat 32 = .ok (.bipush (-2), 2) := by decide +kernel
theorem dX4_coat_34 : decode cX4_coat 34 = .ok (.ireturn, 1) := by decide +kernel
set_option maxRecDepth 20000 in
theorem ggX4_ripe_X0_stands : GoodIn wsX4_ripe wsX0_stands := goodIn_r _ [5, 6, 50, 51, 52, 53, 54, 55, 56] (by decide +kernel) (by decide +kernel)
set_option maxRecDepth 20000 in
theorem gX4_ripe_X0_stands_n106 : GoodIn wsX4_ripe (wsX0_stands) := ggX4_ripe_X0_stands
set_option maxRecDepth 20000 in
theorem ggX4_ripe_X4_isWeeks : GoodIn wsX4_ripe wsX4_isWeeks := goodIn_r _ [10] (by decide +kernel) (by decide +kernel)
set_option maxRecDepth 20000 in
theorem gX4_ripe_X4_isWeeks : GoodIn wsX4_ripe (va_wsS RX4 116 yX4_isWeeks wsX4_isWeeks) := goodIn_app (goodIn_of _ (by decide +kernel)) ggX4_ripe_X4_isWeeks
set_option maxRecDepth 20000 in
theorem ggX4_ripe_X0_ripeCells : GoodIn wsX4_ripe wsX0_ripeCells := goodIn_r _ [13, 14, 15, 16, 3, 17, 6, 18, 19, 20, 21, 22, 23, 24, 25, 26, 27, 28, 29, 30, 31, 32, 33, 34, 35, 36, 37, 38, 39, 40, 41, 42, 9, 43, 50, 51, 52, 53, 54, 55, 56] (by decide +kernel) (by decide +kernel)
set_option maxRecDepth 20000 in
theorem gX4_ripe_X0_ripeCells_n123 : GoodIn wsX4_ripe (wsX0_ripeCells) := ggX4_ripe_X0_ripeCells
theorem dX4_ripe_0 : decode cX4_ripe 0 = .ok (.aload_n 0, 1) := by decide +kernel
theorem dX4_ripe_1 : decode cX4_ripe 1 = .ok (.getfield 14, 3) := by decide +kernel
theorem dX4_ripe_4 : decode cX4_ripe 4 = .ok (.invokevirtual 106, 3) := by decide +kernel
theorem dX4_ripe_7 : decode cX4_ripe 7 = .ok (.ifCond .ne 6, 3) := by decide +kernel
theorem dX4_ripe_10 : decode cX4_ripe 10 = .ok (.bipush (-3), 2) := by decide +kernel
theorem dX4_ripe_12 : decode cX4_ripe 12 = .ok (.ireturn, 1) := by decide +kernel
theorem dX4_ripe_13 : decode cX4_ripe 13 = .ok (.iload_n 1, 1) := by decide +kernel
theorem dX4_ripe_14 : decode cX4_ripe 14 = .ok (.invokestatic 116, 3) := by decide +kernel
theorem dX4_ripe_17 : decode cX4_ripe 17 = .ok (.ifCond .eq 14, 3) := by decide +kernel
theorem dX4_ripe_20 : decode cX4_ripe 20 = .ok (.aload_n 0, 1) := by decide +kernel
theorem dX4_ripe_21 : decode cX4_ripe 21 = .ok (.getfield 14, 3) := by decide +kernel
theorem dX4_ripe_24 : decode cX4_ripe 24 = .ok (.iload_n 1, 1) := by decide +kernel
theorem dX4_ripe_25 : decode cX4_ripe 25 = .ok (.invokevirtual 123, 3) := by decide +kernel
theorem dX4_ripe_28 : decode cX4_ripe 28 = .ok (.goto 5, 3) := by decide +kernel
theorem dX4_ripe_31 : decode cX4_ripe 31 = .ok (.bipush (-2), 2) := by decide +kernel
theorem dX4_ripe_33 : decode cX4_ripe 33 = .ok (.ireturn, 1) := by decide +kernel
set_option maxRecDepth 20000 in
theorem ggX4_path_X0_has : GoodIn wsX4_path wsX0_has := goodIn_r _ [7, 8, 9, 10, 5, 11, 12, 13, 97, 98, 99, 100, 101, 102, 103] (by decide +kernel) (by decide +kernel)
set_option maxRecDepth 20000 in
theorem gX4_path_X0_has_n88 : GoodIn wsX4_path (wsX0_has) := ggX4_path_X0_has
set_option maxRecDepth 20000 in
theorem ggX4_path_X4_isSheet : GoodIn wsX4_path wsX4_isSheet := goodIn_r _ [17] (by decide +kernel) (by decide +kernel)
set_option maxRecDepth 20000 in
theorem gX4_path_X4_isSheet : GoodIn wsX4_path (va_wsS RX4 46 yX4_isSheet wsX4_isSheet) := goodIn_app (goodIn_of _ (by decide +kernel)) ggX4_path_X4_isSheet
set_option maxRecDepth 20000 in
theorem ggX4_path_X4_isLane : GoodIn wsX4_path wsX4_isLane := goodIn_r _ [20] (by decide +kernel) (by decide +kernel)
set_option maxRecDepth 20000 in
theorem gX4_path_X4_isLane : GoodIn wsX4_path (va_wsS RX4 50 yX4_isLane wsX4_isLane) := goodIn_app (goodIn_of _ (by decide +kernel)) ggX4_path_X4_isLane
set_option maxRecDepth 20000 in
theorem ggX4_path_X4_isWeeks : GoodIn wsX4_path wsX4_isWeeks := goodIn_r _ [23] (by decide +kernel) (by decide +kernel)
set_option maxRecDepth 20000 in
theorem gX4_path_X4_isWeeks : GoodIn wsX4_path (va_wsS RX4 116 yX4_isWeeks wsX4_isWeeks) := goodIn_app (goodIn_of _ (by decide +kernel)) ggX4_path_X4_isWeeks
set_option maxRecDepth 20000 in
theorem ggX4_path_X0_isRipe : GoodIn wsX4_path wsX0_isRipe := goodIn_r _ [26, 27, 28, 29, 30, 31, 5, 32, 33, 34, 35, 36, 37, 38, 39, 40, 41, 42, 43, 44, 45, 97, 98, 99, 100, 101, 102, 103] (by decide +kernel) (by decide +kernel)
set_option maxRecDepth 20000 in
theorem gX4_path_X0_isRipe_n126 : GoodIn wsX4_path (wsX0_isRipe) := ggX4_path_X0_isRipe
set_option maxRecDepth 20000 in
theorem ggX4_path_X3_faultAs : GoodIn wsX4_path wsX3_faultAs := goodIn_r _ [49, 50, 51, 93, 94, 95, 96] (by decide +kernel) (by decide +kernel)
set_option maxRecDepth 20000 in
theorem gX4_path_X3_faultAs_n53 : GoodIn wsX4_path (wsX3_faultAs) := ggX4_path_X3_faultAs
set_option maxRecDepth 20000 in
theorem ggX4_path_X3_spans : GoodIn wsX4_path wsX3_spans := goodIn_r _ [54, 55, 93, 94, 95, 96] (by decide +kernel) (by decide +kernel)
set_option maxRecDepth 20000 in
theorem gX4_path_X3_spans_n57 : GoodIn wsX4_path (wsX3_spans) := ggX4_path_X3_spans
set_option maxRecDepth 20000 in
theorem ggX4_path_X4_failed : GoodIn wsX4_path wsX4_failed := goodIn_r _ [59, 1, 87, 88, 89, 90, 91, 92] (by decide +kernel) (by decide +kernel)
set_option maxRecDepth 20000 in
theorem gX4_path_X4_failed : GoodIn wsX4_path (wsV RX4 61 RX4 yX4_failed wsX4_failed) := goodIn_app (goodIn_of _ (by decide +kernel)) ggX4_path_X4_failed
set_option maxRecDepth 20000 in
theorem ggX4_path_X4_areStrokes : GoodIn wsX4_path wsX4_areStrokes := goodIn_r _ [62] (by decide +kernel) (by decide +kernel)
set_option maxRecDepth 20000 in
theorem gX4_path_X4_areStrokes : GoodIn wsX4_path (va_wsS RX4 129 yX4_areStrokes wsX4_areStrokes) := goodIn_app (goodIn_of _ (by decide +kernel)) ggX4_path_X4_areStrokes
set_option maxRecDepth 20000 in
theorem ggX4_path_X4_followed : GoodIn wsX4_path wsX4_followed := goodIn_r _ [66, 2, 67, 5, 68, 69, 8, 9, 10, 11, 12, 13, 70, 24, 25, 26, 27, 28, 29, 30, 31, 32, 33, 34, 35, 36, 37, 38, 39, 40, 41, 42, 43, 44, 45, 71, 16, 72, 73, 74, 75, 76, 77, 78, 79, 80, 81, 82, 83, 84, 85, 86, 87, 88, 89, 90, 91, 92, 97, 98, 99, 100, 101, 102, 103] (by decide +kernel) (by decide +kernel)
set_option maxRecDepth 20000 in
theorem gX4_path_X4_followed : GoodIn wsX4_path (wsV RX4 133 RX4 yX4_followed wsX4_followed) := goodIn_app (goodIn_of _ (by decide +kernel)) ggX4_path_X4_followed
theorem dX4_path_0 : decode cX4_path 0 = .ok (.aload_n 0, 1) := by decide +kernel
theorem dX4_path_1 : decode cX4_path 1 = .ok (.iconst 0, 1) := by decide +kernel
theorem dX4_path_2 : decode cX4_path 2 = .ok (.putfield 38, 3) := by decide +kernel
theorem dX4_path_5 : decode cX4_path 5 = .ok (.aload_n 0, 1) := by decide +kernel
theorem dX4_path_6 : decode cX4_path 6 = .ok (.getfield 14, 3) := by decide +kernel
theorem dX4_path_9 : decode cX4_path 9 = .ok (.iload_n 2, 1) := by decide +kernel
theorem dX4_path_10 : decode cX4_path 10 = .ok (.invokevirtual 88, 3) := by decide +kernel
theorem dX4_path_13 : decode cX4_path 13 = .ok (.ifCond .eq 10, 3) := by decide +kernel
theorem dX4_path_16 : decode cX4_path 16 = .ok (.iload_n 3, 1) := by decide +kernel
theorem dX4_path_17 : decode cX4_path 17 = .ok (.invokestatic 46, 3) := by decide +kernel
theorem dX4_path_20 : decode cX4_path 20 = .ok (.ifCond .ne 5, 3) := by decide +kernel
theorem dX4_path_23 : decode cX4_path 23 = .ok (.iconst (-1), 1) := by decide +kernel
theorem dX4_path_24 : decode cX4_path 24 = .ok (.ireturn, 1) := by decide +kernel
theorem dX4_path_25 : decode cX4_path 25 = .ok (.iload 4, 2) := by decide +kernel
theorem dX4_path_27 : decode cX4_path 27 = .ok (.invokestatic 50, 3) := by decide +kernel
theorem dX4_path_30 : decode cX4_path 30 = .ok (.ifCond .eq 19, 3) := by decide +kernel
theorem dX4_path_33 : decode cX4_path 33 = .ok (.iload 6, 2) := by decide +kernel
theorem dX4_path_35 : decode cX4_path 35 = .ok (.ifCond .lt 14, 3) := by decide +kernel
theorem dX4_path_38 : decode cX4_path 38 = .ok (.iload 6, 2) := by decide +kernel
theorem dX4_path_40 : decode cX4_path 40 = .ok (.bipush 20, 2) := by decide +kernel
theorem dX4_path_42 : decode cX4_path 42 = .ok (.if_icmp .gt 7, 3) := by decide +kernel
theorem dX4_path_45 : decode cX4_path 45 = .ok (.iconst 1, 1) := by decide +kernel
theorem dX4_path_46 : decode cX4_path 46 = .ok (.goto 4, 3) := by decide +kernel
theorem dX4_path_49 : decode cX4_path 49 = .ok (.iconst 0, 1) := by decide +kernel
theorem dX4_path_50 : decode cX4_path 50 = .ok (.istore 8, 2) := by decide +kernel
theorem dX4_path_52 : decode cX4_path 52 = .ok (.iload_n 1, 1) := by decide +kernel
theorem dX4_path_53 : decode cX4_path 53 = .ok (.invokestatic 116, 3) := by decide +kernel
theorem dX4_path_56 : decode cX4_path 56 = .ok (.ifCond .eq 19, 3) := by decide +kernel
theorem dX4_path_59 : decode cX4_path 59 = .ok (.iload 8, 2) := by decide +kernel
theorem dX4_path_61 : decode cX4_path 61 = .ok (.ifCond .eq 14, 3) := by decide +kernel
theorem dX4_path_64 : decode cX4_path 64 = .ok (.iload 7, 2) := by decide +kernel
theorem dX4_path_66 : decode cX4_path 66 = .ok (.ifCond .lt 9, 3) := by decide +kernel
theorem dX4_path_69 : decode cX4_path 69 = .ok (.iload 7, 2) := by decide +kernel
theorem dX4_path_71 : decode cX4_path 71 = .ok (.iconst 3, 1) := by decide +kernel
theorem dX4_path_72 : decode cX4_path 72 = .ok (.if_icmp .le 6, 3) := by decide +kernel
theorem dX4_path_75 : decode cX4_path 75 = .ok (.bipush (-2), 2) := by decide +kernel
theorem dX4_path_77 : decode cX4_path 77 = .ok (.ireturn, 1) := by decide +kernel
theorem dX4_path_78 : decode cX4_path 78 = .ok (.aload_n 0, 1) := by decide +kernel
theorem dX4_path_79 : decode cX4_path 79 = .ok (.getfield 14, 3) := by decide +kernel
theorem dX4_path_82 : decode cX4_path 82 = .ok (.iload_n 2, 1) := by decide +kernel
theorem dX4_path_83 : decode cX4_path 83 = .ok (.iload_n 1, 1) := by decide +kernel
theorem dX4_path_84 : decode cX4_path 84 = .ok (.invokevirtual 126, 3) := by decide +kernel
theorem dX4_path_87 : decode cX4_path 87 = .ok (.ifCond .ne 6, 3) := by decide +kernel
theorem dX4_path_90 : decode cX4_path 90 = .ok (.bipush (-3), 2) := by decide +kernel
theorem dX4_path_92 : decode cX4_path 92 = .ok (.ireturn, 1) := by decide +kernel
theorem dX4_path_93 : decode cX4_path 93 = .ok (.aload_n 0, 1) := by decide +kernel
theorem dX4_path_94 : decode cX4_path 94 = .ok (.getfield 34, 3) := by decide +kernel
theorem dX4_path_97 : decode cX4_path 97 = .ok (.iload_n 3, 1) := by decide +kernel
theorem dX4_path_98 : decode cX4_path 98 = .ok (.aaload, 1) := by decide +kernel
theorem dX4_path_99 : decode cX4_path 99 = .ok (.astore 9, 2) := by decide +kernel
theorem dX4_path_101 : decode cX4_path 101 = .ok (.aload 9, 2) := by decide +kernel
theorem dX4_path_103 : decode cX4_path 103 = .ok (.iload 4, 2) := by decide +kernel
theorem dX4_path_105 : decode cX4_path 105 = .ok (.invokevirtual 53, 3) := by decide +kernel
theorem dX4_path_108 : decode cX4_path 108 = .ok (.istore 10, 2) := by decide +kernel
theorem dX4_path_110 : decode cX4_path 110 = .ok (.iload 10, 2) := by decide +kernel
theorem dX4_path_112 : decode cX4_path 112 = .ok (.ifCond .ne 18, 3) := by decide +kernel
theorem dX4_path_115 : decode cX4_path 115 = .ok (.aload 9, 2) := by decide +kernel
theorem dX4_path_117 : decode cX4_path 117 = .ok (.iload 5, 2) := by decide +kernel
theorem dX4_path_119 : decode cX4_path 119 = .ok (.iload 6, 2) := by decide +kernel
theorem dX4_path_121 : decode cX4_path 121 = .ok (.invokevirtual 57, 3) := by decide +kernel
theorem dX4_path_124 : decode cX4_path 124 = .ok (.ifCond .ne 6, 3) := by decide +kernel
theorem dX4_path_127 : decode cX4_path 127 = .ok (.iconst 3, 1) := by decide +kernel
theorem dX4_path_128 : decode cX4_path 128 = .ok (.istore 10, 2) := by decide +kernel
theorem dX4_path_130 : decode cX4_path 130 = .ok (.iload 10, 2) := by decide +kernel
theorem dX4_path_132 : decode cX4_path 132 = .ok (.ifCond .eq 10, 3) := by decide +kernel
theorem dX4_path_135 : decode cX4_path 135 = .ok (.aload_n 0, 1) := by decide +kernel
theorem dX4_path_136 : decode cX4_path 136 = .ok (.iload 10, 2) := by decide +kernel
theorem dX4_path_138 : decode cX4_path 138 = .ok (.invokevirtual 61, 3) := by decide +kernel
theorem dX4_path_141 : decode cX4_path 141 = .ok (.ireturn, 1) := by decide +kernel
theorem dX4_path_142 : decode cX4_path 142 = .ok (.aload 9, 2) := by decide +kernel
theorem dX4_path_144 : decode cX4_path 144 = .ok (.getfield 64, 3) := by decide +kernel
theorem dX4_path_147 : decode cX4_path 147 = .ok (.iload 5, 2) := by decide +kernel
theorem dX4_path_149 : decode cX4_path 149 = .ok (.iload 6, 2) := by decide +kernel
theorem dX4_path_151 : decode cX4_path 151 = .ok (.invokestatic 129, 3) := by decide +kernel
theorem dX4_path_154 : decode cX4_path 154 = .ok (.ifCond .eq 23, 3) := by decide +kernel
theorem dX4_path_157 : decode cX4_path 157 = .ok (.aload_n 0, 1) := by decide +kernel
theorem dX4_path_158 : decode cX4_path 158 = .ok (.iload_n 1, 1) := by decide +kernel
theorem dX4_path_159 : decode cX4_path 159 = .ok (.iload_n 2, 1) := by decide +kernel
theorem dX4_path_160 : decode cX4_path 160 = .ok (.aload 9, 2) := by decide +kernel
theorem dX4_path_162 : decode cX4_path 162 = .ok (.getfield 64, 3) := by decide +kernel
theorem dX4_path_165 : decode cX4_path 165 = .ok (.iload 5, 2) := by decide +kernel
theorem dX4_path_167 : decode cX4_path 167 = .ok (.iload 6, 2) := by decide +kernel
theorem dX4_path_169 : decode cX4_path 169 = .ok (.iload 7, 2) := by decide +kernel
theorem dX4_path_171 : decode cX4_path 171 = .ok (.invokevirtual 133, 3) := by decide +kernel
theorem dX4_path_174 : decode cX4_path 174 = .ok (.goto 5, 3) := by decide +kernel
theorem dX4_path_177 : decode cX4_path 177 = .ok (.bipush (-2), 2) := by decide +kernel
theorem dX4_path_179 : decode cX4_path 179 = .ok (.ireturn, 1) := by decide +kernel
set_option maxRecDepth 20000 in
theorem ggX4_fleece_X0_has : GoodIn wsX4_fleece wsX0_has := goodIn_r _ [6, 7, 8, 9, 4, 10, 11, 12, 91, 92, 93, 94, 95, 96, 97] (by decide +kernel) (by decide +kernel)
set_option maxRecDepth 20000 in
theorem gX4_fleece_X0_has_n88 : GoodIn wsX4_fleece (wsX0_has) := ggX4_fleece_X0_has
set_option maxRecDepth 20000 in
theorem ggX4_fleece_X4_isWeeks : GoodIn wsX4_fleece wsX4_isWeeks := goodIn_r _ [16] (by decide +kernel) (by decide +kernel)
set_option maxRecDepth 20000 in
theorem gX4_fleece_X4_isWeeks : GoodIn wsX4_fleece (va_wsS RX4 116 yX4_isWeeks wsX4_isWeeks) := goodIn_app (goodIn_of _ (by decide +kernel)) ggX4_fleece_X4_isWeeks
set_option maxRecDepth 20000 in
theorem ggX4_fleece_X0_isRipe : GoodIn wsX4_fleece wsX0_isRipe := goodIn_r _ [19, 20, 21, 22, 23, 24, 4, 25, 26, 27, 28, 29, 30, 31, 32, 33, 34, 35, 36, 37, 38, 91, 92, 93, 94, 95, 96, 97] (by decide +kernel) (by decide +kernel)
set_option maxRecDepth 20000 in
theorem gX4_fleece_X0_isRipe_n126 : GoodIn wsX4_fleece (wsX0_isRipe) := ggX4_fleece_X0_isRipe
set_option maxRecDepth 20000 in
theorem ggX4_fleece_X0_ripeCells : GoodIn wsX4_fleece wsX0_ripeCells := goodIn_r _ [41, 7, 8, 9, 4, 10, 11, 12, 42, 17, 18, 19, 20, 21, 22, 23, 24, 25, 26, 27, 28, 29, 30, 31, 32, 33, 34, 35, 36, 37, 38, 43, 15, 44, 91, 92, 93, 94, 95, 96, 97] (by decide +kernel) (by decide +kernel)
set_option maxRecDepth 20000 in
theorem gX4_fleece_X0_ripeCells_n123 : GoodIn wsX4_fleece (wsX0_ripeCells) := ggX4_fleece_X0_ripeCells
set_option maxRecDepth 20000 in
theorem ggX4_fleece_X4_mostShorn : GoodIn wsX4_fleece wsX4_mostShorn := goodIn_r _ [48, 2, 1, 49, 50, 51, 52, 53, 54, 55, 56, 57, 15, 58, 59, 43, 44, 60, 61, 62, 63, 64, 65, 66, 67, 68, 69, 70, 71, 72, 73, 74, 4, 75, 76, 77, 78, 79, 80, 81, 82, 83, 84, 85, 86, 87, 88, 89, 90, 91, 92, 93, 94, 95, 96, 97] (by decide +kernel) (by decide +kernel)
set_option maxRecDepth 20000 in
theorem gX4_fleece_X4_mostShorn : GoodIn wsX4_fleece (wsV RX4 137 RX4 yX4_mostShorn wsX4_mostShorn) := goodIn_app (goodIn_of _ (by decide +kernel)) ggX4_fleece_X4_mostShorn
theorem dX4_fleece_0 : decode cX4_fleece 0 = .ok (.aload_n 0, 1) := by decide +kernel
theorem dX4_fleece_1 : decode cX4_fleece 1 = .ok (.getfield 14, 3) := by decide +kernel
theorem dX4_fleece_4 : decode cX4_fleece 4 = .ok (.iload_n 2, 1) := by decide +kernel
theorem dX4_fleece_5 : decode cX4_fleece 5 = .ok (.invokevirtual 88, 3) := by decide +kernel
theorem dX4_fleece_8 : decode cX4_fleece 8 = .ok (.ifCond .ne 5, 3) := by decide +kernel
theorem dX4_fleece_11 : decode cX4_fleece 11 = .ok (.iconst (-1), 1) := by decide +kernel
theorem dX4_fleece_12 : decode cX4_fleece 12 = .ok (.ireturn, 1) := by decide +kernel
theorem dX4_fleece_13 : decode cX4_fleece 13 = .ok (.iload_n 1, 1) := by decide +kernel
theorem dX4_fleece_14 : decode cX4_fleece 14 = .ok (.invokestatic 116, 3) := by decide +kernel
theorem dX4_fleece_17 : decode cX4_fleece 17 = .ok (.ifCond .eq 14, 3) := by decide +kernel
theorem dX4_fleece_20 : decode cX4_fleece 20 = .ok (.iload_n 3, 1) := by decide +kernel
theorem dX4_fleece_21 : decode cX4_fleece 21 = .ok (.iconst (-1), 1) := by decide +kernel
theorem dX4_fleece_22 : decode cX4_fleece 22 = .ok (.if_icmp .lt 9, 3) := by decide +kernel
theorem dX4_fleece_25 : decode cX4_fleece 25 = .ok (.iload_n 3, 1) := by decide +kernel
theorem dX4_fleece_26 : decode cX4_fleece 26 = .ok (.bipush 15, 2) := by decide +kernel
theorem dX4_fleece_28 : decode cX4_fleece 28 = .ok (.if_icmp .lt 6, 3) := by decide +kernel
theorem dX4_fleece_31 : decode cX4_fleece 31 = .ok (.bipush (-2), 2) := by decide +kernel
theorem dX4_fleece_33 : decode cX4_fleece 33 = .ok (.ireturn, 1) := by decide +kernel
theorem dX4_fleece_34 : decode cX4_fleece 34 = .ok (.aload_n 0, 1) := by decide +kernel
theorem dX4_fleece_35 : decode cX4_fleece 35 = .ok (.getfield 14, 3) := by decide +kernel
theorem dX4_fleece_38 : decode cX4_fleece 38 = .ok (.iload_n 2, 1) := by decide +kernel
theorem dX4_fleece_39 : decode cX4_fleece 39 = .ok (.iload_n 1, 1) := by decide +kernel
theorem dX4_fleece_40 : decode cX4_fleece 40 = .ok (.invokevirtual 126, 3) := by decide +kernel
theorem dX4_fleece_43 : decode cX4_fleece 43 = .ok (.ifCond .ne 6, 3) := by decide +kernel
theorem dX4_fleece_46 : decode cX4_fleece 46 = .ok (.bipush (-3), 2) := by decide +kernel
theorem dX4_fleece_48 : decode cX4_fleece 48 = .ok (.ireturn, 1) := by decide +kernel
theorem dX4_fleece_49 : decode cX4_fleece 49 = .ok (.aload_n 0, 1) := by decide +kernel
theorem dX4_fleece_50 : decode cX4_fleece 50 = .ok (.iload_n 2, 1) := by decide +kernel
theorem dX4_fleece_51 : decode cX4_fleece 51 = .ok (.aload_n 0, 1) := by decide +kernel
theorem dX4_fleece_52 : decode cX4_fleece 52 = .ok (.getfield 14, 3) := by decide +kernel
theorem dX4_fleece_55 : decode cX4_fleece 55 = .ok (.iload_n 1, 1) := by decide +kernel
theorem dX4_fleece_56 : decode cX4_fleece 56 = .ok (.invokevirtual 123, 3) := by decide +kernel
theorem dX4_fleece_59 : decode cX4_fleece 59 = .ok (.invokevirtual 137, 3) := by decide +kernel
theorem dX4_fleece_62 : decode cX4_fleece 62 = .ok (.istore 4, 2) := by decide +kernel
theorem dX4_fleece_64 : decode cX4_fleece 64 = .ok (.iload_n 3, 1) := by decide +kernel
theorem dX4_fleece_65 : decode cX4_fleece 65 = .ok (.iconst (-1), 1) := by decide +kernel
theorem dX4_fleece_66 : decode cX4_fleece 66 = .ok (.if_icmp .ne 6, 3) := by decide +kernel
theorem dX4_fleece_69 : decode cX4_fleece 69 = .ok (.iload 4, 2) := by decide +kernel
theorem dX4_fleece_71 : decode cX4_fleece 71 = .ok (.ireturn, 1) := by decide +kernel
theorem dX4_fleece_72 : decode cX4_fleece 72 = .ok (.iload_n 3, 1) := by decide +kernel
theorem dX4_fleece_73 : decode cX4_fleece 73 = .ok (.iload 4, 2) := by decide +kernel
theorem dX4_fleece_75 : decode cX4_fleece 75 = .ok (.iconst 1, 1) := by decide +kernel
theorem dX4_fleece_76 : decode cX4_fleece 76 = .ok (.isub, 1) := by decide +kernel
theorem dX4_fleece_77 : decode cX4_fleece 77 = .ok (.if_icmp .ge 15, 3) := by decide +kernel
theorem dX4_fleece_80 : decode cX4_fleece 80 = .ok (.aload_n 0, 1) := by decide +kernel
theorem dX4_fleece_81 : decode cX4_fleece 81 = .ok (.getfield 28, 3) := by decide +kernel
theorem dX4_fleece_84 : decode cX4_fleece 84 = .ok (.getfield 140, 3) := by decide +kernel
theorem dX4_fleece_87 : decode cX4_fleece 87 = .ok (.iload_n 3, 1) := by decide +kernel
theorem dX4_fleece_88 : decode cX4_fleece 88 = .ok (.iaload, 1) := by decide +kernel
theorem dX4_fleece_89 : decode cX4_fleece 89 = .ok (.goto 5, 3) := by decide +kernel
theorem dX4_fleece_92 : decode cX4_fleece 92 = .ok (.bipush (-9), 2) := by decide +kernel
theorem dX4_fleece_94 : decode cX4_fleece 94 = .ok (.ireturn, 1) := by decide +kernel
set_option maxRecDepth 20000 in
theorem ggX4_start_X0_stands : GoodIn wsX4_start wsX0_stands := goodIn_r _ [5, 6, 87, 88, 89, 90, 91, 92, 93] (by decide +kernel) (by decide +kernel)
set_option maxRecDepth 20000 in
theorem gX4_start_X0_stands_n106 : GoodIn wsX4_start (wsX0_stands) := ggX4_start_X0_stands
set_option maxRecDepth 20000 in
theorem ggX4_start_X4_isWeeks : GoodIn wsX4_start wsX4_isWeeks := goodIn_r _ [10] (by decide +kernel) (by decide +kernel)
set_option maxRecDepth 20000 in
theorem gX4_start_X4_isWeeks : GoodIn wsX4_start (va_wsS RX4 116 yX4_isWeeks wsX4_isWeeks) := goodIn_app (goodIn_of _ (by decide +kernel)) ggX4_start_X4_isWeeks
set_option maxRecDepth 20000 in
theorem ggX4_start_X0_ripeCells : GoodIn wsX4_start wsX0_ripeCells := goodIn_r _ [13, 14, 15, 16, 3, 17, 6, 18, 19, 20, 21, 22, 23, 24, 25, 26, 27, 28, 29, 30, 31, 32, 33, 34, 35, 36, 37, 38, 39, 40, 41, 42, 9, 43, 87, 88, 89, 90, 91, 92, 93] (by decide +kernel) (by decide +kernel)
set_option maxRecDepth 20000 in
theorem gX4_start_X0_ripeCells_n123 : GoodIn wsX4_start (wsX0_ripeCells) := ggX4_start_X0_ripeCells
set_option maxRecDepth 20000 in
theorem ggX4_start_X0_cells : GoodIn wsX4_start wsX0_cells := goodIn_r _ [17, 6, 18, 87, 88, 89, 90, 91, 92, 93] (by decide +kernel) (by decide +kernel)
set_option maxRecDepth 20000 in
theorem gX4_start_X0_cells_n143 : GoodIn wsX4_start (wsX0_cells) := ggX4_start_X0_cells
set_option maxRecDepth 20000 in
theorem ggX4_start_X4_isIn : GoodIn wsX4_start wsX4_isIn := goodIn_r _ [46, 47, 42, 9, 43] (by decide +kernel) (by decide +kernel)
set_option maxRecDepth 20000 in
theorem gX4_start_X4_isIn : GoodIn wsX4_start (va_wsS RX4 146 yX4_isIn wsX4_isIn) := goodIn_app (goodIn_of _ (by decide +kernel)) ggX4_start_X4_isIn
set_option maxRecDepth 20000 in
theorem ggX4_start_X4_mostShorn : GoodIn wsX4_start wsX4_mostShorn := goodIn_r _ [51, 52, 1, 53, 54, 55, 56, 57, 58, 59, 60, 61, 9, 62, 47, 42, 43, 63, 64, 65, 66, 67, 68, 69, 70, 71, 72, 73, 74, 75, 76, 77, 3, 78, 79, 80, 44, 45, 46, 81, 82, 83, 84, 85, 86, 94, 95, 96, 97, 87, 88, 89, 90, 91, 92, 93] (by decide +kernel) (by decide +kernel)
set_option maxRecDepth 20000 in
theorem gX4_start_X4_mostShorn : GoodIn wsX4_start (wsV RX4 137 RX4 yX4_mostShorn wsX4_mostShorn) := goodIn_app (goodIn_of _ (by decide +kernel)) ggX4_start_X4_mostShorn
theorem dX4_start_0 : decode cX4_start 0 = .ok (.aload_n 0, 1) := by decide +kernel
theorem dX4_start_1 : decode cX4_start 1 = .ok (.getfield 14, 3) := by decide +kernel
theorem dX4_start_4 : decode cX4_start 4 = .ok (.invokevirtual 106, 3) := by decide +kernel
theorem dX4_start_7 : decode cX4_start 7 = .ok (.ifCond .ne 6, 3) := by decide +kernel
theorem dX4_start_10 : decode cX4_start 10 = .ok (.bipush (-3), 2) := by decide +kernel
theorem dX4_start_12 : decode cX4_start 12 = .ok (.ireturn, 1) := by decide +kernel
theorem dX4_start_13 : decode cX4_start 13 = .ok (.iload_n 1, 1) := by decide +kernel
theorem dX4_start_14 : decode cX4_start 14 = .ok (.invokestatic 116, 3) := by decide +kernel
theorem dX4_start_17 : decode cX4_start 17 = .ok (.ifCond .ne 6, 3) := by decide +kernel
theorem dX4_start_20 : decode cX4_start 20 = .ok (.bipush (-2), 2) := by decide +kernel
theorem dX4_start_22 : decode cX4_start 22 = .ok (.ireturn, 1) := by decide +kernel
theorem dX4_start_23 : decode cX4_start 23 = .ok (.aload_n 0, 1) := by decide +kernel
theorem dX4_start_24 : decode cX4_start 24 = .ok (.getfield 14, 3) := by decide +kernel
theorem dX4_start_27 : decode cX4_start 27 = .ok (.iload_n 1, 1) := by decide +kernel
theorem dX4_start_28 : decode cX4_start 28 = .ok (.invokevirtual 123, 3) := by decide +kernel
theorem dX4_start_31 : decode cX4_start 31 = .ok (.istore_n 2, 1) := by decide +kernel
theorem dX4_start_32 : decode cX4_start 32 = .ok (.iconst 0, 1) := by decide +kernel
theorem dX4_start_33 : decode cX4_start 33 = .ok (.istore_n 3, 1) := by decide +kernel
theorem dX4_start_34 : decode cX4_start 34 = .ok (.bipush (-9), 2) := by decide +kernel
theorem dX4_start_36 : decode cX4_start 36 = .ok (.istore 4, 2) := by decide +kernel
theorem dX4_start_38 : decode cX4_start 38 = .ok (.iconst 0, 1) := by decide +kernel
theorem dX4_start_39 : decode cX4_start 39 = .ok (.istore 5, 2) := by decide +kernel
theorem dX4_start_41 : decode cX4_start 41 = .ok (.iload 5, 2) := by decide +kernel
theorem dX4_start_43 : decode cX4_start 43 = .ok (.aload_n 0, 1) := by decide +kernel
theorem dX4_start_44 : decode cX4_start 44 = .ok (.getfield 14, 3) := by decide +kernel
theorem dX4_start_47 : decode cX4_start 47 = .ok (.invokevirtual 143, 3) := by decide +kernel
theorem dX4_start_50 : decode cX4_start 50 = .ok (.if_icmp .ge 44, 3) := by decide +kernel
theorem dX4_start_53 : decode cX4_start 53 = .ok (.iload_n 2, 1) := by decide +kernel
theorem dX4_start_54 : decode cX4_start 54 = .ok (.iload 5, 2) := by decide +kernel
theorem dX4_start_56 : decode cX4_start 56 = .ok (.invokestatic 146, 3) := by decide +kernel
theorem dX4_start_59 : decode cX4_start 59 = .ok (.ifCond .eq 13, 3) := by decide +kernel
theorem dX4_start_62 : decode cX4_start 62 = .ok (.aload_n 0, 1) := by decide +kernel
theorem dX4_start_63 : decode cX4_start 63 = .ok (.iload 5, 2) := by decide +kernel
theorem dX4_start_65 : decode cX4_start 65 = .ok (.iload_n 2, 1) := by decide +kernel
theorem dX4_start_66 : decode cX4_start 66 = .ok (.invokevirtual 137, 3) := by decide +kernel
theorem dX4_start_69 : decode cX4_start 69 = .ok (.goto 4, 3) := by decide +kernel
theorem dX4_start_72 : decode cX4_start 72 = .ok (.iconst 0, 1) := by decide +kernel
theorem dX4_start_73 : decode cX4_start 73 = .ok (.istore 6, 2) := by decide +kernel
theorem dX4_start_75 : decode cX4_start 75 = .ok (.iload 6, 2) := by decide +kernel
theorem dX4_start_77 : decode cX4_start 77 = .ok (.iload_n 3, 1) := by decide +kernel
theorem dX4_start_78 : decode cX4_start 78 = .ok (.if_icmp .le 10, 3) := by decide +kernel
theorem dX4_start_81 : decode cX4_start 81 = .ok (.iload 6, 2) := by decide +kernel
theorem dX4_start_83 : decode cX4_start 83 = .ok (.istore_n 3, 1) := by decide +kernel
theorem dX4_start_84 : decode cX4_start 84 = .ok (.iload 5, 2) := by decide +kernel
theorem dX4_start_86 : decode cX4_start 86 = .ok (.istore 4, 2) := by decide +kernel
theorem dX4_start_88 : decode cX4_start 88 = .ok (.iinc 5 1, 3) := by decide +kernel
theorem dX4_start_91 : decode cX4_start 91 = .ok (.goto (-50), 3) := by decide +kernel
theorem dX4_start_94 : decode cX4_start 94 = .ok (.iload 4, 2) := by decide +kernel
theorem dX4_start_96 : decode cX4_start 96 = .ok (.ireturn, 1) := by decide +kernel
set_option maxRecDepth 20000 in
theorem ggX4_whole_X0_isSoft : GoodIn wsX4_whole wsX0_isSoft := goodIn_r _ [5, 6, 7, 8, 9, 3, 10, 11, 12, 13, 14, 15, 16, 100, 101, 102, 103, 104, 105, 106] (by decide +kernel) (by decide +kernel)
set_option maxRecDepth 20000 in
theorem gX4_whole_X0_isSoft_n100 : GoodIn wsX4_whole (wsX0_isSoft) := ggX4_whole_X0_isSoft
set_option maxRecDepth 20000 in
theorem ggX4_whole_X0_isAllRipe : GoodIn wsX4_whole wsX0_isAllRipe := goodIn_r _ [19, 20, 21, 22, 3, 23, 11, 12, 13, 14, 15, 16, 24, 25, 26, 27, 6, 28, 29, 30, 31, 32, 33, 34, 35, 36, 37, 38, 39, 40, 41, 42, 43, 44, 45, 46, 47, 48, 49, 50, 51, 52, 100, 101, 102, 103, 104, 105, 106] (by decide +kernel) (by decide +kernel)
set_option maxRecDepth 20000 in
theorem gX4_whole_X0_isAllRipe_n149 : GoodIn wsX4_whole (wsX0_isAllRipe) := ggX4_whole_X0_isAllRipe
set_option maxRecDepth 20000 in
theorem ggX4_whole_X4_shearsAllSoft : GoodIn wsX4_whole wsX4_shearsAllSoft := goodIn_r _ [56, 1, 50, 3, 51, 52, 6, 11, 12, 13, 14, 15, 16, 46, 47, 48, 57, 58, 59, 60, 61, 62, 63, 64, 65, 66, 67, 68, 69, 70, 71, 72, 73, 74, 75, 76, 77, 78, 79, 80, 81, 82, 83, 84, 85, 86, 87, 88, 89, 90, 91, 92, 93, 94, 95, 96, 97, 98, 99, 100, 101, 102, 103, 104, 105, 106, 107, 108, 109, 110] (by decide +kernel) (by decide +kernel)
set_option maxRecDepth 20000 in
theorem gX4_whole_X4_shearsAllSoft : GoodIn wsX4_whole (wsV RX4 152 RX4 yX4_shearsAllSoft wsX4_shearsAllSoft) := goodIn_app (goodIn_of _ (by decide +kernel)) ggX4_whole_X4_shearsAllSoft
theorem dX4_whole_0 : decode cX4_whole 0 = .ok (.aload_n 0, 1) := by decide +kernel
theorem dX4_whole_1 : decode cX4_whole 1 = .ok (.getfield 14, 3) := by decide +kernel
theorem dX4_whole_4 : decode cX4_whole 4 = .ok (.iload_n 1, 1) := by decide +kernel
theorem dX4_whole_5 : decode cX4_whole 5 = .ok (.invokevirtual 100, 3) := by decide +kernel
theorem dX4_whole_8 : decode cX4_whole 8 = .ok (.ifCond .ne 5, 3) := by decide +kernel
theorem dX4_whole_11 : decode cX4_whole 11 = .ok (.iconst (-1), 1) := by decide +kernel
theorem dX4_whole_12 : decode cX4_whole 12 = .ok (.ireturn, 1) := by decide +kernel
theorem dX4_whole_13 : decode cX4_whole 13 = .ok (.iconst 0, 1) := by decide +kernel
theorem dX4_whole_14 : decode cX4_whole 14 = .ok (.istore_n 2, 1) := by decide +kernel
theorem dX4_whole_15 : decode cX4_whole 15 = .ok (.iload_n 2, 1) := by decide +kernel
theorem dX4_whole_16 : decode cX4_whole 16 = .ok (.bipush 9, 2) := by decide +kernel
theorem dX4_whole_18 : decode cX4_whole 18 = .ok (.if_icmp .gt 30, 3) := by decide +kernel
theorem dX4_whole_21 : decode cX4_whole 21 = .ok (.aload_n 0, 1) := by decide +kernel
theorem dX4_whole_22 : decode cX4_whole 22 = .ok (.getfield 14, 3) := by decide +kernel
theorem dX4_whole_25 : decode cX4_whole 25 = .ok (.iload_n 2, 1) := by decide +kernel
theorem dX4_whole_26 : decode cX4_whole 26 = .ok (.invokevirtual 149, 3) := by decide +kernel
theorem dX4_whole_29 : decode cX4_whole 29 = .ok (.ifCond .eq 13, 3) := by decide +kernel
theorem dX4_whole_32 : decode cX4_whole 32 = .ok (.aload_n 0, 1) := by decide +kernel
theorem dX4_whole_33 : decode cX4_whole 33 = .ok (.iload_n 1, 1) := by decide +kernel
theorem dX4_whole_34 : decode cX4_whole 34 = .ok (.invokevirtual 152, 3) := by decide +kernel
theorem dX4_whole_37 : decode cX4_whole 37 = .ok (.ifCond .eq 5, 3) := by decide +kernel
theorem dX4_whole_40 : decode cX4_whole 40 = .ok (.iload_n 2, 1) := by decide +kernel
theorem dX4_whole_41 : decode cX4_whole 41 = .ok (.ireturn, 1) := by decide +kernel
theorem dX4_whole_42 : decode cX4_whole 42 = .ok (.iinc 2 1, 3) := by decide +kernel
theorem dX4_whole_45 : decode cX4_whole 45 = .ok (.goto (-30), 3) := by decide +kernel
theorem dX4_whole_48 : decode cX4_whole 48 = .ok (.bipush (-9), 2) := by decide +kernel
theorem dX4_whole_50 : decode cX4_whole 50 = .ok (.ireturn, 1) := by decide +kernel
set_option maxRecDepth 20000 in
theorem ggX4_stops_X0_stands : GoodIn wsX4_stops wsX0_stands := goodIn_r _ [5, 6, 114, 115, 116, 117, 118, 119, 120] (by decide +kernel) (by decide +kernel)
set_option maxRecDepth 20000 in
theorem gX4_stops_X0_stands_n106 : GoodIn wsX4_stops (wsX0_stands) := ggX4_stops_X0_stands
set_option maxRecDepth 20000 in
theorem ggX4_stops_X4_isWeeks : GoodIn wsX4_stops wsX4_isWeeks := goodIn_r _ [10] (by decide +kernel) (by decide +kernel)
set_option maxRecDepth 20000 in
theorem gX4_stops_X4_isWeeks : GoodIn wsX4_stops (va_wsS RX4 116 yX4_isWeeks wsX4_isWeeks) := goodIn_app (goodIn_of _ (by decide +kernel)) ggX4_stops_X4_isWeeks
set_option maxRecDepth 20000 in
theorem ggX4_stops_X4_canBeShornWhole : GoodIn wsX4_stops wsX4_canBeShornWhole := goodIn_r _ [14, 1, 15, 3, 16, 17, 18, 19, 20, 21, 22, 23, 24, 25, 6, 26, 27, 28, 29, 30, 31, 32, 33, 34, 35, 36, 37, 38, 39, 40, 41, 42, 43, 44, 45, 46, 47, 48, 49, 50, 9, 51, 52, 53, 54, 55, 56, 57, 58, 59, 60, 61, 62, 63, 64, 65, 66, 67, 68, 69, 70, 71, 72, 73, 74, 75, 76, 77, 78, 79, 80, 81, 82, 83, 84, 85, 86, 87, 88, 89, 90, 91, 92, 93, 94, 95, 96, 97, 98, 99, 100, 101, 102, 103, 108, 109, 110, 111, 112, 113, 114, 115, 116, 117, 118, 119, 120, 121, 122, 123, 124] (by decide +kernel) (by decide +kernel)
set_option maxRecDepth 20000 in
theorem gX4_stops_X4_canBeShornWhole : GoodIn wsX4_stops (wsV RX4 155 RX4 yX4_canBeShornWhole wsX4_canBeShornWhole) := goodIn_app (goodIn_of _ (by decide +kernel)) ggX4_stops_X4_canBeShornWhole
set_option maxRecDepth 20000 in
theorem ggX4_stops_X0_cells : GoodIn wsX4_stops wsX0_cells := goodIn_r _ [25, 6, 26, 114, 115, 116, 117, 118, 119, 120] (by decide +kernel) (by decide +kernel)
set_option maxRecDepth 20000 in
theorem gX4_stops_X0_cells_n143 : GoodIn wsX4_stops (wsX0_cells) := ggX4_stops_X0_cells
set_option maxRecDepth 20000 in
theorem ggX4_stops_X4_couldBeShornWhole : GoodIn wsX4_stops wsX4_couldBeShornWhole := goodIn_r _ [107, 1, 11, 12, 13, 9, 14, 15, 3, 16, 17, 18, 19, 20, 21, 22, 23, 24, 25, 6, 26, 27, 28, 29, 30, 31, 32, 33, 34, 35, 36, 37, 38, 39, 40, 41, 42, 43, 44, 45, 46, 47, 48, 49, 50, 51, 52, 53, 54, 55, 56, 57, 58, 59, 60, 61, 62, 63, 64, 65, 66, 67, 68, 69, 70, 71, 72, 73, 74, 75, 76, 77, 78, 79, 80, 81, 82, 83, 84, 85, 86, 87, 88, 89, 90, 91, 92, 93, 94, 95, 96, 97, 98, 99, 100, 101, 102, 103, 108, 109, 110, 111, 112, 113, 114, 115, 116, 117, 118, 119, 120, 121, 122, 123, 124] (by decide +kernel) (by decide +kernel)
set_option maxRecDepth 20000 in
theorem gX4_stops_X4_couldBeShornWhole : GoodIn wsX4_stops (wsV RX4 158 RX4 yX4_couldBeShornWhole wsX4_couldBeShornWhole) := goodIn_app (goodIn_of _ (by decide +kernel)) ggX4_stops_X4_couldBeShornWhole
theorem dX4_stops_0 : decode cX4_stops 0 = .ok (.aload_n 0, 1) := by decide +kernel
theorem dX4_stops_1 : decode cX4_stops 1 = .ok (.getfield 14, 3) := by decide +kernel
theorem dX4_stops_4 : decode cX4_stops 4 = .ok (.invokevirtual 106, 3) := by decide +kernel
theorem dX4_stops_7 : decode cX4_stops 7 = .ok (.ifCond .ne 6, 3) := by decide +kernel
theorem dX4_stops_10 : decode cX4_stops 10 = .ok (.bipush (-3), 2) := by decide +kernel
theorem dX4_stops_12 : decode cX4_stops 12 = .ok (.ireturn, 1) := by decide +kernel
theorem dX4_stops_13 : decode cX4_stops 13 = .ok (.iload_n 1, 1) := by decide +kernel
theorem dX4_stops_14 : decode cX4_stops 14 = .ok (.invokestatic 116, 3) := by decide +kernel
theorem dX4_stops_17 : decode cX4_stops 17 = .ok (.ifCond .ne 6, 3) := by decide +kernel
theorem dX4_stops_20 : decode cX4_stops 20 = .ok (.bipush (-2), 2) := by decide +kernel
theorem dX4_stops_22 : decode cX4_stops 22 = .ok (.ireturn, 1) := by decide +kernel
theorem dX4_stops_23 : decode cX4_stops 23 = .ok (.aload_n 0, 1) := by decide +kernel
theorem dX4_stops_24 : decode cX4_stops 24 = .ok (.iload_n 1, 1) := by decide +kernel
theorem dX4_stops_25 : decode cX4_stops 25 = .ok (.invokevirtual 155, 3) := by decide +kernel
theorem dX4_stops_28 : decode cX4_stops 28 = .ok (.ifCond .eq 6, 3) := by decide +kernel
theorem dX4_stops_31 : decode cX4_stops 31 = .ok (.bipush (-9), 2) := by decide +kernel
theorem dX4_stops_33 : decode cX4_stops 33 = .ok (.ireturn, 1) := by decide +kernel
theorem dX4_stops_34 : decode cX4_stops 34 = .ok (.iconst 0, 1) := by decide +kernel
theorem dX4_stops_35 : decode cX4_stops 35 = .ok (.istore_n 2, 1) := by decide +kernel
theorem dX4_stops_36 : decode cX4_stops 36 = .ok (.iload_n 2, 1) := by decide +kernel
theorem dX4_stops_37 : decode cX4_stops 37 = .ok (.aload_n 0, 1) := by decide +kernel
theorem dX4_stops_38 : decode cX4_stops 38 = .ok (.getfield 14, 3) := by decide +kernel
theorem dX4_stops_41 : decode cX4_stops 41 = .ok (.invokevirtual 143, 3) := by decide +kernel
theorem dX4_stops_44 : decode cX4_stops 44 = .ok (.if_icmp .ge 33, 3) := by decide +kernel
theorem dX4_stops_47 : decode cX4_stops 47 = .ok (.aload_n 0, 1) := by decide +kernel
theorem dX4_stops_48 : decode cX4_stops 48 = .ok (.getfield 14, 3) := by decide +kernel
theorem dX4_stops_51 : decode cX4_stops 51 = .ok (.getfield 91, 3) := by decide +kernel
theorem dX4_stops_54 : decode cX4_stops 54 = .ok (.iload_n 2, 1) := by decide +kernel
theorem dX4_stops_55 : decode cX4_stops 55 = .ok (.iaload, 1) := by decide +kernel
theorem dX4_stops_56 : decode cX4_stops 56 = .ok (.iconst 3, 1) := by decide +kernel
theorem dX4_stops_57 : decode cX4_stops 57 = .ok (.if_icmp .ne 14, 3) := by decide +kernel
theorem dX4_stops_60 : decode cX4_stops 60 = .ok (.aload_n 0, 1) := by decide +kernel
theorem dX4_stops_61 : decode cX4_stops 61 = .ok (.iload_n 1, 1) := by decide +kernel
theorem dX4_stops_62 : decode cX4_stops 62 = .ok (.iload_n 2, 1) := by decide +kernel
theorem dX4_stops_63 : decode cX4_stops 63 = .ok (.invokevirtual 158, 3) := by decide +kernel
theorem dX4_stops_66 : decode cX4_stops 66 = .ok (.ifCond .eq 5, 3) := by decide +kernel
theorem dX4_stops_69 : decode cX4_stops 69 = .ok (.iload_n 2, 1) := by decide +kernel
theorem dX4_stops_70 : decode cX4_stops 70 = .ok (.ireturn, 1) := by decide +kernel
theorem dX4_stops_71 : decode cX4_stops 71 = .ok (.iinc 2 1, 3) := by decide +kernel
theorem dX4_stops_74 : decode cX4_stops 74 = .ok (.goto (-38), 3) := by decide +kernel
theorem dX4_stops_77 : decode cX4_stops 77 = .ok (.bipush (-9), 2) := by decide +kernel
theorem dX4_stops_79 : decode cX4_stops 79 = .ok (.ireturn, 1) := by decide +kernel
set_option maxRecDepth 20000 in
theorem ggX4_reading_X0_isSoft : GoodIn wsX4_reading wsX0_isSoft := goodIn_r _ [6, 7, 8, 9, 10, 4, 11, 12, 13, 14, 15, 16, 17, 43, 44, 45, 46, 47, 48, 49] (by decide +kernel) (by decide +kernel)
set_option maxRecDepth 20000 in
theorem gX4_reading_X0_isSoft_n100 : GoodIn wsX4_reading (wsX0_isSoft) := ggX4_reading_X0_isSoft
set_option maxRecDepth 20000 in
theorem ggX4_reading_X4_isWeeks : GoodIn wsX4_reading wsX4_isWeeks := goodIn_r _ [21] (by decide +kernel) (by decide +kernel)
set_option maxRecDepth 20000 in
theorem gX4_reading_X4_isWeeks : GoodIn wsX4_reading (va_wsS RX4 116 yX4_isWeeks wsX4_isWeeks) := goodIn_app (goodIn_of _ (by decide +kernel)) ggX4_reading_X4_isWeeks
set_option maxRecDepth 20000 in
theorem ggX4_reading_X4_isInches : GoodIn wsX4_reading wsX4_isInches := goodIn_r _ [24] (by decide +kernel) (by decide +kernel)
set_option maxRecDepth 20000 in
theorem gX4_reading_X4_isInches : GoodIn wsX4_reading (va_wsS RX4 103 yX4_isInches wsX4_isInches) := goodIn_app (goodIn_of _ (by decide +kernel)) ggX4_reading_X4_isInches
set_option maxRecDepth 20000 in
theorem ggX4_reading_X1_add : GoodIn wsX4_reading wsX1_add := goodIn_r _ [28, 29, 30, 31, 32, 39, 40, 41, 42] (by decide +kernel) (by decide +kernel)
set_option maxRecDepth 20000 in
theorem gX4_reading_X1_add_n161 : GoodIn wsX4_reading (wsX1_add) := ggX4_reading_X1_add
theorem dX4_reading_0 : decode cX4_reading 0 = .ok (.aload_n 0, 1) := by decide +kernel
theorem dX4_reading_1 : decode cX4_reading 1 = .ok (.getfield 14, 3) := by decide +kernel
theorem dX4_reading_4 : decode cX4_reading 4 = .ok (.iload_n 1, 1) := by decide +kernel
theorem dX4_reading_5 : decode cX4_reading 5 = .ok (.invokevirtual 100, 3) := by decide +kernel
theorem dX4_reading_8 : decode cX4_reading 8 = .ok (.ifCond .ne 5, 3) := by decide +kernel
theorem dX4_reading_11 : decode cX4_reading 11 = .ok (.iconst (-1), 1) := by decide +kernel
theorem dX4_reading_12 : decode cX4_reading 12 = .ok (.ireturn, 1) := by decide +kernel
theorem dX4_reading_13 : decode cX4_reading 13 = .ok (.iload_n 2, 1) := by decide +kernel
theorem dX4_reading_14 : decode cX4_reading 14 = .ok (.invokestatic 116, 3) := by decide +kernel
theorem dX4_reading_17 : decode cX4_reading 17 = .ok (.ifCond .eq 10, 3) := by decide +kernel
theorem dX4_reading_20 : decode cX4_reading 20 = .ok (.iload_n 3, 1) := by decide +kernel
theorem dX4_reading_21 : decode cX4_reading 21 = .ok (.invokestatic 103, 3) := by decide +kernel
theorem dX4_reading_24 : decode cX4_reading 24 = .ok (.ifCond .ne 6, 3) := by decide +kernel
theorem dX4_reading_27 : decode cX4_reading 27 = .ok (.bipush (-2), 2) := by decide +kernel
theorem dX4_reading_29 : decode cX4_reading 29 = .ok (.ireturn, 1) := by decide +kernel
theorem dX4_reading_30 : decode cX4_reading 30 = .ok (.aload_n 0, 1) := by decide +kernel
theorem dX4_reading_31 : decode cX4_reading 31 = .ok (.getfield 21, 3) := by decide +kernel
theorem dX4_reading_34 : decode cX4_reading 34 = .ok (.getfield 76, 3) := by decide +kernel
theorem dX4_reading_37 : decode cX4_reading 37 = .ok (.bipush 8, 2) := by decide +kernel
theorem dX4_reading_39 : decode cX4_reading 39 = .ok (.if_icmp .ge 16, 3) := by decide +kernel
theorem dX4_reading_42 : decode cX4_reading 42 = .ok (.aload_n 0, 1) := by decide +kernel
theorem dX4_reading_43 : decode cX4_reading 43 = .ok (.getfield 21, 3) := by decide +kernel
theorem dX4_reading_46 : decode cX4_reading 46 = .ok (.iload_n 1, 1) := by decide +kernel
theorem dX4_reading_47 : decode cX4_reading 47 = .ok (.iload_n 2, 1) := by decide +kernel
theorem dX4_reading_48 : decode cX4_reading 48 = .ok (.iload_n 3, 1) := by decide +kernel
theorem dX4_reading_49 : decode cX4_reading 49 = .ok (.invokevirtual 161, 3) := by decide +kernel
theorem dX4_reading_52 : decode cX4_reading 52 = .ok (.goto 5, 3) := by decide +kernel
theorem dX4_reading_55 : decode cX4_reading 55 = .ok (.bipush (-4), 2) := by decide +kernel
theorem dX4_reading_57 : decode cX4_reading 57 = .ok (.ireturn, 1) := by decide +kernel
theorem dX4_back_0 : decode cX4_back 0 = .ok (.iload_n 1, 1) := by decide +kernel
theorem dX4_back_1 : decode cX4_back 1 = .ok (.ifCond .lt 14, 3) := by decide +kernel
theorem dX4_back_4 : decode cX4_back 4 = .ok (.iload_n 1, 1) := by decide +kernel
theorem dX4_back_5 : decode cX4_back 5 = .ok (.aload_n 0, 1) := by decide +kernel
theorem dX4_back_6 : decode cX4_back 6 = .ok (.getfield 21, 3) := by decide +kernel
theorem dX4_back_9 : decode cX4_back 9 = .ok (.getfield 76, 3) := by decide +kernel
theorem dX4_back_12 : decode cX4_back 12 = .ok (.if_icmp .le 6, 3) := by decide +kernel
theorem dX4_back_15 : decode cX4_back 15 = .ok (.bipush (-2), 2) := by decide +kernel
theorem dX4_back_17 : decode cX4_back 17 = .ok (.ireturn, 1) := by decide +kernel
theorem dX4_back_18 : decode cX4_back 18 = .ok (.aload_n 0, 1) := by decide +kernel
theorem dX4_back_19 : decode cX4_back 19 = .ok (.getfield 21, 3) := by decide +kernel
theorem dX4_back_22 : decode cX4_back 22 = .ok (.dup, 1) := by decide +kernel
theorem dX4_back_23 : decode cX4_back 23 = .ok (.getfield 76, 3) := by decide +kernel
theorem dX4_back_26 : decode cX4_back 26 = .ok (.iload_n 1, 1) := by decide +kernel
theorem dX4_back_27 : decode cX4_back 27 = .ok (.isub, 1) := by decide +kernel
theorem dX4_back_28 : decode cX4_back 28 = .ok (.putfield 76, 3) := by decide +kernel
theorem dX4_back_31 : decode cX4_back 31 = .ok (.aload_n 0, 1) := by decide +kernel
theorem dX4_back_32 : decode cX4_back 32 = .ok (.getfield 21, 3) := by decide +kernel
theorem dX4_back_35 : decode cX4_back 35 = .ok (.getfield 76, 3) := by decide +kernel
theorem dX4_back_38 : decode cX4_back 38 = .ok (.ireturn, 1) := by decide +kernel
set_option maxRecDepth 20000 in
theorem ggX4_kinds_X0_isSoft : GoodIn wsX4_kinds wsX0_isSoft := goodIn_r _ [6, 7, 8, 9, 10, 4, 11, 12, 13, 14, 15, 16, 17, 52, 53, 54, 55, 56, 57, 58] (by decide +kernel) (by decide +kernel)
set_option maxRecDepth 20000 in
theorem gX4_kinds_X0_isSoft_n100 : GoodIn wsX4_kinds (wsX0_isSoft) := ggX4_kinds_X0_isSoft
set_option maxRecDepth 20000 in
theorem ggX4_kinds_X1_areSo : GoodIn wsX4_kinds wsX1_areSo := goodIn_r _ [21, 22, 23, 24, 25, 26, 4, 27, 28, 29, 30, 31, 32, 33, 34, 35, 36, 37, 38, 39, 40, 7, 41, 59, 60, 61, 62, 52, 53, 54, 55, 56, 57, 58] (by decide +kernel) (by decide +kernel)
set_option maxRecDepth 20000 in
theorem gX4_kinds_X1_areSo_n165 : GoodIn wsX4_kinds (wsX1_areSo) := ggX4_kinds_X1_areSo
set_option maxRecDepth 20000 in
theorem ggX4_kinds_X4_bit : GoodIn wsX4_kinds wsX4_bit := goodIn_r _ [45] (by decide +kernel) (by decide +kernel)
set_option maxRecDepth 20000 in
theorem gX4_kinds_X4_bit : GoodIn wsX4_kinds (va_wsS RX4 169 yX4_bit wsX4_bit) := goodIn_app (goodIn_of _ (by decide +kernel)) ggX4_kinds_X4_bit
theorem dX4_kinds_0 : decode cX4_kinds 0 = .ok (.aload_n 0, 1) := by decide +kernel
theorem dX4_kinds_1 : decode cX4_kinds 1 = .ok (.getfield 14, 3) := by decide +kernel
theorem dX4_kinds_4 : decode cX4_kinds 4 = .ok (.iload_n 1, 1) := by decide +kernel
theorem dX4_kinds_5 : decode cX4_kinds 5 = .ok (.invokevirtual 100, 3) := by decide +kernel
theorem dX4_kinds_8 : decode cX4_kinds 8 = .ok (.ifCond .ne 5, 3) := by decide +kernel
theorem dX4_kinds_11 : decode cX4_kinds 11 = .ok (.iconst (-1), 1) := by decide +kernel
theorem dX4_kinds_12 : decode cX4_kinds 12 = .ok (.ireturn, 1) := by decide +kernel
theorem dX4_kinds_13 : decode cX4_kinds 13 = .ok (.aload_n 0, 1) := by decide +kernel
theorem dX4_kinds_14 : decode cX4_kinds 14 = .ok (.getfield 14, 3) := by decide +kernel
theorem dX4_kinds_17 : decode cX4_kinds 17 = .ok (.getfield 91, 3) := by decide +kernel
theorem dX4_kinds_20 : decode cX4_kinds 20 = .ok (.iload_n 1, 1) := by decide +kernel
theorem dX4_kinds_21 : decode cX4_kinds 21 = .ok (.iaload, 1) := by decide +kernel
theorem dX4_kinds_22 : decode cX4_kinds 22 = .ok (.istore_n 2, 1) := by decide +kernel
theorem dX4_kinds_23 : decode cX4_kinds 23 = .ok (.iconst 0, 1) := by decide +kernel
theorem dX4_kinds_24 : decode cX4_kinds 24 = .ok (.istore_n 3, 1) := by decide +kernel
theorem dX4_kinds_25 : decode cX4_kinds 25 = .ok (.iconst 0, 1) := by decide +kernel
theorem dX4_kinds_26 : decode cX4_kinds 26 = .ok (.istore 4, 2) := by decide +kernel
theorem dX4_kinds_28 : decode cX4_kinds 28 = .ok (.iload 4, 2) := by decide +kernel
theorem dX4_kinds_30 : decode cX4_kinds 30 = .ok (.iconst 2, 1) := by decide +kernel
theorem dX4_kinds_31 : decode cX4_kinds 31 = .ok (.if_icmp .gt 42, 3) := by decide +kernel
theorem dX4_kinds_34 : decode cX4_kinds 34 = .ok (.aload_n 0, 1) := by decide +kernel
theorem dX4_kinds_35 : decode cX4_kinds 35 = .ok (.getfield 14, 3) := by decide +kernel
theorem dX4_kinds_38 : decode cX4_kinds 38 = .ok (.getfield 91, 3) := by decide +kernel
theorem dX4_kinds_41 : decode cX4_kinds 41 = .ok (.iload_n 1, 1) := by decide +kernel
theorem dX4_kinds_42 : decode cX4_kinds 42 = .ok (.iload 4, 2) := by decide +kernel
theorem dX4_kinds_44 : decode cX4_kinds 44 = .ok (.iastore, 1) := by decide +kernel
theorem dX4_kinds_45 : decode cX4_kinds 45 = .ok (.aload_n 0, 1) := by decide +kernel
theorem dX4_kinds_46 : decode cX4_kinds 46 = .ok (.getfield 21, 3) := by decide +kernel
theorem dX4_kinds_49 : decode cX4_kinds 49 = .ok (.aload_n 0, 1) := by decide +kernel
theorem dX4_kinds_50 : decode cX4_kinds 50 = .ok (.getfield 14, 3) := by decide +kernel
theorem dX4_kinds_53 : decode cX4_kinds 53 = .ok (.invokevirtual 165, 3) := by decide +kernel
theorem dX4_kinds_56 : decode cX4_kinds 56 = .ok (.ifCond .eq 11, 3) := by decide +kernel
theorem dX4_kinds_59 : decode cX4_kinds 59 = .ok (.iload_n 3, 1) := by decide +kernel
theorem dX4_kinds_60 : decode cX4_kinds 60 = .ok (.iload 4, 2) := by decide +kernel
theorem dX4_kinds_62 : decode cX4_kinds 62 = .ok (.invokestatic 169, 3) := by decide +kernel
theorem dX4_kinds_65 : decode cX4_kinds 65 = .ok (.ior, 1) := by decide +kernel
theorem dX4_kinds_66 : decode cX4_kinds 66 = .ok (.istore_n 3, 1) := by decide +kernel
theorem dX4_kinds_67 : decode cX4_kinds 67 = .ok (.iinc 4 1, 3) := by decide +kernel
theorem dX4_kinds_70 : decode cX4_kinds 70 = .ok (.goto (-42), 3) := by decide +kernel
theorem dX4_kinds_73 : decode cX4_kinds 73 = .ok (.aload_n 0, 1) := by decide +kernel
theorem dX4_kinds_74 : decode cX4_kinds 74 = .ok (.getfield 14, 3) := by decide +kernel
theorem dX4_kinds_77 : decode cX4_kinds 77 = .ok (.getfield 91, 3) := by decide +kernel
theorem dX4_kinds_80 : decode cX4_kinds 80 = .ok (.iload_n 1, 1) := by decide +kernel
theorem dX4_kinds_81 : decode cX4_kinds 81 = .ok (.iload_n 2, 1) := by decide +kernel
theorem dX4_kinds_82 : decode cX4_kinds 82 = .ok (.iastore, 1) := by decide +kernel
theorem dX4_kinds_83 : decode cX4_kinds 83 = .ok (.iload_n 3, 1) := by decide +kernel
theorem dX4_kinds_84 : decode cX4_kinds 84 = .ok (.ireturn, 1) := by decide +kernel
set_option maxRecDepth 20000 in
theorem ggX4_paces_X0_stands : GoodIn wsX4_paces wsX0_stands := goodIn_r _ [6, 7, 43, 44, 45, 46, 47, 48, 49] (by decide +kernel) (by decide +kernel)
set_option maxRecDepth 20000 in
theorem gX4_paces_X0_stands_n106 : GoodIn wsX4_paces (wsX0_stands) := ggX4_paces_X0_stands
set_option maxRecDepth 20000 in
theorem ggX4_paces_X1_areSo : GoodIn wsX4_paces wsX1_areSo := goodIn_r _ [11, 12, 13, 14, 15, 16, 4, 17, 18, 19, 20, 21, 22, 23, 24, 25, 26, 27, 28, 29, 30, 31, 32, 50, 51, 52, 53, 43, 44, 45, 46, 47, 48, 49] (by decide +kernel) (by decide +kernel)
set_option maxRecDepth 20000 in
theorem gX4_paces_X1_areSo_n165 : GoodIn wsX4_paces (wsX1_areSo) := ggX4_paces_X1_areSo
set_option maxRecDepth 20000 in
theorem ggX4_paces_X4_bit : GoodIn wsX4_paces wsX4_bit := goodIn_r _ [36] (by decide +kernel) (by decide +kernel)
set_option maxRecDepth 20000 in
theorem gX4_paces_X4_bit : GoodIn wsX4_paces (va_wsS RX4 169 yX4_bit wsX4_bit) := goodIn_app (goodIn_of _ (by decide +kernel)) ggX4_paces_X4_bit
theorem dX4_paces_0 : decode cX4_paces 0 = .ok (.aload_n 0, 1) := by decide +kernel
theorem dX4_paces_1 : decode cX4_paces 1 = .ok (.getfield 14, 3) := by decide +kernel
theorem dX4_paces_4 : decode cX4_paces 4 = .ok (.invokevirtual 106, 3) := by decide +kernel
theorem dX4_paces_7 : decode cX4_paces 7 = .ok (.ifCond .ne 6, 3) := by decide +kernel
theorem dX4_paces_10 : decode cX4_paces 10 = .ok (.bipush (-3), 2) := by decide +kernel
theorem dX4_paces_12 : decode cX4_paces 12 = .ok (.ireturn, 1) := by decide +kernel
theorem dX4_paces_13 : decode cX4_paces 13 = .ok (.aload_n 0, 1) := by decide +kernel
theorem dX4_paces_14 : decode cX4_paces 14 = .ok (.getfield 14, 3) := by decide +kernel
theorem dX4_paces_17 : decode cX4_paces 17 = .ok (.getfield 110, 3) := by decide +kernel
theorem dX4_paces_20 : decode cX4_paces 20 = .ok (.istore_n 1, 1) := by decide +kernel
theorem dX4_paces_21 : decode cX4_paces 21 = .ok (.iconst 0, 1) := by decide +kernel
theorem dX4_paces_22 : decode cX4_paces 22 = .ok (.istore_n 2, 1) := by decide +kernel
theorem dX4_paces_23 : decode cX4_paces 23 = .ok (.iconst 1, 1) := by decide +kernel
theorem dX4_paces_24 : decode cX4_paces 24 = .ok (.istore_n 3, 1) := by decide +kernel
theorem dX4_paces_25 : decode cX4_paces 25 = .ok (.iload_n 3, 1) := by decide +kernel
theorem dX4_paces_26 : decode cX4_paces 26 = .ok (.iconst 3, 1) := by decide +kernel
theorem dX4_paces_27 : decode cX4_paces 27 = .ok (.if_icmp .gt 38, 3) := by decide +kernel
theorem dX4_paces_30 : decode cX4_paces 30 = .ok (.aload_n 0, 1) := by decide +kernel
theorem dX4_paces_31 : decode cX4_paces 31 = .ok (.getfield 14, 3) := by decide +kernel
theorem dX4_paces_34 : decode cX4_paces 34 = .ok (.iload_n 3, 1) := by decide +kernel
theorem dX4_paces_35 : decode cX4_paces 35 = .ok (.putfield 110, 3) := by decide +kernel
theorem dX4_paces_38 : decode cX4_paces 38 = .ok (.aload_n 0, 1) := by decide +kernel
theorem dX4_paces_39 : decode cX4_paces 39 = .ok (.getfield 21, 3) := by decide +kernel
theorem dX4_paces_42 : decode cX4_paces 42 = .ok (.aload_n 0, 1) := by decide +kernel
theorem dX4_paces_43 : decode cX4_paces 43 = .ok (.getfield 14, 3) := by decide +kernel
theorem dX4_paces_46 : decode cX4_paces 46 = .ok (.invokevirtual 165, 3) := by decide +kernel
theorem dX4_paces_49 : decode cX4_paces 49 = .ok (.ifCond .eq 10, 3) := by decide +kernel
theorem dX4_paces_52 : decode cX4_paces 52 = .ok (.iload_n 2, 1) := by decide +kernel
theorem dX4_paces_53 : decode cX4_paces 53 = .ok (.iload_n 3, 1) := by decide +kernel
theorem dX4_paces_54 : decode cX4_paces 54 = .ok (.invokestatic 169, 3) := by decide +kernel
theorem dX4_paces_57 : decode cX4_paces 57 = .ok (.ior, 1) := by decide +kernel
theorem dX4_paces_58 : decode cX4_paces 58 = .ok (.istore_n 2, 1) := by decide +kernel
theorem dX4_paces_59 : decode cX4_paces 59 = .ok (.iinc 3 1, 3) := by decide +kernel
theorem dX4_paces_62 : decode cX4_paces 62 = .ok (.goto (-37), 3) := by decide +kernel
theorem dX4_paces_65 : decode cX4_paces 65 = .ok (.aload_n 0, 1) := by decide +kernel
theorem dX4_paces_66 : decode cX4_paces 66 = .ok (.getfield 14, 3) := by decide +kernel
theorem dX4_paces_69 : decode cX4_paces 69 = .ok (.iload_n 1, 1) := by decide +kernel
theorem dX4_paces_70 : decode cX4_paces 70 = .ok (.putfield 110, 3) := by decide +kernel
theorem dX4_paces_73 : decode cX4_paces 73 = .ok (.iload_n 2, 1) := by decide +kernel
theorem dX4_paces_74 : decode cX4_paces 74 = .ok (.ireturn, 1) := by decide +kernel
set_option maxRecDepth 20000 in
theorem ggX4_eatings_X0_isSoft : GoodIn wsX4_eatings wsX0_isSoft := goodIn_r _ [6, 7, 8, 9, 10, 4, 11, 12, 13, 14, 15, 16, 17, 52, 53, 54, 55, 56, 57, 58] (by decide +kernel) (by decide +kernel)
set_option maxRecDepth 20000 in
theorem gX4_eatings_X0_isSoft_n100 : GoodIn wsX4_eatings (wsX0_isSoft) := ggX4_eatings_X0_isSoft
set_option maxRecDepth 20000 in
theorem ggX4_eatings_X1_areSo : GoodIn wsX4_eatings wsX1_areSo := goodIn_r _ [21, 22, 23, 24, 25, 26, 4, 27, 28, 29, 30, 31, 32, 33, 34, 35, 36, 37, 38, 39, 40, 7, 41, 59, 60, 61, 62, 52, 53, 54, 55, 56, 57, 58] (by decide +kernel) (by decide +kernel)
set_option maxRecDepth 20000 in
theorem gX4_eatings_X1_areSo_n165 : GoodIn wsX4_eatings (wsX1_areSo) := ggX4_eatings_X1_areSo
set_option maxRecDepth 20000 in
theorem ggX4_eatings_X4_bit : GoodIn wsX4_eatings wsX4_bit := goodIn_r _ [45] (by decide +kernel) (by decide +kernel)
set_option maxRecDepth 20000 in
theorem gX4_eatings_X4_bit : GoodIn wsX4_eatings (va_wsS RX4 169 yX4_bit wsX4_bit) := goodIn_app (goodIn_of _ (by decide +kernel)) ggX4_eatings_X4_bit
theorem dX4_eatings_0 : decode cX4_eatings 0 = .ok (.aload_n 0, 1) := by decide +kernel
theorem dX4_eatings_1 : decode cX4_eatings 1 = .ok (.getfield 14, 3) := by decide +kernel
theorem dX4_eatings_4 : decode cX4_eatings 4 = .ok (.iload_n 1, 1) := by decide +kernel
theorem dX4_eatings_5 : decode cX4_eatings 5 = .ok (.invokevirtual 100, 3) := by decide +kernel
theorem dX4_eatings_8 : decode cX4_eatings 8 = .ok (.ifCond .ne 5, 3) := by decide +kernel
theorem dX4_eatings_11 : decode cX4_eatings 11 = .ok (.iconst (-1), 1) := by decide +kernel
theorem dX4_eatings_12 : decode cX4_eatings 12 = .ok (.ireturn, 1) := by decide +kernel
theorem dX4_eatings_13 : decode cX4_eatings 13 = .ok (.aload_n 0, 1) := by decide +kernel
theorem dX4_eatings_14 : decode cX4_eatings 14 = .ok (.getfield 14, 3) := by decide +kernel
theorem dX4_eatings_17 : decode cX4_eatings 17 = .ok (.getfield 97, 3) := by decide +kernel
theorem dX4_eatings_20 : decode cX4_eatings 20 = .ok (.iload_n 1, 1) := by decide +kernel
theorem dX4_eatings_21 : decode cX4_eatings 21 = .ok (.iaload, 1) := by decide +kernel
theorem dX4_eatings_22 : decode cX4_eatings 22 = .ok (.istore_n 2, 1) := by decide +kernel
theorem dX4_eatings_23 : decode cX4_eatings 23 = .ok (.iconst 0, 1) := by decide +kernel
theorem dX4_eatings_24 : decode cX4_eatings 24 = .ok (.istore_n 3, 1) := by decide +kernel
theorem dX4_eatings_25 : decode cX4_eatings 25 = .ok (.iconst 0, 1) := by decide +kernel
theorem dX4_eatings_26 : decode cX4_eatings 26 = .ok (.istore 4, 2) := by decide +kernel
theorem dX4_eatings_28 : decode cX4_eatings 28 = .ok (.iload 4, 2) := by decide +kernel
theorem dX4_eatings_30 : decode cX4_eatings 30 = .ok (.bipush 9, 2) := by decide +kernel
theorem dX4_eatings_32 : decode cX4_eatings 32 = .ok (.if_icmp .gt 42, 3) := by decide +kernel
theorem dX4_eatings_35 : decode cX4_eatings 35 = .ok (.aload_n 0, 1) := by decide +kernel
theorem dX4_eatings_36 : decode cX4_eatings 36 = .ok (.getfield 14, 3) := by decide +kernel
theorem dX4_eatings_39 : decode cX4_eatings 39 = .ok (.getfield 97, 3) := by decide +kernel
theorem dX4_eatings_42 : decode cX4_eatings 42 = .ok (.iload_n 1, 1) := by decide +kernel
theorem dX4_eatings_43 : decode cX4_eatings 43 = .ok (.iload 4, 2) := by decide +kernel
theorem dX4_eatings_45 : decode cX4_eatings 45 = .ok (.iastore, 1) := by decide +kernel
theorem dX4_eatings_46 : decode cX4_eatings 46 = .ok (.aload_n 0, 1) := by decide +kernel
theorem dX4_eatings_47 : decode cX4_eatings 47 = .ok (.getfield 21, 3) := by decide +kernel
theorem dX4_eatings_50 : decode cX4_eatings 50 = .ok (.aload_n 0, 1) := by decide +kernel
theorem dX4_eatings_51 : decode cX4_eatings 51 = .ok (.getfield 14, 3) := by decide +kernel
theorem dX4_eatings_54 : decode cX4_eatings 54 = .ok (.invokevirtual 165, 3) := by decide +kernel
theorem dX4_eatings_57 : decode cX4_eatings 57 = .ok (.ifCond .eq 11, 3) := by decide +kernel
theorem dX4_eatings_60 : decode cX4_eatings 60 = .ok (.iload_n 3, 1) := by decide +kernel
theorem dX4_eatings_61 : decode cX4_eatings 61 = .ok (.iload 4, 2) := by decide +kernel
theorem dX4_eatings_63 : decode cX4_eatings 63 = .ok (.invokestatic 169, 3) := by decide +kernel
theorem dX4_eatings_66 : decode cX4_eatings 66 = .ok (.ior, 1) := by decide +kernel
theorem dX4_eatings_67 : decode cX4_eatings 67 = .ok (.istore_n 3, 1) := by decide +kernel
theorem dX4_eatings_68 : decode cX4_eatings 68 = .ok (.iinc 4 1, 3) := by decide +kernel
theorem dX4_eatings_71 : decode cX4_eatings 71 = .ok (.goto (-43), 3) := by decide +kernel
theorem dX4_eatings_74 : decode cX4_eatings 74 = .ok (.aload_n 0, 1) := by decide +kernel
theorem dX4_eatings_75 : decode cX4_eatings 75 = .ok (.getfield 14, 3) := by decide +kernel
theorem dX4_eatings_78 : decode cX4_eatings 78 = .ok (.getfield 97, 3) := by decide +kernel
theorem dX4_eatings_81 : decode cX4_eatings 81 = .ok (.iload_n 1, 1) := by decide +kernel
theorem dX4_eatings_82 : decode cX4_eatings 82 = .ok (.iload_n 2, 1) := by decide +kernel
theorem dX4_eatings_83 : decode cX4_eatings 83 = .ok (.iastore, 1) := by decide +kernel
theorem dX4_eatings_84 : decode cX4_eatings 84 = .ok (.iload_n 3, 1) := by decide +kernel
theorem dX4_eatings_85 : decode cX4_eatings 85 = .ok (.ireturn, 1) := by decide +kernel
set_option maxRecDepth 20000 in
theorem ggX4_odds_X0_has : GoodIn wsX4_odds wsX0_has := goodIn_r _ [11, 12, 13, 14, 9, 15, 16, 17, 72, 73, 74, 75, 76, 77, 78] (by decide +kernel) (by decide +kernel)
set_option maxRecDepth 20000 in
theorem gX4_odds_X0_has_n88 : GoodIn wsX4_odds (wsX0_has) := ggX4_odds_X0_has
set_option maxRecDepth 20000 in
theorem ggX4_odds_X4_isWeeks : GoodIn wsX4_odds wsX4_isWeeks := goodIn_r _ [21] (by decide +kernel) (by decide +kernel)
set_option maxRecDepth 20000 in
theorem gX4_odds_X4_isWeeks : GoodIn wsX4_odds (va_wsS RX4 116 yX4_isWeeks wsX4_isWeeks) := goodIn_app (goodIn_of _ (by decide +kernel)) ggX4_odds_X4_isWeeks
set_option maxRecDepth 20000 in
theorem ggX4_odds_X0_isRipe : GoodIn wsX4_odds wsX0_isRipe := goodIn_r _ [24, 25, 26, 27, 28, 29, 9, 30, 31, 32, 33, 6, 34, 35, 36, 37, 38, 39, 40, 41, 42, 72, 73, 74, 75, 76, 77, 78] (by decide +kernel) (by decide +kernel)
set_option maxRecDepth 20000 in
theorem gX4_odds_X0_isRipe_n126 : GoodIn wsX4_odds (wsX0_isRipe) := ggX4_odds_X0_isRipe
set_option maxRecDepth 20000 in
theorem ggX4_odds_X0_ripeCells : GoodIn wsX4_odds wsX0_ripeCells := goodIn_r _ [45, 12, 13, 14, 9, 15, 16, 17, 46, 22, 23, 24, 25, 26, 27, 28, 29, 30, 31, 32, 33, 6, 34, 35, 36, 37, 38, 39, 40, 41, 42, 47, 20, 48, 72, 73, 74, 75, 76, 77, 78] (by decide +kernel) (by decide +kernel)
set_option maxRecDepth 20000 in
theorem gX4_odds_X0_ripeCells_n123 : GoodIn wsX4_odds (wsX0_ripeCells) := ggX4_odds_X0_ripeCells
set_option maxRecDepth 20000 in
theorem ggX4_odds_X4_without : GoodIn wsX4_odds wsX4_without := goodIn_r _ [51, 52, 47, 20, 48] (by decide +kernel) (by decide +kernel)
set_option maxRecDepth 20000 in
theorem gX4_odds_X4_without : GoodIn wsX4_odds (va_wsS RX4 174 yX4_without wsX4_without) := goodIn_app (goodIn_of _ (by decide +kernel)) ggX4_odds_X4_without
set_option maxRecDepth 20000 in
theorem ggX4_odds_X4_oddsOn : GoodIn wsX4_odds wsX4_oddsOn := goodIn_r _ [55, 56, 9, 57, 58, 59, 60, 61, 20, 62, 52, 47, 48, 49, 50, 51, 53, 54, 72, 73, 74, 75, 76, 77, 78] (by decide +kernel) (by decide +kernel)
set_option maxRecDepth 20000 in
theorem gX4_odds_X4_oddsOn : GoodIn wsX4_odds (va_wsS RX4 179 yX4_oddsOn wsX4_oddsOn) := goodIn_app (goodIn_of _ (by decide +kernel)) ggX4_odds_X4_oddsOn
set_option maxRecDepth 20000 in
theorem ggX4_odds_X4_commonDivisor : GoodIn wsX4_odds wsX4_commonDivisor := goodIn_r _ [65] (by decide +kernel) (by decide +kernel)
set_option maxRecDepth 20000 in
theorem gX4_odds_X4_commonDivisor : GoodIn wsX4_odds (va_wsS RX4 183 yX4_commonDivisor wsX4_commonDivisor) := goodIn_app (goodIn_of _ (by decide +kernel)) ggX4_odds_X4_commonDivisor
theorem dX4_odds_0 : decode cX4_odds 0 = .ok (.aload_n 0, 1) := by decide +kernel
theorem dX4_odds_1 : decode cX4_odds 1 = .ok (.getfield 14, 3) := by decide +kernel
theorem dX4_odds_4 : decode cX4_odds 4 = .ok (.iload_n 2, 1) := by decide +kernel
theorem dX4_odds_5 : decode cX4_odds 5 = .ok (.invokevirtual 88, 3) := by decide +kernel
theorem dX4_odds_8 : decode cX4_odds 8 = .ok (.ifCond .eq 31, 3) := by decide +kernel
theorem dX4_odds_11 : decode cX4_odds 11 = .ok (.iload_n 1, 1) := by decide +kernel
theorem dX4_odds_12 : decode cX4_odds 12 = .ok (.invokestatic 116, 3) := by decide +kernel
theorem dX4_odds_15 : decode cX4_odds 15 = .ok (.ifCond .eq 24, 3) := by decide +kernel
theorem dX4_odds_18 : decode cX4_odds 18 = .ok (.iload_n 3, 1) := by decide +kernel
theorem dX4_odds_19 : decode cX4_odds 19 = .ok (.ifCond .lt 20, 3) := by decide +kernel
theorem dX4_odds_22 : decode cX4_odds 22 = .ok (.iload_n 3, 1) := by decide +kernel
theorem dX4_odds_23 : decode cX4_odds 23 = .ok (.iconst 1, 1) := by decide +kernel
theorem dX4_odds_24 : decode cX4_odds 24 = .ok (.if_icmp .gt 15, 3) := by decide +kernel
theorem dX4_odds_27 : decode cX4_odds 27 = .ok (.aload_n 0, 1) := by decide +kernel
theorem dX4_odds_28 : decode cX4_odds 28 = .ok (.getfield 14, 3) := by decide +kernel
theorem dX4_odds_31 : decode cX4_odds 31 = .ok (.iload_n 2, 1) := by decide +kernel
theorem dX4_odds_32 : decode cX4_odds 32 = .ok (.iload_n 1, 1) := by decide +kernel
theorem dX4_odds_33 : decode cX4_odds 33 = .ok (.invokevirtual 126, 3) := by decide +kernel
theorem dX4_odds_36 : decode cX4_odds 36 = .ok (.ifCond .ne 7, 3) := by decide +kernel
theorem dX4_odds_39 : decode cX4_odds 39 = .ok (.ldc2_w 172, 3) := by decide +kernel
theorem dX4_odds_42 : decode cX4_odds 42 = .ok (.lreturn, 1) := by decide +kernel
theorem dX4_odds_43 : decode cX4_odds 43 = .ok (.aload_n 0, 1) := by decide +kernel
theorem dX4_odds_44 : decode cX4_odds 44 = .ok (.getfield 14, 3) := by decide +kernel
theorem dX4_odds_47 : decode cX4_odds 47 = .ok (.iload_n 2, 1) := by decide +kernel
theorem dX4_odds_48 : decode cX4_odds 48 = .ok (.aload_n 0, 1) := by decide +kernel
theorem dX4_odds_49 : decode cX4_odds 49 = .ok (.getfield 14, 3) := by decide +kernel
theorem dX4_odds_52 : decode cX4_odds 52 = .ok (.iload_n 1, 1) := by decide +kernel
theorem dX4_odds_53 : decode cX4_odds 53 = .ok (.invokevirtual 123, 3) := by decide +kernel
theorem dX4_odds_56 : decode cX4_odds 56 = .ok (.iload_n 2, 1) := by decide +kernel
theorem dX4_odds_57 : decode cX4_odds 57 = .ok (.invokestatic 174, 3) := by decide +kernel
theorem dX4_odds_60 : decode cX4_odds 60 = .ok (.ldc2_w 177, 3) := by decide +kernel
theorem dX4_odds_63 : decode cX4_odds 63 = .ok (.iconst 1, 1) := by decide +kernel
theorem dX4_odds_64 : decode cX4_odds 64 = .ok (.invokestatic 179, 3) := by decide +kernel
theorem dX4_odds_67 : decode cX4_odds 67 = .ok (.lstore 4, 2) := by decide +kernel
theorem dX4_odds_69 : decode cX4_odds 69 = .ok (.lconst 1, 1) := by decide +kernel
theorem dX4_odds_70 : decode cX4_odds 70 = .ok (.ldc2_w 177, 3) := by decide +kernel
theorem dX4_odds_73 : decode cX4_odds 73 = .ok (.lload 4, 2) := by decide +kernel
theorem dX4_odds_75 : decode cX4_odds 75 = .ok (.invokestatic 183, 3) := by decide +kernel
theorem dX4_odds_78 : decode cX4_odds 78 = .ok (.invokestatic 187, 3) := by decide +kernel
theorem dX4_odds_81 : decode cX4_odds 81 = .ok (.lstore 6, 2) := by decide +kernel
theorem dX4_odds_83 : decode cX4_odds 83 = .ok (.iload_n 3, 1) := by decide +kernel
theorem dX4_odds_84 : decode cX4_odds 84 = .ok (.ifCond .ne 8, 3) := by decide +kernel
theorem dX4_odds_87 : decode cX4_odds 87 = .ok (.lload 4, 2) := by decide +kernel
theorem dX4_odds_89 : decode cX4_odds 89 = .ok (.goto 6, 3) := by decide +kernel
theorem dX4_odds_92 : decode cX4_odds 92 = .ok (.ldc2_w 177, 3) := by decide +kernel
theorem dX4_odds_95 : decode cX4_odds 95 = .ok (.lload 6, 2) := by decide +kernel
theorem dX4_odds_97 : decode cX4_odds 97 = .ok (.ldiv, 1) := by decide +kernel
theorem dX4_odds_98 : decode cX4_odds 98 = .ok (.lreturn, 1) := by decide +kernel
set_option maxRecDepth 20000 in
theorem ggX4_sheet_X4_isSheet : GoodIn wsX4_sheet wsX4_isSheet := goodIn_r _ [6] (by decide +kernel) (by decide +kernel)
set_option maxRecDepth 20000 in
theorem gX4_sheet_X4_isSheet : GoodIn wsX4_sheet (va_wsS RX4 46 yX4_isSheet wsX4_isSheet) := goodIn_app (goodIn_of _ (by decide +kernel)) ggX4_sheet_X4_isSheet
set_option maxRecDepth 20000 in
theorem ggX4_sheet_X4_isLane : GoodIn wsX4_sheet wsX4_isLane := goodIn_r _ [9] (by decide +kernel) (by decide +kernel)
set_option maxRecDepth 20000 in
theorem gX4_sheet_X4_isLane : GoodIn wsX4_sheet (va_wsS RX4 50 yX4_isLane wsX4_isLane) := goodIn_app (goodIn_of _ (by decide +kernel)) ggX4_sheet_X4_isLane
set_option maxRecDepth 20000 in
theorem ggX4_sheet_X4_failed : GoodIn wsX4_sheet wsX4_failed := goodIn_r _ [13, 1, 22, 23, 24, 25, 26, 27] (by decide +kernel) (by decide +kernel)
set_option maxRecDepth 20000 in
theorem gX4_sheet_X4_failed : GoodIn wsX4_sheet (wsV RX4 61 RX4 yX4_failed wsX4_failed) := goodIn_app (goodIn_of _ (by decide +kernel)) ggX4_sheet_X4_failed
set_option maxRecDepth 20000 in
theorem ggX4_sheet_X3_renew : GoodIn wsX4_sheet wsX3_renew := goodIn_r _ [17, 18, 19, 20, 21, 28, 29, 30, 31] (by decide +kernel) (by decide +kernel)
set_option maxRecDepth 20000 in
theorem gX4_sheet_X3_renew_n192 : GoodIn wsX4_sheet (wsX3_renew) := ggX4_sheet_X3_renew
theorem dX4_sheet_0 : decode cX4_sheet 0 = .ok (.aload_n 0, 1) := by decide +kernel
theorem dX4_sheet_1 : decode cX4_sheet 1 = .ok (.iconst 0, 1) := by decide +kernel
theorem dX4_sheet_2 : decode cX4_sheet 2 = .ok (.putfield 38, 3) := by decide +kernel
theorem dX4_sheet_5 : decode cX4_sheet 5 = .ok (.iload_n 1, 1) := by decide +kernel
theorem dX4_sheet_6 : decode cX4_sheet 6 = .ok (.invokestatic 46, 3) := by decide +kernel
theorem dX4_sheet_9 : decode cX4_sheet 9 = .ok (.ifCond .ne 5, 3) := by decide +kernel
theorem dX4_sheet_12 : decode cX4_sheet 12 = .ok (.iconst (-1), 1) := by decide +kernel
theorem dX4_sheet_13 : decode cX4_sheet 13 = .ok (.ireturn, 1) := by decide +kernel
theorem dX4_sheet_14 : decode cX4_sheet 14 = .ok (.iload_n 2, 1) := by decide +kernel
theorem dX4_sheet_15 : decode cX4_sheet 15 = .ok (.invokestatic 50, 3) := by decide +kernel
theorem dX4_sheet_18 : decode cX4_sheet 18 = .ok (.ifCond .eq 9, 3) := by decide +kernel
theorem dX4_sheet_21 : decode cX4_sheet 21 = .ok (.iload_n 3, 1) := by decide +kernel
theorem dX4_sheet_22 : decode cX4_sheet 22 = .ok (.bipush 60, 2) := by decide +kernel
theorem dX4_sheet_24 : decode cX4_sheet 24 = .ok (.if_icmp .le 6, 3) := by decide +kernel
theorem dX4_sheet_27 : decode cX4_sheet 27 = .ok (.bipush (-2), 2) := by decide +kernel
theorem dX4_sheet_29 : decode cX4_sheet 29 = .ok (.ireturn, 1) := by decide +kernel
theorem dX4_sheet_30 : decode cX4_sheet 30 = .ok (.iload_n 3, 1) := by decide +kernel
theorem dX4_sheet_31 : decode cX4_sheet 31 = .ok (.ifCond .ge 9, 3) := by decide +kernel
theorem dX4_sheet_34 : decode cX4_sheet 34 = .ok (.aload_n 0, 1) := by decide +kernel
theorem dX4_sheet_35 : decode cX4_sheet 35 = .ok (.iconst 4, 1) := by decide +kernel
theorem dX4_sheet_36 : decode cX4_sheet 36 = .ok (.invokevirtual 61, 3) := by decide +kernel
theorem dX4_sheet_39 : decode cX4_sheet 39 = .ok (.ireturn, 1) := by decide +kernel
theorem dX4_sheet_40 : decode cX4_sheet 40 = .ok (.aload_n 0, 1) := by decide +kernel
theorem dX4_sheet_41 : decode cX4_sheet 41 = .ok (.getfield 34, 3) := by decide +kernel
theorem dX4_sheet_44 : decode cX4_sheet 44 = .ok (.iload_n 1, 1) := by decide +kernel
theorem dX4_sheet_45 : decode cX4_sheet 45 = .ok (.aaload, 1) := by decide +kernel
theorem dX4_sheet_46 : decode cX4_sheet 46 = .ok (.iload_n 2, 1) := by decide +kernel
theorem dX4_sheet_47 : decode cX4_sheet 47 = .ok (.iload_n 3, 1) := by decide +kernel
theorem dX4_sheet_48 : decode cX4_sheet 48 = .ok (.invokevirtual 192, 3) := by decide +kernel
theorem dX4_sheet_51 : decode cX4_sheet 51 = .ok (.iconst 1, 1) := by decide +kernel
theorem dX4_sheet_52 : decode cX4_sheet 52 = .ok (.ireturn, 1) := by decide +kernel
set_option maxRecDepth 20000 in
theorem ggX4_lose_X4_isSheet : GoodIn wsX4_lose wsX4_isSheet := goodIn_r _ [5] (by decide +kernel) (by decide +kernel)
set_option maxRecDepth 20000 in
theorem gX4_lose_X4_isSheet : GoodIn wsX4_lose (va_wsS RX4 46 yX4_isSheet wsX4_isSheet) := goodIn_app (goodIn_of _ (by decide +kernel)) ggX4_lose_X4_isSheet
theorem dX4_lose_0 : decode cX4_lose 0 = .ok (.iload_n 1, 1) := by decide +kernel
theorem dX4_lose_1 : decode cX4_lose 1 = .ok (.invokestatic 46, 3) := by decide +kernel
theorem dX4_lose_4 : decode cX4_lose 4 = .ok (.ifCond .ne 5, 3) := by decide +kernel
theorem dX4_lose_7 : decode cX4_lose 7 = .ok (.iconst (-1), 1) := by decide +kernel
theorem dX4_lose_8 : decode cX4_lose 8 = .ok (.ireturn, 1) := by decide +kernel
theorem dX4_lose_9 : decode cX4_lose 9 = .ok (.aload_n 0, 1) := by decide +kernel
theorem dX4_lose_10 : decode cX4_lose 10 = .ok (.getfield 34, 3) := by decide +kernel
theorem dX4_lose_13 : decode cX4_lose 13 = .ok (.iload_n 1, 1) := by decide +kernel
theorem dX4_lose_14 : decode cX4_lose 14 = .ok (.aaload, 1) := by decide +kernel
theorem dX4_lose_15 : decode cX4_lose 15 = .ok (.getfield 196, 3) := by decide +kernel
theorem dX4_lose_18 : decode cX4_lose 18 = .ok (.ifCond .eq 7, 3) := by decide +kernel
theorem dX4_lose_21 : decode cX4_lose 21 = .ok (.iconst 1, 1) := by decide +kernel
theorem dX4_lose_22 : decode cX4_lose 22 = .ok (.goto 4, 3) := by decide +kernel
theorem dX4_lose_25 : decode cX4_lose 25 = .ok (.iconst 0, 1) := by decide +kernel
theorem dX4_lose_26 : decode cX4_lose 26 = .ok (.istore_n 2, 1) := by decide +kernel
theorem dX4_lose_27 : decode cX4_lose 27 = .ok (.aload_n 0, 1) := by decide +kernel
theorem dX4_lose_28 : decode cX4_lose 28 = .ok (.getfield 34, 3) := by decide +kernel
theorem dX4_lose_31 : decode cX4_lose 31 = .ok (.iload_n 1, 1) := by decide +kernel
theorem dX4_lose_32 : decode cX4_lose 32 = .ok (.aaload, 1) := by decide +kernel
theorem dX4_lose_33 : decode cX4_lose 33 = .ok (.iconst 0, 1) := by decide +kernel
theorem dX4_lose_34 : decode cX4_lose 34 = .ok (.putfield 196, 3) := by decide +kernel
theorem dX4_lose_37 : decode cX4_lose 37 = .ok (.iload_n 2, 1) := by decide +kernel
theorem dX4_lose_38 : decode cX4_lose 38 = .ok (.ireturn, 1) := by decide +kernel
set_option maxRecDepth 20000 in
theorem ggX4_put_X4_isSheet : GoodIn wsX4_put wsX4_isSheet := goodIn_r _ [6] (by decide +kernel) (by decide +kernel)
set_option maxRecDepth 20000 in
theorem gX4_put_X4_isSheet : GoodIn wsX4_put (va_wsS RX4 46 yX4_isSheet wsX4_isSheet) := goodIn_app (goodIn_of _ (by decide +kernel)) ggX4_put_X4_isSheet
set_option maxRecDepth 20000 in
theorem ggX4_put_X4_failed : GoodIn wsX4_put wsX4_failed := goodIn_r _ [10, 1, 20, 21, 22, 23, 24, 25] (by decide +kernel) (by decide +kernel)
set_option maxRecDepth 20000 in
theorem gX4_put_X4_failed : GoodIn wsX4_put (wsV RX4 61 RX4 yX4_failed wsX4_failed) := goodIn_app (goodIn_of _ (by decide +kernel)) ggX4_put_X4_failed
set_option maxRecDepth 20000 in
theorem ggX4_put_X3_holds : GoodIn wsX4_put wsX3_holds := goodIn_r _ [14, 15, 26, 27, 28, 29] (by decide +kernel) (by decide +kernel)
set_option maxRecDepth 20000 in
theorem gX4_put_X3_holds_n200 : GoodIn wsX4_put (wsX3_holds) := ggX4_put_X3_holds
set_option maxRecDepth 20000 in
theorem ggX4_put_X3_cut : GoodIn wsX4_put wsX3_cut := goodIn_r _ [18, 19, 26, 27, 28, 29] (by decide +kernel) (by decide +kernel)
set_option maxRecDepth 20000 in
theorem gX4_put_X3_cut_n203 : GoodIn wsX4_put (wsX3_cut) := ggX4_put_X3_cut
theorem dX4_put_0 : decode cX4_put 0 = .ok (.aload_n 0, 1) := by decide +kernel
theorem dX4_put_1 : decode cX4_put 1 = .ok (.iconst 0, 1) := by decide +kernel
theorem dX4_put_2 : decode cX4_put 2 = .ok (.putfield 38, 3) := by decide +kernel
theorem dX4_put_5 : decode cX4_put 5 = .ok (.iload_n 1, 1) := by decide +kernel
theorem dX4_put_6 : decode cX4_put 6 = .ok (.invokestatic 46, 3) := by decide +kernel
theorem dX4_put_9 : decode cX4_put 9 = .ok (.ifCond .ne 5, 3) := by decide +kernel
theorem dX4_put_12 : decode cX4_put 12 = .ok (.iconst (-1), 1) := by decide +kernel
theorem dX4_put_13 : decode cX4_put 13 = .ok (.ireturn, 1) := by decide +kernel
theorem dX4_put_14 : decode cX4_put 14 = .ok (.aload_n 0, 1) := by decide +kernel
theorem dX4_put_15 : decode cX4_put 15 = .ok (.getfield 34, 3) := by decide +kernel
theorem dX4_put_18 : decode cX4_put 18 = .ok (.iload_n 1, 1) := by decide +kernel
theorem dX4_put_19 : decode cX4_put 19 = .ok (.aaload, 1) := by decide +kernel
theorem dX4_put_20 : decode cX4_put 20 = .ok (.astore 4, 2) := by decide +kernel
theorem dX4_put_22 : decode cX4_put 22 = .ok (.aload 4, 2) := by decide +kernel
theorem dX4_put_24 : decode cX4_put 24 = .ok (.getfield 196, 3) := by decide +kernel
theorem dX4_put_27 : decode cX4_put 27 = .ok (.ifCond .ne 9, 3) := by decide +kernel
theorem dX4_put_30 : decode cX4_put 30 = .ok (.aload_n 0, 1) := by decide +kernel
theorem dX4_put_31 : decode cX4_put 31 = .ok (.iconst 1, 1) := by decide +kernel
theorem dX4_put_32 : decode cX4_put 32 = .ok (.invokevirtual 61, 3) := by decide +kernel
theorem dX4_put_35 : decode cX4_put 35 = .ok (.ireturn, 1) := by decide +kernel
theorem dX4_put_36 : decode cX4_put 36 = .ok (.aload 4, 2) := by decide +kernel
theorem dX4_put_38 : decode cX4_put 38 = .ok (.iload_n 2, 1) := by decide +kernel
theorem dX4_put_39 : decode cX4_put 39 = .ok (.invokevirtual 200, 3) := by decide +kernel
theorem dX4_put_42 : decode cX4_put 42 = .ok (.ifCond .ne 9, 3) := by decide +kernel
theorem dX4_put_45 : decode cX4_put 45 = .ok (.aload_n 0, 1) := by decide +kernel
theorem dX4_put_46 : decode cX4_put 46 = .ok (.iconst 3, 1) := by decide +kernel
theorem dX4_put_47 : decode cX4_put 47 = .ok (.invokevirtual 61, 3) := by decide +kernel
theorem dX4_put_50 : decode cX4_put 50 = .ok (.ireturn, 1) := by decide +kernel
theorem dX4_put_51 : decode cX4_put 51 = .ok (.aload 4, 2) := by decide +kernel
theorem dX4_put_53 : decode cX4_put 53 = .ok (.getfield 64, 3) := by decide +kernel
theorem dX4_put_56 : decode cX4_put 56 = .ok (.iload_n 2, 1) := by decide +kernel
theorem dX4_put_57 : decode cX4_put 57 = .ok (.aload 4, 2) := by decide +kernel
theorem dX4_put_59 : decode cX4_put 59 = .ok (.iload_n 3, 1) := by decide +kernel
theorem dX4_put_60 : decode cX4_put 60 = .ok (.invokevirtual 203, 3) := by decide +kernel
theorem dX4_put_63 : decode cX4_put 63 = .ok (.iastore, 1) := by decide +kernel
theorem dX4_put_64 : decode cX4_put 64 = .ok (.iconst 1, 1) := by decide +kernel
theorem dX4_put_65 : decode cX4_put 65 = .ok (.ireturn, 1) := by decide +kernel
set_option maxRecDepth 20000 in
theorem ggX4_cell_X4_isSheet : GoodIn wsX4_cell wsX4_isSheet := goodIn_r _ [7] (by decide +kernel) (by decide +kernel)
set_option maxRecDepth 20000 in
theorem gX4_cell_X4_isSheet : GoodIn wsX4_cell (va_wsS RX4 46 yX4_isSheet wsX4_isSheet) := goodIn_app (goodIn_of _ (by decide +kernel)) ggX4_cell_X4_isSheet
set_option maxRecDepth 20000 in
theorem ggX4_cell_X4_isLane : GoodIn wsX4_cell wsX4_isLane := goodIn_r _ [10] (by decide +kernel) (by decide +kernel)
set_option maxRecDepth 20000 in
theorem gX4_cell_X4_isLane : GoodIn wsX4_cell (va_wsS RX4 50 yX4_isLane wsX4_isLane) := goodIn_app (goodIn_of _ (by decide +kernel)) ggX4_cell_X4_isLane
set_option maxRecDepth 20000 in
theorem ggX4_cell_X3_faultAs : GoodIn wsX4_cell wsX3_faultAs := goodIn_r _ [14, 15, 16, 27, 28, 29, 30] (by decide +kernel) (by decide +kernel)
set_option maxRecDepth 20000 in
theorem gX4_cell_X3_faultAs_n53 : GoodIn wsX4_cell (wsX3_faultAs) := ggX4_cell_X3_faultAs
set_option maxRecDepth 20000 in
theorem ggX4_cell_X3_holds : GoodIn wsX4_cell wsX3_holds := goodIn_r _ [19, 20, 27, 28, 29, 30] (by decide +kernel) (by decide +kernel)
set_option maxRecDepth 20000 in
theorem gX4_cell_X3_holds_n200 : GoodIn wsX4_cell (wsX3_holds) := ggX4_cell_X3_holds
theorem dX4_cell_0 : decode cX4_cell 0 = .ok (.aload_n 0, 1) := by decide +kernel
theorem dX4_cell_1 : decode cX4_cell 1 = .ok (.iconst 0, 1) := by decide +kernel
theorem dX4_cell_2 : decode cX4_cell 2 = .ok (.putfield 38, 3) := by decide +kernel
theorem dX4_cell_5 : decode cX4_cell 5 = .ok (.iload_n 1, 1) := by decide +kernel
theorem dX4_cell_6 : decode cX4_cell 6 = .ok (.invokestatic 46, 3) := by decide +kernel
theorem dX4_cell_9 : decode cX4_cell 9 = .ok (.ifCond .eq 10, 3) := by decide +kernel
theorem dX4_cell_12 : decode cX4_cell 12 = .ok (.iload_n 3, 1) := by decide +kernel
theorem dX4_cell_13 : decode cX4_cell 13 = .ok (.invokestatic 50, 3) := by decide +kernel
theorem dX4_cell_16 : decode cX4_cell 16 = .ok (.ifCond .ne 7, 3) := by decide +kernel
theorem dX4_cell_19 : decode cX4_cell 19 = .ok (.ldc2_w 172, 3) := by decide +kernel
theorem dX4_cell_22 : decode cX4_cell 22 = .ok (.lreturn, 1) := by decide +kernel
theorem dX4_cell_23 : decode cX4_cell 23 = .ok (.aload_n 0, 1) := by decide +kernel
theorem dX4_cell_24 : decode cX4_cell 24 = .ok (.getfield 34, 3) := by decide +kernel
theorem dX4_cell_27 : decode cX4_cell 27 = .ok (.iload_n 1, 1) := by decide +kernel
theorem dX4_cell_28 : decode cX4_cell 28 = .ok (.aaload, 1) := by decide +kernel
theorem dX4_cell_29 : decode cX4_cell 29 = .ok (.astore 4, 2) := by decide +kernel
theorem dX4_cell_31 : decode cX4_cell 31 = .ok (.aload_n 0, 1) := by decide +kernel
theorem dX4_cell_32 : decode cX4_cell 32 = .ok (.aload 4, 2) := by decide +kernel
theorem dX4_cell_34 : decode cX4_cell 34 = .ok (.iload_n 3, 1) := by decide +kernel
theorem dX4_cell_35 : decode cX4_cell 35 = .ok (.invokevirtual 53, 3) := by decide +kernel
theorem dX4_cell_38 : decode cX4_cell 38 = .ok (.putfield 38, 3) := by decide +kernel
theorem dX4_cell_41 : decode cX4_cell 41 = .ok (.aload_n 0, 1) := by decide +kernel
theorem dX4_cell_42 : decode cX4_cell 42 = .ok (.getfield 38, 3) := by decide +kernel
theorem dX4_cell_45 : decode cX4_cell 45 = .ok (.ifCond .ne 17, 3) := by decide +kernel
theorem dX4_cell_48 : decode cX4_cell 48 = .ok (.aload 4, 2) := by decide +kernel
theorem dX4_cell_50 : decode cX4_cell 50 = .ok (.iload_n 2, 1) := by decide +kernel
theorem dX4_cell_51 : decode cX4_cell 51 = .ok (.invokevirtual 200, 3) := by decide +kernel
theorem dX4_cell_54 : decode cX4_cell 54 = .ok (.ifCond .ne 8, 3) := by decide +kernel
theorem dX4_cell_57 : decode cX4_cell 57 = .ok (.aload_n 0, 1) := by decide +kernel
theorem dX4_cell_58 : decode cX4_cell 58 = .ok (.iconst 3, 1) := by decide +kernel
theorem dX4_cell_59 : decode cX4_cell 59 = .ok (.putfield 38, 3) := by decide +kernel
theorem dX4_cell_62 : decode cX4_cell 62 = .ok (.aload_n 0, 1) := by decide +kernel
theorem dX4_cell_63 : decode cX4_cell 63 = .ok (.getfield 38, 3) := by decide +kernel
theorem dX4_cell_66 : decode cX4_cell 66 = .ok (.ifCond .ne 14, 3) := by decide +kernel
theorem dX4_cell_69 : decode cX4_cell 69 = .ok (.aload 4, 2) := by decide +kernel
theorem dX4_cell_71 : decode cX4_cell 71 = .ok (.getfield 64, 3) := by decide +kernel
theorem dX4_cell_74 : decode cX4_cell 74 = .ok (.iload_n 2, 1) := by decide +kernel
theorem dX4_cell_75 : decode cX4_cell 75 = .ok (.iaload, 1) := by decide +kernel
theorem dX4_cell_76 : decode cX4_cell 76 = .ok (.i2l, 1) := by decide +kernel
theorem dX4_cell_77 : decode cX4_cell 77 = .ok (.goto 6, 3) := by decide +kernel
theorem dX4_cell_80 : decode cX4_cell 80 = .ok (.ldc2_w 172, 3) := by decide +kernel
theorem dX4_cell_83 : decode cX4_cell 83 = .ok (.lreturn, 1) := by decide +kernel
set_option maxRecDepth 20000 in
theorem ggX4_copy_X4_isSheet : GoodIn wsX4_copy wsX4_isSheet := goodIn_r _ [10] (by decide +kernel) (by decide +kernel)
set_option maxRecDepth 20000 in
theorem gX4_copy_X4_isSheet : GoodIn wsX4_copy (va_wsS RX4 46 yX4_isSheet wsX4_isSheet) := goodIn_app (goodIn_of _ (by decide +kernel)) ggX4_copy_X4_isSheet
set_option maxRecDepth 20000 in
theorem ggX4_copy_X4_failed : GoodIn wsX4_copy wsX4_failed := goodIn_r _ [14, 1, 20, 21, 22, 23, 24, 25] (by decide +kernel) (by decide +kernel)
set_option maxRecDepth 20000 in
theorem gX4_copy_X4_failed : GoodIn wsX4_copy (wsV RX4 61 RX4 yX4_failed wsX4_failed) := goodIn_app (goodIn_of _ (by decide +kernel)) ggX4_copy_X4_failed
set_option maxRecDepth 20000 in
theorem ggX4_copy_X3_spans : GoodIn wsX4_copy wsX3_spans := goodIn_r _ [18, 19, 26, 27, 28, 29] (by decide +kernel) (by decide +kernel)
set_option maxRecDepth 20000 in
theorem gX4_copy_X3_spans_n57 : GoodIn wsX4_copy (wsX3_spans) := ggX4_copy_X3_spans
theorem dX4_copy_0 : decode cX4_copy 0 = .ok (.aload_n 0, 1) := by decide +kernel
theorem dX4_copy_1 : decode cX4_copy 1 = .ok (.iconst 0, 1) := by decide +kernel
theorem dX4_copy_2 : decode cX4_copy 2 = .ok (.putfield 38, 3) := by decide +kernel
theorem dX4_copy_5 : decode cX4_copy 5 = .ok (.iload_n 1, 1) := by decide +kernel
theorem dX4_copy_6 : decode cX4_copy 6 = .ok (.invokestatic 46, 3) := by decide +kernel
theorem dX4_copy_9 : decode cX4_copy 9 = .ok (.ifCond .eq 10, 3) := by decide +kernel
theorem dX4_copy_12 : decode cX4_copy 12 = .ok (.iload_n 3, 1) := by decide +kernel
theorem dX4_copy_13 : decode cX4_copy 13 = .ok (.invokestatic 46, 3) := by decide +kernel
theorem dX4_copy_16 : decode cX4_copy 16 = .ok (.ifCond .ne 5, 3) := by decide +kernel
theorem dX4_copy_19 : decode cX4_copy 19 = .ok (.iconst (-1), 1) := by decide +kernel
theorem dX4_copy_20 : decode cX4_copy 20 = .ok (.ireturn, 1) := by decide +kernel
theorem dX4_copy_21 : decode cX4_copy 21 = .ok (.aload_n 0, 1) := by decide +kernel
theorem dX4_copy_22 : decode cX4_copy 22 = .ok (.getfield 34, 3) := by decide +kernel
theorem dX4_copy_25 : decode cX4_copy 25 = .ok (.iload_n 1, 1) := by decide +kernel
theorem dX4_copy_26 : decode cX4_copy 26 = .ok (.aaload, 1) := by decide +kernel
theorem dX4_copy_27 : decode cX4_copy 27 = .ok (.astore 6, 2) := by decide +kernel
theorem dX4_copy_29 : decode cX4_copy 29 = .ok (.aload_n 0, 1) := by decide +kernel
theorem dX4_copy_30 : decode cX4_copy 30 = .ok (.getfield 34, 3) := by decide +kernel
theorem dX4_copy_33 : decode cX4_copy 33 = .ok (.iload_n 3, 1) := by decide +kernel
theorem dX4_copy_34 : decode cX4_copy 34 = .ok (.aaload, 1) := by decide +kernel
theorem dX4_copy_35 : decode cX4_copy 35 = .ok (.astore 7, 2) := by decide +kernel
theorem dX4_copy_37 : decode cX4_copy 37 = .ok (.aload 6, 2) := by decide +kernel
theorem dX4_copy_39 : decode cX4_copy 39 = .ok (.getfield 196, 3) := by decide +kernel
theorem dX4_copy_42 : decode cX4_copy 42 = .ok (.ifCond .eq 11, 3) := by decide +kernel
theorem dX4_copy_45 : decode cX4_copy 45 = .ok (.aload 7, 2) := by decide +kernel
theorem dX4_copy_47 : decode cX4_copy 47 = .ok (.getfield 196, 3) := by decide +kernel
theorem dX4_copy_50 : decode cX4_copy 50 = .ok (.ifCond .ne 9, 3) := by decide +kernel
theorem dX4_copy_53 : decode cX4_copy 53 = .ok (.aload_n 0, 1) := by decide +kernel
theorem dX4_copy_54 : decode cX4_copy 54 = .ok (.iconst 1, 1) := by decide +kernel
theorem dX4_copy_55 : decode cX4_copy 55 = .ok (.invokevirtual 61, 3) := by decide +kernel
theorem dX4_copy_58 : decode cX4_copy 58 = .ok (.ireturn, 1) := by decide +kernel
theorem dX4_copy_59 : decode cX4_copy 59 = .ok (.aload 6, 2) := by decide +kernel
theorem dX4_copy_61 : decode cX4_copy 61 = .ok (.getfield 206, 3) := by decide +kernel
theorem dX4_copy_64 : decode cX4_copy 64 = .ok (.aload 7, 2) := by decide +kernel
theorem dX4_copy_66 : decode cX4_copy 66 = .ok (.getfield 206, 3) := by decide +kernel
theorem dX4_copy_69 : decode cX4_copy 69 = .ok (.if_icmp .eq 9, 3) := by decide +kernel
theorem dX4_copy_72 : decode cX4_copy 72 = .ok (.aload_n 0, 1) := by decide +kernel
theorem dX4_copy_73 : decode cX4_copy 73 = .ok (.iconst 2, 1) := by decide +kernel
theorem dX4_copy_74 : decode cX4_copy 74 = .ok (.invokevirtual 61, 3) := by decide +kernel
theorem dX4_copy_77 : decode cX4_copy 77 = .ok (.ireturn, 1) := by decide +kernel
theorem dX4_copy_78 : decode cX4_copy 78 = .ok (.aload 6, 2) := by decide +kernel
theorem dX4_copy_80 : decode cX4_copy 80 = .ok (.iload_n 2, 1) := by decide +kernel
theorem dX4_copy_81 : decode cX4_copy 81 = .ok (.iload 5, 2) := by decide +kernel
theorem dX4_copy_83 : decode cX4_copy 83 = .ok (.invokevirtual 57, 3) := by decide +kernel
theorem dX4_copy_86 : decode cX4_copy 86 = .ok (.ifCond .eq 15, 3) := by decide +kernel
theorem dX4_copy_89 : decode cX4_copy 89 = .ok (.aload 7, 2) := by decide +kernel
theorem dX4_copy_91 : decode cX4_copy 91 = .ok (.iload 4, 2) := by decide +kernel
theorem dX4_copy_93 : decode cX4_copy 93 = .ok (.iload 5, 2) := by decide +kernel
theorem dX4_copy_95 : decode cX4_copy 95 = .ok (.invokevirtual 57, 3) := by decide +kernel
theorem dX4_copy_98 : decode cX4_copy 98 = .ok (.ifCond .ne 9, 3) := by decide +kernel
theorem dX4_copy_101 : decode cX4_copy 101 = .ok (.aload_n 0, 1) := by decide +kernel
theorem dX4_copy_102 : decode cX4_copy 102 = .ok (.iconst 3, 1) := by decide +kernel
theorem dX4_copy_103 : decode cX4_copy 103 = .ok (.invokevirtual 61, 3) := by decide +kernel
theorem dX4_copy_106 : decode cX4_copy 106 = .ok (.ireturn, 1) := by decide +kernel
theorem dX4_copy_107 : decode cX4_copy 107 = .ok (.aload 6, 2) := by decide +kernel
theorem dX4_copy_109 : decode cX4_copy 109 = .ok (.getfield 64, 3) := by decide +kernel
theorem dX4_copy_112 : decode cX4_copy 112 = .ok (.iload_n 2, 1) := by decide +kernel
theorem dX4_copy_113 : decode cX4_copy 113 = .ok (.aload 7, 2) := by decide +kernel
theorem dX4_copy_115 : decode cX4_copy 115 = .ok (.getfield 64, 3) := by decide +kernel
theorem dX4_copy_118 : decode cX4_copy 118 = .ok (.iload 4, 2) := by decide +kernel
theorem dX4_copy_120 : decode cX4_copy 120 = .ok (.iload 5, 2) := by decide +kernel
theorem dX4_copy_122 : decode cX4_copy 122 = .ok (.invokestatic 209, 3) := by decide +kernel
theorem dX4_copy_125 : decode cX4_copy 125 = .ok (.iload 5, 2) := by decide +kernel
theorem dX4_copy_127 : decode cX4_copy 127 = .ok (.ireturn, 1) := by decide +kernel
set_option maxRecDepth 20000 in
theorem ggX4_tell_X0_isSoft : GoodIn wsX4_tell wsX0_isSoft := goodIn_r _ [5, 6, 7, 8, 9, 3, 10, 11, 12, 13, 14, 15, 16, 41, 42, 43, 44, 45, 46, 47] (by decide +kernel) (by decide +kernel)
set_option maxRecDepth 20000 in
theorem gX4_tell_X0_isSoft_n100 : GoodIn wsX4_tell (wsX0_isSoft) := ggX4_tell_X0_isSoft
set_option maxRecDepth 20000 in
theorem ggX4_tell_X4_hollowTells : GoodIn wsX4_tell wsX4_hollowTells := goodIn_r _ [21, 22, 23, 24, 20, 25, 26, 27, 28, 29, 30, 31, 32, 33, 34, 1, 35, 36, 37, 38, 39, 40, 41, 42, 43, 44, 45, 46, 47] (by decide +kernel) (by decide +kernel)
set_option maxRecDepth 20000 in
theorem gX4_tell_X4_hollowTells : GoodIn wsX4_tell (wsV RX4 215 RX4 yX4_hollowTells wsX4_hollowTells) := goodIn_app (goodIn_of _ (by decide +kernel)) ggX4_tell_X4_hollowTells
set_option maxRecDepth 20000 in
theorem ggX4_tell_X4_springTells : GoodIn wsX4_tell wsX4_springTells := goodIn_r _ [30, 22, 23, 24, 20, 25, 26, 31, 32, 33, 34, 1, 35, 36, 37, 38, 39, 40, 41, 42, 43, 44, 45, 46, 47] (by decide +kernel) (by decide +kernel)
set_option maxRecDepth 20000 in
theorem gX4_tell_X4_springTells : GoodIn wsX4_tell (wsV RX4 218 RX4 yX4_springTells wsX4_springTells) := goodIn_app (goodIn_of _ (by decide +kernel)) ggX4_tell_X4_springTells
set_option maxRecDepth 20000 in
theorem ggX4_tell_X4_grassTells : GoodIn wsX4_tell wsX4_grassTells := goodIn_r _ [34, 1, 22, 23, 24, 20, 25, 26, 35, 36, 37, 38, 39, 40, 41, 42, 43, 44, 45, 46, 47] (by decide +kernel) (by decide +kernel)
set_option maxRecDepth 20000 in
theorem gX4_tell_X4_grassTells : GoodIn wsX4_tell (wsV RX4 221 RX4 yX4_grassTells wsX4_grassTells) := goodIn_app (goodIn_of _ (by decide +kernel)) ggX4_tell_X4_grassTells
theorem dX4_tell_0 : decode cX4_tell 0 = .ok (.aload_n 0, 1) := by decide +kernel
theorem dX4_tell_1 : decode cX4_tell 1 = .ok (.getfield 14, 3) := by decide +kernel
theorem dX4_tell_4 : decode cX4_tell 4 = .ok (.iload_n 1, 1) := by decide +kernel
theorem dX4_tell_5 : decode cX4_tell 5 = .ok (.invokevirtual 100, 3) := by decide +kernel
theorem dX4_tell_8 : decode cX4_tell 8 = .ok (.ifCond .ne 5, 3) := by decide +kernel
theorem dX4_tell_11 : decode cX4_tell 11 = .ok (.iconst (-1), 1) := by decide +kernel
theorem dX4_tell_12 : decode cX4_tell 12 = .ok (.ireturn, 1) := by decide +kernel
theorem dX4_tell_13 : decode cX4_tell 13 = .ok (.aload_n 0, 1) := by decide +kernel
theorem dX4_tell_14 : decode cX4_tell 14 = .ok (.getfield 14, 3) := by decide +kernel
theorem dX4_tell_17 : decode cX4_tell 17 = .ok (.getfield 91, 3) := by decide +kernel
theorem dX4_tell_20 : decode cX4_tell 20 = .ok (.iload_n 1, 1) := by decide +kernel
theorem dX4_tell_21 : decode cX4_tell 21 = .ok (.iaload, 1) := by decide +kernel
theorem dX4_tell_22 : decode cX4_tell 22 = .ok (.lookupswitch 38 #[(1, 32), (2, 26)], 26) := by decide +kernel
theorem dX4_tell_48 : decode cX4_tell 48 = .ok (.aload_n 0, 1) := by decide +kernel
theorem dX4_tell_49 : decode cX4_tell 49 = .ok (.iload_n 1, 1) := by decide +kernel
theorem dX4_tell_50 : decode cX4_tell 50 = .ok (.invokevirtual 215, 3) := by decide +kernel
theorem dX4_tell_53 : decode cX4_tell 53 = .ok (.ireturn, 1) := by decide +kernel
theorem dX4_tell_54 : decode cX4_tell 54 = .ok (.aload_n 0, 1) := by decide +kernel
theorem dX4_tell_55 : decode cX4_tell 55 = .ok (.iload_n 1, 1) := by decide +kernel
theorem dX4_tell_56 : decode cX4_tell 56 = .ok (.invokevirtual 218, 3) := by decide +kernel
theorem dX4_tell_59 : decode cX4_tell 59 = .ok (.ireturn, 1) := by decide +kernel
theorem dX4_tell_60 : decode cX4_tell 60 = .ok (.aload_n 0, 1) := by decide +kernel
theorem dX4_tell_61 : decode cX4_tell 61 = .ok (.iload_n 1, 1) := by decide +kernel
theorem dX4_tell_62 : decode cX4_tell 62 = .ok (.invokevirtual 221, 3) := by decide +kernel
theorem dX4_tell_65 : decode cX4_tell 65 = .ok (.ireturn, 1) := by decide +kernel
set_option maxRecDepth 20000 in
theorem ggX4_trod_X0_isSoft : GoodIn wsX4_trod wsX0_isSoft := goodIn_r _ [5, 6, 7, 8, 9, 3, 10, 11, 12, 13, 14, 15, 16, 29, 30, 31, 32, 33, 34, 35] (by decide +kernel) (by decide +kernel)
set_option maxRecDepth 20000 in
theorem gX4_trod_X0_isSoft_n100 : GoodIn wsX4_trod (wsX0_isSoft) := ggX4_trod_X0_isSoft
set_option maxRecDepth 20000 in
theorem ggX4_trod_X4_begin : GoodIn wsX4_trod wsX4_begin := goodIn_r _ [21, 22, 23, 24, 25, 26, 27, 28] (by decide +kernel) (by decide +kernel)
set_option maxRecDepth 20000 in
theorem gX4_trod_X4_begin : GoodIn wsX4_trod (wsV RX4 224 RX4 yX4_begin wsX4_begin) := goodIn_app (goodIn_of _ (by decide +kernel)) ggX4_trod_X4_begin
theorem dX4_trod_0 : decode cX4_trod 0 = .ok (.aload_n 0, 1) := by decide +kernel
theorem dX4_trod_1 : decode cX4_trod 1 = .ok (.getfield 14, 3) := by decide +kernel
theorem dX4_trod_4 : decode cX4_trod 4 = .ok (.iload_n 1, 1) := by decide +kernel
theorem dX4_trod_5 : decode cX4_trod 5 = .ok (.invokevirtual 100, 3) := by decide +kernel
theorem dX4_trod_8 : decode cX4_trod 8 = .ok (.ifCond .ne 5, 3) := by decide +kernel
theorem dX4_trod_11 : decode cX4_trod 11 = .ok (.iconst (-1), 1) := by decide +kernel
theorem dX4_trod_12 : decode cX4_trod 12 = .ok (.ireturn, 1) := by decide +kernel
theorem dX4_trod_13 : decode cX4_trod 13 = .ok (.aload_n 0, 1) := by decide +kernel
theorem dX4_trod_14 : decode cX4_trod 14 = .ok (.getfield 14, 3) := by decide +kernel
theorem dX4_trod_17 : decode cX4_trod 17 = .ok (.getfield 91, 3) := by decide +kernel
theorem dX4_trod_20 : decode cX4_trod 20 = .ok (.iload_n 1, 1) := by decide +kernel
theorem dX4_trod_21 : decode cX4_trod 21 = .ok (.iaload, 1) := by decide +kernel
theorem dX4_trod_22 : decode cX4_trod 22 = .ok (.iconst 2, 1) := by decide +kernel
theorem dX4_trod_23 : decode cX4_trod 23 = .ok (.if_icmp .ne 11, 3) := by decide +kernel
theorem dX4_trod_26 : decode cX4_trod 26 = .ok (.aload_n 0, 1) := by decide +kernel
theorem dX4_trod_27 : decode cX4_trod 27 = .ok (.iconst 5, 1) := by decide +kernel
theorem dX4_trod_28 : decode cX4_trod 28 = .ok (.invokevirtual 224, 3) := by decide +kernel
theorem dX4_trod_31 : decode cX4_trod 31 = .ok (.bipush 40, 2) := by decide +kernel
theorem dX4_trod_33 : decode cX4_trod 33 = .ok (.ireturn, 1) := by decide +kernel
theorem dX4_trod_34 : decode cX4_trod 34 = .ok (.aload_n 0, 1) := by decide +kernel
theorem dX4_trod_35 : decode cX4_trod 35 = .ok (.iconst 4, 1) := by decide +kernel
theorem dX4_trod_36 : decode cX4_trod 36 = .ok (.invokevirtual 224, 3) := by decide +kernel
theorem dX4_trod_39 : decode cX4_trod 39 = .ok (.iload_n 1, 1) := by decide +kernel
theorem dX4_trod_40 : decode cX4_trod 40 = .ok (.ireturn, 1) := by decide +kernel
set_option maxRecDepth 20000 in
theorem ggX4_as_X0_isSoft : GoodIn wsX4_as wsX0_isSoft := goodIn_r _ [6, 7, 8, 9, 10, 4, 11, 12, 13, 14, 15, 16, 17, 29, 30, 31, 32, 33, 34, 35] (by decide +kernel) (by decide +kernel)
set_option maxRecDepth 20000 in
theorem gX4_as_X0_isSoft_n100 : GoodIn wsX4_as (wsX0_isSoft) := ggX4_as_X0_isSoft
set_option maxRecDepth 20000 in
theorem ggX4_as_X4_failed : GoodIn wsX4_as wsX4_failed := goodIn_r _ [22, 1, 23, 24, 25, 26, 27, 28] (by decide +kernel) (by decide +kernel)
set_option maxRecDepth 20000 in
theorem gX4_as_X4_failed : GoodIn wsX4_as (wsV RX4 61 RX4 yX4_failed wsX4_failed) := goodIn_app (goodIn_of _ (by decide +kernel)) ggX4_as_X4_failed
theorem dX4_as_0 : decode cX4_as 0 = .ok (.aload_n 0, 1) := by decide +kernel
theorem dX4_as_1 : decode cX4_as 1 = .ok (.iconst 0, 1) := by decide +kernel
theorem dX4_as_2 : decode cX4_as 2 = .ok (.putfield 38, 3) := by decide +kernel
theorem dX4_as_5 : decode cX4_as 5 = .ok (.aload_n 0, 1) := by decide +kernel
theorem dX4_as_6 : decode cX4_as 6 = .ok (.getfield 14, 3) := by decide +kernel
theorem dX4_as_9 : decode cX4_as 9 = .ok (.iload_n 1, 1) := by decide +kernel
theorem dX4_as_10 : decode cX4_as 10 = .ok (.invokevirtual 100, 3) := by decide +kernel
theorem dX4_as_13 : decode cX4_as 13 = .ok (.ifCond .ne 5, 3) := by decide +kernel
theorem dX4_as_16 : decode cX4_as 16 = .ok (.iconst (-1), 1) := by decide +kernel
theorem dX4_as_17 : decode cX4_as 17 = .ok (.ireturn, 1) := by decide +kernel
theorem dX4_as_18 : decode cX4_as 18 = .ok (.iload_n 2, 1) := by decide +kernel
theorem dX4_as_19 : decode cX4_as 19 = .ok (.ifCond .lt 8, 3) := by decide +kernel
theorem dX4_as_22 : decode cX4_as 22 = .ok (.iload_n 2, 1) := by decide +kernel
theorem dX4_as_23 : decode cX4_as 23 = .ok (.iconst 2, 1) := by decide +kernel
theorem dX4_as_24 : decode cX4_as 24 = .ok (.if_icmp .le 6, 3) := by decide +kernel
theorem dX4_as_27 : decode cX4_as 27 = .ok (.bipush (-2), 2) := by decide +kernel
theorem dX4_as_29 : decode cX4_as 29 = .ok (.ireturn, 1) := by decide +kernel
theorem dX4_as_30 : decode cX4_as 30 = .ok (.aload_n 0, 1) := by decide +kernel
theorem dX4_as_31 : decode cX4_as 31 = .ok (.getfield 14, 3) := by decide +kernel
theorem dX4_as_34 : decode cX4_as 34 = .ok (.getfield 91, 3) := by decide +kernel
theorem dX4_as_37 : decode cX4_as 37 = .ok (.iload_n 1, 1) := by decide +kernel
theorem dX4_as_38 : decode cX4_as 38 = .ok (.iaload, 1) := by decide +kernel
theorem dX4_as_39 : decode cX4_as 39 = .ok (.iload_n 2, 1) := by decide +kernel
theorem dX4_as_40 : decode cX4_as 40 = .ok (.if_icmp .lt 7, 3) := by decide +kernel
theorem dX4_as_43 : decode cX4_as 43 = .ok (.iconst 1, 1) := by decide +kernel
theorem dX4_as_44 : decode cX4_as 44 = .ok (.goto 8, 3) := by decide +kernel
theorem dX4_as_47 : decode cX4_as 47 = .ok (.aload_n 0, 1) := by decide +kernel
theorem dX4_as_48 : decode cX4_as 48 = .ok (.iconst 2, 1) := by decide +kernel
theorem dX4_as_49 : decode cX4_as 49 = .ok (.invokevirtual 61, 3) := by decide +kernel
theorem dX4_as_52 : decode cX4_as 52 = .ok (.ireturn, 1) := by decide +kernel
theorem dX4_trace_0 : decode cX4_trace 0 = .ok (.aload_n 0, 1) := by decide +kernel
theorem dX4_trace_1 : decode cX4_trace 1 = .ok (.getfield 42, 3) := by decide +kernel
theorem dX4_trace_4 : decode cX4_trace 4 = .ok (.ireturn, 1) := by decide +kernel
theorem dX4_fault_0 : decode cX4_fault 0 = .ok (.aload_n 0, 1) := by decide +kernel
theorem dX4_fault_1 : decode cX4_fault 1 = .ok (.getfield 38, 3) := by decide +kernel
theorem dX4_fault_4 : decode cX4_fault 4 = .ok (.ireturn, 1) := by decide +kernel
set_option maxRecDepth 20000 in
theorem ggX4_many_X0_cells : GoodIn wsX4_many wsX0_cells := goodIn_r _ [6, 7, 8, 30, 31, 32, 33, 34, 35, 36] (by decide +kernel) (by decide +kernel)
set_option maxRecDepth 20000 in
theorem gX4_many_X0_cells_n143 : GoodIn wsX4_many (wsX0_cells) := ggX4_many_X0_cells
set_option maxRecDepth 20000 in
theorem ggX4_many_X0_softCells : GoodIn wsX4_many wsX0_softCells := goodIn_r _ [11, 12, 13, 3, 5, 4, 6, 7, 8, 14, 15, 16, 30, 31, 32, 33, 34, 35, 36] (by decide +kernel) (by decide +kernel)
set_option maxRecDepth 20000 in
theorem gX4_many_X0_softCells_n79 : GoodIn wsX4_many (wsX0_softCells) := ggX4_many_X0_softCells
set_option maxRecDepth 20000 in
theorem ggX4_many_J6_bitCount_0f7a4 : GoodIn wsX4_many wsJ6_bitCount_0f7a4 := goodIn_r _ [20, 21, 22, 23] (by decide +kernel) (by decide +kernel)
set_option maxRecDepth 20000 in
theorem gX4_many_J6_bitCount_0f7a4 : GoodIn wsX4_many (va_wsS RX4 83 yJ6_bitCount_0f7a4 wsJ6_bitCount_0f7a4) := goodIn_app (goodIn_of _ (by decide +kernel)) ggX4_many_J6_bitCount_0f7a4
theorem dX4_many_0 : decode cX4_many 0 = .ok (.iload_n 1, 1) := by decide +kernel
theorem dX4_many_1 : decode cX4_many 1 = .ok (.tableswitch 98 0 5 #[39, 47, 55, 63, 71, 90], 39) := by decide +kernel
theorem dX4_many_40 : decode cX4_many 40 = .ok (.aload_n 0, 1) := by decide +kernel
theorem dX4_many_41 : decode cX4_many 41 = .ok (.getfield 14, 3) := by decide +kernel
theorem dX4_many_44 : decode cX4_many 44 = .ok (.invokevirtual 143, 3) := by decide +kernel
theorem dX4_many_47 : decode cX4_many 47 = .ok (.ireturn, 1) := by decide +kernel
theorem dX4_many_48 : decode cX4_many 48 = .ok (.aload_n 0, 1) := by decide +kernel
theorem dX4_many_49 : decode cX4_many 49 = .ok (.getfield 14, 3) := by decide +kernel
theorem dX4_many_52 : decode cX4_many 52 = .ok (.getfield 228, 3) := by decide +kernel
theorem dX4_many_55 : decode cX4_many 55 = .ok (.ireturn, 1) := by decide +kernel
theorem dX4_many_56 : decode cX4_many 56 = .ok (.aload_n 0, 1) := by decide +kernel
theorem dX4_many_57 : decode cX4_many 57 = .ok (.getfield 14, 3) := by decide +kernel
theorem dX4_many_60 : decode cX4_many 60 = .ok (.getfield 110, 3) := by decide +kernel
theorem dX4_many_63 : decode cX4_many 63 = .ok (.ireturn, 1) := by decide +kernel
theorem dX4_many_64 : decode cX4_many 64 = .ok (.aload_n 0, 1) := by decide +kernel
theorem dX4_many_65 : decode cX4_many 65 = .ok (.getfield 14, 3) := by decide +kernel
theorem dX4_many_68 : decode cX4_many 68 = .ok (.getfield 113, 3) := by decide +kernel
theorem dX4_many_71 : decode cX4_many 71 = .ok (.ireturn, 1) := by decide +kernel
theorem dX4_many_72 : decode cX4_many 72 = .ok (.aload_n 0, 1) := by decide +kernel
theorem dX4_many_73 : decode cX4_many 73 = .ok (.getfield 14, 3) := by decide +kernel
theorem dX4_many_76 : decode cX4_many 76 = .ok (.invokevirtual 143, 3) := by decide +kernel
theorem dX4_many_79 : decode cX4_many 79 = .ok (.aload_n 0, 1) := by decide +kernel
theorem dX4_many_80 : decode cX4_many 80 = .ok (.getfield 14, 3) := by decide +kernel
theorem dX4_many_83 : decode cX4_many 83 = .ok (.invokevirtual 79, 3) := by decide +kernel
theorem dX4_many_86 : decode cX4_many 86 = .ok (.invokestatic 83, 3) := by decide +kernel
theorem dX4_many_89 : decode cX4_many 89 = .ok (.isub, 1) := by decide +kernel
theorem dX4_many_90 : decode cX4_many 90 = .ok (.ireturn, 1) := by decide +kernel
theorem dX4_many_91 : decode cX4_many 91 = .ok (.aload_n 0, 1) := by decide +kernel
theorem dX4_many_92 : decode cX4_many 92 = .ok (.getfield 21, 3) := by decide +kernel
theorem dX4_many_95 : decode cX4_many 95 = .ok (.getfield 76, 3) := by decide +kernel
theorem dX4_many_98 : decode cX4_many 98 = .ok (.ireturn, 1) := by decide +kernel
theorem dX4_many_99 : decode cX4_many 99 = .ok (.bipush (-2), 2) := by decide +kernel
theorem dX4_many_101 : decode cX4_many 101 = .ok (.ireturn, 1) := by decide +kernel
theorem dX4_isSheet_0 : decode cX4_isSheet 0 = .ok (.iload_n 0, 1) := by decide +kernel
theorem dX4_isSheet_1 : decode cX4_isSheet 1 = .ok (.ifCond .lt 12, 3) := by decide +kernel
theorem dX4_isSheet_4 : decode cX4_isSheet 4 = .ok (.iload_n 0, 1) := by decide +kernel
theorem dX4_isSheet_5 : decode cX4_isSheet 5 = .ok (.iconst 4, 1) := by decide +kernel
theorem dX4_isSheet_6 : decode cX4_isSheet 6 = .ok (.if_icmp .ge 7, 3) := by decide +kernel
theorem dX4_isSheet_9 : decode cX4_isSheet 9 = .ok (.iconst 1, 1) := by decide +kernel
theorem dX4_isSheet_10 : decode cX4_isSheet 10 = .ok (.goto 4, 3) := by decide +kernel
theorem dX4_isSheet_13 : decode cX4_isSheet 13 = .ok (.iconst 0, 1) := by decide +kernel
theorem dX4_isSheet_14 : decode cX4_isSheet 14 = .ok (.ireturn, 1) := by decide +kernel
theorem dX4_isLane_0 : decode cX4_isLane 0 = .ok (.iload_n 0, 1) := by decide +kernel
theorem dX4_isLane_1 : decode cX4_isLane 1 = .ok (.ifCond .lt 12, 3) := by decide +kernel
theorem dX4_isLane_4 : decode cX4_isLane 4 = .ok (.iload_n 0, 1) := by decide +kernel
theorem dX4_isLane_5 : decode cX4_isLane 5 = .ok (.iconst 2, 1) := by decide +kernel
theorem dX4_isLane_6 : decode cX4_isLane 6 = .ok (.if_icmp .gt 7, 3) := by decide +kernel
theorem dX4_isLane_9 : decode cX4_isLane 9 = .ok (.iconst 1, 1) := by decide +kernel
theorem dX4_isLane_10 : decode cX4_isLane 10 = .ok (.goto 4, 3) := by decide +kernel
theorem dX4_isLane_13 : decode cX4_isLane 13 = .ok (.iconst 0, 1) := by decide +kernel
theorem dX4_isLane_14 : decode cX4_isLane 14 = .ok (.ireturn, 1) := by decide +kernel
theorem dX4_isWeeks_0 : decode cX4_isWeeks 0 = .ok (.iload_n 0, 1) := by decide +kernel
theorem dX4_isWeeks_1 : decode cX4_isWeeks 1 = .ok (.ifCond .lt 13, 3) := by decide +kernel
theorem dX4_isWeeks_4 : decode cX4_isWeeks 4 = .ok (.iload_n 0, 1) := by decide +kernel
theorem dX4_isWeeks_5 : decode cX4_isWeeks 5 = .ok (.bipush 9, 2) := by decide +kernel
theorem dX4_isWeeks_7 : decode cX4_isWeeks 7 = .ok (.if_icmp .gt 7, 3) := by decide +kernel
theorem dX4_isWeeks_10 : decode cX4_isWeeks 10 = .ok (.iconst 1, 1) := by decide +kernel
theorem dX4_isWeeks_11 : decode cX4_isWeeks 11 = .ok (.goto 4, 3) := by decide +kernel
theorem dX4_isWeeks_14 : decode cX4_isWeeks 14 = .ok (.iconst 0, 1) := by decide +kernel
theorem dX4_isWeeks_15 : decode cX4_isWeeks 15 = .ok (.ireturn, 1) := by decide +kernel
theorem dX4_isInches_0 : decode cX4_isInches 0 = .ok (.iload_n 0, 1) := by decide +kernel
theorem dX4_isInches_1 : decode cX4_isInches 1 = .ok (.ifCond .lt 13, 3) := by decide +kernel
theorem dX4_isInches_4 : decode cX4_isInches 4 = .ok (.iload_n 0, 1) := by decide +kernel
theorem dX4_isInches_5 : decode cX4_isInches 5 = .ok (.bipush 9, 2) := by decide +kernel
theorem dX4_isInches_7 : decode cX4_isInches 7 = .ok (.if_icmp .gt 7, 3) := by decide +kernel
theorem dX4_isInches_10 : decode cX4_isInches 10 = .ok (.iconst 1, 1) := by decide +kernel
theorem dX4_isInches_11 : decode cX4_isInches 11 = .ok (.goto 4, 3) := by decide +kernel
theorem dX4_isInches_14 : decode cX4_isInches 14 = .ok (.iconst 0, 1) := by decide +kernel
theorem dX4_isInches_15 : decode cX4_isInches 15 = .ok (.ireturn, 1) := by decide +kernel
theorem dX4_areStrokes_0 : decode cX4_areStrokes 0 = .ok (.iload_n 1, 1) := by decide +kernel
theorem dX4_areStrokes_1 : decode cX4_areStrokes 1 = .ok (.istore_n 3, 1) := by decide +kernel
theorem dX4_areStrokes_2 : decode cX4_areStrokes 2 = .ok (.iload_n 3, 1) := by decide +kernel
theorem dX4_areStrokes_3 : decode cX4_areStrokes 3 = .ok (.iload_n 1, 1) := by decide +kernel
theorem dX4_areStrokes_4 : decode cX4_areStrokes 4 = .ok (.iload_n 2, 1) := by decide +kernel
theorem dX4_areStrokes_5 : decode cX4_areStrokes 5 = .ok (.iadd, 1) := by decide +kernel
theorem dX4_areStrokes_6 : decode cX4_areStrokes 6 = .ok (.if_icmp .ge 24, 3) := by decide +kernel
theorem dX4_areStrokes_9 : decode cX4_areStrokes 9 = .ok (.aload_n 0, 1) := by decide +kernel
theorem dX4_areStrokes_10 : decode cX4_areStrokes 10 = .ok (.iload_n 3, 1) := by decide +kernel
theorem dX4_areStrokes_11 : decode cX4_areStrokes 11 = .ok (.iaload, 1) := by decide +kernel
theorem dX4_areStrokes_12 : decode cX4_areStrokes 12 = .ok (.ifCond .lt 10, 3) := by decide +kernel
theorem dX4_areStrokes_15 : decode cX4_areStrokes 15 = .ok (.aload_n 0, 1) := by decide +kernel
theorem dX4_areStrokes_16 : decode cX4_areStrokes 16 = .ok (.iload_n 3, 1) := by decide +kernel
theorem dX4_areStrokes_17 : decode cX4_areStrokes 17 = .ok (.iaload, 1) := by decide +kernel
theorem dX4_areStrokes_18 : decode cX4_areStrokes 18 = .ok (.iconst 4, 1) := by decide +kernel
theorem dX4_areStrokes_19 : decode cX4_areStrokes 19 = .ok (.if_icmp .lt 5, 3) := by decide +kernel
theorem dX4_areStrokes_22 : decode cX4_areStrokes 22 = .ok (.iconst 0, 1) := by decide +kernel
theorem dX4_areStrokes_23 : decode cX4_areStrokes 23 = .ok (.ireturn, 1) := by decide +kernel
theorem dX4_areStrokes_24 : decode cX4_areStrokes 24 = .ok (.iinc 3 1, 3) := by decide +kernel
theorem dX4_areStrokes_27 : decode cX4_areStrokes 27 = .ok (.goto (-25), 3) := by decide +kernel
theorem dX4_areStrokes_30 : decode cX4_areStrokes 30 = .ok (.iconst 1, 1) := by decide +kernel
theorem dX4_areStrokes_31 : decode cX4_areStrokes 31 = .ok (.ireturn, 1) := by decide +kernel
theorem dX4_failed_0 : decode cX4_failed 0 = .ok (.aload_n 0, 1) := by decide +kernel
theorem dX4_failed_1 : decode cX4_failed 1 = .ok (.iload_n 1, 1) := by decide +kernel
theorem dX4_failed_2 : decode cX4_failed 2 = .ok (.putfield 38, 3) := by decide +kernel
theorem dX4_failed_5 : decode cX4_failed 5 = .ok (.bipush (-10), 2) := by decide +kernel
theorem dX4_failed_7 : decode cX4_failed 7 = .ok (.iload_n 1, 1) := by decide +kernel
theorem dX4_failed_8 : decode cX4_failed 8 = .ok (.isub, 1) := by decide +kernel
theorem dX4_failed_9 : decode cX4_failed 9 = .ok (.ireturn, 1) := by decide +kernel
theorem dX4_bit_0 : decode cX4_bit 0 = .ok (.iconst 1, 1) := by decide +kernel
theorem dX4_bit_1 : decode cX4_bit 1 = .ok (.iload_n 0, 1) := by decide +kernel
theorem dX4_bit_2 : decode cX4_bit 2 = .ok (.ishl, 1) := by decide +kernel
theorem dX4_bit_3 : decode cX4_bit 3 = .ok (.ireturn, 1) := by decide +kernel
set_option maxRecDepth 20000 in
theorem ggX4_isIn_X4_bit : GoodIn wsX4_isIn wsX4_bit := goodIn_r _ [4] (by decide +kernel) (by decide +kernel)
set_option maxRecDepth 20000 in
theorem gX4_isIn_X4_bit : GoodIn wsX4_isIn (va_wsS RX4 169 yX4_bit wsX4_bit) := goodIn_app (goodIn_of _ (by decide +kernel)) ggX4_isIn_X4_bit
theorem dX4_isIn_0 : decode cX4_isIn 0 = .ok (.iload_n 1, 1) := by decide +kernel
theorem dX4_isIn_1 : decode cX4_isIn 1 = .ok (.ifCond .lt 16, 3) := by decide +kernel
theorem dX4_isIn_4 : decode cX4_isIn 4 = .ok (.iload_n 0, 1) := by decide +kernel
theorem dX4_isIn_5 : decode cX4_isIn 5 = .ok (.iload_n 1, 1) := by decide +kernel
theorem dX4_isIn_6 : decode cX4_isIn 6 = .ok (.invokestatic 169, 3) := by decide +kernel
theorem dX4_isIn_9 : decode cX4_isIn 9 = .ok (.iand, 1) := by decide +kernel
theorem dX4_isIn_10 : decode cX4_isIn 10 = .ok (.ifCond .eq 7, 3) := by decide +kernel
theorem dX4_isIn_13 : decode cX4_isIn 13 = .ok (.iconst 1, 1) := by decide +kernel
theorem dX4_isIn_14 : decode cX4_isIn 14 = .ok (.goto 4, 3) := by decide +kernel
theorem dX4_isIn_17 : decode cX4_isIn 17 = .ok (.iconst 0, 1) := by decide +kernel
theorem dX4_isIn_18 : decode cX4_isIn 18 = .ok (.ireturn, 1) := by decide +kernel
set_option maxRecDepth 20000 in
theorem ggX4_without_X4_bit : GoodIn wsX4_without wsX4_bit := goodIn_r _ [4] (by decide +kernel) (by decide +kernel)
set_option maxRecDepth 20000 in
theorem gX4_without_X4_bit : GoodIn wsX4_without (va_wsS RX4 169 yX4_bit wsX4_bit) := goodIn_app (goodIn_of _ (by decide +kernel)) ggX4_without_X4_bit
theorem dX4_without_0 : decode cX4_without 0 = .ok (.iload_n 0, 1) := by decide +kernel
theorem dX4_without_1 : decode cX4_without 1 = .ok (.iload_n 1, 1) := by decide +kernel
theorem dX4_without_2 : decode cX4_without 2 = .ok (.invokestatic 169, 3) := by decide +kernel
theorem dX4_without_5 : decode cX4_without 5 = .ok (.iconst (-1), 1) := by decide +kernel
theorem dX4_without_6 : decode cX4_without 6 = .ok (.ixor, 1) := by decide +kernel
theorem dX4_without_7 : decode cX4_without 7 = .ok (.iand, 1) := by decide +kernel
theorem dX4_without_8 : decode cX4_without 8 = .ok (.ireturn, 1) := by decide +kernel
set_option maxRecDepth 20000 in
theorem ggX4_firstFault_X4_fitsHead : GoodIn wsX4_firstFault wsX4_fitsHead := goodIn_r _ [4] (by decide +kernel) (by decide +kernel)
set_option maxRecDepth 20000 in
theorem gX4_firstFault_X4_fitsHead : GoodIn wsX4_firstFault (va_wsS RX4 231 yX4_fitsHead wsX4_fitsHead) := goodIn_app (goodIn_of _ (by decide +kernel)) ggX4_firstFault_X4_fitsHead
set_option maxRecDepth 20000 in
theorem ggX4_firstFault_X4_fitsRow : GoodIn wsX4_firstFault wsX4_fitsRow := goodIn_r _ [7, 8, 9, 3, 10] (by decide +kernel) (by decide +kernel)
set_option maxRecDepth 20000 in
theorem gX4_firstFault_X4_fitsRow : GoodIn wsX4_firstFault (va_wsS RX4 234 yX4_fitsRow wsX4_fitsRow) := goodIn_app (goodIn_of _ (by decide +kernel)) ggX4_firstFault_X4_fitsRow
theorem dX4_firstFault_0 : decode cX4_firstFault 0 = .ok (.iconst 0, 1) := by decide +kernel
theorem dX4_firstFault_1 : decode cX4_firstFault 1 = .ok (.istore_n 3, 1) := by decide +kernel
theorem dX4_firstFault_2 : decode cX4_firstFault 2 = .ok (.iconst 0, 1) := by decide +kernel
theorem dX4_firstFault_3 : decode cX4_firstFault 3 = .ok (.istore 4, 2) := by decide +kernel
theorem dX4_firstFault_5 : decode cX4_firstFault 5 = .ok (.iconst 0, 1) := by decide +kernel
theorem dX4_firstFault_6 : decode cX4_firstFault 6 = .ok (.istore 5, 2) := by decide +kernel
theorem dX4_firstFault_8 : decode cX4_firstFault 8 = .ok (.iconst 0, 1) := by decide +kernel
theorem dX4_firstFault_9 : decode cX4_firstFault 9 = .ok (.istore 6, 2) := by decide +kernel
theorem dX4_firstFault_11 : decode cX4_firstFault 11 = .ok (.iload 6, 2) := by decide +kernel
theorem dX4_firstFault_13 : decode cX4_firstFault 13 = .ok (.iload_n 2, 1) := by decide +kernel
theorem dX4_firstFault_14 : decode cX4_firstFault 14 = .ok (.if_icmp .ge 125, 3) := by decide +kernel
theorem dX4_firstFault_17 : decode cX4_firstFault 17 = .ok (.aload_n 0, 1) := by decide +kernel
theorem dX4_firstFault_18 : decode cX4_firstFault 18 = .ok (.iload_n 1, 1) := by decide +kernel
theorem dX4_firstFault_19 : decode cX4_firstFault 19 = .ok (.iload 6, 2) := by decide +kernel
theorem dX4_firstFault_21 : decode cX4_firstFault 21 = .ok (.iadd, 1) := by decide +kernel
theorem dX4_firstFault_22 : decode cX4_firstFault 22 = .ok (.iaload, 1) := by decide +kernel
theorem dX4_firstFault_23 : decode cX4_firstFault 23 = .ok (.istore 7, 2) := by decide +kernel
theorem dX4_firstFault_25 : decode cX4_firstFault 25 = .ok (.iload 6, 2) := by decide +kernel
theorem dX4_firstFault_27 : decode cX4_firstFault 27 = .ok (.iconst 5, 1) := by decide +kernel
theorem dX4_firstFault_28 : decode cX4_firstFault 28 = .ok (.if_icmp .ge 7, 3) := by decide +kernel
theorem dX4_firstFault_31 : decode cX4_firstFault 31 = .ok (.iconst 1, 1) := by decide +kernel
theorem dX4_firstFault_32 : decode cX4_firstFault 32 = .ok (.goto 4, 3) := by decide +kernel
theorem dX4_firstFault_35 : decode cX4_firstFault 35 = .ok (.iconst 0, 1) := by decide +kernel
theorem dX4_firstFault_36 : decode cX4_firstFault 36 = .ok (.istore 8, 2) := by decide +kernel
theorem dX4_firstFault_38 : decode cX4_firstFault 38 = .ok (.iload 8, 2) := by decide +kernel
theorem dX4_firstFault_40 : decode cX4_firstFault 40 = .ok (.ifCond .eq 16, 3) := by decide +kernel
theorem dX4_firstFault_43 : decode cX4_firstFault 43 = .ok (.iload 6, 2) := by decide +kernel
theorem dX4_firstFault_45 : decode cX4_firstFault 45 = .ok (.iload 7, 2) := by decide +kernel
theorem dX4_firstFault_47 : decode cX4_firstFault 47 = .ok (.invokestatic 231, 3) := by decide +kernel
theorem dX4_firstFault_50 : decode cX4_firstFault 50 = .ok (.ifCond .ne 23, 3) := by decide +kernel
theorem dX4_firstFault_53 : decode cX4_firstFault 53 = .ok (.goto 17, 3) := by decide +kernel
theorem dX4_firstFault_56 : decode cX4_firstFault 56 = .ok (.iload_n 3, 1) := by decide +kernel
theorem dX4_firstFault_57 : decode cX4_firstFault 57 = .ok (.ifCond .eq 13, 3) := by decide +kernel
theorem dX4_firstFault_60 : decode cX4_firstFault 60 = .ok (.iload 5, 2) := by decide +kernel
theorem dX4_firstFault_62 : decode cX4_firstFault 62 = .ok (.iload 7, 2) := by decide +kernel
theorem dX4_firstFault_64 : decode cX4_firstFault 64 = .ok (.invokestatic 234, 3) := by decide +kernel
theorem dX4_firstFault_67 : decode cX4_firstFault 67 = .ok (.ifCond .ne 6, 3) := by decide +kernel
theorem dX4_firstFault_70 : decode cX4_firstFault 70 = .ok (.iload 6, 2) := by decide +kernel
theorem dX4_firstFault_72 : decode cX4_firstFault 72 = .ok (.ireturn, 1) := by decide +kernel
theorem dX4_firstFault_73 : decode cX4_firstFault 73 = .ok (.iload 6, 2) := by decide +kernel
theorem dX4_firstFault_75 : decode cX4_firstFault 75 = .ok (.iconst 1, 1) := by decide +kernel
theorem dX4_firstFault_76 : decode cX4_firstFault 76 = .ok (.if_icmp .ne 12, 3) := by decide +kernel
theorem dX4_firstFault_79 : decode cX4_firstFault 79 = .ok (.iload 7, 2) := by decide +kernel
theorem dX4_firstFault_81 : decode cX4_firstFault 81 = .ok (.bipush 48, 2) := by decide +kernel
theorem dX4_firstFault_83 : decode cX4_firstFault 83 = .ok (.isub, 1) := by decide +kernel
theorem dX4_firstFault_84 : decode cX4_firstFault 84 = .ok (.istore_n 3, 1) := by decide +kernel
theorem dX4_firstFault_85 : decode cX4_firstFault 85 = .ok (.goto 48, 3) := by decide +kernel
theorem dX4_firstFault_88 : decode cX4_firstFault 88 = .ok (.iload 6, 2) := by decide +kernel
theorem dX4_firstFault_90 : decode cX4_firstFault 90 = .ok (.iconst 2, 1) := by decide +kernel
theorem dX4_firstFault_91 : decode cX4_firstFault 91 = .ok (.if_icmp .ne 13, 3) := by decide +kernel
theorem dX4_firstFault_94 : decode cX4_firstFault 94 = .ok (.iload 7, 2) := by decide +kernel
theorem dX4_firstFault_96 : decode cX4_firstFault 96 = .ok (.bipush 48, 2) := by decide +kernel
theorem dX4_firstFault_98 : decode cX4_firstFault 98 = .ok (.isub, 1) := by decide +kernel
theorem dX4_firstFault_99 : decode cX4_firstFault 99 = .ok (.istore 4, 2) := by decide +kernel
theorem dX4_firstFault_101 : decode cX4_firstFault 101 = .ok (.goto 32, 3) := by decide +kernel
theorem dX4_firstFault_104 : decode cX4_firstFault 104 = .ok (.iload 8, 2) := by decide +kernel
theorem dX4_firstFault_106 : decode cX4_firstFault 106 = .ok (.ifCond .ne 16, 3) := by decide +kernel
theorem dX4_firstFault_109 : decode cX4_firstFault 109 = .ok (.iload 5, 2) := by decide +kernel
theorem dX4_firstFault_111 : decode cX4_firstFault 111 = .ok (.iload 4, 2) := by decide +kernel
theorem dX4_firstFault_113 : decode cX4_firstFault 113 = .ok (.if_icmp .ge 9, 3) := by decide +kernel
theorem dX4_firstFault_116 : decode cX4_firstFault 116 = .ok (.iinc 5 1, 3) := by decide +kernel
theorem dX4_firstFault_119 : decode cX4_firstFault 119 = .ok (.goto 14, 3) := by decide +kernel
theorem dX4_firstFault_122 : decode cX4_firstFault 122 = .ok (.iload 8, 2) := by decide +kernel
theorem dX4_firstFault_124 : decode cX4_firstFault 124 = .ok (.ifCond .ne 9, 3) := by decide +kernel
theorem dX4_firstFault_127 : decode cX4_firstFault 127 = .ok (.iconst 0, 1) := by decide +kernel
theorem dX4_firstFault_128 : decode cX4_firstFault 128 = .ok (.istore 5, 2) := by decide +kernel
theorem dX4_firstFault_130 : decode cX4_firstFault 130 = .ok (.iinc 3 (-1), 3) := by decide +kernel
theorem dX4_firstFault_133 : decode cX4_firstFault 133 = .ok (.iinc 6 1, 3) := by decide +kernel
theorem dX4_firstFault_136 : decode cX4_firstFault 136 = .ok (.goto (-125), 3) := by decide +kernel
theorem dX4_firstFault_139 : decode cX4_firstFault 139 = .ok (.iload_n 2, 1) := by decide +kernel
theorem dX4_firstFault_140 : decode cX4_firstFault 140 = .ok (.iconst 5, 1) := by decide +kernel
theorem dX4_firstFault_141 : decode cX4_firstFault 141 = .ok (.if_icmp .lt 7, 3) := by decide +kernel
theorem dX4_firstFault_144 : decode cX4_firstFault 144 = .ok (.iload_n 3, 1) := by decide +kernel
theorem dX4_firstFault_145 : decode cX4_firstFault 145 = .ok (.ifCond .le 7, 3) := by decide +kernel
theorem dX4_firstFault_148 : decode cX4_firstFault 148 = .ok (.iload_n 2, 1) := by decide +kernel
theorem dX4_firstFault_149 : decode cX4_firstFault 149 = .ok (.goto 5, 3) := by decide +kernel
theorem dX4_firstFault_152 : decode cX4_firstFault 152 = .ok (.bipush (-9), 2) := by decide +kernel
theorem dX4_firstFault_154 : decode cX4_firstFault 154 = .ok (.ireturn, 1) := by decide +kernel
theorem dX4_fitsHead_0 : decode cX4_fitsHead 0 = .ok (.iload_n 0, 1) := by decide +kernel
theorem dX4_fitsHead_1 : decode cX4_fitsHead 1 = .ok (.tableswitch 97 0 3 #[31, 43, 61, 79], 31) := by decide +kernel
theorem dX4_fitsHead_32 : decode cX4_fitsHead 32 = .ok (.iload_n 1, 1) := by decide +kernel
theorem dX4_fitsHead_33 : decode cX4_fitsHead 33 = .ok (.bipush 104, 2) := by decide +kernel
theorem dX4_fitsHead_35 : decode cX4_fitsHead 35 = .ok (.if_icmp .ne 7, 3) := by decide +kernel
theorem dX4_fitsHead_38 : decode cX4_fitsHead 38 = .ok (.iconst 1, 1) := by decide +kernel
theorem dX4_fitsHead_39 : decode cX4_fitsHead 39 = .ok (.goto 4, 3) := by decide +kernel
theorem dX4_fitsHead_42 : decode cX4_fitsHead 42 = .ok (.iconst 0, 1) := by decide +kernel
theorem dX4_fitsHead_43 : decode cX4_fitsHead 43 = .ok (.ireturn, 1) := by decide +kernel
theorem dX4_fitsHead_44 : decode cX4_fitsHead 44 = .ok (.iload_n 1, 1) := by decide +kernel
theorem dX4_fitsHead_45 : decode cX4_fitsHead 45 = .ok (.bipush 49, 2) := by decide +kernel
theorem dX4_fitsHead_47 : decode cX4_fitsHead 47 = .ok (.if_icmp .lt 13, 3) := by decide +kernel
theorem dX4_fitsHead_50 : decode cX4_fitsHead 50 = .ok (.iload_n 1, 1) := by decide +kernel
theorem dX4_fitsHead_51 : decode cX4_fitsHead 51 = .ok (.bipush 52, 2) := by decide +kernel
theorem dX4_fitsHead_53 : decode cX4_fitsHead 53 = .ok (.if_icmp .gt 7, 3) := by decide +kernel
theorem dX4_fitsHead_56 : decode cX4_fitsHead 56 = .ok (.iconst 1, 1) := by decide +kernel
theorem dX4_fitsHead_57 : decode cX4_fitsHead 57 = .ok (.goto 4, 3) := by decide +kernel
theorem dX4_fitsHead_60 : decode cX4_fitsHead 60 = .ok (.iconst 0, 1) := by decide +kernel
theorem dX4_fitsHead_61 : decode cX4_fitsHead 61 = .ok (.ireturn, 1) := by decide +kernel
theorem dX4_fitsHead_62 : decode cX4_fitsHead 62 = .ok (.iload_n 1, 1) := by decide +kernel
theorem dX4_fitsHead_63 : decode cX4_fitsHead 63 = .ok (.bipush 50, 2) := by decide +kernel
theorem dX4_fitsHead_65 : decode cX4_fitsHead 65 = .ok (.if_icmp .lt 13, 3) := by decide +kernel
theorem dX4_fitsHead_68 : decode cX4_fitsHead 68 = .ok (.iload_n 1, 1) := by decide +kernel
theorem dX4_fitsHead_69 : decode cX4_fitsHead 69 = .ok (.bipush 52, 2) := by decide +kernel
theorem dX4_fitsHead_71 : decode cX4_fitsHead 71 = .ok (.if_icmp .gt 7, 3) := by decide +kernel
theorem dX4_fitsHead_74 : decode cX4_fitsHead 74 = .ok (.iconst 1, 1) := by decide +kernel
theorem dX4_fitsHead_75 : decode cX4_fitsHead 75 = .ok (.goto 4, 3) := by decide +kernel
theorem dX4_fitsHead_78 : decode cX4_fitsHead 78 = .ok (.iconst 0, 1) := by decide +kernel
theorem dX4_fitsHead_79 : decode cX4_fitsHead 79 = .ok (.ireturn, 1) := by decide +kernel
theorem dX4_fitsHead_80 : decode cX4_fitsHead 80 = .ok (.iload_n 1, 1) := by decide +kernel
theorem dX4_fitsHead_81 : decode cX4_fitsHead 81 = .ok (.bipush 49, 2) := by decide +kernel
theorem dX4_fitsHead_83 : decode cX4_fitsHead 83 = .ok (.if_icmp .lt 13, 3) := by decide +kernel
theorem dX4_fitsHead_86 : decode cX4_fitsHead 86 = .ok (.iload_n 1, 1) := by decide +kernel
theorem dX4_fitsHead_87 : decode cX4_fitsHead 87 = .ok (.bipush 51, 2) := by decide +kernel
theorem dX4_fitsHead_89 : decode cX4_fitsHead 89 = .ok (.if_icmp .gt 7, 3) := by decide +kernel
theorem dX4_fitsHead_92 : decode cX4_fitsHead 92 = .ok (.iconst 1, 1) := by decide +kernel
theorem dX4_fitsHead_93 : decode cX4_fitsHead 93 = .ok (.goto 4, 3) := by decide +kernel
theorem dX4_fitsHead_96 : decode cX4_fitsHead 96 = .ok (.iconst 0, 1) := by decide +kernel
theorem dX4_fitsHead_97 : decode cX4_fitsHead 97 = .ok (.ireturn, 1) := by decide +kernel
theorem dX4_fitsHead_98 : decode cX4_fitsHead 98 = .ok (.iload_n 1, 1) := by decide +kernel
theorem dX4_fitsHead_99 : decode cX4_fitsHead 99 = .ok (.bipush 49, 2) := by decide +kernel
theorem dX4_fitsHead_101 : decode cX4_fitsHead 101 = .ok (.if_icmp .lt 13, 3) := by decide +kernel
theorem dX4_fitsHead_104 : decode cX4_fitsHead 104 = .ok (.iload_n 1, 1) := by decide +kernel
theorem dX4_fitsHead_105 : decode cX4_fitsHead 105 = .ok (.bipush 57, 2) := by decide +kernel
theorem dX4_fitsHead_107 : decode cX4_fitsHead 107 = .ok (.if_icmp .gt 7, 3) := by decide +kernel
theorem dX4_fitsHead_110 : decode cX4_fitsHead 110 = .ok (.iconst 1, 1) := by decide +kernel
theorem dX4_fitsHead_111 : decode cX4_fitsHead 111 = .ok (.goto 4, 3) := by decide +kernel
theorem dX4_fitsHead_114 : decode cX4_fitsHead 114 = .ok (.iconst 0, 1) := by decide +kernel
theorem dX4_fitsHead_115 : decode cX4_fitsHead 115 = .ok (.ireturn, 1) := by decide +kernel
set_option maxRecDepth 20000 in
theorem ggX4_fitsRow_X4_kindOf : GoodIn wsX4_fitsRow wsX4_kindOf := goodIn_r _ [4] (by decide +kernel) (by decide +kernel)
set_option maxRecDepth 20000 in
theorem gX4_fitsRow_X4_kindOf : GoodIn wsX4_fitsRow (va_wsS RX4 237 yX4_kindOf wsX4_kindOf) := goodIn_app (goodIn_of _ (by decide +kernel)) ggX4_fitsRow_X4_kindOf
theorem dX4_fitsRow_0 : decode cX4_fitsRow 0 = .ok (.iload_n 0, 1) := by decide +kernel
theorem dX4_fitsRow_1 : decode cX4_fitsRow 1 = .ok (.ifCond .ne 17, 3) := by decide +kernel
theorem dX4_fitsRow_4 : decode cX4_fitsRow 4 = .ok (.iload_n 1, 1) := by decide +kernel
theorem dX4_fitsRow_5 : decode cX4_fitsRow 5 = .ok (.bipush 59, 2) := by decide +kernel
theorem dX4_fitsRow_7 : decode cX4_fitsRow 7 = .ok (.if_icmp .ne 7, 3) := by decide +kernel
theorem dX4_fitsRow_10 : decode cX4_fitsRow 10 = .ok (.iconst 1, 1) := by decide +kernel
theorem dX4_fitsRow_11 : decode cX4_fitsRow 11 = .ok (.goto 21, 3) := by decide +kernel
theorem dX4_fitsRow_14 : decode cX4_fitsRow 14 = .ok (.iconst 0, 1) := by decide +kernel
theorem dX4_fitsRow_15 : decode cX4_fitsRow 15 = .ok (.goto 17, 3) := by decide +kernel
theorem dX4_fitsRow_18 : decode cX4_fitsRow 18 = .ok (.iload_n 1, 1) := by decide +kernel
theorem dX4_fitsRow_19 : decode cX4_fitsRow 19 = .ok (.invokestatic 237, 3) := by decide +kernel
theorem dX4_fitsRow_22 : decode cX4_fitsRow 22 = .ok (.bipush (-9), 2) := by decide +kernel
theorem dX4_fitsRow_24 : decode cX4_fitsRow 24 = .ok (.if_icmp .eq 7, 3) := by decide +kernel
theorem dX4_fitsRow_27 : decode cX4_fitsRow 27 = .ok (.iconst 1, 1) := by decide +kernel
theorem dX4_fitsRow_28 : decode cX4_fitsRow 28 = .ok (.goto 4, 3) := by decide +kernel
theorem dX4_fitsRow_31 : decode cX4_fitsRow 31 = .ok (.iconst 0, 1) := by decide +kernel
theorem dX4_fitsRow_32 : decode cX4_fitsRow 32 = .ok (.ireturn, 1) := by decide +kernel
theorem dX4_kindOf_0 : decode cX4_kindOf 0 = .ok (.iload_n 0, 1) := by decide +kernel
theorem dX4_kindOf_1 : decode cX4_kindOf 1 = .ok (.lookupswitch 51 #[(35, 49), (103, 43), (111, 47), (115, 45)], 43) := by decide +kernel
theorem dX4_kindOf_44 : decode cX4_kindOf 44 = .ok (.iconst 0, 1) := by decide +kernel
theorem dX4_kindOf_45 : decode cX4_kindOf 45 = .ok (.ireturn, 1) := by decide +kernel
theorem dX4_kindOf_46 : decode cX4_kindOf 46 = .ok (.iconst 1, 1) := by decide +kernel
theorem dX4_kindOf_47 : decode cX4_kindOf 47 = .ok (.ireturn, 1) := by decide +kernel
theorem dX4_kindOf_48 : decode cX4_kindOf 48 = .ok (.iconst 2, 1) := by decide +kernel
theorem dX4_kindOf_49 : decode cX4_kindOf 49 = .ok (.ireturn, 1) := by decide +kernel
theorem dX4_kindOf_50 : decode cX4_kindOf 50 = .ok (.iconst 3, 1) := by decide +kernel
theorem dX4_kindOf_51 : decode cX4_kindOf 51 = .ok (.ireturn, 1) := by decide +kernel
theorem dX4_kindOf_52 : decode cX4_kindOf 52 = .ok (.bipush (-9), 2) := by decide +kernel
theorem dX4_kindOf_54 : decode cX4_kindOf 54 = .ok (.ireturn, 1) := by decide +kernel
set_option maxRecDepth 20000 in
theorem ggX4_followed_X0_ripeCells : GoodIn wsX4_followed wsX0_ripeCells := goodIn_r _ [5, 6, 7, 8, 3, 9, 10, 11, 12, 13, 14, 15, 16, 17, 18, 19, 20, 21, 22, 23, 24, 25, 26, 27, 28, 29, 30, 31, 32, 33, 34, 35, 36, 37, 58, 59, 60, 61, 62, 63, 64] (by decide +kernel) (by decide +kernel)
set_option maxRecDepth 20000 in
theorem gX4_followed_X0_ripeCells_n123 : GoodIn wsX4_followed (wsX0_ripeCells) := ggX4_followed_X0_ripeCells
set_option maxRecDepth 20000 in
theorem ggX4_followed_X4_without : GoodIn wsX4_followed wsX4_without := goodIn_r _ [40, 41, 35, 36, 37] (by decide +kernel) (by decide +kernel)
set_option maxRecDepth 20000 in
theorem gX4_followed_X4_without : GoodIn wsX4_followed (va_wsS RX4 174 yX4_without wsX4_without) := goodIn_app (goodIn_of _ (by decide +kernel)) ggX4_followed_X4_without
set_option maxRecDepth 20000 in
theorem ggX4_followed_X0_beside : GoodIn wsX4_followed wsX0_beside := goodIn_r _ [44, 45, 58, 59, 60, 61, 62, 63, 64] (by decide +kernel) (by decide +kernel)
set_option maxRecDepth 20000 in
theorem gX4_followed_X0_beside_n240 : GoodIn wsX4_followed (wsX0_beside) := ggX4_followed_X0_beside
set_option maxRecDepth 20000 in
theorem ggX4_followed_X4_isIn : GoodIn wsX4_followed wsX4_isIn := goodIn_r _ [48, 41, 35, 36, 37] (by decide +kernel) (by decide +kernel)
set_option maxRecDepth 20000 in
theorem gX4_followed_X4_isIn : GoodIn wsX4_followed (va_wsS RX4 146 yX4_isIn wsX4_isIn) := goodIn_app (goodIn_of _ (by decide +kernel)) ggX4_followed_X4_isIn
set_option maxRecDepth 20000 in
theorem ggX4_followed_X0_inchesOfAll : GoodIn wsX4_followed wsX0_inchesOfAll := goodIn_r _ [51, 6, 7, 8, 3, 9, 10, 11, 47, 36, 48, 41, 35, 37, 18, 19, 20, 21, 22, 23, 24, 25, 26, 27, 28, 29, 30, 31, 32, 33, 16, 34, 58, 59, 60, 61, 62, 63, 64] (by decide +kernel) (by decide +kernel)
set_option maxRecDepth 20000 in
theorem gX4_followed_X0_inchesOfAll_n243 : GoodIn wsX4_followed (wsX0_inchesOfAll) := ggX4_followed_X0_inchesOfAll
theorem dX4_followed_0 : decode cX4_followed 0 = .ok (.aload_n 0, 1) := by decide +kernel
theorem dX4_followed_1 : decode cX4_followed 1 = .ok (.getfield 14, 3) := by decide +kernel
theorem dX4_followed_4 : decode cX4_followed 4 = .ok (.iload_n 1, 1) := by decide +kernel
theorem dX4_followed_5 : decode cX4_followed 5 = .ok (.invokevirtual 123, 3) := by decide +kernel
theorem dX4_followed_8 : decode cX4_followed 8 = .ok (.istore 7, 2) := by decide +kernel
theorem dX4_followed_10 : decode cX4_followed 10 = .ok (.iload 7, 2) := by decide +kernel
theorem dX4_followed_12 : decode cX4_followed 12 = .ok (.iload_n 2, 1) := by decide +kernel
theorem dX4_followed_13 : decode cX4_followed 13 = .ok (.invokestatic 174, 3) := by decide +kernel
theorem dX4_followed_16 : decode cX4_followed 16 = .ok (.istore 8, 2) := by decide +kernel
theorem dX4_followed_18 : decode cX4_followed 18 = .ok (.iload_n 2, 1) := by decide +kernel
theorem dX4_followed_19 : decode cX4_followed 19 = .ok (.istore 9, 2) := by decide +kernel
theorem dX4_followed_21 : decode cX4_followed 21 = .ok (.bipush (-9), 2) := by decide +kernel
theorem dX4_followed_23 : decode cX4_followed 23 = .ok (.istore 10, 2) := by decide +kernel
theorem dX4_followed_25 : decode cX4_followed 25 = .ok (.iconst 0, 1) := by decide +kernel
theorem dX4_followed_26 : decode cX4_followed 26 = .ok (.istore 11, 2) := by decide +kernel
theorem dX4_followed_28 : decode cX4_followed 28 = .ok (.iload 11, 2) := by decide +kernel
theorem dX4_followed_30 : decode cX4_followed 30 = .ok (.iload 5, 2) := by decide +kernel
theorem dX4_followed_32 : decode cX4_followed 32 = .ok (.if_icmp .ge 64, 3) := by decide +kernel
theorem dX4_followed_35 : decode cX4_followed 35 = .ok (.iload 10, 2) := by decide +kernel
theorem dX4_followed_37 : decode cX4_followed 37 = .ok (.bipush (-9), 2) := by decide +kernel
theorem dX4_followed_39 : decode cX4_followed 39 = .ok (.if_icmp .ne 57, 3) := by decide +kernel
theorem dX4_followed_42 : decode cX4_followed 42 = .ok (.aload_n 0, 1) := by decide +kernel
theorem dX4_followed_43 : decode cX4_followed 43 = .ok (.getfield 14, 3) := by decide +kernel
theorem dX4_followed_46 : decode cX4_followed 46 = .ok (.iload 9, 2) := by decide +kernel
theorem dX4_followed_48 : decode cX4_followed 48 = .ok (.aload_n 3, 1) := by decide +kernel
theorem dX4_followed_49 : decode cX4_followed 49 = .ok (.iload 4, 2) := by decide +kernel
theorem dX4_followed_51 : decode cX4_followed 51 = .ok (.iload 11, 2) := by decide +kernel
theorem dX4_followed_53 : decode cX4_followed 53 = .ok (.iadd, 1) := by decide +kernel
theorem dX4_followed_54 : decode cX4_followed 54 = .ok (.iaload, 1) := by decide +kernel
theorem dX4_followed_55 : decode cX4_followed 55 = .ok (.invokevirtual 240, 3) := by decide +kernel
theorem dX4_followed_58 : decode cX4_followed 58 = .ok (.istore 12, 2) := by decide +kernel
theorem dX4_followed_60 : decode cX4_followed 60 = .ok (.iload 8, 2) := by decide +kernel
theorem dX4_followed_62 : decode cX4_followed 62 = .ok (.iload 12, 2) := by decide +kernel
theorem dX4_followed_64 : decode cX4_followed 64 = .ok (.invokestatic 146, 3) := by decide +kernel
theorem dX4_followed_67 : decode cX4_followed 67 = .ok (.ifCond .eq 19, 3) := by decide +kernel
theorem dX4_followed_70 : decode cX4_followed 70 = .ok (.iload 12, 2) := by decide +kernel
theorem dX4_followed_72 : decode cX4_followed 72 = .ok (.istore 9, 2) := by decide +kernel
theorem dX4_followed_74 : decode cX4_followed 74 = .ok (.iload 8, 2) := by decide +kernel
theorem dX4_followed_76 : decode cX4_followed 76 = .ok (.iload 12, 2) := by decide +kernel
theorem dX4_followed_78 : decode cX4_followed 78 = .ok (.invokestatic 174, 3) := by decide +kernel
theorem dX4_followed_81 : decode cX4_followed 81 = .ok (.istore 8, 2) := by decide +kernel
theorem dX4_followed_83 : decode cX4_followed 83 = .ok (.goto 7, 3) := by decide +kernel
theorem dX4_followed_86 : decode cX4_followed 86 = .ok (.iload 11, 2) := by decide +kernel
theorem dX4_followed_88 : decode cX4_followed 88 = .ok (.istore 10, 2) := by decide +kernel
theorem dX4_followed_90 : decode cX4_followed 90 = .ok (.iinc 11 1, 3) := by decide +kernel
theorem dX4_followed_93 : decode cX4_followed 93 = .ok (.goto (-65), 3) := by decide +kernel
theorem dX4_followed_96 : decode cX4_followed 96 = .ok (.iload 6, 2) := by decide +kernel
theorem dX4_followed_98 : decode cX4_followed 98 = .ok (.iconst 1, 1) := by decide +kernel
theorem dX4_followed_99 : decode cX4_followed 99 = .ok (.if_icmp .ne 6, 3) := by decide +kernel
theorem dX4_followed_102 : decode cX4_followed 102 = .ok (.iload 10, 2) := by decide +kernel
theorem dX4_followed_104 : decode cX4_followed 104 = .ok (.ireturn, 1) := by decide +kernel
theorem dX4_followed_105 : decode cX4_followed 105 = .ok (.iload 10, 2) := by decide +kernel
theorem dX4_followed_107 : decode cX4_followed 107 = .ok (.bipush (-9), 2) := by decide +kernel
theorem dX4_followed_109 : decode cX4_followed 109 = .ok (.if_icmp .eq 9, 3) := by decide +kernel
theorem dX4_followed_112 : decode cX4_followed 112 = .ok (.bipush (-100), 2) := by decide +kernel
theorem dX4_followed_114 : decode cX4_followed 114 = .ok (.iload 10, 2) := by decide +kernel
theorem dX4_followed_116 : decode cX4_followed 116 = .ok (.isub, 1) := by decide +kernel
theorem dX4_followed_117 : decode cX4_followed 117 = .ok (.ireturn, 1) := by decide +kernel
theorem dX4_followed_118 : decode cX4_followed 118 = .ok (.iload 6, 2) := by decide +kernel
theorem dX4_followed_120 : decode cX4_followed 120 = .ok (.ifCond .ne 6, 3) := by decide +kernel
theorem dX4_followed_123 : decode cX4_followed 123 = .ok (.iload 9, 2) := by decide +kernel
theorem dX4_followed_125 : decode cX4_followed 125 = .ok (.ireturn, 1) := by decide +kernel
theorem dX4_followed_126 : decode cX4_followed 126 = .ok (.iload 7, 2) := by decide +kernel
theorem dX4_followed_128 : decode cX4_followed 128 = .ok (.iload 8, 2) := by decide +kernel
theorem dX4_followed_130 : decode cX4_followed 130 = .ok (.iconst (-1), 1) := by decide +kernel
theorem dX4_followed_131 : decode cX4_followed 131 = .ok (.ixor, 1) := by decide +kernel
theorem dX4_followed_132 : decode cX4_followed 132 = .ok (.iand, 1) := by decide +kernel
theorem dX4_followed_133 : decode cX4_followed 133 = .ok (.istore 11, 2) := by decide +kernel
theorem dX4_followed_135 : decode cX4_followed 135 = .ok (.iload 6, 2) := by decide +kernel
theorem dX4_followed_137 : decode cX4_followed 137 = .ok (.iconst 2, 1) := by decide +kernel
theorem dX4_followed_138 : decode cX4_followed 138 = .ok (.if_icmp .ne 8, 3) := by decide +kernel
theorem dX4_followed_141 : decode cX4_followed 141 = .ok (.iload 11, 2) := by decide +kernel
theorem dX4_followed_143 : decode cX4_followed 143 = .ok (.goto 13, 3) := by decide +kernel
theorem dX4_followed_146 : decode cX4_followed 146 = .ok (.aload_n 0, 1) := by decide +kernel
theorem dX4_followed_147 : decode cX4_followed 147 = .ok (.getfield 14, 3) := by decide +kernel
theorem dX4_followed_150 : decode cX4_followed 150 = .ok (.iload 11, 2) := by decide +kernel
theorem dX4_followed_152 : decode cX4_followed 152 = .ok (.iload_n 1, 1) := by decide +kernel
theorem dX4_followed_153 : decode cX4_followed 153 = .ok (.invokevirtual 243, 3) := by decide +kernel
theorem dX4_followed_156 : decode cX4_followed 156 = .ok (.ireturn, 1) := by decide +kernel
set_option maxRecDepth 20000 in
theorem ggX4_mostShorn_J6_bitCount_0f7a4 : GoodIn wsX4_mostShorn wsJ6_bitCount_0f7a4 := goodIn_r _ [6, 7, 8, 9] (by decide +kernel) (by decide +kernel)
set_option maxRecDepth 20000 in
theorem gX4_mostShorn_J6_bitCount_0f7a4 : GoodIn wsX4_mostShorn (va_wsS RX4 83 yJ6_bitCount_0f7a4 wsJ6_bitCount_0f7a4) := goodIn_app (goodIn_of _ (by decide +kernel)) ggX4_mostShorn_J6_bitCount_0f7a4
set_option maxRecDepth 20000 in
theorem ggX4_mostShorn_X4_without : GoodIn wsX4_mostShorn wsX4_without := goodIn_r _ [13, 14, 15, 12, 16] (by decide +kernel) (by decide +kernel)
set_option maxRecDepth 20000 in
theorem gX4_mostShorn_X4_without : GoodIn wsX4_mostShorn (va_wsS RX4 174 yX4_without wsX4_without) := goodIn_app (goodIn_of _ (by decide +kernel)) ggX4_mostShorn_X4_without
set_option maxRecDepth 20000 in
theorem ggX4_mostShorn_X4_shear : GoodIn wsX4_mostShorn wsX4_shear := goodIn_r _ [19, 20, 21, 22, 23, 24, 25, 26, 27, 28, 29, 30, 31, 32, 33, 34, 35, 36, 37, 12, 38, 14, 15, 16, 10, 11, 13, 17, 18, 45, 46, 47, 48, 49, 50, 51, 52, 53, 54, 55] (by decide +kernel) (by decide +kernel)
set_option maxRecDepth 20000 in
theorem gX4_mostShorn_X4_shear : GoodIn wsX4_mostShorn (va_wsS RX4 252 yX4_shear wsX4_shear) := goodIn_app (goodIn_of _ (by decide +kernel)) ggX4_mostShorn_X4_shear
theorem dX4_mostShorn_0 : decode cX4_mostShorn 0 = .ok (.aload_n 0, 1) := by decide +kernel
theorem dX4_mostShorn_1 : decode cX4_mostShorn 1 = .ok (.getfield 28, 3) := by decide +kernel
theorem dX4_mostShorn_4 : decode cX4_mostShorn 4 = .ok (.iconst 0, 1) := by decide +kernel
theorem dX4_mostShorn_5 : decode cX4_mostShorn 5 = .ok (.putfield 246, 3) := by decide +kernel
theorem dX4_mostShorn_8 : decode cX4_mostShorn 8 = .ok (.aload_n 0, 1) := by decide +kernel
theorem dX4_mostShorn_9 : decode cX4_mostShorn 9 = .ok (.getfield 28, 3) := by decide +kernel
theorem dX4_mostShorn_12 : decode cX4_mostShorn 12 = .ok (.iload_n 2, 1) := by decide +kernel
theorem dX4_mostShorn_13 : decode cX4_mostShorn 13 = .ok (.invokestatic 83, 3) := by decide +kernel
theorem dX4_mostShorn_16 : decode cX4_mostShorn 16 = .ok (.putfield 249, 3) := by decide +kernel
theorem dX4_mostShorn_19 : decode cX4_mostShorn 19 = .ok (.aload_n 0, 1) := by decide +kernel
theorem dX4_mostShorn_20 : decode cX4_mostShorn 20 = .ok (.getfield 28, 3) := by decide +kernel
theorem dX4_mostShorn_23 : decode cX4_mostShorn 23 = .ok (.aload_n 0, 1) := by decide +kernel
theorem dX4_mostShorn_24 : decode cX4_mostShorn 24 = .ok (.getfield 14, 3) := by decide +kernel
theorem dX4_mostShorn_27 : decode cX4_mostShorn 27 = .ok (.iload_n 1, 1) := by decide +kernel
theorem dX4_mostShorn_28 : decode cX4_mostShorn 28 = .ok (.iload_n 2, 1) := by decide +kernel
theorem dX4_mostShorn_29 : decode cX4_mostShorn 29 = .ok (.iload_n 1, 1) := by decide +kernel
theorem dX4_mostShorn_30 : decode cX4_mostShorn 30 = .ok (.invokestatic 174, 3) := by decide +kernel
theorem dX4_mostShorn_33 : decode cX4_mostShorn 33 = .ok (.iconst 1, 1) := by decide +kernel
theorem dX4_mostShorn_34 : decode cX4_mostShorn 34 = .ok (.invokestatic 252, 3) := by decide +kernel
theorem dX4_mostShorn_37 : decode cX4_mostShorn 37 = .ok (.aload_n 0, 1) := by decide +kernel
theorem dX4_mostShorn_38 : decode cX4_mostShorn 38 = .ok (.getfield 28, 3) := by decide +kernel
theorem dX4_mostShorn_41 : decode cX4_mostShorn 41 = .ok (.getfield 246, 3) := by decide +kernel
theorem dX4_mostShorn_44 : decode cX4_mostShorn 44 = .ok (.ireturn, 1) := by decide +kernel
set_option maxRecDepth 20000 in
theorem ggX4_shear_X2_keep : GoodIn wsX4_shear wsX2_keep := goodIn_r _ [4, 5, 6, 7, 8, 9, 10, 11, 29, 30, 31, 32] (by decide +kernel) (by decide +kernel)
set_option maxRecDepth 20000 in
theorem gX4_shear_X2_keep_n256 : GoodIn wsX4_shear (wsX2_keep) := ggX4_shear_X2_keep
set_option maxRecDepth 20000 in
theorem ggX4_shear_X0_beside : GoodIn wsX4_shear wsX0_beside := goodIn_r _ [15, 16, 33, 34, 35, 36, 37, 38, 39] (by decide +kernel) (by decide +kernel)
set_option maxRecDepth 20000 in
theorem gX4_shear_X0_beside_n240 : GoodIn wsX4_shear (wsX0_beside) := ggX4_shear_X0_beside
set_option maxRecDepth 20000 in
theorem ggX4_shear_X4_isIn : GoodIn wsX4_shear wsX4_isIn := goodIn_r _ [20, 21, 22, 19, 23] (by decide +kernel) (by decide +kernel)
set_option maxRecDepth 20000 in
theorem gX4_shear_X4_isIn : GoodIn wsX4_shear (va_wsS RX4 146 yX4_isIn wsX4_isIn) := goodIn_app (goodIn_of _ (by decide +kernel)) ggX4_shear_X4_isIn
set_option maxRecDepth 20000 in
theorem ggX4_shear_X4_without : GoodIn wsX4_shear wsX4_without := goodIn_r _ [26, 21, 22, 19, 23] (by decide +kernel) (by decide +kernel)
set_option maxRecDepth 20000 in
theorem gX4_shear_X4_without : GoodIn wsX4_shear (va_wsS RX4 174 yX4_without wsX4_without) := goodIn_app (goodIn_of _ (by decide +kernel)) ggX4_shear_X4_without
set_option maxRecDepth 20000 in
theorem ggX4_shear_X4_shear : GoodIn wsX4_shear wsX4_shear := goodIn_r _ [0, 1, 2, 3, 4, 5, 6, 7, 8, 9, 10, 11, 12, 13, 14, 15, 16, 17, 18, 19, 20, 21, 22, 23, 24, 25, 26, 27, 28, 29, 30, 31, 32, 33, 34, 35, 36, 37, 38, 39] (by decide +kernel) (by decide +kernel)
set_option maxRecDepth 20000 in
theorem gX4_shear_X4_shear : GoodIn wsX4_shear (va_wsS RX4 252 yX4_shear wsX4_shear) := goodIn_app (goodIn_of _ (by decide +kernel)) ggX4_shear_X4_shear
theorem dX4_shear_0 : decode cX4_shear 0 = .ok (.iload 4, 2) := by decide +kernel
theorem dX4_shear_2 : decode cX4_shear 2 = .ok (.aload_n 0, 1) := by decide +kernel
theorem dX4_shear_3 : decode cX4_shear 3 = .ok (.getfield 246, 3) := by decide +kernel
theorem dX4_shear_6 : decode cX4_shear 6 = .ok (.if_icmp .le 9, 3) := by decide +kernel
theorem dX4_shear_9 : decode cX4_shear 9 = .ok (.aload_n 0, 1) := by decide +kernel
theorem dX4_shear_10 : decode cX4_shear 10 = .ok (.iload 4, 2) := by decide +kernel
theorem dX4_shear_12 : decode cX4_shear 12 = .ok (.invokevirtual 256, 3) := by decide +kernel
theorem dX4_shear_15 : decode cX4_shear 15 = .ok (.iload 4, 2) := by decide +kernel
theorem dX4_shear_17 : decode cX4_shear 17 = .ok (.bipush 15, 2) := by decide +kernel
theorem dX4_shear_19 : decode cX4_shear 19 = .ok (.if_icmp .le 4, 3) := by decide +kernel
theorem dX4_shear_22 : decode cX4_shear 22 = .ok (.return_, 1) := by decide +kernel
theorem dX4_shear_23 : decode cX4_shear 23 = .ok (.iconst 0, 1) := by decide +kernel
theorem dX4_shear_24 : decode cX4_shear 24 = .ok (.istore 5, 2) := by decide +kernel
theorem dX4_shear_26 : decode cX4_shear 26 = .ok (.iload 5, 2) := by decide +kernel
theorem dX4_shear_28 : decode cX4_shear 28 = .ok (.iconst 4, 1) := by decide +kernel
theorem dX4_shear_29 : decode cX4_shear 29 = .ok (.if_icmp .ge 66, 3) := by decide +kernel
theorem dX4_shear_32 : decode cX4_shear 32 = .ok (.aload_n 0, 1) := by decide +kernel
theorem dX4_shear_33 : decode cX4_shear 33 = .ok (.getfield 246, 3) := by decide +kernel
theorem dX4_shear_36 : decode cX4_shear 36 = .ok (.aload_n 0, 1) := by decide +kernel
theorem dX4_shear_37 : decode cX4_shear 37 = .ok (.getfield 249, 3) := by decide +kernel
theorem dX4_shear_40 : decode cX4_shear 40 = .ok (.if_icmp .ge 55, 3) := by decide +kernel
theorem dX4_shear_43 : decode cX4_shear 43 = .ok (.aload_n 1, 1) := by decide +kernel
theorem dX4_shear_44 : decode cX4_shear 44 = .ok (.iload_n 2, 1) := by decide +kernel
theorem dX4_shear_45 : decode cX4_shear 45 = .ok (.iload 5, 2) := by decide +kernel
theorem dX4_shear_47 : decode cX4_shear 47 = .ok (.invokevirtual 240, 3) := by decide +kernel
theorem dX4_shear_50 : decode cX4_shear 50 = .ok (.istore 6, 2) := by decide +kernel
theorem dX4_shear_52 : decode cX4_shear 52 = .ok (.iload_n 3, 1) := by decide +kernel
theorem dX4_shear_53 : decode cX4_shear 53 = .ok (.iload 6, 2) := by decide +kernel
theorem dX4_shear_55 : decode cX4_shear 55 = .ok (.invokestatic 146, 3) := by decide +kernel
theorem dX4_shear_58 : decode cX4_shear 58 = .ok (.ifCond .eq 31, 3) := by decide +kernel
theorem dX4_shear_61 : decode cX4_shear 61 = .ok (.aload_n 0, 1) := by decide +kernel
theorem dX4_shear_62 : decode cX4_shear 62 = .ok (.getfield 259, 3) := by decide +kernel
theorem dX4_shear_65 : decode cX4_shear 65 = .ok (.iload 4, 2) := by decide +kernel
theorem dX4_shear_67 : decode cX4_shear 67 = .ok (.iconst 1, 1) := by decide +kernel
theorem dX4_shear_68 : decode cX4_shear 68 = .ok (.isub, 1) := by decide +kernel
theorem dX4_shear_69 : decode cX4_shear 69 = .ok (.iload 5, 2) := by decide +kernel
theorem dX4_shear_71 : decode cX4_shear 71 = .ok (.iastore, 1) := by decide +kernel
theorem dX4_shear_72 : decode cX4_shear 72 = .ok (.aload_n 0, 1) := by decide +kernel
theorem dX4_shear_73 : decode cX4_shear 73 = .ok (.aload_n 1, 1) := by decide +kernel
theorem dX4_shear_74 : decode cX4_shear 74 = .ok (.iload 6, 2) := by decide +kernel
theorem dX4_shear_76 : decode cX4_shear 76 = .ok (.iload_n 3, 1) := by decide +kernel
theorem dX4_shear_77 : decode cX4_shear 77 = .ok (.iload 6, 2) := by decide +kernel
theorem dX4_shear_79 : decode cX4_shear 79 = .ok (.invokestatic 174, 3) := by decide +kernel
theorem dX4_shear_82 : decode cX4_shear 82 = .ok (.iload 4, 2) := by decide +kernel
theorem dX4_shear_84 : decode cX4_shear 84 = .ok (.iconst 1, 1) := by decide +kernel
theorem dX4_shear_85 : decode cX4_shear 85 = .ok (.iadd, 1) := by decide +kernel
theorem dX4_shear_86 : decode cX4_shear 86 = .ok (.invokestatic 252, 3) := by decide +kernel
theorem dX4_shear_89 : decode cX4_shear 89 = .ok (.iinc 5 1, 3) := by decide +kernel
theorem dX4_shear_92 : decode cX4_shear 92 = .ok (.goto (-66), 3) := by decide +kernel
theorem dX4_shear_95 : decode cX4_shear 95 = .ok (.return_, 1) := by decide +kernel
set_option maxRecDepth 20000 in
theorem ggX4_shearsAllSoft_X0_softCells : GoodIn wsX4_shearsAllSoft wsX0_softCells := goodIn_r _ [5, 6, 7, 8, 9, 3, 10, 11, 12, 13, 14, 15, 59, 60, 61, 62, 63, 64, 65] (by decide +kernel) (by decide +kernel)
set_option maxRecDepth 20000 in
theorem gX4_shearsAllSoft_X0_softCells_n79 : GoodIn wsX4_shearsAllSoft (wsX0_softCells) := ggX4_shearsAllSoft_X0_softCells
set_option maxRecDepth 20000 in
theorem ggX4_shearsAllSoft_X4_mostShorn : GoodIn wsX4_shearsAllSoft wsX4_mostShorn := goodIn_r _ [19, 20, 1, 21, 22, 23, 24, 25, 26, 27, 28, 29, 14, 30, 31, 13, 15, 32, 33, 34, 35, 36, 37, 38, 39, 40, 41, 42, 43, 44, 45, 46, 3, 47, 48, 49, 50, 51, 52, 53, 54, 55, 56, 57, 58, 66, 67, 68, 69, 59, 60, 61, 62, 63, 64, 65] (by decide +kernel) (by decide +kernel)
set_option maxRecDepth 20000 in
theorem gX4_shearsAllSoft_X4_mostShorn : GoodIn wsX4_shearsAllSoft (wsV RX4 137 RX4 yX4_mostShorn wsX4_mostShorn) := goodIn_app (goodIn_of _ (by decide +kernel)) ggX4_shearsAllSoft_X4_mostShorn
set_option maxRecDepth 20000 in
theorem ggX4_shearsAllSoft_J6_bitCount_0f7a4 : GoodIn wsX4_shearsAllSoft wsJ6_bitCount_0f7a4 := goodIn_r _ [24, 25, 26, 27] (by decide +kernel) (by decide +kernel)
set_option maxRecDepth 20000 in
theorem gX4_shearsAllSoft_J6_bitCount_0f7a4 : GoodIn wsX4_shearsAllSoft (va_wsS RX4 83 yJ6_bitCount_0f7a4 wsJ6_bitCount_0f7a4) := goodIn_app (goodIn_of _ (by decide +kernel)) ggX4_shearsAllSoft_J6_bitCount_0f7a4
theorem dX4_shearsAllSoft_0 : decode cX4_shearsAllSoft 0 = .ok (.aload_n 0, 1) := by decide +kernel
theorem dX4_shearsAllSoft_1 : decode cX4_shearsAllSoft 1 = .ok (.getfield 14, 3) := by decide +kernel
theorem dX4_shearsAllSoft_4 : decode cX4_shearsAllSoft 4 = .ok (.invokevirtual 79, 3) := by decide +kernel
theorem dX4_shearsAllSoft_7 : decode cX4_shearsAllSoft 7 = .ok (.istore_n 2, 1) := by decide +kernel
theorem dX4_shearsAllSoft_8 : decode cX4_shearsAllSoft 8 = .ok (.aload_n 0, 1) := by decide +kernel
theorem dX4_shearsAllSoft_9 : decode cX4_shearsAllSoft 9 = .ok (.iload_n 1, 1) := by decide +kernel
theorem dX4_shearsAllSoft_10 : decode cX4_shearsAllSoft 10 = .ok (.iload_n 2, 1) := by decide +kernel
theorem dX4_shearsAllSoft_11 : decode cX4_shearsAllSoft 11 = .ok (.invokevirtual 137, 3) := by decide +kernel
theorem dX4_shearsAllSoft_14 : decode cX4_shearsAllSoft 14 = .ok (.iload_n 2, 1) := by decide +kernel
theorem dX4_shearsAllSoft_15 : decode cX4_shearsAllSoft 15 = .ok (.invokestatic 83, 3) := by decide +kernel
theorem dX4_shearsAllSoft_18 : decode cX4_shearsAllSoft 18 = .ok (.if_icmp .ne 7, 3) := by decide +kernel
theorem dX4_shearsAllSoft_21 : decode cX4_shearsAllSoft 21 = .ok (.iconst 1, 1) := by decide +kernel
theorem dX4_shearsAllSoft_22 : decode cX4_shearsAllSoft 22 = .ok (.goto 4, 3) := by decide +kernel
theorem dX4_shearsAllSoft_25 : decode cX4_shearsAllSoft 25 = .ok (.iconst 0, 1) := by decide +kernel
theorem dX4_shearsAllSoft_26 : decode cX4_shearsAllSoft 26 = .ok (.ireturn, 1) := by decide +kernel
set_option maxRecDepth 20000 in
theorem ggX4_canBeShornWhole_X0_isAllRipe : GoodIn wsX4_canBeShornWhole wsX0_isAllRipe := goodIn_r _ [5, 6, 7, 8, 3, 9, 10, 11, 12, 13, 14, 15, 16, 17, 18, 19, 20, 21, 22, 23, 24, 25, 26, 27, 28, 29, 30, 31, 32, 33, 34, 35, 36, 37, 38, 39, 40, 41, 42, 43, 44, 45, 100, 101, 102, 103, 104, 105, 106] (by decide +kernel) (by decide +kernel)
set_option maxRecDepth 20000 in
theorem gX4_canBeShornWhole_X0_isAllRipe_n149 : GoodIn wsX4_canBeShornWhole (wsX0_isAllRipe) := ggX4_canBeShornWhole_X0_isAllRipe
set_option maxRecDepth 20000 in
theorem ggX4_canBeShornWhole_X0_cells : GoodIn wsX4_canBeShornWhole wsX0_cells := goodIn_r _ [13, 14, 15, 100, 101, 102, 103, 104, 105, 106] (by decide +kernel) (by decide +kernel)
set_option maxRecDepth 20000 in
theorem gX4_canBeShornWhole_X0_cells_n143 : GoodIn wsX4_canBeShornWhole (wsX0_cells) := ggX4_canBeShornWhole_X0_cells
set_option maxRecDepth 20000 in
theorem ggX4_canBeShornWhole_X0_isSoft : GoodIn wsX4_canBeShornWhole wsX0_isSoft := goodIn_r _ [48, 20, 49, 50, 51, 3, 52, 10, 11, 12, 13, 14, 15, 100, 101, 102, 103, 104, 105, 106] (by decide +kernel) (by decide +kernel)
set_option maxRecDepth 20000 in
theorem gX4_canBeShornWhole_X0_isSoft_n100 : GoodIn wsX4_canBeShornWhole (wsX0_isSoft) := ggX4_canBeShornWhole_X0_isSoft
set_option maxRecDepth 20000 in
theorem ggX4_canBeShornWhole_X4_shearsAllSoft : GoodIn wsX4_canBeShornWhole wsX4_shearsAllSoft := goodIn_r _ [56, 1, 43, 3, 44, 45, 20, 10, 11, 12, 13, 14, 15, 39, 40, 41, 57, 58, 59, 60, 61, 62, 63, 64, 65, 66, 67, 68, 69, 70, 71, 72, 73, 74, 75, 76, 77, 78, 79, 80, 81, 82, 83, 84, 85, 86, 87, 88, 89, 90, 91, 92, 93, 94, 95, 96, 97, 98, 99, 100, 101, 102, 103, 104, 105, 106, 107, 108, 109, 110] (by decide +kernel) (by decide +kernel)
set_option maxRecDepth 20000 in
theorem gX4_canBeShornWhole_X4_shearsAllSoft : GoodIn wsX4_canBeShornWhole (wsV RX4 152 RX4 yX4_shearsAllSoft wsX4_shearsAllSoft) := goodIn_app (goodIn_of _ (by decide +kernel)) ggX4_canBeShornWhole_X4_shearsAllSoft
theorem dX4_canBeShornWhole_0 : decode cX4_canBeShornWhole 0 = .ok (.aload_n 0, 1) := by decide +kernel
theorem dX4_canBeShornWhole_1 : decode cX4_canBeShornWhole 1 = .ok (.getfield 14, 3) := by decide +kernel
theorem dX4_canBeShornWhole_4 : decode cX4_canBeShornWhole 4 = .ok (.iload_n 1, 1) := by decide +kernel
theorem dX4_canBeShornWhole_5 : decode cX4_canBeShornWhole 5 = .ok (.invokevirtual 149, 3) := by decide +kernel
theorem dX4_canBeShornWhole_8 : decode cX4_canBeShornWhole 8 = .ok (.ifCond .ne 5, 3) := by decide +kernel
theorem dX4_canBeShornWhole_11 : decode cX4_canBeShornWhole 11 = .ok (.iconst 0, 1) := by decide +kernel
theorem dX4_canBeShornWhole_12 : decode cX4_canBeShornWhole 12 = .ok (.ireturn, 1) := by decide +kernel
theorem dX4_canBeShornWhole_13 : decode cX4_canBeShornWhole 13 = .ok (.iconst 0, 1) := by decide +kernel
theorem dX4_canBeShornWhole_14 : decode cX4_canBeShornWhole 14 = .ok (.istore_n 2, 1) := by decide +kernel
theorem dX4_canBeShornWhole_15 : decode cX4_canBeShornWhole 15 = .ok (.iload_n 2, 1) := by decide +kernel
theorem dX4_canBeShornWhole_16 : decode cX4_canBeShornWhole 16 = .ok (.aload_n 0, 1) := by decide +kernel
theorem dX4_canBeShornWhole_17 : decode cX4_canBeShornWhole 17 = .ok (.getfield 14, 3) := by decide +kernel
theorem dX4_canBeShornWhole_20 : decode cX4_canBeShornWhole 20 = .ok (.invokevirtual 143, 3) := by decide +kernel
theorem dX4_canBeShornWhole_23 : decode cX4_canBeShornWhole 23 = .ok (.if_icmp .ge 30, 3) := by decide +kernel
theorem dX4_canBeShornWhole_26 : decode cX4_canBeShornWhole 26 = .ok (.aload_n 0, 1) := by decide +kernel
theorem dX4_canBeShornWhole_27 : decode cX4_canBeShornWhole 27 = .ok (.getfield 14, 3) := by decide +kernel
theorem dX4_canBeShornWhole_30 : decode cX4_canBeShornWhole 30 = .ok (.iload_n 2, 1) := by decide +kernel
theorem dX4_canBeShornWhole_31 : decode cX4_canBeShornWhole 31 = .ok (.invokevirtual 100, 3) := by decide +kernel
theorem dX4_canBeShornWhole_34 : decode cX4_canBeShornWhole 34 = .ok (.ifCond .eq 13, 3) := by decide +kernel
theorem dX4_canBeShornWhole_37 : decode cX4_canBeShornWhole 37 = .ok (.aload_n 0, 1) := by decide +kernel
theorem dX4_canBeShornWhole_38 : decode cX4_canBeShornWhole 38 = .ok (.iload_n 2, 1) := by decide +kernel
theorem dX4_canBeShornWhole_39 : decode cX4_canBeShornWhole 39 = .ok (.invokevirtual 152, 3) := by decide +kernel
theorem dX4_canBeShornWhole_42 : decode cX4_canBeShornWhole 42 = .ok (.ifCond .eq 5, 3) := by decide +kernel
theorem dX4_canBeShornWhole_45 : decode cX4_canBeShornWhole 45 = .ok (.iconst 1, 1) := by decide +kernel
theorem dX4_canBeShornWhole_46 : decode cX4_canBeShornWhole 46 = .ok (.ireturn, 1) := by decide +kernel
theorem dX4_canBeShornWhole_47 : decode cX4_canBeShornWhole 47 = .ok (.iinc 2 1, 3) := by decide +kernel
theorem dX4_canBeShornWhole_50 : decode cX4_canBeShornWhole 50 = .ok (.goto (-35), 3) := by decide +kernel
theorem dX4_canBeShornWhole_53 : decode cX4_canBeShornWhole 53 = .ok (.iconst 0, 1) := by decide +kernel
theorem dX4_canBeShornWhole_54 : decode cX4_canBeShornWhole 54 = .ok (.ireturn, 1) := by decide +kernel
set_option maxRecDepth 20000 in
theorem ggX4_couldBeShornWhole_X4_canBeShornWhole : GoodIn wsX4_couldBeShornWhole wsX4_canBeShornWhole := goodIn_r _ [6, 1, 7, 8, 9, 10, 11, 12, 13, 14, 15, 16, 17, 18, 19, 20, 21, 22, 23, 24, 25, 26, 27, 28, 29, 30, 31, 32, 33, 34, 35, 36, 37, 38, 39, 40, 41, 42, 43, 44, 5, 45, 46, 47, 48, 49, 50, 51, 52, 53, 54, 55, 56, 57, 58, 59, 60, 61, 62, 63, 64, 65, 66, 67, 68, 69, 70, 71, 72, 73, 74, 75, 76, 77, 78, 79, 80, 81, 82, 83, 84, 85, 86, 87, 88, 89, 90, 91, 92, 93, 94, 95, 96, 97, 98, 99, 100, 101, 102, 103, 104, 105, 106, 107, 108, 109, 110, 111, 112, 113, 114] (by decide +kernel) (by decide +kernel)
set_option maxRecDepth 20000 in
theorem gX4_couldBeShornWhole_X4_canBeShornWhole : GoodIn wsX4_couldBeShornWhole (wsV RX4 155 RX4 yX4_canBeShornWhole wsX4_canBeShornWhole) := goodIn_app (goodIn_of _ (by decide +kernel)) ggX4_couldBeShornWhole_X4_canBeShornWhole
theorem dX4_couldBeShornWhole_0 : decode cX4_couldBeShornWhole 0 = .ok (.aload_n 0, 1) := by decide +kernel
theorem dX4_couldBeShornWhole_1 : decode cX4_couldBeShornWhole 1 = .ok (.getfield 14, 3) := by decide +kernel
theorem dX4_couldBeShornWhole_4 : decode cX4_couldBeShornWhole 4 = .ok (.getfield 91, 3) := by decide +kernel
theorem dX4_couldBeShornWhole_7 : decode cX4_couldBeShornWhole 7 = .ok (.iload_n 2, 1) := by decide +kernel
theorem dX4_couldBeShornWhole_8 : decode cX4_couldBeShornWhole 8 = .ok (.iconst 0, 1) := by decide +kernel
theorem dX4_couldBeShornWhole_9 : decode cX4_couldBeShornWhole 9 = .ok (.iastore, 1) := by decide +kernel
theorem dX4_couldBeShornWhole_10 : decode cX4_couldBeShornWhole 10 = .ok (.aload_n 0, 1) := by decide +kernel
theorem dX4_couldBeShornWhole_11 : decode cX4_couldBeShornWhole 11 = .ok (.iload_n 1, 1) := by decide +kernel
theorem dX4_couldBeShornWhole_12 : decode cX4_couldBeShornWhole 12 = .ok (.invokevirtual 155, 3) := by decide +kernel
theorem dX4_couldBeShornWhole_15 : decode cX4_couldBeShornWhole 15 = .ok (.istore_n 3, 1) := by decide +kernel
theorem dX4_couldBeShornWhole_16 : decode cX4_couldBeShornWhole 16 = .ok (.aload_n 0, 1) := by decide +kernel
theorem dX4_couldBeShornWhole_17 : decode cX4_couldBeShornWhole 17 = .ok (.getfield 14, 3) := by decide +kernel
theorem dX4_couldBeShornWhole_20 : decode cX4_couldBeShornWhole 20 = .ok (.getfield 91, 3) := by decide +kernel
theorem dX4_couldBeShornWhole_23 : decode cX4_couldBeShornWhole 23 = .ok (.iload_n 2, 1) := by decide +kernel
theorem dX4_couldBeShornWhole_24 : decode cX4_couldBeShornWhole 24 = .ok (.iconst 3, 1) := by decide +kernel
theorem dX4_couldBeShornWhole_25 : decode cX4_couldBeShornWhole 25 = .ok (.iastore, 1) := by decide +kernel
theorem dX4_couldBeShornWhole_26 : decode cX4_couldBeShornWhole 26 = .ok (.iload_n 3, 1) := by decide +kernel
theorem dX4_couldBeShornWhole_27 : decode cX4_couldBeShornWhole 27 = .ok (.ireturn, 1) := by decide +kernel
set_option maxRecDepth 20000 in
theorem ggX4_oddsOn_X0_beside : GoodIn wsX4_oddsOn wsX0_beside := goodIn_r _ [4, 5, 18, 19, 20, 21, 22, 23, 24] (by decide +kernel) (by decide +kernel)
set_option maxRecDepth 20000 in
theorem gX4_oddsOn_X0_beside_n240 : GoodIn wsX4_oddsOn (wsX0_beside) := ggX4_oddsOn_X0_beside
set_option maxRecDepth 20000 in
theorem ggX4_oddsOn_X4_isIn : GoodIn wsX4_oddsOn wsX4_isIn := goodIn_r _ [9, 10, 11, 8, 12] (by decide +kernel) (by decide +kernel)
set_option maxRecDepth 20000 in
theorem gX4_oddsOn_X4_isIn : GoodIn wsX4_oddsOn (va_wsS RX4 146 yX4_isIn wsX4_isIn) := goodIn_app (goodIn_of _ (by decide +kernel)) ggX4_oddsOn_X4_isIn
set_option maxRecDepth 20000 in
theorem ggX4_oddsOn_X4_without : GoodIn wsX4_oddsOn wsX4_without := goodIn_r _ [15, 10, 11, 8, 12] (by decide +kernel) (by decide +kernel)
set_option maxRecDepth 20000 in
theorem gX4_oddsOn_X4_without : GoodIn wsX4_oddsOn (va_wsS RX4 174 yX4_without wsX4_without) := goodIn_app (goodIn_of _ (by decide +kernel)) ggX4_oddsOn_X4_without
set_option maxRecDepth 20000 in
theorem ggX4_oddsOn_X4_oddsOn : GoodIn wsX4_oddsOn wsX4_oddsOn := goodIn_r _ [0, 1, 2, 3, 4, 5, 6, 7, 8, 9, 10, 11, 12, 13, 14, 15, 16, 17, 18, 19, 20, 21, 22, 23, 24] (by decide +kernel) (by decide +kernel)
set_option maxRecDepth 20000 in
theorem gX4_oddsOn_X4_oddsOn : GoodIn wsX4_oddsOn (va_wsS RX4 179 yX4_oddsOn wsX4_oddsOn) := goodIn_app (goodIn_of _ (by decide +kernel)) ggX4_oddsOn_X4_oddsOn
theorem dX4_oddsOn_0 : decode cX4_oddsOn 0 = .ok (.iload_n 2, 1) := by decide +kernel
theorem dX4_oddsOn_1 : decode cX4_oddsOn 1 = .ok (.ifCond .ne 5, 3) := by decide +kernel
theorem dX4_oddsOn_4 : decode cX4_oddsOn 4 = .ok (.lload_n 3, 1) := by decide +kernel
theorem dX4_oddsOn_5 : decode cX4_oddsOn 5 = .ok (.lreturn, 1) := by decide +kernel
theorem dX4_oddsOn_6 : decode cX4_oddsOn 6 = .ok (.iconst 0, 1) := by decide +kernel
theorem dX4_oddsOn_7 : decode cX4_oddsOn 7 = .ok (.istore 6, 2) := by decide +kernel
theorem dX4_oddsOn_9 : decode cX4_oddsOn 9 = .ok (.iconst 0, 1) := by decide +kernel
theorem dX4_oddsOn_10 : decode cX4_oddsOn 10 = .ok (.istore 7, 2) := by decide +kernel
theorem dX4_oddsOn_12 : decode cX4_oddsOn 12 = .ok (.iload 7, 2) := by decide +kernel
theorem dX4_oddsOn_14 : decode cX4_oddsOn 14 = .ok (.iconst 4, 1) := by decide +kernel
theorem dX4_oddsOn_15 : decode cX4_oddsOn 15 = .ok (.if_icmp .ge 33, 3) := by decide +kernel
theorem dX4_oddsOn_18 : decode cX4_oddsOn 18 = .ok (.iload 6, 2) := by decide +kernel
theorem dX4_oddsOn_20 : decode cX4_oddsOn 20 = .ok (.iload_n 2, 1) := by decide +kernel
theorem dX4_oddsOn_21 : decode cX4_oddsOn 21 = .ok (.aload_n 0, 1) := by decide +kernel
theorem dX4_oddsOn_22 : decode cX4_oddsOn 22 = .ok (.iload_n 1, 1) := by decide +kernel
theorem dX4_oddsOn_23 : decode cX4_oddsOn 23 = .ok (.iload 7, 2) := by decide +kernel
theorem dX4_oddsOn_25 : decode cX4_oddsOn 25 = .ok (.invokevirtual 240, 3) := by decide +kernel
theorem dX4_oddsOn_28 : decode cX4_oddsOn 28 = .ok (.invokestatic 146, 3) := by decide +kernel
theorem dX4_oddsOn_31 : decode cX4_oddsOn 31 = .ok (.ifCond .eq 7, 3) := by decide +kernel
theorem dX4_oddsOn_34 : decode cX4_oddsOn 34 = .ok (.iconst 1, 1) := by decide +kernel
theorem dX4_oddsOn_35 : decode cX4_oddsOn 35 = .ok (.goto 4, 3) := by decide +kernel
theorem dX4_oddsOn_38 : decode cX4_oddsOn 38 = .ok (.iconst 0, 1) := by decide +kernel
theorem dX4_oddsOn_39 : decode cX4_oddsOn 39 = .ok (.iadd, 1) := by decide +kernel
theorem dX4_oddsOn_40 : decode cX4_oddsOn 40 = .ok (.istore 6, 2) := by decide +kernel
theorem dX4_oddsOn_42 : decode cX4_oddsOn 42 = .ok (.iinc 7 1, 3) := by decide +kernel
theorem dX4_oddsOn_45 : decode cX4_oddsOn 45 = .ok (.goto (-33), 3) := by decide +kernel
theorem dX4_oddsOn_48 : decode cX4_oddsOn 48 = .ok (.iload 6, 2) := by decide +kernel
theorem dX4_oddsOn_50 : decode cX4_oddsOn 50 = .ok (.ifCond .eq 10, 3) := by decide +kernel
theorem dX4_oddsOn_53 : decode cX4_oddsOn 53 = .ok (.iload 5, 2) := by decide +kernel
theorem dX4_oddsOn_55 : decode cX4_oddsOn 55 = .ok (.bipush 15, 2) := by decide +kernel
theorem dX4_oddsOn_57 : decode cX4_oddsOn 57 = .ok (.if_icmp .le 5, 3) := by decide +kernel
theorem dX4_oddsOn_60 : decode cX4_oddsOn 60 = .ok (.lconst 0, 1) := by decide +kernel
theorem dX4_oddsOn_61 : decode cX4_oddsOn 61 = .ok (.lreturn, 1) := by decide +kernel
theorem dX4_oddsOn_62 : decode cX4_oddsOn 62 = .ok (.lconst 0, 1) := by decide +kernel
theorem dX4_oddsOn_63 : decode cX4_oddsOn 63 = .ok (.lstore 7, 2) := by decide +kernel
theorem dX4_oddsOn_65 : decode cX4_oddsOn 65 = .ok (.iconst 0, 1) := by decide +kernel
theorem dX4_oddsOn_66 : decode cX4_oddsOn 66 = .ok (.istore 9, 2) := by decide +kernel
theorem dX4_oddsOn_68 : decode cX4_oddsOn 68 = .ok (.iload 9, 2) := by decide +kernel
theorem dX4_oddsOn_70 : decode cX4_oddsOn 70 = .ok (.iconst 4, 1) := by decide +kernel
theorem dX4_oddsOn_71 : decode cX4_oddsOn 71 = .ok (.if_icmp .ge 53, 3) := by decide +kernel
theorem dX4_oddsOn_74 : decode cX4_oddsOn 74 = .ok (.aload_n 0, 1) := by decide +kernel
theorem dX4_oddsOn_75 : decode cX4_oddsOn 75 = .ok (.iload_n 1, 1) := by decide +kernel
theorem dX4_oddsOn_76 : decode cX4_oddsOn 76 = .ok (.iload 9, 2) := by decide +kernel
theorem dX4_oddsOn_78 : decode cX4_oddsOn 78 = .ok (.invokevirtual 240, 3) := by decide +kernel
theorem dX4_oddsOn_81 : decode cX4_oddsOn 81 = .ok (.istore 10, 2) := by decide +kernel
theorem dX4_oddsOn_83 : decode cX4_oddsOn 83 = .ok (.iload_n 2, 1) := by decide +kernel
theorem dX4_oddsOn_84 : decode cX4_oddsOn 84 = .ok (.iload 10, 2) := by decide +kernel
theorem dX4_oddsOn_86 : decode cX4_oddsOn 86 = .ok (.invokestatic 146, 3) := by decide +kernel
theorem dX4_oddsOn_89 : decode cX4_oddsOn 89 = .ok (.ifCond .eq 29, 3) := by decide +kernel
theorem dX4_oddsOn_92 : decode cX4_oddsOn 92 = .ok (.lload 7, 2) := by decide +kernel
theorem dX4_oddsOn_94 : decode cX4_oddsOn 94 = .ok (.aload_n 0, 1) := by decide +kernel
theorem dX4_oddsOn_95 : decode cX4_oddsOn 95 = .ok (.iload 10, 2) := by decide +kernel
theorem dX4_oddsOn_97 : decode cX4_oddsOn 97 = .ok (.iload_n 2, 1) := by decide +kernel
theorem dX4_oddsOn_98 : decode cX4_oddsOn 98 = .ok (.iload 10, 2) := by decide +kernel
theorem dX4_oddsOn_100 : decode cX4_oddsOn 100 = .ok (.invokestatic 174, 3) := by decide +kernel
theorem dX4_oddsOn_103 : decode cX4_oddsOn 103 = .ok (.lload_n 3, 1) := by decide +kernel
theorem dX4_oddsOn_104 : decode cX4_oddsOn 104 = .ok (.iload 6, 2) := by decide +kernel
theorem dX4_oddsOn_106 : decode cX4_oddsOn 106 = .ok (.i2l, 1) := by decide +kernel
theorem dX4_oddsOn_107 : decode cX4_oddsOn 107 = .ok (.ldiv, 1) := by decide +kernel
theorem dX4_oddsOn_108 : decode cX4_oddsOn 108 = .ok (.iload 5, 2) := by decide +kernel
theorem dX4_oddsOn_110 : decode cX4_oddsOn 110 = .ok (.iconst 1, 1) := by decide +kernel
theorem dX4_oddsOn_111 : decode cX4_oddsOn 111 = .ok (.iadd, 1) := by decide +kernel
theorem dX4_oddsOn_112 : decode cX4_oddsOn 112 = .ok (.invokestatic 179, 3) := by decide +kernel
theorem dX4_oddsOn_115 : decode cX4_oddsOn 115 = .ok (.ladd, 1) := by decide +kernel
theorem dX4_oddsOn_116 : decode cX4_oddsOn 116 = .ok (.lstore 7, 2) := by decide +kernel
theorem dX4_oddsOn_118 : decode cX4_oddsOn 118 = .ok (.iinc 9 1, 3) := by decide +kernel
theorem dX4_oddsOn_121 : decode cX4_oddsOn 121 = .ok (.goto (-53), 3) := by decide +kernel
theorem dX4_oddsOn_124 : decode cX4_oddsOn 124 = .ok (.lload 7, 2) := by decide +kernel
theorem dX4_oddsOn_126 : decode cX4_oddsOn 126 = .ok (.lreturn, 1) := by decide +kernel
theorem dX4_commonDivisor_0 : decode cX4_commonDivisor 0 = .ok (.iconst 0, 1) := by decide +kernel
theorem dX4_commonDivisor_1 : decode cX4_commonDivisor 1 = .ok (.istore 4, 2) := by decide +kernel
theorem dX4_commonDivisor_3 : decode cX4_commonDivisor 3 = .ok (.iload 4, 2) := by decide +kernel
theorem dX4_commonDivisor_5 : decode cX4_commonDivisor 5 = .ok (.sipush 1000, 3) := by decide +kernel
theorem dX4_commonDivisor_8 : decode cX4_commonDivisor 8 = .ok (.if_icmp .ge 25, 3) := by decide +kernel
theorem dX4_commonDivisor_11 : decode cX4_commonDivisor 11 = .ok (.lload_n 2, 1) := by decide +kernel
theorem dX4_commonDivisor_12 : decode cX4_commonDivisor 12 = .ok (.lconst 0, 1) := by decide +kernel
theorem dX4_commonDivisor_13 : decode cX4_commonDivisor 13 = .ok (.lcmp, 1) := by decide +kernel
theorem dX4_commonDivisor_14 : decode cX4_commonDivisor 14 = .ok (.ifCond .eq 19, 3) := by decide +kernel
theorem dX4_commonDivisor_17 : decode cX4_commonDivisor 17 = .ok (.lload_n 0, 1) := by decide +kernel
theorem dX4_commonDivisor_18 : decode cX4_commonDivisor 18 = .ok (.lload_n 2, 1) := by decide +kernel
theorem dX4_commonDivisor_19 : decode cX4_commonDivisor 19 = .ok (.lrem, 1) := by decide +kernel
theorem dX4_commonDivisor_20 : decode cX4_commonDivisor 20 = .ok (.lstore 5, 2) := by decide +kernel
theorem dX4_commonDivisor_22 : decode cX4_commonDivisor 22 = .ok (.lload_n 2, 1) := by decide +kernel
theorem dX4_commonDivisor_23 : decode cX4_commonDivisor 23 = .ok (.lstore_n 0, 1) := by decide +kernel
theorem dX4_commonDivisor_24 : decode cX4_commonDivisor 24 = .ok (.lload 5, 2) := by decide +kernel
theorem dX4_commonDivisor_26 : decode cX4_commonDivisor 26 = .ok (.lstore_n 2, 1) := by decide +kernel
theorem dX4_commonDivisor_27 : decode cX4_commonDivisor 27 = .ok (.iinc 4 1, 3) := by decide +kernel
theorem dX4_commonDivisor_30 : decode cX4_commonDivisor 30 = .ok (.goto (-27), 3) := by decide +kernel
theorem dX4_commonDivisor_33 : decode cX4_commonDivisor 33 = .ok (.lload_n 0, 1) := by decide +kernel
theorem dX4_commonDivisor_34 : decode cX4_commonDivisor 34 = .ok (.lreturn, 1) := by decide +kernel
theorem dX4_begin_0 : decode cX4_begin 0 = .ok (.aload_n 0, 1) := by decide +kernel
theorem dX4_begin_1 : decode cX4_begin 1 = .ok (.bipush 31, 2) := by decide +kernel
theorem dX4_begin_3 : decode cX4_begin 3 = .ok (.aload_n 0, 1) := by decide +kernel
theorem dX4_begin_4 : decode cX4_begin 4 = .ok (.getfield 42, 3) := by decide +kernel
theorem dX4_begin_7 : decode cX4_begin 7 = .ok (.imul, 1) := by decide +kernel
theorem dX4_begin_8 : decode cX4_begin 8 = .ok (.iload_n 1, 1) := by decide +kernel
theorem dX4_begin_9 : decode cX4_begin 9 = .ok (.iadd, 1) := by decide +kernel
theorem dX4_begin_10 : decode cX4_begin 10 = .ok (.putfield 42, 3) := by decide +kernel
theorem dX4_begin_13 : decode cX4_begin 13 = .ok (.return_, 1) := by decide +kernel
set_option maxRecDepth 20000 in
theorem ggX4_grassTells_X4_begin : GoodIn wsX4_grassTells wsX4_begin := goodIn_r _ [6, 7, 8, 9, 10, 11, 12, 13] (by decide +kernel) (by decide +kernel)
set_option maxRecDepth 20000 in
theorem gX4_grassTells_X4_begin : GoodIn wsX4_grassTells (wsV RX4 224 RX4 yX4_begin wsX4_begin) := goodIn_app (goodIn_of _ (by decide +kernel)) ggX4_grassTells_X4_begin
theorem dX4_grassTells_0 : decode cX4_grassTells 0 = .ok (.aload_n 0, 1) := by decide +kernel
theorem dX4_grassTells_1 : decode cX4_grassTells 1 = .ok (.iconst 1, 1) := by decide +kernel
theorem dX4_grassTells_2 : decode cX4_grassTells 2 = .ok (.invokevirtual 224, 3) := by decide +kernel
theorem dX4_grassTells_5 : decode cX4_grassTells 5 = .ok (.aload_n 0, 1) := by decide +kernel
theorem dX4_grassTells_6 : decode cX4_grassTells 6 = .ok (.getfield 14, 3) := by decide +kernel
theorem dX4_grassTells_9 : decode cX4_grassTells 9 = .ok (.getfield 97, 3) := by decide +kernel
theorem dX4_grassTells_12 : decode cX4_grassTells 12 = .ok (.iload_n 1, 1) := by decide +kernel
theorem dX4_grassTells_13 : decode cX4_grassTells 13 = .ok (.iaload, 1) := by decide +kernel
theorem dX4_grassTells_14 : decode cX4_grassTells 14 = .ok (.ireturn, 1) := by decide +kernel
set_option maxRecDepth 20000 in
theorem ggX4_springTells_X4_begin : GoodIn wsX4_springTells wsX4_begin := goodIn_r _ [5, 6, 12, 13, 14, 15, 16, 17] (by decide +kernel) (by decide +kernel)
set_option maxRecDepth 20000 in
theorem gX4_springTells_X4_begin : GoodIn wsX4_springTells (wsV RX4 224 RX4 yX4_begin wsX4_begin) := goodIn_app (goodIn_of _ (by decide +kernel)) ggX4_springTells_X4_begin
set_option maxRecDepth 20000 in
theorem ggX4_springTells_X4_grassTells : GoodIn wsX4_springTells wsX4_grassTells := goodIn_r _ [10, 11, 1, 2, 3, 4, 5, 6, 12, 13, 14, 15, 16, 17, 18, 19, 20, 21, 22, 23, 24] (by decide +kernel) (by decide +kernel)
set_option maxRecDepth 20000 in
theorem gX4_springTells_X4_grassTells : GoodIn wsX4_springTells (wsV RX4 221 RX4 yX4_grassTells wsX4_grassTells) := goodIn_app (goodIn_of _ (by decide +kernel)) ggX4_springTells_X4_grassTells
theorem dX4_springTells_0 : decode cX4_springTells 0 = .ok (.aload_n 0, 1) := by decide +kernel
theorem dX4_springTells_1 : decode cX4_springTells 1 = .ok (.iconst 2, 1) := by decide +kernel
theorem dX4_springTells_2 : decode cX4_springTells 2 = .ok (.invokevirtual 224, 3) := by decide +kernel
theorem dX4_springTells_5 : decode cX4_springTells 5 = .ok (.aload_n 0, 1) := by decide +kernel
theorem dX4_springTells_6 : decode cX4_springTells 6 = .ok (.iload_n 1, 1) := by decide +kernel
theorem dX4_springTells_7 : decode cX4_springTells 7 = .ok (.invokevirtual 221, 3) := by decide +kernel
theorem dX4_springTells_10 : decode cX4_springTells 10 = .ok (.bipush 100, 2) := by decide +kernel
theorem dX4_springTells_12 : decode cX4_springTells 12 = .ok (.iadd, 1) := by decide +kernel
theorem dX4_springTells_13 : decode cX4_springTells 13 = .ok (.ireturn, 1) := by decide +kernel
set_option maxRecDepth 20000 in
theorem ggX4_hollowTells_X4_begin : GoodIn wsX4_hollowTells wsX4_begin := goodIn_r _ [5, 6, 16, 17, 18, 19, 20, 21] (by decide +kernel) (by decide +kernel)
set_option maxRecDepth 20000 in
theorem gX4_hollowTells_X4_begin : GoodIn wsX4_hollowTells (wsV RX4 224 RX4 yX4_begin wsX4_begin) := goodIn_app (goodIn_of _ (by decide +kernel)) ggX4_hollowTells_X4_begin
set_option maxRecDepth 20000 in
theorem ggX4_hollowTells_X4_springTells : GoodIn wsX4_hollowTells wsX4_springTells := goodIn_r _ [10, 1, 2, 3, 4, 5, 6, 11, 12, 13, 14, 15, 16, 17, 18, 19, 20, 21, 22, 23, 24, 25, 26, 27, 28] (by decide +kernel) (by decide +kernel)
set_option maxRecDepth 20000 in
theorem gX4_hollowTells_X4_springTells : GoodIn wsX4_hollowTells (wsV RX4 218 RX4 yX4_springTells wsX4_springTells) := goodIn_app (goodIn_of _ (by decide +kernel)) ggX4_hollowTells_X4_springTells
set_option maxRecDepth 20000 in
theorem ggX4_hollowTells_X4_grassTells : GoodIn wsX4_hollowTells wsX4_grassTells := goodIn_r _ [14, 15, 1, 2, 3, 4, 5, 6, 16, 17, 18, 19, 20, 21, 22, 23, 24, 25, 26, 27, 28] (by decide +kernel) (by decide +kernel)
set_option maxRecDepth 20000 in
theorem gX4_hollowTells_X4_grassTells : GoodIn wsX4_hollowTells (wsV RX4 221 RX4 yX4_grassTells wsX4_grassTells) := goodIn_app (goodIn_of _ (by decide +kernel)) ggX4_hollowTells_X4_grassTells
theorem dX4_hollowTells_0 : decode cX4_hollowTells 0 = .ok (.aload_n 0, 1) := by decide +kernel
theorem dX4_hollowTells_1 : decode cX4_hollowTells 1 = .ok (.iconst 3, 1) := by decide +kernel
theorem dX4_hollowTells_2 : decode cX4_hollowTells 2 = .ok (.invokevirtual 224, 3) := by decide +kernel
theorem dX4_hollowTells_5 : decode cX4_hollowTells 5 = .ok (.aload_n 0, 1) := by decide +kernel
theorem dX4_hollowTells_6 : decode cX4_hollowTells 6 = .ok (.iload_n 1, 1) := by decide +kernel
theorem dX4_hollowTells_7 : decode cX4_hollowTells 7 = .ok (.invokevirtual 218, 3) := by decide +kernel
theorem dX4_hollowTells_10 : decode cX4_hollowTells 10 = .ok (.istore_n 2, 1) := by decide +kernel
theorem dX4_hollowTells_11 : decode cX4_hollowTells 11 = .ok (.iload_n 2, 1) := by decide +kernel
theorem dX4_hollowTells_12 : decode cX4_hollowTells 12 = .ok (.aload_n 0, 1) := by decide +kernel
theorem dX4_hollowTells_13 : decode cX4_hollowTells 13 = .ok (.iload_n 1, 1) := by decide +kernel
theorem dX4_hollowTells_14 : decode cX4_hollowTells 14 = .ok (.invokevirtual 221, 3) := by decide +kernel
theorem dX4_hollowTells_17 : decode cX4_hollowTells 17 = .ok (.iadd, 1) := by decide +kernel
theorem dX4_hollowTells_18 : decode cX4_hollowTells 18 = .ok (.ireturn, 1) := by decide +kernel
end
section
theorem dX5_init_0 : decode cX5_init 0 = .ok (.aload_n 0, 1) := by decide +kernel
theorem dX5_init_1 : decode cX5_init 1 = .ok (.invokespecial 1, 3) := by decide +kernel
theorem dX5_init_4 : decode cX5_init 4 = .ok (.aload_n 0, 1) := by decide +kernel
theorem dX5_init_5 : decode cX5_init 5 = .ok (.bipush 16, 2) := by decide +kernel
theorem dX5_init_7 : decode cX5_init 7 = .ok (.newarray .int, 2) := by decide +kernel
theorem dX5_init_9 : decode cX5_init 9 = .ok (.putfield 7, 3) := by decide +kernel
theorem dX5_init_12 : decode cX5_init 12 = .ok (.aload_n 0, 1) := by decide +kernel
theorem dX5_init_13 : decode cX5_init 13 = .ok (.bipush 16, 2) := by decide +kernel
theorem dX5_init_15 : decode cX5_init 15 = .ok (.newarray .int, 2) := by decide +kernel
theorem dX5_init_17 : decode cX5_init 17 = .ok (.putfield 13, 3) := by decide +kernel
theorem dX5_init_20 : decode cX5_init 20 = .ok (.aload_n 0, 1) := by decide +kernel
theorem dX5_init_21 : decode cX5_init 21 = .ok (.bipush 16, 2) := by decide +kernel
theorem dX5_init_23 : decode cX5_init 23 = .ok (.newarray .int, 2) := by decide +kernel
theorem dX5_init_25 : decode cX5_init 25 = .ok (.putfield 16, 3) := by decide +kernel
theorem dX5_init_28 : decode cX5_init 28 = .ok (.aload_n 0, 1) := by decide +kernel
theorem dX5_init_29 : decode cX5_init 29 = .ok (.bipush 17, 2) := by decide +kernel
theorem dX5_init_31 : decode cX5_init 31 = .ok (.newarray .int, 2) := by decide +kernel
theorem dX5_init_33 : decode cX5_init 33 = .ok (.putfield 19, 3) := by decide +kernel
theorem dX5_init_36 : decode cX5_init 36 = .ok (.aload_n 0, 1) := by decide +kernel
theorem dX5_init_37 : decode cX5_init 37 = .ok (.bipush 17, 2) := by decide +kernel
theorem dX5_init_39 : decode cX5_init 39 = .ok (.newarray .int, 2) := by decide +kernel
theorem dX5_init_41 : decode cX5_init 41 = .ok (.putfield 22, 3) := by decide +kernel
theorem dX5_init_44 : decode cX5_init 44 = .ok (.aload_n 0, 1) := by decide +kernel
theorem dX5_init_45 : decode cX5_init 45 = .ok (.bipush 16, 2) := by decide +kernel
theorem dX5_init_47 : decode cX5_init 47 = .ok (.newarray .int, 2) := by decide +kernel
theorem dX5_init_49 : decode cX5_init 49 = .ok (.putfield 25, 3) := by decide +kernel
theorem dX5_init_52 : decode cX5_init 52 = .ok (.aload_n 0, 1) := by decide +kernel
theorem dX5_init_53 : decode cX5_init 53 = .ok (.bipush 8, 2) := by decide +kernel
theorem dX5_init_55 : decode cX5_init 55 = .ok (.newarray .int, 2) := by decide +kernel
theorem dX5_init_57 : decode cX5_init 57 = .ok (.putfield 28, 3) := by decide +kernel
theorem dX5_init_60 : decode cX5_init 60 = .ok (.aload_n 0, 1) := by decide +kernel
theorem dX5_init_61 : decode cX5_init 61 = .ok (.bipush 8, 2) := by decide +kernel
theorem dX5_init_63 : decode cX5_init 63 = .ok (.newarray .int, 2) := by decide +kernel
theorem dX5_init_65 : decode cX5_init 65 = .ok (.putfield 31, 3) := by decide +kernel
theorem dX5_init_68 : decode cX5_init 68 = .ok (.aload_n 0, 1) := by decide +kernel
theorem dX5_init_69 : decode cX5_init 69 = .ok (.bipush 8, 2) := by decide +kernel
theorem dX5_init_71 : decode cX5_init 71 = .ok (.newarray .int, 2) := by decide +kernel
theorem dX5_init_73 : decode cX5_init 73 = .ok (.putfield 34, 3) := by decide +kernel
theorem dX5_init_76 : decode cX5_init 76 = .ok (.aload_n 0, 1) := by decide +kernel
theorem dX5_init_77 : decode cX5_init 77 = .ok (.bipush 17, 2) := by decide +kernel
theorem dX5_init_79 : decode cX5_init 79 = .ok (.newarray .long, 2) := by decide +kernel
theorem dX5_init_81 : decode cX5_init 81 = .ok (.putfield 37, 3) := by decide +kernel
theorem dX5_init_84 : decode cX5_init 84 = .ok (.aload_n 0, 1) := by decide +kernel
theorem dX5_init_85 : decode cX5_init 85 = .ok (.iconst 4, 1) := by decide +kernel
theorem dX5_init_86 : decode cX5_init 86 = .ok (.newarray .int, 2) := by decide +kernel
theorem dX5_init_88 : decode cX5_init 88 = .ok (.putfield 41, 3) := by decide +kernel
theorem dX5_init_91 : decode cX5_init 91 = .ok (.aload_n 0, 1) := by decide +kernel
theorem dX5_init_92 : decode cX5_init 92 = .ok (.iconst 4, 1) := by decide +kernel
theorem dX5_init_93 : decode cX5_init 93 = .ok (.newarray .int, 2) := by decide +kernel
theorem dX5_init_95 : decode cX5_init 95 = .ok (.putfield 44, 3) := by decide +kernel
theorem dX5_init_98 : decode cX5_init 98 = .ok (.aload_n 0, 1) := by decide +kernel
theorem dX5_init_99 : decode cX5_init 99 = .ok (.sipush 240, 3) := by decide +kernel
theorem dX5_init_102 : decode cX5_init 102 = .ok (.newarray .int, 2) := by decide +kernel
theorem dX5_init_104 : decode cX5_init 104 = .ok (.putfield 47, 3) := by decide +kernel
theorem dX5_init_107 : decode cX5_init 107 = .ok (.aload_n 0, 1) := by decide +kernel
theorem dX5_init_108 : decode cX5_init 108 = .ok (.bipush 60, 2) := by decide +kernel
theorem dX5_init_110 : decode cX5_init 110 = .ok (.newarray .int, 2) := by decide +kernel
theorem dX5_init_112 : decode cX5_init 112 = .ok (.putfield 50, 3) := by decide +kernel
theorem dX5_init_115 : decode cX5_init 115 = .ok (.iconst 0, 1) := by decide +kernel
theorem dX5_init_116 : decode cX5_init 116 = .ok (.istore_n 1, 1) := by decide +kernel
theorem dX5_init_117 : decode cX5_init 117 = .ok (.iload_n 1, 1) := by decide +kernel
theorem dX5_init_118 : decode cX5_init 118 = .ok (.iconst 4, 1) := by decide +kernel
theorem dX5_init_119 : decode cX5_init 119 = .ok (.if_icmp .ge 16, 3) := by decide +kernel
theorem dX5_init_122 : decode cX5_init 122 = .ok (.aload_n 0, 1) := by decide +kernel
theorem dX5_init_123 : decode cX5_init 123 = .ok (.getfield 41, 3) := by decide +kernel
theorem dX5_init_126 : decode cX5_init 126 = .ok (.iload_n 1, 1) := by decide +kernel
theorem dX5_init_127 : decode cX5_init 127 = .ok (.iconst (-1), 1) := by decide +kernel
theorem dX5_init_128 : decode cX5_init 128 = .ok (.iastore, 1) := by decide +kernel
theorem dX5_init_129 : decode cX5_init 129 = .ok (.iinc 1 1, 3) := by decide +kernel
theorem dX5_init_132 : decode cX5_init 132 = .ok (.goto (-15), 3) := by decide +kernel
theorem dX5_init_135 : decode cX5_init 135 = .ok (.return_, 1) := by decide +kernel
theorem dX5_in_0 : decode cX5_in 0 = .ok (.lload_n 0, 1) := by decide +kernel
theorem dX5_in_1 : decode cX5_in 1 = .ok (.lload_n 2, 1) := by decide +kernel
theorem dX5_in_2 : decode cX5_in 2 = .ok (.lcmp, 1) := by decide +kernel
theorem dX5_in_3 : decode cX5_in 3 = .ok (.ifCond .lt 14, 3) := by decide +kernel
theorem dX5_in_6 : decode cX5_in 6 = .ok (.lload_n 0, 1) := by decide +kernel
theorem dX5_in_7 : decode cX5_in 7 = .ok (.lload 4, 2) := by decide +kernel
theorem dX5_in_9 : decode cX5_in 9 = .ok (.lcmp, 1) := by decide +kernel
theorem dX5_in_10 : decode cX5_in 10 = .ok (.ifCond .gt 7, 3) := by decide +kernel
theorem dX5_in_13 : decode cX5_in 13 = .ok (.iconst 1, 1) := by decide +kernel
theorem dX5_in_14 : decode cX5_in 14 = .ok (.goto 4, 3) := by decide +kernel
theorem dX5_in_17 : decode cX5_in 17 = .ok (.iconst 0, 1) := by decide +kernel
theorem dX5_in_18 : decode cX5_in 18 = .ok (.ireturn, 1) := by decide +kernel
theorem dX5_lost_0 : decode cX5_lost 0 = .ok (.ldc2_w 53, 3) := by decide +kernel
theorem dX5_lost_3 : decode cX5_lost 3 = .ok (.lreturn, 1) := by decide +kernel
theorem dX5_isIn_0 : decode cX5_isIn 0 = .ok (.iload_n 0, 1) := by decide +kernel
theorem dX5_isIn_1 : decode cX5_isIn 1 = .ok (.iload_n 1, 1) := by decide +kernel
theorem dX5_isIn_2 : decode cX5_isIn 2 = .ok (.ishr, 1) := by decide +kernel
theorem dX5_isIn_3 : decode cX5_isIn 3 = .ok (.iconst 1, 1) := by decide +kernel
theorem dX5_isIn_4 : decode cX5_isIn 4 = .ok (.iand, 1) := by decide +kernel
theorem dX5_isIn_5 : decode cX5_isIn 5 = .ok (.iconst 1, 1) := by decide +kernel
theorem dX5_isIn_6 : decode cX5_isIn 6 = .ok (.if_icmp .ne 7, 3) := by decide +kernel
theorem dX5_isIn_9 : decode cX5_isIn 9 = .ok (.iconst 1, 1) := by decide +kernel
theorem dX5_isIn_10 : decode cX5_isIn 10 = .ok (.goto 4, 3) := by decide +kernel
theorem dX5_isIn_13 : decode cX5_isIn 13 = .ok (.iconst 0, 1) := by decide +kernel
theorem dX5_isIn_14 : decode cX5_isIn 14 = .ok (.ireturn, 1) := by decide +kernel
theorem dX5_bits_0 : decode cX5_bits 0 = .ok (.iconst 0, 1) := by decide +kernel
theorem dX5_bits_1 : decode cX5_bits 1 = .ok (.istore_n 1, 1) := by decide +kernel
theorem dX5_bits_2 : decode cX5_bits 2 = .ok (.iload_n 0, 1) := by decide +kernel
theorem dX5_bits_3 : decode cX5_bits 3 = .ok (.istore_n 2, 1) := by decide +kernel
theorem dX5_bits_4 : decode cX5_bits 4 = .ok (.iload_n 2, 1) := by decide +kernel
theorem dX5_bits_5 : decode cX5_bits 5 = .ok (.ifCond .le 16, 3) := by decide +kernel
theorem dX5_bits_8 : decode cX5_bits 8 = .ok (.iload_n 1, 1) := by decide +kernel
theorem dX5_bits_9 : decode cX5_bits 9 = .ok (.iload_n 2, 1) := by decide +kernel
theorem dX5_bits_10 : decode cX5_bits 10 = .ok (.iconst 1, 1) := by decide +kernel
theorem dX5_bits_11 : decode cX5_bits 11 = .ok (.iand, 1) := by decide +kernel
theorem dX5_bits_12 : decode cX5_bits 12 = .ok (.iadd, 1) := by decide +kernel
theorem dX5_bits_13 : decode cX5_bits 13 = .ok (.istore_n 1, 1) := by decide +kernel
theorem dX5_bits_14 : decode cX5_bits 14 = .ok (.iload_n 2, 1) := by decide +kernel
theorem dX5_bits_15 : decode cX5_bits 15 = .ok (.iconst 1, 1) := by decide +kernel
theorem dX5_bits_16 : decode cX5_bits 16 = .ok (.ishr, 1) := by decide +kernel
theorem dX5_bits_17 : decode cX5_bits 17 = .ok (.istore_n 2, 1) := by decide +kernel
theorem dX5_bits_18 : decode cX5_bits 18 = .ok (.goto (-14), 3) := by decide +kernel
theorem dX5_bits_21 : decode cX5_bits 21 = .ok (.iload_n 1, 1) := by decide +kernel
theorem dX5_bits_22 : decode cX5_bits 22 = .ok (.ireturn, 1) := by decide +kernel
theorem dX5_share_0 : decode cX5_share 0 = .ok (.lload_n 0, 1) := by decide +kernel
theorem dX5_share_1 : decode cX5_share 1 = .ok (.lstore 5, 2) := by decide +kernel
theorem dX5_share_3 : decode cX5_share 3 = .ok (.lload_n 2, 1) := by decide +kernel
theorem dX5_share_4 : decode cX5_share 4 = .ok (.lstore 7, 2) := by decide +kernel
theorem dX5_share_6 : decode cX5_share 6 = .ok (.lload 7, 2) := by decide +kernel
theorem dX5_share_8 : decode cX5_share 8 = .ok (.lconst 0, 1) := by decide +kernel
theorem dX5_share_9 : decode cX5_share 9 = .ok (.lcmp, 1) := by decide +kernel
theorem dX5_share_10 : decode cX5_share 10 = .ok (.ifCond .eq 21, 3) := by decide +kernel
theorem dX5_share_13 : decode cX5_share 13 = .ok (.lload 5, 2) := by decide +kernel
theorem dX5_share_15 : decode cX5_share 15 = .ok (.lload 7, 2) := by decide +kernel
theorem dX5_share_17 : decode cX5_share 17 = .ok (.lrem, 1) := by decide +kernel
theorem dX5_share_18 : decode cX5_share 18 = .ok (.lstore 9, 2) := by decide +kernel
theorem dX5_share_20 : decode cX5_share 20 = .ok (.lload 7, 2) := by decide +kernel
theorem dX5_share_22 : decode cX5_share 22 = .ok (.lstore 5, 2) := by decide +kernel
theorem dX5_share_24 : decode cX5_share 24 = .ok (.lload 9, 2) := by decide +kernel
theorem dX5_share_26 : decode cX5_share 26 = .ok (.lstore 7, 2) := by decide +kernel
theorem dX5_share_28 : decode cX5_share 28 = .ok (.goto (-22), 3) := by decide +kernel
theorem dX5_share_31 : decode cX5_share 31 = .ok (.iload 4, 2) := by decide +kernel
theorem dX5_share_33 : decode cX5_share 33 = .ok (.ifCond .ne 7, 3) := by decide +kernel
theorem dX5_share_36 : decode cX5_share 36 = .ok (.lload_n 0, 1) := by decide +kernel
theorem dX5_share_37 : decode cX5_share 37 = .ok (.goto 4, 3) := by decide +kernel
theorem dX5_share_40 : decode cX5_share 40 = .ok (.lload_n 2, 1) := by decide +kernel
theorem dX5_share_41 : decode cX5_share 41 = .ok (.lload 5, 2) := by decide +kernel
theorem dX5_share_43 : decode cX5_share 43 = .ok (.ldiv, 1) := by decide +kernel
theorem dX5_share_44 : decode cX5_share 44 = .ok (.lreturn, 1) := by decide +kernel
theorem dX5_refused_0 : decode cX5_refused 0 = .ok (.aload_n 0, 1) := by decide +kernel
theorem dX5_refused_1 : decode cX5_refused 1 = .ok (.iconst 0, 1) := by decide +kernel
theorem dX5_refused_2 : decode cX5_refused 2 = .ok (.putfield 55, 3) := by decide +kernel
theorem dX5_refused_5 : decode cX5_refused 5 = .ok (.iload_n 1, 1) := by decide +kernel
theorem dX5_refused_6 : decode cX5_refused 6 = .ok (.ireturn, 1) := by decide +kernel
theorem dX5_failed_0 : decode cX5_failed 0 = .ok (.aload_n 0, 1) := by decide +kernel
theorem dX5_failed_1 : decode cX5_failed 1 = .ok (.iload_n 1, 1) := by decide +kernel
theorem dX5_failed_2 : decode cX5_failed 2 = .ok (.putfield 55, 3) := by decide +kernel
theorem dX5_failed_5 : decode cX5_failed 5 = .ok (.bipush (-10), 2) := by decide +kernel
theorem dX5_failed_7 : decode cX5_failed 7 = .ok (.iload_n 1, 1) := by decide +kernel
theorem dX5_failed_8 : decode cX5_failed 8 = .ok (.isub, 1) := by decide +kernel
theorem dX5_failed_9 : decode cX5_failed 9 = .ok (.ireturn, 1) := by decide +kernel
set_option maxRecDepth 20000 in
theorem ggX5_failedLong_X5_lost : GoodIn wsX5_failedLong wsX5_lost := goodIn_r _ [5, 6] (by decide +kernel) (by decide +kernel)
set_option maxRecDepth 20000 in
theorem gX5_failedLong_X5_lost : GoodIn wsX5_failedLong (va_wsS RX5 59 yX5_lost wsX5_lost) := goodIn_app (goodIn_of _ (by decide +kernel)) ggX5_failedLong_X5_lost
theorem dX5_failedLong_0 : decode cX5_failedLong 0 = .ok (.aload_n 0, 1) := by decide +kernel
theorem dX5_failedLong_1 : decode cX5_failedLong 1 = .ok (.iload_n 1, 1) := by decide +kernel
theorem dX5_failedLong_2 : decode cX5_failedLong 2 = .ok (.putfield 55, 3) := by decide +kernel
theorem dX5_failedLong_5 : decode cX5_failedLong 5 = .ok (.invokestatic 59, 3) := by decide +kernel
theorem dX5_failedLong_8 : decode cX5_failedLong 8 = .ok (.lreturn, 1) := by decide +kernel
theorem dX5_cells_0 : decode cX5_cells 0 = .ok (.aload_n 0, 1) := by decide +kernel
theorem dX5_cells_1 : decode cX5_cells 1 = .ok (.getfield 63, 3) := by decide +kernel
theorem dX5_cells_4 : decode cX5_cells 4 = .ok (.aload_n 0, 1) := by decide +kernel
theorem dX5_cells_5 : decode cX5_cells 5 = .ok (.getfield 66, 3) := by decide +kernel
theorem dX5_cells_8 : decode cX5_cells 8 = .ok (.imul, 1) := by decide +kernel
theorem dX5_cells_9 : decode cX5_cells 9 = .ok (.ireturn, 1) := by decide +kernel
set_option maxRecDepth 20000 in
theorem ggX5_noPlace_X5_cells : GoodIn wsX5_noPlace wsX5_cells := goodIn_r _ [5, 6, 7, 11, 12, 13, 14, 15, 16, 17, 18, 19, 20, 21, 22, 23, 24, 25, 26, 27, 28, 29, 30, 31, 32, 33, 34, 35, 36, 37, 38, 39, 40] (by decide +kernel) (by decide +kernel)
set_option maxRecDepth 20000 in
theorem gX5_noPlace_X5_cells : GoodIn wsX5_noPlace (wsV RX5 69 RX5 yX5_cells wsX5_cells) := goodIn_app (goodIn_of _ (by decide +kernel)) ggX5_noPlace_X5_cells
set_option maxRecDepth 20000 in
theorem ggX5_noPlace_X5_in : GoodIn wsX5_noPlace wsX5_in := goodIn_r _ [10] (by decide +kernel) (by decide +kernel)
set_option maxRecDepth 20000 in
theorem gX5_noPlace_X5_in : GoodIn wsX5_noPlace (va_wsS RX5 73 yX5_in wsX5_in) := goodIn_app (goodIn_of _ (by decide +kernel)) ggX5_noPlace_X5_in
theorem dX5_noPlace_0 : decode cX5_noPlace 0 = .ok (.iload_n 1, 1) := by decide +kernel
theorem dX5_noPlace_1 : decode cX5_noPlace 1 = .ok (.i2l, 1) := by decide +kernel
theorem dX5_noPlace_2 : decode cX5_noPlace 2 = .ok (.lconst 0, 1) := by decide +kernel
theorem dX5_noPlace_3 : decode cX5_noPlace 3 = .ok (.aload_n 0, 1) := by decide +kernel
theorem dX5_noPlace_4 : decode cX5_noPlace 4 = .ok (.invokevirtual 69, 3) := by decide +kernel
theorem dX5_noPlace_7 : decode cX5_noPlace 7 = .ok (.i2l, 1) := by decide +kernel
theorem dX5_noPlace_8 : decode cX5_noPlace 8 = .ok (.lconst 1, 1) := by decide +kernel
theorem dX5_noPlace_9 : decode cX5_noPlace 9 = .ok (.lsub, 1) := by decide +kernel
theorem dX5_noPlace_10 : decode cX5_noPlace 10 = .ok (.invokestatic 73, 3) := by decide +kernel
theorem dX5_noPlace_13 : decode cX5_noPlace 13 = .ok (.ifCond .ne 7, 3) := by decide +kernel
theorem dX5_noPlace_16 : decode cX5_noPlace 16 = .ok (.iconst 1, 1) := by decide +kernel
theorem dX5_noPlace_17 : decode cX5_noPlace 17 = .ok (.goto 4, 3) := by decide +kernel
theorem dX5_noPlace_20 : decode cX5_noPlace 20 = .ok (.iconst 0, 1) := by decide +kernel
theorem dX5_noPlace_21 : decode cX5_noPlace 21 = .ok (.ireturn, 1) := by decide +kernel
set_option maxRecDepth 20000 in
theorem ggX5_noGrass_X5_noPlace : GoodIn wsX5_noGrass wsX5_noPlace := goodIn_r _ [6, 7, 8, 9, 5, 10, 11, 12, 13, 14, 15, 16, 17, 18, 19, 20, 21, 22, 23, 24, 25, 26, 27, 28, 29, 30, 31, 32, 33, 34, 35, 36, 37, 38, 39, 40, 41, 42, 43, 44, 45] (by decide +kernel) (by decide +kernel)
set_option maxRecDepth 20000 in
theorem gX5_noGrass_X5_noPlace : GoodIn wsX5_noGrass (wsV RX5 77 RX5 yX5_noPlace wsX5_noPlace) := goodIn_app (goodIn_of _ (by decide +kernel)) ggX5_noGrass_X5_noPlace
theorem dX5_noGrass_0 : decode cX5_noGrass 0 = .ok (.aload_n 0, 1) := by decide +kernel
theorem dX5_noGrass_1 : decode cX5_noGrass 1 = .ok (.iload_n 1, 1) := by decide +kernel
theorem dX5_noGrass_2 : decode cX5_noGrass 2 = .ok (.invokevirtual 77, 3) := by decide +kernel
theorem dX5_noGrass_5 : decode cX5_noGrass 5 = .ok (.ifCond .ne 13, 3) := by decide +kernel
theorem dX5_noGrass_8 : decode cX5_noGrass 8 = .ok (.aload_n 0, 1) := by decide +kernel
theorem dX5_noGrass_9 : decode cX5_noGrass 9 = .ok (.getfield 7, 3) := by decide +kernel
theorem dX5_noGrass_12 : decode cX5_noGrass 12 = .ok (.iload_n 1, 1) := by decide +kernel
theorem dX5_noGrass_13 : decode cX5_noGrass 13 = .ok (.iaload, 1) := by decide +kernel
theorem dX5_noGrass_14 : decode cX5_noGrass 14 = .ok (.iconst 3, 1) := by decide +kernel
theorem dX5_noGrass_15 : decode cX5_noGrass 15 = .ok (.if_icmp .ne 7, 3) := by decide +kernel
theorem dX5_noGrass_18 : decode cX5_noGrass 18 = .ok (.iconst 1, 1) := by decide +kernel
theorem dX5_noGrass_19 : decode cX5_noGrass 19 = .ok (.goto 4, 3) := by decide +kernel
theorem dX5_noGrass_22 : decode cX5_noGrass 22 = .ok (.iconst 0, 1) := by decide +kernel
theorem dX5_noGrass_23 : decode cX5_noGrass 23 = .ok (.ireturn, 1) := by decide +kernel
theorem dX5_codeAt_0 : decode cX5_codeAt 0 = .ok (.aload_n 0, 1) := by decide +kernel
theorem dX5_codeAt_1 : decode cX5_codeAt 1 = .ok (.getfield 81, 3) := by decide +kernel
theorem dX5_codeAt_4 : decode cX5_codeAt 4 = .ok (.iload_n 2, 1) := by decide +kernel
theorem dX5_codeAt_5 : decode cX5_codeAt 5 = .ok (.if_icmp .ge 17, 3) := by decide +kernel
theorem dX5_codeAt_8 : decode cX5_codeAt 8 = .ok (.aload_n 0, 1) := by decide +kernel
theorem dX5_codeAt_9 : decode cX5_codeAt 9 = .ok (.getfield 47, 3) := by decide +kernel
theorem dX5_codeAt_12 : decode cX5_codeAt 12 = .ok (.iload_n 1, 1) := by decide +kernel
theorem dX5_codeAt_13 : decode cX5_codeAt 13 = .ok (.aload_n 0, 1) := by decide +kernel
theorem dX5_codeAt_14 : decode cX5_codeAt 14 = .ok (.getfield 81, 3) := by decide +kernel
theorem dX5_codeAt_17 : decode cX5_codeAt 17 = .ok (.iadd, 1) := by decide +kernel
theorem dX5_codeAt_18 : decode cX5_codeAt 18 = .ok (.iaload, 1) := by decide +kernel
theorem dX5_codeAt_19 : decode cX5_codeAt 19 = .ok (.goto 5, 3) := by decide +kernel
theorem dX5_codeAt_22 : decode cX5_codeAt 22 = .ok (.bipush (-9), 2) := by decide +kernel
theorem dX5_codeAt_24 : decode cX5_codeAt 24 = .ok (.ireturn, 1) := by decide +kernel
set_option maxRecDepth 20000 in
theorem ggX5_figure_X5_codeAt : GoodIn wsX5_figure wsX5_codeAt := goodIn_r _ [6, 1, 7, 11, 12, 13, 14, 15, 16, 17, 18, 19, 20, 21, 22, 23, 24, 25, 26, 27, 28, 29, 30, 31, 32, 33, 34, 35, 36, 37, 38, 39, 40] (by decide +kernel) (by decide +kernel)
set_option maxRecDepth 20000 in
theorem gX5_figure_X5_codeAt : GoodIn wsX5_figure (wsV RX5 84 RX5 yX5_codeAt wsX5_codeAt) := goodIn_app (goodIn_of _ (by decide +kernel)) ggX5_figure_X5_codeAt
set_option maxRecDepth 20000 in
theorem ggX5_figure_X5_in : GoodIn wsX5_figure wsX5_in := goodIn_r _ [10] (by decide +kernel) (by decide +kernel)
set_option maxRecDepth 20000 in
theorem gX5_figure_X5_in : GoodIn wsX5_figure (va_wsS RX5 73 yX5_in wsX5_in) := goodIn_app (goodIn_of _ (by decide +kernel)) ggX5_figure_X5_in
theorem dX5_figure_0 : decode cX5_figure 0 = .ok (.aload_n 0, 1) := by decide +kernel
theorem dX5_figure_1 : decode cX5_figure 1 = .ok (.iload_n 1, 1) := by decide +kernel
theorem dX5_figure_2 : decode cX5_figure 2 = .ok (.iload_n 2, 1) := by decide +kernel
theorem dX5_figure_3 : decode cX5_figure 3 = .ok (.invokevirtual 84, 3) := by decide +kernel
theorem dX5_figure_6 : decode cX5_figure 6 = .ok (.bipush 48, 2) := by decide +kernel
theorem dX5_figure_8 : decode cX5_figure 8 = .ok (.isub, 1) := by decide +kernel
theorem dX5_figure_9 : decode cX5_figure 9 = .ok (.istore 5, 2) := by decide +kernel
theorem dX5_figure_11 : decode cX5_figure 11 = .ok (.iload 5, 2) := by decide +kernel
theorem dX5_figure_13 : decode cX5_figure 13 = .ok (.i2l, 1) := by decide +kernel
theorem dX5_figure_14 : decode cX5_figure 14 = .ok (.iload_n 3, 1) := by decide +kernel
theorem dX5_figure_15 : decode cX5_figure 15 = .ok (.i2l, 1) := by decide +kernel
theorem dX5_figure_16 : decode cX5_figure 16 = .ok (.iload 4, 2) := by decide +kernel
theorem dX5_figure_18 : decode cX5_figure 18 = .ok (.i2l, 1) := by decide +kernel
theorem dX5_figure_19 : decode cX5_figure 19 = .ok (.invokestatic 73, 3) := by decide +kernel
theorem dX5_figure_22 : decode cX5_figure 22 = .ok (.istore 6, 2) := by decide +kernel
theorem dX5_figure_24 : decode cX5_figure 24 = .ok (.aload_n 0, 1) := by decide +kernel
theorem dX5_figure_25 : decode cX5_figure 25 = .ok (.dup, 1) := by decide +kernel
theorem dX5_figure_26 : decode cX5_figure 26 = .ok (.getfield 81, 3) := by decide +kernel
theorem dX5_figure_29 : decode cX5_figure 29 = .ok (.iload 6, 2) := by decide +kernel
theorem dX5_figure_31 : decode cX5_figure 31 = .ok (.ifCond .eq 7, 3) := by decide +kernel
theorem dX5_figure_34 : decode cX5_figure 34 = .ok (.iconst 1, 1) := by decide +kernel
theorem dX5_figure_35 : decode cX5_figure 35 = .ok (.goto 4, 3) := by decide +kernel
theorem dX5_figure_38 : decode cX5_figure 38 = .ok (.iconst 0, 1) := by decide +kernel
theorem dX5_figure_39 : decode cX5_figure 39 = .ok (.iadd, 1) := by decide +kernel
theorem dX5_figure_40 : decode cX5_figure 40 = .ok (.putfield 81, 3) := by decide +kernel
theorem dX5_figure_43 : decode cX5_figure 43 = .ok (.iload 6, 2) := by decide +kernel
theorem dX5_figure_45 : decode cX5_figure 45 = .ok (.ifCond .eq 8, 3) := by decide +kernel
theorem dX5_figure_48 : decode cX5_figure 48 = .ok (.iload 5, 2) := by decide +kernel
theorem dX5_figure_50 : decode cX5_figure 50 = .ok (.goto 5, 3) := by decide +kernel
theorem dX5_figure_53 : decode cX5_figure 53 = .ok (.bipush (-9), 2) := by decide +kernel
theorem dX5_figure_55 : decode cX5_figure 55 = .ok (.ireturn, 1) := by decide +kernel
set_option maxRecDepth 20000 in
theorem ggX5_readsPlace_X5_codeAt : GoodIn wsX5_readsPlace wsX5_codeAt := goodIn_r _ [8, 2, 9, 10, 11, 12, 13, 14, 15, 16, 17, 18, 19, 20, 21, 22, 23, 24, 25, 26, 27, 28, 29, 30, 31, 32, 33, 34, 35, 36, 37, 38, 39] (by decide +kernel) (by decide +kernel)
set_option maxRecDepth 20000 in
theorem gX5_readsPlace_X5_codeAt : GoodIn wsX5_readsPlace (wsV RX5 84 RX5 yX5_codeAt wsX5_codeAt) := goodIn_app (goodIn_of _ (by decide +kernel)) ggX5_readsPlace_X5_codeAt
theorem dX5_readsPlace_0 : decode cX5_readsPlace 0 = .ok (.iload_n 3, 1) := by decide +kernel
theorem dX5_readsPlace_1 : decode cX5_readsPlace 1 = .ok (.aload_n 0, 1) := by decide +kernel
theorem dX5_readsPlace_2 : decode cX5_readsPlace 2 = .ok (.getfield 88, 3) := by decide +kernel
theorem dX5_readsPlace_5 : decode cX5_readsPlace 5 = .ok (.irem, 1) := by decide +kernel
theorem dX5_readsPlace_6 : decode cX5_readsPlace 6 = .ok (.ifCond .ne 26, 3) := by decide +kernel
theorem dX5_readsPlace_9 : decode cX5_readsPlace 9 = .ok (.aload_n 0, 1) := by decide +kernel
theorem dX5_readsPlace_10 : decode cX5_readsPlace 10 = .ok (.iload_n 1, 1) := by decide +kernel
theorem dX5_readsPlace_11 : decode cX5_readsPlace 11 = .ok (.iload_n 2, 1) := by decide +kernel
theorem dX5_readsPlace_12 : decode cX5_readsPlace 12 = .ok (.invokevirtual 84, 3) := by decide +kernel
theorem dX5_readsPlace_15 : decode cX5_readsPlace 15 = .ok (.bipush 59, 2) := by decide +kernel
theorem dX5_readsPlace_17 : decode cX5_readsPlace 17 = .ok (.if_icmp .eq 5, 3) := by decide +kernel
theorem dX5_readsPlace_20 : decode cX5_readsPlace 20 = .ok (.iconst 0, 1) := by decide +kernel
theorem dX5_readsPlace_21 : decode cX5_readsPlace 21 = .ok (.ireturn, 1) := by decide +kernel
theorem dX5_readsPlace_22 : decode cX5_readsPlace 22 = .ok (.aload_n 0, 1) := by decide +kernel
theorem dX5_readsPlace_23 : decode cX5_readsPlace 23 = .ok (.dup, 1) := by decide +kernel
theorem dX5_readsPlace_24 : decode cX5_readsPlace 24 = .ok (.getfield 81, 3) := by decide +kernel
theorem dX5_readsPlace_27 : decode cX5_readsPlace 27 = .ok (.iconst 1, 1) := by decide +kernel
theorem dX5_readsPlace_28 : decode cX5_readsPlace 28 = .ok (.iadd, 1) := by decide +kernel
theorem dX5_readsPlace_29 : decode cX5_readsPlace 29 = .ok (.putfield 81, 3) := by decide +kernel
theorem dX5_readsPlace_32 : decode cX5_readsPlace 32 = .ok (.aload_n 0, 1) := by decide +kernel
theorem dX5_readsPlace_33 : decode cX5_readsPlace 33 = .ok (.iload_n 1, 1) := by decide +kernel
theorem dX5_readsPlace_34 : decode cX5_readsPlace 34 = .ok (.iload_n 2, 1) := by decide +kernel
theorem dX5_readsPlace_35 : decode cX5_readsPlace 35 = .ok (.invokevirtual 84, 3) := by decide +kernel
theorem dX5_readsPlace_38 : decode cX5_readsPlace 38 = .ok (.istore 4, 2) := by decide +kernel
theorem dX5_readsPlace_40 : decode cX5_readsPlace 40 = .ok (.iload 4, 2) := by decide +kernel
theorem dX5_readsPlace_42 : decode cX5_readsPlace 42 = .ok (.bipush 103, 2) := by decide +kernel
theorem dX5_readsPlace_44 : decode cX5_readsPlace 44 = .ok (.if_icmp .eq 26, 3) := by decide +kernel
theorem dX5_readsPlace_47 : decode cX5_readsPlace 47 = .ok (.iload 4, 2) := by decide +kernel
theorem dX5_readsPlace_49 : decode cX5_readsPlace 49 = .ok (.bipush 115, 2) := by decide +kernel
theorem dX5_readsPlace_51 : decode cX5_readsPlace 51 = .ok (.if_icmp .eq 19, 3) := by decide +kernel
theorem dX5_readsPlace_54 : decode cX5_readsPlace 54 = .ok (.iload 4, 2) := by decide +kernel
theorem dX5_readsPlace_56 : decode cX5_readsPlace 56 = .ok (.bipush 111, 2) := by decide +kernel
theorem dX5_readsPlace_58 : decode cX5_readsPlace 58 = .ok (.if_icmp .eq 12, 3) := by decide +kernel
theorem dX5_readsPlace_61 : decode cX5_readsPlace 61 = .ok (.iload 4, 2) := by decide +kernel
theorem dX5_readsPlace_63 : decode cX5_readsPlace 63 = .ok (.bipush 35, 2) := by decide +kernel
theorem dX5_readsPlace_65 : decode cX5_readsPlace 65 = .ok (.if_icmp .eq 5, 3) := by decide +kernel
theorem dX5_readsPlace_68 : decode cX5_readsPlace 68 = .ok (.iconst 0, 1) := by decide +kernel
theorem dX5_readsPlace_69 : decode cX5_readsPlace 69 = .ok (.ireturn, 1) := by decide +kernel
theorem dX5_readsPlace_70 : decode cX5_readsPlace 70 = .ok (.aload_n 0, 1) := by decide +kernel
theorem dX5_readsPlace_71 : decode cX5_readsPlace 71 = .ok (.dup, 1) := by decide +kernel
theorem dX5_readsPlace_72 : decode cX5_readsPlace 72 = .ok (.getfield 81, 3) := by decide +kernel
theorem dX5_readsPlace_75 : decode cX5_readsPlace 75 = .ok (.iconst 1, 1) := by decide +kernel
theorem dX5_readsPlace_76 : decode cX5_readsPlace 76 = .ok (.iadd, 1) := by decide +kernel
theorem dX5_readsPlace_77 : decode cX5_readsPlace 77 = .ok (.putfield 81, 3) := by decide +kernel
theorem dX5_readsPlace_80 : decode cX5_readsPlace 80 = .ok (.aload_n 0, 1) := by decide +kernel
theorem dX5_readsPlace_81 : decode cX5_readsPlace 81 = .ok (.getfield 16, 3) := by decide +kernel
theorem dX5_readsPlace_84 : decode cX5_readsPlace 84 = .ok (.iload_n 3, 1) := by decide +kernel
theorem dX5_readsPlace_85 : decode cX5_readsPlace 85 = .ok (.iload 4, 2) := by decide +kernel
theorem dX5_readsPlace_87 : decode cX5_readsPlace 87 = .ok (.bipush 103, 2) := by decide +kernel
theorem dX5_readsPlace_89 : decode cX5_readsPlace 89 = .ok (.if_icmp .ne 7, 3) := by decide +kernel
theorem dX5_readsPlace_92 : decode cX5_readsPlace 92 = .ok (.iconst 0, 1) := by decide +kernel
theorem dX5_readsPlace_93 : decode cX5_readsPlace 93 = .ok (.goto 26, 3) := by decide +kernel
theorem dX5_readsPlace_96 : decode cX5_readsPlace 96 = .ok (.iload 4, 2) := by decide +kernel
theorem dX5_readsPlace_98 : decode cX5_readsPlace 98 = .ok (.bipush 115, 2) := by decide +kernel
theorem dX5_readsPlace_100 : decode cX5_readsPlace 100 = .ok (.if_icmp .ne 7, 3) := by decide +kernel
theorem dX5_readsPlace_103 : decode cX5_readsPlace 103 = .ok (.iconst 1, 1) := by decide +kernel
theorem dX5_readsPlace_104 : decode cX5_readsPlace 104 = .ok (.goto 15, 3) := by decide +kernel
theorem dX5_readsPlace_107 : decode cX5_readsPlace 107 = .ok (.iload 4, 2) := by decide +kernel
theorem dX5_readsPlace_109 : decode cX5_readsPlace 109 = .ok (.bipush 111, 2) := by decide +kernel
theorem dX5_readsPlace_111 : decode cX5_readsPlace 111 = .ok (.if_icmp .ne 7, 3) := by decide +kernel
theorem dX5_readsPlace_114 : decode cX5_readsPlace 114 = .ok (.iconst 2, 1) := by decide +kernel
theorem dX5_readsPlace_115 : decode cX5_readsPlace 115 = .ok (.goto 4, 3) := by decide +kernel
theorem dX5_readsPlace_118 : decode cX5_readsPlace 118 = .ok (.iconst 3, 1) := by decide +kernel
theorem dX5_readsPlace_119 : decode cX5_readsPlace 119 = .ok (.iastore, 1) := by decide +kernel
theorem dX5_readsPlace_120 : decode cX5_readsPlace 120 = .ok (.iconst 1, 1) := by decide +kernel
theorem dX5_readsPlace_121 : decode cX5_readsPlace 121 = .ok (.ireturn, 1) := by decide +kernel
set_option maxRecDepth 20000 in
theorem ggX5_readsHill_X5_codeAt : GoodIn wsX5_readsHill wsX5_codeAt := goodIn_r _ [10, 1, 11, 24, 25, 26, 27, 28, 29, 30, 31, 32, 33, 34, 35, 36, 37, 38, 39, 40, 41, 42, 43, 44, 45, 46, 47, 48, 49, 50, 51, 52, 53] (by decide +kernel) (by decide +kernel)
set_option maxRecDepth 20000 in
theorem gX5_readsHill_X5_codeAt : GoodIn wsX5_readsHill (wsV RX5 84 RX5 yX5_codeAt wsX5_codeAt) := goodIn_app (goodIn_of _ (by decide +kernel)) ggX5_readsHill_X5_codeAt
set_option maxRecDepth 20000 in
theorem ggX5_readsHill_X5_figure : GoodIn wsX5_readsHill wsX5_figure := goodIn_r _ [15, 1, 6, 7, 8, 9, 10, 11, 16, 17, 18, 24, 25, 26, 27, 28, 29, 30, 31, 32, 33, 34, 35, 36, 37, 38, 39, 40, 41, 42, 43, 44, 45, 46, 47, 48, 49, 50, 51, 52, 53] (by decide +kernel) (by decide +kernel)
set_option maxRecDepth 20000 in
theorem gX5_readsHill_X5_figure : GoodIn wsX5_readsHill (wsV RX5 91 RX5 yX5_figure wsX5_figure) := goodIn_app (goodIn_of _ (by decide +kernel)) ggX5_readsHill_X5_figure
set_option maxRecDepth 20000 in
theorem ggX5_readsHill_X5_readsPlace : GoodIn wsX5_readsHill wsX5_readsPlace := goodIn_r _ [22, 3, 1, 23, 6, 7, 8, 9, 10, 11, 24, 25, 26, 27, 28, 29, 30, 31, 32, 33, 34, 35, 36, 37, 38, 39, 40, 41, 42, 43, 44, 45, 46, 47, 48, 49, 50, 51, 52, 53] (by decide +kernel) (by decide +kernel)
set_option maxRecDepth 20000 in
theorem gX5_readsHill_X5_readsPlace : GoodIn wsX5_readsHill (wsV RX5 104 RX5 yX5_readsPlace wsX5_readsPlace) := goodIn_app (goodIn_of _ (by decide +kernel)) ggX5_readsHill_X5_readsPlace
theorem dX5_readsHill_0 : decode cX5_readsHill 0 = .ok (.aload_n 0, 1) := by decide +kernel
theorem dX5_readsHill_1 : decode cX5_readsHill 1 = .ok (.iconst 0, 1) := by decide +kernel
theorem dX5_readsHill_2 : decode cX5_readsHill 2 = .ok (.putfield 81, 3) := by decide +kernel
theorem dX5_readsHill_5 : decode cX5_readsHill 5 = .ok (.aload_n 0, 1) := by decide +kernel
theorem dX5_readsHill_6 : decode cX5_readsHill 6 = .ok (.iload_n 1, 1) := by decide +kernel
theorem dX5_readsHill_7 : decode cX5_readsHill 7 = .ok (.iload_n 2, 1) := by decide +kernel
theorem dX5_readsHill_8 : decode cX5_readsHill 8 = .ok (.invokevirtual 84, 3) := by decide +kernel
theorem dX5_readsHill_11 : decode cX5_readsHill 11 = .ok (.bipush 104, 2) := by decide +kernel
theorem dX5_readsHill_13 : decode cX5_readsHill 13 = .ok (.if_icmp .ne 7, 3) := by decide +kernel
theorem dX5_readsHill_16 : decode cX5_readsHill 16 = .ok (.iconst 1, 1) := by decide +kernel
theorem dX5_readsHill_17 : decode cX5_readsHill 17 = .ok (.goto 4, 3) := by decide +kernel
theorem dX5_readsHill_20 : decode cX5_readsHill 20 = .ok (.iconst 0, 1) := by decide +kernel
theorem dX5_readsHill_21 : decode cX5_readsHill 21 = .ok (.istore_n 3, 1) := by decide +kernel
theorem dX5_readsHill_22 : decode cX5_readsHill 22 = .ok (.aload_n 0, 1) := by decide +kernel
theorem dX5_readsHill_23 : decode cX5_readsHill 23 = .ok (.dup, 1) := by decide +kernel
theorem dX5_readsHill_24 : decode cX5_readsHill 24 = .ok (.getfield 81, 3) := by decide +kernel
theorem dX5_readsHill_27 : decode cX5_readsHill 27 = .ok (.iload_n 3, 1) := by decide +kernel
theorem dX5_readsHill_28 : decode cX5_readsHill 28 = .ok (.ifCond .eq 7, 3) := by decide +kernel
theorem dX5_readsHill_31 : decode cX5_readsHill 31 = .ok (.iconst 1, 1) := by decide +kernel
theorem dX5_readsHill_32 : decode cX5_readsHill 32 = .ok (.goto 4, 3) := by decide +kernel
theorem dX5_readsHill_35 : decode cX5_readsHill 35 = .ok (.iconst 0, 1) := by decide +kernel
theorem dX5_readsHill_36 : decode cX5_readsHill 36 = .ok (.iadd, 1) := by decide +kernel
theorem dX5_readsHill_37 : decode cX5_readsHill 37 = .ok (.putfield 81, 3) := by decide +kernel
theorem dX5_readsHill_40 : decode cX5_readsHill 40 = .ok (.aload_n 0, 1) := by decide +kernel
theorem dX5_readsHill_41 : decode cX5_readsHill 41 = .ok (.iload_n 3, 1) := by decide +kernel
theorem dX5_readsHill_42 : decode cX5_readsHill 42 = .ok (.ifCond .eq 14, 3) := by decide +kernel
theorem dX5_readsHill_45 : decode cX5_readsHill 45 = .ok (.aload_n 0, 1) := by decide +kernel
theorem dX5_readsHill_46 : decode cX5_readsHill 46 = .ok (.iload_n 1, 1) := by decide +kernel
theorem dX5_readsHill_47 : decode cX5_readsHill 47 = .ok (.iload_n 2, 1) := by decide +kernel
theorem dX5_readsHill_48 : decode cX5_readsHill 48 = .ok (.iconst 1, 1) := by decide +kernel
theorem dX5_readsHill_49 : decode cX5_readsHill 49 = .ok (.iconst 4, 1) := by decide +kernel
theorem dX5_readsHill_50 : decode cX5_readsHill 50 = .ok (.invokevirtual 91, 3) := by decide +kernel
theorem dX5_readsHill_53 : decode cX5_readsHill 53 = .ok (.goto 5, 3) := by decide +kernel
theorem dX5_readsHill_56 : decode cX5_readsHill 56 = .ok (.bipush (-9), 2) := by decide +kernel
theorem dX5_readsHill_58 : decode cX5_readsHill 58 = .ok (.putfield 95, 3) := by decide +kernel
theorem dX5_readsHill_61 : decode cX5_readsHill 61 = .ok (.aload_n 0, 1) := by decide +kernel
theorem dX5_readsHill_62 : decode cX5_readsHill 62 = .ok (.aload_n 0, 1) := by decide +kernel
theorem dX5_readsHill_63 : decode cX5_readsHill 63 = .ok (.getfield 95, 3) := by decide +kernel
theorem dX5_readsHill_66 : decode cX5_readsHill 66 = .ok (.ifCond .le 14, 3) := by decide +kernel
theorem dX5_readsHill_69 : decode cX5_readsHill 69 = .ok (.aload_n 0, 1) := by decide +kernel
theorem dX5_readsHill_70 : decode cX5_readsHill 70 = .ok (.iload_n 1, 1) := by decide +kernel
theorem dX5_readsHill_71 : decode cX5_readsHill 71 = .ok (.iload_n 2, 1) := by decide +kernel
theorem dX5_readsHill_72 : decode cX5_readsHill 72 = .ok (.iconst 2, 1) := by decide +kernel
theorem dX5_readsHill_73 : decode cX5_readsHill 73 = .ok (.iconst 4, 1) := by decide +kernel
theorem dX5_readsHill_74 : decode cX5_readsHill 74 = .ok (.invokevirtual 91, 3) := by decide +kernel
theorem dX5_readsHill_77 : decode cX5_readsHill 77 = .ok (.goto 5, 3) := by decide +kernel
theorem dX5_readsHill_80 : decode cX5_readsHill 80 = .ok (.bipush (-9), 2) := by decide +kernel
theorem dX5_readsHill_82 : decode cX5_readsHill 82 = .ok (.putfield 88, 3) := by decide +kernel
theorem dX5_readsHill_85 : decode cX5_readsHill 85 = .ok (.aload_n 0, 1) := by decide +kernel
theorem dX5_readsHill_86 : decode cX5_readsHill 86 = .ok (.aload_n 0, 1) := by decide +kernel
theorem dX5_readsHill_87 : decode cX5_readsHill 87 = .ok (.getfield 88, 3) := by decide +kernel
theorem dX5_readsHill_90 : decode cX5_readsHill 90 = .ok (.ifCond .le 14, 3) := by decide +kernel
theorem dX5_readsHill_93 : decode cX5_readsHill 93 = .ok (.aload_n 0, 1) := by decide +kernel
theorem dX5_readsHill_94 : decode cX5_readsHill 94 = .ok (.iload_n 1, 1) := by decide +kernel
theorem dX5_readsHill_95 : decode cX5_readsHill 95 = .ok (.iload_n 2, 1) := by decide +kernel
theorem dX5_readsHill_96 : decode cX5_readsHill 96 = .ok (.iconst 1, 1) := by decide +kernel
theorem dX5_readsHill_97 : decode cX5_readsHill 97 = .ok (.iconst 3, 1) := by decide +kernel
theorem dX5_readsHill_98 : decode cX5_readsHill 98 = .ok (.invokevirtual 91, 3) := by decide +kernel
theorem dX5_readsHill_101 : decode cX5_readsHill 101 = .ok (.goto 5, 3) := by decide +kernel
theorem dX5_readsHill_104 : decode cX5_readsHill 104 = .ok (.bipush (-9), 2) := by decide +kernel
theorem dX5_readsHill_106 : decode cX5_readsHill 106 = .ok (.putfield 98, 3) := by decide +kernel
theorem dX5_readsHill_109 : decode cX5_readsHill 109 = .ok (.aload_n 0, 1) := by decide +kernel
theorem dX5_readsHill_110 : decode cX5_readsHill 110 = .ok (.aload_n 0, 1) := by decide +kernel
theorem dX5_readsHill_111 : decode cX5_readsHill 111 = .ok (.getfield 98, 3) := by decide +kernel
theorem dX5_readsHill_114 : decode cX5_readsHill 114 = .ok (.ifCond .le 15, 3) := by decide +kernel
theorem dX5_readsHill_117 : decode cX5_readsHill 117 = .ok (.aload_n 0, 1) := by decide +kernel
theorem dX5_readsHill_118 : decode cX5_readsHill 118 = .ok (.iload_n 1, 1) := by decide +kernel
theorem dX5_readsHill_119 : decode cX5_readsHill 119 = .ok (.iload_n 2, 1) := by decide +kernel
theorem dX5_readsHill_120 : decode cX5_readsHill 120 = .ok (.iconst 1, 1) := by decide +kernel
theorem dX5_readsHill_121 : decode cX5_readsHill 121 = .ok (.bipush 9, 2) := by decide +kernel
theorem dX5_readsHill_123 : decode cX5_readsHill 123 = .ok (.invokevirtual 91, 3) := by decide +kernel
theorem dX5_readsHill_126 : decode cX5_readsHill 126 = .ok (.goto 5, 3) := by decide +kernel
theorem dX5_readsHill_129 : decode cX5_readsHill 129 = .ok (.bipush (-9), 2) := by decide +kernel
theorem dX5_readsHill_131 : decode cX5_readsHill 131 = .ok (.putfield 101, 3) := by decide +kernel
theorem dX5_readsHill_134 : decode cX5_readsHill 134 = .ok (.aload_n 0, 1) := by decide +kernel
theorem dX5_readsHill_135 : decode cX5_readsHill 135 = .ok (.getfield 101, 3) := by decide +kernel
theorem dX5_readsHill_138 : decode cX5_readsHill 138 = .ok (.ifCond .le 7, 3) := by decide +kernel
theorem dX5_readsHill_141 : decode cX5_readsHill 141 = .ok (.iconst 1, 1) := by decide +kernel
theorem dX5_readsHill_142 : decode cX5_readsHill 142 = .ok (.goto 4, 3) := by decide +kernel
theorem dX5_readsHill_145 : decode cX5_readsHill 145 = .ok (.iconst 0, 1) := by decide +kernel
theorem dX5_readsHill_146 : decode cX5_readsHill 146 = .ok (.istore_n 3, 1) := by decide +kernel
theorem dX5_readsHill_147 : decode cX5_readsHill 147 = .ok (.iconst 0, 1) := by decide +kernel
theorem dX5_readsHill_148 : decode cX5_readsHill 148 = .ok (.istore 4, 2) := by decide +kernel
theorem dX5_readsHill_150 : decode cX5_readsHill 150 = .ok (.iload_n 3, 1) := by decide +kernel
theorem dX5_readsHill_151 : decode cX5_readsHill 151 = .ok (.ifCond .eq 32, 3) := by decide +kernel
theorem dX5_readsHill_154 : decode cX5_readsHill 154 = .ok (.iload 4, 2) := by decide +kernel
theorem dX5_readsHill_156 : decode cX5_readsHill 156 = .ok (.aload_n 0, 1) := by decide +kernel
theorem dX5_readsHill_157 : decode cX5_readsHill 157 = .ok (.getfield 95, 3) := by decide +kernel
theorem dX5_readsHill_160 : decode cX5_readsHill 160 = .ok (.aload_n 0, 1) := by decide +kernel
theorem dX5_readsHill_161 : decode cX5_readsHill 161 = .ok (.getfield 88, 3) := by decide +kernel
theorem dX5_readsHill_164 : decode cX5_readsHill 164 = .ok (.imul, 1) := by decide +kernel
theorem dX5_readsHill_165 : decode cX5_readsHill 165 = .ok (.if_icmp .ge 18, 3) := by decide +kernel
theorem dX5_readsHill_168 : decode cX5_readsHill 168 = .ok (.aload_n 0, 1) := by decide +kernel
theorem dX5_readsHill_169 : decode cX5_readsHill 169 = .ok (.iload_n 1, 1) := by decide +kernel
theorem dX5_readsHill_170 : decode cX5_readsHill 170 = .ok (.iload_n 2, 1) := by decide +kernel
theorem dX5_readsHill_171 : decode cX5_readsHill 171 = .ok (.iload 4, 2) := by decide +kernel
theorem dX5_readsHill_173 : decode cX5_readsHill 173 = .ok (.invokevirtual 104, 3) := by decide +kernel
theorem dX5_readsHill_176 : decode cX5_readsHill 176 = .ok (.istore_n 3, 1) := by decide +kernel
theorem dX5_readsHill_177 : decode cX5_readsHill 177 = .ok (.iinc 4 1, 3) := by decide +kernel
theorem dX5_readsHill_180 : decode cX5_readsHill 180 = .ok (.goto (-30), 3) := by decide +kernel
theorem dX5_readsHill_183 : decode cX5_readsHill 183 = .ok (.iload_n 3, 1) := by decide +kernel
theorem dX5_readsHill_184 : decode cX5_readsHill 184 = .ok (.ifCond .eq 15, 3) := by decide +kernel
theorem dX5_readsHill_187 : decode cX5_readsHill 187 = .ok (.aload_n 0, 1) := by decide +kernel
theorem dX5_readsHill_188 : decode cX5_readsHill 188 = .ok (.getfield 81, 3) := by decide +kernel
theorem dX5_readsHill_191 : decode cX5_readsHill 191 = .ok (.iload_n 2, 1) := by decide +kernel
theorem dX5_readsHill_192 : decode cX5_readsHill 192 = .ok (.if_icmp .ne 7, 3) := by decide +kernel
theorem dX5_readsHill_195 : decode cX5_readsHill 195 = .ok (.iconst 1, 1) := by decide +kernel
theorem dX5_readsHill_196 : decode cX5_readsHill 196 = .ok (.goto 4, 3) := by decide +kernel
theorem dX5_readsHill_199 : decode cX5_readsHill 199 = .ok (.iconst 0, 1) := by decide +kernel
theorem dX5_readsHill_200 : decode cX5_readsHill 200 = .ok (.ireturn, 1) := by decide +kernel
set_option maxRecDepth 20000 in
theorem ggX5_cellsBarred_X5_failed : GoodIn wsX5_cellsBarred wsX5_failed := goodIn_r _ [7, 8, 12, 13, 14, 15, 16, 17, 18, 19, 20, 21, 22, 23, 24, 25, 26, 27, 28, 29, 30, 31, 32, 33, 34, 35, 36, 37, 38, 39, 40, 41] (by decide +kernel) (by decide +kernel)
set_option maxRecDepth 20000 in
theorem gX5_cellsBarred_X5_failed : GoodIn wsX5_cellsBarred (wsV RX5 108 RX5 yX5_failed wsX5_failed) := goodIn_app (goodIn_of _ (by decide +kernel)) ggX5_cellsBarred_X5_failed
set_option maxRecDepth 20000 in
theorem ggX5_cellsBarred_X5_isBeyond : GoodIn wsX5_cellsBarred wsX5_isBeyond := goodIn_r _ [11] (by decide +kernel) (by decide +kernel)
set_option maxRecDepth 20000 in
theorem gX5_cellsBarred_X5_isBeyond : GoodIn wsX5_cellsBarred (va_wsS RX5 112 yX5_isBeyond wsX5_isBeyond) := goodIn_app (goodIn_of _ (by decide +kernel)) ggX5_cellsBarred_X5_isBeyond
theorem dX5_cellsBarred_0 : decode cX5_cellsBarred 0 = .ok (.aload_n 0, 1) := by decide +kernel
theorem dX5_cellsBarred_1 : decode cX5_cellsBarred 1 = .ok (.getfield 41, 3) := by decide +kernel
theorem dX5_cellsBarred_4 : decode cX5_cellsBarred 4 = .ok (.iload_n 1, 1) := by decide +kernel
theorem dX5_cellsBarred_5 : decode cX5_cellsBarred 5 = .ok (.iaload, 1) := by decide +kernel
theorem dX5_cellsBarred_6 : decode cX5_cellsBarred 6 = .ok (.ifCond .lt 19, 3) := by decide +kernel
theorem dX5_cellsBarred_9 : decode cX5_cellsBarred 9 = .ok (.aload_n 0, 1) := by decide +kernel
theorem dX5_cellsBarred_10 : decode cX5_cellsBarred 10 = .ok (.getfield 44, 3) := by decide +kernel
theorem dX5_cellsBarred_13 : decode cX5_cellsBarred 13 = .ok (.iload_n 1, 1) := by decide +kernel
theorem dX5_cellsBarred_14 : decode cX5_cellsBarred 14 = .ok (.iaload, 1) := by decide +kernel
theorem dX5_cellsBarred_15 : decode cX5_cellsBarred 15 = .ok (.iload_n 2, 1) := by decide +kernel
theorem dX5_cellsBarred_16 : decode cX5_cellsBarred 16 = .ok (.if_icmp .eq 9, 3) := by decide +kernel
theorem dX5_cellsBarred_19 : decode cX5_cellsBarred 19 = .ok (.aload_n 0, 1) := by decide +kernel
theorem dX5_cellsBarred_20 : decode cX5_cellsBarred 20 = .ok (.iconst 2, 1) := by decide +kernel
theorem dX5_cellsBarred_21 : decode cX5_cellsBarred 21 = .ok (.invokevirtual 108, 3) := by decide +kernel
theorem dX5_cellsBarred_24 : decode cX5_cellsBarred 24 = .ok (.ireturn, 1) := by decide +kernel
theorem dX5_cellsBarred_25 : decode cX5_cellsBarred 25 = .ok (.aload_n 0, 1) := by decide +kernel
theorem dX5_cellsBarred_26 : decode cX5_cellsBarred 26 = .ok (.getfield 41, 3) := by decide +kernel
theorem dX5_cellsBarred_29 : decode cX5_cellsBarred 29 = .ok (.iload_n 1, 1) := by decide +kernel
theorem dX5_cellsBarred_30 : decode cX5_cellsBarred 30 = .ok (.iaload, 1) := by decide +kernel
theorem dX5_cellsBarred_31 : decode cX5_cellsBarred 31 = .ok (.ifCond .ge 9, 3) := by decide +kernel
theorem dX5_cellsBarred_34 : decode cX5_cellsBarred 34 = .ok (.aload_n 0, 1) := by decide +kernel
theorem dX5_cellsBarred_35 : decode cX5_cellsBarred 35 = .ok (.iconst 1, 1) := by decide +kernel
theorem dX5_cellsBarred_36 : decode cX5_cellsBarred 36 = .ok (.invokevirtual 108, 3) := by decide +kernel
theorem dX5_cellsBarred_39 : decode cX5_cellsBarred 39 = .ok (.ireturn, 1) := by decide +kernel
theorem dX5_cellsBarred_40 : decode cX5_cellsBarred 40 = .ok (.lload 4, 2) := by decide +kernel
theorem dX5_cellsBarred_42 : decode cX5_cellsBarred 42 = .ok (.lconst 0, 1) := by decide +kernel
theorem dX5_cellsBarred_43 : decode cX5_cellsBarred 43 = .ok (.lcmp, 1) := by decide +kernel
theorem dX5_cellsBarred_44 : decode cX5_cellsBarred 44 = .ok (.ifCond .ge 9, 3) := by decide +kernel
theorem dX5_cellsBarred_47 : decode cX5_cellsBarred 47 = .ok (.aload_n 0, 1) := by decide +kernel
theorem dX5_cellsBarred_48 : decode cX5_cellsBarred 48 = .ok (.iconst 4, 1) := by decide +kernel
theorem dX5_cellsBarred_49 : decode cX5_cellsBarred 49 = .ok (.invokevirtual 108, 3) := by decide +kernel
theorem dX5_cellsBarred_52 : decode cX5_cellsBarred 52 = .ok (.ireturn, 1) := by decide +kernel
theorem dX5_cellsBarred_53 : decode cX5_cellsBarred 53 = .ok (.iload_n 3, 1) := by decide +kernel
theorem dX5_cellsBarred_54 : decode cX5_cellsBarred 54 = .ok (.lload 4, 2) := by decide +kernel
theorem dX5_cellsBarred_56 : decode cX5_cellsBarred 56 = .ok (.aload_n 0, 1) := by decide +kernel
theorem dX5_cellsBarred_57 : decode cX5_cellsBarred 57 = .ok (.getfield 41, 3) := by decide +kernel
theorem dX5_cellsBarred_60 : decode cX5_cellsBarred 60 = .ok (.iload_n 1, 1) := by decide +kernel
theorem dX5_cellsBarred_61 : decode cX5_cellsBarred 61 = .ok (.iaload, 1) := by decide +kernel
theorem dX5_cellsBarred_62 : decode cX5_cellsBarred 62 = .ok (.invokestatic 112, 3) := by decide +kernel
theorem dX5_cellsBarred_65 : decode cX5_cellsBarred 65 = .ok (.ifCond .eq 11, 3) := by decide +kernel
theorem dX5_cellsBarred_68 : decode cX5_cellsBarred 68 = .ok (.aload_n 0, 1) := by decide +kernel
theorem dX5_cellsBarred_69 : decode cX5_cellsBarred 69 = .ok (.iconst 3, 1) := by decide +kernel
theorem dX5_cellsBarred_70 : decode cX5_cellsBarred 70 = .ok (.invokevirtual 108, 3) := by decide +kernel
theorem dX5_cellsBarred_73 : decode cX5_cellsBarred 73 = .ok (.goto 4, 3) := by decide +kernel
theorem dX5_cellsBarred_76 : decode cX5_cellsBarred 76 = .ok (.iconst 0, 1) := by decide +kernel
theorem dX5_cellsBarred_77 : decode cX5_cellsBarred 77 = .ok (.ireturn, 1) := by decide +kernel
set_option maxRecDepth 20000 in
theorem ggX5_hill_X5_noSheet : GoodIn wsX5_hill wsX5_noSheet := goodIn_r _ [18, 19, 20, 21, 17, 22] (by decide +kernel) (by decide +kernel)
set_option maxRecDepth 20000 in
theorem gX5_hill_X5_noSheet : GoodIn wsX5_hill (va_wsS RX5 116 yX5_noSheet wsX5_noSheet) := goodIn_app (goodIn_of _ (by decide +kernel)) ggX5_hill_X5_noSheet
set_option maxRecDepth 20000 in
theorem ggX5_hill_X5_refused : GoodIn wsX5_hill wsX5_refused := goodIn_r _ [26, 27, 66, 67, 68, 69, 70, 71, 72, 73, 74, 75, 76, 77, 78, 79, 80, 81, 82, 83, 84, 85, 86, 87, 88, 89, 90, 91, 92, 93, 94, 95] (by decide +kernel) (by decide +kernel)
set_option maxRecDepth 20000 in
theorem gX5_hill_X5_refused : GoodIn wsX5_hill (wsV RX5 119 RX5 yX5_refused wsX5_refused) := goodIn_app (goodIn_of _ (by decide +kernel)) ggX5_hill_X5_refused
set_option maxRecDepth 20000 in
theorem ggX5_hill_X5_in : GoodIn wsX5_hill wsX5_in := goodIn_r _ [22] (by decide +kernel) (by decide +kernel)
set_option maxRecDepth 20000 in
theorem gX5_hill_X5_in : GoodIn wsX5_hill (va_wsS RX5 73 yX5_in wsX5_in) := goodIn_app (goodIn_of _ (by decide +kernel)) ggX5_hill_X5_in
set_option maxRecDepth 20000 in
theorem ggX5_hill_X5_cellsBarred : GoodIn wsX5_hill wsX5_cellsBarred := goodIn_r _ [31, 32, 33, 34, 35, 36, 17, 37, 27, 38, 39, 40, 66, 67, 68, 69, 70, 71, 72, 73, 74, 75, 76, 77, 78, 79, 80, 81, 82, 83, 84, 85, 86, 87, 88, 89, 90, 91, 92, 93, 94, 95] (by decide +kernel) (by decide +kernel)
set_option maxRecDepth 20000 in
theorem gX5_hill_X5_cellsBarred : GoodIn wsX5_hill (wsV RX5 124 RX5 yX5_cellsBarred wsX5_cellsBarred) := goodIn_app (goodIn_of _ (by decide +kernel)) ggX5_hill_X5_cellsBarred
set_option maxRecDepth 20000 in
theorem ggX5_hill_X5_readsHill : GoodIn wsX5_hill wsX5_readsHill := goodIn_r _ [44, 2, 3, 5, 7, 9, 45, 46, 47, 17, 48, 49, 50, 51, 52, 53, 20, 21, 22, 54, 55, 56, 57, 12, 66, 67, 68, 69, 70, 71, 72, 73, 74, 75, 76, 77, 78, 79, 80, 81, 82, 83, 84, 85, 86, 87, 88, 89, 90, 91, 92, 93, 94, 95] (by decide +kernel) (by decide +kernel)
set_option maxRecDepth 20000 in
theorem gX5_hill_X5_readsHill : GoodIn wsX5_hill (wsV RX5 128 RX5 yX5_readsHill wsX5_readsHill) := goodIn_app (goodIn_of _ (by decide +kernel)) ggX5_hill_X5_readsHill
set_option maxRecDepth 20000 in
theorem ggX5_hill_X5_cells : GoodIn wsX5_hill wsX5_cells := goodIn_r _ [61, 4, 6, 66, 67, 68, 69, 70, 71, 72, 73, 74, 75, 76, 77, 78, 79, 80, 81, 82, 83, 84, 85, 86, 87, 88, 89, 90, 91, 92, 93, 94, 95] (by decide +kernel) (by decide +kernel)
set_option maxRecDepth 20000 in
theorem gX5_hill_X5_cells : GoodIn wsX5_hill (wsV RX5 69 RX5 yX5_cells wsX5_cells) := goodIn_app (goodIn_of _ (by decide +kernel)) ggX5_hill_X5_cells
set_option maxRecDepth 20000 in
theorem ggX5_hill_X5_thornsNow : GoodIn wsX5_hill wsX5_thornsNow := goodIn_r _ [65, 11, 58, 59, 60, 17, 61, 4, 6, 66, 67, 68, 69, 70, 71, 72, 73, 74, 75, 76, 77, 78, 79, 80, 81, 82, 83, 84, 85, 86, 87, 88, 89, 90, 91, 92, 93, 94, 95] (by decide +kernel) (by decide +kernel)
set_option maxRecDepth 20000 in
theorem gX5_hill_X5_thornsNow : GoodIn wsX5_hill (wsV RX5 141 RX5 yX5_thornsNow wsX5_thornsNow) := goodIn_app (goodIn_of _ (by decide +kernel)) ggX5_hill_X5_thornsNow
theorem dX5_hill_0 : decode cX5_hill 0 = .ok (.iload_n 1, 1) := by decide +kernel
theorem dX5_hill_1 : decode cX5_hill 1 = .ok (.invokestatic 116, 3) := by decide +kernel
theorem dX5_hill_4 : decode cX5_hill 4 = .ok (.ifCond .eq 9, 3) := by decide +kernel
theorem dX5_hill_7 : decode cX5_hill 7 = .ok (.aload_n 0, 1) := by decide +kernel
theorem dX5_hill_8 : decode cX5_hill 8 = .ok (.iconst (-1), 1) := by decide +kernel
theorem dX5_hill_9 : decode cX5_hill 9 = .ok (.invokevirtual 119, 3) := by decide +kernel
theorem dX5_hill_12 : decode cX5_hill 12 = .ok (.ireturn, 1) := by decide +kernel
theorem dX5_hill_13 : decode cX5_hill 13 = .ok (.iload_n 2, 1) := by decide +kernel
theorem dX5_hill_14 : decode cX5_hill 14 = .ok (.i2l, 1) := by decide +kernel
theorem dX5_hill_15 : decode cX5_hill 15 = .ok (.lconst 0, 1) := by decide +kernel
theorem dX5_hill_16 : decode cX5_hill 16 = .ok (.ldc2_w 122, 3) := by decide +kernel
theorem dX5_hill_19 : decode cX5_hill 19 = .ok (.invokestatic 73, 3) := by decide +kernel
theorem dX5_hill_22 : decode cX5_hill 22 = .ok (.ifCond .ne 10, 3) := by decide +kernel
theorem dX5_hill_25 : decode cX5_hill 25 = .ok (.aload_n 0, 1) := by decide +kernel
theorem dX5_hill_26 : decode cX5_hill 26 = .ok (.bipush (-2), 2) := by decide +kernel
theorem dX5_hill_28 : decode cX5_hill 28 = .ok (.invokevirtual 119, 3) := by decide +kernel
theorem dX5_hill_31 : decode cX5_hill 31 = .ok (.ireturn, 1) := by decide +kernel
theorem dX5_hill_32 : decode cX5_hill 32 = .ok (.aload_n 0, 1) := by decide +kernel
theorem dX5_hill_33 : decode cX5_hill 33 = .ok (.iload_n 1, 1) := by decide +kernel
theorem dX5_hill_34 : decode cX5_hill 34 = .ok (.iload_n 2, 1) := by decide +kernel
theorem dX5_hill_35 : decode cX5_hill 35 = .ok (.iload_n 3, 1) := by decide +kernel
theorem dX5_hill_36 : decode cX5_hill 36 = .ok (.iload 4, 2) := by decide +kernel
theorem dX5_hill_38 : decode cX5_hill 38 = .ok (.i2l, 1) := by decide +kernel
theorem dX5_hill_39 : decode cX5_hill 39 = .ok (.invokevirtual 124, 3) := by decide +kernel
theorem dX5_hill_42 : decode cX5_hill 42 = .ok (.istore 5, 2) := by decide +kernel
theorem dX5_hill_44 : decode cX5_hill 44 = .ok (.iload 5, 2) := by decide +kernel
theorem dX5_hill_46 : decode cX5_hill 46 = .ok (.ifCond .ge 6, 3) := by decide +kernel
theorem dX5_hill_49 : decode cX5_hill 49 = .ok (.iload 5, 2) := by decide +kernel
theorem dX5_hill_51 : decode cX5_hill 51 = .ok (.ireturn, 1) := by decide +kernel
theorem dX5_hill_52 : decode cX5_hill 52 = .ok (.aload_n 0, 1) := by decide +kernel
theorem dX5_hill_53 : decode cX5_hill 53 = .ok (.bipush 60, 2) := by decide +kernel
theorem dX5_hill_55 : decode cX5_hill 55 = .ok (.iload_n 1, 1) := by decide +kernel
theorem dX5_hill_56 : decode cX5_hill 56 = .ok (.imul, 1) := by decide +kernel
theorem dX5_hill_57 : decode cX5_hill 57 = .ok (.iload_n 3, 1) := by decide +kernel
theorem dX5_hill_58 : decode cX5_hill 58 = .ok (.iadd, 1) := by decide +kernel
theorem dX5_hill_59 : decode cX5_hill 59 = .ok (.iload 4, 2) := by decide +kernel
theorem dX5_hill_61 : decode cX5_hill 61 = .ok (.invokevirtual 128, 3) := by decide +kernel
theorem dX5_hill_64 : decode cX5_hill 64 = .ok (.ifCond .ne 15, 3) := by decide +kernel
theorem dX5_hill_67 : decode cX5_hill 67 = .ok (.aload_n 0, 1) := by decide +kernel
theorem dX5_hill_68 : decode cX5_hill 68 = .ok (.bipush (-100), 2) := by decide +kernel
theorem dX5_hill_70 : decode cX5_hill 70 = .ok (.aload_n 0, 1) := by decide +kernel
theorem dX5_hill_71 : decode cX5_hill 71 = .ok (.getfield 81, 3) := by decide +kernel
theorem dX5_hill_74 : decode cX5_hill 74 = .ok (.isub, 1) := by decide +kernel
theorem dX5_hill_75 : decode cX5_hill 75 = .ok (.invokevirtual 119, 3) := by decide +kernel
theorem dX5_hill_78 : decode cX5_hill 78 = .ok (.ireturn, 1) := by decide +kernel
theorem dX5_hill_79 : decode cX5_hill 79 = .ok (.aload_n 0, 1) := by decide +kernel
theorem dX5_hill_80 : decode cX5_hill 80 = .ok (.aload_n 0, 1) := by decide +kernel
theorem dX5_hill_81 : decode cX5_hill 81 = .ok (.getfield 95, 3) := by decide +kernel
theorem dX5_hill_84 : decode cX5_hill 84 = .ok (.putfield 63, 3) := by decide +kernel
theorem dX5_hill_87 : decode cX5_hill 87 = .ok (.aload_n 0, 1) := by decide +kernel
theorem dX5_hill_88 : decode cX5_hill 88 = .ok (.aload_n 0, 1) := by decide +kernel
theorem dX5_hill_89 : decode cX5_hill 89 = .ok (.getfield 88, 3) := by decide +kernel
theorem dX5_hill_92 : decode cX5_hill 92 = .ok (.putfield 66, 3) := by decide +kernel
theorem dX5_hill_95 : decode cX5_hill 95 = .ok (.aload_n 0, 1) := by decide +kernel
theorem dX5_hill_96 : decode cX5_hill 96 = .ok (.aload_n 0, 1) := by decide +kernel
theorem dX5_hill_97 : decode cX5_hill 97 = .ok (.getfield 98, 3) := by decide +kernel
theorem dX5_hill_100 : decode cX5_hill 100 = .ok (.putfield 132, 3) := by decide +kernel
theorem dX5_hill_103 : decode cX5_hill 103 = .ok (.aload_n 0, 1) := by decide +kernel
theorem dX5_hill_104 : decode cX5_hill 104 = .ok (.aload_n 0, 1) := by decide +kernel
theorem dX5_hill_105 : decode cX5_hill 105 = .ok (.getfield 101, 3) := by decide +kernel
theorem dX5_hill_108 : decode cX5_hill 108 = .ok (.putfield 135, 3) := by decide +kernel
theorem dX5_hill_111 : decode cX5_hill 111 = .ok (.iconst 0, 1) := by decide +kernel
theorem dX5_hill_112 : decode cX5_hill 112 = .ok (.istore 6, 2) := by decide +kernel
theorem dX5_hill_114 : decode cX5_hill 114 = .ok (.iload 6, 2) := by decide +kernel
theorem dX5_hill_116 : decode cX5_hill 116 = .ok (.aload_n 0, 1) := by decide +kernel
theorem dX5_hill_117 : decode cX5_hill 117 = .ok (.invokevirtual 69, 3) := by decide +kernel
theorem dX5_hill_120 : decode cX5_hill 120 = .ok (.if_icmp .ge 31, 3) := by decide +kernel
theorem dX5_hill_123 : decode cX5_hill 123 = .ok (.aload_n 0, 1) := by decide +kernel
theorem dX5_hill_124 : decode cX5_hill 124 = .ok (.getfield 7, 3) := by decide +kernel
theorem dX5_hill_127 : decode cX5_hill 127 = .ok (.iload 6, 2) := by decide +kernel
theorem dX5_hill_129 : decode cX5_hill 129 = .ok (.aload_n 0, 1) := by decide +kernel
theorem dX5_hill_130 : decode cX5_hill 130 = .ok (.getfield 16, 3) := by decide +kernel
theorem dX5_hill_133 : decode cX5_hill 133 = .ok (.iload 6, 2) := by decide +kernel
theorem dX5_hill_135 : decode cX5_hill 135 = .ok (.iaload, 1) := by decide +kernel
theorem dX5_hill_136 : decode cX5_hill 136 = .ok (.iastore, 1) := by decide +kernel
theorem dX5_hill_137 : decode cX5_hill 137 = .ok (.aload_n 0, 1) := by decide +kernel
theorem dX5_hill_138 : decode cX5_hill 138 = .ok (.getfield 13, 3) := by decide +kernel
theorem dX5_hill_141 : decode cX5_hill 141 = .ok (.iload 6, 2) := by decide +kernel
theorem dX5_hill_143 : decode cX5_hill 143 = .ok (.iconst 0, 1) := by decide +kernel
theorem dX5_hill_144 : decode cX5_hill 144 = .ok (.iastore, 1) := by decide +kernel
theorem dX5_hill_145 : decode cX5_hill 145 = .ok (.iinc 6 1, 3) := by decide +kernel
theorem dX5_hill_148 : decode cX5_hill 148 = .ok (.goto (-34), 3) := by decide +kernel
theorem dX5_hill_151 : decode cX5_hill 151 = .ok (.aload_n 0, 1) := by decide +kernel
theorem dX5_hill_152 : decode cX5_hill 152 = .ok (.iconst 0, 1) := by decide +kernel
theorem dX5_hill_153 : decode cX5_hill 153 = .ok (.putfield 138, 3) := by decide +kernel
theorem dX5_hill_156 : decode cX5_hill 156 = .ok (.aload_n 0, 1) := by decide +kernel
theorem dX5_hill_157 : decode cX5_hill 157 = .ok (.aload_n 0, 1) := by decide +kernel
theorem dX5_hill_158 : decode cX5_hill 158 = .ok (.invokevirtual 69, 3) := by decide +kernel
theorem dX5_hill_161 : decode cX5_hill 161 = .ok (.aload_n 0, 1) := by decide +kernel
theorem dX5_hill_162 : decode cX5_hill 162 = .ok (.invokevirtual 141, 3) := by decide +kernel
theorem dX5_hill_165 : decode cX5_hill 165 = .ok (.isub, 1) := by decide +kernel
theorem dX5_hill_166 : decode cX5_hill 166 = .ok (.invokevirtual 119, 3) := by decide +kernel
theorem dX5_hill_169 : decode cX5_hill 169 = .ok (.ireturn, 1) := by decide +kernel
set_option maxRecDepth 20000 in
theorem ggX5_thornsNow_X5_cells : GoodIn wsX5_thornsNow wsX5_cells := goodIn_r _ [6, 7, 8, 9, 10, 11, 12, 13, 14, 15, 16, 17, 18, 19, 20, 21, 22, 23, 24, 25, 26, 27, 28, 29, 30, 31, 32, 33, 34, 35, 36, 37, 38] (by decide +kernel) (by decide +kernel)
set_option maxRecDepth 20000 in
theorem gX5_thornsNow_X5_cells : GoodIn wsX5_thornsNow (wsV RX5 69 RX5 yX5_cells wsX5_cells) := goodIn_app (goodIn_of _ (by decide +kernel)) ggX5_thornsNow_X5_cells
theorem dX5_thornsNow_0 : decode cX5_thornsNow 0 = .ok (.iconst 0, 1) := by decide +kernel
theorem dX5_thornsNow_1 : decode cX5_thornsNow 1 = .ok (.istore_n 1, 1) := by decide +kernel
theorem dX5_thornsNow_2 : decode cX5_thornsNow 2 = .ok (.iconst 0, 1) := by decide +kernel
theorem dX5_thornsNow_3 : decode cX5_thornsNow 3 = .ok (.istore_n 2, 1) := by decide +kernel
theorem dX5_thornsNow_4 : decode cX5_thornsNow 4 = .ok (.iload_n 2, 1) := by decide +kernel
theorem dX5_thornsNow_5 : decode cX5_thornsNow 5 = .ok (.aload_n 0, 1) := by decide +kernel
theorem dX5_thornsNow_6 : decode cX5_thornsNow 6 = .ok (.invokevirtual 69, 3) := by decide +kernel
theorem dX5_thornsNow_9 : decode cX5_thornsNow 9 = .ok (.if_icmp .ge 27, 3) := by decide +kernel
theorem dX5_thornsNow_12 : decode cX5_thornsNow 12 = .ok (.iload_n 1, 1) := by decide +kernel
theorem dX5_thornsNow_13 : decode cX5_thornsNow 13 = .ok (.aload_n 0, 1) := by decide +kernel
theorem dX5_thornsNow_14 : decode cX5_thornsNow 14 = .ok (.getfield 7, 3) := by decide +kernel
theorem dX5_thornsNow_17 : decode cX5_thornsNow 17 = .ok (.iload_n 2, 1) := by decide +kernel
theorem dX5_thornsNow_18 : decode cX5_thornsNow 18 = .ok (.iaload, 1) := by decide +kernel
theorem dX5_thornsNow_19 : decode cX5_thornsNow 19 = .ok (.iconst 3, 1) := by decide +kernel
theorem dX5_thornsNow_20 : decode cX5_thornsNow 20 = .ok (.if_icmp .ne 7, 3) := by decide +kernel
theorem dX5_thornsNow_23 : decode cX5_thornsNow 23 = .ok (.iconst 1, 1) := by decide +kernel
theorem dX5_thornsNow_24 : decode cX5_thornsNow 24 = .ok (.goto 4, 3) := by decide +kernel
theorem dX5_thornsNow_27 : decode cX5_thornsNow 27 = .ok (.iconst 0, 1) := by decide +kernel
theorem dX5_thornsNow_28 : decode cX5_thornsNow 28 = .ok (.iadd, 1) := by decide +kernel
theorem dX5_thornsNow_29 : decode cX5_thornsNow 29 = .ok (.istore_n 1, 1) := by decide +kernel
theorem dX5_thornsNow_30 : decode cX5_thornsNow 30 = .ok (.iinc 2 1, 3) := by decide +kernel
theorem dX5_thornsNow_33 : decode cX5_thornsNow 33 = .ok (.goto (-29), 3) := by decide +kernel
theorem dX5_thornsNow_36 : decode cX5_thornsNow 36 = .ok (.iload_n 1, 1) := by decide +kernel
theorem dX5_thornsNow_37 : decode cX5_thornsNow 37 = .ok (.ireturn, 1) := by decide +kernel
theorem dX5_growsOf_0 : decode cX5_growsOf 0 = .ok (.aload_n 0, 1) := by decide +kernel
theorem dX5_growsOf_1 : decode cX5_growsOf 1 = .ok (.getfield 7, 3) := by decide +kernel
theorem dX5_growsOf_4 : decode cX5_growsOf 4 = .ok (.iload_n 1, 1) := by decide +kernel
theorem dX5_growsOf_5 : decode cX5_growsOf 5 = .ok (.iaload, 1) := by decide +kernel
theorem dX5_growsOf_6 : decode cX5_growsOf 6 = .ok (.istore_n 2, 1) := by decide +kernel
theorem dX5_growsOf_7 : decode cX5_growsOf 7 = .ok (.iload_n 2, 1) := by decide +kernel
theorem dX5_growsOf_8 : decode cX5_growsOf 8 = .ok (.iconst 3, 1) := by decide +kernel
theorem dX5_growsOf_9 : decode cX5_growsOf 9 = .ok (.if_icmp .ne 7, 3) := by decide +kernel
theorem dX5_growsOf_12 : decode cX5_growsOf 12 = .ok (.iconst 0, 1) := by decide +kernel
theorem dX5_growsOf_13 : decode cX5_growsOf 13 = .ok (.goto 36, 3) := by decide +kernel
theorem dX5_growsOf_16 : decode cX5_growsOf 16 = .ok (.iload_n 2, 1) := by decide +kernel
theorem dX5_growsOf_17 : decode cX5_growsOf 17 = .ok (.ifCond .ne 10, 3) := by decide +kernel
theorem dX5_growsOf_20 : decode cX5_growsOf 20 = .ok (.aload_n 0, 1) := by decide +kernel
theorem dX5_growsOf_21 : decode cX5_growsOf 21 = .ok (.getfield 132, 3) := by decide +kernel
theorem dX5_growsOf_24 : decode cX5_growsOf 24 = .ok (.goto 25, 3) := by decide +kernel
theorem dX5_growsOf_27 : decode cX5_growsOf 27 = .ok (.iload_n 2, 1) := by decide +kernel
theorem dX5_growsOf_28 : decode cX5_growsOf 28 = .ok (.iconst 1, 1) := by decide +kernel
theorem dX5_growsOf_29 : decode cX5_growsOf 29 = .ok (.if_icmp .ne 12, 3) := by decide +kernel
theorem dX5_growsOf_32 : decode cX5_growsOf 32 = .ok (.aload_n 0, 1) := by decide +kernel
theorem dX5_growsOf_33 : decode cX5_growsOf 33 = .ok (.getfield 132, 3) := by decide +kernel
theorem dX5_growsOf_36 : decode cX5_growsOf 36 = .ok (.iconst 1, 1) := by decide +kernel
theorem dX5_growsOf_37 : decode cX5_growsOf 37 = .ok (.iadd, 1) := by decide +kernel
theorem dX5_growsOf_38 : decode cX5_growsOf 38 = .ok (.goto 11, 3) := by decide +kernel
theorem dX5_growsOf_41 : decode cX5_growsOf 41 = .ok (.iconst 2, 1) := by decide +kernel
theorem dX5_growsOf_42 : decode cX5_growsOf 42 = .ok (.aload_n 0, 1) := by decide +kernel
theorem dX5_growsOf_43 : decode cX5_growsOf 43 = .ok (.getfield 132, 3) := by decide +kernel
theorem dX5_growsOf_46 : decode cX5_growsOf 46 = .ok (.iconst 1, 1) := by decide +kernel
theorem dX5_growsOf_47 : decode cX5_growsOf 47 = .ok (.iadd, 1) := by decide +kernel
theorem dX5_growsOf_48 : decode cX5_growsOf 48 = .ok (.imul, 1) := by decide +kernel
theorem dX5_growsOf_49 : decode cX5_growsOf 49 = .ok (.ireturn, 1) := by decide +kernel
set_option maxRecDepth 20000 in
theorem ggX5_coatOf_X5_growsOf : GoodIn wsX5_coatOf wsX5_growsOf := goodIn_r _ [7, 2, 8, 9, 10, 11, 12, 13, 14, 15, 16, 17, 18, 19, 20, 21, 22, 23, 24, 25, 26, 27, 28, 29, 30, 31, 32, 33, 34, 35, 36, 37, 38] (by decide +kernel) (by decide +kernel)
set_option maxRecDepth 20000 in
theorem gX5_coatOf_X5_growsOf : GoodIn wsX5_coatOf (wsV RX5 144 RX5 yX5_growsOf wsX5_growsOf) := goodIn_app (goodIn_of _ (by decide +kernel)) ggX5_coatOf_X5_growsOf
theorem dX5_coatOf_0 : decode cX5_coatOf 0 = .ok (.aload_n 0, 1) := by decide +kernel
theorem dX5_coatOf_1 : decode cX5_coatOf 1 = .ok (.iload_n 1, 1) := by decide +kernel
theorem dX5_coatOf_2 : decode cX5_coatOf 2 = .ok (.invokevirtual 144, 3) := by decide +kernel
theorem dX5_coatOf_5 : decode cX5_coatOf 5 = .ok (.iload_n 2, 1) := by decide +kernel
theorem dX5_coatOf_6 : decode cX5_coatOf 6 = .ok (.imul, 1) := by decide +kernel
theorem dX5_coatOf_7 : decode cX5_coatOf 7 = .ok (.aload_n 0, 1) := by decide +kernel
theorem dX5_coatOf_8 : decode cX5_coatOf 8 = .ok (.getfield 13, 3) := by decide +kernel
theorem dX5_coatOf_11 : decode cX5_coatOf 11 = .ok (.iload_n 1, 1) := by decide +kernel
theorem dX5_coatOf_12 : decode cX5_coatOf 12 = .ok (.iaload, 1) := by decide +kernel
theorem dX5_coatOf_13 : decode cX5_coatOf 13 = .ok (.isub, 1) := by decide +kernel
theorem dX5_coatOf_14 : decode cX5_coatOf 14 = .ok (.istore_n 3, 1) := by decide +kernel
theorem dX5_coatOf_15 : decode cX5_coatOf 15 = .ok (.aload_n 0, 1) := by decide +kernel
theorem dX5_coatOf_16 : decode cX5_coatOf 16 = .ok (.getfield 7, 3) := by decide +kernel
theorem dX5_coatOf_19 : decode cX5_coatOf 19 = .ok (.iload_n 1, 1) := by decide +kernel
theorem dX5_coatOf_20 : decode cX5_coatOf 20 = .ok (.iaload, 1) := by decide +kernel
theorem dX5_coatOf_21 : decode cX5_coatOf 21 = .ok (.iconst 3, 1) := by decide +kernel
theorem dX5_coatOf_22 : decode cX5_coatOf 22 = .ok (.if_icmp .eq 7, 3) := by decide +kernel
theorem dX5_coatOf_25 : decode cX5_coatOf 25 = .ok (.iload_n 3, 1) := by decide +kernel
theorem dX5_coatOf_26 : decode cX5_coatOf 26 = .ok (.ifCond .ge 7, 3) := by decide +kernel
theorem dX5_coatOf_29 : decode cX5_coatOf 29 = .ok (.iconst 0, 1) := by decide +kernel
theorem dX5_coatOf_30 : decode cX5_coatOf 30 = .ok (.goto 15, 3) := by decide +kernel
theorem dX5_coatOf_33 : decode cX5_coatOf 33 = .ok (.iload_n 3, 1) := by decide +kernel
theorem dX5_coatOf_34 : decode cX5_coatOf 34 = .ok (.bipush 9, 2) := by decide +kernel
theorem dX5_coatOf_36 : decode cX5_coatOf 36 = .ok (.if_icmp .le 8, 3) := by decide +kernel
theorem dX5_coatOf_39 : decode cX5_coatOf 39 = .ok (.bipush 9, 2) := by decide +kernel
theorem dX5_coatOf_41 : decode cX5_coatOf 41 = .ok (.goto 4, 3) := by decide +kernel
theorem dX5_coatOf_44 : decode cX5_coatOf 44 = .ok (.iload_n 3, 1) := by decide +kernel
theorem dX5_coatOf_45 : decode cX5_coatOf 45 = .ok (.ireturn, 1) := by decide +kernel
set_option maxRecDepth 20000 in
theorem ggX5_ripeBy_X5_cells : GoodIn wsX5_ripeBy wsX5_cells := goodIn_r _ [6, 7, 8, 20, 21, 22, 23, 24, 25, 26, 27, 28, 29, 30, 31, 32, 33, 34, 35, 36, 37, 38, 39, 40, 41, 42, 43, 44, 45, 46, 47, 48, 49] (by decide +kernel) (by decide +kernel)
set_option maxRecDepth 20000 in
theorem gX5_ripeBy_X5_cells : GoodIn wsX5_ripeBy (wsV RX5 69 RX5 yX5_cells wsX5_cells) := goodIn_app (goodIn_of _ (by decide +kernel)) ggX5_ripeBy_X5_cells
set_option maxRecDepth 20000 in
theorem ggX5_ripeBy_X5_coatOf : GoodIn wsX5_ripeBy wsX5_coatOf := goodIn_r _ [12, 13, 14, 15, 16, 17, 5, 18, 19, 20, 21, 22, 23, 24, 25, 26, 27, 28, 29, 30, 31, 32, 33, 34, 35, 36, 37, 38, 39, 40, 41, 42, 43, 44, 45, 46, 47, 48, 49] (by decide +kernel) (by decide +kernel)
set_option maxRecDepth 20000 in
theorem gX5_ripeBy_X5_coatOf : GoodIn wsX5_ripeBy (wsV RX5 147 RX5 yX5_coatOf wsX5_coatOf) := goodIn_app (goodIn_of _ (by decide +kernel)) ggX5_ripeBy_X5_coatOf
theorem dX5_ripeBy_0 : decode cX5_ripeBy 0 = .ok (.iconst 0, 1) := by decide +kernel
theorem dX5_ripeBy_1 : decode cX5_ripeBy 1 = .ok (.istore_n 2, 1) := by decide +kernel
theorem dX5_ripeBy_2 : decode cX5_ripeBy 2 = .ok (.iconst 0, 1) := by decide +kernel
theorem dX5_ripeBy_3 : decode cX5_ripeBy 3 = .ok (.istore_n 3, 1) := by decide +kernel
theorem dX5_ripeBy_4 : decode cX5_ripeBy 4 = .ok (.iload_n 3, 1) := by decide +kernel
theorem dX5_ripeBy_5 : decode cX5_ripeBy 5 = .ok (.aload_n 0, 1) := by decide +kernel
theorem dX5_ripeBy_6 : decode cX5_ripeBy 6 = .ok (.invokevirtual 69, 3) := by decide +kernel
theorem dX5_ripeBy_9 : decode cX5_ripeBy 9 = .ok (.if_icmp .ge 32, 3) := by decide +kernel
theorem dX5_ripeBy_12 : decode cX5_ripeBy 12 = .ok (.iload_n 2, 1) := by decide +kernel
theorem dX5_ripeBy_13 : decode cX5_ripeBy 13 = .ok (.aload_n 0, 1) := by decide +kernel
theorem dX5_ripeBy_14 : decode cX5_ripeBy 14 = .ok (.iload_n 3, 1) := by decide +kernel
theorem dX5_ripeBy_15 : decode cX5_ripeBy 15 = .ok (.iload_n 1, 1) := by decide +kernel
theorem dX5_ripeBy_16 : decode cX5_ripeBy 16 = .ok (.invokevirtual 147, 3) := by decide +kernel
theorem dX5_ripeBy_19 : decode cX5_ripeBy 19 = .ok (.aload_n 0, 1) := by decide +kernel
theorem dX5_ripeBy_20 : decode cX5_ripeBy 20 = .ok (.getfield 135, 3) := by decide +kernel
theorem dX5_ripeBy_23 : decode cX5_ripeBy 23 = .ok (.if_icmp .lt 9, 3) := by decide +kernel
theorem dX5_ripeBy_26 : decode cX5_ripeBy 26 = .ok (.iconst 1, 1) := by decide +kernel
theorem dX5_ripeBy_27 : decode cX5_ripeBy 27 = .ok (.iload_n 3, 1) := by decide +kernel
theorem dX5_ripeBy_28 : decode cX5_ripeBy 28 = .ok (.ishl, 1) := by decide +kernel
theorem dX5_ripeBy_29 : decode cX5_ripeBy 29 = .ok (.goto 4, 3) := by decide +kernel
theorem dX5_ripeBy_32 : decode cX5_ripeBy 32 = .ok (.iconst 0, 1) := by decide +kernel
theorem dX5_ripeBy_33 : decode cX5_ripeBy 33 = .ok (.ior, 1) := by decide +kernel
theorem dX5_ripeBy_34 : decode cX5_ripeBy 34 = .ok (.istore_n 2, 1) := by decide +kernel
theorem dX5_ripeBy_35 : decode cX5_ripeBy 35 = .ok (.iinc 3 1, 3) := by decide +kernel
theorem dX5_ripeBy_38 : decode cX5_ripeBy 38 = .ok (.goto (-34), 3) := by decide +kernel
theorem dX5_ripeBy_41 : decode cX5_ripeBy 41 = .ok (.iload_n 2, 1) := by decide +kernel
theorem dX5_ripeBy_42 : decode cX5_ripeBy 42 = .ok (.ireturn, 1) := by decide +kernel
set_option maxRecDepth 20000 in
theorem ggX5_noWeeks_X5_in : GoodIn wsX5_noWeeks wsX5_in := goodIn_r _ [5] (by decide +kernel) (by decide +kernel)
set_option maxRecDepth 20000 in
theorem gX5_noWeeks_X5_in : GoodIn wsX5_noWeeks (va_wsS RX5 73 yX5_in wsX5_in) := goodIn_app (goodIn_of _ (by decide +kernel)) ggX5_noWeeks_X5_in
theorem dX5_noWeeks_0 : decode cX5_noWeeks 0 = .ok (.iload_n 0, 1) := by decide +kernel
theorem dX5_noWeeks_1 : decode cX5_noWeeks 1 = .ok (.i2l, 1) := by decide +kernel
theorem dX5_noWeeks_2 : decode cX5_noWeeks 2 = .ok (.lconst 0, 1) := by decide +kernel
theorem dX5_noWeeks_3 : decode cX5_noWeeks 3 = .ok (.ldc2_w 150, 3) := by decide +kernel
theorem dX5_noWeeks_6 : decode cX5_noWeeks 6 = .ok (.invokestatic 73, 3) := by decide +kernel
theorem dX5_noWeeks_9 : decode cX5_noWeeks 9 = .ok (.ifCond .ne 7, 3) := by decide +kernel
theorem dX5_noWeeks_12 : decode cX5_noWeeks 12 = .ok (.iconst 1, 1) := by decide +kernel
theorem dX5_noWeeks_13 : decode cX5_noWeeks 13 = .ok (.goto 4, 3) := by decide +kernel
theorem dX5_noWeeks_16 : decode cX5_noWeeks 16 = .ok (.iconst 0, 1) := by decide +kernel
theorem dX5_noWeeks_17 : decode cX5_noWeeks 17 = .ok (.ireturn, 1) := by decide +kernel
set_option maxRecDepth 20000 in
theorem ggX5_ofCell_X5_noPlace : GoodIn wsX5_ofCell wsX5_noPlace := goodIn_r _ [7, 8, 9, 10, 6, 11, 12, 13, 14, 15, 16, 22, 23, 24, 25, 26, 27, 28, 29, 30, 31, 32, 33, 34, 35, 36, 37, 38, 39, 40, 41, 42, 43, 44, 45, 46, 47, 48, 49, 50, 51] (by decide +kernel) (by decide +kernel)
set_option maxRecDepth 20000 in
theorem gX5_ofCell_X5_noPlace : GoodIn wsX5_ofCell (wsV RX5 77 RX5 yX5_noPlace wsX5_noPlace) := goodIn_app (goodIn_of _ (by decide +kernel)) ggX5_ofCell_X5_noPlace
set_option maxRecDepth 20000 in
theorem ggX5_ofCell_X5_growsOf : GoodIn wsX5_ofCell wsX5_growsOf := goodIn_r _ [20, 1, 21, 22, 23, 24, 25, 26, 27, 28, 29, 30, 31, 32, 33, 34, 35, 36, 37, 38, 39, 40, 41, 42, 43, 44, 45, 46, 47, 48, 49, 50, 51] (by decide +kernel) (by decide +kernel)
set_option maxRecDepth 20000 in
theorem gX5_ofCell_X5_growsOf : GoodIn wsX5_ofCell (wsV RX5 144 RX5 yX5_growsOf wsX5_growsOf) := goodIn_app (goodIn_of _ (by decide +kernel)) ggX5_ofCell_X5_growsOf
theorem dX5_ofCell_0 : decode cX5_ofCell 0 = .ok (.aload_n 0, 1) := by decide +kernel
theorem dX5_ofCell_1 : decode cX5_ofCell 1 = .ok (.iload_n 1, 1) := by decide +kernel
theorem dX5_ofCell_2 : decode cX5_ofCell 2 = .ok (.invokevirtual 77, 3) := by decide +kernel
theorem dX5_ofCell_5 : decode cX5_ofCell 5 = .ok (.ifCond .eq 5, 3) := by decide +kernel
theorem dX5_ofCell_8 : decode cX5_ofCell 8 = .ok (.iconst (-1), 1) := by decide +kernel
theorem dX5_ofCell_9 : decode cX5_ofCell 9 = .ok (.ireturn, 1) := by decide +kernel
theorem dX5_ofCell_10 : decode cX5_ofCell 10 = .ok (.iload_n 2, 1) := by decide +kernel
theorem dX5_ofCell_11 : decode cX5_ofCell 11 = .ok (.tableswitch 45 0 2 #[25, 32, 38], 25) := by decide +kernel
theorem dX5_ofCell_36 : decode cX5_ofCell 36 = .ok (.aload_n 0, 1) := by decide +kernel
theorem dX5_ofCell_37 : decode cX5_ofCell 37 = .ok (.getfield 7, 3) := by decide +kernel
theorem dX5_ofCell_40 : decode cX5_ofCell 40 = .ok (.iload_n 1, 1) := by decide +kernel
theorem dX5_ofCell_41 : decode cX5_ofCell 41 = .ok (.iaload, 1) := by decide +kernel
theorem dX5_ofCell_42 : decode cX5_ofCell 42 = .ok (.ireturn, 1) := by decide +kernel
theorem dX5_ofCell_43 : decode cX5_ofCell 43 = .ok (.aload_n 0, 1) := by decide +kernel
theorem dX5_ofCell_44 : decode cX5_ofCell 44 = .ok (.iload_n 1, 1) := by decide +kernel
theorem dX5_ofCell_45 : decode cX5_ofCell 45 = .ok (.invokevirtual 144, 3) := by decide +kernel
theorem dX5_ofCell_48 : decode cX5_ofCell 48 = .ok (.ireturn, 1) := by decide +kernel
theorem dX5_ofCell_49 : decode cX5_ofCell 49 = .ok (.aload_n 0, 1) := by decide +kernel
theorem dX5_ofCell_50 : decode cX5_ofCell 50 = .ok (.getfield 13, 3) := by decide +kernel
theorem dX5_ofCell_53 : decode cX5_ofCell 53 = .ok (.iload_n 1, 1) := by decide +kernel
theorem dX5_ofCell_54 : decode cX5_ofCell 54 = .ok (.iaload, 1) := by decide +kernel
theorem dX5_ofCell_55 : decode cX5_ofCell 55 = .ok (.ireturn, 1) := by decide +kernel
theorem dX5_ofCell_56 : decode cX5_ofCell 56 = .ok (.bipush (-2), 2) := by decide +kernel
theorem dX5_ofCell_58 : decode cX5_ofCell 58 = .ok (.ireturn, 1) := by decide +kernel
set_option maxRecDepth 20000 in
theorem ggX5_goats_X5_noGrass : GoodIn wsX5_goats wsX5_noGrass := goodIn_r _ [7, 8, 9, 10, 11, 6, 12, 13, 14, 15, 16, 17, 18, 19, 20, 21, 22, 23, 24, 25, 26, 27, 28, 29, 30, 31, 32, 33, 34, 35, 36, 37, 38, 39, 40, 41, 42, 43, 44, 45, 46, 47, 48, 49, 50, 51] (by decide +kernel) (by decide +kernel)
set_option maxRecDepth 20000 in
theorem gX5_goats_X5_noGrass : GoodIn wsX5_goats (wsV RX5 152 RX5 yX5_noGrass wsX5_noGrass) := goodIn_app (goodIn_of _ (by decide +kernel)) ggX5_goats_X5_noGrass
set_option maxRecDepth 20000 in
theorem ggX5_goats_X5_in : GoodIn wsX5_goats wsX5_in := goodIn_r _ [21] (by decide +kernel) (by decide +kernel)
set_option maxRecDepth 20000 in
theorem gX5_goats_X5_in : GoodIn wsX5_goats (va_wsS RX5 73 yX5_in wsX5_in) := goodIn_app (goodIn_of _ (by decide +kernel)) ggX5_goats_X5_in
theorem dX5_goats_0 : decode cX5_goats 0 = .ok (.aload_n 0, 1) := by decide +kernel
theorem dX5_goats_1 : decode cX5_goats 1 = .ok (.iload_n 1, 1) := by decide +kernel
theorem dX5_goats_2 : decode cX5_goats 2 = .ok (.invokevirtual 152, 3) := by decide +kernel
theorem dX5_goats_5 : decode cX5_goats 5 = .ok (.ifCond .eq 5, 3) := by decide +kernel
theorem dX5_goats_8 : decode cX5_goats 8 = .ok (.iconst (-1), 1) := by decide +kernel
theorem dX5_goats_9 : decode cX5_goats 9 = .ok (.ireturn, 1) := by decide +kernel
theorem dX5_goats_10 : decode cX5_goats 10 = .ok (.iload_n 2, 1) := by decide +kernel
theorem dX5_goats_11 : decode cX5_goats 11 = .ok (.i2l, 1) := by decide +kernel
theorem dX5_goats_12 : decode cX5_goats 12 = .ok (.lconst 0, 1) := by decide +kernel
theorem dX5_goats_13 : decode cX5_goats 13 = .ok (.ldc2_w 150, 3) := by decide +kernel
theorem dX5_goats_16 : decode cX5_goats 16 = .ok (.invokestatic 73, 3) := by decide +kernel
theorem dX5_goats_19 : decode cX5_goats 19 = .ok (.ifCond .ne 6, 3) := by decide +kernel
theorem dX5_goats_22 : decode cX5_goats 22 = .ok (.bipush (-2), 2) := by decide +kernel
theorem dX5_goats_24 : decode cX5_goats 24 = .ok (.ireturn, 1) := by decide +kernel
theorem dX5_goats_25 : decode cX5_goats 25 = .ok (.aload_n 0, 1) := by decide +kernel
theorem dX5_goats_26 : decode cX5_goats 26 = .ok (.getfield 13, 3) := by decide +kernel
theorem dX5_goats_29 : decode cX5_goats 29 = .ok (.iload_n 1, 1) := by decide +kernel
theorem dX5_goats_30 : decode cX5_goats 30 = .ok (.iaload, 1) := by decide +kernel
theorem dX5_goats_31 : decode cX5_goats 31 = .ok (.istore_n 3, 1) := by decide +kernel
theorem dX5_goats_32 : decode cX5_goats 32 = .ok (.aload_n 0, 1) := by decide +kernel
theorem dX5_goats_33 : decode cX5_goats 33 = .ok (.getfield 13, 3) := by decide +kernel
theorem dX5_goats_36 : decode cX5_goats 36 = .ok (.iload_n 1, 1) := by decide +kernel
theorem dX5_goats_37 : decode cX5_goats 37 = .ok (.iload_n 2, 1) := by decide +kernel
theorem dX5_goats_38 : decode cX5_goats 38 = .ok (.iastore, 1) := by decide +kernel
theorem dX5_goats_39 : decode cX5_goats 39 = .ok (.iload_n 3, 1) := by decide +kernel
theorem dX5_goats_40 : decode cX5_goats 40 = .ok (.ireturn, 1) := by decide +kernel
set_option maxRecDepth 20000 in
theorem ggX5_pace_X5_in : GoodIn wsX5_pace wsX5_in := goodIn_r _ [7] (by decide +kernel) (by decide +kernel)
set_option maxRecDepth 20000 in
theorem gX5_pace_X5_in : GoodIn wsX5_pace (va_wsS RX5 73 yX5_in wsX5_in) := goodIn_app (goodIn_of _ (by decide +kernel)) ggX5_pace_X5_in
theorem dX5_pace_0 : decode cX5_pace 0 = .ok (.iload_n 1, 1) := by decide +kernel
theorem dX5_pace_1 : decode cX5_pace 1 = .ok (.i2l, 1) := by decide +kernel
theorem dX5_pace_2 : decode cX5_pace 2 = .ok (.lconst 1, 1) := by decide +kernel
theorem dX5_pace_3 : decode cX5_pace 3 = .ok (.ldc2_w 155, 3) := by decide +kernel
theorem dX5_pace_6 : decode cX5_pace 6 = .ok (.invokestatic 73, 3) := by decide +kernel
theorem dX5_pace_9 : decode cX5_pace 9 = .ok (.ifCond .ne 6, 3) := by decide +kernel
theorem dX5_pace_12 : decode cX5_pace 12 = .ok (.bipush (-2), 2) := by decide +kernel
theorem dX5_pace_14 : decode cX5_pace 14 = .ok (.ireturn, 1) := by decide +kernel
theorem dX5_pace_15 : decode cX5_pace 15 = .ok (.aload_n 0, 1) := by decide +kernel
theorem dX5_pace_16 : decode cX5_pace 16 = .ok (.getfield 63, 3) := by decide +kernel
theorem dX5_pace_19 : decode cX5_pace 19 = .ok (.ifCond .ne 6, 3) := by decide +kernel
theorem dX5_pace_22 : decode cX5_pace 22 = .ok (.bipush (-3), 2) := by decide +kernel
theorem dX5_pace_24 : decode cX5_pace 24 = .ok (.ireturn, 1) := by decide +kernel
theorem dX5_pace_25 : decode cX5_pace 25 = .ok (.aload_n 0, 1) := by decide +kernel
theorem dX5_pace_26 : decode cX5_pace 26 = .ok (.getfield 132, 3) := by decide +kernel
theorem dX5_pace_29 : decode cX5_pace 29 = .ok (.istore_n 2, 1) := by decide +kernel
theorem dX5_pace_30 : decode cX5_pace 30 = .ok (.aload_n 0, 1) := by decide +kernel
theorem dX5_pace_31 : decode cX5_pace 31 = .ok (.iload_n 1, 1) := by decide +kernel
theorem dX5_pace_32 : decode cX5_pace 32 = .ok (.putfield 132, 3) := by decide +kernel
theorem dX5_pace_35 : decode cX5_pace 35 = .ok (.iload_n 2, 1) := by decide +kernel
theorem dX5_pace_36 : decode cX5_pace 36 = .ok (.ireturn, 1) := by decide +kernel
set_option maxRecDepth 20000 in
theorem ggX5_breadth_X5_in : GoodIn wsX5_breadth wsX5_in := goodIn_r _ [7] (by decide +kernel) (by decide +kernel)
set_option maxRecDepth 20000 in
theorem gX5_breadth_X5_in : GoodIn wsX5_breadth (va_wsS RX5 73 yX5_in wsX5_in) := goodIn_app (goodIn_of _ (by decide +kernel)) ggX5_breadth_X5_in
theorem dX5_breadth_0 : decode cX5_breadth 0 = .ok (.iload_n 1, 1) := by decide +kernel
theorem dX5_breadth_1 : decode cX5_breadth 1 = .ok (.i2l, 1) := by decide +kernel
theorem dX5_breadth_2 : decode cX5_breadth 2 = .ok (.lconst 1, 1) := by decide +kernel
theorem dX5_breadth_3 : decode cX5_breadth 3 = .ok (.ldc2_w 150, 3) := by decide +kernel
theorem dX5_breadth_6 : decode cX5_breadth 6 = .ok (.invokestatic 73, 3) := by decide +kernel
theorem dX5_breadth_9 : decode cX5_breadth 9 = .ok (.ifCond .ne 6, 3) := by decide +kernel
theorem dX5_breadth_12 : decode cX5_breadth 12 = .ok (.bipush (-2), 2) := by decide +kernel
theorem dX5_breadth_14 : decode cX5_breadth 14 = .ok (.ireturn, 1) := by decide +kernel
theorem dX5_breadth_15 : decode cX5_breadth 15 = .ok (.aload_n 0, 1) := by decide +kernel
theorem dX5_breadth_16 : decode cX5_breadth 16 = .ok (.getfield 63, 3) := by decide +kernel
theorem dX5_breadth_19 : decode cX5_breadth 19 = .ok (.ifCond .ne 6, 3) := by decide +kernel
theorem dX5_breadth_22 : decode cX5_breadth 22 = .ok (.bipush (-3), 2) := by decide +kernel
theorem dX5_breadth_24 : decode cX5_breadth 24 = .ok (.ireturn, 1) := by decide +kernel
theorem dX5_breadth_25 : decode cX5_breadth 25 = .ok (.aload_n 0, 1) := by decide +kernel
theorem dX5_breadth_26 : decode cX5_breadth 26 = .ok (.getfield 135, 3) := by decide +kernel
theorem dX5_breadth_29 : decode cX5_breadth 29 = .ok (.istore_n 2, 1) := by decide +kernel
theorem dX5_breadth_30 : decode cX5_breadth 30 = .ok (.aload_n 0, 1) := by decide +kernel
theorem dX5_breadth_31 : decode cX5_breadth 31 = .ok (.iload_n 1, 1) := by decide +kernel
theorem dX5_breadth_32 : decode cX5_breadth 32 = .ok (.putfield 135, 3) := by decide +kernel
theorem dX5_breadth_35 : decode cX5_breadth 35 = .ok (.iload_n 2, 1) := by decide +kernel
theorem dX5_breadth_36 : decode cX5_breadth 36 = .ok (.ireturn, 1) := by decide +kernel
set_option maxRecDepth 20000 in
theorem ggX5_coat_X5_noPlace : GoodIn wsX5_coat wsX5_noPlace := goodIn_r _ [5, 6, 7, 8, 4, 9, 10, 11, 12, 13, 14, 30, 31, 32, 33, 34, 35, 36, 37, 38, 39, 40, 41, 42, 43, 44, 45, 46, 47, 48, 49, 50, 51, 52, 53, 54, 55, 56, 57, 58, 59] (by decide +kernel) (by decide +kernel)
set_option maxRecDepth 20000 in
theorem gX5_coat_X5_noPlace : GoodIn wsX5_coat (wsV RX5 77 RX5 yX5_noPlace wsX5_noPlace) := goodIn_app (goodIn_of _ (by decide +kernel)) ggX5_coat_X5_noPlace
set_option maxRecDepth 20000 in
theorem ggX5_coat_X5_noWeeks : GoodIn wsX5_coat wsX5_noWeeks := goodIn_r _ [17, 18, 12, 13, 4, 14] (by decide +kernel) (by decide +kernel)
set_option maxRecDepth 20000 in
theorem gX5_coat_X5_noWeeks : GoodIn wsX5_coat (va_wsS RX5 157 yX5_noWeeks wsX5_noWeeks) := goodIn_app (goodIn_of _ (by decide +kernel)) ggX5_coat_X5_noWeeks
set_option maxRecDepth 20000 in
theorem ggX5_coat_X5_coatOf : GoodIn wsX5_coat wsX5_coatOf := goodIn_r _ [22, 23, 24, 25, 26, 27, 4, 28, 29, 30, 31, 32, 33, 34, 35, 36, 37, 38, 39, 40, 41, 42, 43, 44, 45, 46, 47, 48, 49, 50, 51, 52, 53, 54, 55, 56, 57, 58, 59] (by decide +kernel) (by decide +kernel)
set_option maxRecDepth 20000 in
theorem gX5_coat_X5_coatOf : GoodIn wsX5_coat (wsV RX5 147 RX5 yX5_coatOf wsX5_coatOf) := goodIn_app (goodIn_of _ (by decide +kernel)) ggX5_coat_X5_coatOf
theorem dX5_coat_0 : decode cX5_coat 0 = .ok (.aload_n 0, 1) := by decide +kernel
theorem dX5_coat_1 : decode cX5_coat 1 = .ok (.iload_n 1, 1) := by decide +kernel
theorem dX5_coat_2 : decode cX5_coat 2 = .ok (.invokevirtual 77, 3) := by decide +kernel
theorem dX5_coat_5 : decode cX5_coat 5 = .ok (.ifCond .eq 5, 3) := by decide +kernel
theorem dX5_coat_8 : decode cX5_coat 8 = .ok (.iconst (-1), 1) := by decide +kernel
theorem dX5_coat_9 : decode cX5_coat 9 = .ok (.ireturn, 1) := by decide +kernel
theorem dX5_coat_10 : decode cX5_coat 10 = .ok (.iload_n 2, 1) := by decide +kernel
theorem dX5_coat_11 : decode cX5_coat 11 = .ok (.invokestatic 157, 3) := by decide +kernel
theorem dX5_coat_14 : decode cX5_coat 14 = .ok (.ifCond .eq 8, 3) := by decide +kernel
theorem dX5_coat_17 : decode cX5_coat 17 = .ok (.bipush (-2), 2) := by decide +kernel
theorem dX5_coat_19 : decode cX5_coat 19 = .ok (.goto 9, 3) := by decide +kernel
theorem dX5_coat_22 : decode cX5_coat 22 = .ok (.aload_n 0, 1) := by decide +kernel
theorem dX5_coat_23 : decode cX5_coat 23 = .ok (.iload_n 1, 1) := by decide +kernel
theorem dX5_coat_24 : decode cX5_coat 24 = .ok (.iload_n 2, 1) := by decide +kernel
theorem dX5_coat_25 : decode cX5_coat 25 = .ok (.invokevirtual 147, 3) := by decide +kernel
theorem dX5_coat_28 : decode cX5_coat 28 = .ok (.ireturn, 1) := by decide +kernel
set_option maxRecDepth 20000 in
theorem ggX5_ripe_X5_noWeeks : GoodIn wsX5_ripe wsX5_noWeeks := goodIn_r _ [5, 6, 7, 8, 4, 9] (by decide +kernel) (by decide +kernel)
set_option maxRecDepth 20000 in
theorem gX5_ripe_X5_noWeeks : GoodIn wsX5_ripe (va_wsS RX5 157 yX5_noWeeks wsX5_noWeeks) := goodIn_app (goodIn_of _ (by decide +kernel)) ggX5_ripe_X5_noWeeks
set_option maxRecDepth 20000 in
theorem ggX5_ripe_X5_ripeBy : GoodIn wsX5_ripe wsX5_ripeBy := goodIn_r _ [13, 14, 15, 16, 17, 4, 18, 1, 19, 20, 21, 22, 23, 24, 25, 26, 27, 28, 29, 30, 31, 32, 33, 34, 35, 36, 37, 38, 39, 40, 41, 42, 43, 44, 45, 46, 47, 48, 49, 50, 51, 52, 53, 54, 55, 56, 57, 58, 59, 60] (by decide +kernel) (by decide +kernel)
set_option maxRecDepth 20000 in
theorem gX5_ripe_X5_ripeBy : GoodIn wsX5_ripe (wsV RX5 160 RX5 yX5_ripeBy wsX5_ripeBy) := goodIn_app (goodIn_of _ (by decide +kernel)) ggX5_ripe_X5_ripeBy
theorem dX5_ripe_0 : decode cX5_ripe 0 = .ok (.aload_n 0, 1) := by decide +kernel
theorem dX5_ripe_1 : decode cX5_ripe 1 = .ok (.getfield 63, 3) := by decide +kernel
theorem dX5_ripe_4 : decode cX5_ripe 4 = .ok (.ifCond .ne 6, 3) := by decide +kernel
theorem dX5_ripe_7 : decode cX5_ripe 7 = .ok (.bipush (-3), 2) := by decide +kernel
theorem dX5_ripe_9 : decode cX5_ripe 9 = .ok (.ireturn, 1) := by decide +kernel
theorem dX5_ripe_10 : decode cX5_ripe 10 = .ok (.iload_n 1, 1) := by decide +kernel
theorem dX5_ripe_11 : decode cX5_ripe 11 = .ok (.invokestatic 157, 3) := by decide +kernel
theorem dX5_ripe_14 : decode cX5_ripe 14 = .ok (.ifCond .eq 8, 3) := by decide +kernel
theorem dX5_ripe_17 : decode cX5_ripe 17 = .ok (.bipush (-2), 2) := by decide +kernel
theorem dX5_ripe_19 : decode cX5_ripe 19 = .ok (.goto 8, 3) := by decide +kernel
theorem dX5_ripe_22 : decode cX5_ripe 22 = .ok (.aload_n 0, 1) := by decide +kernel
theorem dX5_ripe_23 : decode cX5_ripe 23 = .ok (.iload_n 1, 1) := by decide +kernel
theorem dX5_ripe_24 : decode cX5_ripe 24 = .ok (.invokevirtual 160, 3) := by decide +kernel
theorem dX5_ripe_27 : decode cX5_ripe 27 = .ok (.ireturn, 1) := by decide +kernel
set_option maxRecDepth 20000 in
theorem ggX5_beside_X5_in : GoodIn wsX5_beside wsX5_in := goodIn_r _ [6] (by decide +kernel) (by decide +kernel)
set_option maxRecDepth 20000 in
theorem gX5_beside_X5_in : GoodIn wsX5_beside (va_wsS RX5 73 yX5_in wsX5_in) := goodIn_app (goodIn_of _ (by decide +kernel)) ggX5_beside_X5_in
theorem dX5_beside_0 : decode cX5_beside 0 = .ok (.iload_n 1, 1) := by decide +kernel
theorem dX5_beside_1 : decode cX5_beside 1 = .ok (.aload_n 0, 1) := by decide +kernel
theorem dX5_beside_2 : decode cX5_beside 2 = .ok (.getfield 66, 3) := by decide +kernel
theorem dX5_beside_5 : decode cX5_beside 5 = .ok (.idiv, 1) := by decide +kernel
theorem dX5_beside_6 : decode cX5_beside 6 = .ok (.iload_n 2, 1) := by decide +kernel
theorem dX5_beside_7 : decode cX5_beside 7 = .ok (.ifCond .ne 7, 3) := by decide +kernel
theorem dX5_beside_10 : decode cX5_beside 10 = .ok (.iconst (-1), 1) := by decide +kernel
theorem dX5_beside_11 : decode cX5_beside 11 = .ok (.goto 13, 3) := by decide +kernel
theorem dX5_beside_14 : decode cX5_beside 14 = .ok (.iload_n 2, 1) := by decide +kernel
theorem dX5_beside_15 : decode cX5_beside 15 = .ok (.iconst 2, 1) := by decide +kernel
theorem dX5_beside_16 : decode cX5_beside 16 = .ok (.if_icmp .ne 7, 3) := by decide +kernel
theorem dX5_beside_19 : decode cX5_beside 19 = .ok (.iconst 1, 1) := by decide +kernel
theorem dX5_beside_20 : decode cX5_beside 20 = .ok (.goto 4, 3) := by decide +kernel
theorem dX5_beside_23 : decode cX5_beside 23 = .ok (.iconst 0, 1) := by decide +kernel
theorem dX5_beside_24 : decode cX5_beside 24 = .ok (.iadd, 1) := by decide +kernel
theorem dX5_beside_25 : decode cX5_beside 25 = .ok (.istore_n 3, 1) := by decide +kernel
theorem dX5_beside_26 : decode cX5_beside 26 = .ok (.iload_n 1, 1) := by decide +kernel
theorem dX5_beside_27 : decode cX5_beside 27 = .ok (.aload_n 0, 1) := by decide +kernel
theorem dX5_beside_28 : decode cX5_beside 28 = .ok (.getfield 66, 3) := by decide +kernel
theorem dX5_beside_31 : decode cX5_beside 31 = .ok (.irem, 1) := by decide +kernel
theorem dX5_beside_32 : decode cX5_beside 32 = .ok (.iload_n 2, 1) := by decide +kernel
theorem dX5_beside_33 : decode cX5_beside 33 = .ok (.iconst 3, 1) := by decide +kernel
theorem dX5_beside_34 : decode cX5_beside 34 = .ok (.if_icmp .ne 7, 3) := by decide +kernel
theorem dX5_beside_37 : decode cX5_beside 37 = .ok (.iconst (-1), 1) := by decide +kernel
theorem dX5_beside_38 : decode cX5_beside 38 = .ok (.goto 13, 3) := by decide +kernel
theorem dX5_beside_41 : decode cX5_beside 41 = .ok (.iload_n 2, 1) := by decide +kernel
theorem dX5_beside_42 : decode cX5_beside 42 = .ok (.iconst 1, 1) := by decide +kernel
theorem dX5_beside_43 : decode cX5_beside 43 = .ok (.if_icmp .ne 7, 3) := by decide +kernel
theorem dX5_beside_46 : decode cX5_beside 46 = .ok (.iconst 1, 1) := by decide +kernel
theorem dX5_beside_47 : decode cX5_beside 47 = .ok (.goto 4, 3) := by decide +kernel
theorem dX5_beside_50 : decode cX5_beside 50 = .ok (.iconst 0, 1) := by decide +kernel
theorem dX5_beside_51 : decode cX5_beside 51 = .ok (.iadd, 1) := by decide +kernel
theorem dX5_beside_52 : decode cX5_beside 52 = .ok (.istore 4, 2) := by decide +kernel
theorem dX5_beside_54 : decode cX5_beside 54 = .ok (.iload_n 3, 1) := by decide +kernel
theorem dX5_beside_55 : decode cX5_beside 55 = .ok (.i2l, 1) := by decide +kernel
theorem dX5_beside_56 : decode cX5_beside 56 = .ok (.lconst 0, 1) := by decide +kernel
theorem dX5_beside_57 : decode cX5_beside 57 = .ok (.aload_n 0, 1) := by decide +kernel
theorem dX5_beside_58 : decode cX5_beside 58 = .ok (.getfield 63, 3) := by decide +kernel
theorem dX5_beside_61 : decode cX5_beside 61 = .ok (.i2l, 1) := by decide +kernel
theorem dX5_beside_62 : decode cX5_beside 62 = .ok (.lconst 1, 1) := by decide +kernel
theorem dX5_beside_63 : decode cX5_beside 63 = .ok (.lsub, 1) := by decide +kernel
theorem dX5_beside_64 : decode cX5_beside 64 = .ok (.invokestatic 73, 3) := by decide +kernel
theorem dX5_beside_67 : decode cX5_beside 67 = .ok (.ifCond .eq 32, 3) := by decide +kernel
theorem dX5_beside_70 : decode cX5_beside 70 = .ok (.iload 4, 2) := by decide +kernel
theorem dX5_beside_72 : decode cX5_beside 72 = .ok (.i2l, 1) := by decide +kernel
theorem dX5_beside_73 : decode cX5_beside 73 = .ok (.lconst 0, 1) := by decide +kernel
theorem dX5_beside_74 : decode cX5_beside 74 = .ok (.aload_n 0, 1) := by decide +kernel
theorem dX5_beside_75 : decode cX5_beside 75 = .ok (.getfield 66, 3) := by decide +kernel
theorem dX5_beside_78 : decode cX5_beside 78 = .ok (.i2l, 1) := by decide +kernel
theorem dX5_beside_79 : decode cX5_beside 79 = .ok (.lconst 1, 1) := by decide +kernel
theorem dX5_beside_80 : decode cX5_beside 80 = .ok (.lsub, 1) := by decide +kernel
theorem dX5_beside_81 : decode cX5_beside 81 = .ok (.invokestatic 73, 3) := by decide +kernel
theorem dX5_beside_84 : decode cX5_beside 84 = .ok (.ifCond .eq 15, 3) := by decide +kernel
theorem dX5_beside_87 : decode cX5_beside 87 = .ok (.iload_n 3, 1) := by decide +kernel
theorem dX5_beside_88 : decode cX5_beside 88 = .ok (.aload_n 0, 1) := by decide +kernel
theorem dX5_beside_89 : decode cX5_beside 89 = .ok (.getfield 66, 3) := by decide +kernel
theorem dX5_beside_92 : decode cX5_beside 92 = .ok (.imul, 1) := by decide +kernel
theorem dX5_beside_93 : decode cX5_beside 93 = .ok (.iload 4, 2) := by decide +kernel
theorem dX5_beside_95 : decode cX5_beside 95 = .ok (.iadd, 1) := by decide +kernel
theorem dX5_beside_96 : decode cX5_beside 96 = .ok (.goto 5, 3) := by decide +kernel
theorem dX5_beside_99 : decode cX5_beside 99 = .ok (.bipush (-9), 2) := by decide +kernel
theorem dX5_beside_101 : decode cX5_beside 101 = .ok (.ireturn, 1) := by decide +kernel
set_option maxRecDepth 20000 in
theorem ggX5_goPath_X5_beside : GoodIn wsX5_goPath wsX5_beside := goodIn_r _ [9, 10, 11, 12, 13, 8, 14, 18, 19, 20, 21, 22, 23, 24, 25, 26, 27, 28, 29, 30, 31, 32, 33, 34, 35, 36, 37, 38, 39, 40, 41, 42, 43, 44, 45, 46, 47] (by decide +kernel) (by decide +kernel)
set_option maxRecDepth 20000 in
theorem gX5_goPath_X5_beside : GoodIn wsX5_goPath (wsV RX5 172 RX5 yX5_beside wsX5_beside) := goodIn_app (goodIn_of _ (by decide +kernel)) ggX5_goPath_X5_beside
set_option maxRecDepth 20000 in
theorem ggX5_goPath_X5_isIn : GoodIn wsX5_goPath wsX5_isIn := goodIn_r _ [17] (by decide +kernel) (by decide +kernel)
set_option maxRecDepth 20000 in
theorem gX5_goPath_X5_isIn : GoodIn wsX5_goPath (va_wsS RX5 175 yX5_isIn wsX5_isIn) := goodIn_app (goodIn_of _ (by decide +kernel)) ggX5_goPath_X5_isIn
theorem dX5_goPath_0 : decode cX5_goPath 0 = .ok (.aload_n 0, 1) := by decide +kernel
theorem dX5_goPath_1 : decode cX5_goPath 1 = .ok (.bipush (-9), 2) := by decide +kernel
theorem dX5_goPath_3 : decode cX5_goPath 3 = .ok (.putfield 163, 3) := by decide +kernel
theorem dX5_goPath_6 : decode cX5_goPath 6 = .ok (.aload_n 0, 1) := by decide +kernel
theorem dX5_goPath_7 : decode cX5_goPath 7 = .ok (.iload_n 2, 1) := by decide +kernel
theorem dX5_goPath_8 : decode cX5_goPath 8 = .ok (.putfield 166, 3) := by decide +kernel
theorem dX5_goPath_11 : decode cX5_goPath 11 = .ok (.aload_n 0, 1) := by decide +kernel
theorem dX5_goPath_12 : decode cX5_goPath 12 = .ok (.iconst 1, 1) := by decide +kernel
theorem dX5_goPath_13 : decode cX5_goPath 13 = .ok (.iload_n 2, 1) := by decide +kernel
theorem dX5_goPath_14 : decode cX5_goPath 14 = .ok (.ishl, 1) := by decide +kernel
theorem dX5_goPath_15 : decode cX5_goPath 15 = .ok (.putfield 169, 3) := by decide +kernel
theorem dX5_goPath_18 : decode cX5_goPath 18 = .ok (.iconst 0, 1) := by decide +kernel
theorem dX5_goPath_19 : decode cX5_goPath 19 = .ok (.istore 5, 2) := by decide +kernel
theorem dX5_goPath_21 : decode cX5_goPath 21 = .ok (.iload 5, 2) := by decide +kernel
theorem dX5_goPath_23 : decode cX5_goPath 23 = .ok (.iload 4, 2) := by decide +kernel
theorem dX5_goPath_25 : decode cX5_goPath 25 = .ok (.if_icmp .ge 84, 3) := by decide +kernel
theorem dX5_goPath_28 : decode cX5_goPath 28 = .ok (.aload_n 0, 1) := by decide +kernel
theorem dX5_goPath_29 : decode cX5_goPath 29 = .ok (.getfield 163, 3) := by decide +kernel
theorem dX5_goPath_32 : decode cX5_goPath 32 = .ok (.ifCond .ge 77, 3) := by decide +kernel
theorem dX5_goPath_35 : decode cX5_goPath 35 = .ok (.aload_n 0, 1) := by decide +kernel
theorem dX5_goPath_36 : decode cX5_goPath 36 = .ok (.aload_n 0, 1) := by decide +kernel
theorem dX5_goPath_37 : decode cX5_goPath 37 = .ok (.getfield 166, 3) := by decide +kernel
theorem dX5_goPath_40 : decode cX5_goPath 40 = .ok (.aload_n 0, 1) := by decide +kernel
theorem dX5_goPath_41 : decode cX5_goPath 41 = .ok (.getfield 47, 3) := by decide +kernel
theorem dX5_goPath_44 : decode cX5_goPath 44 = .ok (.iload_n 3, 1) := by decide +kernel
theorem dX5_goPath_45 : decode cX5_goPath 45 = .ok (.iload 5, 2) := by decide +kernel
theorem dX5_goPath_47 : decode cX5_goPath 47 = .ok (.iadd, 1) := by decide +kernel
theorem dX5_goPath_48 : decode cX5_goPath 48 = .ok (.iaload, 1) := by decide +kernel
theorem dX5_goPath_49 : decode cX5_goPath 49 = .ok (.invokevirtual 172, 3) := by decide +kernel
theorem dX5_goPath_52 : decode cX5_goPath 52 = .ok (.istore 6, 2) := by decide +kernel
theorem dX5_goPath_54 : decode cX5_goPath 54 = .ok (.iload 6, 2) := by decide +kernel
theorem dX5_goPath_56 : decode cX5_goPath 56 = .ok (.ifCond .lt 19, 3) := by decide +kernel
theorem dX5_goPath_59 : decode cX5_goPath 59 = .ok (.iload_n 1, 1) := by decide +kernel
theorem dX5_goPath_60 : decode cX5_goPath 60 = .ok (.aload_n 0, 1) := by decide +kernel
theorem dX5_goPath_61 : decode cX5_goPath 61 = .ok (.getfield 169, 3) := by decide +kernel
theorem dX5_goPath_64 : decode cX5_goPath 64 = .ok (.iconst (-1), 1) := by decide +kernel
theorem dX5_goPath_65 : decode cX5_goPath 65 = .ok (.ixor, 1) := by decide +kernel
theorem dX5_goPath_66 : decode cX5_goPath 66 = .ok (.iand, 1) := by decide +kernel
theorem dX5_goPath_67 : decode cX5_goPath 67 = .ok (.iload 6, 2) := by decide +kernel
theorem dX5_goPath_69 : decode cX5_goPath 69 = .ok (.invokestatic 175, 3) := by decide +kernel
theorem dX5_goPath_72 : decode cX5_goPath 72 = .ok (.ifCond .ne 12, 3) := by decide +kernel
theorem dX5_goPath_75 : decode cX5_goPath 75 = .ok (.aload_n 0, 1) := by decide +kernel
theorem dX5_goPath_76 : decode cX5_goPath 76 = .ok (.iload 5, 2) := by decide +kernel
theorem dX5_goPath_78 : decode cX5_goPath 78 = .ok (.putfield 163, 3) := by decide +kernel
theorem dX5_goPath_81 : decode cX5_goPath 81 = .ok (.goto 22, 3) := by decide +kernel
theorem dX5_goPath_84 : decode cX5_goPath 84 = .ok (.aload_n 0, 1) := by decide +kernel
theorem dX5_goPath_85 : decode cX5_goPath 85 = .ok (.iload 6, 2) := by decide +kernel
theorem dX5_goPath_87 : decode cX5_goPath 87 = .ok (.putfield 166, 3) := by decide +kernel
theorem dX5_goPath_90 : decode cX5_goPath 90 = .ok (.aload_n 0, 1) := by decide +kernel
theorem dX5_goPath_91 : decode cX5_goPath 91 = .ok (.dup, 1) := by decide +kernel
theorem dX5_goPath_92 : decode cX5_goPath 92 = .ok (.getfield 169, 3) := by decide +kernel
theorem dX5_goPath_95 : decode cX5_goPath 95 = .ok (.iconst 1, 1) := by decide +kernel
theorem dX5_goPath_96 : decode cX5_goPath 96 = .ok (.iload 6, 2) := by decide +kernel
theorem dX5_goPath_98 : decode cX5_goPath 98 = .ok (.ishl, 1) := by decide +kernel
theorem dX5_goPath_99 : decode cX5_goPath 99 = .ok (.ior, 1) := by decide +kernel
theorem dX5_goPath_100 : decode cX5_goPath 100 = .ok (.putfield 169, 3) := by decide +kernel
theorem dX5_goPath_103 : decode cX5_goPath 103 = .ok (.iinc 5 1, 3) := by decide +kernel
theorem dX5_goPath_106 : decode cX5_goPath 106 = .ok (.goto (-85), 3) := by decide +kernel
theorem dX5_goPath_109 : decode cX5_goPath 109 = .ok (.return_, 1) := by decide +kernel
set_option maxRecDepth 20000 in
theorem ggX5_coatsOf_X5_cells : GoodIn wsX5_coatsOf wsX5_cells := goodIn_r _ [5, 6, 7, 22, 23, 24, 25, 26, 27, 28, 29, 30, 31, 32, 33, 34, 35, 36, 37, 38, 39, 40, 41, 42, 43, 44, 45, 46, 47, 48, 49, 50, 51] (by decide +kernel) (by decide +kernel)
set_option maxRecDepth 20000 in
theorem gX5_coatsOf_X5_cells : GoodIn wsX5_coatsOf (wsV RX5 69 RX5 yX5_cells wsX5_cells) := goodIn_app (goodIn_of _ (by decide +kernel)) ggX5_coatsOf_X5_cells
set_option maxRecDepth 20000 in
theorem ggX5_coatsOf_X5_isIn : GoodIn wsX5_coatsOf wsX5_isIn := goodIn_r _ [10] (by decide +kernel) (by decide +kernel)
set_option maxRecDepth 20000 in
theorem gX5_coatsOf_X5_isIn : GoodIn wsX5_coatsOf (va_wsS RX5 175 yX5_isIn wsX5_isIn) := goodIn_app (goodIn_of _ (by decide +kernel)) ggX5_coatsOf_X5_isIn
set_option maxRecDepth 20000 in
theorem ggX5_coatsOf_X5_coatOf : GoodIn wsX5_coatsOf wsX5_coatOf := goodIn_r _ [14, 15, 16, 17, 18, 19, 4, 20, 21, 22, 23, 24, 25, 26, 27, 28, 29, 30, 31, 32, 33, 34, 35, 36, 37, 38, 39, 40, 41, 42, 43, 44, 45, 46, 47, 48, 49, 50, 51] (by decide +kernel) (by decide +kernel)
set_option maxRecDepth 20000 in
theorem gX5_coatsOf_X5_coatOf : GoodIn wsX5_coatsOf (wsV RX5 147 RX5 yX5_coatOf wsX5_coatOf) := goodIn_app (goodIn_of _ (by decide +kernel)) ggX5_coatsOf_X5_coatOf
theorem dX5_coatsOf_0 : decode cX5_coatsOf 0 = .ok (.iconst 0, 1) := by decide +kernel
theorem dX5_coatsOf_1 : decode cX5_coatsOf 1 = .ok (.istore_n 3, 1) := by decide +kernel
theorem dX5_coatsOf_2 : decode cX5_coatsOf 2 = .ok (.iconst 0, 1) := by decide +kernel
theorem dX5_coatsOf_3 : decode cX5_coatsOf 3 = .ok (.istore 4, 2) := by decide +kernel
theorem dX5_coatsOf_5 : decode cX5_coatsOf 5 = .ok (.iload 4, 2) := by decide +kernel
theorem dX5_coatsOf_7 : decode cX5_coatsOf 7 = .ok (.aload_n 0, 1) := by decide +kernel
theorem dX5_coatsOf_8 : decode cX5_coatsOf 8 = .ok (.invokevirtual 69, 3) := by decide +kernel
theorem dX5_coatsOf_11 : decode cX5_coatsOf 11 = .ok (.if_icmp .ge 32, 3) := by decide +kernel
theorem dX5_coatsOf_14 : decode cX5_coatsOf 14 = .ok (.iload_n 3, 1) := by decide +kernel
theorem dX5_coatsOf_15 : decode cX5_coatsOf 15 = .ok (.iload_n 1, 1) := by decide +kernel
theorem dX5_coatsOf_16 : decode cX5_coatsOf 16 = .ok (.iload 4, 2) := by decide +kernel
theorem dX5_coatsOf_18 : decode cX5_coatsOf 18 = .ok (.invokestatic 175, 3) := by decide +kernel
theorem dX5_coatsOf_21 : decode cX5_coatsOf 21 = .ok (.ifCond .eq 13, 3) := by decide +kernel
theorem dX5_coatsOf_24 : decode cX5_coatsOf 24 = .ok (.aload_n 0, 1) := by decide +kernel
theorem dX5_coatsOf_25 : decode cX5_coatsOf 25 = .ok (.iload 4, 2) := by decide +kernel
theorem dX5_coatsOf_27 : decode cX5_coatsOf 27 = .ok (.iload_n 2, 1) := by decide +kernel
theorem dX5_coatsOf_28 : decode cX5_coatsOf 28 = .ok (.invokevirtual 147, 3) := by decide +kernel
theorem dX5_coatsOf_31 : decode cX5_coatsOf 31 = .ok (.goto 4, 3) := by decide +kernel
theorem dX5_coatsOf_34 : decode cX5_coatsOf 34 = .ok (.iconst 0, 1) := by decide +kernel
theorem dX5_coatsOf_35 : decode cX5_coatsOf 35 = .ok (.iadd, 1) := by decide +kernel
theorem dX5_coatsOf_36 : decode cX5_coatsOf 36 = .ok (.istore_n 3, 1) := by decide +kernel
theorem dX5_coatsOf_37 : decode cX5_coatsOf 37 = .ok (.iinc 4 1, 3) := by decide +kernel
theorem dX5_coatsOf_40 : decode cX5_coatsOf 40 = .ok (.goto (-35), 3) := by decide +kernel
theorem dX5_coatsOf_43 : decode cX5_coatsOf 43 = .ok (.iload_n 3, 1) := by decide +kernel
theorem dX5_coatsOf_44 : decode cX5_coatsOf 44 = .ok (.ireturn, 1) := by decide +kernel
set_option maxRecDepth 20000 in
theorem ggX5_path_X5_noPlace : GoodIn wsX5_path wsX5_noPlace := goodIn_r _ [12, 13, 14, 15, 11, 16, 17, 18, 19, 20, 21, 78, 79, 80, 81, 82, 83, 84, 85, 86, 87, 88, 89, 90, 91, 92, 93, 94, 95, 96, 97, 98, 99, 100, 101, 102, 103, 104, 105, 106, 107] (by decide +kernel) (by decide +kernel)
set_option maxRecDepth 20000 in
theorem gX5_path_X5_noPlace : GoodIn wsX5_path (wsV RX5 77 RX5 yX5_noPlace wsX5_noPlace) := goodIn_app (goodIn_of _ (by decide +kernel)) ggX5_path_X5_noPlace
set_option maxRecDepth 20000 in
theorem ggX5_path_X5_noSheet : GoodIn wsX5_path wsX5_noSheet := goodIn_r _ [24, 3, 19, 20, 11, 21] (by decide +kernel) (by decide +kernel)
set_option maxRecDepth 20000 in
theorem gX5_path_X5_noSheet : GoodIn wsX5_path (va_wsS RX5 116 yX5_noSheet wsX5_noSheet) := goodIn_app (goodIn_of _ (by decide +kernel)) ggX5_path_X5_noSheet
set_option maxRecDepth 20000 in
theorem ggX5_path_X5_refused : GoodIn wsX5_path wsX5_refused := goodIn_r _ [28, 29, 78, 79, 80, 81, 82, 83, 84, 85, 86, 87, 88, 89, 90, 91, 92, 93, 94, 95, 96, 97, 98, 99, 100, 101, 102, 103, 104, 105, 106, 107] (by decide +kernel) (by decide +kernel)
set_option maxRecDepth 20000 in
theorem gX5_path_X5_refused : GoodIn wsX5_path (wsV RX5 119 RX5 yX5_refused wsX5_refused) := goodIn_app (goodIn_of _ (by decide +kernel)) ggX5_path_X5_refused
set_option maxRecDepth 20000 in
theorem ggX5_path_X5_noWeeks : GoodIn wsX5_path wsX5_noWeeks := goodIn_r _ [32, 33, 19, 20, 11, 21] (by decide +kernel) (by decide +kernel)
set_option maxRecDepth 20000 in
theorem gX5_path_X5_noWeeks : GoodIn wsX5_path (va_wsS RX5 157 yX5_noWeeks wsX5_noWeeks) := goodIn_app (goodIn_of _ (by decide +kernel)) ggX5_path_X5_noWeeks
set_option maxRecDepth 20000 in
theorem ggX5_path_X5_in : GoodIn wsX5_path wsX5_in := goodIn_r _ [21] (by decide +kernel) (by decide +kernel)
set_option maxRecDepth 20000 in
theorem gX5_path_X5_in : GoodIn wsX5_path (va_wsS RX5 73 yX5_in wsX5_in) := goodIn_app (goodIn_of _ (by decide +kernel)) ggX5_path_X5_in
set_option maxRecDepth 20000 in
theorem ggX5_path_X5_ripeBy : GoodIn wsX5_path wsX5_ripeBy := goodIn_r _ [37, 38, 13, 14, 15, 11, 16, 17, 18, 39, 40, 41, 42, 43, 44, 45, 46, 47, 48, 49, 78, 79, 80, 81, 82, 83, 84, 85, 86, 87, 88, 89, 90, 91, 92, 93, 94, 95, 96, 97, 98, 99, 100, 101, 102, 103, 104, 105, 106, 107] (by decide +kernel) (by decide +kernel)
set_option maxRecDepth 20000 in
theorem gX5_path_X5_ripeBy : GoodIn wsX5_path (wsV RX5 160 RX5 yX5_ripeBy wsX5_ripeBy) := goodIn_app (goodIn_of _ (by decide +kernel)) ggX5_path_X5_ripeBy
set_option maxRecDepth 20000 in
theorem ggX5_path_X5_isIn : GoodIn wsX5_path wsX5_isIn := goodIn_r _ [52] (by decide +kernel) (by decide +kernel)
set_option maxRecDepth 20000 in
theorem gX5_path_X5_isIn : GoodIn wsX5_path (va_wsS RX5 175 yX5_isIn wsX5_isIn) := goodIn_app (goodIn_of _ (by decide +kernel)) ggX5_path_X5_isIn
set_option maxRecDepth 20000 in
theorem ggX5_path_X5_cellsBarred : GoodIn wsX5_path wsX5_cellsBarred := goodIn_r _ [56, 57, 58, 59, 60, 61, 11, 62, 29, 63, 64, 65, 78, 79, 80, 81, 82, 83, 84, 85, 86, 87, 88, 89, 90, 91, 92, 93, 94, 95, 96, 97, 98, 99, 100, 101, 102, 103, 104, 105, 106, 107] (by decide +kernel) (by decide +kernel)
set_option maxRecDepth 20000 in
theorem gX5_path_X5_cellsBarred : GoodIn wsX5_path (wsV RX5 124 RX5 yX5_cellsBarred wsX5_cellsBarred) := goodIn_app (goodIn_of _ (by decide +kernel)) ggX5_path_X5_cellsBarred
set_option maxRecDepth 20000 in
theorem ggX5_path_X5_goPath : GoodIn wsX5_path wsX5_goPath := goodIn_r _ [69, 5, 6, 7, 4, 70, 71, 72, 11, 73, 18, 17, 19, 20, 21, 50, 51, 52, 78, 79, 80, 81, 82, 83, 84, 85, 86, 87, 88, 89, 90, 91, 92, 93, 94, 95, 96, 97, 98, 99, 100, 101, 102, 103, 104, 105, 106, 107] (by decide +kernel) (by decide +kernel)
set_option maxRecDepth 20000 in
theorem gX5_path_X5_goPath : GoodIn wsX5_path (wsV RX5 180 RX5 yX5_goPath wsX5_goPath) := goodIn_app (goodIn_of _ (by decide +kernel)) ggX5_path_X5_goPath
set_option maxRecDepth 20000 in
theorem ggX5_path_X5_coatsOf : GoodIn wsX5_path wsX5_coatsOf := goodIn_r _ [77, 13, 14, 15, 11, 16, 17, 18, 50, 51, 52, 39, 40, 41, 42, 43, 44, 45, 46, 47, 48, 49, 78, 79, 80, 81, 82, 83, 84, 85, 86, 87, 88, 89, 90, 91, 92, 93, 94, 95, 96, 97, 98, 99, 100, 101, 102, 103, 104, 105, 106, 107] (by decide +kernel) (by decide +kernel)
set_option maxRecDepth 20000 in
theorem gX5_path_X5_coatsOf : GoodIn wsX5_path (wsV RX5 184 RX5 yX5_coatsOf wsX5_coatsOf) := goodIn_app (goodIn_of _ (by decide +kernel)) ggX5_path_X5_coatsOf
theorem dX5_path_0 : decode cX5_path 0 = .ok (.aload_n 0, 1) := by decide +kernel
theorem dX5_path_1 : decode cX5_path 1 = .ok (.iload_n 2, 1) := by decide +kernel
theorem dX5_path_2 : decode cX5_path 2 = .ok (.invokevirtual 77, 3) := by decide +kernel
theorem dX5_path_5 : decode cX5_path 5 = .ok (.ifCond .ne 10, 3) := by decide +kernel
theorem dX5_path_8 : decode cX5_path 8 = .ok (.iload_n 3, 1) := by decide +kernel
theorem dX5_path_9 : decode cX5_path 9 = .ok (.invokestatic 116, 3) := by decide +kernel
theorem dX5_path_12 : decode cX5_path 12 = .ok (.ifCond .eq 9, 3) := by decide +kernel
theorem dX5_path_15 : decode cX5_path 15 = .ok (.aload_n 0, 1) := by decide +kernel
theorem dX5_path_16 : decode cX5_path 16 = .ok (.iconst (-1), 1) := by decide +kernel
theorem dX5_path_17 : decode cX5_path 17 = .ok (.invokevirtual 119, 3) := by decide +kernel
theorem dX5_path_20 : decode cX5_path 20 = .ok (.ireturn, 1) := by decide +kernel
theorem dX5_path_21 : decode cX5_path 21 = .ok (.iload_n 1, 1) := by decide +kernel
theorem dX5_path_22 : decode cX5_path 22 = .ok (.invokestatic 157, 3) := by decide +kernel
theorem dX5_path_25 : decode cX5_path 25 = .ok (.ifCond .ne 42, 3) := by decide +kernel
theorem dX5_path_28 : decode cX5_path 28 = .ok (.iload 4, 2) := by decide +kernel
theorem dX5_path_30 : decode cX5_path 30 = .ok (.i2l, 1) := by decide +kernel
theorem dX5_path_31 : decode cX5_path 31 = .ok (.lconst 0, 1) := by decide +kernel
theorem dX5_path_32 : decode cX5_path 32 = .ok (.ldc2_w 122, 3) := by decide +kernel
theorem dX5_path_35 : decode cX5_path 35 = .ok (.invokestatic 73, 3) := by decide +kernel
theorem dX5_path_38 : decode cX5_path 38 = .ok (.ifCond .eq 29, 3) := by decide +kernel
theorem dX5_path_41 : decode cX5_path 41 = .ok (.iload 6, 2) := by decide +kernel
theorem dX5_path_43 : decode cX5_path 43 = .ok (.i2l, 1) := by decide +kernel
theorem dX5_path_44 : decode cX5_path 44 = .ok (.lconst 0, 1) := by decide +kernel
theorem dX5_path_45 : decode cX5_path 45 = .ok (.ldc2_w 178, 3) := by decide +kernel
theorem dX5_path_48 : decode cX5_path 48 = .ok (.invokestatic 73, 3) := by decide +kernel
theorem dX5_path_51 : decode cX5_path 51 = .ok (.ifCond .eq 16, 3) := by decide +kernel
theorem dX5_path_54 : decode cX5_path 54 = .ok (.iload 7, 2) := by decide +kernel
theorem dX5_path_56 : decode cX5_path 56 = .ok (.i2l, 1) := by decide +kernel
theorem dX5_path_57 : decode cX5_path 57 = .ok (.lconst 0, 1) := by decide +kernel
theorem dX5_path_58 : decode cX5_path 58 = .ok (.ldc2_w 155, 3) := by decide +kernel
theorem dX5_path_61 : decode cX5_path 61 = .ok (.invokestatic 73, 3) := by decide +kernel
theorem dX5_path_64 : decode cX5_path 64 = .ok (.ifCond .ne 10, 3) := by decide +kernel
theorem dX5_path_67 : decode cX5_path 67 = .ok (.aload_n 0, 1) := by decide +kernel
theorem dX5_path_68 : decode cX5_path 68 = .ok (.bipush (-2), 2) := by decide +kernel
theorem dX5_path_70 : decode cX5_path 70 = .ok (.invokevirtual 119, 3) := by decide +kernel
theorem dX5_path_73 : decode cX5_path 73 = .ok (.ireturn, 1) := by decide +kernel
theorem dX5_path_74 : decode cX5_path 74 = .ok (.aload_n 0, 1) := by decide +kernel
theorem dX5_path_75 : decode cX5_path 75 = .ok (.iload_n 1, 1) := by decide +kernel
theorem dX5_path_76 : decode cX5_path 76 = .ok (.invokevirtual 160, 3) := by decide +kernel
theorem dX5_path_79 : decode cX5_path 79 = .ok (.iload_n 2, 1) := by decide +kernel
theorem dX5_path_80 : decode cX5_path 80 = .ok (.invokestatic 175, 3) := by decide +kernel
theorem dX5_path_83 : decode cX5_path 83 = .ok (.ifCond .ne 10, 3) := by decide +kernel
theorem dX5_path_86 : decode cX5_path 86 = .ok (.aload_n 0, 1) := by decide +kernel
theorem dX5_path_87 : decode cX5_path 87 = .ok (.bipush (-3), 2) := by decide +kernel
theorem dX5_path_89 : decode cX5_path 89 = .ok (.invokevirtual 119, 3) := by decide +kernel
theorem dX5_path_92 : decode cX5_path 92 = .ok (.ireturn, 1) := by decide +kernel
theorem dX5_path_93 : decode cX5_path 93 = .ok (.aload_n 0, 1) := by decide +kernel
theorem dX5_path_94 : decode cX5_path 94 = .ok (.iload_n 3, 1) := by decide +kernel
theorem dX5_path_95 : decode cX5_path 95 = .ok (.iload 4, 2) := by decide +kernel
theorem dX5_path_97 : decode cX5_path 97 = .ok (.iload 5, 2) := by decide +kernel
theorem dX5_path_99 : decode cX5_path 99 = .ok (.iload 6, 2) := by decide +kernel
theorem dX5_path_101 : decode cX5_path 101 = .ok (.i2l, 1) := by decide +kernel
theorem dX5_path_102 : decode cX5_path 102 = .ok (.invokevirtual 124, 3) := by decide +kernel
theorem dX5_path_105 : decode cX5_path 105 = .ok (.istore 8, 2) := by decide +kernel
theorem dX5_path_107 : decode cX5_path 107 = .ok (.iload 8, 2) := by decide +kernel
theorem dX5_path_109 : decode cX5_path 109 = .ok (.ifCond .ge 6, 3) := by decide +kernel
theorem dX5_path_112 : decode cX5_path 112 = .ok (.iload 8, 2) := by decide +kernel
theorem dX5_path_114 : decode cX5_path 114 = .ok (.ireturn, 1) := by decide +kernel
theorem dX5_path_115 : decode cX5_path 115 = .ok (.iconst 0, 1) := by decide +kernel
theorem dX5_path_116 : decode cX5_path 116 = .ok (.istore 9, 2) := by decide +kernel
theorem dX5_path_118 : decode cX5_path 118 = .ok (.iload 9, 2) := by decide +kernel
theorem dX5_path_120 : decode cX5_path 120 = .ok (.iload 6, 2) := by decide +kernel
theorem dX5_path_122 : decode cX5_path 122 = .ok (.if_icmp .ge 42, 3) := by decide +kernel
theorem dX5_path_125 : decode cX5_path 125 = .ok (.aload_n 0, 1) := by decide +kernel
theorem dX5_path_126 : decode cX5_path 126 = .ok (.getfield 47, 3) := by decide +kernel
theorem dX5_path_129 : decode cX5_path 129 = .ok (.bipush 60, 2) := by decide +kernel
theorem dX5_path_131 : decode cX5_path 131 = .ok (.iload_n 3, 1) := by decide +kernel
theorem dX5_path_132 : decode cX5_path 132 = .ok (.imul, 1) := by decide +kernel
theorem dX5_path_133 : decode cX5_path 133 = .ok (.iload 5, 2) := by decide +kernel
theorem dX5_path_135 : decode cX5_path 135 = .ok (.iadd, 1) := by decide +kernel
theorem dX5_path_136 : decode cX5_path 136 = .ok (.iload 9, 2) := by decide +kernel
theorem dX5_path_138 : decode cX5_path 138 = .ok (.iadd, 1) := by decide +kernel
theorem dX5_path_139 : decode cX5_path 139 = .ok (.iaload, 1) := by decide +kernel
theorem dX5_path_140 : decode cX5_path 140 = .ok (.i2l, 1) := by decide +kernel
theorem dX5_path_141 : decode cX5_path 141 = .ok (.lconst 0, 1) := by decide +kernel
theorem dX5_path_142 : decode cX5_path 142 = .ok (.ldc2_w 155, 3) := by decide +kernel
theorem dX5_path_145 : decode cX5_path 145 = .ok (.invokestatic 73, 3) := by decide +kernel
theorem dX5_path_148 : decode cX5_path 148 = .ok (.ifCond .ne 10, 3) := by decide +kernel
theorem dX5_path_151 : decode cX5_path 151 = .ok (.aload_n 0, 1) := by decide +kernel
theorem dX5_path_152 : decode cX5_path 152 = .ok (.bipush (-2), 2) := by decide +kernel
theorem dX5_path_154 : decode cX5_path 154 = .ok (.invokevirtual 119, 3) := by decide +kernel
theorem dX5_path_157 : decode cX5_path 157 = .ok (.ireturn, 1) := by decide +kernel
theorem dX5_path_158 : decode cX5_path 158 = .ok (.iinc 9 1, 3) := by decide +kernel
theorem dX5_path_161 : decode cX5_path 161 = .ok (.goto (-43), 3) := by decide +kernel
theorem dX5_path_164 : decode cX5_path 164 = .ok (.aload_n 0, 1) := by decide +kernel
theorem dX5_path_165 : decode cX5_path 165 = .ok (.aload_n 0, 1) := by decide +kernel
theorem dX5_path_166 : decode cX5_path 166 = .ok (.iload_n 1, 1) := by decide +kernel
theorem dX5_path_167 : decode cX5_path 167 = .ok (.invokevirtual 160, 3) := by decide +kernel
theorem dX5_path_170 : decode cX5_path 170 = .ok (.iload_n 2, 1) := by decide +kernel
theorem dX5_path_171 : decode cX5_path 171 = .ok (.bipush 60, 2) := by decide +kernel
theorem dX5_path_173 : decode cX5_path 173 = .ok (.iload_n 3, 1) := by decide +kernel
theorem dX5_path_174 : decode cX5_path 174 = .ok (.imul, 1) := by decide +kernel
theorem dX5_path_175 : decode cX5_path 175 = .ok (.iload 5, 2) := by decide +kernel
theorem dX5_path_177 : decode cX5_path 177 = .ok (.iadd, 1) := by decide +kernel
theorem dX5_path_178 : decode cX5_path 178 = .ok (.iload 6, 2) := by decide +kernel
theorem dX5_path_180 : decode cX5_path 180 = .ok (.invokevirtual 180, 3) := by decide +kernel
theorem dX5_path_183 : decode cX5_path 183 = .ok (.iload 7, 2) := by decide +kernel
theorem dX5_path_185 : decode cX5_path 185 = .ok (.iconst 1, 1) := by decide +kernel
theorem dX5_path_186 : decode cX5_path 186 = .ok (.if_icmp .ne 12, 3) := by decide +kernel
theorem dX5_path_189 : decode cX5_path 189 = .ok (.aload_n 0, 1) := by decide +kernel
theorem dX5_path_190 : decode cX5_path 190 = .ok (.aload_n 0, 1) := by decide +kernel
theorem dX5_path_191 : decode cX5_path 191 = .ok (.getfield 163, 3) := by decide +kernel
theorem dX5_path_194 : decode cX5_path 194 = .ok (.invokevirtual 119, 3) := by decide +kernel
theorem dX5_path_197 : decode cX5_path 197 = .ok (.ireturn, 1) := by decide +kernel
theorem dX5_path_198 : decode cX5_path 198 = .ok (.aload_n 0, 1) := by decide +kernel
theorem dX5_path_199 : decode cX5_path 199 = .ok (.getfield 163, 3) := by decide +kernel
theorem dX5_path_202 : decode cX5_path 202 = .ok (.ifCond .lt 15, 3) := by decide +kernel
theorem dX5_path_205 : decode cX5_path 205 = .ok (.aload_n 0, 1) := by decide +kernel
theorem dX5_path_206 : decode cX5_path 206 = .ok (.bipush (-100), 2) := by decide +kernel
theorem dX5_path_208 : decode cX5_path 208 = .ok (.aload_n 0, 1) := by decide +kernel
theorem dX5_path_209 : decode cX5_path 209 = .ok (.getfield 163, 3) := by decide +kernel
theorem dX5_path_212 : decode cX5_path 212 = .ok (.isub, 1) := by decide +kernel
theorem dX5_path_213 : decode cX5_path 213 = .ok (.invokevirtual 119, 3) := by decide +kernel
theorem dX5_path_216 : decode cX5_path 216 = .ok (.ireturn, 1) := by decide +kernel
theorem dX5_path_217 : decode cX5_path 217 = .ok (.aload_n 0, 1) := by decide +kernel
theorem dX5_path_218 : decode cX5_path 218 = .ok (.iload 7, 2) := by decide +kernel
theorem dX5_path_220 : decode cX5_path 220 = .ok (.ifCond .ne 10, 3) := by decide +kernel
theorem dX5_path_223 : decode cX5_path 223 = .ok (.aload_n 0, 1) := by decide +kernel
theorem dX5_path_224 : decode cX5_path 224 = .ok (.getfield 166, 3) := by decide +kernel
theorem dX5_path_227 : decode cX5_path 227 = .ok (.goto 25, 3) := by decide +kernel
theorem dX5_path_230 : decode cX5_path 230 = .ok (.iload 7, 2) := by decide +kernel
theorem dX5_path_232 : decode cX5_path 232 = .ok (.iconst 2, 1) := by decide +kernel
theorem dX5_path_233 : decode cX5_path 233 = .ok (.if_icmp .ne 10, 3) := by decide +kernel
theorem dX5_path_236 : decode cX5_path 236 = .ok (.aload_n 0, 1) := by decide +kernel
theorem dX5_path_237 : decode cX5_path 237 = .ok (.getfield 169, 3) := by decide +kernel
theorem dX5_path_240 : decode cX5_path 240 = .ok (.goto 12, 3) := by decide +kernel
theorem dX5_path_243 : decode cX5_path 243 = .ok (.aload_n 0, 1) := by decide +kernel
theorem dX5_path_244 : decode cX5_path 244 = .ok (.aload_n 0, 1) := by decide +kernel
theorem dX5_path_245 : decode cX5_path 245 = .ok (.getfield 169, 3) := by decide +kernel
theorem dX5_path_248 : decode cX5_path 248 = .ok (.iload_n 1, 1) := by decide +kernel
theorem dX5_path_249 : decode cX5_path 249 = .ok (.invokevirtual 184, 3) := by decide +kernel
theorem dX5_path_252 : decode cX5_path 252 = .ok (.invokevirtual 119, 3) := by decide +kernel
theorem dX5_path_255 : decode cX5_path 255 = .ok (.ireturn, 1) := by decide +kernel
set_option maxRecDepth 20000 in
theorem ggX5_goFleece_X5_bits : GoodIn wsX5_goFleece wsX5_bits := goodIn_r _ [8] (by decide +kernel) (by decide +kernel)
set_option maxRecDepth 20000 in
theorem gX5_goFleece_X5_bits : GoodIn wsX5_goFleece (va_wsS RX5 190 yX5_bits wsX5_bits) := goodIn_app (goodIn_of _ (by decide +kernel)) ggX5_goFleece_X5_bits
set_option maxRecDepth 20000 in
theorem ggX5_goFleece_X5_beside : GoodIn wsX5_goFleece wsX5_beside := goodIn_r _ [12, 13, 14, 15, 16, 7, 17, 21, 22, 23, 24, 25, 26, 27, 28, 29, 30, 31, 32, 33, 34, 35, 36, 37, 38, 39, 40, 41, 42, 43, 44, 45, 46, 47, 48, 49, 50] (by decide +kernel) (by decide +kernel)
set_option maxRecDepth 20000 in
theorem gX5_goFleece_X5_beside : GoodIn wsX5_goFleece (wsV RX5 172 RX5 yX5_beside wsX5_beside) := goodIn_app (goodIn_of _ (by decide +kernel)) ggX5_goFleece_X5_beside
set_option maxRecDepth 20000 in
theorem ggX5_goFleece_X5_isIn : GoodIn wsX5_goFleece wsX5_isIn := goodIn_r _ [20] (by decide +kernel) (by decide +kernel)
set_option maxRecDepth 20000 in
theorem gX5_goFleece_X5_isIn : GoodIn wsX5_goFleece (va_wsS RX5 175 yX5_isIn wsX5_isIn) := goodIn_app (goodIn_of _ (by decide +kernel)) ggX5_goFleece_X5_isIn
theorem dX5_goFleece_0 : decode cX5_goFleece 0 = .ok (.iconst 0, 1) := by decide +kernel
theorem dX5_goFleece_1 : decode cX5_goFleece 1 = .ok (.istore_n 3, 1) := by decide +kernel
theorem dX5_goFleece_2 : decode cX5_goFleece 2 = .ok (.iconst 1, 1) := by decide +kernel
theorem dX5_goFleece_3 : decode cX5_goFleece 3 = .ok (.iload_n 2, 1) := by decide +kernel
theorem dX5_goFleece_4 : decode cX5_goFleece 4 = .ok (.ishl, 1) := by decide +kernel
theorem dX5_goFleece_5 : decode cX5_goFleece 5 = .ok (.istore 4, 2) := by decide +kernel
theorem dX5_goFleece_7 : decode cX5_goFleece 7 = .ok (.aload_n 0, 1) := by decide +kernel
theorem dX5_goFleece_8 : decode cX5_goFleece 8 = .ok (.getfield 19, 3) := by decide +kernel
theorem dX5_goFleece_11 : decode cX5_goFleece 11 = .ok (.iconst 0, 1) := by decide +kernel
theorem dX5_goFleece_12 : decode cX5_goFleece 12 = .ok (.iload_n 2, 1) := by decide +kernel
theorem dX5_goFleece_13 : decode cX5_goFleece 13 = .ok (.iastore, 1) := by decide +kernel
theorem dX5_goFleece_14 : decode cX5_goFleece 14 = .ok (.aload_n 0, 1) := by decide +kernel
theorem dX5_goFleece_15 : decode cX5_goFleece 15 = .ok (.getfield 22, 3) := by decide +kernel
theorem dX5_goFleece_18 : decode cX5_goFleece 18 = .ok (.iconst 0, 1) := by decide +kernel
theorem dX5_goFleece_19 : decode cX5_goFleece 19 = .ok (.iconst 0, 1) := by decide +kernel
theorem dX5_goFleece_20 : decode cX5_goFleece 20 = .ok (.iastore, 1) := by decide +kernel
theorem dX5_goFleece_21 : decode cX5_goFleece 21 = .ok (.aload_n 0, 1) := by decide +kernel
theorem dX5_goFleece_22 : decode cX5_goFleece 22 = .ok (.iconst 1, 1) := by decide +kernel
theorem dX5_goFleece_23 : decode cX5_goFleece 23 = .ok (.putfield 187, 3) := by decide +kernel
theorem dX5_goFleece_26 : decode cX5_goFleece 26 = .ok (.iload_n 1, 1) := by decide +kernel
theorem dX5_goFleece_27 : decode cX5_goFleece 27 = .ok (.invokestatic 190, 3) := by decide +kernel
theorem dX5_goFleece_30 : decode cX5_goFleece 30 = .ok (.istore 5, 2) := by decide +kernel
theorem dX5_goFleece_32 : decode cX5_goFleece 32 = .ok (.iload_n 3, 1) := by decide +kernel
theorem dX5_goFleece_33 : decode cX5_goFleece 33 = .ok (.ifCond .lt 168, 3) := by decide +kernel
theorem dX5_goFleece_36 : decode cX5_goFleece 36 = .ok (.aload_n 0, 1) := by decide +kernel
theorem dX5_goFleece_37 : decode cX5_goFleece 37 = .ok (.getfield 187, 3) := by decide +kernel
theorem dX5_goFleece_40 : decode cX5_goFleece 40 = .ok (.iload 5, 2) := by decide +kernel
theorem dX5_goFleece_42 : decode cX5_goFleece 42 = .ok (.if_icmp .ge 159, 3) := by decide +kernel
theorem dX5_goFleece_45 : decode cX5_goFleece 45 = .ok (.aload_n 0, 1) := by decide +kernel
theorem dX5_goFleece_46 : decode cX5_goFleece 46 = .ok (.getfield 22, 3) := by decide +kernel
theorem dX5_goFleece_49 : decode cX5_goFleece 49 = .ok (.iload_n 3, 1) := by decide +kernel
theorem dX5_goFleece_50 : decode cX5_goFleece 50 = .ok (.iaload, 1) := by decide +kernel
theorem dX5_goFleece_51 : decode cX5_goFleece 51 = .ok (.istore 6, 2) := by decide +kernel
theorem dX5_goFleece_53 : decode cX5_goFleece 53 = .ok (.iload 6, 2) := by decide +kernel
theorem dX5_goFleece_55 : decode cX5_goFleece 55 = .ok (.iconst 3, 1) := by decide +kernel
theorem dX5_goFleece_56 : decode cX5_goFleece 56 = .ok (.if_icmp .le 24, 3) := by decide +kernel
theorem dX5_goFleece_59 : decode cX5_goFleece 59 = .ok (.iload 4, 2) := by decide +kernel
theorem dX5_goFleece_61 : decode cX5_goFleece 61 = .ok (.iconst 1, 1) := by decide +kernel
theorem dX5_goFleece_62 : decode cX5_goFleece 62 = .ok (.aload_n 0, 1) := by decide +kernel
theorem dX5_goFleece_63 : decode cX5_goFleece 63 = .ok (.getfield 19, 3) := by decide +kernel
theorem dX5_goFleece_66 : decode cX5_goFleece 66 = .ok (.iload_n 3, 1) := by decide +kernel
theorem dX5_goFleece_67 : decode cX5_goFleece 67 = .ok (.iaload, 1) := by decide +kernel
theorem dX5_goFleece_68 : decode cX5_goFleece 68 = .ok (.ishl, 1) := by decide +kernel
theorem dX5_goFleece_69 : decode cX5_goFleece 69 = .ok (.iconst (-1), 1) := by decide +kernel
theorem dX5_goFleece_70 : decode cX5_goFleece 70 = .ok (.ixor, 1) := by decide +kernel
theorem dX5_goFleece_71 : decode cX5_goFleece 71 = .ok (.iand, 1) := by decide +kernel
theorem dX5_goFleece_72 : decode cX5_goFleece 72 = .ok (.istore 4, 2) := by decide +kernel
theorem dX5_goFleece_74 : decode cX5_goFleece 74 = .ok (.iinc 3 (-1), 3) := by decide +kernel
theorem dX5_goFleece_77 : decode cX5_goFleece 77 = .ok (.goto 121, 3) := by decide +kernel
theorem dX5_goFleece_80 : decode cX5_goFleece 80 = .ok (.aload_n 0, 1) := by decide +kernel
theorem dX5_goFleece_81 : decode cX5_goFleece 81 = .ok (.getfield 22, 3) := by decide +kernel
theorem dX5_goFleece_84 : decode cX5_goFleece 84 = .ok (.iload_n 3, 1) := by decide +kernel
theorem dX5_goFleece_85 : decode cX5_goFleece 85 = .ok (.dup2, 1) := by decide +kernel
theorem dX5_goFleece_86 : decode cX5_goFleece 86 = .ok (.iaload, 1) := by decide +kernel
theorem dX5_goFleece_87 : decode cX5_goFleece 87 = .ok (.iconst 1, 1) := by decide +kernel
theorem dX5_goFleece_88 : decode cX5_goFleece 88 = .ok (.iadd, 1) := by decide +kernel
theorem dX5_goFleece_89 : decode cX5_goFleece 89 = .ok (.iastore, 1) := by decide +kernel
theorem dX5_goFleece_90 : decode cX5_goFleece 90 = .ok (.aload_n 0, 1) := by decide +kernel
theorem dX5_goFleece_91 : decode cX5_goFleece 91 = .ok (.aload_n 0, 1) := by decide +kernel
theorem dX5_goFleece_92 : decode cX5_goFleece 92 = .ok (.getfield 19, 3) := by decide +kernel
theorem dX5_goFleece_95 : decode cX5_goFleece 95 = .ok (.iload_n 3, 1) := by decide +kernel
theorem dX5_goFleece_96 : decode cX5_goFleece 96 = .ok (.iaload, 1) := by decide +kernel
theorem dX5_goFleece_97 : decode cX5_goFleece 97 = .ok (.iload 6, 2) := by decide +kernel
theorem dX5_goFleece_99 : decode cX5_goFleece 99 = .ok (.invokevirtual 172, 3) := by decide +kernel
theorem dX5_goFleece_102 : decode cX5_goFleece 102 = .ok (.istore 7, 2) := by decide +kernel
theorem dX5_goFleece_104 : decode cX5_goFleece 104 = .ok (.iload 7, 2) := by decide +kernel
theorem dX5_goFleece_106 : decode cX5_goFleece 106 = .ok (.ifCond .lt 92, 3) := by decide +kernel
theorem dX5_goFleece_109 : decode cX5_goFleece 109 = .ok (.iload_n 1, 1) := by decide +kernel
theorem dX5_goFleece_110 : decode cX5_goFleece 110 = .ok (.iload 4, 2) := by decide +kernel
theorem dX5_goFleece_112 : decode cX5_goFleece 112 = .ok (.iconst (-1), 1) := by decide +kernel
theorem dX5_goFleece_113 : decode cX5_goFleece 113 = .ok (.ixor, 1) := by decide +kernel
theorem dX5_goFleece_114 : decode cX5_goFleece 114 = .ok (.iand, 1) := by decide +kernel
theorem dX5_goFleece_115 : decode cX5_goFleece 115 = .ok (.iload 7, 2) := by decide +kernel
theorem dX5_goFleece_117 : decode cX5_goFleece 117 = .ok (.invokestatic 175, 3) := by decide +kernel
theorem dX5_goFleece_120 : decode cX5_goFleece 120 = .ok (.ifCond .eq 78, 3) := by decide +kernel
theorem dX5_goFleece_123 : decode cX5_goFleece 123 = .ok (.iinc 3 1, 3) := by decide +kernel
theorem dX5_goFleece_126 : decode cX5_goFleece 126 = .ok (.iload 4, 2) := by decide +kernel
theorem dX5_goFleece_128 : decode cX5_goFleece 128 = .ok (.iconst 1, 1) := by decide +kernel
theorem dX5_goFleece_129 : decode cX5_goFleece 129 = .ok (.iload 7, 2) := by decide +kernel
theorem dX5_goFleece_131 : decode cX5_goFleece 131 = .ok (.ishl, 1) := by decide +kernel
theorem dX5_goFleece_132 : decode cX5_goFleece 132 = .ok (.ior, 1) := by decide +kernel
theorem dX5_goFleece_133 : decode cX5_goFleece 133 = .ok (.istore 4, 2) := by decide +kernel
theorem dX5_goFleece_135 : decode cX5_goFleece 135 = .ok (.aload_n 0, 1) := by decide +kernel
theorem dX5_goFleece_136 : decode cX5_goFleece 136 = .ok (.getfield 19, 3) := by decide +kernel
theorem dX5_goFleece_139 : decode cX5_goFleece 139 = .ok (.iload_n 3, 1) := by decide +kernel
theorem dX5_goFleece_140 : decode cX5_goFleece 140 = .ok (.iload 7, 2) := by decide +kernel
theorem dX5_goFleece_142 : decode cX5_goFleece 142 = .ok (.iastore, 1) := by decide +kernel
theorem dX5_goFleece_143 : decode cX5_goFleece 143 = .ok (.aload_n 0, 1) := by decide +kernel
theorem dX5_goFleece_144 : decode cX5_goFleece 144 = .ok (.getfield 22, 3) := by decide +kernel
theorem dX5_goFleece_147 : decode cX5_goFleece 147 = .ok (.iload_n 3, 1) := by decide +kernel
theorem dX5_goFleece_148 : decode cX5_goFleece 148 = .ok (.iconst 0, 1) := by decide +kernel
theorem dX5_goFleece_149 : decode cX5_goFleece 149 = .ok (.iastore, 1) := by decide +kernel
theorem dX5_goFleece_150 : decode cX5_goFleece 150 = .ok (.iload_n 3, 1) := by decide +kernel
theorem dX5_goFleece_151 : decode cX5_goFleece 151 = .ok (.iconst 1, 1) := by decide +kernel
theorem dX5_goFleece_152 : decode cX5_goFleece 152 = .ok (.iadd, 1) := by decide +kernel
theorem dX5_goFleece_153 : decode cX5_goFleece 153 = .ok (.aload_n 0, 1) := by decide +kernel
theorem dX5_goFleece_154 : decode cX5_goFleece 154 = .ok (.getfield 187, 3) := by decide +kernel
theorem dX5_goFleece_157 : decode cX5_goFleece 157 = .ok (.if_icmp .le 41, 3) := by decide +kernel
theorem dX5_goFleece_160 : decode cX5_goFleece 160 = .ok (.aload_n 0, 1) := by decide +kernel
theorem dX5_goFleece_161 : decode cX5_goFleece 161 = .ok (.iload_n 3, 1) := by decide +kernel
theorem dX5_goFleece_162 : decode cX5_goFleece 162 = .ok (.iconst 1, 1) := by decide +kernel
theorem dX5_goFleece_163 : decode cX5_goFleece 163 = .ok (.iadd, 1) := by decide +kernel
theorem dX5_goFleece_164 : decode cX5_goFleece 164 = .ok (.putfield 187, 3) := by decide +kernel
theorem dX5_goFleece_167 : decode cX5_goFleece 167 = .ok (.iconst 0, 1) := by decide +kernel
theorem dX5_goFleece_168 : decode cX5_goFleece 168 = .ok (.istore 8, 2) := by decide +kernel
theorem dX5_goFleece_170 : decode cX5_goFleece 170 = .ok (.iload 8, 2) := by decide +kernel
theorem dX5_goFleece_172 : decode cX5_goFleece 172 = .ok (.iload_n 3, 1) := by decide +kernel
theorem dX5_goFleece_173 : decode cX5_goFleece 173 = .ok (.if_icmp .ge 25, 3) := by decide +kernel
theorem dX5_goFleece_176 : decode cX5_goFleece 176 = .ok (.aload_n 0, 1) := by decide +kernel
theorem dX5_goFleece_177 : decode cX5_goFleece 177 = .ok (.getfield 25, 3) := by decide +kernel
theorem dX5_goFleece_180 : decode cX5_goFleece 180 = .ok (.iload 8, 2) := by decide +kernel
theorem dX5_goFleece_182 : decode cX5_goFleece 182 = .ok (.aload_n 0, 1) := by decide +kernel
theorem dX5_goFleece_183 : decode cX5_goFleece 183 = .ok (.getfield 22, 3) := by decide +kernel
theorem dX5_goFleece_186 : decode cX5_goFleece 186 = .ok (.iload 8, 2) := by decide +kernel
theorem dX5_goFleece_188 : decode cX5_goFleece 188 = .ok (.iaload, 1) := by decide +kernel
theorem dX5_goFleece_189 : decode cX5_goFleece 189 = .ok (.iconst 1, 1) := by decide +kernel
theorem dX5_goFleece_190 : decode cX5_goFleece 190 = .ok (.isub, 1) := by decide +kernel
theorem dX5_goFleece_191 : decode cX5_goFleece 191 = .ok (.iastore, 1) := by decide +kernel
theorem dX5_goFleece_192 : decode cX5_goFleece 192 = .ok (.iinc 8 1, 3) := by decide +kernel
theorem dX5_goFleece_195 : decode cX5_goFleece 195 = .ok (.goto (-25), 3) := by decide +kernel
theorem dX5_goFleece_198 : decode cX5_goFleece 198 = .ok (.goto (-166), 3) := by decide +kernel
theorem dX5_goFleece_201 : decode cX5_goFleece 201 = .ok (.return_, 1) := by decide +kernel
set_option maxRecDepth 20000 in
theorem ggX5_fleece_X5_noPlace : GoodIn wsX5_fleece wsX5_noPlace := goodIn_r _ [9, 10, 11, 12, 8, 13, 14, 15, 16, 17, 18, 55, 56, 57, 58, 59, 60, 61, 62, 63, 64, 65, 66, 67, 68, 69, 70, 71, 72, 73, 74, 75, 76, 77, 78, 79, 80, 81, 82, 83, 84] (by decide +kernel) (by decide +kernel)
set_option maxRecDepth 20000 in
theorem gX5_fleece_X5_noPlace : GoodIn wsX5_fleece (wsV RX5 77 RX5 yX5_noPlace wsX5_noPlace) := goodIn_app (goodIn_of _ (by decide +kernel)) ggX5_fleece_X5_noPlace
set_option maxRecDepth 20000 in
theorem ggX5_fleece_X5_noWeeks : GoodIn wsX5_fleece wsX5_noWeeks := goodIn_r _ [21, 22, 16, 17, 8, 18] (by decide +kernel) (by decide +kernel)
set_option maxRecDepth 20000 in
theorem gX5_fleece_X5_noWeeks : GoodIn wsX5_fleece (va_wsS RX5 157 yX5_noWeeks wsX5_noWeeks) := goodIn_app (goodIn_of _ (by decide +kernel)) ggX5_fleece_X5_noWeeks
set_option maxRecDepth 20000 in
theorem ggX5_fleece_X5_in : GoodIn wsX5_fleece wsX5_in := goodIn_r _ [18] (by decide +kernel) (by decide +kernel)
set_option maxRecDepth 20000 in
theorem gX5_fleece_X5_in : GoodIn wsX5_fleece (va_wsS RX5 73 yX5_in wsX5_in) := goodIn_app (goodIn_of _ (by decide +kernel)) ggX5_fleece_X5_in
set_option maxRecDepth 20000 in
theorem ggX5_fleece_X5_ripeBy : GoodIn wsX5_fleece wsX5_ripeBy := goodIn_r _ [26, 27, 10, 11, 12, 8, 13, 14, 15, 28, 29, 30, 31, 32, 33, 34, 35, 36, 37, 38, 55, 56, 57, 58, 59, 60, 61, 62, 63, 64, 65, 66, 67, 68, 69, 70, 71, 72, 73, 74, 75, 76, 77, 78, 79, 80, 81, 82, 83, 84] (by decide +kernel) (by decide +kernel)
set_option maxRecDepth 20000 in
theorem gX5_fleece_X5_ripeBy : GoodIn wsX5_fleece (wsV RX5 160 RX5 yX5_ripeBy wsX5_ripeBy) := goodIn_app (goodIn_of _ (by decide +kernel)) ggX5_fleece_X5_ripeBy
set_option maxRecDepth 20000 in
theorem ggX5_fleece_X5_isIn : GoodIn wsX5_fleece wsX5_isIn := goodIn_r _ [41] (by decide +kernel) (by decide +kernel)
set_option maxRecDepth 20000 in
theorem gX5_fleece_X5_isIn : GoodIn wsX5_fleece (va_wsS RX5 175 yX5_isIn wsX5_isIn) := goodIn_app (goodIn_of _ (by decide +kernel)) ggX5_fleece_X5_isIn
set_option maxRecDepth 20000 in
theorem ggX5_fleece_X5_goFleece : GoodIn wsX5_fleece wsX5_goFleece := goodIn_r _ [45, 46, 47, 3, 4, 48, 49, 8, 50, 51, 52, 53, 54, 15, 14, 16, 17, 18, 39, 40, 41, 55, 56, 57, 58, 59, 60, 61, 62, 63, 64, 65, 66, 67, 68, 69, 70, 71, 72, 73, 74, 75, 76, 77, 78, 79, 80, 81, 82, 83, 84] (by decide +kernel) (by decide +kernel)
set_option maxRecDepth 20000 in
theorem gX5_fleece_X5_goFleece : GoodIn wsX5_fleece (wsV RX5 197 RX5 yX5_goFleece wsX5_goFleece) := goodIn_app (goodIn_of _ (by decide +kernel)) ggX5_fleece_X5_goFleece
theorem dX5_fleece_0 : decode cX5_fleece 0 = .ok (.aload_n 0, 1) := by decide +kernel
theorem dX5_fleece_1 : decode cX5_fleece 1 = .ok (.iload_n 2, 1) := by decide +kernel
theorem dX5_fleece_2 : decode cX5_fleece 2 = .ok (.invokevirtual 77, 3) := by decide +kernel
theorem dX5_fleece_5 : decode cX5_fleece 5 = .ok (.ifCond .eq 5, 3) := by decide +kernel
theorem dX5_fleece_8 : decode cX5_fleece 8 = .ok (.iconst (-1), 1) := by decide +kernel
theorem dX5_fleece_9 : decode cX5_fleece 9 = .ok (.ireturn, 1) := by decide +kernel
theorem dX5_fleece_10 : decode cX5_fleece 10 = .ok (.iload_n 1, 1) := by decide +kernel
theorem dX5_fleece_11 : decode cX5_fleece 11 = .ok (.invokestatic 157, 3) := by decide +kernel
theorem dX5_fleece_14 : decode cX5_fleece 14 = .ok (.ifCond .ne 17, 3) := by decide +kernel
theorem dX5_fleece_17 : decode cX5_fleece 17 = .ok (.iload_n 3, 1) := by decide +kernel
theorem dX5_fleece_18 : decode cX5_fleece 18 = .ok (.i2l, 1) := by decide +kernel
theorem dX5_fleece_19 : decode cX5_fleece 19 = .ok (.ldc2_w 193, 3) := by decide +kernel
theorem dX5_fleece_22 : decode cX5_fleece 22 = .ok (.ldc2_w 195, 3) := by decide +kernel
theorem dX5_fleece_25 : decode cX5_fleece 25 = .ok (.invokestatic 73, 3) := by decide +kernel
theorem dX5_fleece_28 : decode cX5_fleece 28 = .ok (.ifCond .ne 6, 3) := by decide +kernel
theorem dX5_fleece_31 : decode cX5_fleece 31 = .ok (.bipush (-2), 2) := by decide +kernel
theorem dX5_fleece_33 : decode cX5_fleece 33 = .ok (.ireturn, 1) := by decide +kernel
theorem dX5_fleece_34 : decode cX5_fleece 34 = .ok (.aload_n 0, 1) := by decide +kernel
theorem dX5_fleece_35 : decode cX5_fleece 35 = .ok (.iload_n 1, 1) := by decide +kernel
theorem dX5_fleece_36 : decode cX5_fleece 36 = .ok (.invokevirtual 160, 3) := by decide +kernel
theorem dX5_fleece_39 : decode cX5_fleece 39 = .ok (.iload_n 2, 1) := by decide +kernel
theorem dX5_fleece_40 : decode cX5_fleece 40 = .ok (.invokestatic 175, 3) := by decide +kernel
theorem dX5_fleece_43 : decode cX5_fleece 43 = .ok (.ifCond .ne 6, 3) := by decide +kernel
theorem dX5_fleece_46 : decode cX5_fleece 46 = .ok (.bipush (-3), 2) := by decide +kernel
theorem dX5_fleece_48 : decode cX5_fleece 48 = .ok (.ireturn, 1) := by decide +kernel
theorem dX5_fleece_49 : decode cX5_fleece 49 = .ok (.aload_n 0, 1) := by decide +kernel
theorem dX5_fleece_50 : decode cX5_fleece 50 = .ok (.aload_n 0, 1) := by decide +kernel
theorem dX5_fleece_51 : decode cX5_fleece 51 = .ok (.iload_n 1, 1) := by decide +kernel
theorem dX5_fleece_52 : decode cX5_fleece 52 = .ok (.invokevirtual 160, 3) := by decide +kernel
theorem dX5_fleece_55 : decode cX5_fleece 55 = .ok (.iload_n 2, 1) := by decide +kernel
theorem dX5_fleece_56 : decode cX5_fleece 56 = .ok (.invokevirtual 197, 3) := by decide +kernel
theorem dX5_fleece_59 : decode cX5_fleece 59 = .ok (.iload_n 3, 1) := by decide +kernel
theorem dX5_fleece_60 : decode cX5_fleece 60 = .ok (.ifCond .ge 10, 3) := by decide +kernel
theorem dX5_fleece_63 : decode cX5_fleece 63 = .ok (.aload_n 0, 1) := by decide +kernel
theorem dX5_fleece_64 : decode cX5_fleece 64 = .ok (.getfield 187, 3) := by decide +kernel
theorem dX5_fleece_67 : decode cX5_fleece 67 = .ok (.goto 24, 3) := by decide +kernel
theorem dX5_fleece_70 : decode cX5_fleece 70 = .ok (.iload_n 3, 1) := by decide +kernel
theorem dX5_fleece_71 : decode cX5_fleece 71 = .ok (.aload_n 0, 1) := by decide +kernel
theorem dX5_fleece_72 : decode cX5_fleece 72 = .ok (.getfield 187, 3) := by decide +kernel
theorem dX5_fleece_75 : decode cX5_fleece 75 = .ok (.iconst 1, 1) := by decide +kernel
theorem dX5_fleece_76 : decode cX5_fleece 76 = .ok (.isub, 1) := by decide +kernel
theorem dX5_fleece_77 : decode cX5_fleece 77 = .ok (.if_icmp .ge 12, 3) := by decide +kernel
theorem dX5_fleece_80 : decode cX5_fleece 80 = .ok (.aload_n 0, 1) := by decide +kernel
theorem dX5_fleece_81 : decode cX5_fleece 81 = .ok (.getfield 25, 3) := by decide +kernel
theorem dX5_fleece_84 : decode cX5_fleece 84 = .ok (.iload_n 3, 1) := by decide +kernel
theorem dX5_fleece_85 : decode cX5_fleece 85 = .ok (.iaload, 1) := by decide +kernel
theorem dX5_fleece_86 : decode cX5_fleece 86 = .ok (.goto 5, 3) := by decide +kernel
theorem dX5_fleece_89 : decode cX5_fleece 89 = .ok (.bipush (-9), 2) := by decide +kernel
theorem dX5_fleece_91 : decode cX5_fleece 91 = .ok (.ireturn, 1) := by decide +kernel
set_option maxRecDepth 20000 in
theorem ggX5_startBy_X5_ripeBy : GoodIn wsX5_startBy wsX5_ripeBy := goodIn_r _ [6, 7, 8, 9, 10, 5, 11, 12, 13, 14, 15, 16, 17, 18, 19, 20, 21, 22, 23, 24, 45, 46, 47, 48, 49, 50, 51, 52, 53, 54, 55, 56, 57, 58, 59, 60, 61, 62, 63, 64, 65, 66, 67, 68, 69, 70, 71, 72, 73, 74] (by decide +kernel) (by decide +kernel)
set_option maxRecDepth 20000 in
theorem gX5_startBy_X5_ripeBy : GoodIn wsX5_startBy (wsV RX5 160 RX5 yX5_ripeBy wsX5_ripeBy) := goodIn_app (goodIn_of _ (by decide +kernel)) ggX5_startBy_X5_ripeBy
set_option maxRecDepth 20000 in
theorem ggX5_startBy_X5_cells : GoodIn wsX5_startBy wsX5_cells := goodIn_r _ [11, 12, 13, 45, 46, 47, 48, 49, 50, 51, 52, 53, 54, 55, 56, 57, 58, 59, 60, 61, 62, 63, 64, 65, 66, 67, 68, 69, 70, 71, 72, 73, 74] (by decide +kernel) (by decide +kernel)
set_option maxRecDepth 20000 in
theorem gX5_startBy_X5_cells : GoodIn wsX5_startBy (wsV RX5 69 RX5 yX5_cells wsX5_cells) := goodIn_app (goodIn_of _ (by decide +kernel)) ggX5_startBy_X5_cells
set_option maxRecDepth 20000 in
theorem ggX5_startBy_X5_isIn : GoodIn wsX5_startBy wsX5_isIn := goodIn_r _ [27] (by decide +kernel) (by decide +kernel)
set_option maxRecDepth 20000 in
theorem gX5_startBy_X5_isIn : GoodIn wsX5_startBy (va_wsS RX5 175 yX5_isIn wsX5_isIn) := goodIn_app (goodIn_of _ (by decide +kernel)) ggX5_startBy_X5_isIn
set_option maxRecDepth 20000 in
theorem ggX5_startBy_X5_bits : GoodIn wsX5_startBy wsX5_bits := goodIn_r _ [30] (by decide +kernel) (by decide +kernel)
set_option maxRecDepth 20000 in
theorem gX5_startBy_X5_bits : GoodIn wsX5_startBy (va_wsS RX5 190 yX5_bits wsX5_bits) := goodIn_app (goodIn_of _ (by decide +kernel)) ggX5_startBy_X5_bits
set_option maxRecDepth 20000 in
theorem ggX5_startBy_X5_goFleece : GoodIn wsX5_startBy wsX5_goFleece := goodIn_r _ [34, 35, 36, 1, 37, 28, 29, 5, 30, 38, 39, 40, 41, 13, 12, 42, 43, 44, 25, 26, 27, 45, 46, 47, 48, 49, 50, 51, 52, 53, 54, 55, 56, 57, 58, 59, 60, 61, 62, 63, 64, 65, 66, 67, 68, 69, 70, 71, 72, 73, 74] (by decide +kernel) (by decide +kernel)
set_option maxRecDepth 20000 in
theorem gX5_startBy_X5_goFleece : GoodIn wsX5_startBy (wsV RX5 197 RX5 yX5_goFleece wsX5_goFleece) := goodIn_app (goodIn_of _ (by decide +kernel)) ggX5_startBy_X5_goFleece
theorem dX5_startBy_0 : decode cX5_startBy 0 = .ok (.aload_n 0, 1) := by decide +kernel
theorem dX5_startBy_1 : decode cX5_startBy 1 = .ok (.iload_n 1, 1) := by decide +kernel
theorem dX5_startBy_2 : decode cX5_startBy 2 = .ok (.invokevirtual 160, 3) := by decide +kernel
theorem dX5_startBy_5 : decode cX5_startBy 5 = .ok (.istore_n 2, 1) := by decide +kernel
theorem dX5_startBy_6 : decode cX5_startBy 6 = .ok (.bipush (-9), 2) := by decide +kernel
theorem dX5_startBy_8 : decode cX5_startBy 8 = .ok (.istore_n 3, 1) := by decide +kernel
theorem dX5_startBy_9 : decode cX5_startBy 9 = .ok (.iconst 0, 1) := by decide +kernel
theorem dX5_startBy_10 : decode cX5_startBy 10 = .ok (.istore 4, 2) := by decide +kernel
theorem dX5_startBy_12 : decode cX5_startBy 12 = .ok (.iconst 0, 1) := by decide +kernel
theorem dX5_startBy_13 : decode cX5_startBy 13 = .ok (.istore 5, 2) := by decide +kernel
theorem dX5_startBy_15 : decode cX5_startBy 15 = .ok (.iload 5, 2) := by decide +kernel
theorem dX5_startBy_17 : decode cX5_startBy 17 = .ok (.aload_n 0, 1) := by decide +kernel
theorem dX5_startBy_18 : decode cX5_startBy 18 = .ok (.invokevirtual 69, 3) := by decide +kernel
theorem dX5_startBy_21 : decode cX5_startBy 21 = .ok (.if_icmp .ge 70, 3) := by decide +kernel
theorem dX5_startBy_24 : decode cX5_startBy 24 = .ok (.iload_n 2, 1) := by decide +kernel
theorem dX5_startBy_25 : decode cX5_startBy 25 = .ok (.iload 5, 2) := by decide +kernel
theorem dX5_startBy_27 : decode cX5_startBy 27 = .ok (.invokestatic 175, 3) := by decide +kernel
theorem dX5_startBy_30 : decode cX5_startBy 30 = .ok (.ifCond .eq 55, 3) := by decide +kernel
theorem dX5_startBy_33 : decode cX5_startBy 33 = .ok (.iload 4, 2) := by decide +kernel
theorem dX5_startBy_35 : decode cX5_startBy 35 = .ok (.iload_n 2, 1) := by decide +kernel
theorem dX5_startBy_36 : decode cX5_startBy 36 = .ok (.invokestatic 190, 3) := by decide +kernel
theorem dX5_startBy_39 : decode cX5_startBy 39 = .ok (.if_icmp .ge 46, 3) := by decide +kernel
theorem dX5_startBy_42 : decode cX5_startBy 42 = .ok (.aload_n 0, 1) := by decide +kernel
theorem dX5_startBy_43 : decode cX5_startBy 43 = .ok (.iload_n 2, 1) := by decide +kernel
theorem dX5_startBy_44 : decode cX5_startBy 44 = .ok (.iload 5, 2) := by decide +kernel
theorem dX5_startBy_46 : decode cX5_startBy 46 = .ok (.invokevirtual 197, 3) := by decide +kernel
theorem dX5_startBy_49 : decode cX5_startBy 49 = .ok (.aload_n 0, 1) := by decide +kernel
theorem dX5_startBy_50 : decode cX5_startBy 50 = .ok (.getfield 187, 3) := by decide +kernel
theorem dX5_startBy_53 : decode cX5_startBy 53 = .ok (.iload 4, 2) := by decide +kernel
theorem dX5_startBy_55 : decode cX5_startBy 55 = .ok (.if_icmp .le 8, 3) := by decide +kernel
theorem dX5_startBy_58 : decode cX5_startBy 58 = .ok (.iload 5, 2) := by decide +kernel
theorem dX5_startBy_60 : decode cX5_startBy 60 = .ok (.goto 4, 3) := by decide +kernel
theorem dX5_startBy_63 : decode cX5_startBy 63 = .ok (.iload_n 3, 1) := by decide +kernel
theorem dX5_startBy_64 : decode cX5_startBy 64 = .ok (.istore_n 3, 1) := by decide +kernel
theorem dX5_startBy_65 : decode cX5_startBy 65 = .ok (.aload_n 0, 1) := by decide +kernel
theorem dX5_startBy_66 : decode cX5_startBy 66 = .ok (.getfield 187, 3) := by decide +kernel
theorem dX5_startBy_69 : decode cX5_startBy 69 = .ok (.iload 4, 2) := by decide +kernel
theorem dX5_startBy_71 : decode cX5_startBy 71 = .ok (.if_icmp .le 10, 3) := by decide +kernel
theorem dX5_startBy_74 : decode cX5_startBy 74 = .ok (.aload_n 0, 1) := by decide +kernel
theorem dX5_startBy_75 : decode cX5_startBy 75 = .ok (.getfield 187, 3) := by decide +kernel
theorem dX5_startBy_78 : decode cX5_startBy 78 = .ok (.goto 5, 3) := by decide +kernel
theorem dX5_startBy_81 : decode cX5_startBy 81 = .ok (.iload 4, 2) := by decide +kernel
theorem dX5_startBy_83 : decode cX5_startBy 83 = .ok (.istore 4, 2) := by decide +kernel
theorem dX5_startBy_85 : decode cX5_startBy 85 = .ok (.iinc 5 1, 3) := by decide +kernel
theorem dX5_startBy_88 : decode cX5_startBy 88 = .ok (.goto (-73), 3) := by decide +kernel
theorem dX5_startBy_91 : decode cX5_startBy 91 = .ok (.iload_n 3, 1) := by decide +kernel
theorem dX5_startBy_92 : decode cX5_startBy 92 = .ok (.ireturn, 1) := by decide +kernel
set_option maxRecDepth 20000 in
theorem ggX5_start_X5_noWeeks : GoodIn wsX5_start wsX5_noWeeks := goodIn_r _ [5, 6, 7, 8, 4, 9] (by decide +kernel) (by decide +kernel)
set_option maxRecDepth 20000 in
theorem gX5_start_X5_noWeeks : GoodIn wsX5_start (va_wsS RX5 157 yX5_noWeeks wsX5_noWeeks) := goodIn_app (goodIn_of _ (by decide +kernel)) ggX5_start_X5_noWeeks
set_option maxRecDepth 20000 in
theorem ggX5_start_X5_startBy : GoodIn wsX5_start wsX5_startBy := goodIn_r _ [13, 14, 15, 16, 17, 4, 18, 19, 20, 21, 22, 23, 1, 24, 25, 26, 27, 28, 29, 30, 31, 32, 33, 34, 35, 36, 37, 38, 39, 40, 41, 42, 43, 44, 45, 46, 47, 48, 49, 50, 51, 52, 7, 8, 9, 53, 54, 55, 56, 57, 58, 59, 60, 61, 62, 63, 64, 65, 66, 67, 68, 69, 70, 71, 72, 73, 74, 75, 76, 77, 78, 79, 80, 81, 82] (by decide +kernel) (by decide +kernel)
set_option maxRecDepth 20000 in
theorem gX5_start_X5_startBy : GoodIn wsX5_start (wsV RX5 201 RX5 yX5_startBy wsX5_startBy) := goodIn_app (goodIn_of _ (by decide +kernel)) ggX5_start_X5_startBy
theorem dX5_start_0 : decode cX5_start 0 = .ok (.aload_n 0, 1) := by decide +kernel
theorem dX5_start_1 : decode cX5_start 1 = .ok (.getfield 63, 3) := by decide +kernel
theorem dX5_start_4 : decode cX5_start 4 = .ok (.ifCond .ne 6, 3) := by decide +kernel
theorem dX5_start_7 : decode cX5_start 7 = .ok (.bipush (-3), 2) := by decide +kernel
theorem dX5_start_9 : decode cX5_start 9 = .ok (.ireturn, 1) := by decide +kernel
theorem dX5_start_10 : decode cX5_start 10 = .ok (.iload_n 1, 1) := by decide +kernel
theorem dX5_start_11 : decode cX5_start 11 = .ok (.invokestatic 157, 3) := by decide +kernel
theorem dX5_start_14 : decode cX5_start 14 = .ok (.ifCond .eq 8, 3) := by decide +kernel
theorem dX5_start_17 : decode cX5_start 17 = .ok (.bipush (-2), 2) := by decide +kernel
theorem dX5_start_19 : decode cX5_start 19 = .ok (.goto 8, 3) := by decide +kernel
theorem dX5_start_22 : decode cX5_start 22 = .ok (.aload_n 0, 1) := by decide +kernel
theorem dX5_start_23 : decode cX5_start 23 = .ok (.iload_n 1, 1) := by decide +kernel
theorem dX5_start_24 : decode cX5_start 24 = .ok (.invokevirtual 201, 3) := by decide +kernel
theorem dX5_start_27 : decode cX5_start 27 = .ok (.ireturn, 1) := by decide +kernel
set_option maxRecDepth 20000 in
theorem ggX5_isWholeFrom_X5_ripeBy : GoodIn wsX5_isWholeFrom wsX5_ripeBy := goodIn_r _ [6, 7, 8, 9, 10, 5, 11, 12, 13, 14, 15, 16, 17, 18, 19, 20, 21, 22, 23, 24, 49, 50, 51, 52, 53, 54, 55, 56, 57, 58, 59, 60, 61, 62, 63, 64, 65, 66, 67, 68, 69, 70, 71, 72, 73, 74, 75, 76, 77, 78] (by decide +kernel) (by decide +kernel)
set_option maxRecDepth 20000 in
theorem gX5_isWholeFrom_X5_ripeBy : GoodIn wsX5_isWholeFrom (wsV RX5 160 RX5 yX5_ripeBy wsX5_ripeBy) := goodIn_app (goodIn_of _ (by decide +kernel)) ggX5_isWholeFrom_X5_ripeBy
set_option maxRecDepth 20000 in
theorem ggX5_isWholeFrom_X5_isIn : GoodIn wsX5_isWholeFrom wsX5_isIn := goodIn_r _ [27] (by decide +kernel) (by decide +kernel)
set_option maxRecDepth 20000 in
theorem gX5_isWholeFrom_X5_isIn : GoodIn wsX5_isWholeFrom (va_wsS RX5 175 yX5_isIn wsX5_isIn) := goodIn_app (goodIn_of _ (by decide +kernel)) ggX5_isWholeFrom_X5_isIn
set_option maxRecDepth 20000 in
theorem ggX5_isWholeFrom_X5_bits : GoodIn wsX5_isWholeFrom wsX5_bits := goodIn_r _ [30] (by decide +kernel) (by decide +kernel)
set_option maxRecDepth 20000 in
theorem gX5_isWholeFrom_X5_bits : GoodIn wsX5_isWholeFrom (va_wsS RX5 190 yX5_bits wsX5_bits) := goodIn_app (goodIn_of _ (by decide +kernel)) ggX5_isWholeFrom_X5_bits
set_option maxRecDepth 20000 in
theorem ggX5_isWholeFrom_X5_cells : GoodIn wsX5_isWholeFrom wsX5_cells := goodIn_r _ [11, 12, 13, 49, 50, 51, 52, 53, 54, 55, 56, 57, 58, 59, 60, 61, 62, 63, 64, 65, 66, 67, 68, 69, 70, 71, 72, 73, 74, 75, 76, 77, 78] (by decide +kernel) (by decide +kernel)
set_option maxRecDepth 20000 in
theorem gX5_isWholeFrom_X5_cells : GoodIn wsX5_isWholeFrom (wsV RX5 69 RX5 yX5_cells wsX5_cells) := goodIn_app (goodIn_of _ (by decide +kernel)) ggX5_isWholeFrom_X5_cells
set_option maxRecDepth 20000 in
theorem ggX5_isWholeFrom_X5_thornsNow : GoodIn wsX5_isWholeFrom wsX5_thornsNow := goodIn_r _ [34, 19, 8, 9, 10, 5, 11, 12, 13, 49, 50, 51, 52, 53, 54, 55, 56, 57, 58, 59, 60, 61, 62, 63, 64, 65, 66, 67, 68, 69, 70, 71, 72, 73, 74, 75, 76, 77, 78] (by decide +kernel) (by decide +kernel)
set_option maxRecDepth 20000 in
theorem gX5_isWholeFrom_X5_thornsNow : GoodIn wsX5_isWholeFrom (wsV RX5 141 RX5 yX5_thornsNow wsX5_thornsNow) := goodIn_app (goodIn_of _ (by decide +kernel)) ggX5_isWholeFrom_X5_thornsNow
set_option maxRecDepth 20000 in
theorem ggX5_isWholeFrom_X5_goFleece : GoodIn wsX5_isWholeFrom wsX5_goFleece := goodIn_r _ [38, 39, 40, 1, 41, 28, 29, 5, 30, 42, 43, 44, 45, 13, 12, 46, 47, 48, 25, 26, 27, 49, 50, 51, 52, 53, 54, 55, 56, 57, 58, 59, 60, 61, 62, 63, 64, 65, 66, 67, 68, 69, 70, 71, 72, 73, 74, 75, 76, 77, 78] (by decide +kernel) (by decide +kernel)
set_option maxRecDepth 20000 in
theorem gX5_isWholeFrom_X5_goFleece : GoodIn wsX5_isWholeFrom (wsV RX5 197 RX5 yX5_goFleece wsX5_goFleece) := goodIn_app (goodIn_of _ (by decide +kernel)) ggX5_isWholeFrom_X5_goFleece
theorem dX5_isWholeFrom_0 : decode cX5_isWholeFrom 0 = .ok (.aload_n 0, 1) := by decide +kernel
theorem dX5_isWholeFrom_1 : decode cX5_isWholeFrom 1 = .ok (.iload_n 1, 1) := by decide +kernel
theorem dX5_isWholeFrom_2 : decode cX5_isWholeFrom 2 = .ok (.invokevirtual 160, 3) := by decide +kernel
theorem dX5_isWholeFrom_5 : decode cX5_isWholeFrom 5 = .ok (.istore_n 3, 1) := by decide +kernel
theorem dX5_isWholeFrom_6 : decode cX5_isWholeFrom 6 = .ok (.iload_n 3, 1) := by decide +kernel
theorem dX5_isWholeFrom_7 : decode cX5_isWholeFrom 7 = .ok (.iload_n 2, 1) := by decide +kernel
theorem dX5_isWholeFrom_8 : decode cX5_isWholeFrom 8 = .ok (.invokestatic 175, 3) := by decide +kernel
theorem dX5_isWholeFrom_11 : decode cX5_isWholeFrom 11 = .ok (.ifCond .eq 19, 3) := by decide +kernel
theorem dX5_isWholeFrom_14 : decode cX5_isWholeFrom 14 = .ok (.iload_n 3, 1) := by decide +kernel
theorem dX5_isWholeFrom_15 : decode cX5_isWholeFrom 15 = .ok (.invokestatic 190, 3) := by decide +kernel
theorem dX5_isWholeFrom_18 : decode cX5_isWholeFrom 18 = .ok (.aload_n 0, 1) := by decide +kernel
theorem dX5_isWholeFrom_19 : decode cX5_isWholeFrom 19 = .ok (.invokevirtual 69, 3) := by decide +kernel
theorem dX5_isWholeFrom_22 : decode cX5_isWholeFrom 22 = .ok (.aload_n 0, 1) := by decide +kernel
theorem dX5_isWholeFrom_23 : decode cX5_isWholeFrom 23 = .ok (.invokevirtual 141, 3) := by decide +kernel
theorem dX5_isWholeFrom_26 : decode cX5_isWholeFrom 26 = .ok (.isub, 1) := by decide +kernel
theorem dX5_isWholeFrom_27 : decode cX5_isWholeFrom 27 = .ok (.if_icmp .ge 5, 3) := by decide +kernel
theorem dX5_isWholeFrom_30 : decode cX5_isWholeFrom 30 = .ok (.iconst 0, 1) := by decide +kernel
theorem dX5_isWholeFrom_31 : decode cX5_isWholeFrom 31 = .ok (.ireturn, 1) := by decide +kernel
theorem dX5_isWholeFrom_32 : decode cX5_isWholeFrom 32 = .ok (.aload_n 0, 1) := by decide +kernel
theorem dX5_isWholeFrom_33 : decode cX5_isWholeFrom 33 = .ok (.iload_n 3, 1) := by decide +kernel
theorem dX5_isWholeFrom_34 : decode cX5_isWholeFrom 34 = .ok (.iload_n 2, 1) := by decide +kernel
theorem dX5_isWholeFrom_35 : decode cX5_isWholeFrom 35 = .ok (.invokevirtual 197, 3) := by decide +kernel
theorem dX5_isWholeFrom_38 : decode cX5_isWholeFrom 38 = .ok (.aload_n 0, 1) := by decide +kernel
theorem dX5_isWholeFrom_39 : decode cX5_isWholeFrom 39 = .ok (.getfield 187, 3) := by decide +kernel
theorem dX5_isWholeFrom_42 : decode cX5_isWholeFrom 42 = .ok (.iload_n 3, 1) := by decide +kernel
theorem dX5_isWholeFrom_43 : decode cX5_isWholeFrom 43 = .ok (.invokestatic 190, 3) := by decide +kernel
theorem dX5_isWholeFrom_46 : decode cX5_isWholeFrom 46 = .ok (.if_icmp .ne 7, 3) := by decide +kernel
theorem dX5_isWholeFrom_49 : decode cX5_isWholeFrom 49 = .ok (.iconst 1, 1) := by decide +kernel
theorem dX5_isWholeFrom_50 : decode cX5_isWholeFrom 50 = .ok (.goto 4, 3) := by decide +kernel
theorem dX5_isWholeFrom_53 : decode cX5_isWholeFrom 53 = .ok (.iconst 0, 1) := by decide +kernel
theorem dX5_isWholeFrom_54 : decode cX5_isWholeFrom 54 = .ok (.ireturn, 1) := by decide +kernel
set_option maxRecDepth 20000 in
theorem ggX5_isWhole_X5_cells : GoodIn wsX5_isWhole wsX5_cells := goodIn_r _ [5, 6, 7, 53, 54, 55, 56, 57, 58, 59, 60, 61, 62, 63, 64, 65, 66, 67, 68, 69, 70, 71, 72, 73, 74, 75, 76, 77, 78, 79, 80, 81, 82] (by decide +kernel) (by decide +kernel)
set_option maxRecDepth 20000 in
theorem gX5_isWhole_X5_cells : GoodIn wsX5_isWhole (wsV RX5 69 RX5 yX5_cells wsX5_cells) := goodIn_app (goodIn_of _ (by decide +kernel)) ggX5_isWhole_X5_cells
set_option maxRecDepth 20000 in
theorem ggX5_isWhole_X5_isWholeFrom : GoodIn wsX5_isWhole wsX5_isWholeFrom := goodIn_r _ [11, 12, 13, 14, 15, 4, 16, 17, 1, 2, 3, 5, 6, 7, 18, 19, 20, 21, 22, 23, 24, 25, 26, 27, 28, 29, 30, 31, 32, 33, 34, 35, 36, 37, 38, 39, 40, 41, 42, 43, 44, 45, 46, 47, 48, 49, 50, 51, 52, 53, 54, 55, 56, 57, 58, 59, 60, 61, 62, 63, 64, 65, 66, 67, 68, 69, 70, 71, 72, 73, 74, 75, 76, 77, 78, 79, 80, 81, 82] (by decide +kernel) (by decide +kernel)
set_option maxRecDepth 20000 in
theorem gX5_isWhole_X5_isWholeFrom : GoodIn wsX5_isWhole (wsV RX5 204 RX5 yX5_isWholeFrom wsX5_isWholeFrom) := goodIn_app (goodIn_of _ (by decide +kernel)) ggX5_isWhole_X5_isWholeFrom
theorem dX5_isWhole_0 : decode cX5_isWhole 0 = .ok (.iconst 0, 1) := by decide +kernel
theorem dX5_isWhole_1 : decode cX5_isWhole 1 = .ok (.istore_n 2, 1) := by decide +kernel
theorem dX5_isWhole_2 : decode cX5_isWhole 2 = .ok (.iconst 0, 1) := by decide +kernel
theorem dX5_isWhole_3 : decode cX5_isWhole 3 = .ok (.istore_n 3, 1) := by decide +kernel
theorem dX5_isWhole_4 : decode cX5_isWhole 4 = .ok (.iload_n 3, 1) := by decide +kernel
theorem dX5_isWhole_5 : decode cX5_isWhole 5 = .ok (.aload_n 0, 1) := by decide +kernel
theorem dX5_isWhole_6 : decode cX5_isWhole 6 = .ok (.invokevirtual 69, 3) := by decide +kernel
theorem dX5_isWhole_9 : decode cX5_isWhole 9 = .ok (.if_icmp .ge 20, 3) := by decide +kernel
theorem dX5_isWhole_12 : decode cX5_isWhole 12 = .ok (.iload_n 2, 1) := by decide +kernel
theorem dX5_isWhole_13 : decode cX5_isWhole 13 = .ok (.ifCond .ne 16, 3) := by decide +kernel
theorem dX5_isWhole_16 : decode cX5_isWhole 16 = .ok (.aload_n 0, 1) := by decide +kernel
theorem dX5_isWhole_17 : decode cX5_isWhole 17 = .ok (.iload_n 1, 1) := by decide +kernel
theorem dX5_isWhole_18 : decode cX5_isWhole 18 = .ok (.iload_n 3, 1) := by decide +kernel
theorem dX5_isWhole_19 : decode cX5_isWhole 19 = .ok (.invokevirtual 204, 3) := by decide +kernel
theorem dX5_isWhole_22 : decode cX5_isWhole 22 = .ok (.istore_n 2, 1) := by decide +kernel
theorem dX5_isWhole_23 : decode cX5_isWhole 23 = .ok (.iinc 3 1, 3) := by decide +kernel
theorem dX5_isWhole_26 : decode cX5_isWhole 26 = .ok (.goto (-22), 3) := by decide +kernel
theorem dX5_isWhole_29 : decode cX5_isWhole 29 = .ok (.iload_n 2, 1) := by decide +kernel
theorem dX5_isWhole_30 : decode cX5_isWhole 30 = .ok (.ireturn, 1) := by decide +kernel
set_option maxRecDepth 20000 in
theorem ggX5_whole_X5_noGrass : GoodIn wsX5_whole wsX5_noGrass := goodIn_r _ [5, 6, 7, 8, 9, 4, 10, 11, 12, 13, 14, 15, 16, 17, 18, 19, 61, 62, 63, 64, 65, 66, 67, 68, 69, 70, 71, 72, 73, 74, 75, 76, 77, 78, 79, 80, 81, 82, 83, 84, 85, 86, 87, 88, 89, 90] (by decide +kernel) (by decide +kernel)
set_option maxRecDepth 20000 in
theorem gX5_whole_X5_noGrass : GoodIn wsX5_whole (wsV RX5 152 RX5 yX5_noGrass wsX5_noGrass) := goodIn_app (goodIn_of _ (by decide +kernel)) ggX5_whole_X5_noGrass
set_option maxRecDepth 20000 in
theorem ggX5_whole_X5_isWholeFrom : GoodIn wsX5_whole wsX5_isWholeFrom := goodIn_r _ [23, 24, 25, 26, 27, 4, 28, 29, 11, 12, 13, 14, 15, 16, 30, 31, 32, 33, 34, 6, 35, 36, 37, 38, 39, 40, 41, 42, 43, 44, 45, 46, 47, 48, 49, 50, 51, 52, 53, 54, 55, 56, 57, 58, 59, 60, 17, 18, 19, 61, 62, 63, 64, 65, 66, 67, 68, 69, 70, 71, 72, 73, 74, 75, 76, 77, 78, 79, 80, 81, 82, 83, 84, 85, 86, 87, 88, 89, 90] (by decide +kernel) (by decide +kernel)
set_option maxRecDepth 20000 in
theorem gX5_whole_X5_isWholeFrom : GoodIn wsX5_whole (wsV RX5 204 RX5 yX5_isWholeFrom wsX5_isWholeFrom) := goodIn_app (goodIn_of _ (by decide +kernel)) ggX5_whole_X5_isWholeFrom
theorem dX5_whole_0 : decode cX5_whole 0 = .ok (.aload_n 0, 1) := by decide +kernel
theorem dX5_whole_1 : decode cX5_whole 1 = .ok (.iload_n 1, 1) := by decide +kernel
theorem dX5_whole_2 : decode cX5_whole 2 = .ok (.invokevirtual 152, 3) := by decide +kernel
theorem dX5_whole_5 : decode cX5_whole 5 = .ok (.ifCond .eq 5, 3) := by decide +kernel
theorem dX5_whole_8 : decode cX5_whole 8 = .ok (.iconst (-1), 1) := by decide +kernel
theorem dX5_whole_9 : decode cX5_whole 9 = .ok (.ireturn, 1) := by decide +kernel
theorem dX5_whole_10 : decode cX5_whole 10 = .ok (.iconst 0, 1) := by decide +kernel
theorem dX5_whole_11 : decode cX5_whole 11 = .ok (.istore_n 2, 1) := by decide +kernel
theorem dX5_whole_12 : decode cX5_whole 12 = .ok (.iload_n 2, 1) := by decide +kernel
theorem dX5_whole_13 : decode cX5_whole 13 = .ok (.bipush 9, 2) := by decide +kernel
theorem dX5_whole_15 : decode cX5_whole 15 = .ok (.if_icmp .gt 20, 3) := by decide +kernel
theorem dX5_whole_18 : decode cX5_whole 18 = .ok (.aload_n 0, 1) := by decide +kernel
theorem dX5_whole_19 : decode cX5_whole 19 = .ok (.iload_n 2, 1) := by decide +kernel
theorem dX5_whole_20 : decode cX5_whole 20 = .ok (.iload_n 1, 1) := by decide +kernel
theorem dX5_whole_21 : decode cX5_whole 21 = .ok (.invokevirtual 204, 3) := by decide +kernel
theorem dX5_whole_24 : decode cX5_whole 24 = .ok (.ifCond .eq 5, 3) := by decide +kernel
theorem dX5_whole_27 : decode cX5_whole 27 = .ok (.iload_n 2, 1) := by decide +kernel
theorem dX5_whole_28 : decode cX5_whole 28 = .ok (.ireturn, 1) := by decide +kernel
theorem dX5_whole_29 : decode cX5_whole 29 = .ok (.iinc 2 1, 3) := by decide +kernel
theorem dX5_whole_32 : decode cX5_whole 32 = .ok (.goto (-20), 3) := by decide +kernel
theorem dX5_whole_35 : decode cX5_whole 35 = .ok (.bipush (-9), 2) := by decide +kernel
theorem dX5_whole_37 : decode cX5_whole 37 = .ok (.ireturn, 1) := by decide +kernel
set_option maxRecDepth 20000 in
theorem ggX5_stops_X5_noWeeks : GoodIn wsX5_stops wsX5_noWeeks := goodIn_r _ [6, 7, 8, 9, 5, 10] (by decide +kernel) (by decide +kernel)
set_option maxRecDepth 20000 in
theorem gX5_stops_X5_noWeeks : GoodIn wsX5_stops (va_wsS RX5 157 yX5_noWeeks wsX5_noWeeks) := goodIn_app (goodIn_of _ (by decide +kernel)) ggX5_stops_X5_noWeeks
set_option maxRecDepth 20000 in
theorem ggX5_stops_X5_isWhole : GoodIn wsX5_stops wsX5_isWhole := goodIn_r _ [14, 15, 16, 17, 5, 18, 1, 19, 20, 21, 22, 23, 24, 25, 26, 27, 28, 29, 30, 31, 32, 33, 34, 2, 35, 36, 37, 38, 39, 40, 41, 42, 43, 44, 45, 46, 47, 48, 49, 50, 51, 52, 53, 54, 55, 56, 57, 58, 59, 60, 8, 9, 10, 61, 62, 63, 64, 65, 66, 67, 68, 69, 70, 71, 72, 73, 74, 75, 76, 77, 78, 79, 80, 81, 82, 83, 84, 85, 86, 87, 88, 89, 90] (by decide +kernel) (by decide +kernel)
set_option maxRecDepth 20000 in
theorem gX5_stops_X5_isWhole : GoodIn wsX5_stops (wsV RX5 207 RX5 yX5_isWhole wsX5_isWhole) := goodIn_app (goodIn_of _ (by decide +kernel)) ggX5_stops_X5_isWhole
set_option maxRecDepth 20000 in
theorem ggX5_stops_X5_cells : GoodIn wsX5_stops wsX5_cells := goodIn_r _ [18, 1, 19, 61, 62, 63, 64, 65, 66, 67, 68, 69, 70, 71, 72, 73, 74, 75, 76, 77, 78, 79, 80, 81, 82, 83, 84, 85, 86, 87, 88, 89, 90] (by decide +kernel) (by decide +kernel)
set_option maxRecDepth 20000 in
theorem gX5_stops_X5_cells : GoodIn wsX5_stops (wsV RX5 69 RX5 yX5_cells wsX5_cells) := goodIn_app (goodIn_of _ (by decide +kernel)) ggX5_stops_X5_cells
theorem dX5_stops_0 : decode cX5_stops 0 = .ok (.aload_n 0, 1) := by decide +kernel
theorem dX5_stops_1 : decode cX5_stops 1 = .ok (.getfield 63, 3) := by decide +kernel
theorem dX5_stops_4 : decode cX5_stops 4 = .ok (.ifCond .ne 6, 3) := by decide +kernel
theorem dX5_stops_7 : decode cX5_stops 7 = .ok (.bipush (-3), 2) := by decide +kernel
theorem dX5_stops_9 : decode cX5_stops 9 = .ok (.ireturn, 1) := by decide +kernel
theorem dX5_stops_10 : decode cX5_stops 10 = .ok (.iload_n 1, 1) := by decide +kernel
theorem dX5_stops_11 : decode cX5_stops 11 = .ok (.invokestatic 157, 3) := by decide +kernel
theorem dX5_stops_14 : decode cX5_stops 14 = .ok (.ifCond .eq 6, 3) := by decide +kernel
theorem dX5_stops_17 : decode cX5_stops 17 = .ok (.bipush (-2), 2) := by decide +kernel
theorem dX5_stops_19 : decode cX5_stops 19 = .ok (.ireturn, 1) := by decide +kernel
theorem dX5_stops_20 : decode cX5_stops 20 = .ok (.bipush (-9), 2) := by decide +kernel
theorem dX5_stops_22 : decode cX5_stops 22 = .ok (.istore_n 2, 1) := by decide +kernel
theorem dX5_stops_23 : decode cX5_stops 23 = .ok (.aload_n 0, 1) := by decide +kernel
theorem dX5_stops_24 : decode cX5_stops 24 = .ok (.iload_n 1, 1) := by decide +kernel
theorem dX5_stops_25 : decode cX5_stops 25 = .ok (.invokevirtual 207, 3) := by decide +kernel
theorem dX5_stops_28 : decode cX5_stops 28 = .ok (.ifCond .ne 7, 3) := by decide +kernel
theorem dX5_stops_31 : decode cX5_stops 31 = .ok (.iconst 1, 1) := by decide +kernel
theorem dX5_stops_32 : decode cX5_stops 32 = .ok (.goto 4, 3) := by decide +kernel
theorem dX5_stops_35 : decode cX5_stops 35 = .ok (.iconst 0, 1) := by decide +kernel
theorem dX5_stops_36 : decode cX5_stops 36 = .ok (.istore_n 3, 1) := by decide +kernel
theorem dX5_stops_37 : decode cX5_stops 37 = .ok (.iconst 0, 1) := by decide +kernel
theorem dX5_stops_38 : decode cX5_stops 38 = .ok (.istore 4, 2) := by decide +kernel
theorem dX5_stops_40 : decode cX5_stops 40 = .ok (.iload 4, 2) := by decide +kernel
theorem dX5_stops_42 : decode cX5_stops 42 = .ok (.aload_n 0, 1) := by decide +kernel
theorem dX5_stops_43 : decode cX5_stops 43 = .ok (.invokevirtual 69, 3) := by decide +kernel
theorem dX5_stops_46 : decode cX5_stops 46 = .ok (.if_icmp .ge 66, 3) := by decide +kernel
theorem dX5_stops_49 : decode cX5_stops 49 = .ok (.iload_n 3, 1) := by decide +kernel
theorem dX5_stops_50 : decode cX5_stops 50 = .ok (.ifCond .eq 62, 3) := by decide +kernel
theorem dX5_stops_53 : decode cX5_stops 53 = .ok (.aload_n 0, 1) := by decide +kernel
theorem dX5_stops_54 : decode cX5_stops 54 = .ok (.getfield 7, 3) := by decide +kernel
theorem dX5_stops_57 : decode cX5_stops 57 = .ok (.iload 4, 2) := by decide +kernel
theorem dX5_stops_59 : decode cX5_stops 59 = .ok (.iaload, 1) := by decide +kernel
theorem dX5_stops_60 : decode cX5_stops 60 = .ok (.iconst 3, 1) := by decide +kernel
theorem dX5_stops_61 : decode cX5_stops 61 = .ok (.if_icmp .ne 45, 3) := by decide +kernel
theorem dX5_stops_64 : decode cX5_stops 64 = .ok (.aload_n 0, 1) := by decide +kernel
theorem dX5_stops_65 : decode cX5_stops 65 = .ok (.getfield 7, 3) := by decide +kernel
theorem dX5_stops_68 : decode cX5_stops 68 = .ok (.iload 4, 2) := by decide +kernel
theorem dX5_stops_70 : decode cX5_stops 70 = .ok (.iconst 0, 1) := by decide +kernel
theorem dX5_stops_71 : decode cX5_stops 71 = .ok (.iastore, 1) := by decide +kernel
theorem dX5_stops_72 : decode cX5_stops 72 = .ok (.aload_n 0, 1) := by decide +kernel
theorem dX5_stops_73 : decode cX5_stops 73 = .ok (.iload_n 1, 1) := by decide +kernel
theorem dX5_stops_74 : decode cX5_stops 74 = .ok (.invokevirtual 207, 3) := by decide +kernel
theorem dX5_stops_77 : decode cX5_stops 77 = .ok (.ifCond .eq 8, 3) := by decide +kernel
theorem dX5_stops_80 : decode cX5_stops 80 = .ok (.iload 4, 2) := by decide +kernel
theorem dX5_stops_82 : decode cX5_stops 82 = .ok (.goto 5, 3) := by decide +kernel
theorem dX5_stops_85 : decode cX5_stops 85 = .ok (.bipush (-9), 2) := by decide +kernel
theorem dX5_stops_87 : decode cX5_stops 87 = .ok (.istore_n 2, 1) := by decide +kernel
theorem dX5_stops_88 : decode cX5_stops 88 = .ok (.aload_n 0, 1) := by decide +kernel
theorem dX5_stops_89 : decode cX5_stops 89 = .ok (.getfield 7, 3) := by decide +kernel
theorem dX5_stops_92 : decode cX5_stops 92 = .ok (.iload 4, 2) := by decide +kernel
theorem dX5_stops_94 : decode cX5_stops 94 = .ok (.iconst 3, 1) := by decide +kernel
theorem dX5_stops_95 : decode cX5_stops 95 = .ok (.iastore, 1) := by decide +kernel
theorem dX5_stops_96 : decode cX5_stops 96 = .ok (.iload_n 2, 1) := by decide +kernel
theorem dX5_stops_97 : decode cX5_stops 97 = .ok (.ifCond .ge 7, 3) := by decide +kernel
theorem dX5_stops_100 : decode cX5_stops 100 = .ok (.iconst 1, 1) := by decide +kernel
theorem dX5_stops_101 : decode cX5_stops 101 = .ok (.goto 4, 3) := by decide +kernel
theorem dX5_stops_104 : decode cX5_stops 104 = .ok (.iconst 0, 1) := by decide +kernel
theorem dX5_stops_105 : decode cX5_stops 105 = .ok (.istore_n 3, 1) := by decide +kernel
theorem dX5_stops_106 : decode cX5_stops 106 = .ok (.iinc 4 1, 3) := by decide +kernel
theorem dX5_stops_109 : decode cX5_stops 109 = .ok (.goto (-69), 3) := by decide +kernel
theorem dX5_stops_112 : decode cX5_stops 112 = .ok (.iload_n 2, 1) := by decide +kernel
theorem dX5_stops_113 : decode cX5_stops 113 = .ok (.ireturn, 1) := by decide +kernel
set_option maxRecDepth 20000 in
theorem ggX5_reading_X5_noGrass : GoodIn wsX5_reading wsX5_noGrass := goodIn_r _ [10, 11, 12, 13, 14, 9, 15, 16, 17, 18, 19, 20, 21, 22, 23, 24, 28, 29, 30, 31, 32, 33, 34, 35, 36, 37, 38, 39, 40, 41, 42, 43, 44, 45, 46, 47, 48, 49, 50, 51, 52, 53, 54, 55, 56, 57] (by decide +kernel) (by decide +kernel)
set_option maxRecDepth 20000 in
theorem gX5_reading_X5_noGrass : GoodIn wsX5_reading (wsV RX5 152 RX5 yX5_noGrass wsX5_noGrass) := goodIn_app (goodIn_of _ (by decide +kernel)) ggX5_reading_X5_noGrass
set_option maxRecDepth 20000 in
theorem ggX5_reading_X5_noWeeks : GoodIn wsX5_reading wsX5_noWeeks := goodIn_r _ [27, 1, 22, 23, 9, 24] (by decide +kernel) (by decide +kernel)
set_option maxRecDepth 20000 in
theorem gX5_reading_X5_noWeeks : GoodIn wsX5_reading (va_wsS RX5 157 yX5_noWeeks wsX5_noWeeks) := goodIn_app (goodIn_of _ (by decide +kernel)) ggX5_reading_X5_noWeeks
set_option maxRecDepth 20000 in
theorem ggX5_reading_X5_in : GoodIn wsX5_reading wsX5_in := goodIn_r _ [24] (by decide +kernel) (by decide +kernel)
set_option maxRecDepth 20000 in
theorem gX5_reading_X5_in : GoodIn wsX5_reading (va_wsS RX5 73 yX5_in wsX5_in) := goodIn_app (goodIn_of _ (by decide +kernel)) ggX5_reading_X5_in
theorem dX5_reading_0 : decode cX5_reading 0 = .ok (.aload_n 0, 1) := by decide +kernel
theorem dX5_reading_1 : decode cX5_reading 1 = .ok (.iload_n 1, 1) := by decide +kernel
theorem dX5_reading_2 : decode cX5_reading 2 = .ok (.invokevirtual 152, 3) := by decide +kernel
theorem dX5_reading_5 : decode cX5_reading 5 = .ok (.ifCond .eq 5, 3) := by decide +kernel
theorem dX5_reading_8 : decode cX5_reading 8 = .ok (.iconst (-1), 1) := by decide +kernel
theorem dX5_reading_9 : decode cX5_reading 9 = .ok (.ireturn, 1) := by decide +kernel
theorem dX5_reading_10 : decode cX5_reading 10 = .ok (.iload_n 2, 1) := by decide +kernel
theorem dX5_reading_11 : decode cX5_reading 11 = .ok (.invokestatic 157, 3) := by decide +kernel
theorem dX5_reading_14 : decode cX5_reading 14 = .ok (.ifCond .ne 15, 3) := by decide +kernel
theorem dX5_reading_17 : decode cX5_reading 17 = .ok (.iload_n 3, 1) := by decide +kernel
theorem dX5_reading_18 : decode cX5_reading 18 = .ok (.i2l, 1) := by decide +kernel
theorem dX5_reading_19 : decode cX5_reading 19 = .ok (.lconst 0, 1) := by decide +kernel
theorem dX5_reading_20 : decode cX5_reading 20 = .ok (.ldc2_w 150, 3) := by decide +kernel
theorem dX5_reading_23 : decode cX5_reading 23 = .ok (.invokestatic 73, 3) := by decide +kernel
theorem dX5_reading_26 : decode cX5_reading 26 = .ok (.ifCond .ne 6, 3) := by decide +kernel
theorem dX5_reading_29 : decode cX5_reading 29 = .ok (.bipush (-2), 2) := by decide +kernel
theorem dX5_reading_31 : decode cX5_reading 31 = .ok (.ireturn, 1) := by decide +kernel
theorem dX5_reading_32 : decode cX5_reading 32 = .ok (.aload_n 0, 1) := by decide +kernel
theorem dX5_reading_33 : decode cX5_reading 33 = .ok (.getfield 138, 3) := by decide +kernel
theorem dX5_reading_36 : decode cX5_reading 36 = .ok (.bipush 8, 2) := by decide +kernel
theorem dX5_reading_38 : decode cX5_reading 38 = .ok (.if_icmp .ne 6, 3) := by decide +kernel
theorem dX5_reading_41 : decode cX5_reading 41 = .ok (.bipush (-4), 2) := by decide +kernel
theorem dX5_reading_43 : decode cX5_reading 43 = .ok (.ireturn, 1) := by decide +kernel
theorem dX5_reading_44 : decode cX5_reading 44 = .ok (.aload_n 0, 1) := by decide +kernel
theorem dX5_reading_45 : decode cX5_reading 45 = .ok (.getfield 28, 3) := by decide +kernel
theorem dX5_reading_48 : decode cX5_reading 48 = .ok (.aload_n 0, 1) := by decide +kernel
theorem dX5_reading_49 : decode cX5_reading 49 = .ok (.getfield 138, 3) := by decide +kernel
theorem dX5_reading_52 : decode cX5_reading 52 = .ok (.iload_n 1, 1) := by decide +kernel
theorem dX5_reading_53 : decode cX5_reading 53 = .ok (.iastore, 1) := by decide +kernel
theorem dX5_reading_54 : decode cX5_reading 54 = .ok (.aload_n 0, 1) := by decide +kernel
theorem dX5_reading_55 : decode cX5_reading 55 = .ok (.getfield 31, 3) := by decide +kernel
theorem dX5_reading_58 : decode cX5_reading 58 = .ok (.aload_n 0, 1) := by decide +kernel
theorem dX5_reading_59 : decode cX5_reading 59 = .ok (.getfield 138, 3) := by decide +kernel
theorem dX5_reading_62 : decode cX5_reading 62 = .ok (.iload_n 2, 1) := by decide +kernel
theorem dX5_reading_63 : decode cX5_reading 63 = .ok (.iastore, 1) := by decide +kernel
theorem dX5_reading_64 : decode cX5_reading 64 = .ok (.aload_n 0, 1) := by decide +kernel
theorem dX5_reading_65 : decode cX5_reading 65 = .ok (.getfield 34, 3) := by decide +kernel
theorem dX5_reading_68 : decode cX5_reading 68 = .ok (.aload_n 0, 1) := by decide +kernel
theorem dX5_reading_69 : decode cX5_reading 69 = .ok (.getfield 138, 3) := by decide +kernel
theorem dX5_reading_72 : decode cX5_reading 72 = .ok (.iload_n 3, 1) := by decide +kernel
theorem dX5_reading_73 : decode cX5_reading 73 = .ok (.iastore, 1) := by decide +kernel
theorem dX5_reading_74 : decode cX5_reading 74 = .ok (.aload_n 0, 1) := by decide +kernel
theorem dX5_reading_75 : decode cX5_reading 75 = .ok (.dup, 1) := by decide +kernel
theorem dX5_reading_76 : decode cX5_reading 76 = .ok (.getfield 138, 3) := by decide +kernel
theorem dX5_reading_79 : decode cX5_reading 79 = .ok (.iconst 1, 1) := by decide +kernel
theorem dX5_reading_80 : decode cX5_reading 80 = .ok (.iadd, 1) := by decide +kernel
theorem dX5_reading_81 : decode cX5_reading 81 = .ok (.putfield 138, 3) := by decide +kernel
theorem dX5_reading_84 : decode cX5_reading 84 = .ok (.aload_n 0, 1) := by decide +kernel
theorem dX5_reading_85 : decode cX5_reading 85 = .ok (.getfield 138, 3) := by decide +kernel
theorem dX5_reading_88 : decode cX5_reading 88 = .ok (.iconst 1, 1) := by decide +kernel
theorem dX5_reading_89 : decode cX5_reading 89 = .ok (.isub, 1) := by decide +kernel
theorem dX5_reading_90 : decode cX5_reading 90 = .ok (.ireturn, 1) := by decide +kernel
set_option maxRecDepth 20000 in
theorem ggX5_back_X5_in : GoodIn wsX5_back wsX5_in := goodIn_r _ [5] (by decide +kernel) (by decide +kernel)
set_option maxRecDepth 20000 in
theorem gX5_back_X5_in : GoodIn wsX5_back (va_wsS RX5 73 yX5_in wsX5_in) := goodIn_app (goodIn_of _ (by decide +kernel)) ggX5_back_X5_in
theorem dX5_back_0 : decode cX5_back 0 = .ok (.iload_n 1, 1) := by decide +kernel
theorem dX5_back_1 : decode cX5_back 1 = .ok (.i2l, 1) := by decide +kernel
theorem dX5_back_2 : decode cX5_back 2 = .ok (.lconst 0, 1) := by decide +kernel
theorem dX5_back_3 : decode cX5_back 3 = .ok (.aload_n 0, 1) := by decide +kernel
theorem dX5_back_4 : decode cX5_back 4 = .ok (.getfield 138, 3) := by decide +kernel
theorem dX5_back_7 : decode cX5_back 7 = .ok (.i2l, 1) := by decide +kernel
theorem dX5_back_8 : decode cX5_back 8 = .ok (.invokestatic 73, 3) := by decide +kernel
theorem dX5_back_11 : decode cX5_back 11 = .ok (.ifCond .ne 6, 3) := by decide +kernel
theorem dX5_back_14 : decode cX5_back 14 = .ok (.bipush (-2), 2) := by decide +kernel
theorem dX5_back_16 : decode cX5_back 16 = .ok (.ireturn, 1) := by decide +kernel
theorem dX5_back_17 : decode cX5_back 17 = .ok (.aload_n 0, 1) := by decide +kernel
theorem dX5_back_18 : decode cX5_back 18 = .ok (.dup, 1) := by decide +kernel
theorem dX5_back_19 : decode cX5_back 19 = .ok (.getfield 138, 3) := by decide +kernel
theorem dX5_back_22 : decode cX5_back 22 = .ok (.iload_n 1, 1) := by decide +kernel
theorem dX5_back_23 : decode cX5_back 23 = .ok (.isub, 1) := by decide +kernel
theorem dX5_back_24 : decode cX5_back 24 = .ok (.putfield 138, 3) := by decide +kernel
theorem dX5_back_27 : decode cX5_back 27 = .ok (.aload_n 0, 1) := by decide +kernel
theorem dX5_back_28 : decode cX5_back 28 = .ok (.getfield 138, 3) := by decide +kernel
theorem dX5_back_31 : decode cX5_back 31 = .ok (.ireturn, 1) := by decide +kernel
set_option maxRecDepth 20000 in
theorem ggX5_areSo_X5_coatOf : GoodIn wsX5_areSo wsX5_coatOf := goodIn_r _ [9, 10, 11, 12, 13, 14, 8, 15, 16, 17, 18, 19, 20, 21, 22, 23, 24, 25, 26, 27, 28, 29, 30, 31, 32, 33, 34, 35, 36, 37, 38, 39, 40, 41, 42, 43, 44, 45, 46] (by decide +kernel) (by decide +kernel)
set_option maxRecDepth 20000 in
theorem gX5_areSo_X5_coatOf : GoodIn wsX5_areSo (wsV RX5 147 RX5 yX5_coatOf wsX5_coatOf) := goodIn_app (goodIn_of _ (by decide +kernel)) ggX5_areSo_X5_coatOf
theorem dX5_areSo_0 : decode cX5_areSo 0 = .ok (.iconst 1, 1) := by decide +kernel
theorem dX5_areSo_1 : decode cX5_areSo 1 = .ok (.istore_n 1, 1) := by decide +kernel
theorem dX5_areSo_2 : decode cX5_areSo 2 = .ok (.iconst 0, 1) := by decide +kernel
theorem dX5_areSo_3 : decode cX5_areSo 3 = .ok (.istore_n 2, 1) := by decide +kernel
theorem dX5_areSo_4 : decode cX5_areSo 4 = .ok (.iload_n 2, 1) := by decide +kernel
theorem dX5_areSo_5 : decode cX5_areSo 5 = .ok (.aload_n 0, 1) := by decide +kernel
theorem dX5_areSo_6 : decode cX5_areSo 6 = .ok (.getfield 138, 3) := by decide +kernel
theorem dX5_areSo_9 : decode cX5_areSo 9 = .ok (.if_icmp .ge 44, 3) := by decide +kernel
theorem dX5_areSo_12 : decode cX5_areSo 12 = .ok (.iload_n 1, 1) := by decide +kernel
theorem dX5_areSo_13 : decode cX5_areSo 13 = .ok (.ifCond .eq 32, 3) := by decide +kernel
theorem dX5_areSo_16 : decode cX5_areSo 16 = .ok (.aload_n 0, 1) := by decide +kernel
theorem dX5_areSo_17 : decode cX5_areSo 17 = .ok (.aload_n 0, 1) := by decide +kernel
theorem dX5_areSo_18 : decode cX5_areSo 18 = .ok (.getfield 28, 3) := by decide +kernel
theorem dX5_areSo_21 : decode cX5_areSo 21 = .ok (.iload_n 2, 1) := by decide +kernel
theorem dX5_areSo_22 : decode cX5_areSo 22 = .ok (.iaload, 1) := by decide +kernel
theorem dX5_areSo_23 : decode cX5_areSo 23 = .ok (.aload_n 0, 1) := by decide +kernel
theorem dX5_areSo_24 : decode cX5_areSo 24 = .ok (.getfield 31, 3) := by decide +kernel
theorem dX5_areSo_27 : decode cX5_areSo 27 = .ok (.iload_n 2, 1) := by decide +kernel
theorem dX5_areSo_28 : decode cX5_areSo 28 = .ok (.iaload, 1) := by decide +kernel
theorem dX5_areSo_29 : decode cX5_areSo 29 = .ok (.invokevirtual 147, 3) := by decide +kernel
theorem dX5_areSo_32 : decode cX5_areSo 32 = .ok (.aload_n 0, 1) := by decide +kernel
theorem dX5_areSo_33 : decode cX5_areSo 33 = .ok (.getfield 34, 3) := by decide +kernel
theorem dX5_areSo_36 : decode cX5_areSo 36 = .ok (.iload_n 2, 1) := by decide +kernel
theorem dX5_areSo_37 : decode cX5_areSo 37 = .ok (.iaload, 1) := by decide +kernel
theorem dX5_areSo_38 : decode cX5_areSo 38 = .ok (.if_icmp .ne 7, 3) := by decide +kernel
theorem dX5_areSo_41 : decode cX5_areSo 41 = .ok (.iconst 1, 1) := by decide +kernel
theorem dX5_areSo_42 : decode cX5_areSo 42 = .ok (.goto 4, 3) := by decide +kernel
theorem dX5_areSo_45 : decode cX5_areSo 45 = .ok (.iconst 0, 1) := by decide +kernel
theorem dX5_areSo_46 : decode cX5_areSo 46 = .ok (.istore_n 1, 1) := by decide +kernel
theorem dX5_areSo_47 : decode cX5_areSo 47 = .ok (.iinc 2 1, 3) := by decide +kernel
theorem dX5_areSo_50 : decode cX5_areSo 50 = .ok (.goto (-46), 3) := by decide +kernel
theorem dX5_areSo_53 : decode cX5_areSo 53 = .ok (.iload_n 1, 1) := by decide +kernel
theorem dX5_areSo_54 : decode cX5_areSo 54 = .ok (.ireturn, 1) := by decide +kernel
set_option maxRecDepth 20000 in
theorem ggX5_kinds_X5_noGrass : GoodIn wsX5_kinds wsX5_noGrass := goodIn_r _ [6, 1, 7, 8, 9, 5, 10, 11, 12, 13, 14, 15, 16, 17, 18, 19, 38, 39, 40, 41, 42, 43, 44, 45, 46, 47, 48, 49, 50, 51, 52, 53, 54, 55, 56, 57, 58, 59, 60, 61, 62, 63, 64, 65, 66, 67] (by decide +kernel) (by decide +kernel)
set_option maxRecDepth 20000 in
theorem gX5_kinds_X5_noGrass : GoodIn wsX5_kinds (wsV RX5 152 RX5 yX5_noGrass wsX5_noGrass) := goodIn_app (goodIn_of _ (by decide +kernel)) ggX5_kinds_X5_noGrass
set_option maxRecDepth 20000 in
theorem ggX5_kinds_X5_areSo : GoodIn wsX5_kinds wsX5_areSo := goodIn_r _ [23, 24, 25, 26, 27, 28, 29, 30, 5, 31, 32, 1, 33, 34, 35, 36, 37, 38, 39, 40, 41, 42, 43, 44, 45, 46, 47, 48, 49, 50, 51, 52, 53, 54, 55, 56, 57, 58, 59, 60, 61, 62, 63, 64, 65, 66, 67] (by decide +kernel) (by decide +kernel)
set_option maxRecDepth 20000 in
theorem gX5_kinds_X5_areSo : GoodIn wsX5_kinds (wsV RX5 210 RX5 yX5_areSo wsX5_areSo) := goodIn_app (goodIn_of _ (by decide +kernel)) ggX5_kinds_X5_areSo
theorem dX5_kinds_0 : decode cX5_kinds 0 = .ok (.aload_n 0, 1) := by decide +kernel
theorem dX5_kinds_1 : decode cX5_kinds 1 = .ok (.iload_n 1, 1) := by decide +kernel
theorem dX5_kinds_2 : decode cX5_kinds 2 = .ok (.invokevirtual 152, 3) := by decide +kernel
theorem dX5_kinds_5 : decode cX5_kinds 5 = .ok (.ifCond .eq 5, 3) := by decide +kernel
theorem dX5_kinds_8 : decode cX5_kinds 8 = .ok (.iconst (-1), 1) := by decide +kernel
theorem dX5_kinds_9 : decode cX5_kinds 9 = .ok (.ireturn, 1) := by decide +kernel
theorem dX5_kinds_10 : decode cX5_kinds 10 = .ok (.aload_n 0, 1) := by decide +kernel
theorem dX5_kinds_11 : decode cX5_kinds 11 = .ok (.getfield 7, 3) := by decide +kernel
theorem dX5_kinds_14 : decode cX5_kinds 14 = .ok (.iload_n 1, 1) := by decide +kernel
theorem dX5_kinds_15 : decode cX5_kinds 15 = .ok (.iaload, 1) := by decide +kernel
theorem dX5_kinds_16 : decode cX5_kinds 16 = .ok (.istore_n 2, 1) := by decide +kernel
theorem dX5_kinds_17 : decode cX5_kinds 17 = .ok (.iconst 0, 1) := by decide +kernel
theorem dX5_kinds_18 : decode cX5_kinds 18 = .ok (.istore_n 3, 1) := by decide +kernel
theorem dX5_kinds_19 : decode cX5_kinds 19 = .ok (.iconst 0, 1) := by decide +kernel
theorem dX5_kinds_20 : decode cX5_kinds 20 = .ok (.istore 4, 2) := by decide +kernel
theorem dX5_kinds_22 : decode cX5_kinds 22 = .ok (.iload 4, 2) := by decide +kernel
theorem dX5_kinds_24 : decode cX5_kinds 24 = .ok (.iconst 3, 1) := by decide +kernel
theorem dX5_kinds_25 : decode cX5_kinds 25 = .ok (.if_icmp .ge 35, 3) := by decide +kernel
theorem dX5_kinds_28 : decode cX5_kinds 28 = .ok (.aload_n 0, 1) := by decide +kernel
theorem dX5_kinds_29 : decode cX5_kinds 29 = .ok (.getfield 7, 3) := by decide +kernel
theorem dX5_kinds_32 : decode cX5_kinds 32 = .ok (.iload_n 1, 1) := by decide +kernel
theorem dX5_kinds_33 : decode cX5_kinds 33 = .ok (.iload 4, 2) := by decide +kernel
theorem dX5_kinds_35 : decode cX5_kinds 35 = .ok (.iastore, 1) := by decide +kernel
theorem dX5_kinds_36 : decode cX5_kinds 36 = .ok (.iload_n 3, 1) := by decide +kernel
theorem dX5_kinds_37 : decode cX5_kinds 37 = .ok (.aload_n 0, 1) := by decide +kernel
theorem dX5_kinds_38 : decode cX5_kinds 38 = .ok (.invokevirtual 210, 3) := by decide +kernel
theorem dX5_kinds_41 : decode cX5_kinds 41 = .ok (.ifCond .eq 10, 3) := by decide +kernel
theorem dX5_kinds_44 : decode cX5_kinds 44 = .ok (.iconst 1, 1) := by decide +kernel
theorem dX5_kinds_45 : decode cX5_kinds 45 = .ok (.iload 4, 2) := by decide +kernel
theorem dX5_kinds_47 : decode cX5_kinds 47 = .ok (.ishl, 1) := by decide +kernel
theorem dX5_kinds_48 : decode cX5_kinds 48 = .ok (.goto 4, 3) := by decide +kernel
theorem dX5_kinds_51 : decode cX5_kinds 51 = .ok (.iconst 0, 1) := by decide +kernel
theorem dX5_kinds_52 : decode cX5_kinds 52 = .ok (.ior, 1) := by decide +kernel
theorem dX5_kinds_53 : decode cX5_kinds 53 = .ok (.istore_n 3, 1) := by decide +kernel
theorem dX5_kinds_54 : decode cX5_kinds 54 = .ok (.iinc 4 1, 3) := by decide +kernel
theorem dX5_kinds_57 : decode cX5_kinds 57 = .ok (.goto (-35), 3) := by decide +kernel
theorem dX5_kinds_60 : decode cX5_kinds 60 = .ok (.aload_n 0, 1) := by decide +kernel
theorem dX5_kinds_61 : decode cX5_kinds 61 = .ok (.getfield 7, 3) := by decide +kernel
theorem dX5_kinds_64 : decode cX5_kinds 64 = .ok (.iload_n 1, 1) := by decide +kernel
theorem dX5_kinds_65 : decode cX5_kinds 65 = .ok (.iload_n 2, 1) := by decide +kernel
theorem dX5_kinds_66 : decode cX5_kinds 66 = .ok (.iastore, 1) := by decide +kernel
theorem dX5_kinds_67 : decode cX5_kinds 67 = .ok (.iload_n 3, 1) := by decide +kernel
theorem dX5_kinds_68 : decode cX5_kinds 68 = .ok (.ireturn, 1) := by decide +kernel
set_option maxRecDepth 20000 in
theorem ggX5_paces_X5_areSo : GoodIn wsX5_paces wsX5_areSo := goodIn_r _ [7, 8, 9, 10, 11, 12, 13, 14, 6, 15, 16, 17, 18, 19, 20, 21, 2, 22, 23, 24, 25, 26, 27, 28, 29, 30, 31, 32, 33, 34, 35, 36, 37, 38, 39, 40, 41, 42, 43, 44, 45, 46, 47, 48, 49, 50, 51] (by decide +kernel) (by decide +kernel)
set_option maxRecDepth 20000 in
theorem gX5_paces_X5_areSo : GoodIn wsX5_paces (wsV RX5 210 RX5 yX5_areSo wsX5_areSo) := goodIn_app (goodIn_of _ (by decide +kernel)) ggX5_paces_X5_areSo
theorem dX5_paces_0 : decode cX5_paces 0 = .ok (.aload_n 0, 1) := by decide +kernel
theorem dX5_paces_1 : decode cX5_paces 1 = .ok (.getfield 63, 3) := by decide +kernel
theorem dX5_paces_4 : decode cX5_paces 4 = .ok (.ifCond .ne 6, 3) := by decide +kernel
theorem dX5_paces_7 : decode cX5_paces 7 = .ok (.bipush (-3), 2) := by decide +kernel
theorem dX5_paces_9 : decode cX5_paces 9 = .ok (.ireturn, 1) := by decide +kernel
theorem dX5_paces_10 : decode cX5_paces 10 = .ok (.aload_n 0, 1) := by decide +kernel
theorem dX5_paces_11 : decode cX5_paces 11 = .ok (.getfield 132, 3) := by decide +kernel
theorem dX5_paces_14 : decode cX5_paces 14 = .ok (.istore_n 1, 1) := by decide +kernel
theorem dX5_paces_15 : decode cX5_paces 15 = .ok (.iconst 0, 1) := by decide +kernel
theorem dX5_paces_16 : decode cX5_paces 16 = .ok (.istore_n 2, 1) := by decide +kernel
theorem dX5_paces_17 : decode cX5_paces 17 = .ok (.iconst 1, 1) := by decide +kernel
theorem dX5_paces_18 : decode cX5_paces 18 = .ok (.istore_n 3, 1) := by decide +kernel
theorem dX5_paces_19 : decode cX5_paces 19 = .ok (.iload_n 3, 1) := by decide +kernel
theorem dX5_paces_20 : decode cX5_paces 20 = .ok (.iconst 4, 1) := by decide +kernel
theorem dX5_paces_21 : decode cX5_paces 21 = .ok (.if_icmp .ge 31, 3) := by decide +kernel
theorem dX5_paces_24 : decode cX5_paces 24 = .ok (.aload_n 0, 1) := by decide +kernel
theorem dX5_paces_25 : decode cX5_paces 25 = .ok (.iload_n 3, 1) := by decide +kernel
theorem dX5_paces_26 : decode cX5_paces 26 = .ok (.putfield 132, 3) := by decide +kernel
theorem dX5_paces_29 : decode cX5_paces 29 = .ok (.iload_n 2, 1) := by decide +kernel
theorem dX5_paces_30 : decode cX5_paces 30 = .ok (.aload_n 0, 1) := by decide +kernel
theorem dX5_paces_31 : decode cX5_paces 31 = .ok (.invokevirtual 210, 3) := by decide +kernel
theorem dX5_paces_34 : decode cX5_paces 34 = .ok (.ifCond .eq 9, 3) := by decide +kernel
theorem dX5_paces_37 : decode cX5_paces 37 = .ok (.iconst 1, 1) := by decide +kernel
theorem dX5_paces_38 : decode cX5_paces 38 = .ok (.iload_n 3, 1) := by decide +kernel
theorem dX5_paces_39 : decode cX5_paces 39 = .ok (.ishl, 1) := by decide +kernel
theorem dX5_paces_40 : decode cX5_paces 40 = .ok (.goto 4, 3) := by decide +kernel
theorem dX5_paces_43 : decode cX5_paces 43 = .ok (.iconst 0, 1) := by decide +kernel
theorem dX5_paces_44 : decode cX5_paces 44 = .ok (.ior, 1) := by decide +kernel
theorem dX5_paces_45 : decode cX5_paces 45 = .ok (.istore_n 2, 1) := by decide +kernel
theorem dX5_paces_46 : decode cX5_paces 46 = .ok (.iinc 3 1, 3) := by decide +kernel
theorem dX5_paces_49 : decode cX5_paces 49 = .ok (.goto (-30), 3) := by decide +kernel
theorem dX5_paces_52 : decode cX5_paces 52 = .ok (.aload_n 0, 1) := by decide +kernel
theorem dX5_paces_53 : decode cX5_paces 53 = .ok (.iload_n 1, 1) := by decide +kernel
theorem dX5_paces_54 : decode cX5_paces 54 = .ok (.putfield 132, 3) := by decide +kernel
theorem dX5_paces_57 : decode cX5_paces 57 = .ok (.iload_n 2, 1) := by decide +kernel
theorem dX5_paces_58 : decode cX5_paces 58 = .ok (.ireturn, 1) := by decide +kernel
set_option maxRecDepth 20000 in
theorem ggX5_eatings_X5_noGrass : GoodIn wsX5_eatings wsX5_noGrass := goodIn_r _ [6, 7, 8, 9, 10, 5, 11, 12, 13, 14, 15, 16, 17, 18, 19, 20, 38, 39, 40, 41, 42, 43, 44, 45, 46, 47, 48, 49, 50, 51, 52, 53, 54, 55, 56, 57, 58, 59, 60, 61, 62, 63, 64, 65, 66, 67] (by decide +kernel) (by decide +kernel)
set_option maxRecDepth 20000 in
theorem gX5_eatings_X5_noGrass : GoodIn wsX5_eatings (wsV RX5 152 RX5 yX5_noGrass wsX5_noGrass) := goodIn_app (goodIn_of _ (by decide +kernel)) ggX5_eatings_X5_noGrass
set_option maxRecDepth 20000 in
theorem ggX5_eatings_X5_areSo : GoodIn wsX5_eatings wsX5_areSo := goodIn_r _ [24, 25, 26, 27, 28, 29, 30, 31, 5, 32, 1, 7, 33, 34, 35, 36, 37, 38, 39, 40, 41, 42, 43, 44, 45, 46, 47, 48, 49, 50, 51, 52, 53, 54, 55, 56, 57, 58, 59, 60, 61, 62, 63, 64, 65, 66, 67] (by decide +kernel) (by decide +kernel)
set_option maxRecDepth 20000 in
theorem gX5_eatings_X5_areSo : GoodIn wsX5_eatings (wsV RX5 210 RX5 yX5_areSo wsX5_areSo) := goodIn_app (goodIn_of _ (by decide +kernel)) ggX5_eatings_X5_areSo
theorem dX5_eatings_0 : decode cX5_eatings 0 = .ok (.aload_n 0, 1) := by decide +kernel
theorem dX5_eatings_1 : decode cX5_eatings 1 = .ok (.iload_n 1, 1) := by decide +kernel
theorem dX5_eatings_2 : decode cX5_eatings 2 = .ok (.invokevirtual 152, 3) := by decide +kernel
theorem dX5_eatings_5 : decode cX5_eatings 5 = .ok (.ifCond .eq 5, 3) := by decide +kernel
theorem dX5_eatings_8 : decode cX5_eatings 8 = .ok (.iconst (-1), 1) := by decide +kernel
theorem dX5_eatings_9 : decode cX5_eatings 9 = .ok (.ireturn, 1) := by decide +kernel
theorem dX5_eatings_10 : decode cX5_eatings 10 = .ok (.aload_n 0, 1) := by decide +kernel
theorem dX5_eatings_11 : decode cX5_eatings 11 = .ok (.getfield 13, 3) := by decide +kernel
theorem dX5_eatings_14 : decode cX5_eatings 14 = .ok (.iload_n 1, 1) := by decide +kernel
theorem dX5_eatings_15 : decode cX5_eatings 15 = .ok (.iaload, 1) := by decide +kernel
theorem dX5_eatings_16 : decode cX5_eatings 16 = .ok (.istore_n 2, 1) := by decide +kernel
theorem dX5_eatings_17 : decode cX5_eatings 17 = .ok (.iconst 0, 1) := by decide +kernel
theorem dX5_eatings_18 : decode cX5_eatings 18 = .ok (.istore_n 3, 1) := by decide +kernel
theorem dX5_eatings_19 : decode cX5_eatings 19 = .ok (.iconst 0, 1) := by decide +kernel
theorem dX5_eatings_20 : decode cX5_eatings 20 = .ok (.istore 4, 2) := by decide +kernel
theorem dX5_eatings_22 : decode cX5_eatings 22 = .ok (.iload 4, 2) := by decide +kernel
theorem dX5_eatings_24 : decode cX5_eatings 24 = .ok (.bipush 10, 2) := by decide +kernel
theorem dX5_eatings_26 : decode cX5_eatings 26 = .ok (.if_icmp .ge 35, 3) := by decide +kernel
theorem dX5_eatings_29 : decode cX5_eatings 29 = .ok (.aload_n 0, 1) := by decide +kernel
theorem dX5_eatings_30 : decode cX5_eatings 30 = .ok (.getfield 13, 3) := by decide +kernel
theorem dX5_eatings_33 : decode cX5_eatings 33 = .ok (.iload_n 1, 1) := by decide +kernel
theorem dX5_eatings_34 : decode cX5_eatings 34 = .ok (.iload 4, 2) := by decide +kernel
theorem dX5_eatings_36 : decode cX5_eatings 36 = .ok (.iastore, 1) := by decide +kernel
theorem dX5_eatings_37 : decode cX5_eatings 37 = .ok (.iload_n 3, 1) := by decide +kernel
theorem dX5_eatings_38 : decode cX5_eatings 38 = .ok (.aload_n 0, 1) := by decide +kernel
theorem dX5_eatings_39 : decode cX5_eatings 39 = .ok (.invokevirtual 210, 3) := by decide +kernel
theorem dX5_eatings_42 : decode cX5_eatings 42 = .ok (.ifCond .eq 10, 3) := by decide +kernel
theorem dX5_eatings_45 : decode cX5_eatings 45 = .ok (.iconst 1, 1) := by decide +kernel
theorem dX5_eatings_46 : decode cX5_eatings 46 = .ok (.iload 4, 2) := by decide +kernel
theorem dX5_eatings_48 : decode cX5_eatings 48 = .ok (.ishl, 1) := by decide +kernel
theorem dX5_eatings_49 : decode cX5_eatings 49 = .ok (.goto 4, 3) := by decide +kernel
theorem dX5_eatings_52 : decode cX5_eatings 52 = .ok (.iconst 0, 1) := by decide +kernel
theorem dX5_eatings_53 : decode cX5_eatings 53 = .ok (.ior, 1) := by decide +kernel
theorem dX5_eatings_54 : decode cX5_eatings 54 = .ok (.istore_n 3, 1) := by decide +kernel
theorem dX5_eatings_55 : decode cX5_eatings 55 = .ok (.iinc 4 1, 3) := by decide +kernel
theorem dX5_eatings_58 : decode cX5_eatings 58 = .ok (.goto (-36), 3) := by decide +kernel
theorem dX5_eatings_61 : decode cX5_eatings 61 = .ok (.aload_n 0, 1) := by decide +kernel
theorem dX5_eatings_62 : decode cX5_eatings 62 = .ok (.getfield 13, 3) := by decide +kernel
theorem dX5_eatings_65 : decode cX5_eatings 65 = .ok (.iload_n 1, 1) := by decide +kernel
theorem dX5_eatings_66 : decode cX5_eatings 66 = .ok (.iload_n 2, 1) := by decide +kernel
theorem dX5_eatings_67 : decode cX5_eatings 67 = .ok (.iastore, 1) := by decide +kernel
theorem dX5_eatings_68 : decode cX5_eatings 68 = .ok (.iload_n 3, 1) := by decide +kernel
theorem dX5_eatings_69 : decode cX5_eatings 69 = .ok (.ireturn, 1) := by decide +kernel
set_option maxRecDepth 20000 in
theorem ggX5_waysOn_X5_beside : GoodIn wsX5_waysOn wsX5_beside := goodIn_r _ [5, 6, 7, 8, 9, 4, 10, 14, 15, 16, 17, 18, 19, 20, 21, 22, 23, 24, 25, 26, 27, 28, 29, 30, 31, 32, 33, 34, 35, 36, 37, 38, 39, 40, 41, 42, 43] (by decide +kernel) (by decide +kernel)
set_option maxRecDepth 20000 in
theorem gX5_waysOn_X5_beside : GoodIn wsX5_waysOn (wsV RX5 172 RX5 yX5_beside wsX5_beside) := goodIn_app (goodIn_of _ (by decide +kernel)) ggX5_waysOn_X5_beside
set_option maxRecDepth 20000 in
theorem ggX5_waysOn_X5_isIn : GoodIn wsX5_waysOn wsX5_isIn := goodIn_r _ [13] (by decide +kernel) (by decide +kernel)
set_option maxRecDepth 20000 in
theorem gX5_waysOn_X5_isIn : GoodIn wsX5_waysOn (va_wsS RX5 175 yX5_isIn wsX5_isIn) := goodIn_app (goodIn_of _ (by decide +kernel)) ggX5_waysOn_X5_isIn
theorem dX5_waysOn_0 : decode cX5_waysOn 0 = .ok (.iconst 0, 1) := by decide +kernel
theorem dX5_waysOn_1 : decode cX5_waysOn 1 = .ok (.istore_n 3, 1) := by decide +kernel
theorem dX5_waysOn_2 : decode cX5_waysOn 2 = .ok (.iconst 0, 1) := by decide +kernel
theorem dX5_waysOn_3 : decode cX5_waysOn 3 = .ok (.istore 4, 2) := by decide +kernel
theorem dX5_waysOn_5 : decode cX5_waysOn 5 = .ok (.iload 4, 2) := by decide +kernel
theorem dX5_waysOn_7 : decode cX5_waysOn 7 = .ok (.iconst 4, 1) := by decide +kernel
theorem dX5_waysOn_8 : decode cX5_waysOn 8 = .ok (.if_icmp .ge 40, 3) := by decide +kernel
theorem dX5_waysOn_11 : decode cX5_waysOn 11 = .ok (.aload_n 0, 1) := by decide +kernel
theorem dX5_waysOn_12 : decode cX5_waysOn 12 = .ok (.iload_n 2, 1) := by decide +kernel
theorem dX5_waysOn_13 : decode cX5_waysOn 13 = .ok (.iload 4, 2) := by decide +kernel
theorem dX5_waysOn_15 : decode cX5_waysOn 15 = .ok (.invokevirtual 172, 3) := by decide +kernel
theorem dX5_waysOn_18 : decode cX5_waysOn 18 = .ok (.istore 5, 2) := by decide +kernel
theorem dX5_waysOn_20 : decode cX5_waysOn 20 = .ok (.iload_n 3, 1) := by decide +kernel
theorem dX5_waysOn_21 : decode cX5_waysOn 21 = .ok (.iload 5, 2) := by decide +kernel
theorem dX5_waysOn_23 : decode cX5_waysOn 23 = .ok (.ifCond .lt 16, 3) := by decide +kernel
theorem dX5_waysOn_26 : decode cX5_waysOn 26 = .ok (.iload_n 1, 1) := by decide +kernel
theorem dX5_waysOn_27 : decode cX5_waysOn 27 = .ok (.iload 5, 2) := by decide +kernel
theorem dX5_waysOn_29 : decode cX5_waysOn 29 = .ok (.invokestatic 175, 3) := by decide +kernel
theorem dX5_waysOn_32 : decode cX5_waysOn 32 = .ok (.ifCond .eq 7, 3) := by decide +kernel
theorem dX5_waysOn_35 : decode cX5_waysOn 35 = .ok (.iconst 1, 1) := by decide +kernel
theorem dX5_waysOn_36 : decode cX5_waysOn 36 = .ok (.goto 4, 3) := by decide +kernel
theorem dX5_waysOn_39 : decode cX5_waysOn 39 = .ok (.iconst 0, 1) := by decide +kernel
theorem dX5_waysOn_40 : decode cX5_waysOn 40 = .ok (.iadd, 1) := by decide +kernel
theorem dX5_waysOn_41 : decode cX5_waysOn 41 = .ok (.istore_n 3, 1) := by decide +kernel
theorem dX5_waysOn_42 : decode cX5_waysOn 42 = .ok (.iinc 4 1, 3) := by decide +kernel
theorem dX5_waysOn_45 : decode cX5_waysOn 45 = .ok (.goto (-40), 3) := by decide +kernel
theorem dX5_waysOn_48 : decode cX5_waysOn 48 = .ok (.iload_n 3, 1) := by decide +kernel
theorem dX5_waysOn_49 : decode cX5_waysOn 49 = .ok (.ireturn, 1) := by decide +kernel
set_option maxRecDepth 20000 in
theorem ggX5_chanceFrom_X5_beside : GoodIn wsX5_chanceFrom wsX5_beside := goodIn_r _ [8, 9, 10, 11, 12, 7, 13, 21, 22, 23, 24, 25, 26, 27, 28, 29, 30, 31, 32, 33, 34, 35, 36, 37, 38, 39, 40, 41, 42, 43, 44, 45, 46, 47, 48, 49, 50] (by decide +kernel) (by decide +kernel)
set_option maxRecDepth 20000 in
theorem gX5_chanceFrom_X5_beside : GoodIn wsX5_chanceFrom (wsV RX5 172 RX5 yX5_beside wsX5_beside) := goodIn_app (goodIn_of _ (by decide +kernel)) ggX5_chanceFrom_X5_beside
set_option maxRecDepth 20000 in
theorem ggX5_chanceFrom_X5_isIn : GoodIn wsX5_chanceFrom wsX5_isIn := goodIn_r _ [16] (by decide +kernel) (by decide +kernel)
set_option maxRecDepth 20000 in
theorem gX5_chanceFrom_X5_isIn : GoodIn wsX5_chanceFrom (va_wsS RX5 175 yX5_isIn wsX5_isIn) := goodIn_app (goodIn_of _ (by decide +kernel)) ggX5_chanceFrom_X5_isIn
set_option maxRecDepth 20000 in
theorem ggX5_chanceFrom_X5_waysOn : GoodIn wsX5_chanceFrom wsX5_waysOn := goodIn_r _ [20, 4, 5, 6, 7, 8, 9, 10, 11, 12, 13, 14, 15, 16, 21, 22, 23, 24, 25, 26, 27, 28, 29, 30, 31, 32, 33, 34, 35, 36, 37, 38, 39, 40, 41, 42, 43, 44, 45, 46, 47, 48, 49, 50] (by decide +kernel) (by decide +kernel)
set_option maxRecDepth 20000 in
theorem gX5_chanceFrom_X5_waysOn : GoodIn wsX5_chanceFrom (wsV RX5 214 RX5 yX5_waysOn wsX5_waysOn) := goodIn_app (goodIn_of _ (by decide +kernel)) ggX5_chanceFrom_X5_waysOn
theorem dX5_chanceFrom_0 : decode cX5_chanceFrom 0 = .ok (.iconst 0, 1) := by decide +kernel
theorem dX5_chanceFrom_1 : decode cX5_chanceFrom 1 = .ok (.istore 5, 2) := by decide +kernel
theorem dX5_chanceFrom_3 : decode cX5_chanceFrom 3 = .ok (.iconst 1, 1) := by decide +kernel
theorem dX5_chanceFrom_4 : decode cX5_chanceFrom 4 = .ok (.iload_n 2, 1) := by decide +kernel
theorem dX5_chanceFrom_5 : decode cX5_chanceFrom 5 = .ok (.ishl, 1) := by decide +kernel
theorem dX5_chanceFrom_6 : decode cX5_chanceFrom 6 = .ok (.istore 6, 2) := by decide +kernel
theorem dX5_chanceFrom_8 : decode cX5_chanceFrom 8 = .ok (.lconst 0, 1) := by decide +kernel
theorem dX5_chanceFrom_9 : decode cX5_chanceFrom 9 = .ok (.lstore 7, 2) := by decide +kernel
theorem dX5_chanceFrom_11 : decode cX5_chanceFrom 11 = .ok (.aload_n 0, 1) := by decide +kernel
theorem dX5_chanceFrom_12 : decode cX5_chanceFrom 12 = .ok (.getfield 19, 3) := by decide +kernel
theorem dX5_chanceFrom_15 : decode cX5_chanceFrom 15 = .ok (.iconst 0, 1) := by decide +kernel
theorem dX5_chanceFrom_16 : decode cX5_chanceFrom 16 = .ok (.iload_n 2, 1) := by decide +kernel
theorem dX5_chanceFrom_17 : decode cX5_chanceFrom 17 = .ok (.iastore, 1) := by decide +kernel
theorem dX5_chanceFrom_18 : decode cX5_chanceFrom 18 = .ok (.aload_n 0, 1) := by decide +kernel
theorem dX5_chanceFrom_19 : decode cX5_chanceFrom 19 = .ok (.getfield 22, 3) := by decide +kernel
theorem dX5_chanceFrom_22 : decode cX5_chanceFrom 22 = .ok (.iconst 0, 1) := by decide +kernel
theorem dX5_chanceFrom_23 : decode cX5_chanceFrom 23 = .ok (.iconst 0, 1) := by decide +kernel
theorem dX5_chanceFrom_24 : decode cX5_chanceFrom 24 = .ok (.iastore, 1) := by decide +kernel
theorem dX5_chanceFrom_25 : decode cX5_chanceFrom 25 = .ok (.aload_n 0, 1) := by decide +kernel
theorem dX5_chanceFrom_26 : decode cX5_chanceFrom 26 = .ok (.getfield 37, 3) := by decide +kernel
theorem dX5_chanceFrom_29 : decode cX5_chanceFrom 29 = .ok (.iconst 0, 1) := by decide +kernel
theorem dX5_chanceFrom_30 : decode cX5_chanceFrom 30 = .ok (.lload_n 3, 1) := by decide +kernel
theorem dX5_chanceFrom_31 : decode cX5_chanceFrom 31 = .ok (.lastore, 1) := by decide +kernel
theorem dX5_chanceFrom_32 : decode cX5_chanceFrom 32 = .ok (.iload 5, 2) := by decide +kernel
theorem dX5_chanceFrom_34 : decode cX5_chanceFrom 34 = .ok (.ifCond .lt 174, 3) := by decide +kernel
theorem dX5_chanceFrom_37 : decode cX5_chanceFrom 37 = .ok (.aload_n 0, 1) := by decide +kernel
theorem dX5_chanceFrom_38 : decode cX5_chanceFrom 38 = .ok (.getfield 22, 3) := by decide +kernel
theorem dX5_chanceFrom_41 : decode cX5_chanceFrom 41 = .ok (.iload 5, 2) := by decide +kernel
theorem dX5_chanceFrom_43 : decode cX5_chanceFrom 43 = .ok (.iaload, 1) := by decide +kernel
theorem dX5_chanceFrom_44 : decode cX5_chanceFrom 44 = .ok (.istore 9, 2) := by decide +kernel
theorem dX5_chanceFrom_46 : decode cX5_chanceFrom 46 = .ok (.iload 9, 2) := by decide +kernel
theorem dX5_chanceFrom_48 : decode cX5_chanceFrom 48 = .ok (.iconst 3, 1) := by decide +kernel
theorem dX5_chanceFrom_49 : decode cX5_chanceFrom 49 = .ok (.if_icmp .le 47, 3) := by decide +kernel
theorem dX5_chanceFrom_52 : decode cX5_chanceFrom 52 = .ok (.lload 7, 2) := by decide +kernel
theorem dX5_chanceFrom_54 : decode cX5_chanceFrom 54 = .ok (.iload 6, 2) := by decide +kernel
theorem dX5_chanceFrom_56 : decode cX5_chanceFrom 56 = .ok (.iload_n 1, 1) := by decide +kernel
theorem dX5_chanceFrom_57 : decode cX5_chanceFrom 57 = .ok (.if_icmp .ne 13, 3) := by decide +kernel
theorem dX5_chanceFrom_60 : decode cX5_chanceFrom 60 = .ok (.aload_n 0, 1) := by decide +kernel
theorem dX5_chanceFrom_61 : decode cX5_chanceFrom 61 = .ok (.getfield 37, 3) := by decide +kernel
theorem dX5_chanceFrom_64 : decode cX5_chanceFrom 64 = .ok (.iload 5, 2) := by decide +kernel
theorem dX5_chanceFrom_66 : decode cX5_chanceFrom 66 = .ok (.laload, 1) := by decide +kernel
theorem dX5_chanceFrom_67 : decode cX5_chanceFrom 67 = .ok (.goto 4, 3) := by decide +kernel
theorem dX5_chanceFrom_70 : decode cX5_chanceFrom 70 = .ok (.lconst 0, 1) := by decide +kernel
theorem dX5_chanceFrom_71 : decode cX5_chanceFrom 71 = .ok (.ladd, 1) := by decide +kernel
theorem dX5_chanceFrom_72 : decode cX5_chanceFrom 72 = .ok (.lstore 7, 2) := by decide +kernel
theorem dX5_chanceFrom_74 : decode cX5_chanceFrom 74 = .ok (.iload 6, 2) := by decide +kernel
theorem dX5_chanceFrom_76 : decode cX5_chanceFrom 76 = .ok (.iconst 1, 1) := by decide +kernel
theorem dX5_chanceFrom_77 : decode cX5_chanceFrom 77 = .ok (.aload_n 0, 1) := by decide +kernel
theorem dX5_chanceFrom_78 : decode cX5_chanceFrom 78 = .ok (.getfield 19, 3) := by decide +kernel
theorem dX5_chanceFrom_81 : decode cX5_chanceFrom 81 = .ok (.iload 5, 2) := by decide +kernel
theorem dX5_chanceFrom_83 : decode cX5_chanceFrom 83 = .ok (.iaload, 1) := by decide +kernel
theorem dX5_chanceFrom_84 : decode cX5_chanceFrom 84 = .ok (.ishl, 1) := by decide +kernel
theorem dX5_chanceFrom_85 : decode cX5_chanceFrom 85 = .ok (.iconst (-1), 1) := by decide +kernel
theorem dX5_chanceFrom_86 : decode cX5_chanceFrom 86 = .ok (.ixor, 1) := by decide +kernel
theorem dX5_chanceFrom_87 : decode cX5_chanceFrom 87 = .ok (.iand, 1) := by decide +kernel
theorem dX5_chanceFrom_88 : decode cX5_chanceFrom 88 = .ok (.istore 6, 2) := by decide +kernel
theorem dX5_chanceFrom_90 : decode cX5_chanceFrom 90 = .ok (.iinc 5 (-1), 3) := by decide +kernel
theorem dX5_chanceFrom_93 : decode cX5_chanceFrom 93 = .ok (.goto 112, 3) := by decide +kernel
theorem dX5_chanceFrom_96 : decode cX5_chanceFrom 96 = .ok (.aload_n 0, 1) := by decide +kernel
theorem dX5_chanceFrom_97 : decode cX5_chanceFrom 97 = .ok (.getfield 22, 3) := by decide +kernel
theorem dX5_chanceFrom_100 : decode cX5_chanceFrom 100 = .ok (.iload 5, 2) := by decide +kernel
theorem dX5_chanceFrom_102 : decode cX5_chanceFrom 102 = .ok (.dup2, 1) := by decide +kernel
theorem dX5_chanceFrom_103 : decode cX5_chanceFrom 103 = .ok (.iaload, 1) := by decide +kernel
theorem dX5_chanceFrom_104 : decode cX5_chanceFrom 104 = .ok (.iconst 1, 1) := by decide +kernel
theorem dX5_chanceFrom_105 : decode cX5_chanceFrom 105 = .ok (.iadd, 1) := by decide +kernel
theorem dX5_chanceFrom_106 : decode cX5_chanceFrom 106 = .ok (.iastore, 1) := by decide +kernel
theorem dX5_chanceFrom_107 : decode cX5_chanceFrom 107 = .ok (.aload_n 0, 1) := by decide +kernel
theorem dX5_chanceFrom_108 : decode cX5_chanceFrom 108 = .ok (.aload_n 0, 1) := by decide +kernel
theorem dX5_chanceFrom_109 : decode cX5_chanceFrom 109 = .ok (.getfield 19, 3) := by decide +kernel
theorem dX5_chanceFrom_112 : decode cX5_chanceFrom 112 = .ok (.iload 5, 2) := by decide +kernel
theorem dX5_chanceFrom_114 : decode cX5_chanceFrom 114 = .ok (.iaload, 1) := by decide +kernel
theorem dX5_chanceFrom_115 : decode cX5_chanceFrom 115 = .ok (.iload 9, 2) := by decide +kernel
theorem dX5_chanceFrom_117 : decode cX5_chanceFrom 117 = .ok (.invokevirtual 172, 3) := by decide +kernel
theorem dX5_chanceFrom_120 : decode cX5_chanceFrom 120 = .ok (.istore 10, 2) := by decide +kernel
theorem dX5_chanceFrom_122 : decode cX5_chanceFrom 122 = .ok (.iload_n 1, 1) := by decide +kernel
theorem dX5_chanceFrom_123 : decode cX5_chanceFrom 123 = .ok (.iload 6, 2) := by decide +kernel
theorem dX5_chanceFrom_125 : decode cX5_chanceFrom 125 = .ok (.iconst (-1), 1) := by decide +kernel
theorem dX5_chanceFrom_126 : decode cX5_chanceFrom 126 = .ok (.ixor, 1) := by decide +kernel
theorem dX5_chanceFrom_127 : decode cX5_chanceFrom 127 = .ok (.iand, 1) := by decide +kernel
theorem dX5_chanceFrom_128 : decode cX5_chanceFrom 128 = .ok (.istore 11, 2) := by decide +kernel
theorem dX5_chanceFrom_130 : decode cX5_chanceFrom 130 = .ok (.iload 10, 2) := by decide +kernel
theorem dX5_chanceFrom_132 : decode cX5_chanceFrom 132 = .ok (.ifCond .lt 73, 3) := by decide +kernel
theorem dX5_chanceFrom_135 : decode cX5_chanceFrom 135 = .ok (.iload 11, 2) := by decide +kernel
theorem dX5_chanceFrom_137 : decode cX5_chanceFrom 137 = .ok (.iload 10, 2) := by decide +kernel
theorem dX5_chanceFrom_139 : decode cX5_chanceFrom 139 = .ok (.invokestatic 175, 3) := by decide +kernel
theorem dX5_chanceFrom_142 : decode cX5_chanceFrom 142 = .ok (.ifCond .eq 63, 3) := by decide +kernel
theorem dX5_chanceFrom_145 : decode cX5_chanceFrom 145 = .ok (.aload_n 0, 1) := by decide +kernel
theorem dX5_chanceFrom_146 : decode cX5_chanceFrom 146 = .ok (.getfield 37, 3) := by decide +kernel
theorem dX5_chanceFrom_149 : decode cX5_chanceFrom 149 = .ok (.iload 5, 2) := by decide +kernel
theorem dX5_chanceFrom_151 : decode cX5_chanceFrom 151 = .ok (.iconst 1, 1) := by decide +kernel
theorem dX5_chanceFrom_152 : decode cX5_chanceFrom 152 = .ok (.iadd, 1) := by decide +kernel
theorem dX5_chanceFrom_153 : decode cX5_chanceFrom 153 = .ok (.aload_n 0, 1) := by decide +kernel
theorem dX5_chanceFrom_154 : decode cX5_chanceFrom 154 = .ok (.getfield 37, 3) := by decide +kernel
theorem dX5_chanceFrom_157 : decode cX5_chanceFrom 157 = .ok (.iload 5, 2) := by decide +kernel
theorem dX5_chanceFrom_159 : decode cX5_chanceFrom 159 = .ok (.laload, 1) := by decide +kernel
theorem dX5_chanceFrom_160 : decode cX5_chanceFrom 160 = .ok (.aload_n 0, 1) := by decide +kernel
theorem dX5_chanceFrom_161 : decode cX5_chanceFrom 161 = .ok (.iload 11, 2) := by decide +kernel
theorem dX5_chanceFrom_163 : decode cX5_chanceFrom 163 = .ok (.aload_n 0, 1) := by decide +kernel
theorem dX5_chanceFrom_164 : decode cX5_chanceFrom 164 = .ok (.getfield 19, 3) := by decide +kernel
theorem dX5_chanceFrom_167 : decode cX5_chanceFrom 167 = .ok (.iload 5, 2) := by decide +kernel
theorem dX5_chanceFrom_169 : decode cX5_chanceFrom 169 = .ok (.iaload, 1) := by decide +kernel
theorem dX5_chanceFrom_170 : decode cX5_chanceFrom 170 = .ok (.invokevirtual 214, 3) := by decide +kernel
theorem dX5_chanceFrom_173 : decode cX5_chanceFrom 173 = .ok (.i2l, 1) := by decide +kernel
theorem dX5_chanceFrom_174 : decode cX5_chanceFrom 174 = .ok (.ldiv, 1) := by decide +kernel
theorem dX5_chanceFrom_175 : decode cX5_chanceFrom 175 = .ok (.lastore, 1) := by decide +kernel
theorem dX5_chanceFrom_176 : decode cX5_chanceFrom 176 = .ok (.iinc 5 1, 3) := by decide +kernel
theorem dX5_chanceFrom_179 : decode cX5_chanceFrom 179 = .ok (.iload 6, 2) := by decide +kernel
theorem dX5_chanceFrom_181 : decode cX5_chanceFrom 181 = .ok (.iconst 1, 1) := by decide +kernel
theorem dX5_chanceFrom_182 : decode cX5_chanceFrom 182 = .ok (.iload 10, 2) := by decide +kernel
theorem dX5_chanceFrom_184 : decode cX5_chanceFrom 184 = .ok (.ishl, 1) := by decide +kernel
theorem dX5_chanceFrom_185 : decode cX5_chanceFrom 185 = .ok (.ior, 1) := by decide +kernel
theorem dX5_chanceFrom_186 : decode cX5_chanceFrom 186 = .ok (.istore 6, 2) := by decide +kernel
theorem dX5_chanceFrom_188 : decode cX5_chanceFrom 188 = .ok (.aload_n 0, 1) := by decide +kernel
theorem dX5_chanceFrom_189 : decode cX5_chanceFrom 189 = .ok (.getfield 19, 3) := by decide +kernel
theorem dX5_chanceFrom_192 : decode cX5_chanceFrom 192 = .ok (.iload 5, 2) := by decide +kernel
theorem dX5_chanceFrom_194 : decode cX5_chanceFrom 194 = .ok (.iload 10, 2) := by decide +kernel
theorem dX5_chanceFrom_196 : decode cX5_chanceFrom 196 = .ok (.iastore, 1) := by decide +kernel
theorem dX5_chanceFrom_197 : decode cX5_chanceFrom 197 = .ok (.aload_n 0, 1) := by decide +kernel
theorem dX5_chanceFrom_198 : decode cX5_chanceFrom 198 = .ok (.getfield 22, 3) := by decide +kernel
theorem dX5_chanceFrom_201 : decode cX5_chanceFrom 201 = .ok (.iload 5, 2) := by decide +kernel
theorem dX5_chanceFrom_203 : decode cX5_chanceFrom 203 = .ok (.iconst 0, 1) := by decide +kernel
theorem dX5_chanceFrom_204 : decode cX5_chanceFrom 204 = .ok (.iastore, 1) := by decide +kernel
theorem dX5_chanceFrom_205 : decode cX5_chanceFrom 205 = .ok (.goto (-173), 3) := by decide +kernel
theorem dX5_chanceFrom_208 : decode cX5_chanceFrom 208 = .ok (.lload 7, 2) := by decide +kernel
theorem dX5_chanceFrom_210 : decode cX5_chanceFrom 210 = .ok (.lreturn, 1) := by decide +kernel
set_option maxRecDepth 20000 in
theorem ggX5_odds_X5_noPlace : GoodIn wsX5_odds wsX5_noPlace := goodIn_r _ [6, 7, 8, 9, 5, 10, 11, 12, 13, 14, 15, 61, 62, 63, 64, 65, 66, 67, 68, 69, 70, 71, 72, 73, 74, 75, 76, 77, 78, 79, 80, 81, 82, 83, 84, 85, 86, 87, 88, 89, 90] (by decide +kernel) (by decide +kernel)
set_option maxRecDepth 20000 in
theorem gX5_odds_X5_noPlace : GoodIn wsX5_odds (wsV RX5 77 RX5 yX5_noPlace wsX5_noPlace) := goodIn_app (goodIn_of _ (by decide +kernel)) ggX5_odds_X5_noPlace
set_option maxRecDepth 20000 in
theorem ggX5_odds_X5_noWeeks : GoodIn wsX5_odds wsX5_noWeeks := goodIn_r _ [18, 19, 13, 14, 5, 15] (by decide +kernel) (by decide +kernel)
set_option maxRecDepth 20000 in
theorem gX5_odds_X5_noWeeks : GoodIn wsX5_odds (va_wsS RX5 157 yX5_noWeeks wsX5_noWeeks) := goodIn_app (goodIn_of _ (by decide +kernel)) ggX5_odds_X5_noWeeks
set_option maxRecDepth 20000 in
theorem ggX5_odds_X5_in : GoodIn wsX5_odds wsX5_in := goodIn_r _ [15] (by decide +kernel) (by decide +kernel)
set_option maxRecDepth 20000 in
theorem gX5_odds_X5_in : GoodIn wsX5_odds (va_wsS RX5 73 yX5_in wsX5_in) := goodIn_app (goodIn_of _ (by decide +kernel)) ggX5_odds_X5_in
set_option maxRecDepth 20000 in
theorem ggX5_odds_X5_lost : GoodIn wsX5_odds wsX5_lost := goodIn_r _ [22, 23] (by decide +kernel) (by decide +kernel)
set_option maxRecDepth 20000 in
theorem gX5_odds_X5_lost : GoodIn wsX5_odds (va_wsS RX5 59 yX5_lost wsX5_lost) := goodIn_app (goodIn_of _ (by decide +kernel)) ggX5_odds_X5_lost
set_option maxRecDepth 20000 in
theorem ggX5_odds_X5_ripeBy : GoodIn wsX5_odds wsX5_ripeBy := goodIn_r _ [27, 28, 7, 8, 9, 5, 10, 11, 12, 29, 30, 31, 32, 33, 34, 35, 36, 37, 38, 39, 61, 62, 63, 64, 65, 66, 67, 68, 69, 70, 71, 72, 73, 74, 75, 76, 77, 78, 79, 80, 81, 82, 83, 84, 85, 86, 87, 88, 89, 90] (by decide +kernel) (by decide +kernel)
set_option maxRecDepth 20000 in
theorem gX5_odds_X5_ripeBy : GoodIn wsX5_odds (wsV RX5 160 RX5 yX5_ripeBy wsX5_ripeBy) := goodIn_app (goodIn_of _ (by decide +kernel)) ggX5_odds_X5_ripeBy
set_option maxRecDepth 20000 in
theorem ggX5_odds_X5_isIn : GoodIn wsX5_odds wsX5_isIn := goodIn_r _ [42] (by decide +kernel) (by decide +kernel)
set_option maxRecDepth 20000 in
theorem gX5_odds_X5_isIn : GoodIn wsX5_odds (va_wsS RX5 175 yX5_isIn wsX5_isIn) := goodIn_app (goodIn_of _ (by decide +kernel)) ggX5_odds_X5_isIn
set_option maxRecDepth 20000 in
theorem ggX5_odds_X5_chanceFrom : GoodIn wsX5_odds wsX5_chanceFrom := goodIn_r _ [46, 47, 48, 49, 50, 51, 52, 5, 53, 12, 11, 13, 14, 15, 40, 41, 42, 54, 55, 56, 57, 61, 62, 63, 64, 65, 66, 67, 68, 69, 70, 71, 72, 73, 74, 75, 76, 77, 78, 79, 80, 81, 82, 83, 84, 85, 86, 87, 88, 89, 90] (by decide +kernel) (by decide +kernel)
set_option maxRecDepth 20000 in
theorem gX5_odds_X5_chanceFrom : GoodIn wsX5_odds (wsV RX5 219 RX5 yX5_chanceFrom wsX5_chanceFrom) := goodIn_app (goodIn_of _ (by decide +kernel)) ggX5_odds_X5_chanceFrom
set_option maxRecDepth 20000 in
theorem ggX5_odds_X5_share : GoodIn wsX5_odds wsX5_share := goodIn_r _ [60] (by decide +kernel) (by decide +kernel)
set_option maxRecDepth 20000 in
theorem gX5_odds_X5_share : GoodIn wsX5_odds (va_wsS RX5 223 yX5_share wsX5_share) := goodIn_app (goodIn_of _ (by decide +kernel)) ggX5_odds_X5_share
theorem dX5_odds_0 : decode cX5_odds 0 = .ok (.aload_n 0, 1) := by decide +kernel
theorem dX5_odds_1 : decode cX5_odds 1 = .ok (.iload_n 2, 1) := by decide +kernel
theorem dX5_odds_2 : decode cX5_odds 2 = .ok (.invokevirtual 77, 3) := by decide +kernel
theorem dX5_odds_5 : decode cX5_odds 5 = .ok (.ifCond .ne 20, 3) := by decide +kernel
theorem dX5_odds_8 : decode cX5_odds 8 = .ok (.iload_n 1, 1) := by decide +kernel
theorem dX5_odds_9 : decode cX5_odds 9 = .ok (.invokestatic 157, 3) := by decide +kernel
theorem dX5_odds_12 : decode cX5_odds 12 = .ok (.ifCond .ne 13, 3) := by decide +kernel
theorem dX5_odds_15 : decode cX5_odds 15 = .ok (.iload_n 3, 1) := by decide +kernel
theorem dX5_odds_16 : decode cX5_odds 16 = .ok (.i2l, 1) := by decide +kernel
theorem dX5_odds_17 : decode cX5_odds 17 = .ok (.lconst 0, 1) := by decide +kernel
theorem dX5_odds_18 : decode cX5_odds 18 = .ok (.lconst 1, 1) := by decide +kernel
theorem dX5_odds_19 : decode cX5_odds 19 = .ok (.invokestatic 73, 3) := by decide +kernel
theorem dX5_odds_22 : decode cX5_odds 22 = .ok (.ifCond .ne 7, 3) := by decide +kernel
theorem dX5_odds_25 : decode cX5_odds 25 = .ok (.invokestatic 59, 3) := by decide +kernel
theorem dX5_odds_28 : decode cX5_odds 28 = .ok (.lreturn, 1) := by decide +kernel
theorem dX5_odds_29 : decode cX5_odds 29 = .ok (.aload_n 0, 1) := by decide +kernel
theorem dX5_odds_30 : decode cX5_odds 30 = .ok (.iload_n 1, 1) := by decide +kernel
theorem dX5_odds_31 : decode cX5_odds 31 = .ok (.invokevirtual 160, 3) := by decide +kernel
theorem dX5_odds_34 : decode cX5_odds 34 = .ok (.iload_n 2, 1) := by decide +kernel
theorem dX5_odds_35 : decode cX5_odds 35 = .ok (.invokestatic 175, 3) := by decide +kernel
theorem dX5_odds_38 : decode cX5_odds 38 = .ok (.ifCond .ne 7, 3) := by decide +kernel
theorem dX5_odds_41 : decode cX5_odds 41 = .ok (.invokestatic 59, 3) := by decide +kernel
theorem dX5_odds_44 : decode cX5_odds 44 = .ok (.lreturn, 1) := by decide +kernel
theorem dX5_odds_45 : decode cX5_odds 45 = .ok (.lconst 1, 1) := by decide +kernel
theorem dX5_odds_46 : decode cX5_odds 46 = .ok (.lstore 4, 2) := by decide +kernel
theorem dX5_odds_48 : decode cX5_odds 48 = .ok (.iconst 0, 1) := by decide +kernel
theorem dX5_odds_49 : decode cX5_odds 49 = .ok (.istore 6, 2) := by decide +kernel
theorem dX5_odds_51 : decode cX5_odds 51 = .ok (.iload 6, 2) := by decide +kernel
theorem dX5_odds_53 : decode cX5_odds 53 = .ok (.bipush 15, 2) := by decide +kernel
theorem dX5_odds_55 : decode cX5_odds 55 = .ok (.if_icmp .ge 17, 3) := by decide +kernel
theorem dX5_odds_58 : decode cX5_odds 58 = .ok (.lload 4, 2) := by decide +kernel
theorem dX5_odds_60 : decode cX5_odds 60 = .ok (.ldc2_w 217, 3) := by decide +kernel
theorem dX5_odds_63 : decode cX5_odds 63 = .ok (.lmul, 1) := by decide +kernel
theorem dX5_odds_64 : decode cX5_odds 64 = .ok (.lstore 4, 2) := by decide +kernel
theorem dX5_odds_66 : decode cX5_odds 66 = .ok (.iinc 6 1, 3) := by decide +kernel
theorem dX5_odds_69 : decode cX5_odds 69 = .ok (.goto (-18), 3) := by decide +kernel
theorem dX5_odds_72 : decode cX5_odds 72 = .ok (.aload_n 0, 1) := by decide +kernel
theorem dX5_odds_73 : decode cX5_odds 73 = .ok (.aload_n 0, 1) := by decide +kernel
theorem dX5_odds_74 : decode cX5_odds 74 = .ok (.iload_n 1, 1) := by decide +kernel
theorem dX5_odds_75 : decode cX5_odds 75 = .ok (.invokevirtual 160, 3) := by decide +kernel
theorem dX5_odds_78 : decode cX5_odds 78 = .ok (.iload_n 2, 1) := by decide +kernel
theorem dX5_odds_79 : decode cX5_odds 79 = .ok (.lload 4, 2) := by decide +kernel
theorem dX5_odds_81 : decode cX5_odds 81 = .ok (.invokevirtual 219, 3) := by decide +kernel
theorem dX5_odds_84 : decode cX5_odds 84 = .ok (.lload 4, 2) := by decide +kernel
theorem dX5_odds_86 : decode cX5_odds 86 = .ok (.iload_n 3, 1) := by decide +kernel
theorem dX5_odds_87 : decode cX5_odds 87 = .ok (.invokestatic 223, 3) := by decide +kernel
theorem dX5_odds_90 : decode cX5_odds 90 = .ok (.lreturn, 1) := by decide +kernel
set_option maxRecDepth 20000 in
theorem ggX5_noSheet_X5_in : GoodIn wsX5_noSheet wsX5_in := goodIn_r _ [5] (by decide +kernel) (by decide +kernel)
set_option maxRecDepth 20000 in
theorem gX5_noSheet_X5_in : GoodIn wsX5_noSheet (va_wsS RX5 73 yX5_in wsX5_in) := goodIn_app (goodIn_of _ (by decide +kernel)) ggX5_noSheet_X5_in
theorem dX5_noSheet_0 : decode cX5_noSheet 0 = .ok (.iload_n 0, 1) := by decide +kernel
theorem dX5_noSheet_1 : decode cX5_noSheet 1 = .ok (.i2l, 1) := by decide +kernel
theorem dX5_noSheet_2 : decode cX5_noSheet 2 = .ok (.lconst 0, 1) := by decide +kernel
theorem dX5_noSheet_3 : decode cX5_noSheet 3 = .ok (.ldc2_w 155, 3) := by decide +kernel
theorem dX5_noSheet_6 : decode cX5_noSheet 6 = .ok (.invokestatic 73, 3) := by decide +kernel
theorem dX5_noSheet_9 : decode cX5_noSheet 9 = .ok (.ifCond .ne 7, 3) := by decide +kernel
theorem dX5_noSheet_12 : decode cX5_noSheet 12 = .ok (.iconst 1, 1) := by decide +kernel
theorem dX5_noSheet_13 : decode cX5_noSheet 13 = .ok (.goto 4, 3) := by decide +kernel
theorem dX5_noSheet_16 : decode cX5_noSheet 16 = .ok (.iconst 0, 1) := by decide +kernel
theorem dX5_noSheet_17 : decode cX5_noSheet 17 = .ok (.ireturn, 1) := by decide +kernel
set_option maxRecDepth 20000 in
theorem ggX5_sheet_X5_noSheet : GoodIn wsX5_sheet wsX5_noSheet := goodIn_r _ [8, 9, 10, 11, 7, 12] (by decide +kernel) (by decide +kernel)
set_option maxRecDepth 20000 in
theorem gX5_sheet_X5_noSheet : GoodIn wsX5_sheet (va_wsS RX5 116 yX5_noSheet wsX5_noSheet) := goodIn_app (goodIn_of _ (by decide +kernel)) ggX5_sheet_X5_noSheet
set_option maxRecDepth 20000 in
theorem ggX5_sheet_X5_refused : GoodIn wsX5_sheet wsX5_refused := goodIn_r _ [16, 17, 22, 23, 24, 25, 26, 27, 28, 29, 30, 31, 32, 33, 34, 35, 36, 37, 38, 39, 40, 41, 42, 43, 44, 45, 46, 47, 48, 49, 50, 51] (by decide +kernel) (by decide +kernel)
set_option maxRecDepth 20000 in
theorem gX5_sheet_X5_refused : GoodIn wsX5_sheet (wsV RX5 119 RX5 yX5_refused wsX5_refused) := goodIn_app (goodIn_of _ (by decide +kernel)) ggX5_sheet_X5_refused
set_option maxRecDepth 20000 in
theorem ggX5_sheet_X5_in : GoodIn wsX5_sheet wsX5_in := goodIn_r _ [12] (by decide +kernel) (by decide +kernel)
set_option maxRecDepth 20000 in
theorem gX5_sheet_X5_in : GoodIn wsX5_sheet (va_wsS RX5 73 yX5_in wsX5_in) := goodIn_app (goodIn_of _ (by decide +kernel)) ggX5_sheet_X5_in
set_option maxRecDepth 20000 in
theorem ggX5_sheet_X5_failed : GoodIn wsX5_sheet wsX5_failed := goodIn_r _ [21, 17, 22, 23, 24, 25, 26, 27, 28, 29, 30, 31, 32, 33, 34, 35, 36, 37, 38, 39, 40, 41, 42, 43, 44, 45, 46, 47, 48, 49, 50, 51] (by decide +kernel) (by decide +kernel)
set_option maxRecDepth 20000 in
theorem gX5_sheet_X5_failed : GoodIn wsX5_sheet (wsV RX5 108 RX5 yX5_failed wsX5_failed) := goodIn_app (goodIn_of _ (by decide +kernel)) ggX5_sheet_X5_failed
theorem dX5_sheet_0 : decode cX5_sheet 0 = .ok (.iload_n 1, 1) := by decide +kernel
theorem dX5_sheet_1 : decode cX5_sheet 1 = .ok (.invokestatic 116, 3) := by decide +kernel
theorem dX5_sheet_4 : decode cX5_sheet 4 = .ok (.ifCond .eq 9, 3) := by decide +kernel
theorem dX5_sheet_7 : decode cX5_sheet 7 = .ok (.aload_n 0, 1) := by decide +kernel
theorem dX5_sheet_8 : decode cX5_sheet 8 = .ok (.iconst (-1), 1) := by decide +kernel
theorem dX5_sheet_9 : decode cX5_sheet 9 = .ok (.invokevirtual 119, 3) := by decide +kernel
theorem dX5_sheet_12 : decode cX5_sheet 12 = .ok (.ireturn, 1) := by decide +kernel
theorem dX5_sheet_13 : decode cX5_sheet 13 = .ok (.iload_n 2, 1) := by decide +kernel
theorem dX5_sheet_14 : decode cX5_sheet 14 = .ok (.i2l, 1) := by decide +kernel
theorem dX5_sheet_15 : decode cX5_sheet 15 = .ok (.lconst 0, 1) := by decide +kernel
theorem dX5_sheet_16 : decode cX5_sheet 16 = .ok (.ldc2_w 122, 3) := by decide +kernel
theorem dX5_sheet_19 : decode cX5_sheet 19 = .ok (.invokestatic 73, 3) := by decide +kernel
theorem dX5_sheet_22 : decode cX5_sheet 22 = .ok (.ifCond .eq 9, 3) := by decide +kernel
theorem dX5_sheet_25 : decode cX5_sheet 25 = .ok (.iload_n 3, 1) := by decide +kernel
theorem dX5_sheet_26 : decode cX5_sheet 26 = .ok (.bipush 60, 2) := by decide +kernel
theorem dX5_sheet_28 : decode cX5_sheet 28 = .ok (.if_icmp .le 10, 3) := by decide +kernel
theorem dX5_sheet_31 : decode cX5_sheet 31 = .ok (.aload_n 0, 1) := by decide +kernel
theorem dX5_sheet_32 : decode cX5_sheet 32 = .ok (.bipush (-2), 2) := by decide +kernel
theorem dX5_sheet_34 : decode cX5_sheet 34 = .ok (.invokevirtual 119, 3) := by decide +kernel
theorem dX5_sheet_37 : decode cX5_sheet 37 = .ok (.ireturn, 1) := by decide +kernel
theorem dX5_sheet_38 : decode cX5_sheet 38 = .ok (.iload_n 3, 1) := by decide +kernel
theorem dX5_sheet_39 : decode cX5_sheet 39 = .ok (.ifCond .ge 9, 3) := by decide +kernel
theorem dX5_sheet_42 : decode cX5_sheet 42 = .ok (.aload_n 0, 1) := by decide +kernel
theorem dX5_sheet_43 : decode cX5_sheet 43 = .ok (.iconst 4, 1) := by decide +kernel
theorem dX5_sheet_44 : decode cX5_sheet 44 = .ok (.invokevirtual 108, 3) := by decide +kernel
theorem dX5_sheet_47 : decode cX5_sheet 47 = .ok (.ireturn, 1) := by decide +kernel
theorem dX5_sheet_48 : decode cX5_sheet 48 = .ok (.aload_n 0, 1) := by decide +kernel
theorem dX5_sheet_49 : decode cX5_sheet 49 = .ok (.getfield 41, 3) := by decide +kernel
theorem dX5_sheet_52 : decode cX5_sheet 52 = .ok (.iload_n 1, 1) := by decide +kernel
theorem dX5_sheet_53 : decode cX5_sheet 53 = .ok (.iload_n 3, 1) := by decide +kernel
theorem dX5_sheet_54 : decode cX5_sheet 54 = .ok (.iastore, 1) := by decide +kernel
theorem dX5_sheet_55 : decode cX5_sheet 55 = .ok (.aload_n 0, 1) := by decide +kernel
theorem dX5_sheet_56 : decode cX5_sheet 56 = .ok (.getfield 44, 3) := by decide +kernel
theorem dX5_sheet_59 : decode cX5_sheet 59 = .ok (.iload_n 1, 1) := by decide +kernel
theorem dX5_sheet_60 : decode cX5_sheet 60 = .ok (.iload_n 2, 1) := by decide +kernel
theorem dX5_sheet_61 : decode cX5_sheet 61 = .ok (.iastore, 1) := by decide +kernel
theorem dX5_sheet_62 : decode cX5_sheet 62 = .ok (.iconst 0, 1) := by decide +kernel
theorem dX5_sheet_63 : decode cX5_sheet 63 = .ok (.istore 4, 2) := by decide +kernel
theorem dX5_sheet_65 : decode cX5_sheet 65 = .ok (.iload 4, 2) := by decide +kernel
theorem dX5_sheet_67 : decode cX5_sheet 67 = .ok (.iload_n 3, 1) := by decide +kernel
theorem dX5_sheet_68 : decode cX5_sheet 68 = .ok (.if_icmp .ge 22, 3) := by decide +kernel
theorem dX5_sheet_71 : decode cX5_sheet 71 = .ok (.aload_n 0, 1) := by decide +kernel
theorem dX5_sheet_72 : decode cX5_sheet 72 = .ok (.getfield 47, 3) := by decide +kernel
theorem dX5_sheet_75 : decode cX5_sheet 75 = .ok (.bipush 60, 2) := by decide +kernel
theorem dX5_sheet_77 : decode cX5_sheet 77 = .ok (.iload_n 1, 1) := by decide +kernel
theorem dX5_sheet_78 : decode cX5_sheet 78 = .ok (.imul, 1) := by decide +kernel
theorem dX5_sheet_79 : decode cX5_sheet 79 = .ok (.iload 4, 2) := by decide +kernel
theorem dX5_sheet_81 : decode cX5_sheet 81 = .ok (.iadd, 1) := by decide +kernel
theorem dX5_sheet_82 : decode cX5_sheet 82 = .ok (.iconst 0, 1) := by decide +kernel
theorem dX5_sheet_83 : decode cX5_sheet 83 = .ok (.iastore, 1) := by decide +kernel
theorem dX5_sheet_84 : decode cX5_sheet 84 = .ok (.iinc 4 1, 3) := by decide +kernel
theorem dX5_sheet_87 : decode cX5_sheet 87 = .ok (.goto (-22), 3) := by decide +kernel
theorem dX5_sheet_90 : decode cX5_sheet 90 = .ok (.aload_n 0, 1) := by decide +kernel
theorem dX5_sheet_91 : decode cX5_sheet 91 = .ok (.iconst 1, 1) := by decide +kernel
theorem dX5_sheet_92 : decode cX5_sheet 92 = .ok (.invokevirtual 119, 3) := by decide +kernel
theorem dX5_sheet_95 : decode cX5_sheet 95 = .ok (.ireturn, 1) := by decide +kernel
set_option maxRecDepth 20000 in
theorem ggX5_lose_X5_noSheet : GoodIn wsX5_lose wsX5_noSheet := goodIn_r _ [5, 6, 7, 8, 4, 9] (by decide +kernel) (by decide +kernel)
set_option maxRecDepth 20000 in
theorem gX5_lose_X5_noSheet : GoodIn wsX5_lose (va_wsS RX5 116 yX5_noSheet wsX5_noSheet) := goodIn_app (goodIn_of _ (by decide +kernel)) ggX5_lose_X5_noSheet
theorem dX5_lose_0 : decode cX5_lose 0 = .ok (.iload_n 1, 1) := by decide +kernel
theorem dX5_lose_1 : decode cX5_lose 1 = .ok (.invokestatic 116, 3) := by decide +kernel
theorem dX5_lose_4 : decode cX5_lose 4 = .ok (.ifCond .eq 5, 3) := by decide +kernel
theorem dX5_lose_7 : decode cX5_lose 7 = .ok (.iconst (-1), 1) := by decide +kernel
theorem dX5_lose_8 : decode cX5_lose 8 = .ok (.ireturn, 1) := by decide +kernel
theorem dX5_lose_9 : decode cX5_lose 9 = .ok (.aload_n 0, 1) := by decide +kernel
theorem dX5_lose_10 : decode cX5_lose 10 = .ok (.getfield 41, 3) := by decide +kernel
theorem dX5_lose_13 : decode cX5_lose 13 = .ok (.iload_n 1, 1) := by decide +kernel
theorem dX5_lose_14 : decode cX5_lose 14 = .ok (.iaload, 1) := by decide +kernel
theorem dX5_lose_15 : decode cX5_lose 15 = .ok (.ifCond .ge 7, 3) := by decide +kernel
theorem dX5_lose_18 : decode cX5_lose 18 = .ok (.iconst 0, 1) := by decide +kernel
theorem dX5_lose_19 : decode cX5_lose 19 = .ok (.goto 4, 3) := by decide +kernel
theorem dX5_lose_22 : decode cX5_lose 22 = .ok (.iconst 1, 1) := by decide +kernel
theorem dX5_lose_23 : decode cX5_lose 23 = .ok (.istore_n 2, 1) := by decide +kernel
theorem dX5_lose_24 : decode cX5_lose 24 = .ok (.aload_n 0, 1) := by decide +kernel
theorem dX5_lose_25 : decode cX5_lose 25 = .ok (.getfield 41, 3) := by decide +kernel
theorem dX5_lose_28 : decode cX5_lose 28 = .ok (.iload_n 1, 1) := by decide +kernel
theorem dX5_lose_29 : decode cX5_lose 29 = .ok (.iconst (-1), 1) := by decide +kernel
theorem dX5_lose_30 : decode cX5_lose 30 = .ok (.iastore, 1) := by decide +kernel
theorem dX5_lose_31 : decode cX5_lose 31 = .ok (.iload_n 2, 1) := by decide +kernel
theorem dX5_lose_32 : decode cX5_lose 32 = .ok (.ireturn, 1) := by decide +kernel
set_option maxRecDepth 20000 in
theorem ggX5_noCell_X5_in : GoodIn wsX5_noCell wsX5_in := goodIn_r _ [5] (by decide +kernel) (by decide +kernel)
set_option maxRecDepth 20000 in
theorem gX5_noCell_X5_in : GoodIn wsX5_noCell (va_wsS RX5 73 yX5_in wsX5_in) := goodIn_app (goodIn_of _ (by decide +kernel)) ggX5_noCell_X5_in
theorem dX5_noCell_0 : decode cX5_noCell 0 = .ok (.aload_n 0, 1) := by decide +kernel
theorem dX5_noCell_1 : decode cX5_noCell 1 = .ok (.getfield 41, 3) := by decide +kernel
theorem dX5_noCell_4 : decode cX5_noCell 4 = .ok (.iload_n 1, 1) := by decide +kernel
theorem dX5_noCell_5 : decode cX5_noCell 5 = .ok (.iaload, 1) := by decide +kernel
theorem dX5_noCell_6 : decode cX5_noCell 6 = .ok (.ifCond .ge 7, 3) := by decide +kernel
theorem dX5_noCell_9 : decode cX5_noCell 9 = .ok (.iconst 1, 1) := by decide +kernel
theorem dX5_noCell_10 : decode cX5_noCell 10 = .ok (.goto 26, 3) := by decide +kernel
theorem dX5_noCell_13 : decode cX5_noCell 13 = .ok (.iload_n 2, 1) := by decide +kernel
theorem dX5_noCell_14 : decode cX5_noCell 14 = .ok (.i2l, 1) := by decide +kernel
theorem dX5_noCell_15 : decode cX5_noCell 15 = .ok (.lconst 0, 1) := by decide +kernel
theorem dX5_noCell_16 : decode cX5_noCell 16 = .ok (.aload_n 0, 1) := by decide +kernel
theorem dX5_noCell_17 : decode cX5_noCell 17 = .ok (.getfield 41, 3) := by decide +kernel
theorem dX5_noCell_20 : decode cX5_noCell 20 = .ok (.iload_n 1, 1) := by decide +kernel
theorem dX5_noCell_21 : decode cX5_noCell 21 = .ok (.iaload, 1) := by decide +kernel
theorem dX5_noCell_22 : decode cX5_noCell 22 = .ok (.i2l, 1) := by decide +kernel
theorem dX5_noCell_23 : decode cX5_noCell 23 = .ok (.lconst 1, 1) := by decide +kernel
theorem dX5_noCell_24 : decode cX5_noCell 24 = .ok (.lsub, 1) := by decide +kernel
theorem dX5_noCell_25 : decode cX5_noCell 25 = .ok (.invokestatic 73, 3) := by decide +kernel
theorem dX5_noCell_28 : decode cX5_noCell 28 = .ok (.ifCond .eq 7, 3) := by decide +kernel
theorem dX5_noCell_31 : decode cX5_noCell 31 = .ok (.iconst 0, 1) := by decide +kernel
theorem dX5_noCell_32 : decode cX5_noCell 32 = .ok (.goto 4, 3) := by decide +kernel
theorem dX5_noCell_35 : decode cX5_noCell 35 = .ok (.iconst 3, 1) := by decide +kernel
theorem dX5_noCell_36 : decode cX5_noCell 36 = .ok (.ireturn, 1) := by decide +kernel
set_option maxRecDepth 20000 in
theorem ggX5_put_X5_noSheet : GoodIn wsX5_put wsX5_noSheet := goodIn_r _ [6, 7, 8, 9, 5, 10] (by decide +kernel) (by decide +kernel)
set_option maxRecDepth 20000 in
theorem gX5_put_X5_noSheet : GoodIn wsX5_put (va_wsS RX5 116 yX5_noSheet wsX5_noSheet) := goodIn_app (goodIn_of _ (by decide +kernel)) ggX5_put_X5_noSheet
set_option maxRecDepth 20000 in
theorem ggX5_put_X5_refused : GoodIn wsX5_put wsX5_refused := goodIn_r _ [14, 15, 25, 26, 27, 28, 29, 30, 31, 32, 33, 34, 35, 36, 37, 38, 39, 40, 41, 42, 43, 44, 45, 46, 47, 48, 49, 50, 51, 52, 53, 54] (by decide +kernel) (by decide +kernel)
set_option maxRecDepth 20000 in
theorem gX5_put_X5_refused : GoodIn wsX5_put (wsV RX5 119 RX5 yX5_refused wsX5_refused) := goodIn_app (goodIn_of _ (by decide +kernel)) ggX5_put_X5_refused
set_option maxRecDepth 20000 in
theorem ggX5_put_X5_noCell : GoodIn wsX5_put wsX5_noCell := goodIn_r _ [19, 20, 8, 9, 5, 10, 25, 26, 27, 28, 29, 30, 31, 32, 33, 34, 35, 36, 37, 38, 39, 40, 41, 42, 43, 44, 45, 46, 47, 48, 49, 50, 51, 52, 53, 54] (by decide +kernel) (by decide +kernel)
set_option maxRecDepth 20000 in
theorem gX5_put_X5_noCell : GoodIn wsX5_put (wsV RX5 227 RX5 yX5_noCell wsX5_noCell) := goodIn_app (goodIn_of _ (by decide +kernel)) ggX5_put_X5_noCell
set_option maxRecDepth 20000 in
theorem ggX5_put_X5_failed : GoodIn wsX5_put wsX5_failed := goodIn_r _ [24, 15, 25, 26, 27, 28, 29, 30, 31, 32, 33, 34, 35, 36, 37, 38, 39, 40, 41, 42, 43, 44, 45, 46, 47, 48, 49, 50, 51, 52, 53, 54] (by decide +kernel) (by decide +kernel)
set_option maxRecDepth 20000 in
theorem gX5_put_X5_failed : GoodIn wsX5_put (wsV RX5 108 RX5 yX5_failed wsX5_failed) := goodIn_app (goodIn_of _ (by decide +kernel)) ggX5_put_X5_failed
theorem dX5_put_0 : decode cX5_put 0 = .ok (.iload_n 1, 1) := by decide +kernel
theorem dX5_put_1 : decode cX5_put 1 = .ok (.invokestatic 116, 3) := by decide +kernel
theorem dX5_put_4 : decode cX5_put 4 = .ok (.ifCond .eq 9, 3) := by decide +kernel
theorem dX5_put_7 : decode cX5_put 7 = .ok (.aload_n 0, 1) := by decide +kernel
theorem dX5_put_8 : decode cX5_put 8 = .ok (.iconst (-1), 1) := by decide +kernel
theorem dX5_put_9 : decode cX5_put 9 = .ok (.invokevirtual 119, 3) := by decide +kernel
theorem dX5_put_12 : decode cX5_put 12 = .ok (.ireturn, 1) := by decide +kernel
theorem dX5_put_13 : decode cX5_put 13 = .ok (.aload_n 0, 1) := by decide +kernel
theorem dX5_put_14 : decode cX5_put 14 = .ok (.iload_n 1, 1) := by decide +kernel
theorem dX5_put_15 : decode cX5_put 15 = .ok (.iload_n 2, 1) := by decide +kernel
theorem dX5_put_16 : decode cX5_put 16 = .ok (.invokevirtual 227, 3) := by decide +kernel
theorem dX5_put_19 : decode cX5_put 19 = .ok (.ifCond .le 14, 3) := by decide +kernel
theorem dX5_put_22 : decode cX5_put 22 = .ok (.aload_n 0, 1) := by decide +kernel
theorem dX5_put_23 : decode cX5_put 23 = .ok (.aload_n 0, 1) := by decide +kernel
theorem dX5_put_24 : decode cX5_put 24 = .ok (.iload_n 1, 1) := by decide +kernel
theorem dX5_put_25 : decode cX5_put 25 = .ok (.iload_n 2, 1) := by decide +kernel
theorem dX5_put_26 : decode cX5_put 26 = .ok (.invokevirtual 227, 3) := by decide +kernel
theorem dX5_put_29 : decode cX5_put 29 = .ok (.invokevirtual 108, 3) := by decide +kernel
theorem dX5_put_32 : decode cX5_put 32 = .ok (.ireturn, 1) := by decide +kernel
theorem dX5_put_33 : decode cX5_put 33 = .ok (.aload_n 0, 1) := by decide +kernel
theorem dX5_put_34 : decode cX5_put 34 = .ok (.getfield 47, 3) := by decide +kernel
theorem dX5_put_37 : decode cX5_put 37 = .ok (.bipush 60, 2) := by decide +kernel
theorem dX5_put_39 : decode cX5_put 39 = .ok (.iload_n 1, 1) := by decide +kernel
theorem dX5_put_40 : decode cX5_put 40 = .ok (.imul, 1) := by decide +kernel
theorem dX5_put_41 : decode cX5_put 41 = .ok (.iload_n 2, 1) := by decide +kernel
theorem dX5_put_42 : decode cX5_put 42 = .ok (.iadd, 1) := by decide +kernel
theorem dX5_put_43 : decode cX5_put 43 = .ok (.aload_n 0, 1) := by decide +kernel
theorem dX5_put_44 : decode cX5_put 44 = .ok (.getfield 44, 3) := by decide +kernel
theorem dX5_put_47 : decode cX5_put 47 = .ok (.iload_n 1, 1) := by decide +kernel
theorem dX5_put_48 : decode cX5_put 48 = .ok (.iaload, 1) := by decide +kernel
theorem dX5_put_49 : decode cX5_put 49 = .ok (.ifCond .ne 8, 3) := by decide +kernel
theorem dX5_put_52 : decode cX5_put 52 = .ok (.iload_n 3, 1) := by decide +kernel
theorem dX5_put_53 : decode cX5_put 53 = .ok (.i2b, 1) := by decide +kernel
theorem dX5_put_54 : decode cX5_put 54 = .ok (.goto 19, 3) := by decide +kernel
theorem dX5_put_57 : decode cX5_put 57 = .ok (.aload_n 0, 1) := by decide +kernel
theorem dX5_put_58 : decode cX5_put 58 = .ok (.getfield 44, 3) := by decide +kernel
theorem dX5_put_61 : decode cX5_put 61 = .ok (.iload_n 1, 1) := by decide +kernel
theorem dX5_put_62 : decode cX5_put 62 = .ok (.iaload, 1) := by decide +kernel
theorem dX5_put_63 : decode cX5_put 63 = .ok (.iconst 1, 1) := by decide +kernel
theorem dX5_put_64 : decode cX5_put 64 = .ok (.if_icmp .ne 8, 3) := by decide +kernel
theorem dX5_put_67 : decode cX5_put 67 = .ok (.iload_n 3, 1) := by decide +kernel
theorem dX5_put_68 : decode cX5_put 68 = .ok (.i2s, 1) := by decide +kernel
theorem dX5_put_69 : decode cX5_put 69 = .ok (.goto 4, 3) := by decide +kernel
theorem dX5_put_72 : decode cX5_put 72 = .ok (.iload_n 3, 1) := by decide +kernel
theorem dX5_put_73 : decode cX5_put 73 = .ok (.iastore, 1) := by decide +kernel
theorem dX5_put_74 : decode cX5_put 74 = .ok (.aload_n 0, 1) := by decide +kernel
theorem dX5_put_75 : decode cX5_put 75 = .ok (.iconst 1, 1) := by decide +kernel
theorem dX5_put_76 : decode cX5_put 76 = .ok (.invokevirtual 119, 3) := by decide +kernel
theorem dX5_put_79 : decode cX5_put 79 = .ok (.ireturn, 1) := by decide +kernel
set_option maxRecDepth 20000 in
theorem ggX5_cell_X5_noSheet : GoodIn wsX5_cell wsX5_noSheet := goodIn_r _ [9, 10, 11, 12, 8, 13] (by decide +kernel) (by decide +kernel)
set_option maxRecDepth 20000 in
theorem gX5_cell_X5_noSheet : GoodIn wsX5_cell (va_wsS RX5 116 yX5_noSheet wsX5_noSheet) := goodIn_app (goodIn_of _ (by decide +kernel)) ggX5_cell_X5_noSheet
set_option maxRecDepth 20000 in
theorem ggX5_cell_X5_in : GoodIn wsX5_cell wsX5_in := goodIn_r _ [13] (by decide +kernel) (by decide +kernel)
set_option maxRecDepth 20000 in
theorem gX5_cell_X5_in : GoodIn wsX5_cell (va_wsS RX5 73 yX5_in wsX5_in) := goodIn_app (goodIn_of _ (by decide +kernel)) ggX5_cell_X5_in
set_option maxRecDepth 20000 in
theorem ggX5_cell_X5_lost : GoodIn wsX5_cell wsX5_lost := goodIn_r _ [16, 17] (by decide +kernel) (by decide +kernel)
set_option maxRecDepth 20000 in
theorem gX5_cell_X5_lost : GoodIn wsX5_cell (va_wsS RX5 59 yX5_lost wsX5_lost) := goodIn_app (goodIn_of _ (by decide +kernel)) ggX5_cell_X5_lost
set_option maxRecDepth 20000 in
theorem ggX5_cell_X5_failedLong : GoodIn wsX5_cell wsX5_failedLong := goodIn_r _ [21, 1, 14, 15, 8, 16, 17, 26, 27, 28, 29, 30, 31, 32, 33, 34, 35, 36, 37, 38, 39, 40, 41, 42, 43, 44, 45, 46, 47, 48, 49, 50, 51, 52, 53, 54, 55] (by decide +kernel) (by decide +kernel)
set_option maxRecDepth 20000 in
theorem gX5_cell_X5_failedLong : GoodIn wsX5_cell (wsV RX5 230 RX5 yX5_failedLong wsX5_failedLong) := goodIn_app (goodIn_of _ (by decide +kernel)) ggX5_cell_X5_failedLong
set_option maxRecDepth 20000 in
theorem ggX5_cell_X5_noCell : GoodIn wsX5_cell wsX5_noCell := goodIn_r _ [25, 3, 11, 12, 8, 13, 26, 27, 28, 29, 30, 31, 32, 33, 34, 35, 36, 37, 38, 39, 40, 41, 42, 43, 44, 45, 46, 47, 48, 49, 50, 51, 52, 53, 54, 55] (by decide +kernel) (by decide +kernel)
set_option maxRecDepth 20000 in
theorem gX5_cell_X5_noCell : GoodIn wsX5_cell (wsV RX5 227 RX5 yX5_noCell wsX5_noCell) := goodIn_app (goodIn_of _ (by decide +kernel)) ggX5_cell_X5_noCell
theorem dX5_cell_0 : decode cX5_cell 0 = .ok (.aload_n 0, 1) := by decide +kernel
theorem dX5_cell_1 : decode cX5_cell 1 = .ok (.iconst 0, 1) := by decide +kernel
theorem dX5_cell_2 : decode cX5_cell 2 = .ok (.putfield 55, 3) := by decide +kernel
theorem dX5_cell_5 : decode cX5_cell 5 = .ok (.iload_n 1, 1) := by decide +kernel
theorem dX5_cell_6 : decode cX5_cell 6 = .ok (.invokestatic 116, 3) := by decide +kernel
theorem dX5_cell_9 : decode cX5_cell 9 = .ok (.ifCond .ne 15, 3) := by decide +kernel
theorem dX5_cell_12 : decode cX5_cell 12 = .ok (.iload_n 3, 1) := by decide +kernel
theorem dX5_cell_13 : decode cX5_cell 13 = .ok (.i2l, 1) := by decide +kernel
theorem dX5_cell_14 : decode cX5_cell 14 = .ok (.lconst 0, 1) := by decide +kernel
theorem dX5_cell_15 : decode cX5_cell 15 = .ok (.ldc2_w 122, 3) := by decide +kernel
theorem dX5_cell_18 : decode cX5_cell 18 = .ok (.invokestatic 73, 3) := by decide +kernel
theorem dX5_cell_21 : decode cX5_cell 21 = .ok (.ifCond .ne 7, 3) := by decide +kernel
theorem dX5_cell_24 : decode cX5_cell 24 = .ok (.invokestatic 59, 3) := by decide +kernel
theorem dX5_cell_27 : decode cX5_cell 27 = .ok (.lreturn, 1) := by decide +kernel
theorem dX5_cell_28 : decode cX5_cell 28 = .ok (.aload_n 0, 1) := by decide +kernel
theorem dX5_cell_29 : decode cX5_cell 29 = .ok (.getfield 41, 3) := by decide +kernel
theorem dX5_cell_32 : decode cX5_cell 32 = .ok (.iload_n 1, 1) := by decide +kernel
theorem dX5_cell_33 : decode cX5_cell 33 = .ok (.iaload, 1) := by decide +kernel
theorem dX5_cell_34 : decode cX5_cell 34 = .ok (.ifCond .lt 19, 3) := by decide +kernel
theorem dX5_cell_37 : decode cX5_cell 37 = .ok (.aload_n 0, 1) := by decide +kernel
theorem dX5_cell_38 : decode cX5_cell 38 = .ok (.getfield 44, 3) := by decide +kernel
theorem dX5_cell_41 : decode cX5_cell 41 = .ok (.iload_n 1, 1) := by decide +kernel
theorem dX5_cell_42 : decode cX5_cell 42 = .ok (.iaload, 1) := by decide +kernel
theorem dX5_cell_43 : decode cX5_cell 43 = .ok (.iload_n 3, 1) := by decide +kernel
theorem dX5_cell_44 : decode cX5_cell 44 = .ok (.if_icmp .eq 9, 3) := by decide +kernel
theorem dX5_cell_47 : decode cX5_cell 47 = .ok (.aload_n 0, 1) := by decide +kernel
theorem dX5_cell_48 : decode cX5_cell 48 = .ok (.iconst 2, 1) := by decide +kernel
theorem dX5_cell_49 : decode cX5_cell 49 = .ok (.invokevirtual 230, 3) := by decide +kernel
theorem dX5_cell_52 : decode cX5_cell 52 = .ok (.lreturn, 1) := by decide +kernel
theorem dX5_cell_53 : decode cX5_cell 53 = .ok (.aload_n 0, 1) := by decide +kernel
theorem dX5_cell_54 : decode cX5_cell 54 = .ok (.iload_n 1, 1) := by decide +kernel
theorem dX5_cell_55 : decode cX5_cell 55 = .ok (.iload_n 2, 1) := by decide +kernel
theorem dX5_cell_56 : decode cX5_cell 56 = .ok (.invokevirtual 227, 3) := by decide +kernel
theorem dX5_cell_59 : decode cX5_cell 59 = .ok (.ifCond .le 16, 3) := by decide +kernel
theorem dX5_cell_62 : decode cX5_cell 62 = .ok (.aload_n 0, 1) := by decide +kernel
theorem dX5_cell_63 : decode cX5_cell 63 = .ok (.aload_n 0, 1) := by decide +kernel
theorem dX5_cell_64 : decode cX5_cell 64 = .ok (.iload_n 1, 1) := by decide +kernel
theorem dX5_cell_65 : decode cX5_cell 65 = .ok (.iload_n 2, 1) := by decide +kernel
theorem dX5_cell_66 : decode cX5_cell 66 = .ok (.invokevirtual 227, 3) := by decide +kernel
theorem dX5_cell_69 : decode cX5_cell 69 = .ok (.invokevirtual 230, 3) := by decide +kernel
theorem dX5_cell_72 : decode cX5_cell 72 = .ok (.goto 15, 3) := by decide +kernel
theorem dX5_cell_75 : decode cX5_cell 75 = .ok (.aload_n 0, 1) := by decide +kernel
theorem dX5_cell_76 : decode cX5_cell 76 = .ok (.getfield 47, 3) := by decide +kernel
theorem dX5_cell_79 : decode cX5_cell 79 = .ok (.bipush 60, 2) := by decide +kernel
theorem dX5_cell_81 : decode cX5_cell 81 = .ok (.iload_n 1, 1) := by decide +kernel
theorem dX5_cell_82 : decode cX5_cell 82 = .ok (.imul, 1) := by decide +kernel
theorem dX5_cell_83 : decode cX5_cell 83 = .ok (.iload_n 2, 1) := by decide +kernel
theorem dX5_cell_84 : decode cX5_cell 84 = .ok (.iadd, 1) := by decide +kernel
theorem dX5_cell_85 : decode cX5_cell 85 = .ok (.iaload, 1) := by decide +kernel
theorem dX5_cell_86 : decode cX5_cell 86 = .ok (.i2l, 1) := by decide +kernel
theorem dX5_cell_87 : decode cX5_cell 87 = .ok (.lreturn, 1) := by decide +kernel
theorem dX5_isBeyond_0 : decode cX5_isBeyond 0 = .ok (.iload_n 0, 1) := by decide +kernel
theorem dX5_isBeyond_1 : decode cX5_isBeyond 1 = .ok (.ifCond .lt 19, 3) := by decide +kernel
theorem dX5_isBeyond_4 : decode cX5_isBeyond 4 = .ok (.lload_n 1, 1) := by decide +kernel
theorem dX5_isBeyond_5 : decode cX5_isBeyond 5 = .ok (.lconst 0, 1) := by decide +kernel
theorem dX5_isBeyond_6 : decode cX5_isBeyond 6 = .ok (.lcmp, 1) := by decide +kernel
theorem dX5_isBeyond_7 : decode cX5_isBeyond 7 = .ok (.ifCond .lt 13, 3) := by decide +kernel
theorem dX5_isBeyond_10 : decode cX5_isBeyond 10 = .ok (.iload_n 0, 1) := by decide +kernel
theorem dX5_isBeyond_11 : decode cX5_isBeyond 11 = .ok (.i2l, 1) := by decide +kernel
theorem dX5_isBeyond_12 : decode cX5_isBeyond 12 = .ok (.lload_n 1, 1) := by decide +kernel
theorem dX5_isBeyond_13 : decode cX5_isBeyond 13 = .ok (.ladd, 1) := by decide +kernel
theorem dX5_isBeyond_14 : decode cX5_isBeyond 14 = .ok (.iload_n 3, 1) := by decide +kernel
theorem dX5_isBeyond_15 : decode cX5_isBeyond 15 = .ok (.i2l, 1) := by decide +kernel
theorem dX5_isBeyond_16 : decode cX5_isBeyond 16 = .ok (.lcmp, 1) := by decide +kernel
theorem dX5_isBeyond_17 : decode cX5_isBeyond 17 = .ok (.ifCond .le 7, 3) := by decide +kernel
theorem dX5_isBeyond_20 : decode cX5_isBeyond 20 = .ok (.iconst 1, 1) := by decide +kernel
theorem dX5_isBeyond_21 : decode cX5_isBeyond 21 = .ok (.goto 4, 3) := by decide +kernel
theorem dX5_isBeyond_24 : decode cX5_isBeyond 24 = .ok (.iconst 0, 1) := by decide +kernel
theorem dX5_isBeyond_25 : decode cX5_isBeyond 25 = .ok (.ireturn, 1) := by decide +kernel
set_option maxRecDepth 20000 in
theorem ggX5_copy_X5_noSheet : GoodIn wsX5_copy wsX5_noSheet := goodIn_r _ [8, 9, 10, 11, 7, 12] (by decide +kernel) (by decide +kernel)
set_option maxRecDepth 20000 in
theorem gX5_copy_X5_noSheet : GoodIn wsX5_copy (va_wsS RX5 116 yX5_noSheet wsX5_noSheet) := goodIn_app (goodIn_of _ (by decide +kernel)) ggX5_copy_X5_noSheet
set_option maxRecDepth 20000 in
theorem ggX5_copy_X5_refused : GoodIn wsX5_copy wsX5_refused := goodIn_r _ [16, 17, 25, 26, 27, 28, 29, 30, 31, 32, 33, 34, 35, 36, 37, 38, 39, 40, 41, 42, 43, 44, 45, 46, 47, 48, 49, 50, 51, 52, 53, 54] (by decide +kernel) (by decide +kernel)
set_option maxRecDepth 20000 in
theorem gX5_copy_X5_refused : GoodIn wsX5_copy (wsV RX5 119 RX5 yX5_refused wsX5_refused) := goodIn_app (goodIn_of _ (by decide +kernel)) ggX5_copy_X5_refused
set_option maxRecDepth 20000 in
theorem ggX5_copy_X5_failed : GoodIn wsX5_copy wsX5_failed := goodIn_r _ [21, 17, 25, 26, 27, 28, 29, 30, 31, 32, 33, 34, 35, 36, 37, 38, 39, 40, 41, 42, 43, 44, 45, 46, 47, 48, 49, 50, 51, 52, 53, 54] (by decide +kernel) (by decide +kernel)
set_option maxRecDepth 20000 in
theorem gX5_copy_X5_failed : GoodIn wsX5_copy (wsV RX5 108 RX5 yX5_failed wsX5_failed) := goodIn_app (goodIn_of _ (by decide +kernel)) ggX5_copy_X5_failed
set_option maxRecDepth 20000 in
theorem ggX5_copy_X5_isBeyond : GoodIn wsX5_copy wsX5_isBeyond := goodIn_r _ [24] (by decide +kernel) (by decide +kernel)
set_option maxRecDepth 20000 in
theorem gX5_copy_X5_isBeyond : GoodIn wsX5_copy (va_wsS RX5 112 yX5_isBeyond wsX5_isBeyond) := goodIn_app (goodIn_of _ (by decide +kernel)) ggX5_copy_X5_isBeyond
theorem dX5_copy_0 : decode cX5_copy 0 = .ok (.iload_n 1, 1) := by decide +kernel
theorem dX5_copy_1 : decode cX5_copy 1 = .ok (.invokestatic 116, 3) := by decide +kernel
theorem dX5_copy_4 : decode cX5_copy 4 = .ok (.ifCond .ne 10, 3) := by decide +kernel
theorem dX5_copy_7 : decode cX5_copy 7 = .ok (.iload_n 3, 1) := by decide +kernel
theorem dX5_copy_8 : decode cX5_copy 8 = .ok (.invokestatic 116, 3) := by decide +kernel
theorem dX5_copy_11 : decode cX5_copy 11 = .ok (.ifCond .eq 9, 3) := by decide +kernel
theorem dX5_copy_14 : decode cX5_copy 14 = .ok (.aload_n 0, 1) := by decide +kernel
theorem dX5_copy_15 : decode cX5_copy 15 = .ok (.iconst (-1), 1) := by decide +kernel
theorem dX5_copy_16 : decode cX5_copy 16 = .ok (.invokevirtual 119, 3) := by decide +kernel
theorem dX5_copy_19 : decode cX5_copy 19 = .ok (.ireturn, 1) := by decide +kernel
theorem dX5_copy_20 : decode cX5_copy 20 = .ok (.aload_n 0, 1) := by decide +kernel
theorem dX5_copy_21 : decode cX5_copy 21 = .ok (.getfield 41, 3) := by decide +kernel
theorem dX5_copy_24 : decode cX5_copy 24 = .ok (.iload_n 1, 1) := by decide +kernel
theorem dX5_copy_25 : decode cX5_copy 25 = .ok (.iaload, 1) := by decide +kernel
theorem dX5_copy_26 : decode cX5_copy 26 = .ok (.ifCond .lt 12, 3) := by decide +kernel
theorem dX5_copy_29 : decode cX5_copy 29 = .ok (.aload_n 0, 1) := by decide +kernel
theorem dX5_copy_30 : decode cX5_copy 30 = .ok (.getfield 41, 3) := by decide +kernel
theorem dX5_copy_33 : decode cX5_copy 33 = .ok (.iload_n 3, 1) := by decide +kernel
theorem dX5_copy_34 : decode cX5_copy 34 = .ok (.iaload, 1) := by decide +kernel
theorem dX5_copy_35 : decode cX5_copy 35 = .ok (.ifCond .ge 9, 3) := by decide +kernel
theorem dX5_copy_38 : decode cX5_copy 38 = .ok (.aload_n 0, 1) := by decide +kernel
theorem dX5_copy_39 : decode cX5_copy 39 = .ok (.iconst 1, 1) := by decide +kernel
theorem dX5_copy_40 : decode cX5_copy 40 = .ok (.invokevirtual 108, 3) := by decide +kernel
theorem dX5_copy_43 : decode cX5_copy 43 = .ok (.ireturn, 1) := by decide +kernel
theorem dX5_copy_44 : decode cX5_copy 44 = .ok (.aload_n 0, 1) := by decide +kernel
theorem dX5_copy_45 : decode cX5_copy 45 = .ok (.getfield 44, 3) := by decide +kernel
theorem dX5_copy_48 : decode cX5_copy 48 = .ok (.iload_n 1, 1) := by decide +kernel
theorem dX5_copy_49 : decode cX5_copy 49 = .ok (.iaload, 1) := by decide +kernel
theorem dX5_copy_50 : decode cX5_copy 50 = .ok (.aload_n 0, 1) := by decide +kernel
theorem dX5_copy_51 : decode cX5_copy 51 = .ok (.getfield 44, 3) := by decide +kernel
theorem dX5_copy_54 : decode cX5_copy 54 = .ok (.iload_n 3, 1) := by decide +kernel
theorem dX5_copy_55 : decode cX5_copy 55 = .ok (.iaload, 1) := by decide +kernel
theorem dX5_copy_56 : decode cX5_copy 56 = .ok (.if_icmp .eq 9, 3) := by decide +kernel
theorem dX5_copy_59 : decode cX5_copy 59 = .ok (.aload_n 0, 1) := by decide +kernel
theorem dX5_copy_60 : decode cX5_copy 60 = .ok (.iconst 2, 1) := by decide +kernel
theorem dX5_copy_61 : decode cX5_copy 61 = .ok (.invokevirtual 108, 3) := by decide +kernel
theorem dX5_copy_64 : decode cX5_copy 64 = .ok (.ireturn, 1) := by decide +kernel
theorem dX5_copy_65 : decode cX5_copy 65 = .ok (.iload_n 2, 1) := by decide +kernel
theorem dX5_copy_66 : decode cX5_copy 66 = .ok (.iload 5, 2) := by decide +kernel
theorem dX5_copy_68 : decode cX5_copy 68 = .ok (.i2l, 1) := by decide +kernel
theorem dX5_copy_69 : decode cX5_copy 69 = .ok (.aload_n 0, 1) := by decide +kernel
theorem dX5_copy_70 : decode cX5_copy 70 = .ok (.getfield 41, 3) := by decide +kernel
theorem dX5_copy_73 : decode cX5_copy 73 = .ok (.iload_n 1, 1) := by decide +kernel
theorem dX5_copy_74 : decode cX5_copy 74 = .ok (.iaload, 1) := by decide +kernel
theorem dX5_copy_75 : decode cX5_copy 75 = .ok (.invokestatic 112, 3) := by decide +kernel
theorem dX5_copy_78 : decode cX5_copy 78 = .ok (.ifCond .ne 20, 3) := by decide +kernel
theorem dX5_copy_81 : decode cX5_copy 81 = .ok (.iload 4, 2) := by decide +kernel
theorem dX5_copy_83 : decode cX5_copy 83 = .ok (.iload 5, 2) := by decide +kernel
theorem dX5_copy_85 : decode cX5_copy 85 = .ok (.i2l, 1) := by decide +kernel
theorem dX5_copy_86 : decode cX5_copy 86 = .ok (.aload_n 0, 1) := by decide +kernel
theorem dX5_copy_87 : decode cX5_copy 87 = .ok (.getfield 41, 3) := by decide +kernel
theorem dX5_copy_90 : decode cX5_copy 90 = .ok (.iload_n 3, 1) := by decide +kernel
theorem dX5_copy_91 : decode cX5_copy 91 = .ok (.iaload, 1) := by decide +kernel
theorem dX5_copy_92 : decode cX5_copy 92 = .ok (.invokestatic 112, 3) := by decide +kernel
theorem dX5_copy_95 : decode cX5_copy 95 = .ok (.ifCond .eq 9, 3) := by decide +kernel
theorem dX5_copy_98 : decode cX5_copy 98 = .ok (.aload_n 0, 1) := by decide +kernel
theorem dX5_copy_99 : decode cX5_copy 99 = .ok (.iconst 3, 1) := by decide +kernel
theorem dX5_copy_100 : decode cX5_copy 100 = .ok (.invokevirtual 108, 3) := by decide +kernel
theorem dX5_copy_103 : decode cX5_copy 103 = .ok (.ireturn, 1) := by decide +kernel
theorem dX5_copy_104 : decode cX5_copy 104 = .ok (.iconst 0, 1) := by decide +kernel
theorem dX5_copy_105 : decode cX5_copy 105 = .ok (.istore 6, 2) := by decide +kernel
theorem dX5_copy_107 : decode cX5_copy 107 = .ok (.iload 6, 2) := by decide +kernel
theorem dX5_copy_109 : decode cX5_copy 109 = .ok (.iload 5, 2) := by decide +kernel
theorem dX5_copy_111 : decode cX5_copy 111 = .ok (.if_icmp .ge 30, 3) := by decide +kernel
theorem dX5_copy_114 : decode cX5_copy 114 = .ok (.aload_n 0, 1) := by decide +kernel
theorem dX5_copy_115 : decode cX5_copy 115 = .ok (.getfield 50, 3) := by decide +kernel
theorem dX5_copy_118 : decode cX5_copy 118 = .ok (.iload 6, 2) := by decide +kernel
theorem dX5_copy_120 : decode cX5_copy 120 = .ok (.aload_n 0, 1) := by decide +kernel
theorem dX5_copy_121 : decode cX5_copy 121 = .ok (.getfield 47, 3) := by decide +kernel
theorem dX5_copy_124 : decode cX5_copy 124 = .ok (.bipush 60, 2) := by decide +kernel
theorem dX5_copy_126 : decode cX5_copy 126 = .ok (.iload_n 1, 1) := by decide +kernel
theorem dX5_copy_127 : decode cX5_copy 127 = .ok (.imul, 1) := by decide +kernel
theorem dX5_copy_128 : decode cX5_copy 128 = .ok (.iload_n 2, 1) := by decide +kernel
theorem dX5_copy_129 : decode cX5_copy 129 = .ok (.iadd, 1) := by decide +kernel
theorem dX5_copy_130 : decode cX5_copy 130 = .ok (.iload 6, 2) := by decide +kernel
theorem dX5_copy_132 : decode cX5_copy 132 = .ok (.iadd, 1) := by decide +kernel
theorem dX5_copy_133 : decode cX5_copy 133 = .ok (.iaload, 1) := by decide +kernel
theorem dX5_copy_134 : decode cX5_copy 134 = .ok (.iastore, 1) := by decide +kernel
theorem dX5_copy_135 : decode cX5_copy 135 = .ok (.iinc 6 1, 3) := by decide +kernel
theorem dX5_copy_138 : decode cX5_copy 138 = .ok (.goto (-31), 3) := by decide +kernel
theorem dX5_copy_141 : decode cX5_copy 141 = .ok (.iconst 0, 1) := by decide +kernel
theorem dX5_copy_142 : decode cX5_copy 142 = .ok (.istore 6, 2) := by decide +kernel
theorem dX5_copy_144 : decode cX5_copy 144 = .ok (.iload 6, 2) := by decide +kernel
theorem dX5_copy_146 : decode cX5_copy 146 = .ok (.iload 5, 2) := by decide +kernel
theorem dX5_copy_148 : decode cX5_copy 148 = .ok (.if_icmp .ge 31, 3) := by decide +kernel
theorem dX5_copy_151 : decode cX5_copy 151 = .ok (.aload_n 0, 1) := by decide +kernel
theorem dX5_copy_152 : decode cX5_copy 152 = .ok (.getfield 47, 3) := by decide +kernel
theorem dX5_copy_155 : decode cX5_copy 155 = .ok (.bipush 60, 2) := by decide +kernel
theorem dX5_copy_157 : decode cX5_copy 157 = .ok (.iload_n 3, 1) := by decide +kernel
theorem dX5_copy_158 : decode cX5_copy 158 = .ok (.imul, 1) := by decide +kernel
theorem dX5_copy_159 : decode cX5_copy 159 = .ok (.iload 4, 2) := by decide +kernel
theorem dX5_copy_161 : decode cX5_copy 161 = .ok (.iadd, 1) := by decide +kernel
theorem dX5_copy_162 : decode cX5_copy 162 = .ok (.iload 6, 2) := by decide +kernel
theorem dX5_copy_164 : decode cX5_copy 164 = .ok (.iadd, 1) := by decide +kernel
theorem dX5_copy_165 : decode cX5_copy 165 = .ok (.aload_n 0, 1) := by decide +kernel
theorem dX5_copy_166 : decode cX5_copy 166 = .ok (.getfield 50, 3) := by decide +kernel
theorem dX5_copy_169 : decode cX5_copy 169 = .ok (.iload 6, 2) := by decide +kernel
theorem dX5_copy_171 : decode cX5_copy 171 = .ok (.iaload, 1) := by decide +kernel
theorem dX5_copy_172 : decode cX5_copy 172 = .ok (.iastore, 1) := by decide +kernel
theorem dX5_copy_173 : decode cX5_copy 173 = .ok (.iinc 6 1, 3) := by decide +kernel
theorem dX5_copy_176 : decode cX5_copy 176 = .ok (.goto (-32), 3) := by decide +kernel
theorem dX5_copy_179 : decode cX5_copy 179 = .ok (.aload_n 0, 1) := by decide +kernel
theorem dX5_copy_180 : decode cX5_copy 180 = .ok (.iload 5, 2) := by decide +kernel
theorem dX5_copy_182 : decode cX5_copy 182 = .ok (.invokevirtual 119, 3) := by decide +kernel
theorem dX5_copy_185 : decode cX5_copy 185 = .ok (.ireturn, 1) := by decide +kernel
theorem dX5_traced_0 : decode cX5_traced 0 = .ok (.aload_n 0, 1) := by decide +kernel
theorem dX5_traced_1 : decode cX5_traced 1 = .ok (.bipush 31, 2) := by decide +kernel
theorem dX5_traced_3 : decode cX5_traced 3 = .ok (.aload_n 0, 1) := by decide +kernel
theorem dX5_traced_4 : decode cX5_traced 4 = .ok (.getfield 234, 3) := by decide +kernel
theorem dX5_traced_7 : decode cX5_traced 7 = .ok (.imul, 1) := by decide +kernel
theorem dX5_traced_8 : decode cX5_traced 8 = .ok (.iload_n 1, 1) := by decide +kernel
theorem dX5_traced_9 : decode cX5_traced 9 = .ok (.iadd, 1) := by decide +kernel
theorem dX5_traced_10 : decode cX5_traced 10 = .ok (.putfield 234, 3) := by decide +kernel
theorem dX5_traced_13 : decode cX5_traced 13 = .ok (.return_, 1) := by decide +kernel
set_option maxRecDepth 20000 in
theorem ggX5_tell_X5_noGrass : GoodIn wsX5_tell wsX5_noGrass := goodIn_r _ [7, 1, 8, 9, 10, 6, 11, 12, 13, 14, 15, 16, 17, 18, 19, 20, 26, 27, 28, 29, 30, 31, 32, 33, 34, 35, 36, 37, 38, 39, 40, 41, 42, 43, 44, 45, 46, 47, 48, 49, 50, 51, 52, 53, 54, 55] (by decide +kernel) (by decide +kernel)
set_option maxRecDepth 20000 in
theorem gX5_tell_X5_noGrass : GoodIn wsX5_tell (wsV RX5 152 RX5 yX5_noGrass wsX5_noGrass) := goodIn_app (goodIn_of _ (by decide +kernel)) ggX5_tell_X5_noGrass
set_option maxRecDepth 20000 in
theorem ggX5_tell_X5_traced : GoodIn wsX5_tell wsX5_traced := goodIn_r _ [24, 25, 26, 27, 28, 29, 30, 31, 32, 33, 34, 35, 36, 37, 38, 39, 40, 41, 42, 43, 44, 45, 46, 47, 48, 49, 50, 51, 52, 53, 54, 55] (by decide +kernel) (by decide +kernel)
set_option maxRecDepth 20000 in
theorem gX5_tell_X5_traced : GoodIn wsX5_tell (wsV RX5 237 RX5 yX5_traced wsX5_traced) := goodIn_app (goodIn_of _ (by decide +kernel)) ggX5_tell_X5_traced
theorem dX5_tell_0 : decode cX5_tell 0 = .ok (.aload_n 0, 1) := by decide +kernel
theorem dX5_tell_1 : decode cX5_tell 1 = .ok (.iload_n 1, 1) := by decide +kernel
theorem dX5_tell_2 : decode cX5_tell 2 = .ok (.invokevirtual 152, 3) := by decide +kernel
theorem dX5_tell_5 : decode cX5_tell 5 = .ok (.ifCond .eq 5, 3) := by decide +kernel
theorem dX5_tell_8 : decode cX5_tell 8 = .ok (.iconst (-1), 1) := by decide +kernel
theorem dX5_tell_9 : decode cX5_tell 9 = .ok (.ireturn, 1) := by decide +kernel
theorem dX5_tell_10 : decode cX5_tell 10 = .ok (.aload_n 0, 1) := by decide +kernel
theorem dX5_tell_11 : decode cX5_tell 11 = .ok (.getfield 7, 3) := by decide +kernel
theorem dX5_tell_14 : decode cX5_tell 14 = .ok (.iload_n 1, 1) := by decide +kernel
theorem dX5_tell_15 : decode cX5_tell 15 = .ok (.iaload, 1) := by decide +kernel
theorem dX5_tell_16 : decode cX5_tell 16 = .ok (.istore_n 2, 1) := by decide +kernel
theorem dX5_tell_17 : decode cX5_tell 17 = .ok (.iload_n 2, 1) := by decide +kernel
theorem dX5_tell_18 : decode cX5_tell 18 = .ok (.iconst 2, 1) := by decide +kernel
theorem dX5_tell_19 : decode cX5_tell 19 = .ok (.if_icmp .ne 8, 3) := by decide +kernel
theorem dX5_tell_22 : decode cX5_tell 22 = .ok (.aload_n 0, 1) := by decide +kernel
theorem dX5_tell_23 : decode cX5_tell 23 = .ok (.iconst 3, 1) := by decide +kernel
theorem dX5_tell_24 : decode cX5_tell 24 = .ok (.invokevirtual 237, 3) := by decide +kernel
theorem dX5_tell_27 : decode cX5_tell 27 = .ok (.iload_n 2, 1) := by decide +kernel
theorem dX5_tell_28 : decode cX5_tell 28 = .ok (.ifCond .le 8, 3) := by decide +kernel
theorem dX5_tell_31 : decode cX5_tell 31 = .ok (.aload_n 0, 1) := by decide +kernel
theorem dX5_tell_32 : decode cX5_tell 32 = .ok (.iconst 2, 1) := by decide +kernel
theorem dX5_tell_33 : decode cX5_tell 33 = .ok (.invokevirtual 237, 3) := by decide +kernel
theorem dX5_tell_36 : decode cX5_tell 36 = .ok (.aload_n 0, 1) := by decide +kernel
theorem dX5_tell_37 : decode cX5_tell 37 = .ok (.iconst 1, 1) := by decide +kernel
theorem dX5_tell_38 : decode cX5_tell 38 = .ok (.invokevirtual 237, 3) := by decide +kernel
theorem dX5_tell_41 : decode cX5_tell 41 = .ok (.iload_n 2, 1) := by decide +kernel
theorem dX5_tell_42 : decode cX5_tell 42 = .ok (.iconst 2, 1) := by decide +kernel
theorem dX5_tell_43 : decode cX5_tell 43 = .ok (.if_icmp .ne 8, 3) := by decide +kernel
theorem dX5_tell_46 : decode cX5_tell 46 = .ok (.aload_n 0, 1) := by decide +kernel
theorem dX5_tell_47 : decode cX5_tell 47 = .ok (.iconst 1, 1) := by decide +kernel
theorem dX5_tell_48 : decode cX5_tell 48 = .ok (.invokevirtual 237, 3) := by decide +kernel
theorem dX5_tell_51 : decode cX5_tell 51 = .ok (.aload_n 0, 1) := by decide +kernel
theorem dX5_tell_52 : decode cX5_tell 52 = .ok (.getfield 13, 3) := by decide +kernel
theorem dX5_tell_55 : decode cX5_tell 55 = .ok (.iload_n 1, 1) := by decide +kernel
theorem dX5_tell_56 : decode cX5_tell 56 = .ok (.iaload, 1) := by decide +kernel
theorem dX5_tell_57 : decode cX5_tell 57 = .ok (.istore_n 3, 1) := by decide +kernel
theorem dX5_tell_58 : decode cX5_tell 58 = .ok (.iload_n 2, 1) := by decide +kernel
theorem dX5_tell_59 : decode cX5_tell 59 = .ok (.ifCond .ne 7, 3) := by decide +kernel
theorem dX5_tell_62 : decode cX5_tell 62 = .ok (.iload_n 3, 1) := by decide +kernel
theorem dX5_tell_63 : decode cX5_tell 63 = .ok (.goto 21, 3) := by decide +kernel
theorem dX5_tell_66 : decode cX5_tell 66 = .ok (.iload_n 2, 1) := by decide +kernel
theorem dX5_tell_67 : decode cX5_tell 67 = .ok (.iconst 1, 1) := by decide +kernel
theorem dX5_tell_68 : decode cX5_tell 68 = .ok (.if_icmp .ne 10, 3) := by decide +kernel
theorem dX5_tell_71 : decode cX5_tell 71 = .ok (.iload_n 3, 1) := by decide +kernel
theorem dX5_tell_72 : decode cX5_tell 72 = .ok (.bipush 100, 2) := by decide +kernel
theorem dX5_tell_74 : decode cX5_tell 74 = .ok (.iadd, 1) := by decide +kernel
theorem dX5_tell_75 : decode cX5_tell 75 = .ok (.goto 9, 3) := by decide +kernel
theorem dX5_tell_78 : decode cX5_tell 78 = .ok (.iconst 2, 1) := by decide +kernel
theorem dX5_tell_79 : decode cX5_tell 79 = .ok (.iload_n 3, 1) := by decide +kernel
theorem dX5_tell_80 : decode cX5_tell 80 = .ok (.imul, 1) := by decide +kernel
theorem dX5_tell_81 : decode cX5_tell 81 = .ok (.bipush 100, 2) := by decide +kernel
theorem dX5_tell_83 : decode cX5_tell 83 = .ok (.iadd, 1) := by decide +kernel
theorem dX5_tell_84 : decode cX5_tell 84 = .ok (.ireturn, 1) := by decide +kernel
set_option maxRecDepth 20000 in
theorem ggX5_trod_X5_noGrass : GoodIn wsX5_trod wsX5_noGrass := goodIn_r _ [6, 1, 7, 8, 9, 5, 10, 11, 12, 13, 14, 15, 16, 17, 18, 19, 25, 26, 27, 28, 29, 30, 31, 32, 33, 34, 35, 36, 37, 38, 39, 40, 41, 42, 43, 44, 45, 46, 47, 48, 49, 50, 51, 52, 53, 54] (by decide +kernel) (by decide +kernel)
set_option maxRecDepth 20000 in
theorem gX5_trod_X5_noGrass : GoodIn wsX5_trod (wsV RX5 152 RX5 yX5_noGrass wsX5_noGrass) := goodIn_app (goodIn_of _ (by decide +kernel)) ggX5_trod_X5_noGrass
set_option maxRecDepth 20000 in
theorem ggX5_trod_X5_traced : GoodIn wsX5_trod wsX5_traced := goodIn_r _ [23, 24, 25, 26, 27, 28, 29, 30, 31, 32, 33, 34, 35, 36, 37, 38, 39, 40, 41, 42, 43, 44, 45, 46, 47, 48, 49, 50, 51, 52, 53, 54] (by decide +kernel) (by decide +kernel)
set_option maxRecDepth 20000 in
theorem gX5_trod_X5_traced : GoodIn wsX5_trod (wsV RX5 237 RX5 yX5_traced wsX5_traced) := goodIn_app (goodIn_of _ (by decide +kernel)) ggX5_trod_X5_traced
theorem dX5_trod_0 : decode cX5_trod 0 = .ok (.aload_n 0, 1) := by decide +kernel
theorem dX5_trod_1 : decode cX5_trod 1 = .ok (.iload_n 1, 1) := by decide +kernel
theorem dX5_trod_2 : decode cX5_trod 2 = .ok (.invokevirtual 152, 3) := by decide +kernel
theorem dX5_trod_5 : decode cX5_trod 5 = .ok (.ifCond .eq 5, 3) := by decide +kernel
theorem dX5_trod_8 : decode cX5_trod 8 = .ok (.iconst (-1), 1) := by decide +kernel
theorem dX5_trod_9 : decode cX5_trod 9 = .ok (.ireturn, 1) := by decide +kernel
theorem dX5_trod_10 : decode cX5_trod 10 = .ok (.aload_n 0, 1) := by decide +kernel
theorem dX5_trod_11 : decode cX5_trod 11 = .ok (.aload_n 0, 1) := by decide +kernel
theorem dX5_trod_12 : decode cX5_trod 12 = .ok (.getfield 7, 3) := by decide +kernel
theorem dX5_trod_15 : decode cX5_trod 15 = .ok (.iload_n 1, 1) := by decide +kernel
theorem dX5_trod_16 : decode cX5_trod 16 = .ok (.iaload, 1) := by decide +kernel
theorem dX5_trod_17 : decode cX5_trod 17 = .ok (.iconst 2, 1) := by decide +kernel
theorem dX5_trod_18 : decode cX5_trod 18 = .ok (.if_icmp .ne 7, 3) := by decide +kernel
theorem dX5_trod_21 : decode cX5_trod 21 = .ok (.iconst 5, 1) := by decide +kernel
theorem dX5_trod_22 : decode cX5_trod 22 = .ok (.goto 4, 3) := by decide +kernel
theorem dX5_trod_25 : decode cX5_trod 25 = .ok (.iconst 4, 1) := by decide +kernel
theorem dX5_trod_26 : decode cX5_trod 26 = .ok (.invokevirtual 237, 3) := by decide +kernel
theorem dX5_trod_29 : decode cX5_trod 29 = .ok (.aload_n 0, 1) := by decide +kernel
theorem dX5_trod_30 : decode cX5_trod 30 = .ok (.getfield 7, 3) := by decide +kernel
theorem dX5_trod_33 : decode cX5_trod 33 = .ok (.iload_n 1, 1) := by decide +kernel
theorem dX5_trod_34 : decode cX5_trod 34 = .ok (.iaload, 1) := by decide +kernel
theorem dX5_trod_35 : decode cX5_trod 35 = .ok (.iconst 2, 1) := by decide +kernel
theorem dX5_trod_36 : decode cX5_trod 36 = .ok (.if_icmp .ne 8, 3) := by decide +kernel
theorem dX5_trod_39 : decode cX5_trod 39 = .ok (.bipush 40, 2) := by decide +kernel
theorem dX5_trod_41 : decode cX5_trod 41 = .ok (.goto 4, 3) := by decide +kernel
theorem dX5_trod_44 : decode cX5_trod 44 = .ok (.iload_n 1, 1) := by decide +kernel
theorem dX5_trod_45 : decode cX5_trod 45 = .ok (.ireturn, 1) := by decide +kernel
set_option maxRecDepth 20000 in
theorem ggX5_as_X5_noGrass : GoodIn wsX5_as wsX5_noGrass := goodIn_r _ [7, 2, 8, 9, 10, 6, 11, 12, 13, 14, 15, 16, 17, 18, 19, 20, 30, 31, 32, 33, 34, 35, 36, 37, 38, 39, 40, 41, 42, 43, 44, 45, 46, 47, 48, 49, 50, 51, 52, 53, 54, 55, 56, 57, 58, 59] (by decide +kernel) (by decide +kernel)
set_option maxRecDepth 20000 in
theorem gX5_as_X5_noGrass : GoodIn wsX5_as (wsV RX5 152 RX5 yX5_noGrass wsX5_noGrass) := goodIn_app (goodIn_of _ (by decide +kernel)) ggX5_as_X5_noGrass
set_option maxRecDepth 20000 in
theorem ggX5_as_X5_refused : GoodIn wsX5_as wsX5_refused := goodIn_r _ [24, 25, 30, 31, 32, 33, 34, 35, 36, 37, 38, 39, 40, 41, 42, 43, 44, 45, 46, 47, 48, 49, 50, 51, 52, 53, 54, 55, 56, 57, 58, 59] (by decide +kernel) (by decide +kernel)
set_option maxRecDepth 20000 in
theorem gX5_as_X5_refused : GoodIn wsX5_as (wsV RX5 119 RX5 yX5_refused wsX5_refused) := goodIn_app (goodIn_of _ (by decide +kernel)) ggX5_as_X5_refused
set_option maxRecDepth 20000 in
theorem ggX5_as_X5_in : GoodIn wsX5_as wsX5_in := goodIn_r _ [20] (by decide +kernel) (by decide +kernel)
set_option maxRecDepth 20000 in
theorem gX5_as_X5_in : GoodIn wsX5_as (va_wsS RX5 73 yX5_in wsX5_in) := goodIn_app (goodIn_of _ (by decide +kernel)) ggX5_as_X5_in
set_option maxRecDepth 20000 in
theorem ggX5_as_X5_failed : GoodIn wsX5_as wsX5_failed := goodIn_r _ [29, 25, 30, 31, 32, 33, 34, 35, 36, 37, 38, 39, 40, 41, 42, 43, 44, 45, 46, 47, 48, 49, 50, 51, 52, 53, 54, 55, 56, 57, 58, 59] (by decide +kernel) (by decide +kernel)
set_option maxRecDepth 20000 in
theorem gX5_as_X5_failed : GoodIn wsX5_as (wsV RX5 108 RX5 yX5_failed wsX5_failed) := goodIn_app (goodIn_of _ (by decide +kernel)) ggX5_as_X5_failed
theorem dX5_as_0 : decode cX5_as 0 = .ok (.aload_n 0, 1) := by decide +kernel
theorem dX5_as_1 : decode cX5_as 1 = .ok (.iload_n 1, 1) := by decide +kernel
theorem dX5_as_2 : decode cX5_as 2 = .ok (.invokevirtual 152, 3) := by decide +kernel
theorem dX5_as_5 : decode cX5_as 5 = .ok (.ifCond .eq 9, 3) := by decide +kernel
theorem dX5_as_8 : decode cX5_as 8 = .ok (.aload_n 0, 1) := by decide +kernel
theorem dX5_as_9 : decode cX5_as 9 = .ok (.iconst (-1), 1) := by decide +kernel
theorem dX5_as_10 : decode cX5_as 10 = .ok (.invokevirtual 119, 3) := by decide +kernel
theorem dX5_as_13 : decode cX5_as 13 = .ok (.ireturn, 1) := by decide +kernel
theorem dX5_as_14 : decode cX5_as 14 = .ok (.iload_n 2, 1) := by decide +kernel
theorem dX5_as_15 : decode cX5_as 15 = .ok (.i2l, 1) := by decide +kernel
theorem dX5_as_16 : decode cX5_as 16 = .ok (.lconst 0, 1) := by decide +kernel
theorem dX5_as_17 : decode cX5_as 17 = .ok (.ldc2_w 122, 3) := by decide +kernel
theorem dX5_as_20 : decode cX5_as 20 = .ok (.invokestatic 73, 3) := by decide +kernel
theorem dX5_as_23 : decode cX5_as 23 = .ok (.ifCond .ne 10, 3) := by decide +kernel
theorem dX5_as_26 : decode cX5_as 26 = .ok (.aload_n 0, 1) := by decide +kernel
theorem dX5_as_27 : decode cX5_as 27 = .ok (.bipush (-2), 2) := by decide +kernel
theorem dX5_as_29 : decode cX5_as 29 = .ok (.invokevirtual 119, 3) := by decide +kernel
theorem dX5_as_32 : decode cX5_as 32 = .ok (.ireturn, 1) := by decide +kernel
theorem dX5_as_33 : decode cX5_as 33 = .ok (.aload_n 0, 1) := by decide +kernel
theorem dX5_as_34 : decode cX5_as 34 = .ok (.getfield 7, 3) := by decide +kernel
theorem dX5_as_37 : decode cX5_as 37 = .ok (.iload_n 1, 1) := by decide +kernel
theorem dX5_as_38 : decode cX5_as 38 = .ok (.iaload, 1) := by decide +kernel
theorem dX5_as_39 : decode cX5_as 39 = .ok (.iload_n 2, 1) := by decide +kernel
theorem dX5_as_40 : decode cX5_as 40 = .ok (.if_icmp .lt 11, 3) := by decide +kernel
theorem dX5_as_43 : decode cX5_as 43 = .ok (.aload_n 0, 1) := by decide +kernel
theorem dX5_as_44 : decode cX5_as 44 = .ok (.iconst 1, 1) := by decide +kernel
theorem dX5_as_45 : decode cX5_as 45 = .ok (.invokevirtual 119, 3) := by decide +kernel
theorem dX5_as_48 : decode cX5_as 48 = .ok (.goto 8, 3) := by decide +kernel
theorem dX5_as_51 : decode cX5_as 51 = .ok (.aload_n 0, 1) := by decide +kernel
theorem dX5_as_52 : decode cX5_as 52 = .ok (.iconst 2, 1) := by decide +kernel
theorem dX5_as_53 : decode cX5_as 53 = .ok (.invokevirtual 108, 3) := by decide +kernel
theorem dX5_as_56 : decode cX5_as 56 = .ok (.ireturn, 1) := by decide +kernel
theorem dX5_trace_0 : decode cX5_trace 0 = .ok (.aload_n 0, 1) := by decide +kernel
theorem dX5_trace_1 : decode cX5_trace 1 = .ok (.getfield 234, 3) := by decide +kernel
theorem dX5_trace_4 : decode cX5_trace 4 = .ok (.ireturn, 1) := by decide +kernel
theorem dX5_fault_0 : decode cX5_fault 0 = .ok (.aload_n 0, 1) := by decide +kernel
theorem dX5_fault_1 : decode cX5_fault 1 = .ok (.getfield 55, 3) := by decide +kernel
theorem dX5_fault_4 : decode cX5_fault 4 = .ok (.ireturn, 1) := by decide +kernel
set_option maxRecDepth 20000 in
theorem ggX5_many_X5_cells : GoodIn wsX5_many wsX5_cells := goodIn_r _ [9, 10, 1, 16, 17, 18, 19, 20, 21, 22, 23, 24, 25, 26, 27, 28, 29, 30, 31, 32, 33, 34, 35, 36, 37, 38, 39, 40, 41, 42, 43, 44, 45] (by decide +kernel) (by decide +kernel)
set_option maxRecDepth 20000 in
theorem gX5_many_X5_cells : GoodIn wsX5_many (wsV RX5 69 RX5 yX5_cells wsX5_cells) := goodIn_app (goodIn_of _ (by decide +kernel)) ggX5_many_X5_cells
set_option maxRecDepth 20000 in
theorem ggX5_many_X5_thornsNow : GoodIn wsX5_many wsX5_thornsNow := goodIn_r _ [14, 15, 5, 6, 7, 8, 9, 10, 1, 16, 17, 18, 19, 20, 21, 22, 23, 24, 25, 26, 27, 28, 29, 30, 31, 32, 33, 34, 35, 36, 37, 38, 39, 40, 41, 42, 43, 44, 45] (by decide +kernel) (by decide +kernel)
set_option maxRecDepth 20000 in
theorem gX5_many_X5_thornsNow : GoodIn wsX5_many (wsV RX5 141 RX5 yX5_thornsNow wsX5_thornsNow) := goodIn_app (goodIn_of _ (by decide +kernel)) ggX5_many_X5_thornsNow
theorem dX5_many_0 : decode cX5_many 0 = .ok (.iload_n 1, 1) := by decide +kernel
theorem dX5_many_1 : decode cX5_many 1 = .ok (.tableswitch 69 0 5 #[39, 44, 49, 54, 59, 64], 39) := by decide +kernel
theorem dX5_many_40 : decode cX5_many 40 = .ok (.aload_n 0, 1) := by decide +kernel
theorem dX5_many_41 : decode cX5_many 41 = .ok (.invokevirtual 69, 3) := by decide +kernel
theorem dX5_many_44 : decode cX5_many 44 = .ok (.ireturn, 1) := by decide +kernel
theorem dX5_many_45 : decode cX5_many 45 = .ok (.aload_n 0, 1) := by decide +kernel
theorem dX5_many_46 : decode cX5_many 46 = .ok (.getfield 66, 3) := by decide +kernel
theorem dX5_many_49 : decode cX5_many 49 = .ok (.ireturn, 1) := by decide +kernel
theorem dX5_many_50 : decode cX5_many 50 = .ok (.aload_n 0, 1) := by decide +kernel
theorem dX5_many_51 : decode cX5_many 51 = .ok (.getfield 132, 3) := by decide +kernel
theorem dX5_many_54 : decode cX5_many 54 = .ok (.ireturn, 1) := by decide +kernel
theorem dX5_many_55 : decode cX5_many 55 = .ok (.aload_n 0, 1) := by decide +kernel
theorem dX5_many_56 : decode cX5_many 56 = .ok (.getfield 135, 3) := by decide +kernel
theorem dX5_many_59 : decode cX5_many 59 = .ok (.ireturn, 1) := by decide +kernel
theorem dX5_many_60 : decode cX5_many 60 = .ok (.aload_n 0, 1) := by decide +kernel
theorem dX5_many_61 : decode cX5_many 61 = .ok (.invokevirtual 141, 3) := by decide +kernel
theorem dX5_many_64 : decode cX5_many 64 = .ok (.ireturn, 1) := by decide +kernel
theorem dX5_many_65 : decode cX5_many 65 = .ok (.aload_n 0, 1) := by decide +kernel
theorem dX5_many_66 : decode cX5_many 66 = .ok (.getfield 138, 3) := by decide +kernel
theorem dX5_many_69 : decode cX5_many 69 = .ok (.ireturn, 1) := by decide +kernel
theorem dX5_many_70 : decode cX5_many 70 = .ok (.bipush (-2), 2) := by decide +kernel
theorem dX5_many_72 : decode cX5_many 72 = .ok (.ireturn, 1) := by decide +kernel
end
section
/-! ===== own kit: contracts over a known world; calls; returns ===== -/
/-! the words by which nest mates link each other -/
def nwW : List Cond := [.fieldLinkNest RX4 228 "ShornHill$Land" "wide" "I" "ShornHill", .fieldLinkNest RX4 110 "ShornHill$Land" "paceNow" "I" "ShornHill", .fieldLinkNest RX4 113 "ShornHill$Land" "breadthNow" "I" "ShornHill", .fieldLinkNest RX4 91 "ShornHill$Land" "kind" "[I" "ShornHill", .fieldLinkNest RX4 97 "ShornHill$Land" "eaten" "[I" "ShornHill", .fieldLinkNest RX4 76 "ShornHill$Readings" "count" "I" "ShornHill", .fieldLinkNest RX4 259 "ShornHill$Shears" "tried" "[I" "ShornHill", .fieldLinkNest RX4 140 "ShornHill$Shears" "best" "[I" "ShornHill", .fieldLinkNest RX4 246 "ShornHill$Shears" "most" "I" "ShornHill", .fieldLinkNest RX4 249 "ShornHill$Shears" "goal" "I" "ShornHill", .fieldLinkNest RX4 196 "ShornHill$Sheet" "hasRow" "Z" "ShornHill", .fieldLinkNest RX4 206 "ShornHill$Sheet" "lane" "I" "ShornHill", .fieldLinkNest RX4 64 "ShornHill$Sheet" "row" "[I" "ShornHill", .methodLinkNest RX4 13 yX0_init "ShornHill", .methodLinkNest RX4 20 yX1_init "ShornHill", .methodLinkNest RX4 27 yX2_init "ShornHill", .methodLinkNest RX4 45 yX3_init "ShornHill", .methodLinkNest RX4 53 yX3_faultAs "ShornHill", .methodLinkNest RX4 57 yX3_spans "ShornHill", .methodLinkNest RX4 72 yX0_grow "ShornHill", .methodLinkNest RX0 42 yX4_kindOf "ShornHill", .methodLinkNest RX4 79 yX0_softCells "ShornHill", .methodLinkNest RX0 72 yX4_bit "ShornHill", .methodLinkNest RX4 88 yX0_has "ShornHill", .methodLinkNest RX4 94 yX0_weekly "ShornHill", .methodLinkNest RX4 100 yX0_isSoft "ShornHill", .methodLinkNest RX4 106 yX0_stands "ShornHill", .methodLinkNest RX4 119 yX0_inches "ShornHill", .methodLinkNest RX4 123 yX0_ripeCells "ShornHill", .methodLinkNest RX4 126 yX0_isRipe "ShornHill", .methodLinkNest RX4 240 yX0_beside "ShornHill", .methodLinkNest RX4 243 yX0_inchesOfAll "ShornHill", .methodLinkNest RX0 62 yX4_isIn "ShornHill", .methodLinkNest RX4 256 yX2_keep "ShornHill", .methodLinkNest RX4 143 yX0_cells "ShornHill", .methodLinkNest RX4 149 yX0_isAllRipe "ShornHill", .methodLinkNest RX4 161 yX1_add "ShornHill", .methodLinkNest RX4 165 yX1_areSo "ShornHill", .methodLinkNest RX1 25 yX0_inches "ShornHill", .methodLinkNest RX4 192 yX3_renew "ShornHill", .methodLinkNest RX4 200 yX3_holds "ShornHill", .methodLinkNest RX4 203 yX3_cut "ShornHill"]
def nwB : Cond → Bool
  | .fieldLinkNest .. => true
  | .methodLinkNest .. => true
  | _ => false
theorem nwW_B : ∀ w ∈ nwW, nwB w = true := by decide +kernel
theorem nwW_in : ∀ w ∈ nwW, w ∈ lw_tbl := by decide +kernel
theorem nw_on {w : Cond} (h : nwB w = true) : w.onTables = true := by
  unfold nwB at h
  split at h
  · rfl
  · rfl
  · cases h
theorem nw_warm {w : Cond} {s U : State} (hb : nwB w = true) (hW : s.WarmedH U.vm) (h : va_Nw w s) : va_Nw w U := by
  unfold nwB at hb
  split at hb
  · exact va_Nw.warmF hW h
  · exact va_Nw.warmM hW h
  · cases hb
/-- what is known of the tables at a state: classes, array classes, the nest mates' words -/
def Kn (D : va_G) (tys : List (ClassId × FieldType)) (U : State) : Prop := va_K D vwCl tys U ∧ ∀ w ∈ nwW, va_Nw w U
theorem Kn.warm {D : va_G} {tys : List (ClassId × FieldType)} {s U : State} (h : Kn D tys s) (hW : s.WarmedH U.vm) : Kn D tys U :=
  ⟨va_K.moved hW.alike h.1, fun w hw => nw_warm (nwW_B w hw) hW (h.2 w hw)⟩
theorem Kn.call {D : va_G} {tys : List (ClassId × FieldType)} {U : State} {g : JFrame} {mk : MethodId} {a : Array Value} (h : Kn D tys U) : Kn D tys (U.calling g mk a) :=
  ⟨va_K.moved (u := U) (U := U.calling g mk a) (Vm.Alike.refl U.vm) h.1, fun w hw => va_Nw.same (u := U) (U := U.calling g mk a) (nw_on (nwW_B w hw)) rfl (h.2 w hw)⟩
theorem nw_X4_228 {D : va_G} {tys : List (ClassId × FieldType)} {s : State} (h : Kn D tys s) : va_Nw (.fieldLinkNest RX4 228 "ShornHill$Land" "wide" "I" "ShornHill") s := h.2 _ (List.mem_of_getElem? (i := 0) rfl)
theorem nw_X4_110 {D : va_G} {tys : List (ClassId × FieldType)} {s : State} (h : Kn D tys s) : va_Nw (.fieldLinkNest RX4 110 "ShornHill$Land" "paceNow" "I" "ShornHill") s := h.2 _ (List.mem_of_getElem? (i := 1) rfl)
theorem nw_X4_113 {D : va_G} {tys : List (ClassId × FieldType)} {s : State} (h : Kn D tys s) : va_Nw (.fieldLinkNest RX4 113 "ShornHill$Land" "breadthNow" "I" "ShornHill") s := h.2 _ (List.mem_of_getElem? (i := 2) rfl)
theorem nw_X4_91 {D : va_G} {tys : List (ClassId × FieldType)} {s : State} (h : Kn D tys s) : va_Nw (.fieldLinkNest RX4 91 "ShornHill$Land" "kind" "[I" "ShornHill") s := h.2 _ (List.mem_of_getElem? (i := 3) rfl)
theorem nw_X4_97 {D : va_G} {tys : List (ClassId × FieldType)} {s : State} (h : Kn D tys s) : va_Nw (.fieldLinkNest RX4 97 "ShornHill$Land" "eaten" "[I" "ShornHill") s := h.2 _ (List.mem_of_getElem? (i := 4) rfl)
theorem nw_X4_76 {D : va_G} {tys : List (ClassId × FieldType)} {s : State} (h : Kn D tys s) : va_Nw (.fieldLinkNest RX4 76 "ShornHill$Readings" "count" "I" "ShornHill") s := h.2 _ (List.mem_of_getElem? (i := 5) rfl)
theorem nw_X4_259 {D : va_G} {tys : List (ClassId × FieldType)} {s : State} (h : Kn D tys s) : va_Nw (.fieldLinkNest RX4 259 "ShornHill$Shears" "tried" "[I" "ShornHill") s := h.2 _ (List.mem_of_getElem? (i := 6) rfl)
theorem nw_X4_140 {D : va_G} {tys : List (ClassId × FieldType)} {s : State} (h : Kn D tys s) : va_Nw (.fieldLinkNest RX4 140 "ShornHill$Shears" "best" "[I" "ShornHill") s := h.2 _ (List.mem_of_getElem? (i := 7) rfl)
theorem nw_X4_246 {D : va_G} {tys : List (ClassId × FieldType)} {s : State} (h : Kn D tys s) : va_Nw (.fieldLinkNest RX4 246 "ShornHill$Shears" "most" "I" "ShornHill") s := h.2 _ (List.mem_of_getElem? (i := 8) rfl)
theorem nw_X4_249 {D : va_G} {tys : List (ClassId × FieldType)} {s : State} (h : Kn D tys s) : va_Nw (.fieldLinkNest RX4 249 "ShornHill$Shears" "goal" "I" "ShornHill") s := h.2 _ (List.mem_of_getElem? (i := 9) rfl)
theorem nw_X4_196 {D : va_G} {tys : List (ClassId × FieldType)} {s : State} (h : Kn D tys s) : va_Nw (.fieldLinkNest RX4 196 "ShornHill$Sheet" "hasRow" "Z" "ShornHill") s := h.2 _ (List.mem_of_getElem? (i := 10) rfl)
theorem nw_X4_206 {D : va_G} {tys : List (ClassId × FieldType)} {s : State} (h : Kn D tys s) : va_Nw (.fieldLinkNest RX4 206 "ShornHill$Sheet" "lane" "I" "ShornHill") s := h.2 _ (List.mem_of_getElem? (i := 11) rfl)
theorem nw_X4_64 {D : va_G} {tys : List (ClassId × FieldType)} {s : State} (h : Kn D tys s) : va_Nw (.fieldLinkNest RX4 64 "ShornHill$Sheet" "row" "[I" "ShornHill") s := h.2 _ (List.mem_of_getElem? (i := 12) rfl)
theorem nw_X4_13 {D : va_G} {tys : List (ClassId × FieldType)} {s : State} (h : Kn D tys s) : va_Nw (.methodLinkNest RX4 13 yX0_init "ShornHill") s := h.2 _ (List.mem_of_getElem? (i := 13) rfl)
theorem nw_X4_20 {D : va_G} {tys : List (ClassId × FieldType)} {s : State} (h : Kn D tys s) : va_Nw (.methodLinkNest RX4 20 yX1_init "ShornHill") s := h.2 _ (List.mem_of_getElem? (i := 14) rfl)
theorem nw_X4_27 {D : va_G} {tys : List (ClassId × FieldType)} {s : State} (h : Kn D tys s) : va_Nw (.methodLinkNest RX4 27 yX2_init "ShornHill") s := h.2 _ (List.mem_of_getElem? (i := 15) rfl)
theorem nw_X4_45 {D : va_G} {tys : List (ClassId × FieldType)} {s : State} (h : Kn D tys s) : va_Nw (.methodLinkNest RX4 45 yX3_init "ShornHill") s := h.2 _ (List.mem_of_getElem? (i := 16) rfl)
theorem nw_X4_53 {D : va_G} {tys : List (ClassId × FieldType)} {s : State} (h : Kn D tys s) : va_Nw (.methodLinkNest RX4 53 yX3_faultAs "ShornHill") s := h.2 _ (List.mem_of_getElem? (i := 17) rfl)
theorem nw_X4_57 {D : va_G} {tys : List (ClassId × FieldType)} {s : State} (h : Kn D tys s) : va_Nw (.methodLinkNest RX4 57 yX3_spans "ShornHill") s := h.2 _ (List.mem_of_getElem? (i := 18) rfl)
theorem nw_X4_72 {D : va_G} {tys : List (ClassId × FieldType)} {s : State} (h : Kn D tys s) : va_Nw (.methodLinkNest RX4 72 yX0_grow "ShornHill") s := h.2 _ (List.mem_of_getElem? (i := 19) rfl)
theorem nw_X0_42 {D : va_G} {tys : List (ClassId × FieldType)} {s : State} (h : Kn D tys s) : va_Nw (.methodLinkNest RX0 42 yX4_kindOf "ShornHill") s := h.2 _ (List.mem_of_getElem? (i := 20) rfl)
theorem nw_X4_79 {D : va_G} {tys : List (ClassId × FieldType)} {s : State} (h : Kn D tys s) : va_Nw (.methodLinkNest RX4 79 yX0_softCells "ShornHill") s := h.2 _ (List.mem_of_getElem? (i := 21) rfl)
theorem nw_X0_72 {D : va_G} {tys : List (ClassId × FieldType)} {s : State} (h : Kn D tys s) : va_Nw (.methodLinkNest RX0 72 yX4_bit "ShornHill") s := h.2 _ (List.mem_of_getElem? (i := 22) rfl)
theorem nw_X4_88 {D : va_G} {tys : List (ClassId × FieldType)} {s : State} (h : Kn D tys s) : va_Nw (.methodLinkNest RX4 88 yX0_has "ShornHill") s := h.2 _ (List.mem_of_getElem? (i := 23) rfl)
theorem nw_X4_94 {D : va_G} {tys : List (ClassId × FieldType)} {s : State} (h : Kn D tys s) : va_Nw (.methodLinkNest RX4 94 yX0_weekly "ShornHill") s := h.2 _ (List.mem_of_getElem? (i := 24) rfl)
theorem nw_X4_100 {D : va_G} {tys : List (ClassId × FieldType)} {s : State} (h : Kn D tys s) : va_Nw (.methodLinkNest RX4 100 yX0_isSoft "ShornHill") s := h.2 _ (List.mem_of_getElem? (i := 25) rfl)
theorem nw_X4_106 {D : va_G} {tys : List (ClassId × FieldType)} {s : State} (h : Kn D tys s) : va_Nw (.methodLinkNest RX4 106 yX0_stands "ShornHill") s := h.2 _ (List.mem_of_getElem? (i := 26) rfl)
theorem nw_X4_119 {D : va_G} {tys : List (ClassId × FieldType)} {s : State} (h : Kn D tys s) : va_Nw (.methodLinkNest RX4 119 yX0_inches "ShornHill") s := h.2 _ (List.mem_of_getElem? (i := 27) rfl)
theorem nw_X4_123 {D : va_G} {tys : List (ClassId × FieldType)} {s : State} (h : Kn D tys s) : va_Nw (.methodLinkNest RX4 123 yX0_ripeCells "ShornHill") s := h.2 _ (List.mem_of_getElem? (i := 28) rfl)
theorem nw_X4_126 {D : va_G} {tys : List (ClassId × FieldType)} {s : State} (h : Kn D tys s) : va_Nw (.methodLinkNest RX4 126 yX0_isRipe "ShornHill") s := h.2 _ (List.mem_of_getElem? (i := 29) rfl)
theorem nw_X4_240 {D : va_G} {tys : List (ClassId × FieldType)} {s : State} (h : Kn D tys s) : va_Nw (.methodLinkNest RX4 240 yX0_beside "ShornHill") s := h.2 _ (List.mem_of_getElem? (i := 30) rfl)
theorem nw_X4_243 {D : va_G} {tys : List (ClassId × FieldType)} {s : State} (h : Kn D tys s) : va_Nw (.methodLinkNest RX4 243 yX0_inchesOfAll "ShornHill") s := h.2 _ (List.mem_of_getElem? (i := 31) rfl)
theorem nw_X0_62 {D : va_G} {tys : List (ClassId × FieldType)} {s : State} (h : Kn D tys s) : va_Nw (.methodLinkNest RX0 62 yX4_isIn "ShornHill") s := h.2 _ (List.mem_of_getElem? (i := 32) rfl)
theorem nw_X4_256 {D : va_G} {tys : List (ClassId × FieldType)} {s : State} (h : Kn D tys s) : va_Nw (.methodLinkNest RX4 256 yX2_keep "ShornHill") s := h.2 _ (List.mem_of_getElem? (i := 33) rfl)
theorem nw_X4_143 {D : va_G} {tys : List (ClassId × FieldType)} {s : State} (h : Kn D tys s) : va_Nw (.methodLinkNest RX4 143 yX0_cells "ShornHill") s := h.2 _ (List.mem_of_getElem? (i := 34) rfl)
theorem nw_X4_149 {D : va_G} {tys : List (ClassId × FieldType)} {s : State} (h : Kn D tys s) : va_Nw (.methodLinkNest RX4 149 yX0_isAllRipe "ShornHill") s := h.2 _ (List.mem_of_getElem? (i := 35) rfl)
theorem nw_X4_161 {D : va_G} {tys : List (ClassId × FieldType)} {s : State} (h : Kn D tys s) : va_Nw (.methodLinkNest RX4 161 yX1_add "ShornHill") s := h.2 _ (List.mem_of_getElem? (i := 36) rfl)
theorem nw_X4_165 {D : va_G} {tys : List (ClassId × FieldType)} {s : State} (h : Kn D tys s) : va_Nw (.methodLinkNest RX4 165 yX1_areSo "ShornHill") s := h.2 _ (List.mem_of_getElem? (i := 37) rfl)
theorem nw_X1_25 {D : va_G} {tys : List (ClassId × FieldType)} {s : State} (h : Kn D tys s) : va_Nw (.methodLinkNest RX1 25 yX0_inches "ShornHill") s := h.2 _ (List.mem_of_getElem? (i := 38) rfl)
theorem nw_X4_192 {D : va_G} {tys : List (ClassId × FieldType)} {s : State} (h : Kn D tys s) : va_Nw (.methodLinkNest RX4 192 yX3_renew "ShornHill") s := h.2 _ (List.mem_of_getElem? (i := 39) rfl)
theorem nw_X4_200 {D : va_G} {tys : List (ClassId × FieldType)} {s : State} (h : Kn D tys s) : va_Nw (.methodLinkNest RX4 200 yX3_holds "ShornHill") s := h.2 _ (List.mem_of_getElem? (i := 40) rfl)
theorem nw_X4_203 {D : va_G} {tys : List (ClassId × FieldType)} {s : State} (h : Kn D tys s) : va_Nw (.methodLinkNest RX4 203 yX3_cut "ShornHill") s := h.2 _ (List.mem_of_getElem? (i := 41) rfl)
/-- a start: the world stands, the tables are known -/
def P0 (D : va_G) (tys : List (ClassId × FieldType)) (av : List Value) (ws : va_W) : Array Value → State → Prop := va_Pc av (fun U => va_P D vwCl ws U.heap ∧ Kn D tys U)
def P1 (D : va_G) (tys : List (ClassId × FieldType)) (av : List Value) (ws : va_W) (sz : Nat) : Array Value → State → Prop := va_Pc av (fun U => U.heap.size = sz ∧ va_P D vwCl ws U.heap ∧ Kn D tys U ∧ va_D (fun _ => True) ws)
/-- a method that writes nothing -/
def RG (l : Launch) (y : MethodName) (w : List Cond) (fr lo : Nat) (D : va_G) (tys : List (ClassId × FieldType)) (av : List Value) (ws : va_W) (Qa : Array Value → State → Outcome → State → Prop) : Prop :=
  Met l y w { frames := fr, cells := 0, slots := 0, locals := lo } (P0 D tys av ws) Qa 0 0 (fun _ => False)
/-- a method that may write its world, and make cells -/
def MG (l : Launch) (y : MethodName) (w : List Cond) (fr lo mc ms : Nat) (D : va_G) (tys : List (ClassId × FieldType)) (av : List Value) (ws : va_W) (Qa : (Nat → Prop) → Array Value → State → Outcome → State → Prop) : Prop :=
  ∀ sz : Nat, Met l y w { frames := fr, cells := mc, slots := ms, locals := lo } (P1 D tys av ws sz) (Qa (va_A ws sz)) mc ms (va_A ws sz)
def QI (D : va_G) (post : Int32 → va_W → Prop) (A : Nat → Prop) : Array Value → State → Outcome → State → Prop := va_Qi post (fun w1 t => va_P D vwCl w1 t.heap ∧ va_D A w1) A
def QL (D : va_G) (post : Int64 → va_W → Prop) (A : Nat → Prop) : Array Value → State → Outcome → State → Prop := va_Ql post (fun w1 t => va_P D vwCl w1 t.heap ∧ va_D A w1) A
def QV (D : va_G) (post : va_W → Prop) (A : Nat → Prop) : Array Value → State → Outcome → State → Prop := va_Qv post (fun w1 t => va_P D vwCl w1 t.heap ∧ va_D A w1) A
def SV (post : Prop) : Array Value → State → Outcome → State → Prop := fun _ st oc t => oc = .returned none ∧ post ∧ t.heap = st.heap
section KITA
variable {l : Launch} {y : MethodName} {w w' : List Cond} {cc : ByteArray} {maxL fr lo mc ms : Nat} {ret : Option FieldType} {D : va_G} {tys : List (ClassId × FieldType)} {av : List Value} {ws : va_W}
theorem RG.of {Qa : Array Value → State → Outcome → State → Prop} (hy : plainName y.cls = true) (hw : w = Cond.code y cc maxL ret :: w') (hn : (lg_sl av).length ≤ maxL)
    (body : ∀ (p : Program) (e : Env) (s : State) (m : MethodId) (below : List Frame) (meth : Method) (c : Code), p.tables.exec = Jvm.exec → c.code = cc → c.maxLocals = maxL → meth.sig.returnType = ret → (∀ x ∈ w, x.before av.toArray s = true) → s.vm.findClass y.cls = some m.cls → meth.locks = false → va_P D vwCl ws s.heap → Kn D tys s → ∀ ls : Array Slot, lv_has ls maxL (lv_args 0 av) →
      W p l e { frames := fr, cells := 0, slots := 0, locals := lo } s m av.toArray below meth c s.heap [] 0 0 (MQ below Qa av.toArray s 0 0 (fun _ => False)) (F0 m 0 ls [])) : RG l y w fr lo D tys av ws Qa := by
  refine Met.ofW (cc := cc) (maxL := maxL) (ret := ret) hy hw ?_
  intro p e s m args below meth c s₁ B hml hv
  obtain ⟨rfl, hP, hK⟩ := hv
  have hl := lv_entry av (n := maxL) hn
  rw [lg_entry_eq]
  exact body p e s m below meth c B.exec B.bytes hml B.returns (atoms_spec (ws := w) B.pre) (findClass_of_methodNamed B.named) B.notSynchronized hP hK _ hl
theorem MG.of {Qa : (Nat → Prop) → Array Value → State → Outcome → State → Prop} (hy : plainName y.cls = true) (hw : w = Cond.code y cc maxL ret :: w') (hn : (lg_sl av).length ≤ maxL)
    (body : ∀ (p : Program) (e : Env) (s : State) (m : MethodId) (below : List Frame) (meth : Method) (c : Code), p.tables.exec = Jvm.exec → c.code = cc → c.maxLocals = maxL → meth.sig.returnType = ret → (∀ x ∈ w, x.before av.toArray s = true) → s.vm.findClass y.cls = some m.cls → meth.locks = false → meth.name = y.name → ∀ A : Nat → Prop, (∀ q : Nat, s.heap.size ≤ q → A q) → va_P D vwCl ws s.heap → Kn D tys s → va_D A ws → va_S A s.heap s.heap [] → ∀ ls : Array Slot, lv_has ls maxL (lv_args 0 av) →
      W p l e { frames := fr, cells := mc, slots := ms, locals := lo } s m av.toArray below meth c s.heap [] 0 0 (MQ below (Qa A) av.toArray s mc ms A) (F0 m 0 ls [])) : MG l y w fr lo mc ms D tys av ws Qa := by
  intro sz
  refine Met.ofW (cc := cc) (maxL := maxL) (ret := ret) hy hw ?_
  intro p e s m args below meth c s₁ B hml hv
  obtain ⟨rfl, hsz, hP, hK, hD0⟩ := hv
  have hl := lv_entry av (n := maxL) hn
  rw [lg_entry_eq]
  subst hsz
  exact body p e s m below meth c B.exec B.bytes hml B.returns (atoms_spec (ws := w) B.pre) (findClass_of_methodNamed B.named) B.notSynchronized (name_of_methodNamed B.named B.method).1 (va_A ws s.heap.size) (fun q h => Or.inr h) hP hK (hD0.self (sz := s.heap.size)) va_S.rf _ hl
end KITA
section KITB
variable {p : Program} {l : Launch} {e : Env} {R : Room} {s : State} {m : MethodId} {args : Array Value} {below : List Frame} {meth : Method} {c : Code} {H : Heap} {locs : List Loc} {cells slots : Nat} {Q : State → Prop}
variable {pc : Nat} {ls : Array Slot} {rest st : List Value} {D : va_G} {tys : List (ClassId × FieldType)} {A : Nat → Prop} {H0 : Heap} {cc : ByteArray}
-- returns
theorem ri_ret {post : Int32 → Prop} {v : Int32} (hx : p.tables.exec = Jvm.exec) (hb : c.code = cc) (hr : meth.sig.returnType = some .int) (hlk : meth.locks = false) (d : decode cc pc = .ok (.ireturn, 1)) (hq : post v) :
    W p l e R s m args below meth c s.heap [] 0 0 (MQ below (vp_Si post) args s 0 0 (fun _ => False)) (F0 m pc ls [.int v]) :=
  W.iret hx hb hr (fun t ht _ => ⟨v, rfl, hq, ht⟩) (fun q h => by cases h) d hlk
theorem rz_ret {post : Int32 → Prop} {v : Int32} (hx : p.tables.exec = Jvm.exec) (hb : c.code = cc) (hr : meth.sig.returnType = some .boolean) (hlk : meth.locks = false) (d : decode cc pc = .ok (.ireturn, 1)) (hn : narrow .boolean (.int v) = .int v) (hq : post v) :
    W p l e R s m args below meth c s.heap [] 0 0 (MQ below (vp_Si post) args s 0 0 (fun _ => False)) (F0 m pc ls [.int v]) :=
  W.zret hx hb hr hn (fun t ht _ => ⟨v, rfl, hq, ht⟩) (fun q h => by cases h) d hlk
theorem rl_ret {post : Int64 → Prop} {v : Int64} (hx : p.tables.exec = Jvm.exec) (hb : c.code = cc) (hr : meth.sig.returnType = some .long) (hlk : meth.locks = false) (d : decode cc pc = .ok (.lreturn, 1)) (hq : post v) :
    W p l e R s m args below meth c s.heap [] 0 0 (MQ below (vp_Sl post) args s 0 0 (fun _ => False)) (F0 m pc ls [.long v]) :=
  W.lret hx hb hr (fun t ht _ => ⟨v, rfl, hq, ht⟩) (fun q h => by cases h) d hlk
theorem mi_ret {post : Int32 → va_W → Prop} {v : Int32} {w1 : va_W} (hx : p.tables.exec = Jvm.exec) (hb : c.code = cc) (hr : meth.sig.returnType = some .int) (hlk : meth.locks = false) (hP : va_P D vwCl w1 H) (hD : va_D A w1) (hS : va_S A s.heap H locs) (d : decode cc pc = .ok (.ireturn, 1)) (hq : post v w1) :
    W p l e R s m args below meth c H locs cells slots (MQ below (QI D post A) args s cells slots A) (F0 m pc ls [.int v]) :=
  W.iret hx hb hr (fun t ht _ => ⟨⟨v, w1, rfl, hq, by rw [ht]; exact hP, hD⟩, hS.F ht⟩) hS.2.2 d hlk
theorem mz_ret {post : Int32 → va_W → Prop} {v : Int32} {w1 : va_W} (hx : p.tables.exec = Jvm.exec) (hb : c.code = cc) (hr : meth.sig.returnType = some .boolean) (hlk : meth.locks = false) (hP : va_P D vwCl w1 H) (hD : va_D A w1) (hS : va_S A s.heap H locs) (d : decode cc pc = .ok (.ireturn, 1)) (hn : narrow .boolean (.int v) = .int v) (hq : post v w1) :
    W p l e R s m args below meth c H locs cells slots (MQ below (QI D post A) args s cells slots A) (F0 m pc ls [.int v]) :=
  W.zret hx hb hr hn (fun t ht _ => ⟨⟨v, w1, rfl, hq, by rw [ht]; exact hP, hD⟩, hS.F ht⟩) hS.2.2 d hlk
theorem ml_ret {post : Int64 → va_W → Prop} {v : Int64} {w1 : va_W} (hx : p.tables.exec = Jvm.exec) (hb : c.code = cc) (hr : meth.sig.returnType = some .long) (hlk : meth.locks = false) (hP : va_P D vwCl w1 H) (hD : va_D A w1) (hS : va_S A s.heap H locs) (d : decode cc pc = .ok (.lreturn, 1)) (hq : post v w1) :
    W p l e R s m args below meth c H locs cells slots (MQ below (QL D post A) args s cells slots A) (F0 m pc ls [.long v]) :=
  W.lret hx hb hr (fun t ht _ => ⟨⟨v, w1, rfl, hq, by rw [ht]; exact hP, hD⟩, hS.F ht⟩) hS.2.2 d hlk
theorem mv_ret {post : va_W → Prop} {w1 : va_W} (hx : p.tables.exec = Jvm.exec) (hb : c.code = cc) (hr : meth.sig.returnType = none) (hlk : meth.locks = false) (hP : va_P D vwCl w1 H) (hD : va_D A w1) (hS : va_S A s.heap H locs) (d : decode cc pc = .ok (.return_, 1)) (hq : post w1) :
    W p l e R s m args below meth c H locs cells slots (MQ below (QV D post A) args s cells slots A) (F0 m pc ls []) :=
  W.vret hx hb hr (fun t ht _ => ⟨⟨w1, rfl, hq, by rw [ht]; exact hP, hD⟩, hS.F ht⟩) hS.2.2 d hlk
-- behind a call that writes nothing
theorem k_ri {post : Int32 → Prop} {a : Array Value} (h : va_Run p l e R s m args below meth c H locs cells slots 0 0 (F0 m pc ls st) rest (vp_Si post a) (fun _ => False))
    (kk : ∀ r : Int32, post r → W p l e R s m args below meth c H locs cells slots Q (F0 m (pc + 3) ls (.int r :: rest))) : W p l e R s m args below meth c H locs cells slots Q (F0 m pc ls st) := by
  intro T hT X
  obtain ⟨v, st₀, t, T', L, h0, X', hL, e1, e2, ⟨r, hv, hp, hh⟩, stp⟩ := h T hT X
  cases hv
  obtain ⟨t2, a1, b1⟩ := kk r hp T' (by rw [e1, hh, h0]) (Stand.forget X' (fun q h => (hL q h).elim))
  exact ⟨t2, stp t2 a1, b1⟩
theorem k_rl {post : Int64 → Prop} {a : Array Value} (h : va_Run p l e R s m args below meth c H locs cells slots 0 0 (F0 m pc ls st) rest (vp_Sl post a) (fun _ => False))
    (kk : ∀ r : Int64, post r → W p l e R s m args below meth c H locs cells slots Q (F0 m (pc + 3) ls (.long r :: rest))) : W p l e R s m args below meth c H locs cells slots Q (F0 m pc ls st) := by
  intro T hT X
  obtain ⟨v, st₀, t, T', L, h0, X', hL, e1, e2, ⟨r, hv, hp, hh⟩, stp⟩ := h T hT X
  cases hv
  obtain ⟨t2, a1, b1⟩ := kk r hp T' (by rw [e1, hh, h0]) (Stand.forget X' (fun q h => (hL q h).elim))
  exact ⟨t2, stp t2 a1, b1⟩
-- behind a call that writes its world
theorem k_mi {post : Int32 → va_W → Prop} {a : Array Value} {X wc wr : va_W} (isC isR : List Nat) (h : va_Run p l e R s m args below meth c H locs cells slots 0 0 (F0 m pc ls st) rest (QI D post (va_A wc H.size) a) (va_A wc H.size))
    (hP : va_P D vwCl X H) (hD : va_D A X) (hS : va_S A H0 H locs) (hA : ∀ q, H0.size ≤ q → A q) (hC : isC.map (fun i => X[i]?) = wc.map some) (hR : isR.map (fun i => X[i]?) = wr.map some) (hn : va_nd isR = true) (hdis : ∀ i ∈ isR, i ∉ isC)
    (kk : ∀ (r : Int32) (w1 : va_W) (H1 : Heap) (locs1 : List Loc), post r w1 → va_P D vwCl (wr ++ w1) H1 → va_D A (wr ++ w1) → va_S A H0 H1 locs1 → W p l e R s m args below meth c H1 locs1 cells slots Q (F0 m (pc + 3) ls (.int r :: rest))) : W p l e R s m args below meth c H locs cells slots Q (F0 m pc ls st) := by
  have hF := va_free (wc := wc) hD hS hA isC hC
  refine va_calli h hS (fun q _ h => hF q h) hF (fun r u t H1 locs1 ht _ hw hB _ hk1 hS1 => ?_)
  obtain ⟨hP1, hD1⟩ := hB
  rw [ht] at hP1
  obtain ⟨hP2, hD2⟩ := va_join (wr := wr) (w1 := u) hP hD isC isR hC hR hn hdis hk1 hF hP1 hD1
  exact kk r u H1 locs1 hw hP2 hD2 hS1
theorem k_ml {post : Int64 → va_W → Prop} {a : Array Value} {X wc wr : va_W} (isC isR : List Nat) (h : va_Run p l e R s m args below meth c H locs cells slots 0 0 (F0 m pc ls st) rest (QL D post (va_A wc H.size) a) (va_A wc H.size))
    (hP : va_P D vwCl X H) (hD : va_D A X) (hS : va_S A H0 H locs) (hA : ∀ q, H0.size ≤ q → A q) (hC : isC.map (fun i => X[i]?) = wc.map some) (hR : isR.map (fun i => X[i]?) = wr.map some) (hn : va_nd isR = true) (hdis : ∀ i ∈ isR, i ∉ isC)
    (kk : ∀ (r : Int64) (w1 : va_W) (H1 : Heap) (locs1 : List Loc), post r w1 → va_P D vwCl (wr ++ w1) H1 → va_D A (wr ++ w1) → va_S A H0 H1 locs1 → W p l e R s m args below meth c H1 locs1 cells slots Q (F0 m (pc + 3) ls (.long r :: rest))) : W p l e R s m args below meth c H locs cells slots Q (F0 m pc ls st) := by
  have hF := va_free (wc := wc) hD hS hA isC hC
  refine va_calll h hS (fun q _ h => hF q h) hF (fun r u t H1 locs1 ht _ hw hB _ hk1 hS1 => ?_)
  obtain ⟨hP1, hD1⟩ := hB
  rw [ht] at hP1
  obtain ⟨hP2, hD2⟩ := va_join (wr := wr) (w1 := u) hP hD isC isR hC hR hn hdis hk1 hF hP1 hD1
  exact kk r u H1 locs1 hw hP2 hD2 hS1
theorem k_mv {post : va_W → Prop} {a : Array Value} {mc ms : Nat} {X wc wr : va_W} (isC isR : List Nat) (h : va_Run p l e R s m args below meth c H locs cells slots mc ms (F0 m pc ls st) rest (QV D post (va_A wc H.size) a) (va_A wc H.size))
    (hP : va_P D vwCl X H) (hD : va_D A X) (hS : va_S A H0 H locs) (hA : ∀ q, H0.size ≤ q → A q) (hC : isC.map (fun i => X[i]?) = wc.map some) (hR : isR.map (fun i => X[i]?) = wr.map some) (hn : va_nd isR = true) (hdis : ∀ i ∈ isR, i ∉ isC)
    (kk : ∀ (w1 : va_W) (H1 : Heap) (locs1 : List Loc), post w1 → va_P D vwCl (wr ++ w1) H1 → va_D A (wr ++ w1) → va_S A H0 H1 locs1 → W p l e R s m args below meth c H1 locs1 (cells + mc) (slots + ms) Q (F0 m (pc + 3) ls rest)) : W p l e R s m args below meth c H locs cells slots Q (F0 m pc ls st) := by
  have hF := va_free (wc := wc) hD hS hA isC hC
  refine va_callv h hS (fun q _ h => hF q h) hF (fun u t H1 locs1 ht _ hw hB _ hk1 hS1 => ?_)
  obtain ⟨hP1, hD1⟩ := hB
  rw [ht] at hP1
  obtain ⟨hP2, hD2⟩ := va_join (wr := wr) (w1 := u) hP hD isC isR hC hR hn hdis hk1 hF hP1 hD1
  exact kk u H1 locs1 hw hP2 hD2 hS1
-- starts of calls
theorem P0.pre {As : List Value} {X wc : va_W} (hP : va_P D vwCl X H) (hK : Kn D tys s) (isC : List Nat) (hC : isC.filterMap (fun i => X[i]?) = wc) : PreS s H (P0 D tys As wc) As := by
  have hPc := hP.sub isC hC
  exact ⟨fun a U g mk q => by obtain ⟨q0, qP, qK⟩ := q; exact ⟨q0, qP, qK.call⟩, fun U hU hW => ⟨rfl, by rw [hU]; exact hPc, hK.warm hW⟩⟩
theorem fm_of_map {α : Type} {X wc : List α} : ∀ {is : List Nat}, is.map (fun i => X[i]?) = wc.map some → is.filterMap (fun i => X[i]?) = wc := by
  intro is h
  have h2 : (is.map (fun i => X[i]?)).filterMap id = (wc.map some).filterMap id := by rw [h]
  rw [List.filterMap_map, List.filterMap_map] at h2
  simpa using h2
theorem P1.pre {As : List Value} {X wc : va_W} (hP : va_P D vwCl X H) (hK : Kn D tys s) (hD : va_D A X) (isC : List Nat) (hnd : va_nd isC = true) (hC : isC.map (fun i => X[i]?) = wc.map some) : PreS s H (P1 D tys As wc H.size) As := by
  have hPc := hP.sub isC (fm_of_map hC)
  have hDc := hD.sub isC hnd hC
  exact ⟨fun a U g mk q => by obtain ⟨q0, q1, qP, qK, qD⟩ := q; exact ⟨q0, q1, qP, qK.call, qD⟩, fun U hU hW => ⟨rfl, by rw [hU], by rw [hU]; exact hPc, hK.warm hW, hDc.weaken (fun _ _ _ _ => trivial)⟩⟩
theorem rcv {X wc : va_W} {b ci : Nat} {q : vw_C} {fs : List Value} {C : String} (hP : va_P D vwCl X H) (hK : Kn D tys s) (isC : List Nat) (hC : isC.filterMap (fun i => X[i]?) = wc) (hc : vwCl[ci]? = some q) (he : wc[0]? = some (b, .inr (ci, fs))) (hCC : q.1 = C) : ∃ cellB : Cell, H[b]? = some cellB ∧ cellB.vm.isStatics = false ∧ s.vm.findClass C = some cellB.cls := by
  subst hCC
  exact va_recv hK.1 (hP.sub isC hC) hc he
variable {nL maxL index n fr lo mc ms : Nat} {w Ts : List Cond} {own C host : String} {y : MethodName} {bytes : ByteArray} {ret : Option FieldType} {b : Addr} {As : List Value} {X wc : va_W}
theorem run_RV {Qa : Array Value → State → Outcome → State → Prop} {ci : Nat} {q : vw_C} {fs : List Value} (S : CallFix p m c cc nL s args Ts own) (hM : RG l y w fr lo D tys (.ref b :: As) wc Qa) (cw : CallW R s args own C index y bytes maxL ret w { frames := fr, cells := 0, slots := 0, locals := lo } 0 0 n) (hP : va_P D vwCl X H) (hK : Kn D tys s) (isC : List Nat) (hC : isC.filterMap (fun i => X[i]?) = wc) (hc : vwCl[ci]? = some q) (he : wc[0]? = some (b, .inr (ci, fs))) (hCC : q.1 = C) (hn : As.length = n) (hsz : ls.size = nL) (hst : st = As.reverse ++ .ref b :: rest) (hW : (rest.map fun v => v.category).sum ≤ 8) (hdg : decode cc pc = .ok (.invokevirtual index, 3)) (hf : cells ≤ R.cells ∧ slots ≤ R.slots) :
    va_Run p l e R s m args below meth c H locs cells slots 0 0 (F0 m pc ls st) rest (Qa (Value.ref b :: As).toArray) (fun _ => False) :=
  va_runV (As := As) (rest := rest) S hM cw ⟨(P0.pre (As := .ref b :: As) hP hK isC hC).1, rcv hP hK isC hC hc he hCC, (P0.pre (As := .ref b :: As) hP hK isC hC).2⟩ rfl hn hsz hst (lv_room hW) hdg hf
theorem run_RN {Qa : Array Value → State → Outcome → State → Prop} {ci : Nat} {q : vw_C} {fs : List Value} (S : CallFix p m c cc nL s args Ts own) (hM : RG l y w fr lo D tys (.ref b :: As) wc Qa) (cw : va_CN R s args own index y host bytes maxL ret w { frames := fr, cells := 0, slots := 0, locals := lo } 0 0 n ∧ (Cond.instanceMethod y).before args s = true ∧ (Cond.selects C y y).before args s = true) (hP : va_P D vwCl X H) (hK : Kn D tys s) (isC : List Nat) (hC : isC.filterMap (fun i => X[i]?) = wc) (hc : vwCl[ci]? = some q) (he : wc[0]? = some (b, .inr (ci, fs))) (hCC : q.1 = C) (hn : As.length = n) (hsz : ls.size = nL) (hst : st = As.reverse ++ .ref b :: rest) (hW : (rest.map fun v => v.category).sum ≤ 8) (hdg : decode cc pc = .ok (.invokevirtual index, 3)) (hf : cells ≤ R.cells ∧ slots ≤ R.slots) :
    va_Run p l e R s m args below meth c H locs cells slots 0 0 (F0 m pc ls st) rest (Qa (Value.ref b :: As).toArray) (fun _ => False) :=
  va_runVN (As := As) (rest := rest) S hM cw ⟨(P0.pre (As := .ref b :: As) hP hK isC hC).1, rcv hP hK isC hC hc he hCC, (P0.pre (As := .ref b :: As) hP hK isC hC).2⟩ rfl hn hsz hst (lv_room hW) hdg hf
theorem run_RS {Qa : Array Value → State → Outcome → State → Prop} (S : CallFix p m c cc nL s args Ts own) (hM : RG l y w fr lo D tys As wc Qa) (cw : CallB R s args own index y bytes maxL ret w { frames := fr, cells := 0, slots := 0, locals := lo } 0 0 n ∧ (Cond.static y).before args s = true) (hP : va_P D vwCl X H) (hK : Kn D tys s) (isC : List Nat) (hC : isC.filterMap (fun i => X[i]?) = wc) (hn : As.length = n) (hsz : ls.size = nL) (hst : st = As.reverse ++ rest) (hW : (rest.map fun v => v.category).sum ≤ 8) (hdg : decode cc pc = .ok (.invokestatic index, 3)) (hf : cells ≤ R.cells ∧ slots ≤ R.slots) :
    va_Run p l e R s m args below meth c H locs cells slots 0 0 (F0 m pc ls st) rest (Qa As.toArray) (fun _ => False) :=
  va_runS (As := As) (rest := rest) S hM cw (P0.pre (As := As) hP hK isC hC) rfl hn hsz hst (lv_room hW) hdg hf
theorem run_RSN {Qa : Array Value → State → Outcome → State → Prop} (S : CallFix p m c cc nL s args Ts own) (hM : RG l y w fr lo D tys As wc Qa) (cw : va_CN R s args own index y host bytes maxL ret w { frames := fr, cells := 0, slots := 0, locals := lo } 0 0 n ∧ (Cond.static y).before args s = true ∧ True) (hP : va_P D vwCl X H) (hK : Kn D tys s) (isC : List Nat) (hC : isC.filterMap (fun i => X[i]?) = wc) (hn : As.length = n) (hsz : ls.size = nL) (hst : st = As.reverse ++ rest) (hW : (rest.map fun v => v.category).sum ≤ 8) (hdg : decode cc pc = .ok (.invokestatic index, 3)) (hf : cells ≤ R.cells ∧ slots ≤ R.slots) :
    va_Run p l e R s m args below meth c H locs cells slots 0 0 (F0 m pc ls st) rest (Qa As.toArray) (fun _ => False) :=
  va_runSN (As := As) (rest := rest) S hM cw (P0.pre (As := As) hP hK isC hC) rfl hn hsz hst (lv_room hW) hdg hf
theorem run_MV {Qa : (Nat → Prop) → Array Value → State → Outcome → State → Prop} {ci : Nat} {q : vw_C} {fs : List Value} (S : CallFix p m c cc nL s args Ts own) (hM : MG l y w fr lo mc ms D tys (.ref b :: As) wc Qa) (cw : CallW R s args own C index y bytes maxL ret w { frames := fr, cells := mc, slots := ms, locals := lo } mc ms n) (hP : va_P D vwCl X H) (hK : Kn D tys s) (hD : va_D A X) (isC : List Nat) (hnd : va_nd isC = true) (hC : isC.map (fun i => X[i]?) = wc.map some) (hc : vwCl[ci]? = some q) (he : wc[0]? = some (b, .inr (ci, fs))) (hCC : q.1 = C) (hn : As.length = n) (hsz : ls.size = nL) (hst : st = As.reverse ++ .ref b :: rest) (hW : (rest.map fun v => v.category).sum ≤ 8) (hdg : decode cc pc = .ok (.invokevirtual index, 3)) (hf : cells + mc ≤ R.cells ∧ slots + ms ≤ R.slots) :
    va_Run p l e R s m args below meth c H locs cells slots mc ms (F0 m pc ls st) rest (Qa (va_A wc H.size) (Value.ref b :: As).toArray) (va_A wc H.size) :=
  va_runV (As := As) (rest := rest) S (hM H.size) cw ⟨(P1.pre (As := .ref b :: As) hP hK hD isC hnd hC).1, rcv hP hK isC (fm_of_map hC) hc he hCC, (P1.pre (As := .ref b :: As) hP hK hD isC hnd hC).2⟩ rfl hn hsz hst (lv_room hW) hdg hf
theorem run_MN {Qa : (Nat → Prop) → Array Value → State → Outcome → State → Prop} {ci : Nat} {q : vw_C} {fs : List Value} (S : CallFix p m c cc nL s args Ts own) (hM : MG l y w fr lo mc ms D tys (.ref b :: As) wc Qa) (cw : va_CN R s args own index y host bytes maxL ret w { frames := fr, cells := mc, slots := ms, locals := lo } mc ms n ∧ (Cond.instanceMethod y).before args s = true ∧ (Cond.selects C y y).before args s = true) (hP : va_P D vwCl X H) (hK : Kn D tys s) (hD : va_D A X) (isC : List Nat) (hnd : va_nd isC = true) (hC : isC.map (fun i => X[i]?) = wc.map some) (hc : vwCl[ci]? = some q) (he : wc[0]? = some (b, .inr (ci, fs))) (hCC : q.1 = C) (hn : As.length = n) (hsz : ls.size = nL) (hst : st = As.reverse ++ .ref b :: rest) (hW : (rest.map fun v => v.category).sum ≤ 8) (hdg : decode cc pc = .ok (.invokevirtual index, 3)) (hf : cells + mc ≤ R.cells ∧ slots + ms ≤ R.slots) :
    va_Run p l e R s m args below meth c H locs cells slots mc ms (F0 m pc ls st) rest (Qa (va_A wc H.size) (Value.ref b :: As).toArray) (va_A wc H.size) :=
  va_runVN (As := As) (rest := rest) S (hM H.size) cw ⟨(P1.pre (As := .ref b :: As) hP hK hD isC hnd hC).1, rcv hP hK isC (fm_of_map hC) hc he hCC, (P1.pre (As := .ref b :: As) hP hK hD isC hnd hC).2⟩ rfl hn hsz hst (lv_room hW) hdg hf
theorem run_MS {Qa : (Nat → Prop) → Array Value → State → Outcome → State → Prop} (S : CallFix p m c cc nL s args Ts own) (hM : MG l y w fr lo mc ms D tys As wc Qa) (cw : CallB R s args own index y bytes maxL ret w { frames := fr, cells := mc, slots := ms, locals := lo } mc ms n ∧ (Cond.static y).before args s = true) (hP : va_P D vwCl X H) (hK : Kn D tys s) (hD : va_D A X) (isC : List Nat) (hnd : va_nd isC = true) (hC : isC.map (fun i => X[i]?) = wc.map some) (hn : As.length = n) (hsz : ls.size = nL) (hst : st = As.reverse ++ rest) (hW : (rest.map fun v => v.category).sum ≤ 8) (hdg : decode cc pc = .ok (.invokestatic index, 3)) (hf : cells + mc ≤ R.cells ∧ slots + ms ≤ R.slots) :
    va_Run p l e R s m args below meth c H locs cells slots mc ms (F0 m pc ls st) rest (Qa (va_A wc H.size) As.toArray) (va_A wc H.size) :=
  va_runS (As := As) (rest := rest) S (hM H.size) cw (P1.pre (As := As) hP hK hD isC hnd hC) rfl hn hsz hst (lv_room hW) hdg hf
theorem run_MI {Qa : (Nat → Prop) → Array Value → State → Outcome → State → Prop} (S : CallFix p m c cc nL s args Ts own) (hM : MG l y w fr lo mc ms D tys (.ref b :: As) wc Qa) (cw : CallB R s args own index y bytes maxL none w { frames := fr, cells := mc, slots := ms, locals := lo } mc ms n ∧ y.name = "<init>" ∧ (Cond.instanceMethod y).before args s = true) (hP : va_P D vwCl X H) (hK : Kn D tys s) (hD : va_D A X) (isC : List Nat) (hnd : va_nd isC = true) (hC : isC.map (fun i => X[i]?) = wc.map some) (hn : As.length = n) (hsz : ls.size = nL) (hst : st = As.reverse ++ .ref b :: rest) (hW : (rest.map fun v => v.category).sum ≤ 8) (hdg : decode cc pc = .ok (.invokespecial index, 3)) (hf : cells + mc ≤ R.cells ∧ slots + ms ≤ R.slots) :
    va_Run p l e R s m args below meth c H locs cells slots mc ms (F0 m pc ls st) rest (Qa (va_A wc H.size) (Value.ref b :: As).toArray) (va_A wc H.size) :=
  va_runI (As := As) (rest := rest) S (hM H.size) cw (P1.pre (As := .ref b :: As) hP hK hD isC hnd hC) rfl hn hsz hst (lv_room hW) hdg hf
theorem run_MIN {Qa : (Nat → Prop) → Array Value → State → Outcome → State → Prop} (S : CallFix p m c cc nL s args Ts own) (hM : MG l y w fr lo mc ms D tys (.ref b :: As) wc Qa) (cw : va_CN R s args own index y host bytes maxL none w { frames := fr, cells := mc, slots := ms, locals := lo } mc ms n ∧ y.name = "<init>" ∧ (Cond.instanceMethod y).before args s = true) (hP : va_P D vwCl X H) (hK : Kn D tys s) (hD : va_D A X) (isC : List Nat) (hnd : va_nd isC = true) (hC : isC.map (fun i => X[i]?) = wc.map some) (hn : As.length = n) (hsz : ls.size = nL) (hst : st = As.reverse ++ .ref b :: rest) (hW : (rest.map fun v => v.category).sum ≤ 8) (hdg : decode cc pc = .ok (.invokespecial index, 3)) (hf : cells + mc ≤ R.cells ∧ slots + ms ≤ R.slots) :
    va_Run p l e R s m args below meth c H locs cells slots mc ms (F0 m pc ls st) rest (Qa (va_A wc H.size) (Value.ref b :: As).toArray) (va_A wc H.size) :=
  va_runIN (As := As) (rest := rest) S (hM H.size) cw (P1.pre (As := .ref b :: As) hP hK hD isC hnd hC) rfl hn hsz hst (lv_room hW) hdg hf
end KITB
end
section
/-! ===== rows with a plain index; numbers ===== -/
section KITC
variable {p : Program} {l : Launch} {e : Env} {R : Room} {s : State} {m : MethodId} {args : Array Value} {below : List Frame} {meth : Method} {c : Code} {H : Heap} {locs : List Loc} {cells slots : Nat} {Q : State → Prop}
variable {pc : Nat} {ls : Array Slot} {rest : List Value} {D : va_G} {tys : List (ClassId × FieldType)} {A : Nat → Prop} {H0 : Heap} {cc : ByteArray} {ws : va_W} {a : Nat}
theorem k_top {x y : Int32} (h : x = y) (k : W p l e R s m args below meth c H locs cells slots Q (F0 m pc ls (.int y :: rest))) : W p l e R s m args below meth c H locs cells slots Q (F0 m pc ls (.int x :: rest)) := by rw [h]; exact k
theorem k_topl {x y : Int64} (h : x = y) (k : W p l e R s m args below meth c H locs cells slots Q (F0 m pc ls (.long y :: rest))) : W p l e R s m args below meth c H locs cells slots Q (F0 m pc ls (.long x :: rest)) := by rw [h]; exact k
theorem k_iald (hx : p.tables.exec = Jvm.exec) (hb : c.code = cc) (hK : Kn D tys s) (hP : va_P D vwCl ws H) (q0 t0 : Nat) {cA : ClassId} {n : Nat} {f : Nat → Int32} (ha : ws[q0]? = some (a, .inl (cA, n, .inl f))) (ht : tys[t0]? = some (cA, .int)) {i : Int32} {j : Nat} (hin : vp_in i n) (hj : i.toNatClampNeg = j) (hdg : decode cc pc = .ok (.iaload, 1))
    (kk : W p l e R s m args below meth c H locs cells slots Q (F0 m (pc + 1) ls (.int (f j) :: rest))) : W p l e R s m args below meth c H locs cells slots Q (F0 m pc ls (.int i :: .ref a :: rest)) := by
  subst hj
  exact va_iald hx hb hK.1 hP q0 t0 ha ht hin hdg kk
theorem k_iast (hx : p.tables.exec = Jvm.exec) (hb : c.code = cc) (hK : Kn D tys s) (hP : va_P D vwCl ws H) (hD : va_D A ws) (hS : va_S A H0 H locs) (q0 t0 : Nat) {cA : ClassId} {n : Nat} {f : Nat → Int32} (ha : ws[q0]? = some (a, .inl (cA, n, .inl f))) (ht : tys[t0]? = some (cA, .int)) {i : Int32} {x : Int32} {j : Nat} (hin : vp_in i n) (hj : i.toNatClampNeg = j) (hdg : decode cc pc = .ok (.iastore, 1))
    (kk : ∀ (H1 : Heap) (locs1 : List Loc), va_P D vwCl (ws.set q0 (a, .inl (cA, n, .inl (upd f j x)))) H1 → va_D A (ws.set q0 (a, .inl (cA, n, .inl (upd f j x)))) → va_S A H0 H1 locs1 → W p l e R s m args below meth c H1 locs1 cells slots Q (F0 m (pc + 1) ls rest)) : W p l e R s m args below meth c H locs cells slots Q (F0 m pc ls (.int x :: .int i :: .ref a :: rest)) := by
  subst hj
  exact va_iast hx hb hK.1 hP hD hS q0 t0 ha ht hin hdg kk
theorem k_lald (hx : p.tables.exec = Jvm.exec) (hb : c.code = cc) (hK : Kn D tys s) (hP : va_P D vwCl ws H) (q0 t0 : Nat) {cA : ClassId} {n : Nat} {f : Nat → Int64} (ha : ws[q0]? = some (a, .inl (cA, n, .inr (.inl f)))) (ht : tys[t0]? = some (cA, .long)) {i : Int32} {j : Nat} (hin : vp_in i n) (hj : i.toNatClampNeg = j) (hdg : decode cc pc = .ok (.laload, 1))
    (kk : W p l e R s m args below meth c H locs cells slots Q (F0 m (pc + 1) ls (.long (f j) :: rest))) : W p l e R s m args below meth c H locs cells slots Q (F0 m pc ls (.int i :: .ref a :: rest)) := by
  subst hj
  exact va_lald hx hb hK.1 hP q0 t0 ha ht hin hdg kk
theorem k_last (hx : p.tables.exec = Jvm.exec) (hb : c.code = cc) (hK : Kn D tys s) (hP : va_P D vwCl ws H) (hD : va_D A ws) (hS : va_S A H0 H locs) (q0 t0 : Nat) {cA : ClassId} {n : Nat} {f : Nat → Int64} (ha : ws[q0]? = some (a, .inl (cA, n, .inr (.inl f)))) (ht : tys[t0]? = some (cA, .long)) {i : Int32} {x : Int64} {j : Nat} (hin : vp_in i n) (hj : i.toNatClampNeg = j) (hdg : decode cc pc = .ok (.lastore, 1))
    (kk : ∀ (H1 : Heap) (locs1 : List Loc), va_P D vwCl (ws.set q0 (a, .inl (cA, n, .inr (.inl (vp_updL f j x))))) H1 → va_D A (ws.set q0 (a, .inl (cA, n, .inr (.inl (vp_updL f j x))))) → va_S A H0 H1 locs1 → W p l e R s m args below meth c H1 locs1 cells slots Q (F0 m (pc + 1) ls rest)) : W p l e R s m args below meth c H locs cells slots Q (F0 m pc ls (.long x :: .int i :: .ref a :: rest)) := by
  subst hj
  exact va_last hx hb hK.1 hP hD hS q0 t0 ha ht hin hdg kk
end KITC
/-- a condition as an int -/
def b2 (P : Prop) [Decidable P] : Int32 := if P then 1 else 0
theorem b2_t {P : Prop} [Decidable P] (h : ¬ b2 P = 0) : P := by
  by_cases hP : P
  · exact hP
  · exact absurd (by simp [b2, hP]) h
theorem b2_f {P : Prop} [Decidable P] (h : b2 P = 0) : ¬ P := by
  intro hP
  rw [b2, if_pos hP] at h
  exact absurd h (by decide)
theorem b2_1 {P : Prop} [Decidable P] (h : P) : (1 : Int32) = b2 P := by rw [b2, if_pos h]
theorem b2_0 {P : Prop} [Decidable P] (h : ¬ P) : (0 : Int32) = b2 P := by rw [b2, if_neg h]
theorem b2_nar (P : Prop) [Decidable P] : narrow .boolean (.int (b2 P)) = .int (b2 P) := by
  unfold b2
  split <;> decide
theorem b2_cong {P P' : Prop} [Decidable P] [Decidable P'] (h : P ↔ P') : b2 P = b2 P' := by
  unfold b2
  by_cases hP : P
  · rw [if_pos hP, if_pos (h.mp hP)]
  · rw [if_neg hP, if_neg (fun q => hP (h.mpr q))]
/-- a place of n -/
abbrev inN (x : Int32) (n : Nat) : Prop := 0 ≤ x.toInt ∧ x.toInt < n
theorem inN_vp {x : Int32} {n : Nat} : inN x n ↔ vp_in x n := vp_in_iff.symm
theorem inN.vp {x : Int32} {n N : Nat} (h : inN x n) (hn : n ≤ N) : vp_in x N := vp_in_iff.mpr ⟨h.1, by have := h.2; omega⟩
theorem inN.lt {x : Int32} {n : Nat} (h : inN x n) : x.toNatClampNeg < n := by
  have h1 := h.1
  have h2 := h.2
  show x.toInt.toNat < n
  omega
theorem inN.eq {x : Int32} {n : Nat} (h : inN x n) : x = nI x.toNatClampNeg := by
  have h1 := h.1
  have h2 := x.toInt_lt
  have e : x.toInt = (x.toNatClampNeg : Int) := by show x.toInt = ((x.toInt.toNat : Nat) : Int); omega
  refine Int32.toInt_inj.mp ?_
  rw [nI_toInt (by omega), e]
theorem nI_inN {k n : Nat} (h : k < n) (hn : n < 2 ^ 31) : inN (nI k) n := by
  rw [inN, nI_toInt (by omega)]
  omega
theorem inN_nI {k n : Nat} (hk : k < 2 ^ 31) (h : inN (nI k) n) : k < n := by
  have h2 := h.2
  rw [nI_toInt hk] at h2
  omega
theorem sw3 (x : Int32) : x = 0 ∨ x = 1 ∨ x = 2 ∨ (x.toInt < 0 ∨ 2 < x.toInt) := by
  rw [← Int32.toInt_inj, ← Int32.toInt_inj, ← Int32.toInt_inj]
  have h0 : (0 : Int32).toInt = 0 := rfl
  have h1 : (1 : Int32).toInt = 1 := rfl
  have h2 : (2 : Int32).toInt = 2 := rfl
  omega
theorem sw4 (x : Int32) : x = 0 ∨ x = 1 ∨ x = 2 ∨ x = 3 ∨ (x.toInt < 0 ∨ 3 < x.toInt) := by
  have h3 : (3 : Int32).toInt = 3 := rfl
  rcases sw3 x with h | h | h | h
  · exact Or.inl h
  · exact Or.inr (Or.inl h)
  · exact Or.inr (Or.inr (Or.inl h))
  · by_cases q : x = 3
    · exact Or.inr (Or.inr (Or.inr (Or.inl q)))
    · rw [← Int32.toInt_inj] at q
      exact Or.inr (Or.inr (Or.inr (Or.inr (by omega))))
theorem sw6 (x : Int32) : x = 0 ∨ x = 1 ∨ x = 2 ∨ x = 3 ∨ x = 4 ∨ x = 5 ∨ (x.toInt < 0 ∨ 5 < x.toInt) := by
  have h4 : (4 : Int32).toInt = 4 := rfl
  have h5 : (5 : Int32).toInt = 5 := rfl
  rcases sw4 x with h | h | h | h | h
  · exact Or.inl h
  · exact Or.inr (Or.inl h)
  · exact Or.inr (Or.inr (Or.inl h))
  · exact Or.inr (Or.inr (Or.inr (Or.inl h)))
  · by_cases q : x = 4
    · exact Or.inr (Or.inr (Or.inr (Or.inr (Or.inl q))))
    · by_cases r : x = 5
      · exact Or.inr (Or.inr (Or.inr (Or.inr (Or.inr (Or.inl r)))))
      · rw [← Int32.toInt_inj] at q r
        exact Or.inr (Or.inr (Or.inr (Or.inr (Or.inr (Or.inr (by omega))))))
theorem ti_0 : (0 : Int32).toInt = 0 := rfl
theorem ti_1 : (1 : Int32).toInt = 1 := rfl
theorem ti_2 : (2 : Int32).toInt = 2 := rfl
theorem ti_3 : (3 : Int32).toInt = 3 := rfl
theorem ti_4 : (4 : Int32).toInt = 4 := rfl
theorem ti_5 : (5 : Int32).toInt = 5 := rfl
theorem ti_8 : (8 : Int32).toInt = 8 := rfl
theorem ti_9 : (9 : Int32).toInt = 9 := rfl
theorem ti_10 : (10 : Int32).toInt = 10 := rfl
theorem ti_14 : (14 : Int32).toInt = 14 := rfl
theorem ti_15 : (15 : Int32).toInt = 15 := rfl
theorem ti_16 : (16 : Int32).toInt = 16 := rfl
theorem ti_20 : (20 : Int32).toInt = 20 := rfl
theorem ti_60 : (60 : Int32).toInt = 60 := rfl
theorem ti_m1 : (-1 : Int32).toInt = -1 := rfl
end
section
/-! ===== what the system computes, over the ints of its cells ===== -/
def wk (k p : Int32) : Int32 := if k = 0 then p else if k = 1 then p + 1 else if k = 2 then 2 * (p + 1) else 0
theorem wk_out {k : Int32} (p : Int32) (h : k.toInt < 0 ∨ 2 < k.toInt) : wk k p = 0 := by
  have h0 : ¬ k = 0 := fun q => by rw [q] at h; exact absurd h (by decide)
  have h1 : ¬ k = 1 := fun q => by rw [q] at h; exact absurd h (by decide)
  have h2 : ¬ k = 2 := fun q => by rw [q] at h; exact absurd h (by decide)
  rw [wk, if_neg h0, if_neg h1, if_neg h2]
def cl9 (r : Int32) : Int32 := if r < 0 then 0 else if 9 < r then 9 else r
def cv (k p e ws : Int32) : Int32 := cl9 (ws * wk k p - e)
theorem cl9_mm (r : Int32) : (if 0 < (if r < 9 then r else 9) then (if r < 9 then r else 9) else 0) = cl9 r := by
  unfold cl9
  have e : ∀ x y : Int32, x.toInt = y.toInt → x = y := fun x y h => Int32.toInt_inj.mp h
  by_cases a : r < 9
  · rw [if_pos a]
    by_cases b : r < 0
    · rw [if_pos b]
      rw [Int32.lt_iff_toInt_lt] at b
      rw [if_neg (by rw [Int32.lt_iff_toInt_lt]; rw [ti_0] at *; omega)]
    · rw [if_neg b]
      rw [Int32.lt_iff_toInt_lt] at a b
      rw [ti_9] at a
      rw [ti_0] at b
      rw [if_neg (show ¬ 9 < r by rw [Int32.lt_iff_toInt_lt, ti_9]; omega)]
      by_cases d : 0 < r
      · rw [if_pos d]
      · rw [if_neg d]
        rw [Int32.lt_iff_toInt_lt, ti_0] at d
        exact e _ _ (by rw [ti_0]; omega)
  · rw [if_neg a, if_pos (by decide)]
    rw [Int32.lt_iff_toInt_lt, ti_9] at a
    rw [if_neg (show ¬ r < 0 by rw [Int32.lt_iff_toInt_lt, ti_0]; omega)]
    by_cases b : 9 < r
    · rw [if_pos b]
    · rw [if_neg b]
      rw [Int32.lt_iff_toInt_lt, ti_9] at b
      exact e _ _ (by rw [ti_9]; omega)
abbrev ripP (p br k e ws : Int32) : Prop := ¬ k = 3 ∧ br ≤ cv k p e ws
def bi (k : Int32) : Int32 := 1 <<< (k &&& 31)
def ripS (p br : Int32) (kd et : Nat → Int32) (ws : Int32) : Nat → Int32
  | 0 => 0
  | n + 1 => ripS p br kd et ws n ||| (if ripP p br (kd n) (et n) ws then bi (nI n) else 0)
def sofS (kd : Nat → Int32) : Nat → Int32
  | 0 => 0
  | n + 1 => sofS kd n ||| (if kd n = 3 then 0 else bi (nI n))
abbrev inS (s k : Int32) : Prop := 0 ≤ k.toInt ∧ ¬ s &&& bi k = 0
def wo (s k : Int32) : Int32 := s &&& (bi k ^^^ (-1))
def csum (s p : Int32) (kd et : Nat → Int32) (ws : Int32) : Nat → Int32
  | 0 => 0
  | n + 1 => csum s p kd et ws n + (if inS s (nI n) then cv (kd n) p (et n) ws else 0)
theorem ix4 {c t : Int32} {j u : Nat} (hc : vp_in c 16) (hj : c.toNatClampNeg = j) (ht : vp_in t 4) (hu : t.toNatClampNeg = u) : vp_in (4 * c + t) 64 ∧ (4 * c + t).toNatClampNeg = 4 * j + u := by
  have e1 : c = nI j := by rw [← hj]; exact (inN_vp.mpr hc).eq
  have e2 : t = nI u := by rw [← hu]; exact (inN_vp.mpr ht).eq
  have l1 : j < 16 := by rw [← hj]; exact (inN_vp.mpr hc).lt
  have l2 : u < 4 := by rw [← hu]; exact (inN_vp.mpr ht).lt
  have e : 4 * c + t = nI (4 * j + u) := by
    rw [e1, e2, ← nI_add, ← pk_mul]
    rfl
  rw [e]
  exact ⟨vp_in_nI (by omega) (by decide), nI_clamp (by omega)⟩
/-! ===== what the calls answer and change ===== -/
abbrev softP (n : Nat) (kd : Nat → Int32) (c : Int32) : Prop := inN c n ∧ ¬ kd c.toNatClampNeg = 3
/-- f up to n, g from there on -/
def fil {α : Type} (f g : Nat → α) (n : Nat) : Nat → α := fun k => if k < n then f k else g k
theorem fil_0 {α : Type} (f g : Nat → α) : fil f g 0 = g := by
  funext k
  rw [fil, if_neg (Nat.not_lt_zero k)]
theorem fil_in {α : Type} {f g : Nat → α} {n k : Nat} (h : k < n) : fil f g n k = f k := by rw [fil, if_pos h]
theorem fil_out {α : Type} {f g : Nat → α} {n k : Nat} (h : n ≤ k) : fil f g n k = g k := by rw [fil, if_neg (by omega)]
theorem fil_upd (f g : Nat → Int32) (n : Nat) {x : Int32} (h : f n = x) : upd (fil f g n) n x = fil f g (n + 1) := by
  funext k
  unfold upd fil
  by_cases a : k = n
  · subst a
    rw [if_pos rfl, if_pos (by omega), h]
  · rw [if_neg a]
    by_cases b : k < n
    · rw [if_pos b, if_pos (by omega)]
    · rw [if_neg b, if_neg (by omega)]
theorem cpy_fil {α : Type} (f g : Nat → α) (n : Nat) : va_cpy f g 0 0 n = fil f g n := by
  funext k
  unfold va_cpy fil
  by_cases a : k < n
  · rw [if_pos a, if_pos ⟨Nat.zero_le _, by omega⟩]
    congr 1
    omega
  · rw [if_neg a, if_neg (by omega)]
-- texts
def kindF (x : Int32) : Int32 := if x = 35 then 3 else if x = 103 then 0 else if x = 111 then 2 else if x = 115 then 1 else -9
/-- the neighbour of cell j by stroke t, or -9 -/
def nbF (h w j t : Nat) : Int32 := if t = 0 then (if 0 < j / w then nI (j - w) else -9) else if t = 1 then (if j % w < w - 1 then nI (j + 1) else -9) else if t = 2 then (if j / w < h - 1 then nI (j + w) else -9) else (if 0 < j % w then nI (j - 1) else -9)
-- the hill
def ofR (n : Nat) (pc : Int32) (kd et : Nat → Int32) (c what : Int32) : Int32 := if inN c n then (if what = 0 then kd c.toNatClampNeg else if what = 1 then wk (kd c.toNatClampNeg) pc else if what = 2 then et c.toNatClampNeg else -2) else -1
def goR (n : Nat) (kd et : Nat → Int32) (c v : Int32) : Int32 := if softP n kd c then (if inN v 10 then et c.toNatClampNeg else -2) else -1
def goE (n : Nat) (kd et : Nat → Int32) (c v : Int32) : Nat → Int32 := if softP n kd c ∧ inN v 10 then upd et c.toNatClampNeg v else et
abbrev btw (x : Int32) (a b : Int) : Prop := a ≤ x.toInt ∧ x.toInt ≤ b
def paR (h : Nat) (x v : Int32) (m : Int) : Int32 := if btw v 1 m then (if h = 0 then -3 else x) else -2
def paE (h : Nat) (x v : Int32) (m : Int) : Int32 := if btw v 1 m ∧ ¬ h = 0 then v else x
def coR (n : Nat) (pc : Int32) (kd et : Nat → Int32) (c ws : Int32) : Int32 := if inN c n then (if inN ws 10 then cv (kd c.toNatClampNeg) pc (et c.toNatClampNeg) ws else -2) else -1
def riR (h n : Nat) (pc br : Int32) (kd et : Nat → Int32) (ws : Int32) : Int32 := if h = 0 then -3 else if inN ws 10 then ripS pc br kd et ws n else -2
-- readings
abbrev soP (pc : Int32) (kd et : Nat → Int32) (ro rb rv : Nat → Int32) (n : Nat) : Prop := ∀ k, k < n → cv (kd (ro k).toNatClampNeg) pc (et (ro k).toNatClampNeg) (rb k) = rv k
def reR (n : Nat) (kd : Nat → Int32) (rc : Nat) (c ws v : Int32) : Int32 := if softP n kd c then (if inN ws 10 ∧ inN v 10 then (if rc < 8 then nI rc else -4) else -2) else -1
abbrev reP (n : Nat) (kd : Nat → Int32) (rc : Nat) (c ws v : Int32) : Prop := softP n kd c ∧ (inN ws 10 ∧ inN v 10) ∧ rc < 8
def reC (n : Nat) (kd : Nat → Int32) (rc : Nat) (c ws v : Int32) : Nat := if reP n kd rc c ws v then rc + 1 else rc
def reA (n : Nat) (kd : Nat → Int32) (rc : Nat) (c ws v : Int32) (f : Nat → Int32) (x : Int32) : Nat → Int32 := if reP n kd rc c ws v then upd f rc x else f
def baR (rc : Nat) (k : Int32) : Int32 := if inN k (rc + 1) then nI (rc - k.toNatClampNeg) else -2
def baC (rc : Nat) (k : Int32) : Nat := if inN k (rc + 1) then rc - k.toNatClampNeg else rc
/-- which of the values from a on, n of them, P allows, as bits -/
def setF (P : Nat → Prop) [DecidablePred P] (a : Nat) : Nat → Int32
  | 0 => 0
  | n + 1 => setF P a n ||| (if P (a + n) then bi (nI (a + n)) else 0)
def kiR (n : Nat) (pc : Int32) (kd et : Nat → Int32) (rc : Nat) (ro rb rv : Nat → Int32) (c : Int32) : Int32 := if softP n kd c then setF (fun s => soP pc (upd kd c.toNatClampNeg (nI s)) et ro rb rv rc) 0 3 else -1
def psR (h : Nat) (kd et : Nat → Int32) (rc : Nat) (ro rb rv : Nat → Int32) : Int32 := if h = 0 then -3 else setF (fun s => soP (nI s) kd et ro rb rv rc) 1 3
def eaR (n : Nat) (pc : Int32) (kd et : Nat → Int32) (rc : Nat) (ro rb rv : Nat → Int32) (c : Int32) : Int32 := if softP n kd c then setF (fun s => soP pc kd (upd et c.toNatClampNeg (nI s)) ro rb rv rc) 0 10 else -1
-- sheets
def cutF (ln v : Int32) : Int32 := if ln = 0 then v.toInt8.toInt32 else if ln = 1 then v.toInt16.toInt32 else v
def fltF (hs ln q : Int32) : Int32 := if hs = 0 then 1 else if ln = q then 0 else 2
abbrev spP (i n : Int32) (le : Nat) : Prop := 0 ≤ i.toInt ∧ 0 ≤ n.toInt ∧ i.toInt + n.toInt ≤ le
abbrev shP (k lane n : Int32) : Prop := inN k 4 ∧ inN lane 3 ∧ 0 ≤ n.toInt ∧ n.toInt ≤ 60
def shR (k lane n : Int32) : Int32 := if inN k 4 then (if inN lane 3 ∧ n.toInt ≤ 60 then (if n.toInt < 0 then -14 else 1) else -2) else -1
def shF (k lane n : Int32) : Int32 := if inN k 4 ∧ inN lane 3 ∧ n.toInt < 0 then 4 else 0
def shU {α : Type} (k lane n : Int32) (f : Nat → α) (x : α) : Nat → α := if shP k lane n then va_up f k.toNatClampNeg x else f
def loR (hs : Nat → Int32) (k : Int32) : Int32 := if inN k 4 then (if hs k.toNatClampNeg = 0 then 0 else 1) else -1
def loH (hs : Nat → Int32) (k : Int32) : Nat → Int32 := if inN k 4 then va_up hs k.toNatClampNeg 0 else hs
def puR (hs : Nat → Int32) (le : Nat → Nat) (k i : Int32) : Int32 := if inN k 4 then (if hs k.toNatClampNeg = 0 then -11 else if inN i (le k.toNatClampNeg) then 1 else -13) else -1
def puF (hs : Nat → Int32) (le : Nat → Nat) (k i : Int32) : Int32 := if inN k 4 then (if hs k.toNatClampNeg = 0 then 1 else if inN i (le k.toNatClampNeg) then 0 else 3) else 0
def puS (hs ln : Nat → Int32) (le : Nat → Nat) (rr : Nat → Nat → Int32) (k i v : Int32) : Nat → Nat → Int32 := if inN k 4 ∧ ¬ hs k.toNatClampNeg = 0 ∧ inN i (le k.toNatClampNeg) then va_up rr k.toNatClampNeg (upd (rr k.toNatClampNeg) i.toNatClampNeg (cutF (ln k.toNatClampNeg) v)) else rr
def ceF (hs ln : Nat → Int32) (le : Nat → Nat) (k i lane : Int32) : Int32 := if inN k 4 ∧ inN lane 3 then (if fltF (hs k.toNatClampNeg) (ln k.toNatClampNeg) lane = 0 then (if inN i (le k.toNatClampNeg) then 0 else 3) else fltF (hs k.toNatClampNeg) (ln k.toNatClampNeg) lane) else 0
def ceR (hs ln : Nat → Int32) (le : Nat → Nat) (rr : Nat → Nat → Int32) (k i lane : Int32) : Int64 := if (inN k 4 ∧ inN lane 3) ∧ ceF hs ln le k i lane = 0 then (rr k.toNatClampNeg i.toNatClampNeg).toInt64 else (-9223372036854775808)
abbrev cyP (hs ln : Nat → Int32) (le : Nat → Nat) (k i o j n : Int32) : Prop := (inN k 4 ∧ inN o 4) ∧ (¬ hs k.toNatClampNeg = 0 ∧ ¬ hs o.toNatClampNeg = 0) ∧ ln k.toNatClampNeg = ln o.toNatClampNeg ∧ spP i n (le k.toNatClampNeg) ∧ spP j n (le o.toNatClampNeg)
def cyF (hs ln : Nat → Int32) (le : Nat → Nat) (k i o j n : Int32) : Int32 := if inN k 4 ∧ inN o 4 then (if ¬ hs k.toNatClampNeg = 0 ∧ ¬ hs o.toNatClampNeg = 0 then (if ln k.toNatClampNeg = ln o.toNatClampNeg then (if spP i n (le k.toNatClampNeg) ∧ spP j n (le o.toNatClampNeg) then 0 else 3) else 2) else 1) else 0
def cyR (hs ln : Nat → Int32) (le : Nat → Nat) (k i o j n : Int32) : Int32 := if inN k 4 ∧ inN o 4 then (if ¬ hs k.toNatClampNeg = 0 ∧ ¬ hs o.toNatClampNeg = 0 then (if ln k.toNatClampNeg = ln o.toNatClampNeg then (if spP i n (le k.toNatClampNeg) ∧ spP j n (le o.toNatClampNeg) then n else -13) else -12) else -11) else -1
def cyS (hs ln : Nat → Int32) (le : Nat → Nat) (rr : Nat → Nat → Int32) (k i o j n : Int32) : Nat → Nat → Int32 := if cyP hs ln le k i o j n then va_up rr o.toNatClampNeg (va_cpy (rr k.toNatClampNeg) (rr o.toNatClampNeg) i.toNatClampNeg j.toNatClampNeg n.toNatClampNeg) else rr
-- bodies
def beg (tr b : Int32) : Int32 := 31 * tr + b
def teR (n : Nat) (kd et : Nat → Int32) (c : Int32) : Int32 := if softP n kd c then (if kd c.toNatClampNeg = 1 then et c.toNatClampNeg + 100 else if kd c.toNatClampNeg = 2 then (et c.toNatClampNeg + 100) + et c.toNatClampNeg else et c.toNatClampNeg) else -1
def teT (n : Nat) (kd : Nat → Int32) (tr c : Int32) : Int32 := if softP n kd c then (if kd c.toNatClampNeg = 1 then beg (beg tr 2) 1 else if kd c.toNatClampNeg = 2 then beg (beg (beg (beg tr 3) 2) 1) 1 else beg tr 1) else tr
def trR (n : Nat) (kd : Nat → Int32) (c : Int32) : Int32 := if softP n kd c then (if kd c.toNatClampNeg = 2 then 40 else c) else -1
def trT (n : Nat) (kd : Nat → Int32) (tr c : Int32) : Int32 := if softP n kd c then (if kd c.toNatClampNeg = 2 then beg tr 5 else beg tr 4) else tr
def asR (n : Nat) (kd : Nat → Int32) (c q : Int32) : Int32 := if softP n kd c then (if btw q 0 2 then (if q ≤ kd c.toNatClampNeg then 1 else -12) else -2) else -1
def asF (n : Nat) (kd : Nat → Int32) (c q : Int32) : Int32 := if softP n kd c ∧ btw q 0 2 ∧ ¬ q ≤ kd c.toNatClampNeg then 2 else 0
theorem nI_pred_add (n : Nat) : nI n + nI 1 - 1 = nI n := by
  rw [nI_add]
  exact nI_pred n
theorem subT {n : Nat} {i : Int32} (h0 : 0 ≤ i.toInt) (h1 : i.toInt ≤ n) (hn : n < 2 ^ 30) : (nI n - i).toInt = (n : Int) - i.toInt := by
  have e : i = nI i.toInt.toNat := by
    refine Int32.toInt_inj.mp ?_
    rw [nI_toInt (by omega)]
    omega
  rw [e, pk_sub_toInt (by omega) (by omega), ← e]
  omega
end
section
set_option maxRecDepth 100000 in
set_option maxHeartbeats 4000000 in
/-- X4_isSheet -/
theorem c_X4_isSheet (l : Launch) (D : va_G) (cI cJ cO : ClassId) (v : Int32) : RG l yX4_isSheet wsX4_isSheet 0 0 D [(cI, .int), (cJ, .long), (cO, .object "ShornHill$Sheet")] [.int v] [] (vp_Si (fun (r : Int32) => r = (b2 (inN v 4)))) := by
  refine RG.of (cc := cX4_isSheet) (maxL := 1) (ret := (some .boolean)) (by decide) rfl (Nat.le_of_ble_eq_true rfl) ?_
  intro P_ E_ S_ M_ B_ T_ K_ hx hb hml hr hts hown hlk hP hK ls hl
  have hl : lv_has ls 1 [(0, .int v)] := hl
  refine lv_iload_n hx hb dX4_isSheet_0 rfl (lv_at hl 0 rfl) ?_
  refine lv_if_lt (tgt := 13) hx hb dX4_isSheet_1 (by decide) (fun c_1 => ?_) (fun c_1 => ?_)
  · refine lv_iconst (v := 0) hx hb dX4_isSheet_13 (by decide) ?_
    refine rz_ret (v := 0) hx hb hr hlk dX4_isSheet_14 (by decide) ?_
    refine b2_0 ?_
    simp only [inN, softP, inS, ripP, Int32.lt_iff_toInt_lt, Int32.le_iff_toInt_le, ← Int32.toInt_inj, ti_0, ti_1, ti_2, ti_3, ti_4, ti_8, ti_9, ti_10, ti_14, ti_15, ti_20, ti_60, ti_m1] at c_1 ⊢
    omega
  · refine lv_iload_n hx hb dX4_isSheet_4 rfl (lv_at hl 0 rfl) ?_
    refine lv_iconst (v := 4) hx hb dX4_isSheet_5 (by decide) ?_
    refine lv_icmp_ge (tgt := 13) hx hb dX4_isSheet_6 (by decide) (fun c_2 => ?_) (fun c_2 => ?_)
    · refine lv_iconst (v := 0) hx hb dX4_isSheet_13 (by decide) ?_
      refine rz_ret (v := 0) hx hb hr hlk dX4_isSheet_14 (by decide) ?_
      refine b2_0 ?_
      simp only [inN, softP, inS, ripP, Int32.lt_iff_toInt_lt, Int32.le_iff_toInt_le, ← Int32.toInt_inj, ti_0, ti_1, ti_2, ti_3, ti_4, ti_8, ti_9, ti_10, ti_14, ti_15, ti_20, ti_60, ti_m1] at c_1 c_2 ⊢
      omega
    · refine lv_iconst (v := 1) hx hb dX4_isSheet_9 (by decide) ?_
      refine lv_goto (tgt := 14) hx hb dX4_isSheet_10 (by decide) ?_
      refine rz_ret (v := 1) hx hb hr hlk dX4_isSheet_14 (by decide) ?_
      refine b2_1 ?_
      simp only [inN, softP, inS, ripP, Int32.lt_iff_toInt_lt, Int32.le_iff_toInt_le, ← Int32.toInt_inj, ti_0, ti_1, ti_2, ti_3, ti_4, ti_8, ti_9, ti_10, ti_14, ti_15, ti_20, ti_60, ti_m1] at c_1 c_2 ⊢
      omega
set_option maxRecDepth 100000 in
set_option maxHeartbeats 4000000 in
/-- X4_isLane -/
theorem c_X4_isLane (l : Launch) (D : va_G) (cI cJ cO : ClassId) (v : Int32) : RG l yX4_isLane wsX4_isLane 0 0 D [(cI, .int), (cJ, .long), (cO, .object "ShornHill$Sheet")] [.int v] [] (vp_Si (fun (r : Int32) => r = (b2 (inN v 3)))) := by
  refine RG.of (cc := cX4_isLane) (maxL := 1) (ret := (some .boolean)) (by decide) rfl (Nat.le_of_ble_eq_true rfl) ?_
  intro P_ E_ S_ M_ B_ T_ K_ hx hb hml hr hts hown hlk hP hK ls hl
  have hl : lv_has ls 1 [(0, .int v)] := hl
  refine lv_iload_n hx hb dX4_isLane_0 rfl (lv_at hl 0 rfl) ?_
  refine lv_if_lt (tgt := 13) hx hb dX4_isLane_1 (by decide) (fun c_1 => ?_) (fun c_1 => ?_)
  · refine lv_iconst (v := 0) hx hb dX4_isLane_13 (by decide) ?_
    refine rz_ret (v := 0) hx hb hr hlk dX4_isLane_14 (by decide) ?_
    refine b2_0 ?_
    simp only [inN, softP, inS, ripP, Int32.lt_iff_toInt_lt, Int32.le_iff_toInt_le, ← Int32.toInt_inj, ti_0, ti_1, ti_2, ti_3, ti_4, ti_8, ti_9, ti_10, ti_14, ti_15, ti_20, ti_60, ti_m1] at c_1 ⊢
    omega
  · refine lv_iload_n hx hb dX4_isLane_4 rfl (lv_at hl 0 rfl) ?_
    refine lv_iconst (v := 2) hx hb dX4_isLane_5 (by decide) ?_
    refine lv_icmp_gt (tgt := 13) hx hb dX4_isLane_6 (by decide) (fun c_2 => ?_) (fun c_2 => ?_)
    · refine lv_iconst (v := 0) hx hb dX4_isLane_13 (by decide) ?_
      refine rz_ret (v := 0) hx hb hr hlk dX4_isLane_14 (by decide) ?_
      refine b2_0 ?_
      simp only [inN, softP, inS, ripP, Int32.lt_iff_toInt_lt, Int32.le_iff_toInt_le, ← Int32.toInt_inj, ti_0, ti_1, ti_2, ti_3, ti_4, ti_8, ti_9, ti_10, ti_14, ti_15, ti_20, ti_60, ti_m1] at c_1 c_2 ⊢
      omega
    · refine lv_iconst (v := 1) hx hb dX4_isLane_9 (by decide) ?_
      refine lv_goto (tgt := 14) hx hb dX4_isLane_10 (by decide) ?_
      refine rz_ret (v := 1) hx hb hr hlk dX4_isLane_14 (by decide) ?_
      refine b2_1 ?_
      simp only [inN, softP, inS, ripP, Int32.lt_iff_toInt_lt, Int32.le_iff_toInt_le, ← Int32.toInt_inj, ti_0, ti_1, ti_2, ti_3, ti_4, ti_8, ti_9, ti_10, ti_14, ti_15, ti_20, ti_60, ti_m1] at c_1 c_2 ⊢
      omega
set_option maxRecDepth 100000 in
set_option maxHeartbeats 4000000 in
/-- X4_isWeeks -/
theorem c_X4_isWeeks (l : Launch) (D : va_G) (cI cJ cO : ClassId) (v : Int32) : RG l yX4_isWeeks wsX4_isWeeks 0 0 D [(cI, .int), (cJ, .long), (cO, .object "ShornHill$Sheet")] [.int v] [] (vp_Si (fun (r : Int32) => r = (b2 (inN v 10)))) := by
  refine RG.of (cc := cX4_isWeeks) (maxL := 1) (ret := (some .boolean)) (by decide) rfl (Nat.le_of_ble_eq_true rfl) ?_
  intro P_ E_ S_ M_ B_ T_ K_ hx hb hml hr hts hown hlk hP hK ls hl
  have hl : lv_has ls 1 [(0, .int v)] := hl
  refine lv_iload_n hx hb dX4_isWeeks_0 rfl (lv_at hl 0 rfl) ?_
  refine lv_if_lt (tgt := 14) hx hb dX4_isWeeks_1 (by decide) (fun c_1 => ?_) (fun c_1 => ?_)
  · refine lv_iconst (v := 0) hx hb dX4_isWeeks_14 (by decide) ?_
    refine rz_ret (v := 0) hx hb hr hlk dX4_isWeeks_15 (by decide) ?_
    refine b2_0 ?_
    simp only [inN, softP, inS, ripP, Int32.lt_iff_toInt_lt, Int32.le_iff_toInt_le, ← Int32.toInt_inj, ti_0, ti_1, ti_2, ti_3, ti_4, ti_8, ti_9, ti_10, ti_14, ti_15, ti_20, ti_60, ti_m1] at c_1 ⊢
    omega
  · refine lv_iload_n hx hb dX4_isWeeks_4 rfl (lv_at hl 0 rfl) ?_
    refine lv_bipush (v := 9) hx hb dX4_isWeeks_5 (by decide) ?_
    refine lv_icmp_gt (tgt := 14) hx hb dX4_isWeeks_7 (by decide) (fun c_2 => ?_) (fun c_2 => ?_)
    · refine lv_iconst (v := 0) hx hb dX4_isWeeks_14 (by decide) ?_
      refine rz_ret (v := 0) hx hb hr hlk dX4_isWeeks_15 (by decide) ?_
      refine b2_0 ?_
      simp only [inN, softP, inS, ripP, Int32.lt_iff_toInt_lt, Int32.le_iff_toInt_le, ← Int32.toInt_inj, ti_0, ti_1, ti_2, ti_3, ti_4, ti_8, ti_9, ti_10, ti_14, ti_15, ti_20, ti_60, ti_m1] at c_1 c_2 ⊢
      omega
    · refine lv_iconst (v := 1) hx hb dX4_isWeeks_10 (by decide) ?_
      refine lv_goto (tgt := 15) hx hb dX4_isWeeks_11 (by decide) ?_
      refine rz_ret (v := 1) hx hb hr hlk dX4_isWeeks_15 (by decide) ?_
      refine b2_1 ?_
      simp only [inN, softP, inS, ripP, Int32.lt_iff_toInt_lt, Int32.le_iff_toInt_le, ← Int32.toInt_inj, ti_0, ti_1, ti_2, ti_3, ti_4, ti_8, ti_9, ti_10, ti_14, ti_15, ti_20, ti_60, ti_m1] at c_1 c_2 ⊢
      omega
set_option maxRecDepth 100000 in
set_option maxHeartbeats 4000000 in
/-- X4_isInches -/
theorem c_X4_isInches (l : Launch) (D : va_G) (cI cJ cO : ClassId) (v : Int32) : RG l yX4_isInches wsX4_isInches 0 0 D [(cI, .int), (cJ, .long), (cO, .object "ShornHill$Sheet")] [.int v] [] (vp_Si (fun (r : Int32) => r = (b2 (inN v 10)))) := by
  refine RG.of (cc := cX4_isInches) (maxL := 1) (ret := (some .boolean)) (by decide) rfl (Nat.le_of_ble_eq_true rfl) ?_
  intro P_ E_ S_ M_ B_ T_ K_ hx hb hml hr hts hown hlk hP hK ls hl
  have hl : lv_has ls 1 [(0, .int v)] := hl
  refine lv_iload_n hx hb dX4_isInches_0 rfl (lv_at hl 0 rfl) ?_
  refine lv_if_lt (tgt := 14) hx hb dX4_isInches_1 (by decide) (fun c_1 => ?_) (fun c_1 => ?_)
  · refine lv_iconst (v := 0) hx hb dX4_isInches_14 (by decide) ?_
    refine rz_ret (v := 0) hx hb hr hlk dX4_isInches_15 (by decide) ?_
    refine b2_0 ?_
    simp only [inN, softP, inS, ripP, Int32.lt_iff_toInt_lt, Int32.le_iff_toInt_le, ← Int32.toInt_inj, ti_0, ti_1, ti_2, ti_3, ti_4, ti_8, ti_9, ti_10, ti_14, ti_15, ti_20, ti_60, ti_m1] at c_1 ⊢
    omega
  · refine lv_iload_n hx hb dX4_isInches_4 rfl (lv_at hl 0 rfl) ?_
    refine lv_bipush (v := 9) hx hb dX4_isInches_5 (by decide) ?_
    refine lv_icmp_gt (tgt := 14) hx hb dX4_isInches_7 (by decide) (fun c_2 => ?_) (fun c_2 => ?_)
    · refine lv_iconst (v := 0) hx hb dX4_isInches_14 (by decide) ?_
      refine rz_ret (v := 0) hx hb hr hlk dX4_isInches_15 (by decide) ?_
      refine b2_0 ?_
      simp only [inN, softP, inS, ripP, Int32.lt_iff_toInt_lt, Int32.le_iff_toInt_le, ← Int32.toInt_inj, ti_0, ti_1, ti_2, ti_3, ti_4, ti_8, ti_9, ti_10, ti_14, ti_15, ti_20, ti_60, ti_m1] at c_1 c_2 ⊢
      omega
    · refine lv_iconst (v := 1) hx hb dX4_isInches_10 (by decide) ?_
      refine lv_goto (tgt := 15) hx hb dX4_isInches_11 (by decide) ?_
      refine rz_ret (v := 1) hx hb hr hlk dX4_isInches_15 (by decide) ?_
      refine b2_1 ?_
      simp only [inN, softP, inS, ripP, Int32.lt_iff_toInt_lt, Int32.le_iff_toInt_le, ← Int32.toInt_inj, ti_0, ti_1, ti_2, ti_3, ti_4, ti_8, ti_9, ti_10, ti_14, ti_15, ti_20, ti_60, ti_m1] at c_1 c_2 ⊢
      omega
set_option maxRecDepth 100000 in
set_option maxHeartbeats 4000000 in
/-- X4_bit -/
theorem c_X4_bit (l : Launch) (D : va_G) (cI cJ cO : ClassId) (v : Int32) : RG l yX4_bit wsX4_bit 0 0 D [(cI, .int), (cJ, .long), (cO, .object "ShornHill$Sheet")] [.int v] [] (vp_Si (fun (r : Int32) => r = (bi v))) := by
  refine RG.of (cc := cX4_bit) (maxL := 1) (ret := (some .int)) (by decide) rfl (Nat.le_of_ble_eq_true rfl) ?_
  intro P_ E_ S_ M_ B_ T_ K_ hx hb hml hr hts hown hlk hP hK ls hl
  have hl : lv_has ls 1 [(0, .int v)] := hl
  refine lv_iconst (v := 1) hx hb dX4_bit_0 (by decide) ?_
  refine lv_iload_n hx hb dX4_bit_1 rfl (lv_at hl 0 rfl) ?_
  refine lv_ishl hx hb dX4_bit_2 ?_
  refine ri_ret (v := (1 <<< (v &&& 31))) hx hb hr hlk dX4_bit_3 ?_
  rfl
set_option maxRecDepth 100000 in
set_option maxHeartbeats 4000000 in
/-- X4_isIn -/
theorem c_X4_isIn (l : Launch) (D : va_G) (cI cJ cO : ClassId) (u : Int32) (v : Int32) : RG l yX4_isIn wsX4_isIn 1 20 D [(cI, .int), (cJ, .long), (cO, .object "ShornHill$Sheet")] [.int u, .int v] [] (vp_Si (fun (r : Int32) => r = (b2 (inS u v)))) := by
  refine RG.of (cc := cX4_isIn) (maxL := 2) (ret := (some .boolean)) (by decide) rfl (Nat.le_of_ble_eq_true rfl) ?_
  intro P_ E_ S_ M_ B_ T_ K_ hx hb hml hr hts hown hlk hP hK ls hl
  have hl : lv_has ls 2 [(0, .int u), (1, .int v)] := hl
  refine lv_iload_n hx hb dX4_isIn_0 rfl (lv_at hl 1 rfl) ?_
  refine lv_if_lt (tgt := 17) hx hb dX4_isIn_1 (by decide) (fun c_1 => ?_) (fun c_1 => ?_)
  · refine lv_iconst (v := 0) hx hb dX4_isIn_17 (by decide) ?_
    refine rz_ret (v := 0) hx hb hr hlk dX4_isIn_18 (by decide) ?_
    refine b2_0 ?_
    simp only [inN, softP, inS, ripP, Int32.lt_iff_toInt_lt, Int32.le_iff_toInt_le, ← Int32.toInt_inj, ti_0, ti_1, ti_2, ti_3, ti_4, ti_8, ti_9, ti_10, ti_14, ti_15, ti_20, ti_60, ti_m1] at c_1 ⊢
    omega
  · refine lv_iload_n hx hb dX4_isIn_4 rfl (lv_at hl 0 rfl) ?_
    refine lv_iload_n hx hb dX4_isIn_5 rfl (lv_at hl 1 rfl) ?_
    refine k_ri (run_RS (As := [.int v]) (rest := [.int u]) ⟨hx, hb, hml, hown, hts⟩ (c_X4_bit l D cI cJ cO v) (va_cwS 1 hts gX4_isIn_X4_bit rfl rfl rfl (by decide +kernel) ⟨Nat.le_of_ble_eq_true rfl, Nat.le_of_ble_eq_true rfl⟩) hP hK [] rfl rfl hl.1 rfl (Nat.le_of_ble_eq_true rfl) dX4_isIn_6 ⟨Nat.le_refl _, Nat.le_refl _⟩) (fun r_2 q_3 => ?_)
    obtain rfl := q_3
    refine lv_iand hx hb dX4_isIn_9 ?_
    refine lv_if_eq (tgt := 17) hx hb dX4_isIn_10 (by decide) (fun c_4 => ?_) (fun c_4 => ?_)
    · refine lv_iconst (v := 0) hx hb dX4_isIn_17 (by decide) ?_
      refine rz_ret (v := 0) hx hb hr hlk dX4_isIn_18 (by decide) ?_
      refine b2_0 ?_
      simp only [inN, softP, inS, ripP, Int32.lt_iff_toInt_lt, Int32.le_iff_toInt_le, ← Int32.toInt_inj, ti_0, ti_1, ti_2, ti_3, ti_4, ti_8, ti_9, ti_10, ti_14, ti_15, ti_20, ti_60, ti_m1] at c_1 c_4 ⊢
      omega
    · refine lv_iconst (v := 1) hx hb dX4_isIn_13 (by decide) ?_
      refine lv_goto (tgt := 18) hx hb dX4_isIn_14 (by decide) ?_
      refine rz_ret (v := 1) hx hb hr hlk dX4_isIn_18 (by decide) ?_
      refine b2_1 ?_
      simp only [inN, softP, inS, ripP, Int32.lt_iff_toInt_lt, Int32.le_iff_toInt_le, ← Int32.toInt_inj, ti_0, ti_1, ti_2, ti_3, ti_4, ti_8, ti_9, ti_10, ti_14, ti_15, ti_20, ti_60, ti_m1] at c_1 c_4 ⊢
      omega
set_option maxRecDepth 100000 in
set_option maxHeartbeats 4000000 in
/-- X4_without -/
theorem c_X4_without (l : Launch) (D : va_G) (cI cJ cO : ClassId) (u : Int32) (v : Int32) : RG l yX4_without wsX4_without 1 20 D [(cI, .int), (cJ, .long), (cO, .object "ShornHill$Sheet")] [.int u, .int v] [] (vp_Si (fun (r : Int32) => r = (wo u v))) := by
  refine RG.of (cc := cX4_without) (maxL := 2) (ret := (some .int)) (by decide) rfl (Nat.le_of_ble_eq_true rfl) ?_
  intro P_ E_ S_ M_ B_ T_ K_ hx hb hml hr hts hown hlk hP hK ls hl
  have hl : lv_has ls 2 [(0, .int u), (1, .int v)] := hl
  refine lv_iload_n hx hb dX4_without_0 rfl (lv_at hl 0 rfl) ?_
  refine lv_iload_n hx hb dX4_without_1 rfl (lv_at hl 1 rfl) ?_
  refine k_ri (run_RS (As := [.int v]) (rest := [.int u]) ⟨hx, hb, hml, hown, hts⟩ (c_X4_bit l D cI cJ cO v) (va_cwS 1 hts gX4_without_X4_bit rfl rfl rfl (by decide +kernel) ⟨Nat.le_of_ble_eq_true rfl, Nat.le_of_ble_eq_true rfl⟩) hP hK [] rfl rfl hl.1 rfl (Nat.le_of_ble_eq_true rfl) dX4_without_2 ⟨Nat.le_refl _, Nat.le_refl _⟩) (fun r_1 q_2 => ?_)
  obtain rfl := q_2
  refine lv_iconst (v := (-1)) hx hb dX4_without_5 (by decide) ?_
  refine lv_ixor hx hb dX4_without_6 ?_
  refine lv_iand hx hb dX4_without_7 ?_
  refine ri_ret (v := (u &&& ((bi v) ^^^ (-1)))) hx hb hr hlk dX4_without_8 ?_
  rfl
end
section
theorem iwX0_cells_X0 : ∀ x ∈ wsX00, x ∈ wsX0_cells := by decide +kernel
set_option maxRecDepth 100000 in
set_option maxHeartbeats 4000000 in
/-- X0_cells -/
theorem c_X0_cells (l : Launch) (D : va_G) (cI cJ cO : ClassId) (a : Nat → Nat) (h : Nat) (w : Nat) (pc : Int32) (br : Int32) (kd : Nat → Int32) (et : Nat → Int32) (nb : Nat → Int32) : RG l yX0_cells wsX0_cells 0 0 D [(cI, .int), (cJ, .long), (cO, .object "ShornHill$Sheet")] [.ref (a 1)] [(a 1, .inr (0, [.int (nI h), .int (nI w), .int pc, .int br, .ref (a 2), .ref (a 3), .ref (a 4)])), (a 2, .inl (cI, 16, .inl kd)), (a 3, .inl (cI, 16, .inl et)), (a 4, .inl (cI, 64, .inl nb))] (vp_Si (fun (r : Int32) => r = (nI (h * w)))) := by
  refine RG.of (cc := cX0_cells) (maxL := 1) (ret := (some .int)) (by decide) rfl (Nat.le_of_ble_eq_true rfl) ?_
  intro P_ E_ S_ M_ B_ T_ K_ hx hb hml hr hts hown hlk hP hK ls hl
  have hl : lv_has ls 1 [(0, .ref (a 1))] := hl
  have hin0 : ∀ x ∈ u_ws RX0 TX0 7, x ∈ wsX0_cells := iwX0_cells_X0
  refine lv_aload_n hx hb dX0_cells_0 rfl (lv_at hl 0 rfl) ?_
  refine va_get (D := D) (ci := 0) (v := .int (nI h)) (C := RX0) (T := TX0) (N := 7) hx hb hts hin0 hown hK.1 hP 0 rfl rfl 0 (by decide) (hts _ (List.mem_of_getElem? (i := 1) rfl)) (fun _ h9 => h9) rfl dX0_cells_1 ?_
  refine lv_aload_n hx hb dX0_cells_4 rfl (lv_at hl 0 rfl) ?_
  refine va_get (D := D) (ci := 0) (v := .int (nI w)) (C := RX0) (T := TX0) (N := 7) hx hb hts hin0 hown hK.1 hP 0 rfl rfl 1 (by decide) (hts _ (List.mem_of_getElem? (i := 2) rfl)) (fun _ h9 => h9) rfl dX0_cells_5 ?_
  refine lv_imul hx hb dX0_cells_8 ?_
  refine k_top (y := (nI (h * w))) (pk_mul _ _) ?_
  refine ri_ret (v := (nI (h * w))) hx hb hr hlk dX0_cells_9 ?_
  rfl
theorem iwX0_stands_X0 : ∀ x ∈ wsX00, x ∈ wsX0_stands := by decide +kernel
set_option maxRecDepth 100000 in
set_option maxHeartbeats 4000000 in
/-- X0_stands -/
theorem c_X0_stands (l : Launch) (D : va_G) (cI cJ cO : ClassId) (a : Nat → Nat) (h : Nat) (w : Nat) (pc : Int32) (br : Int32) (kd : Nat → Int32) (et : Nat → Int32) (nb : Nat → Int32) (hh : h ≤ 4) : RG l yX0_stands wsX0_stands 0 0 D [(cI, .int), (cJ, .long), (cO, .object "ShornHill$Sheet")] [.ref (a 1)] [(a 1, .inr (0, [.int (nI h), .int (nI w), .int pc, .int br, .ref (a 2), .ref (a 3), .ref (a 4)])), (a 2, .inl (cI, 16, .inl kd)), (a 3, .inl (cI, 16, .inl et)), (a 4, .inl (cI, 64, .inl nb))] (vp_Si (fun (r : Int32) => r = (b2 (0 < h)))) := by
  refine RG.of (cc := cX0_stands) (maxL := 1) (ret := (some .boolean)) (by decide) rfl (Nat.le_of_ble_eq_true rfl) ?_
  intro P_ E_ S_ M_ B_ T_ K_ hx hb hml hr hts hown hlk hP hK ls hl
  have hl : lv_has ls 1 [(0, .ref (a 1))] := hl
  have hin0 : ∀ x ∈ u_ws RX0 TX0 7, x ∈ wsX0_stands := iwX0_stands_X0
  refine lv_aload_n hx hb dX0_stands_0 rfl (lv_at hl 0 rfl) ?_
  refine va_get (D := D) (ci := 0) (v := .int (nI h)) (C := RX0) (T := TX0) (N := 7) hx hb hts hin0 hown hK.1 hP 0 rfl rfl 0 (by decide) (hts _ (List.mem_of_getElem? (i := 1) rfl)) (fun _ h9 => h9) rfl dX0_stands_1 ?_
  refine lv_if_le (tgt := 11) hx hb dX0_stands_4 (by decide) (fun c_1 => ?_) (fun c_1 => ?_)
  · refine lv_iconst (v := 0) hx hb dX0_stands_11 (by decide) ?_
    refine rz_ret (v := 0) hx hb hr hlk dX0_stands_12 (by decide) ?_
    refine b2_0 ?_
    simp only [inN, softP, inS, ripP, Int32.lt_iff_toInt_lt, Int32.le_iff_toInt_le, ← Int32.toInt_inj, ti_0, ti_1, ti_2, ti_3, ti_4, ti_8, ti_9, ti_10, ti_14, ti_15, ti_20, ti_60, ti_m1, nI_toInt (show h < 2 ^ 31 by omega)] at c_1 ⊢
    omega
  · refine lv_iconst (v := 1) hx hb dX0_stands_7 (by decide) ?_
    refine lv_goto (tgt := 12) hx hb dX0_stands_8 (by decide) ?_
    refine rz_ret (v := 1) hx hb hr hlk dX0_stands_12 (by decide) ?_
    refine b2_1 ?_
    simp only [inN, softP, inS, ripP, Int32.lt_iff_toInt_lt, Int32.le_iff_toInt_le, ← Int32.toInt_inj, ti_0, ti_1, ti_2, ti_3, ti_4, ti_8, ti_9, ti_10, ti_14, ti_15, ti_20, ti_60, ti_m1, nI_toInt (show h < 2 ^ 31 by omega)] at c_1 ⊢
    omega
set_option maxRecDepth 100000 in
set_option maxHeartbeats 4000000 in
/-- X0_has -/
theorem c_X0_has (l : Launch) (D : va_G) (cI cJ cO : ClassId) (a : Nat → Nat) (h : Nat) (w : Nat) (pc : Int32) (br : Int32) (kd : Nat → Int32) (et : Nat → Int32) (nb : Nat → Int32) (c : Int32) (hn : h * w ≤ 16) : RG l yX0_has wsX0_has 1 20 D [(cI, .int), (cJ, .long), (cO, .object "ShornHill$Sheet")] [.ref (a 1), .int c] [(a 1, .inr (0, [.int (nI h), .int (nI w), .int pc, .int br, .ref (a 2), .ref (a 3), .ref (a 4)])), (a 2, .inl (cI, 16, .inl kd)), (a 3, .inl (cI, 16, .inl et)), (a 4, .inl (cI, 64, .inl nb))] (vp_Si (fun (r : Int32) => r = (b2 (inN c (h * w))))) := by
  refine RG.of (cc := cX0_has) (maxL := 2) (ret := (some .boolean)) (by decide) rfl (Nat.le_of_ble_eq_true rfl) ?_
  intro P_ E_ S_ M_ B_ T_ K_ hx hb hml hr hts hown hlk hP hK ls hl
  have hl : lv_has ls 2 [(0, .ref (a 1)), (1, .int c)] := hl
  refine lv_iload_n hx hb dX0_has_0 rfl (lv_at hl 1 rfl) ?_
  refine lv_if_lt (tgt := 16) hx hb dX0_has_1 (by decide) (fun c_1 => ?_) (fun c_1 => ?_)
  · refine lv_iconst (v := 0) hx hb dX0_has_16 (by decide) ?_
    refine rz_ret (v := 0) hx hb hr hlk dX0_has_17 (by decide) ?_
    refine b2_0 ?_
    simp only [inN, softP, inS, ripP, Int32.lt_iff_toInt_lt, Int32.le_iff_toInt_le, ← Int32.toInt_inj, ti_0, ti_1, ti_2, ti_3, ti_4, ti_8, ti_9, ti_10, ti_14, ti_15, ti_20, ti_60, ti_m1] at c_1 ⊢
    omega
  · refine lv_iload_n hx hb dX0_has_4 rfl (lv_at hl 1 rfl) ?_
    refine lv_aload_n hx hb dX0_has_5 rfl (lv_at hl 0 rfl) ?_
    refine k_ri (run_RV (As := []) (rest := [.int c]) ⟨hx, hb, hml, hown, hts⟩ (c_X0_cells l D cI cJ cO a h w pc br kd et nb) (cwV 0 hts gX0_has_X0_cells rfl rfl rfl (by decide +kernel) ⟨Nat.le_of_ble_eq_true rfl, Nat.le_of_ble_eq_true rfl⟩) hP hK [0, 1, 2, 3] rfl rfl rfl rfl rfl hl.1 rfl (Nat.le_of_ble_eq_true rfl) dX0_has_6 ⟨Nat.le_refl _, Nat.le_refl _⟩) (fun r_2 q_3 => ?_)
    obtain rfl := q_3
    refine lv_icmp_ge (tgt := 16) hx hb dX0_has_9 (by decide) (fun c_4 => ?_) (fun c_4 => ?_)
    · refine lv_iconst (v := 0) hx hb dX0_has_16 (by decide) ?_
      refine rz_ret (v := 0) hx hb hr hlk dX0_has_17 (by decide) ?_
      refine b2_0 ?_
      simp only [inN, softP, inS, ripP, Int32.lt_iff_toInt_lt, Int32.le_iff_toInt_le, ← Int32.toInt_inj, ti_0, ti_1, ti_2, ti_3, ti_4, ti_8, ti_9, ti_10, ti_14, ti_15, ti_20, ti_60, ti_m1, nI_toInt (show (h * w) < 2 ^ 31 by omega)] at c_1 c_4 ⊢
      omega
    · refine lv_iconst (v := 1) hx hb dX0_has_12 (by decide) ?_
      refine lv_goto (tgt := 17) hx hb dX0_has_13 (by decide) ?_
      refine rz_ret (v := 1) hx hb hr hlk dX0_has_17 (by decide) ?_
      refine b2_1 ?_
      simp only [inN, softP, inS, ripP, Int32.lt_iff_toInt_lt, Int32.le_iff_toInt_le, ← Int32.toInt_inj, ti_0, ti_1, ti_2, ti_3, ti_4, ti_8, ti_9, ti_10, ti_14, ti_15, ti_20, ti_60, ti_m1, nI_toInt (show (h * w) < 2 ^ 31 by omega)] at c_1 c_4 ⊢
      omega
theorem iwX0_isSoft_X0 : ∀ x ∈ wsX00, x ∈ wsX0_isSoft := by decide +kernel
set_option maxRecDepth 100000 in
set_option maxHeartbeats 4000000 in
/-- X0_isSoft -/
theorem c_X0_isSoft (l : Launch) (D : va_G) (cI cJ cO : ClassId) (a : Nat → Nat) (h : Nat) (w : Nat) (pc : Int32) (br : Int32) (kd : Nat → Int32) (et : Nat → Int32) (nb : Nat → Int32) (c : Int32) (hn : h * w ≤ 16) : RG l yX0_isSoft wsX0_isSoft 2 41 D [(cI, .int), (cJ, .long), (cO, .object "ShornHill$Sheet")] [.ref (a 1), .int c] [(a 1, .inr (0, [.int (nI h), .int (nI w), .int pc, .int br, .ref (a 2), .ref (a 3), .ref (a 4)])), (a 2, .inl (cI, 16, .inl kd)), (a 3, .inl (cI, 16, .inl et)), (a 4, .inl (cI, 64, .inl nb))] (vp_Si (fun (r : Int32) => r = (b2 (softP (h * w) kd c)))) := by
  refine RG.of (cc := cX0_isSoft) (maxL := 2) (ret := (some .boolean)) (by decide) rfl (Nat.le_of_ble_eq_true rfl) ?_
  intro P_ E_ S_ M_ B_ T_ K_ hx hb hml hr hts hown hlk hP hK ls hl
  have hl : lv_has ls 2 [(0, .ref (a 1)), (1, .int c)] := hl
  have hin0 : ∀ x ∈ u_ws RX0 TX0 7, x ∈ wsX0_isSoft := iwX0_isSoft_X0
  refine lv_aload_n hx hb dX0_isSoft_0 rfl (lv_at hl 0 rfl) ?_
  refine lv_iload_n hx hb dX0_isSoft_1 rfl (lv_at hl 1 rfl) ?_
  refine k_ri (run_RV (As := [.int c]) (rest := []) ⟨hx, hb, hml, hown, hts⟩ (c_X0_has l D cI cJ cO a h w pc br kd et nb c hn) (cwV 1 hts gX0_isSoft_X0_has rfl rfl rfl (by decide +kernel) ⟨Nat.le_of_ble_eq_true rfl, Nat.le_of_ble_eq_true rfl⟩) hP hK [0, 1, 2, 3] rfl rfl rfl rfl rfl hl.1 rfl (Nat.le_of_ble_eq_true rfl) dX0_isSoft_2 ⟨Nat.le_refl _, Nat.le_refl _⟩) (fun r_1 q_2 => ?_)
  obtain rfl := q_2
  refine lv_if_eq (tgt := 22) hx hb dX0_isSoft_5 (by decide) (fun c_3 => ?_) (fun c_3 => ?_)
  · have c_3 := b2_f c_3
    refine lv_iconst (v := 0) hx hb dX0_isSoft_22 (by decide) ?_
    refine rz_ret (v := 0) hx hb hr hlk dX0_isSoft_23 (by decide) ?_
    refine b2_0 ?_
    simp only [inN, softP, inS, ripP, Int32.lt_iff_toInt_lt, Int32.le_iff_toInt_le, ← Int32.toInt_inj, ti_0, ti_1, ti_2, ti_3, ti_4, ti_8, ti_9, ti_10, ti_14, ti_15, ti_20, ti_60, ti_m1] at c_3 ⊢
    omega
  · have c_3 := b2_t c_3
    refine lv_aload_n hx hb dX0_isSoft_8 rfl (lv_at hl 0 rfl) ?_
    refine va_get (D := D) (ci := 0) (v := .ref (a 2)) (C := RX0) (T := TX0) (N := 7) hx hb hts hin0 hown hK.1 hP 0 rfl rfl 4 (by decide) (hts _ (List.mem_of_getElem? (i := 1) rfl)) (fun _ h9 => h9) rfl dX0_isSoft_9 ?_
    refine lv_iload_n hx hb dX0_isSoft_12 rfl (lv_at hl 1 rfl) ?_
    refine k_iald hx hb hK hP 1 0 rfl rfl (j := c.toNatClampNeg) (inN.vp c_3 (by omega)) rfl dX0_isSoft_13 ?_
    refine lv_iconst (v := 3) hx hb dX0_isSoft_14 (by decide) ?_
    refine lv_icmp_eq (tgt := 22) hx hb dX0_isSoft_15 (by decide) (fun c_4 => ?_) (fun c_4 => ?_)
    · refine lv_iconst (v := 0) hx hb dX0_isSoft_22 (by decide) ?_
      refine rz_ret (v := 0) hx hb hr hlk dX0_isSoft_23 (by decide) ?_
      refine b2_0 ?_
      simp only [inN, softP, inS, ripP, Int32.lt_iff_toInt_lt, Int32.le_iff_toInt_le, ← Int32.toInt_inj, ti_0, ti_1, ti_2, ti_3, ti_4, ti_8, ti_9, ti_10, ti_14, ti_15, ti_20, ti_60, ti_m1] at c_3 c_4 ⊢
      omega
    · refine lv_iconst (v := 1) hx hb dX0_isSoft_18 (by decide) ?_
      refine lv_goto (tgt := 23) hx hb dX0_isSoft_19 (by decide) ?_
      refine rz_ret (v := 1) hx hb hr hlk dX0_isSoft_23 (by decide) ?_
      refine b2_1 ?_
      simp only [inN, softP, inS, ripP, Int32.lt_iff_toInt_lt, Int32.le_iff_toInt_le, ← Int32.toInt_inj, ti_0, ti_1, ti_2, ti_3, ti_4, ti_8, ti_9, ti_10, ti_14, ti_15, ti_20, ti_60, ti_m1] at c_3 c_4 ⊢
      omega
theorem iwX0_weekly_X0 : ∀ x ∈ wsX00, x ∈ wsX0_weekly := by decide +kernel
set_option maxRecDepth 100000 in
set_option maxHeartbeats 4000000 in
/-- X0_weekly -/
theorem c_X0_weekly (l : Launch) (D : va_G) (cI cJ cO : ClassId) (a : Nat → Nat) (h : Nat) (w : Nat) (pc : Int32) (br : Int32) (kd : Nat → Int32) (et : Nat → Int32) (nb : Nat → Int32) (c : Int32) (j : Nat) (hv_c : vp_in c 16) (hj_c : c.toNatClampNeg = j) : RG l yX0_weekly wsX0_weekly 0 0 D [(cI, .int), (cJ, .long), (cO, .object "ShornHill$Sheet")] [.ref (a 1), .int c] [(a 1, .inr (0, [.int (nI h), .int (nI w), .int pc, .int br, .ref (a 2), .ref (a 3), .ref (a 4)])), (a 2, .inl (cI, 16, .inl kd)), (a 3, .inl (cI, 16, .inl et)), (a 4, .inl (cI, 64, .inl nb))] (vp_Si (fun (r : Int32) => r = (wk (kd j) pc))) := by
  refine RG.of (cc := cX0_weekly) (maxL := 2) (ret := (some .int)) (by decide) rfl (Nat.le_of_ble_eq_true rfl) ?_
  intro P_ E_ S_ M_ B_ T_ K_ hx hb hml hr hts hown hlk hP hK ls hl
  have hl : lv_has ls 2 [(0, .ref (a 1)), (1, .int c)] := hl
  have hin0 : ∀ x ∈ u_ws RX0 TX0 7, x ∈ wsX0_weekly := iwX0_weekly_X0
  refine lv_aload_n hx hb dX0_weekly_0 rfl (lv_at hl 0 rfl) ?_
  refine va_get (D := D) (ci := 0) (v := .ref (a 2)) (C := RX0) (T := TX0) (N := 7) hx hb hts hin0 hown hK.1 hP 0 rfl rfl 4 (by decide) (hts _ (List.mem_of_getElem? (i := 1) rfl)) (fun _ h9 => h9) rfl dX0_weekly_1 ?_
  refine lv_iload_n hx hb dX0_weekly_4 rfl (lv_at hl 1 rfl) ?_
  refine k_iald hx hb hK hP 1 0 rfl rfl (j := j) hv_c hj_c dX0_weekly_5 ?_
  rcases sw3 ((kd j)) with c_1 | c_1 | c_1 | c_1
  · refine lv_tableIn (off := 26) (tgt := 32) hx hb dX0_weekly_6 (by rw [c_1]; decide) (by rw [c_1]; decide) (by rw [c_1]; rfl) (by decide) ?_
    refine lv_aload_n hx hb dX0_weekly_32 rfl (lv_at hl 0 rfl) ?_
    refine va_get (D := D) (ci := 0) (v := .int pc) (C := RX0) (T := TX0) (N := 7) hx hb hts hin0 hown hK.1 hP 0 rfl rfl 2 (by decide) (hts _ (List.mem_of_getElem? (i := 2) rfl)) (fun _ h9 => h9) rfl dX0_weekly_33 ?_
    refine ri_ret (v := pc) hx hb hr hlk dX0_weekly_36 ?_
    rw [c_1]; rfl
  · refine lv_tableIn (off := 31) (tgt := 37) hx hb dX0_weekly_6 (by rw [c_1]; decide) (by rw [c_1]; decide) (by rw [c_1]; rfl) (by decide) ?_
    refine lv_aload_n hx hb dX0_weekly_37 rfl (lv_at hl 0 rfl) ?_
    refine va_get (D := D) (ci := 0) (v := .int pc) (C := RX0) (T := TX0) (N := 7) hx hb hts hin0 hown hK.1 hP 0 rfl rfl 2 (by decide) (hts _ (List.mem_of_getElem? (i := 2) rfl)) (fun _ h9 => h9) rfl dX0_weekly_38 ?_
    refine lv_iconst (v := 1) hx hb dX0_weekly_41 (by decide) ?_
    refine lv_iadd hx hb dX0_weekly_42 ?_
    refine ri_ret (v := (pc + 1)) hx hb hr hlk dX0_weekly_43 ?_
    rw [c_1]; rfl
  · refine lv_tableIn (off := 38) (tgt := 44) hx hb dX0_weekly_6 (by rw [c_1]; decide) (by rw [c_1]; decide) (by rw [c_1]; rfl) (by decide) ?_
    refine lv_iconst (v := 2) hx hb dX0_weekly_44 (by decide) ?_
    refine lv_aload_n hx hb dX0_weekly_45 rfl (lv_at hl 0 rfl) ?_
    refine va_get (D := D) (ci := 0) (v := .int pc) (C := RX0) (T := TX0) (N := 7) hx hb hts hin0 hown hK.1 hP 0 rfl rfl 2 (by decide) (hts _ (List.mem_of_getElem? (i := 2) rfl)) (fun _ h9 => h9) rfl dX0_weekly_46 ?_
    refine lv_iconst (v := 1) hx hb dX0_weekly_49 (by decide) ?_
    refine lv_iadd hx hb dX0_weekly_50 ?_
    refine lv_imul hx hb dX0_weekly_51 ?_
    refine ri_ret (v := (2 * (pc + 1))) hx hb hr hlk dX0_weekly_52 ?_
    rw [c_1]; rfl
  · refine lv_tableOut (tgt := 53) hx hb dX0_weekly_6 c_1 (by decide) ?_
    refine lv_iconst (v := 0) hx hb dX0_weekly_53 (by decide) ?_
    refine ri_ret (v := 0) hx hb hr hlk dX0_weekly_54 ?_
    exact (wk_out _ c_1).symm
theorem iwX0_inches_X0 : ∀ x ∈ wsX00, x ∈ wsX0_inches := by decide +kernel
set_option maxRecDepth 100000 in
set_option maxHeartbeats 4000000 in
/-- X0_inches -/
theorem c_X0_inches (l : Launch) (D : va_G) (cI cJ cO : ClassId) (a : Nat → Nat) (h : Nat) (w : Nat) (pc : Int32) (br : Int32) (kd : Nat → Int32) (et : Nat → Int32) (nb : Nat → Int32) (c : Int32) (ws : Int32) (j : Nat) (hv_c : vp_in c 16) (hj_c : c.toNatClampNeg = j) : RG l yX0_inches wsX0_inches 1 21 D [(cI, .int), (cJ, .long), (cO, .object "ShornHill$Sheet")] [.ref (a 1), .int c, .int ws] [(a 1, .inr (0, [.int (nI h), .int (nI w), .int pc, .int br, .ref (a 2), .ref (a 3), .ref (a 4)])), (a 2, .inl (cI, 16, .inl kd)), (a 3, .inl (cI, 16, .inl et)), (a 4, .inl (cI, 64, .inl nb))] (vp_Si (fun (r : Int32) => r = (cv (kd j) pc (et j) ws))) := by
  refine RG.of (cc := cX0_inches) (maxL := 4) (ret := (some .int)) (by decide) rfl (Nat.le_of_ble_eq_true rfl) ?_
  intro P_ E_ S_ M_ B_ T_ K_ hx hb hml hr hts hown hlk hP hK ls hl
  have hl : lv_has ls 4 [(0, .ref (a 1)), (1, .int c), (2, .int ws)] := hl
  have hin0 : ∀ x ∈ u_ws RX0 TX0 7, x ∈ wsX0_inches := iwX0_inches_X0
  refine lv_iload_n hx hb dX0_inches_0 rfl (lv_at hl 2 rfl) ?_
  refine lv_aload_n hx hb dX0_inches_1 rfl (lv_at hl 0 rfl) ?_
  refine lv_iload_n hx hb dX0_inches_2 rfl (lv_at hl 1 rfl) ?_
  refine k_ri (run_RV (As := [.int c]) (rest := [.int ws]) ⟨hx, hb, hml, hown, hts⟩ (c_X0_weekly l D cI cJ cO a h w pc br kd et nb c j hv_c hj_c) (cwV 1 hts gX0_inches_X0_weekly rfl rfl rfl (by decide +kernel) ⟨Nat.le_of_ble_eq_true rfl, Nat.le_of_ble_eq_true rfl⟩) hP hK [0, 1, 2, 3] rfl rfl rfl rfl rfl hl.1 rfl (Nat.le_of_ble_eq_true rfl) dX0_inches_3 ⟨Nat.le_refl _, Nat.le_refl _⟩) (fun r_1 q_2 => ?_)
  obtain rfl := q_2
  refine lv_imul hx hb dX0_inches_6 ?_
  refine lv_aload_n hx hb dX0_inches_7 rfl (lv_at hl 0 rfl) ?_
  refine va_get (D := D) (ci := 0) (v := .ref (a 3)) (C := RX0) (T := TX0) (N := 7) hx hb hts hin0 hown hK.1 hP 0 rfl rfl 5 (by decide) (hts _ (List.mem_of_getElem? (i := 1) rfl)) (fun _ h9 => h9) rfl dX0_inches_8 ?_
  refine lv_iload_n hx hb dX0_inches_11 rfl (lv_at hl 1 rfl) ?_
  refine k_iald hx hb hK hP 2 0 rfl rfl (j := j) hv_c hj_c dX0_inches_12 ?_
  refine lv_isub hx hb dX0_inches_13 ?_
  refine lv_istore_n (lv' := [(3, .int ((ws * (wk (kd j) pc)) - (et j))), (0, .ref (a 1)), (1, .int c), (2, .int ws)]) hx hb dX0_inches_14 rfl hl (by decide) rfl (fun ls hl => ?_)
  refine lv_iconst (v := 0) hx hb dX0_inches_15 (by decide) ?_
  refine lv_bipush (v := 9) hx hb dX0_inches_16 (by decide) ?_
  refine lv_iload_n hx hb dX0_inches_18 rfl (lv_at hl 0 rfl) ?_
  refine va_mmin hx hb (hml.trans hl.1.symm) hown (hts _ (List.mem_of_getElem? (i := 2) rfl)) (hts _ (List.mem_of_getElem? (i := 3) rfl)) (hts _ (List.mem_of_getElem? (i := 4) rfl)) (hts _ (List.mem_of_getElem? (i := 5) rfl)) (Nat.le_of_ble_eq_true rfl) (Nat.le_of_ble_eq_true rfl) (Nat.le_refl _) (Nat.le_refl _) dX0_inches_19 ?_
  refine va_mmax hx hb (hml.trans hl.1.symm) hown (hts _ (List.mem_of_getElem? (i := 6) rfl)) (hts _ (List.mem_of_getElem? (i := 7) rfl)) (hts _ (List.mem_of_getElem? (i := 4) rfl)) (hts _ (List.mem_of_getElem? (i := 8) rfl)) (Nat.le_of_ble_eq_true rfl) (Nat.le_of_ble_eq_true rfl) (Nat.le_refl _) (Nat.le_refl _) dX0_inches_22 ?_
  refine ri_ret (v := (if 0 < (if ((ws * (wk (kd j) pc)) - (et j)) < 9 then ((ws * (wk (kd j) pc)) - (et j)) else 9) then (if ((ws * (wk (kd j) pc)) - (et j)) < 9 then ((ws * (wk (kd j) pc)) - (et j)) else 9) else 0)) hx hb hr hlk dX0_inches_25 ?_
  exact cl9_mm _
theorem iwX0_isRipe_X0 : ∀ x ∈ wsX00, x ∈ wsX0_isRipe := by decide +kernel
set_option maxRecDepth 100000 in
set_option maxHeartbeats 4000000 in
/-- X0_isRipe -/
theorem c_X0_isRipe (l : Launch) (D : va_G) (cI cJ cO : ClassId) (a : Nat → Nat) (h : Nat) (w : Nat) (pc : Int32) (br : Int32) (kd : Nat → Int32) (et : Nat → Int32) (nb : Nat → Int32) (c : Int32) (ws : Int32) (j : Nat) (hv_c : vp_in c 16) (hj_c : c.toNatClampNeg = j) : RG l yX0_isRipe wsX0_isRipe 2 44 D [(cI, .int), (cJ, .long), (cO, .object "ShornHill$Sheet")] [.ref (a 1), .int c, .int ws] [(a 1, .inr (0, [.int (nI h), .int (nI w), .int pc, .int br, .ref (a 2), .ref (a 3), .ref (a 4)])), (a 2, .inl (cI, 16, .inl kd)), (a 3, .inl (cI, 16, .inl et)), (a 4, .inl (cI, 64, .inl nb))] (vp_Si (fun (r : Int32) => r = (b2 (ripP pc br (kd j) (et j) ws)))) := by
  refine RG.of (cc := cX0_isRipe) (maxL := 3) (ret := (some .boolean)) (by decide) rfl (Nat.le_of_ble_eq_true rfl) ?_
  intro P_ E_ S_ M_ B_ T_ K_ hx hb hml hr hts hown hlk hP hK ls hl
  have hl : lv_has ls 3 [(0, .ref (a 1)), (1, .int c), (2, .int ws)] := hl
  have hin0 : ∀ x ∈ u_ws RX0 TX0 7, x ∈ wsX0_isRipe := iwX0_isRipe_X0
  refine lv_aload_n hx hb dX0_isRipe_0 rfl (lv_at hl 0 rfl) ?_
  refine va_get (D := D) (ci := 0) (v := .ref (a 2)) (C := RX0) (T := TX0) (N := 7) hx hb hts hin0 hown hK.1 hP 0 rfl rfl 4 (by decide) (hts _ (List.mem_of_getElem? (i := 1) rfl)) (fun _ h9 => h9) rfl dX0_isRipe_1 ?_
  refine lv_iload_n hx hb dX0_isRipe_4 rfl (lv_at hl 1 rfl) ?_
  refine k_iald hx hb hK hP 1 0 rfl rfl (j := j) hv_c hj_c dX0_isRipe_5 ?_
  refine lv_iconst (v := 3) hx hb dX0_isRipe_6 (by decide) ?_
  refine lv_icmp_eq (tgt := 27) hx hb dX0_isRipe_7 (by decide) (fun c_1 => ?_) (fun c_1 => ?_)
  · refine lv_iconst (v := 0) hx hb dX0_isRipe_27 (by decide) ?_
    refine rz_ret (v := 0) hx hb hr hlk dX0_isRipe_28 (by decide) ?_
    refine b2_0 ?_
    simp only [inN, softP, inS, ripP, Int32.lt_iff_toInt_lt, Int32.le_iff_toInt_le, ← Int32.toInt_inj, ti_0, ti_1, ti_2, ti_3, ti_4, ti_8, ti_9, ti_10, ti_14, ti_15, ti_20, ti_60, ti_m1] at c_1 ⊢
    omega
  · refine lv_aload_n hx hb dX0_isRipe_10 rfl (lv_at hl 0 rfl) ?_
    refine lv_iload_n hx hb dX0_isRipe_11 rfl (lv_at hl 1 rfl) ?_
    refine lv_iload_n hx hb dX0_isRipe_12 rfl (lv_at hl 2 rfl) ?_
    refine k_ri (run_RV (As := [.int c, .int ws]) (rest := []) ⟨hx, hb, hml, hown, hts⟩ (c_X0_inches l D cI cJ cO a h w pc br kd et nb c ws j hv_c hj_c) (cwV 2 hts gX0_isRipe_X0_inches rfl rfl rfl (by decide +kernel) ⟨Nat.le_of_ble_eq_true rfl, Nat.le_of_ble_eq_true rfl⟩) hP hK [0, 1, 2, 3] rfl rfl rfl rfl rfl hl.1 rfl (Nat.le_of_ble_eq_true rfl) dX0_isRipe_13 ⟨Nat.le_refl _, Nat.le_refl _⟩) (fun r_2 q_3 => ?_)
    obtain rfl := q_3
    refine lv_aload_n hx hb dX0_isRipe_16 rfl (lv_at hl 0 rfl) ?_
    refine va_get (D := D) (ci := 0) (v := .int br) (C := RX0) (T := TX0) (N := 7) hx hb hts hin0 hown hK.1 hP 0 rfl rfl 3 (by decide) (hts _ (List.mem_of_getElem? (i := 2) rfl)) (fun _ h9 => h9) rfl dX0_isRipe_17 ?_
    refine lv_icmp_lt (tgt := 27) hx hb dX0_isRipe_20 (by decide) (fun c_4 => ?_) (fun c_4 => ?_)
    · refine lv_iconst (v := 0) hx hb dX0_isRipe_27 (by decide) ?_
      refine rz_ret (v := 0) hx hb hr hlk dX0_isRipe_28 (by decide) ?_
      refine b2_0 ?_
      simp only [inN, softP, inS, ripP, Int32.lt_iff_toInt_lt, Int32.le_iff_toInt_le, ← Int32.toInt_inj, ti_0, ti_1, ti_2, ti_3, ti_4, ti_8, ti_9, ti_10, ti_14, ti_15, ti_20, ti_60, ti_m1] at c_1 c_4 ⊢
      omega
    · refine lv_iconst (v := 1) hx hb dX0_isRipe_23 (by decide) ?_
      refine lv_goto (tgt := 28) hx hb dX0_isRipe_24 (by decide) ?_
      refine rz_ret (v := 1) hx hb hr hlk dX0_isRipe_28 (by decide) ?_
      refine b2_1 ?_
      simp only [inN, softP, inS, ripP, Int32.lt_iff_toInt_lt, Int32.le_iff_toInt_le, ← Int32.toInt_inj, ti_0, ti_1, ti_2, ti_3, ti_4, ti_8, ti_9, ti_10, ti_14, ti_15, ti_20, ti_60, ti_m1] at c_1 c_4 ⊢
      omega
set_option maxRecDepth 100000 in
set_option maxHeartbeats 4000000 in
/-- X0_ripeCells -/
theorem c_X0_ripeCells (l : Launch) (D : va_G) (cI cJ cO : ClassId) (a : Nat → Nat) (h : Nat) (w : Nat) (pc : Int32) (br : Int32) (kd : Nat → Int32) (et : Nat → Int32) (nb : Nat → Int32) (ws : Int32) (hn : h * w ≤ 16) : RG l yX0_ripeCells wsX0_ripeCells 3 66 D [(cI, .int), (cJ, .long), (cO, .object "ShornHill$Sheet")] [.ref (a 1), .int ws] [(a 1, .inr (0, [.int (nI h), .int (nI w), .int pc, .int br, .ref (a 2), .ref (a 3), .ref (a 4)])), (a 2, .inl (cI, 16, .inl kd)), (a 3, .inl (cI, 16, .inl et)), (a 4, .inl (cI, 64, .inl nb))] (vp_Si (fun (r : Int32) => r = (ripS pc br kd et ws (h * w)))) := by
  refine RG.of (cc := cX0_ripeCells) (maxL := 4) (ret := (some .int)) (by decide) rfl (Nat.le_of_ble_eq_true rfl) ?_
  intro P_ E_ S_ M_ B_ T_ K_ hx hb hml hr hts hown hlk hP hK ls hl
  have hl : lv_has ls 4 [(0, .ref (a 1)), (1, .int ws)] := hl
  refine lv_iconst (v := 0) hx hb dX0_ripeCells_0 (by decide) ?_
  refine lv_istore_n (lv' := [(2, .int 0), (0, .ref (a 1)), (1, .int ws)]) hx hb dX0_ripeCells_1 rfl hl (by decide) rfl (fun ls hl => ?_)
  refine lv_iconst (v := 0) hx hb dX0_ripeCells_2 (by decide) ?_
  refine lv_istore_n (lv' := [(3, .int 0), (2, .int 0), (0, .ref (a 1)), (1, .int ws)]) hx hb dX0_ripeCells_3 rfl hl (by decide) rfl (fun ls hl => ?_)
  have key_2 : ∀ (n_1 : Nat) (k : Nat) (x2_n_1 : Int32), (k ≤ h * w) → x2_n_1 = (ripS pc br kd et ws k) → h * w - k < n_1 → ∀ ls : Array Slot, lv_has ls 4 [(0, .ref (a 1)), (1, .int ws), (2, .int x2_n_1), (3, .int (nI k))] → W P_ l E_ ({ frames := 3, cells := 0, slots := 0, locals := 66 } : Room) S_ M_ (([.ref (a 1), .int ws] : List Value).toArray) B_ T_ K_ S_.heap [] 0 0 (MQ B_ (vp_Si (fun (r : Int32) => r = (ripS pc br kd et ws (h * w)))) (([.ref (a 1), .int ws] : List Value).toArray) S_ 0 0 (fun _ => False)) (F0 M_ 4 ls []) := by
    intro n_1
    induction n_1 with
    | zero =>
      intro k x2_n_1 hk e_x2_n_1 hmu_n_1
      exact absurd hmu_n_1 (Nat.not_lt_zero _)
    | succ n_1 ih_3 =>
      intro k x2_n_1 hk e_x2_n_1 hmu_n_1 ls hl
      subst e_x2_n_1
      have hl : lv_has ls 4 [(0, .ref (a 1)), (1, .int ws), (2, .int (ripS pc br kd et ws k)), (3, .int (nI k))] := hl
      refine lv_iload_n hx hb dX0_ripeCells_4 rfl (lv_at hl 3 rfl) ?_
      refine lv_aload_n hx hb dX0_ripeCells_5 rfl (lv_at hl 0 rfl) ?_
      refine k_ri (run_RV (As := []) (rest := [.int (nI k)]) ⟨hx, hb, hml, hown, hts⟩ (c_X0_cells l D cI cJ cO a h w pc br kd et nb) (cwV 0 hts gX0_ripeCells_X0_cells rfl rfl rfl (by decide +kernel) ⟨Nat.le_of_ble_eq_true rfl, Nat.le_of_ble_eq_true rfl⟩) hP hK [0, 1, 2, 3] rfl rfl rfl rfl rfl hl.1 rfl (Nat.le_of_ble_eq_true rfl) dX0_ripeCells_6 ⟨Nat.le_refl _, Nat.le_refl _⟩) (fun r_4 q_5 => ?_)
      obtain rfl := q_5
      refine lv_icmp_ge (tgt := 38) hx hb dX0_ripeCells_9 (by decide) (fun c_6 => ?_) (fun c_6 => ?_)
      · have c_6 : h * w ≤ k := (nI_leI (a := h * w) (b := k) (by omega) (by omega)).mp c_6
        refine lv_iload_n hx hb dX0_ripeCells_38 rfl (lv_at hl 2 rfl) ?_
        refine ri_ret (v := (ripS pc br kd et ws k)) hx hb hr hlk dX0_ripeCells_39 ?_
        rw [show k = h * w by omega]
      · have c_6 : k < h * w := Nat.lt_of_not_le (fun z => c_6 ((nI_leI (a := h * w) (b := k) (by omega) (by omega)).mpr z))
        refine lv_iload_n hx hb dX0_ripeCells_12 rfl (lv_at hl 2 rfl) ?_
        refine lv_aload_n hx hb dX0_ripeCells_13 rfl (lv_at hl 0 rfl) ?_
        refine lv_iload_n hx hb dX0_ripeCells_14 rfl (lv_at hl 3 rfl) ?_
        refine lv_iload_n hx hb dX0_ripeCells_15 rfl (lv_at hl 1 rfl) ?_
        refine k_ri (run_RV (As := [.int (nI k), .int ws]) (rest := [.int (ripS pc br kd et ws k)]) ⟨hx, hb, hml, hown, hts⟩ (c_X0_isRipe l D cI cJ cO a h w pc br kd et nb (nI k) ws k (vp_in_nI (show k < 16 by omega) (by decide)) (nI_clamp (by omega))) (cwV 2 hts gX0_ripeCells_X0_isRipe rfl rfl rfl (by decide +kernel) ⟨Nat.le_of_ble_eq_true rfl, Nat.le_of_ble_eq_true rfl⟩) hP hK [0, 1, 2, 3] rfl rfl rfl rfl rfl hl.1 rfl (Nat.le_of_ble_eq_true rfl) dX0_ripeCells_16 ⟨Nat.le_refl _, Nat.le_refl _⟩) (fun r_7 q_8 => ?_)
        obtain rfl := q_8
        refine lv_if_eq (tgt := 29) hx hb dX0_ripeCells_19 (by decide) (fun c_9 => ?_) (fun c_9 => ?_)
        · have c_9 := b2_f c_9
          refine lv_iconst (v := 0) hx hb dX0_ripeCells_29 (by decide) ?_
          refine lv_ior hx hb dX0_ripeCells_30 ?_
          refine lv_istore_n (lv' := [(2, .int ((ripS pc br kd et ws k) ||| 0)), (0, .ref (a 1)), (1, .int ws), (3, .int (nI k))]) hx hb dX0_ripeCells_31 rfl hl (by decide) rfl (fun ls hl => ?_)
          refine lv_iinc (v := (nI (k + 1))) (lv' := [(3, .int (nI (k + 1))), (2, .int ((ripS pc br kd et ws k) ||| 0)), (0, .ref (a 1)), (1, .int ws)]) hx hb dX0_ripeCells_32 hl (k := 3) rfl (nI_add _ 1) (by decide) rfl (fun ls hl => ?_)
          refine lv_goto (tgt := 4) hx hb dX0_ripeCells_35 (by decide) ?_
          exact ih_3 (k + 1) ((ripS pc br kd et ws k) ||| 0) (by omega) (by rw [ripS]; first | rw [if_pos (by assumption)] | rw [if_neg (by assumption)]) (by omega) ls (lv_sub hl [2, 3, 1, 0] rfl)
        · have c_9 := b2_t c_9
          refine lv_iload_n hx hb dX0_ripeCells_22 rfl (lv_at hl 3 rfl) ?_
          refine k_ri (run_RSN (As := [.int (nI k)]) (rest := [.int (ripS pc br kd et ws k)]) ⟨hx, hb, hml, hown, hts⟩ (c_X4_bit l D cI cJ cO (nI k)) ⟨va_cnB 1 hts ggX0_ripeCells_X4_bit rfl rfl rfl (nw_X0_72 hK) (hts _ (List.mem_of_getElem? (i := 32) rfl)) (by decide +kernel) ⟨Nat.le_of_ble_eq_true rfl, Nat.le_of_ble_eq_true rfl⟩, (hts _ (List.mem_of_getElem? (i := 31) rfl)), trivial⟩ hP hK [] rfl rfl hl.1 rfl (Nat.le_of_ble_eq_true rfl) dX0_ripeCells_23 ⟨Nat.le_refl _, Nat.le_refl _⟩) (fun r_10 q_11 => ?_)
          obtain rfl := q_11
          refine lv_goto (tgt := 30) hx hb dX0_ripeCells_26 (by decide) ?_
          refine lv_ior hx hb dX0_ripeCells_30 ?_
          refine lv_istore_n (lv' := [(2, .int ((ripS pc br kd et ws k) ||| (bi (nI k)))), (0, .ref (a 1)), (1, .int ws), (3, .int (nI k))]) hx hb dX0_ripeCells_31 rfl hl (by decide) rfl (fun ls hl => ?_)
          refine lv_iinc (v := (nI (k + 1))) (lv' := [(3, .int (nI (k + 1))), (2, .int ((ripS pc br kd et ws k) ||| (bi (nI k)))), (0, .ref (a 1)), (1, .int ws)]) hx hb dX0_ripeCells_32 hl (k := 3) rfl (nI_add _ 1) (by decide) rfl (fun ls hl => ?_)
          refine lv_goto (tgt := 4) hx hb dX0_ripeCells_35 (by decide) ?_
          exact ih_3 (k + 1) ((ripS pc br kd et ws k) ||| (bi (nI k))) (by omega) (by rw [ripS]; first | rw [if_pos (by assumption)] | rw [if_neg (by assumption)]) (by omega) ls (lv_sub hl [2, 3, 1, 0] rfl)
  exact key_2 _ 0 0 (by omega) rfl (Nat.lt_succ_self _) ls (lv_sub hl [2, 3, 1, 0] rfl)
theorem iwX0_softCells_X0 : ∀ x ∈ wsX00, x ∈ wsX0_softCells := by decide +kernel
set_option maxRecDepth 100000 in
set_option maxHeartbeats 4000000 in
/-- X0_softCells -/
theorem c_X0_softCells (l : Launch) (D : va_G) (cI cJ cO : ClassId) (a : Nat → Nat) (h : Nat) (w : Nat) (pc : Int32) (br : Int32) (kd : Nat → Int32) (et : Nat → Int32) (nb : Nat → Int32) (hn : h * w ≤ 16) : RG l yX0_softCells wsX0_softCells 1 20 D [(cI, .int), (cJ, .long), (cO, .object "ShornHill$Sheet")] [.ref (a 1)] [(a 1, .inr (0, [.int (nI h), .int (nI w), .int pc, .int br, .ref (a 2), .ref (a 3), .ref (a 4)])), (a 2, .inl (cI, 16, .inl kd)), (a 3, .inl (cI, 16, .inl et)), (a 4, .inl (cI, 64, .inl nb))] (vp_Si (fun (r : Int32) => r = (sofS kd (h * w)))) := by
  refine RG.of (cc := cX0_softCells) (maxL := 3) (ret := (some .int)) (by decide) rfl (Nat.le_of_ble_eq_true rfl) ?_
  intro P_ E_ S_ M_ B_ T_ K_ hx hb hml hr hts hown hlk hP hK ls hl
  have hl : lv_has ls 3 [(0, .ref (a 1))] := hl
  have hin0 : ∀ x ∈ u_ws RX0 TX0 7, x ∈ wsX0_softCells := iwX0_softCells_X0
  refine lv_iconst (v := 0) hx hb dX0_softCells_0 (by decide) ?_
  refine lv_istore_n (lv' := [(1, .int 0), (0, .ref (a 1))]) hx hb dX0_softCells_1 rfl hl (by decide) rfl (fun ls hl => ?_)
  refine lv_iconst (v := 0) hx hb dX0_softCells_2 (by decide) ?_
  refine lv_istore_n (lv' := [(2, .int 0), (1, .int 0), (0, .ref (a 1))]) hx hb dX0_softCells_3 rfl hl (by decide) rfl (fun ls hl => ?_)
  have key_2 : ∀ (n_1 : Nat) (k : Nat) (x1_n_1 : Int32), (k ≤ h * w) → x1_n_1 = (sofS kd k) → h * w - k < n_1 → ∀ ls : Array Slot, lv_has ls 3 [(0, .ref (a 1)), (1, .int x1_n_1), (2, .int (nI k))] → W P_ l E_ ({ frames := 1, cells := 0, slots := 0, locals := 20 } : Room) S_ M_ (([.ref (a 1)] : List Value).toArray) B_ T_ K_ S_.heap [] 0 0 (MQ B_ (vp_Si (fun (r : Int32) => r = (sofS kd (h * w)))) (([.ref (a 1)] : List Value).toArray) S_ 0 0 (fun _ => False)) (F0 M_ 4 ls []) := by
    intro n_1
    induction n_1 with
    | zero =>
      intro k x1_n_1 hk e_x1_n_1 hmu_n_1
      exact absurd hmu_n_1 (Nat.not_lt_zero _)
    | succ n_1 ih_3 =>
      intro k x1_n_1 hk e_x1_n_1 hmu_n_1 ls hl
      subst e_x1_n_1
      have hl : lv_has ls 3 [(0, .ref (a 1)), (1, .int (sofS kd k)), (2, .int (nI k))] := hl
      refine lv_iload_n hx hb dX0_softCells_4 rfl (lv_at hl 2 rfl) ?_
      refine lv_aload_n hx hb dX0_softCells_5 rfl (lv_at hl 0 rfl) ?_
      refine k_ri (run_RV (As := []) (rest := [.int (nI k)]) ⟨hx, hb, hml, hown, hts⟩ (c_X0_cells l D cI cJ cO a h w pc br kd et nb) (cwV 0 hts gX0_softCells_X0_cells rfl rfl rfl (by decide +kernel) ⟨Nat.le_of_ble_eq_true rfl, Nat.le_of_ble_eq_true rfl⟩) hP hK [0, 1, 2, 3] rfl rfl rfl rfl rfl hl.1 rfl (Nat.le_of_ble_eq_true rfl) dX0_softCells_6 ⟨Nat.le_refl _, Nat.le_refl _⟩) (fun r_4 q_5 => ?_)
      obtain rfl := q_5
      refine lv_icmp_ge (tgt := 39) hx hb dX0_softCells_9 (by decide) (fun c_6 => ?_) (fun c_6 => ?_)
      · have c_6 : h * w ≤ k := (nI_leI (a := h * w) (b := k) (by omega) (by omega)).mp c_6
        refine lv_iload_n hx hb dX0_softCells_39 rfl (lv_at hl 1 rfl) ?_
        refine ri_ret (v := (sofS kd k)) hx hb hr hlk dX0_softCells_40 ?_
        rw [show k = h * w by omega]
      · have c_6 : k < h * w := Nat.lt_of_not_le (fun z => c_6 ((nI_leI (a := h * w) (b := k) (by omega) (by omega)).mpr z))
        refine lv_iload_n hx hb dX0_softCells_12 rfl (lv_at hl 1 rfl) ?_
        refine lv_aload_n hx hb dX0_softCells_13 rfl (lv_at hl 0 rfl) ?_
        refine va_get (D := D) (ci := 0) (v := .ref (a 2)) (C := RX0) (T := TX0) (N := 7) hx hb hts hin0 hown hK.1 hP 0 rfl rfl 4 (by decide) (hts _ (List.mem_of_getElem? (i := 1) rfl)) (fun _ h9 => h9) rfl dX0_softCells_14 ?_
        refine lv_iload_n hx hb dX0_softCells_17 rfl (lv_at hl 2 rfl) ?_
        refine k_iald hx hb hK hP 1 0 rfl rfl (j := k) (vp_in_nI (show k < 16 by omega) (by decide)) (nI_clamp (by omega)) dX0_softCells_18 ?_
        refine lv_iconst (v := 3) hx hb dX0_softCells_19 (by decide) ?_
        refine lv_icmp_eq (tgt := 30) hx hb dX0_softCells_20 (by decide) (fun c_7 => ?_) (fun c_7 => ?_)
        · refine lv_iconst (v := 0) hx hb dX0_softCells_30 (by decide) ?_
          refine lv_ior hx hb dX0_softCells_31 ?_
          refine lv_istore_n (lv' := [(1, .int ((sofS kd k) ||| 0)), (0, .ref (a 1)), (2, .int (nI k))]) hx hb dX0_softCells_32 rfl hl (by decide) rfl (fun ls hl => ?_)
          refine lv_iinc (v := (nI (k + 1))) (lv' := [(2, .int (nI (k + 1))), (1, .int ((sofS kd k) ||| 0)), (0, .ref (a 1))]) hx hb dX0_softCells_33 hl (k := 2) rfl (nI_add _ 1) (by decide) rfl (fun ls hl => ?_)
          refine lv_goto (tgt := 4) hx hb dX0_softCells_36 (by decide) ?_
          exact ih_3 (k + 1) ((sofS kd k) ||| 0) (by omega) (by rw [sofS]; first | rw [if_pos (by assumption)] | rw [if_neg (by assumption)]) (by omega) ls (lv_sub hl [2, 1, 0] rfl)
        · refine lv_iload_n hx hb dX0_softCells_23 rfl (lv_at hl 2 rfl) ?_
          refine k_ri (run_RSN (As := [.int (nI k)]) (rest := [.int (sofS kd k)]) ⟨hx, hb, hml, hown, hts⟩ (c_X4_bit l D cI cJ cO (nI k)) ⟨va_cnB 1 hts ggX0_softCells_X4_bit rfl rfl rfl (nw_X0_72 hK) (hts _ (List.mem_of_getElem? (i := 10) rfl)) (by decide +kernel) ⟨Nat.le_of_ble_eq_true rfl, Nat.le_of_ble_eq_true rfl⟩, (hts _ (List.mem_of_getElem? (i := 9) rfl)), trivial⟩ hP hK [] rfl rfl hl.1 rfl (Nat.le_of_ble_eq_true rfl) dX0_softCells_24 ⟨Nat.le_refl _, Nat.le_refl _⟩) (fun r_8 q_9 => ?_)
          obtain rfl := q_9
          refine lv_goto (tgt := 31) hx hb dX0_softCells_27 (by decide) ?_
          refine lv_ior hx hb dX0_softCells_31 ?_
          refine lv_istore_n (lv' := [(1, .int ((sofS kd k) ||| (bi (nI k)))), (0, .ref (a 1)), (2, .int (nI k))]) hx hb dX0_softCells_32 rfl hl (by decide) rfl (fun ls hl => ?_)
          refine lv_iinc (v := (nI (k + 1))) (lv' := [(2, .int (nI (k + 1))), (1, .int ((sofS kd k) ||| (bi (nI k)))), (0, .ref (a 1))]) hx hb dX0_softCells_33 hl (k := 2) rfl (nI_add _ 1) (by decide) rfl (fun ls hl => ?_)
          refine lv_goto (tgt := 4) hx hb dX0_softCells_36 (by decide) ?_
          exact ih_3 (k + 1) ((sofS kd k) ||| (bi (nI k))) (by omega) (by rw [sofS]; first | rw [if_pos (by assumption)] | rw [if_neg (by assumption)]) (by omega) ls (lv_sub hl [2, 1, 0] rfl)
  exact key_2 _ 0 0 (by omega) rfl (Nat.lt_succ_self _) ls (lv_sub hl [2, 1, 0] rfl)
set_option maxRecDepth 100000 in
set_option maxHeartbeats 4000000 in
/-- X0_inchesOfAll -/
theorem c_X0_inchesOfAll (l : Launch) (D : va_G) (cI cJ cO : ClassId) (a : Nat → Nat) (h : Nat) (w : Nat) (pc : Int32) (br : Int32) (kd : Nat → Int32) (et : Nat → Int32) (nb : Nat → Int32) (u : Int32) (ws : Int32) (hn : h * w ≤ 16) : RG l yX0_inchesOfAll wsX0_inchesOfAll 2 44 D [(cI, .int), (cJ, .long), (cO, .object "ShornHill$Sheet")] [.ref (a 1), .int u, .int ws] [(a 1, .inr (0, [.int (nI h), .int (nI w), .int pc, .int br, .ref (a 2), .ref (a 3), .ref (a 4)])), (a 2, .inl (cI, 16, .inl kd)), (a 3, .inl (cI, 16, .inl et)), (a 4, .inl (cI, 64, .inl nb))] (vp_Si (fun (r : Int32) => r = (csum u pc kd et ws (h * w)))) := by
  refine RG.of (cc := cX0_inchesOfAll) (maxL := 5) (ret := (some .int)) (by decide) rfl (Nat.le_of_ble_eq_true rfl) ?_
  intro P_ E_ S_ M_ B_ T_ K_ hx hb hml hr hts hown hlk hP hK ls hl
  have hl : lv_has ls 5 [(0, .ref (a 1)), (1, .int u), (2, .int ws)] := hl
  refine lv_iconst (v := 0) hx hb dX0_inchesOfAll_0 (by decide) ?_
  refine lv_istore_n (lv' := [(3, .int 0), (0, .ref (a 1)), (1, .int u), (2, .int ws)]) hx hb dX0_inchesOfAll_1 rfl hl (by decide) rfl (fun ls hl => ?_)
  refine lv_iconst (v := 0) hx hb dX0_inchesOfAll_2 (by decide) ?_
  refine lv_istore (lv' := [(4, .int 0), (3, .int 0), (0, .ref (a 1)), (1, .int u), (2, .int ws)]) hx hb dX0_inchesOfAll_3 hl (by decide) rfl (fun ls hl => ?_)
  have key_2 : ∀ (n_1 : Nat) (k : Nat) (x3_n_1 : Int32), (k ≤ h * w) → x3_n_1 = (csum u pc kd et ws k) → h * w - k < n_1 → ∀ ls : Array Slot, lv_has ls 5 [(0, .ref (a 1)), (1, .int u), (2, .int ws), (3, .int x3_n_1), (4, .int (nI k))] → W P_ l E_ ({ frames := 2, cells := 0, slots := 0, locals := 44 } : Room) S_ M_ (([.ref (a 1), .int u, .int ws] : List Value).toArray) B_ T_ K_ S_.heap [] 0 0 (MQ B_ (vp_Si (fun (r : Int32) => r = (csum u pc kd et ws (h * w)))) (([.ref (a 1), .int u, .int ws] : List Value).toArray) S_ 0 0 (fun _ => False)) (F0 M_ 5 ls []) := by
    intro n_1
    induction n_1 with
    | zero =>
      intro k x3_n_1 hk e_x3_n_1 hmu_n_1
      exact absurd hmu_n_1 (Nat.not_lt_zero _)
    | succ n_1 ih_3 =>
      intro k x3_n_1 hk e_x3_n_1 hmu_n_1 ls hl
      subst e_x3_n_1
      have hl : lv_has ls 5 [(0, .ref (a 1)), (1, .int u), (2, .int ws), (3, .int (csum u pc kd et ws k)), (4, .int (nI k))] := hl
      refine lv_iload hx hb dX0_inchesOfAll_5 (lv_at hl 4 rfl) ?_
      refine lv_aload_n hx hb dX0_inchesOfAll_7 rfl (lv_at hl 0 rfl) ?_
      refine k_ri (run_RV (As := []) (rest := [.int (nI k)]) ⟨hx, hb, hml, hown, hts⟩ (c_X0_cells l D cI cJ cO a h w pc br kd et nb) (cwV 0 hts gX0_inchesOfAll_X0_cells rfl rfl rfl (by decide +kernel) ⟨Nat.le_of_ble_eq_true rfl, Nat.le_of_ble_eq_true rfl⟩) hP hK [0, 1, 2, 3] rfl rfl rfl rfl rfl hl.1 rfl (Nat.le_of_ble_eq_true rfl) dX0_inchesOfAll_8 ⟨Nat.le_refl _, Nat.le_refl _⟩) (fun r_4 q_5 => ?_)
      obtain rfl := q_5
      refine lv_icmp_ge (tgt := 43) hx hb dX0_inchesOfAll_11 (by decide) (fun c_6 => ?_) (fun c_6 => ?_)
      · have c_6 : h * w ≤ k := (nI_leI (a := h * w) (b := k) (by omega) (by omega)).mp c_6
        refine lv_iload_n hx hb dX0_inchesOfAll_43 rfl (lv_at hl 3 rfl) ?_
        refine ri_ret (v := (csum u pc kd et ws k)) hx hb hr hlk dX0_inchesOfAll_44 ?_
        rw [show k = h * w by omega]
      · have c_6 : k < h * w := Nat.lt_of_not_le (fun z => c_6 ((nI_leI (a := h * w) (b := k) (by omega) (by omega)).mpr z))
        refine lv_iload_n hx hb dX0_inchesOfAll_14 rfl (lv_at hl 3 rfl) ?_
        refine lv_iload_n hx hb dX0_inchesOfAll_15 rfl (lv_at hl 1 rfl) ?_
        refine lv_iload hx hb dX0_inchesOfAll_16 (lv_at hl 4 rfl) ?_
        refine k_ri (run_RSN (As := [.int u, .int (nI k)]) (rest := [.int (csum u pc kd et ws k)]) ⟨hx, hb, hml, hown, hts⟩ (c_X4_isIn l D cI cJ cO u (nI k)) ⟨va_cnB 2 hts ggX0_inchesOfAll_X4_isIn rfl rfl rfl (nw_X0_62 hK) (hts _ (List.mem_of_getElem? (i := 9) rfl)) (by decide +kernel) ⟨Nat.le_of_ble_eq_true rfl, Nat.le_of_ble_eq_true rfl⟩, (hts _ (List.mem_of_getElem? (i := 8) rfl)), trivial⟩ hP hK [] rfl rfl hl.1 rfl (Nat.le_of_ble_eq_true rfl) dX0_inchesOfAll_18 ⟨Nat.le_refl _, Nat.le_refl _⟩) (fun r_7 q_8 => ?_)
        obtain rfl := q_8
        refine lv_if_eq (tgt := 34) hx hb dX0_inchesOfAll_21 (by decide) (fun c_9 => ?_) (fun c_9 => ?_)
        · have c_9 := b2_f c_9
          refine lv_iconst (v := 0) hx hb dX0_inchesOfAll_34 (by decide) ?_
          refine lv_iadd hx hb dX0_inchesOfAll_35 ?_
          refine lv_istore_n (lv' := [(3, .int ((csum u pc kd et ws k) + 0)), (0, .ref (a 1)), (1, .int u), (2, .int ws), (4, .int (nI k))]) hx hb dX0_inchesOfAll_36 rfl hl (by decide) rfl (fun ls hl => ?_)
          refine lv_iinc (v := (nI (k + 1))) (lv' := [(4, .int (nI (k + 1))), (3, .int ((csum u pc kd et ws k) + 0)), (0, .ref (a 1)), (1, .int u), (2, .int ws)]) hx hb dX0_inchesOfAll_37 hl (k := 4) rfl (nI_add _ 1) (by decide) rfl (fun ls hl => ?_)
          refine lv_goto (tgt := 5) hx hb dX0_inchesOfAll_40 (by decide) ?_
          exact ih_3 (k + 1) ((csum u pc kd et ws k) + 0) (by omega) (by rw [csum]; first | rw [if_pos (by assumption)] | rw [if_neg (by assumption)]) (by omega) ls (lv_sub hl [2, 3, 4, 1, 0] rfl)
        · have c_9 := b2_t c_9
          refine lv_aload_n hx hb dX0_inchesOfAll_24 rfl (lv_at hl 0 rfl) ?_
          refine lv_iload hx hb dX0_inchesOfAll_25 (lv_at hl 4 rfl) ?_
          refine lv_iload_n hx hb dX0_inchesOfAll_27 rfl (lv_at hl 2 rfl) ?_
          refine k_ri (run_RV (As := [.int (nI k), .int ws]) (rest := [.int (csum u pc kd et ws k)]) ⟨hx, hb, hml, hown, hts⟩ (c_X0_inches l D cI cJ cO a h w pc br kd et nb (nI k) ws k (vp_in_nI (show k < 16 by omega) (by decide)) (nI_clamp (by omega))) (cwV 2 hts gX0_inchesOfAll_X0_inches rfl rfl rfl (by decide +kernel) ⟨Nat.le_of_ble_eq_true rfl, Nat.le_of_ble_eq_true rfl⟩) hP hK [0, 1, 2, 3] rfl rfl rfl rfl rfl hl.1 rfl (Nat.le_of_ble_eq_true rfl) dX0_inchesOfAll_28 ⟨Nat.le_refl _, Nat.le_refl _⟩) (fun r_10 q_11 => ?_)
          obtain rfl := q_11
          refine lv_goto (tgt := 35) hx hb dX0_inchesOfAll_31 (by decide) ?_
          refine lv_iadd hx hb dX0_inchesOfAll_35 ?_
          refine lv_istore_n (lv' := [(3, .int ((csum u pc kd et ws k) + (cv (kd k) pc (et k) ws))), (0, .ref (a 1)), (1, .int u), (2, .int ws), (4, .int (nI k))]) hx hb dX0_inchesOfAll_36 rfl hl (by decide) rfl (fun ls hl => ?_)
          refine lv_iinc (v := (nI (k + 1))) (lv' := [(4, .int (nI (k + 1))), (3, .int ((csum u pc kd et ws k) + (cv (kd k) pc (et k) ws))), (0, .ref (a 1)), (1, .int u), (2, .int ws)]) hx hb dX0_inchesOfAll_37 hl (k := 4) rfl (nI_add _ 1) (by decide) rfl (fun ls hl => ?_)
          refine lv_goto (tgt := 5) hx hb dX0_inchesOfAll_40 (by decide) ?_
          exact ih_3 (k + 1) ((csum u pc kd et ws k) + (cv (kd k) pc (et k) ws)) (by omega) (by rw [csum]; first | rw [if_pos (by assumption)] | rw [if_neg (by assumption)]) (by omega) ls (lv_sub hl [2, 3, 4, 1, 0] rfl)
  exact key_2 _ 0 0 (by omega) rfl (Nat.lt_succ_self _) ls (lv_sub hl [2, 3, 4, 1, 0] rfl)
set_option maxRecDepth 100000 in
set_option maxHeartbeats 4000000 in
/-- X0_isAllRipe -/
theorem c_X0_isAllRipe (l : Launch) (D : va_G) (cI cJ cO : ClassId) (a : Nat → Nat) (h : Nat) (w : Nat) (pc : Int32) (br : Int32) (kd : Nat → Int32) (et : Nat → Int32) (nb : Nat → Int32) (ws : Int32) (hn : h * w ≤ 16) : RG l yX0_isAllRipe wsX0_isAllRipe 4 89 D [(cI, .int), (cJ, .long), (cO, .object "ShornHill$Sheet")] [.ref (a 1), .int ws] [(a 1, .inr (0, [.int (nI h), .int (nI w), .int pc, .int br, .ref (a 2), .ref (a 3), .ref (a 4)])), (a 2, .inl (cI, 16, .inl kd)), (a 3, .inl (cI, 16, .inl et)), (a 4, .inl (cI, 64, .inl nb))] (vp_Si (fun (r : Int32) => r = (b2 (ripS pc br kd et ws (h * w) = sofS kd (h * w))))) := by
  refine RG.of (cc := cX0_isAllRipe) (maxL := 2) (ret := (some .boolean)) (by decide) rfl (Nat.le_of_ble_eq_true rfl) ?_
  intro P_ E_ S_ M_ B_ T_ K_ hx hb hml hr hts hown hlk hP hK ls hl
  have hl : lv_has ls 2 [(0, .ref (a 1)), (1, .int ws)] := hl
  refine lv_aload_n hx hb dX0_isAllRipe_0 rfl (lv_at hl 0 rfl) ?_
  refine lv_iload_n hx hb dX0_isAllRipe_1 rfl (lv_at hl 1 rfl) ?_
  refine k_ri (run_RV (As := [.int ws]) (rest := []) ⟨hx, hb, hml, hown, hts⟩ (c_X0_ripeCells l D cI cJ cO a h w pc br kd et nb ws hn) (cwV 1 hts gX0_isAllRipe_X0_ripeCells rfl rfl rfl (by decide +kernel) ⟨Nat.le_of_ble_eq_true rfl, Nat.le_of_ble_eq_true rfl⟩) hP hK [0, 1, 2, 3] rfl rfl rfl rfl rfl hl.1 rfl (Nat.le_of_ble_eq_true rfl) dX0_isAllRipe_2 ⟨Nat.le_refl _, Nat.le_refl _⟩) (fun r_1 q_2 => ?_)
  obtain rfl := q_2
  refine lv_aload_n hx hb dX0_isAllRipe_5 rfl (lv_at hl 0 rfl) ?_
  refine k_ri (run_RV (As := []) (rest := [.int (ripS pc br kd et ws (h * w))]) ⟨hx, hb, hml, hown, hts⟩ (c_X0_softCells l D cI cJ cO a h w pc br kd et nb hn) (cwV 0 hts gX0_isAllRipe_X0_softCells rfl rfl rfl (by decide +kernel) ⟨Nat.le_of_ble_eq_true rfl, Nat.le_of_ble_eq_true rfl⟩) hP hK [0, 1, 2, 3] rfl rfl rfl rfl rfl hl.1 rfl (Nat.le_of_ble_eq_true rfl) dX0_isAllRipe_6 ⟨Nat.le_refl _, Nat.le_refl _⟩) (fun r_3 q_4 => ?_)
  obtain rfl := q_4
  refine lv_icmp_ne (tgt := 16) hx hb dX0_isAllRipe_9 (by decide) (fun c_5 => ?_) (fun c_5 => ?_)
  · refine lv_iconst (v := 0) hx hb dX0_isAllRipe_16 (by decide) ?_
    refine rz_ret (v := 0) hx hb hr hlk dX0_isAllRipe_17 (by decide) ?_
    refine b2_0 ?_
    simp only [inN, softP, inS, ripP, Int32.lt_iff_toInt_lt, Int32.le_iff_toInt_le, ← Int32.toInt_inj, ti_0, ti_1, ti_2, ti_3, ti_4, ti_8, ti_9, ti_10, ti_14, ti_15, ti_20, ti_60, ti_m1] at c_5 ⊢
    omega
  · refine lv_iconst (v := 1) hx hb dX0_isAllRipe_12 (by decide) ?_
    refine lv_goto (tgt := 17) hx hb dX0_isAllRipe_13 (by decide) ?_
    refine rz_ret (v := 1) hx hb hr hlk dX0_isAllRipe_17 (by decide) ?_
    refine b2_1 ?_
    simp only [inN, softP, inS, ripP, Int32.lt_iff_toInt_lt, Int32.le_iff_toInt_le, ← Int32.toInt_inj, ti_0, ti_1, ti_2, ti_3, ti_4, ti_8, ti_9, ti_10, ti_14, ti_15, ti_20, ti_60, ti_m1] at c_5 ⊢
    omega
theorem iwX0_beside_X0 : ∀ x ∈ wsX00, x ∈ wsX0_beside := by decide +kernel
set_option maxRecDepth 100000 in
set_option maxHeartbeats 4000000 in
/-- X0_beside -/
theorem c_X0_beside (l : Launch) (D : va_G) (cI cJ cO : ClassId) (a : Nat → Nat) (h : Nat) (w : Nat) (pc : Int32) (br : Int32) (kd : Nat → Int32) (et : Nat → Int32) (nb : Nat → Int32) (c : Int32) (t : Int32) (j : Nat) (u : Nat) (hv_c : vp_in c 16) (hj_c : c.toNatClampNeg = j) (hv_t : vp_in t 4) (hj_t : t.toNatClampNeg = u) : RG l yX0_beside wsX0_beside 0 0 D [(cI, .int), (cJ, .long), (cO, .object "ShornHill$Sheet")] [.ref (a 1), .int c, .int t] [(a 1, .inr (0, [.int (nI h), .int (nI w), .int pc, .int br, .ref (a 2), .ref (a 3), .ref (a 4)])), (a 2, .inl (cI, 16, .inl kd)), (a 3, .inl (cI, 16, .inl et)), (a 4, .inl (cI, 64, .inl nb))] (vp_Si (fun (r : Int32) => r = (nb (4 * j + u)))) := by
  refine RG.of (cc := cX0_beside) (maxL := 3) (ret := (some .int)) (by decide) rfl (Nat.le_of_ble_eq_true rfl) ?_
  intro P_ E_ S_ M_ B_ T_ K_ hx hb hml hr hts hown hlk hP hK ls hl
  have hl : lv_has ls 3 [(0, .ref (a 1)), (1, .int c), (2, .int t)] := hl
  have hin0 : ∀ x ∈ u_ws RX0 TX0 7, x ∈ wsX0_beside := iwX0_beside_X0
  refine lv_aload_n hx hb dX0_beside_0 rfl (lv_at hl 0 rfl) ?_
  refine va_get (D := D) (ci := 0) (v := .ref (a 4)) (C := RX0) (T := TX0) (N := 7) hx hb hts hin0 hown hK.1 hP 0 rfl rfl 6 (by decide) (hts _ (List.mem_of_getElem? (i := 1) rfl)) (fun _ h9 => h9) rfl dX0_beside_1 ?_
  refine lv_iconst (v := 4) hx hb dX0_beside_4 (by decide) ?_
  refine lv_iload_n hx hb dX0_beside_5 rfl (lv_at hl 1 rfl) ?_
  refine lv_imul hx hb dX0_beside_6 ?_
  refine lv_iload_n hx hb dX0_beside_7 rfl (lv_at hl 2 rfl) ?_
  refine lv_iadd hx hb dX0_beside_8 ?_
  refine k_iald hx hb hK hP 3 0 rfl rfl (j := 4 * j + u) (ix4 hv_c hj_c hv_t hj_t).1 (ix4 hv_c hj_c hv_t hj_t).2 dX0_beside_9 ?_
  refine ri_ret (v := (nb (4 * j + u))) hx hb hr hlk dX0_beside_10 ?_
  rfl
end
section
theorem iwX1_add_X1 : ∀ x ∈ wsX10, x ∈ wsX1_add := by decide +kernel
set_option maxRecDepth 100000 in
set_option maxHeartbeats 4000000 in
/-- X1_add -/
theorem c_X1_add (l : Launch) (D : va_G) (cI cJ cO : ClassId) (a : Nat → Nat) (rc : Nat) (ro : Nat → Int32) (rb : Nat → Int32) (rv : Nat → Int32) (c : Int32) (ws : Int32) (v : Int32) (hrc : rc < 8) : MG l yX1_add wsX1_add 0 0 0 0 D [(cI, .int), (cJ, .long), (cO, .object "ShornHill$Sheet")] [.ref (a 5), .int c, .int ws, .int v] [(a 5, .inr (1, [.int (nI rc), .ref (a 6), .ref (a 7), .ref (a 8)])), (a 6, .inl (cI, 8, .inl ro)), (a 7, .inl (cI, 8, .inl rb)), (a 8, .inl (cI, 8, .inl rv))] (QI D (fun (r : Int32) (w1 : va_W) => r = (nI rc) ∧ w1 = [(a 5, .inr (1, [.int (nI (rc + 1)), .ref (a 6), .ref (a 7), .ref (a 8)])), (a 6, .inl (cI, 8, .inl (upd ro rc c))), (a 7, .inl (cI, 8, .inl (upd rb rc ws))), (a 8, .inl (cI, 8, .inl (upd rv rc v)))])) := by
  refine MG.of (cc := cX1_add) (maxL := 4) (ret := (some .int)) (by decide) rfl (Nat.le_of_ble_eq_true rfl) ?_
  intro P_ E_ S_ M_ B_ T_ K_ hx hb hml hr hts hown hlk hnm A hA hP hK hD hS ls hl
  have hl : lv_has ls 4 [(0, .ref (a 5)), (1, .int c), (2, .int ws), (3, .int v)] := hl
  have hin1 : ∀ x ∈ u_ws RX1 TX1 4, x ∈ wsX1_add := iwX1_add_X1
  refine lv_aload_n hx hb dX1_add_0 rfl (lv_at hl 0 rfl) ?_
  refine va_get (D := D) (ci := 1) (v := .ref (a 6)) (C := RX1) (T := TX1) (N := 4) hx hb hts hin1 hown hK.1 hP 0 rfl rfl 1 (by decide) (hts _ (List.mem_of_getElem? (i := 1) rfl)) (fun _ h9 => h9) rfl dX1_add_1 ?_
  refine lv_aload_n hx hb dX1_add_4 rfl (lv_at hl 0 rfl) ?_
  refine va_get (D := D) (ci := 1) (v := .int (nI rc)) (C := RX1) (T := TX1) (N := 4) hx hb hts hin1 hown hK.1 hP 0 rfl rfl 0 (by decide) (hts _ (List.mem_of_getElem? (i := 2) rfl)) (fun _ h9 => h9) rfl dX1_add_5 ?_
  refine lv_iload_n hx hb dX1_add_8 rfl (lv_at hl 1 rfl) ?_
  refine k_iast hx hb hK hP hD hS 1 0 rfl rfl (j := rc) (vp_in_nI (show rc < 8 by omega) (by decide)) (nI_clamp (by omega)) dX1_add_9 (fun H locs hP hD hS => ?_)
  have hP : va_P D vwCl [(a 5, .inr (1, [.int (nI rc), .ref (a 6), .ref (a 7), .ref (a 8)])), (a 6, .inl (cI, 8, .inl (upd ro rc c))), (a 7, .inl (cI, 8, .inl rb)), (a 8, .inl (cI, 8, .inl rv))] H := hP
  have hD : va_D A [(a 5, .inr (1, [.int (nI rc), .ref (a 6), .ref (a 7), .ref (a 8)])), (a 6, .inl (cI, 8, .inl (upd ro rc c))), (a 7, .inl (cI, 8, .inl rb)), (a 8, .inl (cI, 8, .inl rv))] := hD
  refine lv_aload_n hx hb dX1_add_10 rfl (lv_at hl 0 rfl) ?_
  refine va_get (D := D) (ci := 1) (v := .ref (a 7)) (C := RX1) (T := TX1) (N := 4) hx hb hts hin1 hown hK.1 hP 0 rfl rfl 2 (by decide) (hts _ (List.mem_of_getElem? (i := 3) rfl)) (fun _ h9 => h9) rfl dX1_add_11 ?_
  refine lv_aload_n hx hb dX1_add_14 rfl (lv_at hl 0 rfl) ?_
  refine va_get (D := D) (ci := 1) (v := .int (nI rc)) (C := RX1) (T := TX1) (N := 4) hx hb hts hin1 hown hK.1 hP 0 rfl rfl 0 (by decide) (hts _ (List.mem_of_getElem? (i := 2) rfl)) (fun _ h9 => h9) rfl dX1_add_15 ?_
  refine lv_iload_n hx hb dX1_add_18 rfl (lv_at hl 2 rfl) ?_
  refine k_iast hx hb hK hP hD hS 2 0 rfl rfl (j := rc) (vp_in_nI (show rc < 8 by omega) (by decide)) (nI_clamp (by omega)) dX1_add_19 (fun H locs hP hD hS => ?_)
  have hP : va_P D vwCl [(a 5, .inr (1, [.int (nI rc), .ref (a 6), .ref (a 7), .ref (a 8)])), (a 6, .inl (cI, 8, .inl (upd ro rc c))), (a 7, .inl (cI, 8, .inl (upd rb rc ws))), (a 8, .inl (cI, 8, .inl rv))] H := hP
  have hD : va_D A [(a 5, .inr (1, [.int (nI rc), .ref (a 6), .ref (a 7), .ref (a 8)])), (a 6, .inl (cI, 8, .inl (upd ro rc c))), (a 7, .inl (cI, 8, .inl (upd rb rc ws))), (a 8, .inl (cI, 8, .inl rv))] := hD
  refine lv_aload_n hx hb dX1_add_20 rfl (lv_at hl 0 rfl) ?_
  refine va_get (D := D) (ci := 1) (v := .ref (a 8)) (C := RX1) (T := TX1) (N := 4) hx hb hts hin1 hown hK.1 hP 0 rfl rfl 3 (by decide) (hts _ (List.mem_of_getElem? (i := 4) rfl)) (fun _ h9 => h9) rfl dX1_add_21 ?_
  refine lv_aload_n hx hb dX1_add_24 rfl (lv_at hl 0 rfl) ?_
  refine va_get (D := D) (ci := 1) (v := .int (nI rc)) (C := RX1) (T := TX1) (N := 4) hx hb hts hin1 hown hK.1 hP 0 rfl rfl 0 (by decide) (hts _ (List.mem_of_getElem? (i := 2) rfl)) (fun _ h9 => h9) rfl dX1_add_25 ?_
  refine lv_iload_n hx hb dX1_add_28 rfl (lv_at hl 3 rfl) ?_
  refine k_iast hx hb hK hP hD hS 3 0 rfl rfl (j := rc) (vp_in_nI (show rc < 8 by omega) (by decide)) (nI_clamp (by omega)) dX1_add_29 (fun H locs hP hD hS => ?_)
  have hP : va_P D vwCl [(a 5, .inr (1, [.int (nI rc), .ref (a 6), .ref (a 7), .ref (a 8)])), (a 6, .inl (cI, 8, .inl (upd ro rc c))), (a 7, .inl (cI, 8, .inl (upd rb rc ws))), (a 8, .inl (cI, 8, .inl (upd rv rc v)))] H := hP
  have hD : va_D A [(a 5, .inr (1, [.int (nI rc), .ref (a 6), .ref (a 7), .ref (a 8)])), (a 6, .inl (cI, 8, .inl (upd ro rc c))), (a 7, .inl (cI, 8, .inl (upd rb rc ws))), (a 8, .inl (cI, 8, .inl (upd rv rc v)))] := hD
  refine lv_aload_n hx hb dX1_add_30 rfl (lv_at hl 0 rfl) ?_
  refine lv_dup hx hb dX1_add_31 rfl ?_
  refine va_get (D := D) (ci := 1) (v := .int (nI rc)) (C := RX1) (T := TX1) (N := 4) hx hb hts hin1 hown hK.1 hP 0 rfl rfl 0 (by decide) (hts _ (List.mem_of_getElem? (i := 2) rfl)) (fun _ h9 => h9) rfl dX1_add_32 ?_
  refine lv_iconst (v := 1) hx hb dX1_add_35 (by decide) ?_
  refine lv_iadd hx hb dX1_add_36 ?_
  refine k_top (y := (nI (rc + 1))) (nI_add _ 1) ?_
  refine va_put (D := D) (ci := 1) (v := .int (nI (rc + 1))) (ty := .int) (C := RX1) (T := TX1) (N := 4) hx hb hts hin1 tyX1 tyX1_ok nmX1 hown hK.1 hP hD hS 0 rfl rfl 0 (by decide) (hts _ (List.mem_of_getElem? (i := 2) rfl)) (fun _ h9 => h9) rfl (by decide +kernel) rfl rfl (Nat.le_of_ble_eq_true rfl) dX1_add_37 (fun H locs hP hD hS => ?_)
  have hP : va_P D vwCl [(a 5, .inr (1, [.int (nI (rc + 1)), .ref (a 6), .ref (a 7), .ref (a 8)])), (a 6, .inl (cI, 8, .inl (upd ro rc c))), (a 7, .inl (cI, 8, .inl (upd rb rc ws))), (a 8, .inl (cI, 8, .inl (upd rv rc v)))] H := hP
  have hD : va_D A [(a 5, .inr (1, [.int (nI (rc + 1)), .ref (a 6), .ref (a 7), .ref (a 8)])), (a 6, .inl (cI, 8, .inl (upd ro rc c))), (a 7, .inl (cI, 8, .inl (upd rb rc ws))), (a 8, .inl (cI, 8, .inl (upd rv rc v)))] := hD
  refine lv_aload_n hx hb dX1_add_40 rfl (lv_at hl 0 rfl) ?_
  refine va_get (D := D) (ci := 1) (v := .int (nI (rc + 1))) (C := RX1) (T := TX1) (N := 4) hx hb hts hin1 hown hK.1 hP 0 rfl rfl 0 (by decide) (hts _ (List.mem_of_getElem? (i := 2) rfl)) (fun _ h9 => h9) rfl dX1_add_41 ?_
  refine lv_iconst (v := 1) hx hb dX1_add_44 (by decide) ?_
  refine lv_isub hx hb dX1_add_45 ?_
  refine k_top (y := (nI rc)) (by rw [← nI_add]; exact nI_pred_add rc) ?_
  refine mi_ret (v := (nI rc)) hx hb hr hlk hP hD hS dX1_add_46 ?_
  exact ⟨rfl, rfl⟩
theorem iwX1_areSo_X1 : ∀ x ∈ wsX10, x ∈ wsX1_areSo := by decide +kernel
set_option maxRecDepth 100000 in
set_option maxHeartbeats 4000000 in
/-- X1_areSo -/
theorem c_X1_areSo (l : Launch) (D : va_G) (cI cJ cO : ClassId) (a : Nat → Nat) (h : Nat) (w : Nat) (pc : Int32) (br : Int32) (kd : Nat → Int32) (et : Nat → Int32) (nb : Nat → Int32) (rc : Nat) (ro : Nat → Int32) (rb : Nat → Int32) (rv : Nat → Int32) (hro : ∀ k, k < rc → vp_in (ro k) 16) (hrc : rc ≤ 8) : RG l yX1_areSo wsX1_areSo 2 44 D [(cI, .int), (cJ, .long), (cO, .object "ShornHill$Sheet")] [.ref (a 5), .ref (a 1)] [(a 5, .inr (1, [.int (nI rc), .ref (a 6), .ref (a 7), .ref (a 8)])), (a 6, .inl (cI, 8, .inl ro)), (a 7, .inl (cI, 8, .inl rb)), (a 8, .inl (cI, 8, .inl rv)), (a 1, .inr (0, [.int (nI h), .int (nI w), .int pc, .int br, .ref (a 2), .ref (a 3), .ref (a 4)])), (a 2, .inl (cI, 16, .inl kd)), (a 3, .inl (cI, 16, .inl et)), (a 4, .inl (cI, 64, .inl nb))] (vp_Si (fun (r : Int32) => r = (b2 (soP pc kd et ro rb rv rc)))) := by
  refine RG.of (cc := cX1_areSo) (maxL := 3) (ret := (some .boolean)) (by decide) rfl (Nat.le_of_ble_eq_true rfl) ?_
  intro P_ E_ S_ M_ B_ T_ K_ hx hb hml hr hts hown hlk hP hK ls hl
  have hl : lv_has ls 3 [(0, .ref (a 5)), (1, .ref (a 1))] := hl
  have hin1 : ∀ x ∈ u_ws RX1 TX1 4, x ∈ wsX1_areSo := iwX1_areSo_X1
  refine lv_iconst (v := 0) hx hb dX1_areSo_0 (by decide) ?_
  refine lv_istore_n (lv' := [(2, .int 0), (0, .ref (a 5)), (1, .ref (a 1))]) hx hb dX1_areSo_1 rfl hl (by decide) rfl (fun ls hl => ?_)
  have key_2 : ∀ (n_1 : Nat) (k : Nat), (k ≤ rc) → (soP pc kd et ro rb rv k) → rc - k < n_1 → ∀ ls : Array Slot, lv_has ls 3 [(0, .ref (a 5)), (1, .ref (a 1)), (2, .int (nI k))] → W P_ l E_ ({ frames := 2, cells := 0, slots := 0, locals := 44 } : Room) S_ M_ (([.ref (a 5), .ref (a 1)] : List Value).toArray) B_ T_ K_ S_.heap [] 0 0 (MQ B_ (vp_Si (fun (r : Int32) => r = (b2 (soP pc kd et ro rb rv rc)))) (([.ref (a 5), .ref (a 1)] : List Value).toArray) S_ 0 0 (fun _ => False)) (F0 M_ 2 ls []) := by
    intro n_1
    induction n_1 with
    | zero =>
      intro k hk hs hmu_n_1
      exact absurd hmu_n_1 (Nat.not_lt_zero _)
    | succ n_1 ih_3 =>
      intro k hk hs hmu_n_1 ls hl
      have hl : lv_has ls 3 [(0, .ref (a 5)), (1, .ref (a 1)), (2, .int (nI k))] := hl
      refine lv_iload_n hx hb dX1_areSo_2 rfl (lv_at hl 2 rfl) ?_
      refine lv_aload_n hx hb dX1_areSo_3 rfl (lv_at hl 0 rfl) ?_
      refine va_get (D := D) (ci := 1) (v := .int (nI rc)) (C := RX1) (T := TX1) (N := 4) hx hb hts hin1 hown hK.1 hP 0 rfl rfl 0 (by decide) (hts _ (List.mem_of_getElem? (i := 1) rfl)) (fun _ h9 => h9) rfl dX1_areSo_4 ?_
      refine lv_icmp_ge (tgt := 43) hx hb dX1_areSo_7 (by decide) (fun c_4 => ?_) (fun c_4 => ?_)
      · have c_4 : rc ≤ k := (nI_leI (a := rc) (b := k) (by omega) (by omega)).mp c_4
        refine lv_iconst (v := 1) hx hb dX1_areSo_43 (by decide) ?_
        refine rz_ret (v := 1) hx hb hr hlk dX1_areSo_44 (by decide) ?_
        exact b2_1 (by rw [show rc = k by omega]; exact hs)
      · have c_4 : k < rc := Nat.lt_of_not_le (fun z => c_4 ((nI_leI (a := rc) (b := k) (by omega) (by omega)).mpr z))
        refine lv_aload_n hx hb dX1_areSo_10 rfl (lv_at hl 1 rfl) ?_
        refine lv_aload_n hx hb dX1_areSo_11 rfl (lv_at hl 0 rfl) ?_
        refine va_get (D := D) (ci := 1) (v := .ref (a 6)) (C := RX1) (T := TX1) (N := 4) hx hb hts hin1 hown hK.1 hP 0 rfl rfl 1 (by decide) (hts _ (List.mem_of_getElem? (i := 2) rfl)) (fun _ h9 => h9) rfl dX1_areSo_12 ?_
        refine lv_iload_n hx hb dX1_areSo_15 rfl (lv_at hl 2 rfl) ?_
        refine k_iald hx hb hK hP 1 0 rfl rfl (j := k) (vp_in_nI (show k < 8 by omega) (by decide)) (nI_clamp (by omega)) dX1_areSo_16 ?_
        refine lv_aload_n hx hb dX1_areSo_17 rfl (lv_at hl 0 rfl) ?_
        refine va_get (D := D) (ci := 1) (v := .ref (a 7)) (C := RX1) (T := TX1) (N := 4) hx hb hts hin1 hown hK.1 hP 0 rfl rfl 2 (by decide) (hts _ (List.mem_of_getElem? (i := 3) rfl)) (fun _ h9 => h9) rfl dX1_areSo_18 ?_
        refine lv_iload_n hx hb dX1_areSo_21 rfl (lv_at hl 2 rfl) ?_
        refine k_iald hx hb hK hP 2 0 rfl rfl (j := k) (vp_in_nI (show k < 8 by omega) (by decide)) (nI_clamp (by omega)) dX1_areSo_22 ?_
        refine k_ri (run_RN (As := [.int (ro k), .int (rb k)]) (rest := []) ⟨hx, hb, hml, hown, hts⟩ (c_X0_inches l D cI cJ cO a h w pc br kd et nb (ro k) (rb k) ((ro k).toNatClampNeg) (hro k (by omega)) rfl) ⟨va_cnB 2 hts ggX1_areSo_X0_inches rfl rfl rfl (nw_X1_25 hK) (hts _ (List.mem_of_getElem? (i := 6) rfl)) (by decide +kernel) ⟨Nat.le_of_ble_eq_true rfl, Nat.le_of_ble_eq_true rfl⟩, (hts _ (List.mem_of_getElem? (i := 5) rfl)), (hts _ (List.mem_of_getElem? (i := 7) rfl))⟩ hP hK [4, 5, 6, 7] rfl rfl rfl rfl rfl hl.1 rfl (Nat.le_of_ble_eq_true rfl) dX1_areSo_23 ⟨Nat.le_refl _, Nat.le_refl _⟩) (fun r_5 q_6 => ?_)
        obtain rfl := q_6
        refine lv_aload_n hx hb dX1_areSo_26 rfl (lv_at hl 0 rfl) ?_
        refine va_get (D := D) (ci := 1) (v := .ref (a 8)) (C := RX1) (T := TX1) (N := 4) hx hb hts hin1 hown hK.1 hP 0 rfl rfl 3 (by decide) (hts _ (List.mem_of_getElem? (i := 4) rfl)) (fun _ h9 => h9) rfl dX1_areSo_27 ?_
        refine lv_iload_n hx hb dX1_areSo_30 rfl (lv_at hl 2 rfl) ?_
        refine k_iald hx hb hK hP 3 0 rfl rfl (j := k) (vp_in_nI (show k < 8 by omega) (by decide)) (nI_clamp (by omega)) dX1_areSo_31 ?_
        refine lv_icmp_eq (tgt := 37) hx hb dX1_areSo_32 (by decide) (fun c_7 => ?_) (fun c_7 => ?_)
        · refine lv_iinc (v := (nI (k + 1))) (lv' := [(2, .int (nI (k + 1))), (0, .ref (a 5)), (1, .ref (a 1))]) hx hb dX1_areSo_37 hl (k := 2) rfl (nI_add _ 1) (by decide) rfl (fun ls hl => ?_)
          refine lv_goto (tgt := 2) hx hb dX1_areSo_40 (by decide) ?_
          exact ih_3 (k + 1) (by omega) (fun z hz => (Nat.lt_or_ge z k).elim (hs z) (fun y => by rw [show z = k by omega]; assumption)) (by omega) ls (lv_sub hl [1, 2, 0] rfl)
        · refine lv_iconst (v := 0) hx hb dX1_areSo_35 (by decide) ?_
          refine rz_ret (v := 0) hx hb hr hlk dX1_areSo_36 (by decide) ?_
          exact b2_0 (fun z => absurd (z k (by omega)) (by assumption))
  exact key_2 _ 0 (by omega) (fun z hz => absurd hz (Nat.not_lt_zero z)) (Nat.lt_succ_self _) ls (lv_sub hl [1, 2, 0] rfl)
theorem iwX2_keep_X2 : ∀ x ∈ wsX20, x ∈ wsX2_keep := by decide +kernel
set_option maxRecDepth 100000 in
set_option maxHeartbeats 4000000 in
/-- X2_keep -/
theorem c_X2_keep (l : Launch) (D : va_G) (cI cJ cO : ClassId) (a : Nat → Nat) (td : Nat → Int32) (bs : Nat → Int32) (mo : Int32) (go : Int32) (s : Nat) (h1 : 1 ≤ s) (h2 : s ≤ 16) : MG l yX2_keep wsX2_keep 1 40 0 0 D [(cI, .int), (cJ, .long), (cO, .object "ShornHill$Sheet")] [.ref (a 9), .int (nI s)] [(a 9, .inr (2, [.ref (a 10), .ref (a 11), .int mo, .int go])), (a 10, .inl (cI, 15, .inl td)), (a 11, .inl (cI, 15, .inl bs))] (QV D (fun (w1 : va_W) => w1 = [(a 9, .inr (2, [.ref (a 10), .ref (a 11), .int (nI s), .int go])), (a 10, .inl (cI, 15, .inl td)), (a 11, .inl (cI, 15, .inl (fil td bs (s - 1))))])) := by
  refine MG.of (cc := cX2_keep) (maxL := 2) (ret := none) (by decide) rfl (Nat.le_of_ble_eq_true rfl) ?_
  intro P_ E_ S_ M_ B_ T_ K_ hx hb hml hr hts hown hlk hnm A hA hP hK hD hS ls hl
  have hl : lv_has ls 2 [(0, .ref (a 9)), (1, .int (nI s))] := hl
  have hin2 : ∀ x ∈ u_ws RX2 TX2 4, x ∈ wsX2_keep := iwX2_keep_X2
  refine lv_aload_n hx hb dX2_keep_0 rfl (lv_at hl 0 rfl) ?_
  refine lv_iload_n hx hb dX2_keep_1 rfl (lv_at hl 1 rfl) ?_
  refine va_put (D := D) (ci := 2) (v := .int (nI s)) (ty := .int) (C := RX2) (T := TX2) (N := 4) hx hb hts hin2 tyX2 tyX2_ok nmX2 hown hK.1 hP hD hS 0 rfl rfl 2 (by decide) (hts _ (List.mem_of_getElem? (i := 1) rfl)) (fun _ h9 => h9) rfl (by decide +kernel) rfl rfl (Nat.le_of_ble_eq_true rfl) dX2_keep_2 (fun H locs hP hD hS => ?_)
  have hP : va_P D vwCl [(a 9, .inr (2, [.ref (a 10), .ref (a 11), .int (nI s), .int go])), (a 10, .inl (cI, 15, .inl td)), (a 11, .inl (cI, 15, .inl bs))] H := hP
  have hD : va_D A [(a 9, .inr (2, [.ref (a 10), .ref (a 11), .int (nI s), .int go])), (a 10, .inl (cI, 15, .inl td)), (a 11, .inl (cI, 15, .inl bs))] := hD
  refine lv_aload_n hx hb dX2_keep_5 rfl (lv_at hl 0 rfl) ?_
  refine va_get (D := D) (ci := 2) (v := .ref (a 10)) (C := RX2) (T := TX2) (N := 4) hx hb hts hin2 hown hK.1 hP 0 rfl rfl 0 (by decide) (hts _ (List.mem_of_getElem? (i := 2) rfl)) (fun _ h9 => h9) rfl dX2_keep_6 ?_
  refine lv_iconst (v := 0) hx hb dX2_keep_9 (by decide) ?_
  refine lv_aload_n hx hb dX2_keep_10 rfl (lv_at hl 0 rfl) ?_
  refine va_get (D := D) (ci := 2) (v := .ref (a 11)) (C := RX2) (T := TX2) (N := 4) hx hb hts hin2 hown hK.1 hP 0 rfl rfl 1 (by decide) (hts _ (List.mem_of_getElem? (i := 3) rfl)) (fun _ h9 => h9) rfl dX2_keep_11 ?_
  refine lv_iconst (v := 0) hx hb dX2_keep_14 (by decide) ?_
  refine lv_iload_n hx hb dX2_keep_15 rfl (lv_at hl 1 rfl) ?_
  refine lv_iconst (v := 1) hx hb dX2_keep_16 (by decide) ?_
  refine lv_isub hx hb dX2_keep_17 ?_
  refine k_top (y := (nI (s - 1))) (pk_sub (b := 1) h1) ?_
  refine va_copyi hx hb (hml.trans hl.1.symm) hown (hts _ (List.mem_of_getElem? (i := 4) rfl)) (hts _ (List.mem_of_getElem? (i := 5) rfl)) (hts _ (List.mem_of_getElem? (i := 6) rfl)) (hts _ (List.mem_of_getElem? (i := 7) rfl)) hK.1 hP hD hS 1 2 0 0 rfl rfl rfl rfl rfl (by decide) (by decide) (nI_pos (by omega)) (by rw [nI_clamp (by omega)]; show 0 + _ ≤ 15; omega) (by rw [nI_clamp (by omega)]; show 0 + _ ≤ 15; omega) (fun _ _ => rfl) (Nat.le_of_ble_eq_true rfl) (Nat.le_of_ble_eq_true rfl) dX2_keep_18 (fun H locs hP hD hS => ?_)
  have hP : va_P D vwCl [(a 9, .inr (2, [.ref (a 10), .ref (a 11), .int (nI s), .int go])), (a 10, .inl (cI, 15, .inl td)), (a 11, .inl (cI, 15, .inl (va_cpy td bs (0 : Int32).toNatClampNeg (0 : Int32).toNatClampNeg (nI (s - 1)).toNatClampNeg)))] H := hP
  have hD : va_D A [(a 9, .inr (2, [.ref (a 10), .ref (a 11), .int (nI s), .int go])), (a 10, .inl (cI, 15, .inl td)), (a 11, .inl (cI, 15, .inl (va_cpy td bs (0 : Int32).toNatClampNeg (0 : Int32).toNatClampNeg (nI (s - 1)).toNatClampNeg)))] := hD
  rw [show (va_cpy td bs (0 : Int32).toNatClampNeg (0 : Int32).toNatClampNeg (nI (s - 1)).toNatClampNeg) = (fil td bs (s - 1)) from (by rw [nI_clamp (show s - 1 < 2 ^ 31 by omega)]; exact cpy_fil td bs (s - 1))] at hP hD
  refine mv_ret hx hb hr hlk hP hD hS dX2_keep_21 ?_
  rfl
theorem iwX3_renew_X3 : ∀ x ∈ wsX30, x ∈ wsX3_renew := by decide +kernel
set_option maxRecDepth 100000 in
set_option maxHeartbeats 4000000 in
/-- X3_renew -/
theorem c_X3_renew (l : Launch) (D : va_G) (cI cJ cO : ClassId) (p : Nat) (q : Nat) (hs : Int32) (ln : Int32) (le : Nat) (ro : Nat → Int32) (x : Int32) (n : Nat) (hn : n ≤ 60) : MG l yX3_renew wsX3_renew 0 0 0 0 D [(cI, .int), (cJ, .long), (cO, .object "ShornHill$Sheet")] [.ref p, .int x, .int (nI n)] [(p, .inr (3, [.int hs, .int ln, .int (nI le), .ref q])), (q, .inl (cI, 60, .inl ro))] (QV D (fun (w1 : va_W) => w1 = [(p, .inr (3, [.int 1, .int x, .int (nI n), .ref q])), (q, .inl (cI, 60, .inl (fil (fun _ => 0) ro n)))])) := by
  refine MG.of (cc := cX3_renew) (maxL := 4) (ret := none) (by decide) rfl (Nat.le_of_ble_eq_true rfl) ?_
  intro P_ E_ S_ M_ B_ T_ K_ hx hb hml hr hts hown hlk hnm A hA hP hK hD hS ls hl
  have hl : lv_has ls 4 [(0, .ref p), (1, .int x), (2, .int (nI n))] := hl
  have hin3 : ∀ x ∈ u_ws RX3 TX3 4, x ∈ wsX3_renew := iwX3_renew_X3
  refine lv_aload_n hx hb dX3_renew_0 rfl (lv_at hl 0 rfl) ?_
  refine lv_iconst (v := 1) hx hb dX3_renew_1 (by decide) ?_
  refine va_put (D := D) (ci := 3) (v := .int 1) (ty := .boolean) (C := RX3) (T := TX3) (N := 4) hx hb hts hin3 tyX3 tyX3_ok nmX3 hown hK.1 hP hD hS 0 rfl rfl 0 (by decide) (hts _ (List.mem_of_getElem? (i := 1) rfl)) (fun _ h9 => h9) rfl (by decide +kernel) rfl rfl (Nat.le_of_ble_eq_true rfl) dX3_renew_2 (fun H locs hP hD hS => ?_)
  have hP : va_P D vwCl [(p, .inr (3, [.int 1, .int ln, .int (nI le), .ref q])), (q, .inl (cI, 60, .inl ro))] H := hP
  have hD : va_D A [(p, .inr (3, [.int 1, .int ln, .int (nI le), .ref q])), (q, .inl (cI, 60, .inl ro))] := hD
  refine lv_aload_n hx hb dX3_renew_5 rfl (lv_at hl 0 rfl) ?_
  refine lv_iload_n hx hb dX3_renew_6 rfl (lv_at hl 1 rfl) ?_
  refine va_put (D := D) (ci := 3) (v := .int x) (ty := .int) (C := RX3) (T := TX3) (N := 4) hx hb hts hin3 tyX3 tyX3_ok nmX3 hown hK.1 hP hD hS 0 rfl rfl 1 (by decide) (hts _ (List.mem_of_getElem? (i := 2) rfl)) (fun _ h9 => h9) rfl (by decide +kernel) rfl rfl (Nat.le_of_ble_eq_true rfl) dX3_renew_7 (fun H locs hP hD hS => ?_)
  have hP : va_P D vwCl [(p, .inr (3, [.int 1, .int x, .int (nI le), .ref q])), (q, .inl (cI, 60, .inl ro))] H := hP
  have hD : va_D A [(p, .inr (3, [.int 1, .int x, .int (nI le), .ref q])), (q, .inl (cI, 60, .inl ro))] := hD
  refine lv_aload_n hx hb dX3_renew_10 rfl (lv_at hl 0 rfl) ?_
  refine lv_iload_n hx hb dX3_renew_11 rfl (lv_at hl 2 rfl) ?_
  refine va_put (D := D) (ci := 3) (v := .int (nI n)) (ty := .int) (C := RX3) (T := TX3) (N := 4) hx hb hts hin3 tyX3 tyX3_ok nmX3 hown hK.1 hP hD hS 0 rfl rfl 2 (by decide) (hts _ (List.mem_of_getElem? (i := 3) rfl)) (fun _ h9 => h9) rfl (by decide +kernel) rfl rfl (Nat.le_of_ble_eq_true rfl) dX3_renew_12 (fun H locs hP hD hS => ?_)
  have hP : va_P D vwCl [(p, .inr (3, [.int 1, .int x, .int (nI n), .ref q])), (q, .inl (cI, 60, .inl ro))] H := hP
  have hD : va_D A [(p, .inr (3, [.int 1, .int x, .int (nI n), .ref q])), (q, .inl (cI, 60, .inl ro))] := hD
  refine lv_iconst (v := 0) hx hb dX3_renew_15 (by decide) ?_
  refine lv_istore_n (lv' := [(3, .int 0), (0, .ref p), (1, .int x), (2, .int (nI n))]) hx hb dX3_renew_16 rfl hl (by decide) rfl (fun ls hl => ?_)
  have key_2 : ∀ (n_1 : Nat) (k : Nat) (g : Nat → Int32), (k ≤ n) → g = (fil (fun _ => 0) ro k) → n - k < n_1 → ∀ (H : Heap) (locs : List Loc), va_P D vwCl [(p, .inr (3, [.int 1, .int x, .int (nI n), .ref q])), (q, .inl (cI, 60, .inl g))] H → va_D A [(p, .inr (3, [.int 1, .int x, .int (nI n), .ref q])), (q, .inl (cI, 60, .inl g))] → va_S A S_.heap H locs → ∀ ls : Array Slot, lv_has ls 4 [(0, .ref p), (1, .int x), (2, .int (nI n)), (3, .int (nI k))] → W P_ l E_ ({ frames := 0, cells := 0, slots := 0, locals := 0 } : Room) S_ M_ (([.ref p, .int x, .int (nI n)] : List Value).toArray) B_ T_ K_ H locs 0 0 (MQ B_ ((QV D (fun (w1 : va_W) => w1 = [(p, .inr (3, [.int 1, .int x, .int (nI n), .ref q])), (q, .inl (cI, 60, .inl (fil (fun _ => 0) ro n)))])) A) (([.ref p, .int x, .int (nI n)] : List Value).toArray) S_ 0 0 A) (F0 M_ 17 ls []) := by
    intro n_1
    induction n_1 with
    | zero =>
      intro k g hk e_g hmu_n_1
      exact absurd hmu_n_1 (Nat.not_lt_zero _)
    | succ n_1 ih_3 =>
      intro k g hk e_g hmu_n_1 H locs hP hD hS ls hl
      subst e_g
      have hl : lv_has ls 4 [(0, .ref p), (1, .int x), (2, .int (nI n)), (3, .int (nI k))] := hl
      have hP : va_P D vwCl [(p, .inr (3, [.int 1, .int x, .int (nI n), .ref q])), (q, .inl (cI, 60, .inl (fil (fun _ => 0) ro k)))] H := hP
      have hD : va_D A [(p, .inr (3, [.int 1, .int x, .int (nI n), .ref q])), (q, .inl (cI, 60, .inl (fil (fun _ => 0) ro k)))] := hD
      refine lv_iload_n hx hb dX3_renew_17 rfl (lv_at hl 3 rfl) ?_
      refine lv_iload_n hx hb dX3_renew_18 rfl (lv_at hl 2 rfl) ?_
      refine lv_icmp_ge (tgt := 35) hx hb dX3_renew_19 (by decide) (fun c_4 => ?_) (fun c_4 => ?_)
      · have c_4 : n ≤ k := (nI_leI (a := n) (b := k) (by omega) (by omega)).mp c_4
        refine mv_ret hx hb hr hlk hP hD hS dX3_renew_35 ?_
        rw [show n = k by omega]
      · have c_4 : k < n := Nat.lt_of_not_le (fun z => c_4 ((nI_leI (a := n) (b := k) (by omega) (by omega)).mpr z))
        refine lv_aload_n hx hb dX3_renew_22 rfl (lv_at hl 0 rfl) ?_
        refine va_get (D := D) (ci := 3) (v := .ref q) (C := RX3) (T := TX3) (N := 4) hx hb hts hin3 hown hK.1 hP 0 rfl rfl 3 (by decide) (hts _ (List.mem_of_getElem? (i := 4) rfl)) (fun _ h9 => h9) rfl dX3_renew_23 ?_
        refine lv_iload_n hx hb dX3_renew_26 rfl (lv_at hl 3 rfl) ?_
        refine lv_iconst (v := 0) hx hb dX3_renew_27 (by decide) ?_
        refine k_iast hx hb hK hP hD hS 1 0 rfl rfl (j := k) (vp_in_nI (show k < 60 by omega) (by decide)) (nI_clamp (by omega)) dX3_renew_28 (fun H locs hP hD hS => ?_)
        have hP : va_P D vwCl [(p, .inr (3, [.int 1, .int x, .int (nI n), .ref q])), (q, .inl (cI, 60, .inl (upd (fil (fun _ => 0) ro k) k 0)))] H := hP
        have hD : va_D A [(p, .inr (3, [.int 1, .int x, .int (nI n), .ref q])), (q, .inl (cI, 60, .inl (upd (fil (fun _ => 0) ro k) k 0)))] := hD
        refine lv_iinc (v := (nI (k + 1))) (lv' := [(3, .int (nI (k + 1))), (0, .ref p), (1, .int x), (2, .int (nI n))]) hx hb dX3_renew_29 hl (k := 3) rfl (nI_add _ 1) (by decide) rfl (fun ls hl => ?_)
        refine lv_goto (tgt := 17) hx hb dX3_renew_32 (by decide) ?_
        exact ih_3 (k + 1) (upd (fil (fun _ => 0) ro k) k 0) (by omega) (fil_upd (fun _ => 0) ro k rfl) (by omega) _ _ hP hD hS ls (lv_sub hl [1, 2, 3, 0] rfl)
  exact key_2 _ 0 ro (by omega) (fil_0 _ _).symm (Nat.lt_succ_self _) _ _ hP hD hS ls (lv_sub hl [1, 2, 3, 0] rfl)
theorem iwX3_faultAs_X3 : ∀ x ∈ wsX30, x ∈ wsX3_faultAs := by decide +kernel
set_option maxRecDepth 100000 in
set_option maxHeartbeats 4000000 in
/-- X3_faultAs -/
theorem c_X3_faultAs (l : Launch) (D : va_G) (cI cJ cO : ClassId) (p : Nat) (q : Nat) (hs : Int32) (ln : Int32) (le : Nat) (ro : Nat → Int32) (x : Int32) : RG l yX3_faultAs wsX3_faultAs 0 0 D [(cI, .int), (cJ, .long), (cO, .object "ShornHill$Sheet")] [.ref p, .int x] [(p, .inr (3, [.int hs, .int ln, .int (nI le), .ref q])), (q, .inl (cI, 60, .inl ro))] (vp_Si (fun (r : Int32) => r = (fltF hs ln x))) := by
  refine RG.of (cc := cX3_faultAs) (maxL := 2) (ret := (some .int)) (by decide) rfl (Nat.le_of_ble_eq_true rfl) ?_
  intro P_ E_ S_ M_ B_ T_ K_ hx hb hml hr hts hown hlk hP hK ls hl
  have hl : lv_has ls 2 [(0, .ref p), (1, .int x)] := hl
  have hin3 : ∀ x ∈ u_ws RX3 TX3 4, x ∈ wsX3_faultAs := iwX3_faultAs_X3
  refine lv_aload_n hx hb dX3_faultAs_0 rfl (lv_at hl 0 rfl) ?_
  refine va_get (D := D) (ci := 3) (v := .int hs) (C := RX3) (T := TX3) (N := 4) hx hb hts hin3 hown hK.1 hP 0 rfl rfl 0 (by decide) (hts _ (List.mem_of_getElem? (i := 1) rfl)) (fun _ h9 => h9) rfl dX3_faultAs_1 ?_
  refine lv_if_ne (tgt := 9) hx hb dX3_faultAs_4 (by decide) (fun c_1 => ?_) (fun c_1 => ?_)
  · refine lv_aload_n hx hb dX3_faultAs_9 rfl (lv_at hl 0 rfl) ?_
    refine va_get (D := D) (ci := 3) (v := .int ln) (C := RX3) (T := TX3) (N := 4) hx hb hts hin3 hown hK.1 hP 0 rfl rfl 1 (by decide) (hts _ (List.mem_of_getElem? (i := 2) rfl)) (fun _ h9 => h9) rfl dX3_faultAs_10 ?_
    refine lv_iload_n hx hb dX3_faultAs_13 rfl (lv_at hl 1 rfl) ?_
    refine lv_icmp_ne (tgt := 21) hx hb dX3_faultAs_14 (by decide) (fun c_2 => ?_) (fun c_2 => ?_)
    · refine lv_iconst (v := 2) hx hb dX3_faultAs_21 (by decide) ?_
      refine ri_ret (v := 2) hx hb hr hlk dX3_faultAs_22 ?_
      rw [fltF, if_neg c_1, if_neg c_2]
    · refine lv_iconst (v := 0) hx hb dX3_faultAs_17 (by decide) ?_
      refine lv_goto (tgt := 22) hx hb dX3_faultAs_18 (by decide) ?_
      refine ri_ret (v := 0) hx hb hr hlk dX3_faultAs_22 ?_
      rw [fltF, if_neg c_1, if_pos c_2]
  · refine lv_iconst (v := 1) hx hb dX3_faultAs_7 (by decide) ?_
    refine ri_ret (v := 1) hx hb hr hlk dX3_faultAs_8 ?_
    rw [fltF, if_pos c_1]
theorem iwX3_holds_X3 : ∀ x ∈ wsX30, x ∈ wsX3_holds := by decide +kernel
set_option maxRecDepth 100000 in
set_option maxHeartbeats 4000000 in
/-- X3_holds -/
theorem c_X3_holds (l : Launch) (D : va_G) (cI cJ cO : ClassId) (p : Nat) (q : Nat) (hs : Int32) (ln : Int32) (le : Nat) (ro : Nat → Int32) (x : Int32) (hle : le ≤ 60) : RG l yX3_holds wsX3_holds 0 0 D [(cI, .int), (cJ, .long), (cO, .object "ShornHill$Sheet")] [.ref p, .int x] [(p, .inr (3, [.int hs, .int ln, .int (nI le), .ref q])), (q, .inl (cI, 60, .inl ro))] (vp_Si (fun (r : Int32) => r = (b2 (inN x le)))) := by
  refine RG.of (cc := cX3_holds) (maxL := 2) (ret := (some .boolean)) (by decide) rfl (Nat.le_of_ble_eq_true rfl) ?_
  intro P_ E_ S_ M_ B_ T_ K_ hx hb hml hr hts hown hlk hP hK ls hl
  have hl : lv_has ls 2 [(0, .ref p), (1, .int x)] := hl
  have hin3 : ∀ x ∈ u_ws RX3 TX3 4, x ∈ wsX3_holds := iwX3_holds_X3
  refine lv_iload_n hx hb dX3_holds_0 rfl (lv_at hl 1 rfl) ?_
  refine lv_if_lt (tgt := 16) hx hb dX3_holds_1 (by decide) (fun c_1 => ?_) (fun c_1 => ?_)
  · refine lv_iconst (v := 0) hx hb dX3_holds_16 (by decide) ?_
    refine rz_ret (v := 0) hx hb hr hlk dX3_holds_17 (by decide) ?_
    refine b2_0 ?_
    simp only [inN, softP, inS, ripP, Int32.lt_iff_toInt_lt, Int32.le_iff_toInt_le, ← Int32.toInt_inj, ti_0, ti_1, ti_2, ti_3, ti_4, ti_8, ti_9, ti_10, ti_14, ti_15, ti_20, ti_60, ti_m1] at c_1 ⊢
    omega
  · refine lv_iload_n hx hb dX3_holds_4 rfl (lv_at hl 1 rfl) ?_
    refine lv_aload_n hx hb dX3_holds_5 rfl (lv_at hl 0 rfl) ?_
    refine va_get (D := D) (ci := 3) (v := .int (nI le)) (C := RX3) (T := TX3) (N := 4) hx hb hts hin3 hown hK.1 hP 0 rfl rfl 2 (by decide) (hts _ (List.mem_of_getElem? (i := 1) rfl)) (fun _ h9 => h9) rfl dX3_holds_6 ?_
    refine lv_icmp_ge (tgt := 16) hx hb dX3_holds_9 (by decide) (fun c_2 => ?_) (fun c_2 => ?_)
    · refine lv_iconst (v := 0) hx hb dX3_holds_16 (by decide) ?_
      refine rz_ret (v := 0) hx hb hr hlk dX3_holds_17 (by decide) ?_
      refine b2_0 ?_
      simp only [inN, softP, inS, ripP, Int32.lt_iff_toInt_lt, Int32.le_iff_toInt_le, ← Int32.toInt_inj, ti_0, ti_1, ti_2, ti_3, ti_4, ti_8, ti_9, ti_10, ti_14, ti_15, ti_20, ti_60, ti_m1, nI_toInt (show le < 2 ^ 31 by omega)] at c_1 c_2 ⊢
      omega
    · refine lv_iconst (v := 1) hx hb dX3_holds_12 (by decide) ?_
      refine lv_goto (tgt := 17) hx hb dX3_holds_13 (by decide) ?_
      refine rz_ret (v := 1) hx hb hr hlk dX3_holds_17 (by decide) ?_
      refine b2_1 ?_
      simp only [inN, softP, inS, ripP, Int32.lt_iff_toInt_lt, Int32.le_iff_toInt_le, ← Int32.toInt_inj, ti_0, ti_1, ti_2, ti_3, ti_4, ti_8, ti_9, ti_10, ti_14, ti_15, ti_20, ti_60, ti_m1, nI_toInt (show le < 2 ^ 31 by omega)] at c_1 c_2 ⊢
      omega
theorem iwX3_spans_X3 : ∀ x ∈ wsX30, x ∈ wsX3_spans := by decide +kernel
set_option maxRecDepth 100000 in
set_option maxHeartbeats 4000000 in
/-- X3_spans -/
theorem c_X3_spans (l : Launch) (D : va_G) (cI cJ cO : ClassId) (p : Nat) (q : Nat) (hs : Int32) (ln : Int32) (le : Nat) (ro : Nat → Int32) (i : Int32) (n : Int32) (hle : le ≤ 60) : RG l yX3_spans wsX3_spans 0 0 D [(cI, .int), (cJ, .long), (cO, .object "ShornHill$Sheet")] [.ref p, .int i, .int n] [(p, .inr (3, [.int hs, .int ln, .int (nI le), .ref q])), (q, .inl (cI, 60, .inl ro))] (vp_Si (fun (r : Int32) => r = (b2 (spP i n le)))) := by
  refine RG.of (cc := cX3_spans) (maxL := 3) (ret := (some .boolean)) (by decide) rfl (Nat.le_of_ble_eq_true rfl) ?_
  intro P_ E_ S_ M_ B_ T_ K_ hx hb hml hr hts hown hlk hP hK ls hl
  have hl : lv_has ls 3 [(0, .ref p), (1, .int i), (2, .int n)] := hl
  have hin3 : ∀ x ∈ u_ws RX3 TX3 4, x ∈ wsX3_spans := iwX3_spans_X3
  refine lv_iload_n hx hb dX3_spans_0 rfl (lv_at hl 1 rfl) ?_
  refine lv_if_lt (tgt := 30) hx hb dX3_spans_1 (by decide) (fun c_1 => ?_) (fun c_1 => ?_)
  · refine lv_iconst (v := 0) hx hb dX3_spans_30 (by decide) ?_
    refine rz_ret (v := 0) hx hb hr hlk dX3_spans_31 (by decide) ?_
    refine b2_0 ?_
    simp only [spP, inN, softP, btw, inS, ripP, Int32.lt_iff_toInt_lt, Int32.le_iff_toInt_le, ← Int32.toInt_inj, ti_0, ti_1, ti_2, ti_3, ti_4, ti_8, ti_9, ti_10, ti_14, ti_15, ti_20, ti_60, ti_m1, nI_toInt (show le < 2 ^ 31 by omega)] at c_1 ⊢
    omega
  · refine lv_iload_n hx hb dX3_spans_4 rfl (lv_at hl 2 rfl) ?_
    refine lv_if_lt (tgt := 30) hx hb dX3_spans_5 (by decide) (fun c_2 => ?_) (fun c_2 => ?_)
    · refine lv_iconst (v := 0) hx hb dX3_spans_30 (by decide) ?_
      refine rz_ret (v := 0) hx hb hr hlk dX3_spans_31 (by decide) ?_
      refine b2_0 ?_
      simp only [spP, inN, softP, btw, inS, ripP, Int32.lt_iff_toInt_lt, Int32.le_iff_toInt_le, ← Int32.toInt_inj, ti_0, ti_1, ti_2, ti_3, ti_4, ti_8, ti_9, ti_10, ti_14, ti_15, ti_20, ti_60, ti_m1, nI_toInt (show le < 2 ^ 31 by omega)] at c_1 c_2 ⊢
      omega
    · refine lv_iload_n hx hb dX3_spans_8 rfl (lv_at hl 1 rfl) ?_
      refine lv_aload_n hx hb dX3_spans_9 rfl (lv_at hl 0 rfl) ?_
      refine va_get (D := D) (ci := 3) (v := .int (nI le)) (C := RX3) (T := TX3) (N := 4) hx hb hts hin3 hown hK.1 hP 0 rfl rfl 2 (by decide) (hts _ (List.mem_of_getElem? (i := 1) rfl)) (fun _ h9 => h9) rfl dX3_spans_10 ?_
      refine lv_icmp_gt (tgt := 30) hx hb dX3_spans_13 (by decide) (fun c_3 => ?_) (fun c_3 => ?_)
      · refine lv_iconst (v := 0) hx hb dX3_spans_30 (by decide) ?_
        refine rz_ret (v := 0) hx hb hr hlk dX3_spans_31 (by decide) ?_
        refine b2_0 ?_
        simp only [spP, inN, softP, btw, inS, ripP, Int32.lt_iff_toInt_lt, Int32.le_iff_toInt_le, ← Int32.toInt_inj, ti_0, ti_1, ti_2, ti_3, ti_4, ti_8, ti_9, ti_10, ti_14, ti_15, ti_20, ti_60, ti_m1, nI_toInt (show le < 2 ^ 31 by omega)] at c_1 c_2 c_3 ⊢
        omega
      · have hsub : (nI le - i).toInt = (le : Int) - i.toInt := subT (by simp only [inN, softP, btw, inS, ripP, Int32.lt_iff_toInt_lt, Int32.le_iff_toInt_le, ← Int32.toInt_inj, ti_0, ti_1, ti_2, ti_3, ti_4, ti_8, ti_9, ti_10, ti_14, ti_15, ti_20, ti_60, ti_m1] at c_1; omega) (by simp only [inN, softP, btw, inS, ripP, Int32.lt_iff_toInt_lt, Int32.le_iff_toInt_le, ← Int32.toInt_inj, ti_0, ti_1, ti_2, ti_3, ti_4, ti_8, ti_9, ti_10, ti_14, ti_15, ti_20, ti_60, ti_m1, nI_toInt (show le < 2 ^ 31 by omega)] at c_3; omega) (by omega)
        refine lv_iload_n hx hb dX3_spans_16 rfl (lv_at hl 2 rfl) ?_
        refine lv_aload_n hx hb dX3_spans_17 rfl (lv_at hl 0 rfl) ?_
        refine va_get (D := D) (ci := 3) (v := .int (nI le)) (C := RX3) (T := TX3) (N := 4) hx hb hts hin3 hown hK.1 hP 0 rfl rfl 2 (by decide) (hts _ (List.mem_of_getElem? (i := 1) rfl)) (fun _ h9 => h9) rfl dX3_spans_18 ?_
        refine lv_iload_n hx hb dX3_spans_21 rfl (lv_at hl 1 rfl) ?_
        refine lv_isub hx hb dX3_spans_22 ?_
        refine lv_icmp_gt (tgt := 30) hx hb dX3_spans_23 (by decide) (fun c_4 => ?_) (fun c_4 => ?_)
        · refine lv_iconst (v := 0) hx hb dX3_spans_30 (by decide) ?_
          refine rz_ret (v := 0) hx hb hr hlk dX3_spans_31 (by decide) ?_
          refine b2_0 ?_
          simp only [spP, hsub, inN, softP, btw, inS, ripP, Int32.lt_iff_toInt_lt, Int32.le_iff_toInt_le, ← Int32.toInt_inj, ti_0, ti_1, ti_2, ti_3, ti_4, ti_8, ti_9, ti_10, ti_14, ti_15, ti_20, ti_60, ti_m1, nI_toInt (show le < 2 ^ 31 by omega)] at c_1 c_2 c_3 c_4 ⊢
          omega
        · refine lv_iconst (v := 1) hx hb dX3_spans_26 (by decide) ?_
          refine lv_goto (tgt := 31) hx hb dX3_spans_27 (by decide) ?_
          refine rz_ret (v := 1) hx hb hr hlk dX3_spans_31 (by decide) ?_
          refine b2_1 ?_
          simp only [spP, hsub, inN, softP, btw, inS, ripP, Int32.lt_iff_toInt_lt, Int32.le_iff_toInt_le, ← Int32.toInt_inj, ti_0, ti_1, ti_2, ti_3, ti_4, ti_8, ti_9, ti_10, ti_14, ti_15, ti_20, ti_60, ti_m1, nI_toInt (show le < 2 ^ 31 by omega)] at c_1 c_2 c_3 c_4 ⊢
          omega
theorem iwX3_cut_X3 : ∀ x ∈ wsX30, x ∈ wsX3_cut := by decide +kernel
set_option maxRecDepth 100000 in
set_option maxHeartbeats 4000000 in
/-- X3_cut -/
theorem c_X3_cut (l : Launch) (D : va_G) (cI cJ cO : ClassId) (p : Nat) (q : Nat) (hs : Int32) (ln : Int32) (le : Nat) (ro : Nat → Int32) (v : Int32) : RG l yX3_cut wsX3_cut 0 0 D [(cI, .int), (cJ, .long), (cO, .object "ShornHill$Sheet")] [.ref p, .int v] [(p, .inr (3, [.int hs, .int ln, .int (nI le), .ref q])), (q, .inl (cI, 60, .inl ro))] (vp_Si (fun (r : Int32) => r = (cutF ln v))) := by
  refine RG.of (cc := cX3_cut) (maxL := 2) (ret := (some .int)) (by decide) rfl (Nat.le_of_ble_eq_true rfl) ?_
  intro P_ E_ S_ M_ B_ T_ K_ hx hb hml hr hts hown hlk hP hK ls hl
  have hl : lv_has ls 2 [(0, .ref p), (1, .int v)] := hl
  have hin3 : ∀ x ∈ u_ws RX3 TX3 4, x ∈ wsX3_cut := iwX3_cut_X3
  refine lv_aload_n hx hb dX3_cut_0 rfl (lv_at hl 0 rfl) ?_
  refine va_get (D := D) (ci := 3) (v := .int ln) (C := RX3) (T := TX3) (N := 4) hx hb hts hin3 hown hK.1 hP 0 rfl rfl 1 (by decide) (hts _ (List.mem_of_getElem? (i := 1) rfl)) (fun _ h9 => h9) rfl dX3_cut_1 ?_
  by_cases c_1 : ln = 0
  · refine lv_lookup (off := 28) (tgt := 32) hx hb dX3_cut_4 (by decide) (by rw [c_1]; rfl) (by decide) ?_
    refine lv_iload_n hx hb dX3_cut_32 rfl (lv_at hl 1 rfl) ?_
    refine lv_i2b (v := v.toInt8.toInt32) hx hb dX3_cut_33 rfl ?_
    refine ri_ret (v := v.toInt8.toInt32) hx hb hr hlk dX3_cut_34 ?_
    rw [cutF, if_pos c_1]
  · by_cases c_2 : ln = 1
    · refine lv_lookup (off := 31) (tgt := 35) hx hb dX3_cut_4 (by decide) (by rw [c_2]; rfl) (by decide) ?_
      refine lv_iload_n hx hb dX3_cut_35 rfl (lv_at hl 1 rfl) ?_
      refine lv_i2s (v := v.toInt16.toInt32) hx hb dX3_cut_36 rfl ?_
      refine ri_ret (v := v.toInt16.toInt32) hx hb hr hlk dX3_cut_37 ?_
      rw [cutF, if_neg c_1, if_pos c_2]
    · refine lv_lookup (off := 34) (tgt := 38) hx hb dX3_cut_4 (by decide) (by rw [lv_osw c_1 (show (0 : Int32).toInt = 0 from rfl)]; rw [lv_osw c_2 (show (1 : Int32).toInt = 1 from rfl)]; rfl) (by decide) ?_
      refine lv_iload_n hx hb dX3_cut_38 rfl (lv_at hl 1 rfl) ?_
      refine ri_ret (v := v) hx hb hr hlk dX3_cut_39 ?_
      rw [cutF, if_neg c_1, if_neg c_2]
end
section
theorem iwX4_failed_X4 : ∀ x ∈ wsX40, x ∈ wsX4_failed := by decide +kernel
set_option maxRecDepth 100000 in
set_option maxHeartbeats 4000000 in
/-- X4_failed -/
theorem c_X4_failed (l : Launch) (D : va_G) (cI cJ cO : ClassId) (a : Nat → Nat) (ft : Int32) (tr : Int32) (x : Int32) : MG l yX4_failed wsX4_failed 0 0 0 0 D [(cI, .int), (cJ, .long), (cO, .object "ShornHill$Sheet")] [.ref (a 0), .int x] [(a 0, .inr (4, [.ref (a 1), .ref (a 5), .ref (a 9), .ref (a 12), .int ft, .int tr]))] (QI D (fun (r : Int32) (w1 : va_W) => r = ((-10) - x) ∧ w1 = [(a 0, .inr (4, [.ref (a 1), .ref (a 5), .ref (a 9), .ref (a 12), .int x, .int tr]))])) := by
  refine MG.of (cc := cX4_failed) (maxL := 2) (ret := (some .int)) (by decide) rfl (Nat.le_of_ble_eq_true rfl) ?_
  intro P_ E_ S_ M_ B_ T_ K_ hx hb hml hr hts hown hlk hnm A hA hP hK hD hS ls hl
  have hl : lv_has ls 2 [(0, .ref (a 0)), (1, .int x)] := hl
  have hin4 : ∀ x ∈ u_ws RX4 TX4 6, x ∈ wsX4_failed := iwX4_failed_X4
  refine lv_aload_n hx hb dX4_failed_0 rfl (lv_at hl 0 rfl) ?_
  refine lv_iload_n hx hb dX4_failed_1 rfl (lv_at hl 1 rfl) ?_
  refine va_put (D := D) (ci := 4) (v := .int x) (ty := .int) (C := RX4) (T := TX4) (N := 6) hx hb hts hin4 tyX4 tyX4_ok nmX4 hown hK.1 hP hD hS 0 rfl rfl 4 (by decide) (hts _ (List.mem_of_getElem? (i := 1) rfl)) (fun _ h9 => h9) rfl (by decide +kernel) rfl rfl (Nat.le_of_ble_eq_true rfl) dX4_failed_2 (fun H locs hP hD hS => ?_)
  have hP : va_P D vwCl [(a 0, .inr (4, [.ref (a 1), .ref (a 5), .ref (a 9), .ref (a 12), .int x, .int tr]))] H := hP
  have hD : va_D A [(a 0, .inr (4, [.ref (a 1), .ref (a 5), .ref (a 9), .ref (a 12), .int x, .int tr]))] := hD
  refine lv_bipush (v := (-10)) hx hb dX4_failed_5 (by decide) ?_
  refine lv_iload_n hx hb dX4_failed_7 rfl (lv_at hl 1 rfl) ?_
  refine lv_isub hx hb dX4_failed_8 ?_
  refine mi_ret (v := ((-10) - x)) hx hb hr hlk hP hD hS dX4_failed_9 ?_
  exact ⟨rfl, rfl⟩
theorem iwX4_trace_X4 : ∀ x ∈ wsX40, x ∈ wsX4_trace := by decide +kernel
set_option maxRecDepth 100000 in
set_option maxHeartbeats 4000000 in
/-- X4_trace -/
theorem c_X4_trace (l : Launch) (D : va_G) (cI cJ cO : ClassId) (a : Nat → Nat) (ft : Int32) (tr : Int32) : RG l yX4_trace wsX4_trace 0 0 D [(cI, .int), (cJ, .long), (cO, .object "ShornHill$Sheet")] [.ref (a 0)] [(a 0, .inr (4, [.ref (a 1), .ref (a 5), .ref (a 9), .ref (a 12), .int ft, .int tr]))] (vp_Si (fun (r : Int32) => r = tr)) := by
  refine RG.of (cc := cX4_trace) (maxL := 1) (ret := (some .int)) (by decide) rfl (Nat.le_of_ble_eq_true rfl) ?_
  intro P_ E_ S_ M_ B_ T_ K_ hx hb hml hr hts hown hlk hP hK ls hl
  have hl : lv_has ls 1 [(0, .ref (a 0))] := hl
  have hin4 : ∀ x ∈ u_ws RX4 TX4 6, x ∈ wsX4_trace := iwX4_trace_X4
  refine lv_aload_n hx hb dX4_trace_0 rfl (lv_at hl 0 rfl) ?_
  refine va_get (D := D) (ci := 4) (v := .int tr) (C := RX4) (T := TX4) (N := 6) hx hb hts hin4 hown hK.1 hP 0 rfl rfl 5 (by decide) (hts _ (List.mem_of_getElem? (i := 1) rfl)) (fun _ h9 => h9) rfl dX4_trace_1 ?_
  refine ri_ret (v := tr) hx hb hr hlk dX4_trace_4 ?_
  rfl
theorem iwX4_fault_X4 : ∀ x ∈ wsX40, x ∈ wsX4_fault := by decide +kernel
set_option maxRecDepth 100000 in
set_option maxHeartbeats 4000000 in
/-- X4_fault -/
theorem c_X4_fault (l : Launch) (D : va_G) (cI cJ cO : ClassId) (a : Nat → Nat) (ft : Int32) (tr : Int32) : RG l yX4_fault wsX4_fault 0 0 D [(cI, .int), (cJ, .long), (cO, .object "ShornHill$Sheet")] [.ref (a 0)] [(a 0, .inr (4, [.ref (a 1), .ref (a 5), .ref (a 9), .ref (a 12), .int ft, .int tr]))] (vp_Si (fun (r : Int32) => r = ft)) := by
  refine RG.of (cc := cX4_fault) (maxL := 1) (ret := (some .int)) (by decide) rfl (Nat.le_of_ble_eq_true rfl) ?_
  intro P_ E_ S_ M_ B_ T_ K_ hx hb hml hr hts hown hlk hP hK ls hl
  have hl : lv_has ls 1 [(0, .ref (a 0))] := hl
  have hin4 : ∀ x ∈ u_ws RX4 TX4 6, x ∈ wsX4_fault := iwX4_fault_X4
  refine lv_aload_n hx hb dX4_fault_0 rfl (lv_at hl 0 rfl) ?_
  refine va_get (D := D) (ci := 4) (v := .int ft) (C := RX4) (T := TX4) (N := 6) hx hb hts hin4 hown hK.1 hP 0 rfl rfl 4 (by decide) (hts _ (List.mem_of_getElem? (i := 1) rfl)) (fun _ h9 => h9) rfl dX4_fault_1 ?_
  refine ri_ret (v := ft) hx hb hr hlk dX4_fault_4 ?_
  rfl
theorem iwX4_begin_X4 : ∀ x ∈ wsX40, x ∈ wsX4_begin := by decide +kernel
set_option maxRecDepth 100000 in
set_option maxHeartbeats 4000000 in
/-- X4_begin -/
theorem c_X4_begin (l : Launch) (D : va_G) (cI cJ cO : ClassId) (a : Nat → Nat) (ft : Int32) (tr : Int32) (x : Int32) : MG l yX4_begin wsX4_begin 0 0 0 0 D [(cI, .int), (cJ, .long), (cO, .object "ShornHill$Sheet")] [.ref (a 0), .int x] [(a 0, .inr (4, [.ref (a 1), .ref (a 5), .ref (a 9), .ref (a 12), .int ft, .int tr]))] (QV D (fun (w1 : va_W) => w1 = [(a 0, .inr (4, [.ref (a 1), .ref (a 5), .ref (a 9), .ref (a 12), .int ft, .int (beg tr x)]))])) := by
  refine MG.of (cc := cX4_begin) (maxL := 2) (ret := none) (by decide) rfl (Nat.le_of_ble_eq_true rfl) ?_
  intro P_ E_ S_ M_ B_ T_ K_ hx hb hml hr hts hown hlk hnm A hA hP hK hD hS ls hl
  have hl : lv_has ls 2 [(0, .ref (a 0)), (1, .int x)] := hl
  have hin4 : ∀ x ∈ u_ws RX4 TX4 6, x ∈ wsX4_begin := iwX4_begin_X4
  refine lv_aload_n hx hb dX4_begin_0 rfl (lv_at hl 0 rfl) ?_
  refine lv_bipush (v := 31) hx hb dX4_begin_1 (by decide) ?_
  refine lv_aload_n hx hb dX4_begin_3 rfl (lv_at hl 0 rfl) ?_
  refine va_get (D := D) (ci := 4) (v := .int tr) (C := RX4) (T := TX4) (N := 6) hx hb hts hin4 hown hK.1 hP 0 rfl rfl 5 (by decide) (hts _ (List.mem_of_getElem? (i := 1) rfl)) (fun _ h9 => h9) rfl dX4_begin_4 ?_
  refine lv_imul hx hb dX4_begin_7 ?_
  refine lv_iload_n hx hb dX4_begin_8 rfl (lv_at hl 1 rfl) ?_
  refine lv_iadd hx hb dX4_begin_9 ?_
  refine va_put (D := D) (ci := 4) (v := .int ((31 * tr) + x)) (ty := .int) (C := RX4) (T := TX4) (N := 6) hx hb hts hin4 tyX4 tyX4_ok nmX4 hown hK.1 hP hD hS 0 rfl rfl 5 (by decide) (hts _ (List.mem_of_getElem? (i := 1) rfl)) (fun _ h9 => h9) rfl (by decide +kernel) rfl rfl (Nat.le_of_ble_eq_true rfl) dX4_begin_10 (fun H locs hP hD hS => ?_)
  have hP : va_P D vwCl [(a 0, .inr (4, [.ref (a 1), .ref (a 5), .ref (a 9), .ref (a 12), .int ft, .int ((31 * tr) + x)]))] H := hP
  have hD : va_D A [(a 0, .inr (4, [.ref (a 1), .ref (a 5), .ref (a 9), .ref (a 12), .int ft, .int ((31 * tr) + x)]))] := hD
  refine mv_ret hx hb hr hlk hP hD hS dX4_begin_13 ?_
  rfl
theorem iwX4_grassTells_X0 : ∀ x ∈ wsX00, x ∈ wsX4_grassTells := by decide +kernel
theorem iwX4_grassTells_X4 : ∀ x ∈ wsX40, x ∈ wsX4_grassTells := by decide +kernel
set_option maxRecDepth 100000 in
set_option maxHeartbeats 4000000 in
/-- X4_grassTells -/
theorem c_X4_grassTells (l : Launch) (D : va_G) (cI cJ cO : ClassId) (a : Nat → Nat) (ft : Int32) (tr : Int32) (h : Nat) (w : Nat) (pc : Int32) (br : Int32) (kd : Nat → Int32) (et : Nat → Int32) (nb : Nat → Int32) (c : Int32) (j : Nat) (hv_c : vp_in c 16) (hj_c : c.toNatClampNeg = j) : MG l yX4_grassTells wsX4_grassTells 1 21 0 0 D [(cI, .int), (cJ, .long), (cO, .object "ShornHill$Sheet")] [.ref (a 0), .int c] [(a 0, .inr (4, [.ref (a 1), .ref (a 5), .ref (a 9), .ref (a 12), .int ft, .int tr])), (a 1, .inr (0, [.int (nI h), .int (nI w), .int pc, .int br, .ref (a 2), .ref (a 3), .ref (a 4)])), (a 2, .inl (cI, 16, .inl kd)), (a 3, .inl (cI, 16, .inl et)), (a 4, .inl (cI, 64, .inl nb))] (QI D (fun (r : Int32) (w1 : va_W) => r = (et j) ∧ w1 = [(a 0, .inr (4, [.ref (a 1), .ref (a 5), .ref (a 9), .ref (a 12), .int ft, .int (beg tr 1)])), (a 1, .inr (0, [.int (nI h), .int (nI w), .int pc, .int br, .ref (a 2), .ref (a 3), .ref (a 4)])), (a 2, .inl (cI, 16, .inl kd)), (a 3, .inl (cI, 16, .inl et)), (a 4, .inl (cI, 64, .inl nb))])) := by
  refine MG.of (cc := cX4_grassTells) (maxL := 2) (ret := (some .int)) (by decide) rfl (Nat.le_of_ble_eq_true rfl) ?_
  intro P_ E_ S_ M_ B_ T_ K_ hx hb hml hr hts hown hlk hnm A hA hP hK hD hS ls hl
  have hl : lv_has ls 2 [(0, .ref (a 0)), (1, .int c)] := hl
  have hin0 : ∀ x ∈ u_ws RX0 TX0 7, x ∈ wsX4_grassTells := iwX4_grassTells_X0
  have hin4 : ∀ x ∈ u_ws RX4 TX4 6, x ∈ wsX4_grassTells := iwX4_grassTells_X4
  refine lv_aload_n hx hb dX4_grassTells_0 rfl (lv_at hl 0 rfl) ?_
  refine lv_iconst (v := 1) hx hb dX4_grassTells_1 (by decide) ?_
  refine k_mv (wr := [(a 1, .inr (0, [.int (nI h), .int (nI w), .int pc, .int br, .ref (a 2), .ref (a 3), .ref (a 4)])), (a 2, .inl (cI, 16, .inl kd)), (a 3, .inl (cI, 16, .inl et)), (a 4, .inl (cI, 64, .inl nb))]) [0] [1, 2, 3, 4] (run_MV (As := [.int 1]) (rest := []) ⟨hx, hb, hml, hown, hts⟩ (c_X4_begin l D cI cJ cO a ft tr 1) (cwV 1 hts gX4_grassTells_X4_begin rfl rfl rfl (by decide +kernel) ⟨Nat.le_of_ble_eq_true rfl, Nat.le_of_ble_eq_true rfl⟩) hP hK hD [0] (by decide) rfl rfl rfl rfl rfl hl.1 rfl (Nat.le_of_ble_eq_true rfl) dX4_grassTells_2 ⟨Nat.le_refl _, Nat.le_refl _⟩) hP hD hS hA rfl rfl (by decide) (by decide) (fun w_3 H locs q_2 hP hD hS => ?_)
  obtain rfl := q_2
  have hP : va_P D vwCl [(a 0, .inr (4, [.ref (a 1), .ref (a 5), .ref (a 9), .ref (a 12), .int ft, .int (beg tr 1)])), (a 1, .inr (0, [.int (nI h), .int (nI w), .int pc, .int br, .ref (a 2), .ref (a 3), .ref (a 4)])), (a 2, .inl (cI, 16, .inl kd)), (a 3, .inl (cI, 16, .inl et)), (a 4, .inl (cI, 64, .inl nb))] H := hP.sub [4, 0, 1, 2, 3] rfl
  have hD : va_D A [(a 0, .inr (4, [.ref (a 1), .ref (a 5), .ref (a 9), .ref (a 12), .int ft, .int (beg tr 1)])), (a 1, .inr (0, [.int (nI h), .int (nI w), .int pc, .int br, .ref (a 2), .ref (a 3), .ref (a 4)])), (a 2, .inl (cI, 16, .inl kd)), (a 3, .inl (cI, 16, .inl et)), (a 4, .inl (cI, 64, .inl nb))] := hD.sub [4, 0, 1, 2, 3] (by decide) rfl
  refine lv_aload_n hx hb dX4_grassTells_5 rfl (lv_at hl 0 rfl) ?_
  refine va_get (D := D) (ci := 4) (v := .ref (a 1)) (C := RX4) (T := TX4) (N := 6) hx hb hts hin4 hown hK.1 hP 0 rfl rfl 0 (by decide) (hts _ (List.mem_of_getElem? (i := 1) rfl)) (fun _ h9 => h9) rfl dX4_grassTells_6 ?_
  refine va_getN (D := D) (ci := 0) (v := .ref (a 3)) (C := RX0) (T := TX0) (N := 7) hx hb hts hin0 hown hK.1 hP 1 rfl rfl 5 (by decide) (va_Nw.use rfl (nw_X4_97 hK)) (fun _ h9 => h9) rfl dX4_grassTells_9 ?_
  refine lv_iload_n hx hb dX4_grassTells_12 rfl (lv_at hl 1 rfl) ?_
  refine k_iald hx hb hK hP 3 0 rfl rfl (j := j) hv_c hj_c dX4_grassTells_13 ?_
  refine mi_ret (v := (et j)) hx hb hr hlk hP hD hS dX4_grassTells_14 ?_
  exact ⟨rfl, rfl⟩
set_option maxRecDepth 100000 in
set_option maxHeartbeats 4000000 in
/-- X4_springTells -/
theorem c_X4_springTells (l : Launch) (D : va_G) (cI cJ cO : ClassId) (a : Nat → Nat) (ft : Int32) (tr : Int32) (h : Nat) (w : Nat) (pc : Int32) (br : Int32) (kd : Nat → Int32) (et : Nat → Int32) (nb : Nat → Int32) (c : Int32) (j : Nat) (hv_c : vp_in c 16) (hj_c : c.toNatClampNeg = j) : MG l yX4_springTells wsX4_springTells 2 42 0 0 D [(cI, .int), (cJ, .long), (cO, .object "ShornHill$Sheet")] [.ref (a 0), .int c] [(a 0, .inr (4, [.ref (a 1), .ref (a 5), .ref (a 9), .ref (a 12), .int ft, .int tr])), (a 1, .inr (0, [.int (nI h), .int (nI w), .int pc, .int br, .ref (a 2), .ref (a 3), .ref (a 4)])), (a 2, .inl (cI, 16, .inl kd)), (a 3, .inl (cI, 16, .inl et)), (a 4, .inl (cI, 64, .inl nb))] (QI D (fun (r : Int32) (w1 : va_W) => r = (et j + 100) ∧ w1 = [(a 0, .inr (4, [.ref (a 1), .ref (a 5), .ref (a 9), .ref (a 12), .int ft, .int (beg (beg tr 2) 1)])), (a 1, .inr (0, [.int (nI h), .int (nI w), .int pc, .int br, .ref (a 2), .ref (a 3), .ref (a 4)])), (a 2, .inl (cI, 16, .inl kd)), (a 3, .inl (cI, 16, .inl et)), (a 4, .inl (cI, 64, .inl nb))])) := by
  refine MG.of (cc := cX4_springTells) (maxL := 2) (ret := (some .int)) (by decide) rfl (Nat.le_of_ble_eq_true rfl) ?_
  intro P_ E_ S_ M_ B_ T_ K_ hx hb hml hr hts hown hlk hnm A hA hP hK hD hS ls hl
  have hl : lv_has ls 2 [(0, .ref (a 0)), (1, .int c)] := hl
  refine lv_aload_n hx hb dX4_springTells_0 rfl (lv_at hl 0 rfl) ?_
  refine lv_iconst (v := 2) hx hb dX4_springTells_1 (by decide) ?_
  refine k_mv (wr := [(a 1, .inr (0, [.int (nI h), .int (nI w), .int pc, .int br, .ref (a 2), .ref (a 3), .ref (a 4)])), (a 2, .inl (cI, 16, .inl kd)), (a 3, .inl (cI, 16, .inl et)), (a 4, .inl (cI, 64, .inl nb))]) [0] [1, 2, 3, 4] (run_MV (As := [.int 2]) (rest := []) ⟨hx, hb, hml, hown, hts⟩ (c_X4_begin l D cI cJ cO a ft tr 2) (cwV 1 hts gX4_springTells_X4_begin rfl rfl rfl (by decide +kernel) ⟨Nat.le_of_ble_eq_true rfl, Nat.le_of_ble_eq_true rfl⟩) hP hK hD [0] (by decide) rfl rfl rfl rfl rfl hl.1 rfl (Nat.le_of_ble_eq_true rfl) dX4_springTells_2 ⟨Nat.le_refl _, Nat.le_refl _⟩) hP hD hS hA rfl rfl (by decide) (by decide) (fun w_3 H locs q_2 hP hD hS => ?_)
  obtain rfl := q_2
  have hP : va_P D vwCl [(a 0, .inr (4, [.ref (a 1), .ref (a 5), .ref (a 9), .ref (a 12), .int ft, .int (beg tr 2)])), (a 1, .inr (0, [.int (nI h), .int (nI w), .int pc, .int br, .ref (a 2), .ref (a 3), .ref (a 4)])), (a 2, .inl (cI, 16, .inl kd)), (a 3, .inl (cI, 16, .inl et)), (a 4, .inl (cI, 64, .inl nb))] H := hP.sub [4, 0, 1, 2, 3] rfl
  have hD : va_D A [(a 0, .inr (4, [.ref (a 1), .ref (a 5), .ref (a 9), .ref (a 12), .int ft, .int (beg tr 2)])), (a 1, .inr (0, [.int (nI h), .int (nI w), .int pc, .int br, .ref (a 2), .ref (a 3), .ref (a 4)])), (a 2, .inl (cI, 16, .inl kd)), (a 3, .inl (cI, 16, .inl et)), (a 4, .inl (cI, 64, .inl nb))] := hD.sub [4, 0, 1, 2, 3] (by decide) rfl
  refine lv_aload_n hx hb dX4_springTells_5 rfl (lv_at hl 0 rfl) ?_
  refine lv_iload_n hx hb dX4_springTells_6 rfl (lv_at hl 1 rfl) ?_
  refine k_mi (wr := []) [0, 1, 2, 3, 4] [] (run_MV (As := [.int c]) (rest := []) ⟨hx, hb, hml, hown, hts⟩ (c_X4_grassTells l D cI cJ cO a ft (beg tr 2) h w pc br kd et nb c j hv_c hj_c) (cwV 1 hts gX4_springTells_X4_grassTells rfl rfl rfl (by decide +kernel) ⟨Nat.le_of_ble_eq_true rfl, Nat.le_of_ble_eq_true rfl⟩) hP hK hD [0, 1, 2, 3, 4] (by decide) rfl rfl rfl rfl rfl hl.1 rfl (Nat.le_of_ble_eq_true rfl) dX4_springTells_7 ⟨Nat.le_refl _, Nat.le_refl _⟩) hP hD hS hA rfl rfl (by decide) (by decide) (fun r_4 w_6 H locs q_5 hP hD hS => ?_)
  obtain ⟨rfl, rfl⟩ := q_5
  have hP : va_P D vwCl [(a 0, .inr (4, [.ref (a 1), .ref (a 5), .ref (a 9), .ref (a 12), .int ft, .int (beg (beg tr 2) 1)])), (a 1, .inr (0, [.int (nI h), .int (nI w), .int pc, .int br, .ref (a 2), .ref (a 3), .ref (a 4)])), (a 2, .inl (cI, 16, .inl kd)), (a 3, .inl (cI, 16, .inl et)), (a 4, .inl (cI, 64, .inl nb))] H := hP.sub [0, 1, 2, 3, 4] rfl
  have hD : va_D A [(a 0, .inr (4, [.ref (a 1), .ref (a 5), .ref (a 9), .ref (a 12), .int ft, .int (beg (beg tr 2) 1)])), (a 1, .inr (0, [.int (nI h), .int (nI w), .int pc, .int br, .ref (a 2), .ref (a 3), .ref (a 4)])), (a 2, .inl (cI, 16, .inl kd)), (a 3, .inl (cI, 16, .inl et)), (a 4, .inl (cI, 64, .inl nb))] := hD.sub [0, 1, 2, 3, 4] (by decide) rfl
  refine lv_bipush (v := 100) hx hb dX4_springTells_10 (by decide) ?_
  refine lv_iadd hx hb dX4_springTells_12 ?_
  refine mi_ret (v := ((et j) + 100)) hx hb hr hlk hP hD hS dX4_springTells_13 ?_
  exact ⟨rfl, rfl⟩
set_option maxRecDepth 100000 in
set_option maxHeartbeats 4000000 in
/-- X4_hollowTells -/
theorem c_X4_hollowTells (l : Launch) (D : va_G) (cI cJ cO : ClassId) (a : Nat → Nat) (ft : Int32) (tr : Int32) (h : Nat) (w : Nat) (pc : Int32) (br : Int32) (kd : Nat → Int32) (et : Nat → Int32) (nb : Nat → Int32) (c : Int32) (j : Nat) (hv_c : vp_in c 16) (hj_c : c.toNatClampNeg = j) : MG l yX4_hollowTells wsX4_hollowTells 3 63 0 0 D [(cI, .int), (cJ, .long), (cO, .object "ShornHill$Sheet")] [.ref (a 0), .int c] [(a 0, .inr (4, [.ref (a 1), .ref (a 5), .ref (a 9), .ref (a 12), .int ft, .int tr])), (a 1, .inr (0, [.int (nI h), .int (nI w), .int pc, .int br, .ref (a 2), .ref (a 3), .ref (a 4)])), (a 2, .inl (cI, 16, .inl kd)), (a 3, .inl (cI, 16, .inl et)), (a 4, .inl (cI, 64, .inl nb))] (QI D (fun (r : Int32) (w1 : va_W) => r = ((et j + 100) + et j) ∧ w1 = [(a 0, .inr (4, [.ref (a 1), .ref (a 5), .ref (a 9), .ref (a 12), .int ft, .int (beg (beg (beg (beg tr 3) 2) 1) 1)])), (a 1, .inr (0, [.int (nI h), .int (nI w), .int pc, .int br, .ref (a 2), .ref (a 3), .ref (a 4)])), (a 2, .inl (cI, 16, .inl kd)), (a 3, .inl (cI, 16, .inl et)), (a 4, .inl (cI, 64, .inl nb))])) := by
  refine MG.of (cc := cX4_hollowTells) (maxL := 3) (ret := (some .int)) (by decide) rfl (Nat.le_of_ble_eq_true rfl) ?_
  intro P_ E_ S_ M_ B_ T_ K_ hx hb hml hr hts hown hlk hnm A hA hP hK hD hS ls hl
  have hl : lv_has ls 3 [(0, .ref (a 0)), (1, .int c)] := hl
  refine lv_aload_n hx hb dX4_hollowTells_0 rfl (lv_at hl 0 rfl) ?_
  refine lv_iconst (v := 3) hx hb dX4_hollowTells_1 (by decide) ?_
  refine k_mv (wr := [(a 1, .inr (0, [.int (nI h), .int (nI w), .int pc, .int br, .ref (a 2), .ref (a 3), .ref (a 4)])), (a 2, .inl (cI, 16, .inl kd)), (a 3, .inl (cI, 16, .inl et)), (a 4, .inl (cI, 64, .inl nb))]) [0] [1, 2, 3, 4] (run_MV (As := [.int 3]) (rest := []) ⟨hx, hb, hml, hown, hts⟩ (c_X4_begin l D cI cJ cO a ft tr 3) (cwV 1 hts gX4_hollowTells_X4_begin rfl rfl rfl (by decide +kernel) ⟨Nat.le_of_ble_eq_true rfl, Nat.le_of_ble_eq_true rfl⟩) hP hK hD [0] (by decide) rfl rfl rfl rfl rfl hl.1 rfl (Nat.le_of_ble_eq_true rfl) dX4_hollowTells_2 ⟨Nat.le_refl _, Nat.le_refl _⟩) hP hD hS hA rfl rfl (by decide) (by decide) (fun w_3 H locs q_2 hP hD hS => ?_)
  obtain rfl := q_2
  have hP : va_P D vwCl [(a 0, .inr (4, [.ref (a 1), .ref (a 5), .ref (a 9), .ref (a 12), .int ft, .int (beg tr 3)])), (a 1, .inr (0, [.int (nI h), .int (nI w), .int pc, .int br, .ref (a 2), .ref (a 3), .ref (a 4)])), (a 2, .inl (cI, 16, .inl kd)), (a 3, .inl (cI, 16, .inl et)), (a 4, .inl (cI, 64, .inl nb))] H := hP.sub [4, 0, 1, 2, 3] rfl
  have hD : va_D A [(a 0, .inr (4, [.ref (a 1), .ref (a 5), .ref (a 9), .ref (a 12), .int ft, .int (beg tr 3)])), (a 1, .inr (0, [.int (nI h), .int (nI w), .int pc, .int br, .ref (a 2), .ref (a 3), .ref (a 4)])), (a 2, .inl (cI, 16, .inl kd)), (a 3, .inl (cI, 16, .inl et)), (a 4, .inl (cI, 64, .inl nb))] := hD.sub [4, 0, 1, 2, 3] (by decide) rfl
  refine lv_aload_n hx hb dX4_hollowTells_5 rfl (lv_at hl 0 rfl) ?_
  refine lv_iload_n hx hb dX4_hollowTells_6 rfl (lv_at hl 1 rfl) ?_
  refine k_mi (wr := []) [0, 1, 2, 3, 4] [] (run_MV (As := [.int c]) (rest := []) ⟨hx, hb, hml, hown, hts⟩ (c_X4_springTells l D cI cJ cO a ft (beg tr 3) h w pc br kd et nb c j hv_c hj_c) (cwV 1 hts gX4_hollowTells_X4_springTells rfl rfl rfl (by decide +kernel) ⟨Nat.le_of_ble_eq_true rfl, Nat.le_of_ble_eq_true rfl⟩) hP hK hD [0, 1, 2, 3, 4] (by decide) rfl rfl rfl rfl rfl hl.1 rfl (Nat.le_of_ble_eq_true rfl) dX4_hollowTells_7 ⟨Nat.le_refl _, Nat.le_refl _⟩) hP hD hS hA rfl rfl (by decide) (by decide) (fun r_4 w_6 H locs q_5 hP hD hS => ?_)
  obtain ⟨rfl, rfl⟩ := q_5
  have hP : va_P D vwCl [(a 0, .inr (4, [.ref (a 1), .ref (a 5), .ref (a 9), .ref (a 12), .int ft, .int (beg (beg (beg tr 3) 2) 1)])), (a 1, .inr (0, [.int (nI h), .int (nI w), .int pc, .int br, .ref (a 2), .ref (a 3), .ref (a 4)])), (a 2, .inl (cI, 16, .inl kd)), (a 3, .inl (cI, 16, .inl et)), (a 4, .inl (cI, 64, .inl nb))] H := hP.sub [0, 1, 2, 3, 4] rfl
  have hD : va_D A [(a 0, .inr (4, [.ref (a 1), .ref (a 5), .ref (a 9), .ref (a 12), .int ft, .int (beg (beg (beg tr 3) 2) 1)])), (a 1, .inr (0, [.int (nI h), .int (nI w), .int pc, .int br, .ref (a 2), .ref (a 3), .ref (a 4)])), (a 2, .inl (cI, 16, .inl kd)), (a 3, .inl (cI, 16, .inl et)), (a 4, .inl (cI, 64, .inl nb))] := hD.sub [0, 1, 2, 3, 4] (by decide) rfl
  refine lv_istore_n (lv' := [(2, .int (et j + 100)), (0, .ref (a 0)), (1, .int c)]) hx hb dX4_hollowTells_10 rfl hl (by decide) rfl (fun ls hl => ?_)
  refine lv_iload_n hx hb dX4_hollowTells_11 rfl (lv_at hl 0 rfl) ?_
  refine lv_aload_n hx hb dX4_hollowTells_12 rfl (lv_at hl 1 rfl) ?_
  refine lv_iload_n hx hb dX4_hollowTells_13 rfl (lv_at hl 2 rfl) ?_
  refine k_mi (wr := []) [0, 1, 2, 3, 4] [] (run_MV (As := [.int c]) (rest := [.int (et j + 100)]) ⟨hx, hb, hml, hown, hts⟩ (c_X4_grassTells l D cI cJ cO a ft (beg (beg (beg tr 3) 2) 1) h w pc br kd et nb c j hv_c hj_c) (cwV 1 hts gX4_hollowTells_X4_grassTells rfl rfl rfl (by decide +kernel) ⟨Nat.le_of_ble_eq_true rfl, Nat.le_of_ble_eq_true rfl⟩) hP hK hD [0, 1, 2, 3, 4] (by decide) rfl rfl rfl rfl rfl hl.1 rfl (Nat.le_of_ble_eq_true rfl) dX4_hollowTells_14 ⟨Nat.le_refl _, Nat.le_refl _⟩) hP hD hS hA rfl rfl (by decide) (by decide) (fun r_7 w_9 H locs q_8 hP hD hS => ?_)
  obtain ⟨rfl, rfl⟩ := q_8
  have hP : va_P D vwCl [(a 0, .inr (4, [.ref (a 1), .ref (a 5), .ref (a 9), .ref (a 12), .int ft, .int (beg (beg (beg (beg tr 3) 2) 1) 1)])), (a 1, .inr (0, [.int (nI h), .int (nI w), .int pc, .int br, .ref (a 2), .ref (a 3), .ref (a 4)])), (a 2, .inl (cI, 16, .inl kd)), (a 3, .inl (cI, 16, .inl et)), (a 4, .inl (cI, 64, .inl nb))] H := hP.sub [0, 1, 2, 3, 4] rfl
  have hD : va_D A [(a 0, .inr (4, [.ref (a 1), .ref (a 5), .ref (a 9), .ref (a 12), .int ft, .int (beg (beg (beg (beg tr 3) 2) 1) 1)])), (a 1, .inr (0, [.int (nI h), .int (nI w), .int pc, .int br, .ref (a 2), .ref (a 3), .ref (a 4)])), (a 2, .inl (cI, 16, .inl kd)), (a 3, .inl (cI, 16, .inl et)), (a 4, .inl (cI, 64, .inl nb))] := hD.sub [0, 1, 2, 3, 4] (by decide) rfl
  refine lv_iadd hx hb dX4_hollowTells_17 ?_
  refine mi_ret (v := ((et j + 100) + (et j))) hx hb hr hlk hP hD hS dX4_hollowTells_18 ?_
  exact ⟨rfl, rfl⟩
theorem iwX4_tell_X0 : ∀ x ∈ wsX00, x ∈ wsX4_tell := by decide +kernel
theorem iwX4_tell_X4 : ∀ x ∈ wsX40, x ∈ wsX4_tell := by decide +kernel
set_option maxRecDepth 100000 in
set_option maxHeartbeats 4000000 in
/-- X4_tell -/
theorem c_X4_tell (l : Launch) (D : va_G) (cI cJ cO : ClassId) (a : Nat → Nat) (ft : Int32) (tr : Int32) (h : Nat) (w : Nat) (pc : Int32) (br : Int32) (kd : Nat → Int32) (et : Nat → Int32) (nb : Nat → Int32) (c : Int32) (hn : h * w ≤ 16) : MG l yX4_tell wsX4_tell 4 85 0 0 D [(cI, .int), (cJ, .long), (cO, .object "ShornHill$Sheet")] [.ref (a 0), .int c] [(a 0, .inr (4, [.ref (a 1), .ref (a 5), .ref (a 9), .ref (a 12), .int ft, .int tr])), (a 1, .inr (0, [.int (nI h), .int (nI w), .int pc, .int br, .ref (a 2), .ref (a 3), .ref (a 4)])), (a 2, .inl (cI, 16, .inl kd)), (a 3, .inl (cI, 16, .inl et)), (a 4, .inl (cI, 64, .inl nb))] (QI D (fun (r : Int32) (w1 : va_W) => r = (teR (h * w) kd et c) ∧ w1 = [(a 0, .inr (4, [.ref (a 1), .ref (a 5), .ref (a 9), .ref (a 12), .int ft, .int (teT (h * w) kd tr c)])), (a 1, .inr (0, [.int (nI h), .int (nI w), .int pc, .int br, .ref (a 2), .ref (a 3), .ref (a 4)])), (a 2, .inl (cI, 16, .inl kd)), (a 3, .inl (cI, 16, .inl et)), (a 4, .inl (cI, 64, .inl nb))])) := by
  refine MG.of (cc := cX4_tell) (maxL := 2) (ret := (some .int)) (by decide) rfl (Nat.le_of_ble_eq_true rfl) ?_
  intro P_ E_ S_ M_ B_ T_ K_ hx hb hml hr hts hown hlk hnm A hA hP hK hD hS ls hl
  have hl : lv_has ls 2 [(0, .ref (a 0)), (1, .int c)] := hl
  have hin0 : ∀ x ∈ u_ws RX0 TX0 7, x ∈ wsX4_tell := iwX4_tell_X0
  have hin4 : ∀ x ∈ u_ws RX4 TX4 6, x ∈ wsX4_tell := iwX4_tell_X4
  refine lv_aload_n hx hb dX4_tell_0 rfl (lv_at hl 0 rfl) ?_
  refine va_get (D := D) (ci := 4) (v := .ref (a 1)) (C := RX4) (T := TX4) (N := 6) hx hb hts hin4 hown hK.1 hP 0 rfl rfl 0 (by decide) (hts _ (List.mem_of_getElem? (i := 1) rfl)) (fun _ h9 => h9) rfl dX4_tell_1 ?_
  refine lv_iload_n hx hb dX4_tell_4 rfl (lv_at hl 1 rfl) ?_
  refine k_ri (run_RN (As := [.int c]) (rest := []) ⟨hx, hb, hml, hown, hts⟩ (c_X0_isSoft l D cI cJ cO a h w pc br kd et nb c hn) ⟨va_cnB 1 hts ggX4_tell_X0_isSoft rfl rfl rfl (nw_X4_100 hK) (hts _ (List.mem_of_getElem? (i := 3) rfl)) (by decide +kernel) ⟨Nat.le_of_ble_eq_true rfl, Nat.le_of_ble_eq_true rfl⟩, (hts _ (List.mem_of_getElem? (i := 2) rfl)), (hts _ (List.mem_of_getElem? (i := 4) rfl))⟩ hP hK [1, 2, 3, 4] rfl rfl rfl rfl rfl hl.1 rfl (Nat.le_of_ble_eq_true rfl) dX4_tell_5 ⟨Nat.le_refl _, Nat.le_refl _⟩) (fun r_1 q_2 => ?_)
  obtain rfl := q_2
  refine lv_if_ne (tgt := 13) hx hb dX4_tell_8 (by decide) (fun c_3 => ?_) (fun c_3 => ?_)
  · have c_3 := b2_t c_3
    refine lv_aload_n hx hb dX4_tell_13 rfl (lv_at hl 0 rfl) ?_
    refine va_get (D := D) (ci := 4) (v := .ref (a 1)) (C := RX4) (T := TX4) (N := 6) hx hb hts hin4 hown hK.1 hP 0 rfl rfl 0 (by decide) (hts _ (List.mem_of_getElem? (i := 1) rfl)) (fun _ h9 => h9) rfl dX4_tell_14 ?_
    refine va_getN (D := D) (ci := 0) (v := .ref (a 2)) (C := RX0) (T := TX0) (N := 7) hx hb hts hin0 hown hK.1 hP 1 rfl rfl 4 (by decide) (va_Nw.use rfl (nw_X4_91 hK)) (fun _ h9 => h9) rfl dX4_tell_17 ?_
    refine lv_iload_n hx hb dX4_tell_20 rfl (lv_at hl 1 rfl) ?_
    refine k_iald hx hb hK hP 2 0 rfl rfl (j := c.toNatClampNeg) (inN.vp c_3.1 (by omega)) rfl dX4_tell_21 ?_
    by_cases c_4 : (kd c.toNatClampNeg) = 1
    · refine lv_lookup (off := 32) (tgt := 54) hx hb dX4_tell_22 (by decide) (by rw [c_4]; rfl) (by decide) ?_
      refine lv_aload_n hx hb dX4_tell_54 rfl (lv_at hl 0 rfl) ?_
      refine lv_iload_n hx hb dX4_tell_55 rfl (lv_at hl 1 rfl) ?_
      refine k_mi (wr := []) [0, 1, 2, 3, 4] [] (run_MV (As := [.int c]) (rest := []) ⟨hx, hb, hml, hown, hts⟩ (c_X4_springTells l D cI cJ cO a ft tr h w pc br kd et nb c c.toNatClampNeg (inN.vp c_3.1 (by omega)) rfl) (cwV 1 hts gX4_tell_X4_springTells rfl rfl rfl (by decide +kernel) ⟨Nat.le_of_ble_eq_true rfl, Nat.le_of_ble_eq_true rfl⟩) hP hK hD [0, 1, 2, 3, 4] (by decide) rfl rfl rfl rfl rfl hl.1 rfl (Nat.le_of_ble_eq_true rfl) dX4_tell_56 ⟨Nat.le_refl _, Nat.le_refl _⟩) hP hD hS hA rfl rfl (by decide) (by decide) (fun r_5 w_7 H locs q_6 hP hD hS => ?_)
      obtain ⟨rfl, rfl⟩ := q_6
      have hP : va_P D vwCl [(a 0, .inr (4, [.ref (a 1), .ref (a 5), .ref (a 9), .ref (a 12), .int ft, .int (beg (beg tr 2) 1)])), (a 1, .inr (0, [.int (nI h), .int (nI w), .int pc, .int br, .ref (a 2), .ref (a 3), .ref (a 4)])), (a 2, .inl (cI, 16, .inl kd)), (a 3, .inl (cI, 16, .inl et)), (a 4, .inl (cI, 64, .inl nb))] H := hP.sub [0, 1, 2, 3, 4] rfl
      have hD : va_D A [(a 0, .inr (4, [.ref (a 1), .ref (a 5), .ref (a 9), .ref (a 12), .int ft, .int (beg (beg tr 2) 1)])), (a 1, .inr (0, [.int (nI h), .int (nI w), .int pc, .int br, .ref (a 2), .ref (a 3), .ref (a 4)])), (a 2, .inl (cI, 16, .inl kd)), (a 3, .inl (cI, 16, .inl et)), (a 4, .inl (cI, 64, .inl nb))] := hD.sub [0, 1, 2, 3, 4] (by decide) rfl
      refine mi_ret (v := (et c.toNatClampNeg + 100)) hx hb hr hlk hP hD hS dX4_tell_59 ?_
      rw [show teT (h * w) kd tr c = _ from by rw [teT, if_pos c_3, if_pos c_4]]
      refine ⟨?_, rfl⟩
      rw [teR, if_pos c_3, if_pos c_4] <;> rfl
    · by_cases c_8 : (kd c.toNatClampNeg) = 2
      · refine lv_lookup (off := 26) (tgt := 48) hx hb dX4_tell_22 (by decide) (by rw [c_8]; rfl) (by decide) ?_
        refine lv_aload_n hx hb dX4_tell_48 rfl (lv_at hl 0 rfl) ?_
        refine lv_iload_n hx hb dX4_tell_49 rfl (lv_at hl 1 rfl) ?_
        refine k_mi (wr := []) [0, 1, 2, 3, 4] [] (run_MV (As := [.int c]) (rest := []) ⟨hx, hb, hml, hown, hts⟩ (c_X4_hollowTells l D cI cJ cO a ft tr h w pc br kd et nb c c.toNatClampNeg (inN.vp c_3.1 (by omega)) rfl) (cwV 1 hts gX4_tell_X4_hollowTells rfl rfl rfl (by decide +kernel) ⟨Nat.le_of_ble_eq_true rfl, Nat.le_of_ble_eq_true rfl⟩) hP hK hD [0, 1, 2, 3, 4] (by decide) rfl rfl rfl rfl rfl hl.1 rfl (Nat.le_of_ble_eq_true rfl) dX4_tell_50 ⟨Nat.le_refl _, Nat.le_refl _⟩) hP hD hS hA rfl rfl (by decide) (by decide) (fun r_9 w_11 H locs q_10 hP hD hS => ?_)
        obtain ⟨rfl, rfl⟩ := q_10
        have hP : va_P D vwCl [(a 0, .inr (4, [.ref (a 1), .ref (a 5), .ref (a 9), .ref (a 12), .int ft, .int (beg (beg (beg (beg tr 3) 2) 1) 1)])), (a 1, .inr (0, [.int (nI h), .int (nI w), .int pc, .int br, .ref (a 2), .ref (a 3), .ref (a 4)])), (a 2, .inl (cI, 16, .inl kd)), (a 3, .inl (cI, 16, .inl et)), (a 4, .inl (cI, 64, .inl nb))] H := hP.sub [0, 1, 2, 3, 4] rfl
        have hD : va_D A [(a 0, .inr (4, [.ref (a 1), .ref (a 5), .ref (a 9), .ref (a 12), .int ft, .int (beg (beg (beg (beg tr 3) 2) 1) 1)])), (a 1, .inr (0, [.int (nI h), .int (nI w), .int pc, .int br, .ref (a 2), .ref (a 3), .ref (a 4)])), (a 2, .inl (cI, 16, .inl kd)), (a 3, .inl (cI, 16, .inl et)), (a 4, .inl (cI, 64, .inl nb))] := hD.sub [0, 1, 2, 3, 4] (by decide) rfl
        refine mi_ret (v := ((et c.toNatClampNeg + 100) + et c.toNatClampNeg)) hx hb hr hlk hP hD hS dX4_tell_53 ?_
        rw [show teT (h * w) kd tr c = _ from by rw [teT, if_pos c_3, if_neg c_4, if_pos c_8]]
        refine ⟨?_, rfl⟩
        rw [teR, if_pos c_3, if_neg c_4, if_pos c_8] <;> rfl
      · refine lv_lookup (off := 38) (tgt := 60) hx hb dX4_tell_22 (by decide) (by rw [lv_osw c_4 (show (1 : Int32).toInt = 1 from rfl)]; rw [lv_osw c_8 (show (2 : Int32).toInt = 2 from rfl)]; rfl) (by decide) ?_
        refine lv_aload_n hx hb dX4_tell_60 rfl (lv_at hl 0 rfl) ?_
        refine lv_iload_n hx hb dX4_tell_61 rfl (lv_at hl 1 rfl) ?_
        refine k_mi (wr := []) [0, 1, 2, 3, 4] [] (run_MV (As := [.int c]) (rest := []) ⟨hx, hb, hml, hown, hts⟩ (c_X4_grassTells l D cI cJ cO a ft tr h w pc br kd et nb c c.toNatClampNeg (inN.vp c_3.1 (by omega)) rfl) (cwV 1 hts gX4_tell_X4_grassTells rfl rfl rfl (by decide +kernel) ⟨Nat.le_of_ble_eq_true rfl, Nat.le_of_ble_eq_true rfl⟩) hP hK hD [0, 1, 2, 3, 4] (by decide) rfl rfl rfl rfl rfl hl.1 rfl (Nat.le_of_ble_eq_true rfl) dX4_tell_62 ⟨Nat.le_refl _, Nat.le_refl _⟩) hP hD hS hA rfl rfl (by decide) (by decide) (fun r_12 w_14 H locs q_13 hP hD hS => ?_)
        obtain ⟨rfl, rfl⟩ := q_13
        have hP : va_P D vwCl [(a 0, .inr (4, [.ref (a 1), .ref (a 5), .ref (a 9), .ref (a 12), .int ft, .int (beg tr 1)])), (a 1, .inr (0, [.int (nI h), .int (nI w), .int pc, .int br, .ref (a 2), .ref (a 3), .ref (a 4)])), (a 2, .inl (cI, 16, .inl kd)), (a 3, .inl (cI, 16, .inl et)), (a 4, .inl (cI, 64, .inl nb))] H := hP.sub [0, 1, 2, 3, 4] rfl
        have hD : va_D A [(a 0, .inr (4, [.ref (a 1), .ref (a 5), .ref (a 9), .ref (a 12), .int ft, .int (beg tr 1)])), (a 1, .inr (0, [.int (nI h), .int (nI w), .int pc, .int br, .ref (a 2), .ref (a 3), .ref (a 4)])), (a 2, .inl (cI, 16, .inl kd)), (a 3, .inl (cI, 16, .inl et)), (a 4, .inl (cI, 64, .inl nb))] := hD.sub [0, 1, 2, 3, 4] (by decide) rfl
        refine mi_ret (v := (et c.toNatClampNeg)) hx hb hr hlk hP hD hS dX4_tell_65 ?_
        rw [show teT (h * w) kd tr c = _ from by rw [teT, if_pos c_3, if_neg c_4, if_neg c_8]]
        refine ⟨?_, rfl⟩
        rw [teR, if_pos c_3, if_neg c_4, if_neg c_8] <;> rfl
  · have c_3 := b2_f c_3
    refine lv_iconst (v := (-1)) hx hb dX4_tell_11 (by decide) ?_
    refine mi_ret (v := (-1)) hx hb hr hlk hP hD hS dX4_tell_12 ?_
    rw [show teT (h * w) kd tr c = _ from by rw [teT, if_neg c_3]]
    refine ⟨?_, rfl⟩
    rw [teR, if_neg c_3] <;> rfl
theorem iwX4_trod_X0 : ∀ x ∈ wsX00, x ∈ wsX4_trod := by decide +kernel
theorem iwX4_trod_X4 : ∀ x ∈ wsX40, x ∈ wsX4_trod := by decide +kernel
set_option maxRecDepth 100000 in
set_option maxHeartbeats 4000000 in
/-- X4_trod -/
theorem c_X4_trod (l : Launch) (D : va_G) (cI cJ cO : ClassId) (a : Nat → Nat) (ft : Int32) (tr : Int32) (h : Nat) (w : Nat) (pc : Int32) (br : Int32) (kd : Nat → Int32) (et : Nat → Int32) (nb : Nat → Int32) (c : Int32) (hn : h * w ≤ 16) : MG l yX4_trod wsX4_trod 3 62 0 0 D [(cI, .int), (cJ, .long), (cO, .object "ShornHill$Sheet")] [.ref (a 0), .int c] [(a 0, .inr (4, [.ref (a 1), .ref (a 5), .ref (a 9), .ref (a 12), .int ft, .int tr])), (a 1, .inr (0, [.int (nI h), .int (nI w), .int pc, .int br, .ref (a 2), .ref (a 3), .ref (a 4)])), (a 2, .inl (cI, 16, .inl kd)), (a 3, .inl (cI, 16, .inl et)), (a 4, .inl (cI, 64, .inl nb))] (QI D (fun (r : Int32) (w1 : va_W) => r = (trR (h * w) kd c) ∧ w1 = [(a 0, .inr (4, [.ref (a 1), .ref (a 5), .ref (a 9), .ref (a 12), .int ft, .int (trT (h * w) kd tr c)])), (a 1, .inr (0, [.int (nI h), .int (nI w), .int pc, .int br, .ref (a 2), .ref (a 3), .ref (a 4)])), (a 2, .inl (cI, 16, .inl kd)), (a 3, .inl (cI, 16, .inl et)), (a 4, .inl (cI, 64, .inl nb))])) := by
  refine MG.of (cc := cX4_trod) (maxL := 2) (ret := (some .int)) (by decide) rfl (Nat.le_of_ble_eq_true rfl) ?_
  intro P_ E_ S_ M_ B_ T_ K_ hx hb hml hr hts hown hlk hnm A hA hP hK hD hS ls hl
  have hl : lv_has ls 2 [(0, .ref (a 0)), (1, .int c)] := hl
  have hin0 : ∀ x ∈ u_ws RX0 TX0 7, x ∈ wsX4_trod := iwX4_trod_X0
  have hin4 : ∀ x ∈ u_ws RX4 TX4 6, x ∈ wsX4_trod := iwX4_trod_X4
  refine lv_aload_n hx hb dX4_trod_0 rfl (lv_at hl 0 rfl) ?_
  refine va_get (D := D) (ci := 4) (v := .ref (a 1)) (C := RX4) (T := TX4) (N := 6) hx hb hts hin4 hown hK.1 hP 0 rfl rfl 0 (by decide) (hts _ (List.mem_of_getElem? (i := 1) rfl)) (fun _ h9 => h9) rfl dX4_trod_1 ?_
  refine lv_iload_n hx hb dX4_trod_4 rfl (lv_at hl 1 rfl) ?_
  refine k_ri (run_RN (As := [.int c]) (rest := []) ⟨hx, hb, hml, hown, hts⟩ (c_X0_isSoft l D cI cJ cO a h w pc br kd et nb c hn) ⟨va_cnB 1 hts ggX4_trod_X0_isSoft rfl rfl rfl (nw_X4_100 hK) (hts _ (List.mem_of_getElem? (i := 3) rfl)) (by decide +kernel) ⟨Nat.le_of_ble_eq_true rfl, Nat.le_of_ble_eq_true rfl⟩, (hts _ (List.mem_of_getElem? (i := 2) rfl)), (hts _ (List.mem_of_getElem? (i := 4) rfl))⟩ hP hK [1, 2, 3, 4] rfl rfl rfl rfl rfl hl.1 rfl (Nat.le_of_ble_eq_true rfl) dX4_trod_5 ⟨Nat.le_refl _, Nat.le_refl _⟩) (fun r_1 q_2 => ?_)
  obtain rfl := q_2
  refine lv_if_ne (tgt := 13) hx hb dX4_trod_8 (by decide) (fun c_3 => ?_) (fun c_3 => ?_)
  · have c_3 := b2_t c_3
    refine lv_aload_n hx hb dX4_trod_13 rfl (lv_at hl 0 rfl) ?_
    refine va_get (D := D) (ci := 4) (v := .ref (a 1)) (C := RX4) (T := TX4) (N := 6) hx hb hts hin4 hown hK.1 hP 0 rfl rfl 0 (by decide) (hts _ (List.mem_of_getElem? (i := 1) rfl)) (fun _ h9 => h9) rfl dX4_trod_14 ?_
    refine va_getN (D := D) (ci := 0) (v := .ref (a 2)) (C := RX0) (T := TX0) (N := 7) hx hb hts hin0 hown hK.1 hP 1 rfl rfl 4 (by decide) (va_Nw.use rfl (nw_X4_91 hK)) (fun _ h9 => h9) rfl dX4_trod_17 ?_
    refine lv_iload_n hx hb dX4_trod_20 rfl (lv_at hl 1 rfl) ?_
    refine k_iald hx hb hK hP 2 0 rfl rfl (j := c.toNatClampNeg) (inN.vp c_3.1 (by omega)) rfl dX4_trod_21 ?_
    refine lv_iconst (v := 2) hx hb dX4_trod_22 (by decide) ?_
    refine lv_icmp_ne (tgt := 34) hx hb dX4_trod_23 (by decide) (fun c_4 => ?_) (fun c_4 => ?_)
    · refine lv_aload_n hx hb dX4_trod_34 rfl (lv_at hl 0 rfl) ?_
      refine lv_iconst (v := 4) hx hb dX4_trod_35 (by decide) ?_
      refine k_mv (wr := [(a 1, .inr (0, [.int (nI h), .int (nI w), .int pc, .int br, .ref (a 2), .ref (a 3), .ref (a 4)])), (a 2, .inl (cI, 16, .inl kd)), (a 3, .inl (cI, 16, .inl et)), (a 4, .inl (cI, 64, .inl nb))]) [0] [1, 2, 3, 4] (run_MV (As := [.int 4]) (rest := []) ⟨hx, hb, hml, hown, hts⟩ (c_X4_begin l D cI cJ cO a ft tr 4) (cwV 1 hts gX4_trod_X4_begin rfl rfl rfl (by decide +kernel) ⟨Nat.le_of_ble_eq_true rfl, Nat.le_of_ble_eq_true rfl⟩) hP hK hD [0] (by decide) rfl rfl rfl rfl rfl hl.1 rfl (Nat.le_of_ble_eq_true rfl) dX4_trod_36 ⟨Nat.le_refl _, Nat.le_refl _⟩) hP hD hS hA rfl rfl (by decide) (by decide) (fun w_7 H locs q_6 hP hD hS => ?_)
      obtain rfl := q_6
      have hP : va_P D vwCl [(a 0, .inr (4, [.ref (a 1), .ref (a 5), .ref (a 9), .ref (a 12), .int ft, .int (beg tr 4)])), (a 1, .inr (0, [.int (nI h), .int (nI w), .int pc, .int br, .ref (a 2), .ref (a 3), .ref (a 4)])), (a 2, .inl (cI, 16, .inl kd)), (a 3, .inl (cI, 16, .inl et)), (a 4, .inl (cI, 64, .inl nb))] H := hP.sub [4, 0, 1, 2, 3] rfl
      have hD : va_D A [(a 0, .inr (4, [.ref (a 1), .ref (a 5), .ref (a 9), .ref (a 12), .int ft, .int (beg tr 4)])), (a 1, .inr (0, [.int (nI h), .int (nI w), .int pc, .int br, .ref (a 2), .ref (a 3), .ref (a 4)])), (a 2, .inl (cI, 16, .inl kd)), (a 3, .inl (cI, 16, .inl et)), (a 4, .inl (cI, 64, .inl nb))] := hD.sub [4, 0, 1, 2, 3] (by decide) rfl
      refine lv_iload_n hx hb dX4_trod_39 rfl (lv_at hl 1 rfl) ?_
      refine mi_ret (v := c) hx hb hr hlk hP hD hS dX4_trod_40 ?_
      rw [show trT (h * w) kd tr c = _ from by rw [trT, if_pos c_3, if_neg c_4]]
      refine ⟨?_, rfl⟩
      rw [trR, if_pos c_3, if_neg c_4] <;> rfl
    · refine lv_aload_n hx hb dX4_trod_26 rfl (lv_at hl 0 rfl) ?_
      refine lv_iconst (v := 5) hx hb dX4_trod_27 (by decide) ?_
      refine k_mv (wr := [(a 1, .inr (0, [.int (nI h), .int (nI w), .int pc, .int br, .ref (a 2), .ref (a 3), .ref (a 4)])), (a 2, .inl (cI, 16, .inl kd)), (a 3, .inl (cI, 16, .inl et)), (a 4, .inl (cI, 64, .inl nb))]) [0] [1, 2, 3, 4] (run_MV (As := [.int 5]) (rest := []) ⟨hx, hb, hml, hown, hts⟩ (c_X4_begin l D cI cJ cO a ft tr 5) (cwV 1 hts gX4_trod_X4_begin rfl rfl rfl (by decide +kernel) ⟨Nat.le_of_ble_eq_true rfl, Nat.le_of_ble_eq_true rfl⟩) hP hK hD [0] (by decide) rfl rfl rfl rfl rfl hl.1 rfl (Nat.le_of_ble_eq_true rfl) dX4_trod_28 ⟨Nat.le_refl _, Nat.le_refl _⟩) hP hD hS hA rfl rfl (by decide) (by decide) (fun w_10 H locs q_9 hP hD hS => ?_)
      obtain rfl := q_9
      have hP : va_P D vwCl [(a 0, .inr (4, [.ref (a 1), .ref (a 5), .ref (a 9), .ref (a 12), .int ft, .int (beg tr 5)])), (a 1, .inr (0, [.int (nI h), .int (nI w), .int pc, .int br, .ref (a 2), .ref (a 3), .ref (a 4)])), (a 2, .inl (cI, 16, .inl kd)), (a 3, .inl (cI, 16, .inl et)), (a 4, .inl (cI, 64, .inl nb))] H := hP.sub [4, 0, 1, 2, 3] rfl
      have hD : va_D A [(a 0, .inr (4, [.ref (a 1), .ref (a 5), .ref (a 9), .ref (a 12), .int ft, .int (beg tr 5)])), (a 1, .inr (0, [.int (nI h), .int (nI w), .int pc, .int br, .ref (a 2), .ref (a 3), .ref (a 4)])), (a 2, .inl (cI, 16, .inl kd)), (a 3, .inl (cI, 16, .inl et)), (a 4, .inl (cI, 64, .inl nb))] := hD.sub [4, 0, 1, 2, 3] (by decide) rfl
      refine lv_bipush (v := 40) hx hb dX4_trod_31 (by decide) ?_
      refine mi_ret (v := 40) hx hb hr hlk hP hD hS dX4_trod_33 ?_
      rw [show trT (h * w) kd tr c = _ from by rw [trT, if_pos c_3, if_pos c_4]]
      refine ⟨?_, rfl⟩
      rw [trR, if_pos c_3, if_pos c_4] <;> rfl
  · have c_3 := b2_f c_3
    refine lv_iconst (v := (-1)) hx hb dX4_trod_11 (by decide) ?_
    refine mi_ret (v := (-1)) hx hb hr hlk hP hD hS dX4_trod_12 ?_
    rw [show trT (h * w) kd tr c = _ from by rw [trT, if_neg c_3]]
    refine ⟨?_, rfl⟩
    rw [trR, if_neg c_3] <;> rfl
theorem iwX4_as_X0 : ∀ x ∈ wsX00, x ∈ wsX4_as := by decide +kernel
theorem iwX4_as_X4 : ∀ x ∈ wsX40, x ∈ wsX4_as := by decide +kernel
set_option maxRecDepth 100000 in
set_option maxHeartbeats 4000000 in
/-- X4_as -/
theorem c_X4_as (l : Launch) (D : va_G) (cI cJ cO : ClassId) (a : Nat → Nat) (ft : Int32) (tr : Int32) (h : Nat) (w : Nat) (pc : Int32) (br : Int32) (kd : Nat → Int32) (et : Nat → Int32) (nb : Nat → Int32) (c : Int32) (v : Int32) (hn : h * w ≤ 16) : MG l yX4_as wsX4_as 3 62 0 0 D [(cI, .int), (cJ, .long), (cO, .object "ShornHill$Sheet")] [.ref (a 0), .int c, .int v] [(a 0, .inr (4, [.ref (a 1), .ref (a 5), .ref (a 9), .ref (a 12), .int ft, .int tr])), (a 1, .inr (0, [.int (nI h), .int (nI w), .int pc, .int br, .ref (a 2), .ref (a 3), .ref (a 4)])), (a 2, .inl (cI, 16, .inl kd)), (a 3, .inl (cI, 16, .inl et)), (a 4, .inl (cI, 64, .inl nb))] (QI D (fun (r : Int32) (w1 : va_W) => r = (asR (h * w) kd c v) ∧ w1 = [(a 0, .inr (4, [.ref (a 1), .ref (a 5), .ref (a 9), .ref (a 12), .int (asF (h * w) kd c v), .int tr])), (a 1, .inr (0, [.int (nI h), .int (nI w), .int pc, .int br, .ref (a 2), .ref (a 3), .ref (a 4)])), (a 2, .inl (cI, 16, .inl kd)), (a 3, .inl (cI, 16, .inl et)), (a 4, .inl (cI, 64, .inl nb))])) := by
  refine MG.of (cc := cX4_as) (maxL := 3) (ret := (some .int)) (by decide) rfl (Nat.le_of_ble_eq_true rfl) ?_
  intro P_ E_ S_ M_ B_ T_ K_ hx hb hml hr hts hown hlk hnm A hA hP hK hD hS ls hl
  have hl : lv_has ls 3 [(0, .ref (a 0)), (1, .int c), (2, .int v)] := hl
  have hin0 : ∀ x ∈ u_ws RX0 TX0 7, x ∈ wsX4_as := iwX4_as_X0
  have hin4 : ∀ x ∈ u_ws RX4 TX4 6, x ∈ wsX4_as := iwX4_as_X4
  refine lv_aload_n hx hb dX4_as_0 rfl (lv_at hl 0 rfl) ?_
  refine lv_iconst (v := 0) hx hb dX4_as_1 (by decide) ?_
  refine va_put (D := D) (ci := 4) (v := .int 0) (ty := .int) (C := RX4) (T := TX4) (N := 6) hx hb hts hin4 tyX4 tyX4_ok nmX4 hown hK.1 hP hD hS 0 rfl rfl 4 (by decide) (hts _ (List.mem_of_getElem? (i := 1) rfl)) (fun _ h9 => h9) rfl (by decide +kernel) rfl rfl (Nat.le_of_ble_eq_true rfl) dX4_as_2 (fun H locs hP hD hS => ?_)
  have hP : va_P D vwCl [(a 0, .inr (4, [.ref (a 1), .ref (a 5), .ref (a 9), .ref (a 12), .int 0, .int tr])), (a 1, .inr (0, [.int (nI h), .int (nI w), .int pc, .int br, .ref (a 2), .ref (a 3), .ref (a 4)])), (a 2, .inl (cI, 16, .inl kd)), (a 3, .inl (cI, 16, .inl et)), (a 4, .inl (cI, 64, .inl nb))] H := hP
  have hD : va_D A [(a 0, .inr (4, [.ref (a 1), .ref (a 5), .ref (a 9), .ref (a 12), .int 0, .int tr])), (a 1, .inr (0, [.int (nI h), .int (nI w), .int pc, .int br, .ref (a 2), .ref (a 3), .ref (a 4)])), (a 2, .inl (cI, 16, .inl kd)), (a 3, .inl (cI, 16, .inl et)), (a 4, .inl (cI, 64, .inl nb))] := hD
  refine lv_aload_n hx hb dX4_as_5 rfl (lv_at hl 0 rfl) ?_
  refine va_get (D := D) (ci := 4) (v := .ref (a 1)) (C := RX4) (T := TX4) (N := 6) hx hb hts hin4 hown hK.1 hP 0 rfl rfl 0 (by decide) (hts _ (List.mem_of_getElem? (i := 2) rfl)) (fun _ h9 => h9) rfl dX4_as_6 ?_
  refine lv_iload_n hx hb dX4_as_9 rfl (lv_at hl 1 rfl) ?_
  refine k_ri (run_RN (As := [.int c]) (rest := []) ⟨hx, hb, hml, hown, hts⟩ (c_X0_isSoft l D cI cJ cO a h w pc br kd et nb c hn) ⟨va_cnB 1 hts ggX4_as_X0_isSoft rfl rfl rfl (nw_X4_100 hK) (hts _ (List.mem_of_getElem? (i := 4) rfl)) (by decide +kernel) ⟨Nat.le_of_ble_eq_true rfl, Nat.le_of_ble_eq_true rfl⟩, (hts _ (List.mem_of_getElem? (i := 3) rfl)), (hts _ (List.mem_of_getElem? (i := 5) rfl))⟩ hP hK [1, 2, 3, 4] rfl rfl rfl rfl rfl hl.1 rfl (Nat.le_of_ble_eq_true rfl) dX4_as_10 ⟨Nat.le_refl _, Nat.le_refl _⟩) (fun r_1 q_2 => ?_)
  obtain rfl := q_2
  refine lv_if_ne (tgt := 18) hx hb dX4_as_13 (by decide) (fun c_3 => ?_) (fun c_3 => ?_)
  · have c_3 := b2_t c_3
    refine lv_iload_n hx hb dX4_as_18 rfl (lv_at hl 2 rfl) ?_
    refine lv_if_lt (tgt := 27) hx hb dX4_as_19 (by decide) (fun c_4 => ?_) (fun c_4 => ?_)
    · have cb : ¬ btw v 0 2 := by simp only [inN, softP, btw, inS, ripP, Int32.lt_iff_toInt_lt, Int32.le_iff_toInt_le, ← Int32.toInt_inj, ti_0, ti_1, ti_2, ti_3, ti_4, ti_8, ti_9, ti_10, ti_14, ti_15, ti_20, ti_60, ti_m1] at c_4 ⊢; omega
      refine lv_bipush (v := (-2)) hx hb dX4_as_27 (by decide) ?_
      refine mi_ret (v := (-2)) hx hb hr hlk hP hD hS dX4_as_29 ?_
      rw [show asF (h * w) kd c v = _ from by rw [asF, if_neg (fun z => (fun z => cb z.1) z.2)]]
      refine ⟨?_, rfl⟩
      rw [asR, if_pos c_3, if_neg cb] <;> rfl
    · refine lv_iload_n hx hb dX4_as_22 rfl (lv_at hl 2 rfl) ?_
      refine lv_iconst (v := 2) hx hb dX4_as_23 (by decide) ?_
      refine lv_icmp_le (tgt := 30) hx hb dX4_as_24 (by decide) (fun c_5 => ?_) (fun c_5 => ?_)
      · have cb : btw v 0 2 := by simp only [inN, softP, btw, inS, ripP, Int32.lt_iff_toInt_lt, Int32.le_iff_toInt_le, ← Int32.toInt_inj, ti_0, ti_1, ti_2, ti_3, ti_4, ti_8, ti_9, ti_10, ti_14, ti_15, ti_20, ti_60, ti_m1] at c_4 c_5 ⊢; omega
        refine lv_aload_n hx hb dX4_as_30 rfl (lv_at hl 0 rfl) ?_
        refine va_get (D := D) (ci := 4) (v := .ref (a 1)) (C := RX4) (T := TX4) (N := 6) hx hb hts hin4 hown hK.1 hP 0 rfl rfl 0 (by decide) (hts _ (List.mem_of_getElem? (i := 2) rfl)) (fun _ h9 => h9) rfl dX4_as_31 ?_
        refine va_getN (D := D) (ci := 0) (v := .ref (a 2)) (C := RX0) (T := TX0) (N := 7) hx hb hts hin0 hown hK.1 hP 1 rfl rfl 4 (by decide) (va_Nw.use rfl (nw_X4_91 hK)) (fun _ h9 => h9) rfl dX4_as_34 ?_
        refine lv_iload_n hx hb dX4_as_37 rfl (lv_at hl 1 rfl) ?_
        refine k_iald hx hb hK hP 2 0 rfl rfl (j := c.toNatClampNeg) (inN.vp c_3.1 (by omega)) rfl dX4_as_38 ?_
        refine lv_iload_n hx hb dX4_as_39 rfl (lv_at hl 2 rfl) ?_
        refine lv_icmp_lt (tgt := 47) hx hb dX4_as_40 (by decide) (fun c_6 => ?_) (fun c_6 => ?_)
        · have cq : ¬ v ≤ kd c.toNatClampNeg := Int32.not_le.mpr c_6
          refine lv_aload_n hx hb dX4_as_47 rfl (lv_at hl 0 rfl) ?_
          refine lv_iconst (v := 2) hx hb dX4_as_48 (by decide) ?_
          refine k_mi (wr := [(a 1, .inr (0, [.int (nI h), .int (nI w), .int pc, .int br, .ref (a 2), .ref (a 3), .ref (a 4)])), (a 2, .inl (cI, 16, .inl kd)), (a 3, .inl (cI, 16, .inl et)), (a 4, .inl (cI, 64, .inl nb))]) [0] [1, 2, 3, 4] (run_MV (As := [.int 2]) (rest := []) ⟨hx, hb, hml, hown, hts⟩ (c_X4_failed l D cI cJ cO a 0 tr 2) (cwV 1 hts gX4_as_X4_failed rfl rfl rfl (by decide +kernel) ⟨Nat.le_of_ble_eq_true rfl, Nat.le_of_ble_eq_true rfl⟩) hP hK hD [0] (by decide) rfl rfl rfl rfl rfl hl.1 rfl (Nat.le_of_ble_eq_true rfl) dX4_as_49 ⟨Nat.le_refl _, Nat.le_refl _⟩) hP hD hS hA rfl rfl (by decide) (by decide) (fun r_7 w_9 H locs q_8 hP hD hS => ?_)
          obtain ⟨rfl, rfl⟩ := q_8
          have hP : va_P D vwCl [(a 0, .inr (4, [.ref (a 1), .ref (a 5), .ref (a 9), .ref (a 12), .int 2, .int tr])), (a 1, .inr (0, [.int (nI h), .int (nI w), .int pc, .int br, .ref (a 2), .ref (a 3), .ref (a 4)])), (a 2, .inl (cI, 16, .inl kd)), (a 3, .inl (cI, 16, .inl et)), (a 4, .inl (cI, 64, .inl nb))] H := hP.sub [4, 0, 1, 2, 3] rfl
          have hD : va_D A [(a 0, .inr (4, [.ref (a 1), .ref (a 5), .ref (a 9), .ref (a 12), .int 2, .int tr])), (a 1, .inr (0, [.int (nI h), .int (nI w), .int pc, .int br, .ref (a 2), .ref (a 3), .ref (a 4)])), (a 2, .inl (cI, 16, .inl kd)), (a 3, .inl (cI, 16, .inl et)), (a 4, .inl (cI, 64, .inl nb))] := hD.sub [4, 0, 1, 2, 3] (by decide) rfl
          refine mi_ret (v := ((-10) - 2)) hx hb hr hlk hP hD hS dX4_as_52 ?_
          rw [show asF (h * w) kd c v = _ from by rw [asF, if_pos ⟨c_3, ⟨cb, cq⟩⟩]]
          refine ⟨?_, rfl⟩
          rw [asR, if_pos c_3, if_pos cb, if_neg cq] <;> rfl
        · have cq : v ≤ kd c.toNatClampNeg := Int32.not_lt.mp c_6
          refine lv_iconst (v := 1) hx hb dX4_as_43 (by decide) ?_
          refine lv_goto (tgt := 52) hx hb dX4_as_44 (by decide) ?_
          refine mi_ret (v := 1) hx hb hr hlk hP hD hS dX4_as_52 ?_
          rw [show asF (h * w) kd c v = _ from by rw [asF, if_neg (fun z => (fun z => (fun z => z cq) z.2) z.2)]]
          refine ⟨?_, rfl⟩
          rw [asR, if_pos c_3, if_pos cb, if_pos cq] <;> rfl
      · have cb : ¬ btw v 0 2 := by simp only [inN, softP, btw, inS, ripP, Int32.lt_iff_toInt_lt, Int32.le_iff_toInt_le, ← Int32.toInt_inj, ti_0, ti_1, ti_2, ti_3, ti_4, ti_8, ti_9, ti_10, ti_14, ti_15, ti_20, ti_60, ti_m1] at c_4 c_5 ⊢; omega
        refine lv_bipush (v := (-2)) hx hb dX4_as_27 (by decide) ?_
        refine mi_ret (v := (-2)) hx hb hr hlk hP hD hS dX4_as_29 ?_
        rw [show asF (h * w) kd c v = _ from by rw [asF, if_neg (fun z => (fun z => cb z.1) z.2)]]
        refine ⟨?_, rfl⟩
        rw [asR, if_pos c_3, if_neg cb] <;> rfl
  · have c_3 := b2_f c_3
    refine lv_iconst (v := (-1)) hx hb dX4_as_16 (by decide) ?_
    refine mi_ret (v := (-1)) hx hb hr hlk hP hD hS dX4_as_17 ?_
    rw [show asF (h * w) kd c v = _ from by rw [asF, if_neg (fun z => c_3 z.1)]]
    refine ⟨?_, rfl⟩
    rw [asR, if_neg c_3] <;> rfl
theorem iwX4_ofCell_X0 : ∀ x ∈ wsX00, x ∈ wsX4_ofCell := by decide +kernel
theorem iwX4_ofCell_X4 : ∀ x ∈ wsX40, x ∈ wsX4_ofCell := by decide +kernel
set_option maxRecDepth 100000 in
set_option maxHeartbeats 4000000 in
/-- X4_ofCell -/
theorem c_X4_ofCell (l : Launch) (D : va_G) (cI cJ cO : ClassId) (a : Nat → Nat) (ft : Int32) (tr : Int32) (h : Nat) (w : Nat) (pc : Int32) (br : Int32) (kd : Nat → Int32) (et : Nat → Int32) (nb : Nat → Int32) (c : Int32) (v : Int32) (hn : h * w ≤ 16) : RG l yX4_ofCell wsX4_ofCell 2 41 D [(cI, .int), (cJ, .long), (cO, .object "ShornHill$Sheet")] [.ref (a 0), .int c, .int v] [(a 0, .inr (4, [.ref (a 1), .ref (a 5), .ref (a 9), .ref (a 12), .int ft, .int tr])), (a 1, .inr (0, [.int (nI h), .int (nI w), .int pc, .int br, .ref (a 2), .ref (a 3), .ref (a 4)])), (a 2, .inl (cI, 16, .inl kd)), (a 3, .inl (cI, 16, .inl et)), (a 4, .inl (cI, 64, .inl nb))] (vp_Si (fun (r : Int32) => r = (ofR (h * w) pc kd et c v))) := by
  refine RG.of (cc := cX4_ofCell) (maxL := 3) (ret := (some .int)) (by decide) rfl (Nat.le_of_ble_eq_true rfl) ?_
  intro P_ E_ S_ M_ B_ T_ K_ hx hb hml hr hts hown hlk hP hK ls hl
  have hl : lv_has ls 3 [(0, .ref (a 0)), (1, .int c), (2, .int v)] := hl
  have hin0 : ∀ x ∈ u_ws RX0 TX0 7, x ∈ wsX4_ofCell := iwX4_ofCell_X0
  have hin4 : ∀ x ∈ u_ws RX4 TX4 6, x ∈ wsX4_ofCell := iwX4_ofCell_X4
  refine lv_aload_n hx hb dX4_ofCell_0 rfl (lv_at hl 0 rfl) ?_
  refine va_get (D := D) (ci := 4) (v := .ref (a 1)) (C := RX4) (T := TX4) (N := 6) hx hb hts hin4 hown hK.1 hP 0 rfl rfl 0 (by decide) (hts _ (List.mem_of_getElem? (i := 1) rfl)) (fun _ h9 => h9) rfl dX4_ofCell_1 ?_
  refine lv_iload_n hx hb dX4_ofCell_4 rfl (lv_at hl 1 rfl) ?_
  refine k_ri (run_RN (As := [.int c]) (rest := []) ⟨hx, hb, hml, hown, hts⟩ (c_X0_has l D cI cJ cO a h w pc br kd et nb c hn) ⟨va_cnB 1 hts ggX4_ofCell_X0_has rfl rfl rfl (nw_X4_88 hK) (hts _ (List.mem_of_getElem? (i := 3) rfl)) (by decide +kernel) ⟨Nat.le_of_ble_eq_true rfl, Nat.le_of_ble_eq_true rfl⟩, (hts _ (List.mem_of_getElem? (i := 2) rfl)), (hts _ (List.mem_of_getElem? (i := 4) rfl))⟩ hP hK [1, 2, 3, 4] rfl rfl rfl rfl rfl hl.1 rfl (Nat.le_of_ble_eq_true rfl) dX4_ofCell_5 ⟨Nat.le_refl _, Nat.le_refl _⟩) (fun r_1 q_2 => ?_)
  obtain rfl := q_2
  refine lv_if_ne (tgt := 13) hx hb dX4_ofCell_8 (by decide) (fun c_3 => ?_) (fun c_3 => ?_)
  · have c_3 := b2_t c_3
    refine lv_iload_n hx hb dX4_ofCell_13 rfl (lv_at hl 2 rfl) ?_
    rcases sw3 (v) with c_4 | c_4 | c_4 | c_4
    · refine lv_tableIn (off := 26) (tgt := 40) hx hb dX4_ofCell_14 (by rw [c_4]; decide) (by rw [c_4]; decide) (by rw [c_4]; rfl) (by decide) ?_
      refine lv_aload_n hx hb dX4_ofCell_40 rfl (lv_at hl 0 rfl) ?_
      refine va_get (D := D) (ci := 4) (v := .ref (a 1)) (C := RX4) (T := TX4) (N := 6) hx hb hts hin4 hown hK.1 hP 0 rfl rfl 0 (by decide) (hts _ (List.mem_of_getElem? (i := 1) rfl)) (fun _ h9 => h9) rfl dX4_ofCell_41 ?_
      refine va_getN (D := D) (ci := 0) (v := .ref (a 2)) (C := RX0) (T := TX0) (N := 7) hx hb hts hin0 hown hK.1 hP 1 rfl rfl 4 (by decide) (va_Nw.use rfl (nw_X4_91 hK)) (fun _ h9 => h9) rfl dX4_ofCell_44 ?_
      refine lv_iload_n hx hb dX4_ofCell_47 rfl (lv_at hl 1 rfl) ?_
      refine k_iald hx hb hK hP 2 0 rfl rfl (j := c.toNatClampNeg) (inN.vp c_3 (by omega)) rfl dX4_ofCell_48 ?_
      refine ri_ret (v := (kd c.toNatClampNeg)) hx hb hr hlk dX4_ofCell_49 ?_
      rw [ofR, if_pos c_3, if_pos c_4] <;> rfl
    · refine lv_tableIn (off := 36) (tgt := 50) hx hb dX4_ofCell_14 (by rw [c_4]; decide) (by rw [c_4]; decide) (by rw [c_4]; rfl) (by decide) ?_
      have cn0 : ¬ v = 0 := fun z => by rw [z] at c_4; exact absurd c_4 (by decide)
      refine lv_aload_n hx hb dX4_ofCell_50 rfl (lv_at hl 0 rfl) ?_
      refine va_get (D := D) (ci := 4) (v := .ref (a 1)) (C := RX4) (T := TX4) (N := 6) hx hb hts hin4 hown hK.1 hP 0 rfl rfl 0 (by decide) (hts _ (List.mem_of_getElem? (i := 1) rfl)) (fun _ h9 => h9) rfl dX4_ofCell_51 ?_
      refine lv_iload_n hx hb dX4_ofCell_54 rfl (lv_at hl 1 rfl) ?_
      refine k_ri (run_RN (As := [.int c]) (rest := []) ⟨hx, hb, hml, hown, hts⟩ (c_X0_weekly l D cI cJ cO a h w pc br kd et nb c c.toNatClampNeg (inN.vp c_3 (by omega)) rfl) ⟨va_cnB 1 hts ggX4_ofCell_X0_weekly rfl rfl rfl (nw_X4_94 hK) (hts _ (List.mem_of_getElem? (i := 3) rfl)) (by decide +kernel) ⟨Nat.le_of_ble_eq_true rfl, Nat.le_of_ble_eq_true rfl⟩, (hts _ (List.mem_of_getElem? (i := 12) rfl)), (hts _ (List.mem_of_getElem? (i := 13) rfl))⟩ hP hK [1, 2, 3, 4] rfl rfl rfl rfl rfl hl.1 rfl (Nat.le_of_ble_eq_true rfl) dX4_ofCell_55 ⟨Nat.le_refl _, Nat.le_refl _⟩) (fun r_5 q_6 => ?_)
      obtain rfl := q_6
      refine ri_ret (v := (wk (kd c.toNatClampNeg) pc)) hx hb hr hlk dX4_ofCell_58 ?_
      rw [ofR, if_pos c_3, if_neg cn0, if_pos c_4] <;> rfl
    · refine lv_tableIn (off := 45) (tgt := 59) hx hb dX4_ofCell_14 (by rw [c_4]; decide) (by rw [c_4]; decide) (by rw [c_4]; rfl) (by decide) ?_
      have cn0 : ¬ v = 0 := fun z => by rw [z] at c_4; exact absurd c_4 (by decide)
      have cn1 : ¬ v = 1 := fun z => by rw [z] at c_4; exact absurd c_4 (by decide)
      refine lv_aload_n hx hb dX4_ofCell_59 rfl (lv_at hl 0 rfl) ?_
      refine va_get (D := D) (ci := 4) (v := .ref (a 1)) (C := RX4) (T := TX4) (N := 6) hx hb hts hin4 hown hK.1 hP 0 rfl rfl 0 (by decide) (hts _ (List.mem_of_getElem? (i := 1) rfl)) (fun _ h9 => h9) rfl dX4_ofCell_60 ?_
      refine va_getN (D := D) (ci := 0) (v := .ref (a 3)) (C := RX0) (T := TX0) (N := 7) hx hb hts hin0 hown hK.1 hP 1 rfl rfl 5 (by decide) (va_Nw.use rfl (nw_X4_97 hK)) (fun _ h9 => h9) rfl dX4_ofCell_63 ?_
      refine lv_iload_n hx hb dX4_ofCell_66 rfl (lv_at hl 1 rfl) ?_
      refine k_iald hx hb hK hP 3 0 rfl rfl (j := c.toNatClampNeg) (inN.vp c_3 (by omega)) rfl dX4_ofCell_67 ?_
      refine ri_ret (v := (et c.toNatClampNeg)) hx hb hr hlk dX4_ofCell_68 ?_
      rw [ofR, if_pos c_3, if_neg cn0, if_neg cn1, if_pos c_4] <;> rfl
    · refine lv_tableOut (tgt := 69) hx hb dX4_ofCell_14 c_4 (by decide) ?_
      have cn0 : ¬ v = 0 := fun z => by rw [z] at c_4; exact absurd c_4 (by decide)
      have cn1 : ¬ v = 1 := fun z => by rw [z] at c_4; exact absurd c_4 (by decide)
      have cn2 : ¬ v = 2 := fun z => by rw [z] at c_4; exact absurd c_4 (by decide)
      refine lv_bipush (v := (-2)) hx hb dX4_ofCell_69 (by decide) ?_
      refine ri_ret (v := (-2)) hx hb hr hlk dX4_ofCell_71 ?_
      rw [ofR, if_pos c_3, if_neg cn0, if_neg cn1, if_neg cn2] <;> rfl
  · have c_3 := b2_f c_3
    refine lv_iconst (v := (-1)) hx hb dX4_ofCell_11 (by decide) ?_
    refine ri_ret (v := (-1)) hx hb hr hlk dX4_ofCell_12 ?_
    rw [ofR, if_neg c_3] <;> rfl
theorem iwX4_goats_X0 : ∀ x ∈ wsX00, x ∈ wsX4_goats := by decide +kernel
theorem iwX4_goats_X4 : ∀ x ∈ wsX40, x ∈ wsX4_goats := by decide +kernel
set_option maxRecDepth 100000 in
set_option maxHeartbeats 4000000 in
/-- X4_goats -/
theorem c_X4_goats (l : Launch) (D : va_G) (cI cJ cO : ClassId) (a : Nat → Nat) (ft : Int32) (tr : Int32) (h : Nat) (w : Nat) (pc : Int32) (br : Int32) (kd : Nat → Int32) (et : Nat → Int32) (nb : Nat → Int32) (c : Int32) (v : Int32) (hn : h * w ≤ 16) : MG l yX4_goats wsX4_goats 3 62 0 0 D [(cI, .int), (cJ, .long), (cO, .object "ShornHill$Sheet")] [.ref (a 0), .int c, .int v] [(a 0, .inr (4, [.ref (a 1), .ref (a 5), .ref (a 9), .ref (a 12), .int ft, .int tr])), (a 1, .inr (0, [.int (nI h), .int (nI w), .int pc, .int br, .ref (a 2), .ref (a 3), .ref (a 4)])), (a 2, .inl (cI, 16, .inl kd)), (a 3, .inl (cI, 16, .inl et)), (a 4, .inl (cI, 64, .inl nb))] (QI D (fun (r : Int32) (w1 : va_W) => r = (goR (h * w) kd et c v) ∧ w1 = [(a 0, .inr (4, [.ref (a 1), .ref (a 5), .ref (a 9), .ref (a 12), .int ft, .int tr])), (a 1, .inr (0, [.int (nI h), .int (nI w), .int pc, .int br, .ref (a 2), .ref (a 3), .ref (a 4)])), (a 2, .inl (cI, 16, .inl kd)), (a 3, .inl (cI, 16, .inl (goE (h * w) kd et c v))), (a 4, .inl (cI, 64, .inl nb))])) := by
  refine MG.of (cc := cX4_goats) (maxL := 4) (ret := (some .int)) (by decide) rfl (Nat.le_of_ble_eq_true rfl) ?_
  intro P_ E_ S_ M_ B_ T_ K_ hx hb hml hr hts hown hlk hnm A hA hP hK hD hS ls hl
  have hl : lv_has ls 4 [(0, .ref (a 0)), (1, .int c), (2, .int v)] := hl
  have hin0 : ∀ x ∈ u_ws RX0 TX0 7, x ∈ wsX4_goats := iwX4_goats_X0
  have hin4 : ∀ x ∈ u_ws RX4 TX4 6, x ∈ wsX4_goats := iwX4_goats_X4
  refine lv_aload_n hx hb dX4_goats_0 rfl (lv_at hl 0 rfl) ?_
  refine va_get (D := D) (ci := 4) (v := .ref (a 1)) (C := RX4) (T := TX4) (N := 6) hx hb hts hin4 hown hK.1 hP 0 rfl rfl 0 (by decide) (hts _ (List.mem_of_getElem? (i := 1) rfl)) (fun _ h9 => h9) rfl dX4_goats_1 ?_
  refine lv_iload_n hx hb dX4_goats_4 rfl (lv_at hl 1 rfl) ?_
  refine k_ri (run_RN (As := [.int c]) (rest := []) ⟨hx, hb, hml, hown, hts⟩ (c_X0_isSoft l D cI cJ cO a h w pc br kd et nb c hn) ⟨va_cnB 1 hts ggX4_goats_X0_isSoft rfl rfl rfl (nw_X4_100 hK) (hts _ (List.mem_of_getElem? (i := 3) rfl)) (by decide +kernel) ⟨Nat.le_of_ble_eq_true rfl, Nat.le_of_ble_eq_true rfl⟩, (hts _ (List.mem_of_getElem? (i := 2) rfl)), (hts _ (List.mem_of_getElem? (i := 4) rfl))⟩ hP hK [1, 2, 3, 4] rfl rfl rfl rfl rfl hl.1 rfl (Nat.le_of_ble_eq_true rfl) dX4_goats_5 ⟨Nat.le_refl _, Nat.le_refl _⟩) (fun r_1 q_2 => ?_)
  obtain rfl := q_2
  refine lv_if_ne (tgt := 13) hx hb dX4_goats_8 (by decide) (fun c_3 => ?_) (fun c_3 => ?_)
  · have c_3 := b2_t c_3
    refine lv_iload_n hx hb dX4_goats_13 rfl (lv_at hl 2 rfl) ?_
    refine k_ri (run_RS (As := [.int v]) (rest := []) ⟨hx, hb, hml, hown, hts⟩ (c_X4_isInches l D cI cJ cO v) (va_cwS 1 hts gX4_goats_X4_isInches rfl rfl rfl (by decide +kernel) ⟨Nat.le_of_ble_eq_true rfl, Nat.le_of_ble_eq_true rfl⟩) hP hK [] rfl rfl hl.1 rfl (Nat.le_of_ble_eq_true rfl) dX4_goats_14 ⟨Nat.le_refl _, Nat.le_refl _⟩) (fun r_4 q_5 => ?_)
    obtain rfl := q_5
    refine lv_if_ne (tgt := 23) hx hb dX4_goats_17 (by decide) (fun c_6 => ?_) (fun c_6 => ?_)
    · have c_6 := b2_t c_6
      refine lv_aload_n hx hb dX4_goats_23 rfl (lv_at hl 0 rfl) ?_
      refine va_get (D := D) (ci := 4) (v := .ref (a 1)) (C := RX4) (T := TX4) (N := 6) hx hb hts hin4 hown hK.1 hP 0 rfl rfl 0 (by decide) (hts _ (List.mem_of_getElem? (i := 1) rfl)) (fun _ h9 => h9) rfl dX4_goats_24 ?_
      refine va_getN (D := D) (ci := 0) (v := .ref (a 3)) (C := RX0) (T := TX0) (N := 7) hx hb hts hin0 hown hK.1 hP 1 rfl rfl 5 (by decide) (va_Nw.use rfl (nw_X4_97 hK)) (fun _ h9 => h9) rfl dX4_goats_27 ?_
      refine lv_iload_n hx hb dX4_goats_30 rfl (lv_at hl 1 rfl) ?_
      refine k_iald hx hb hK hP 3 0 rfl rfl (j := c.toNatClampNeg) (inN.vp c_3.1 (by omega)) rfl dX4_goats_31 ?_
      refine lv_istore_n (lv' := [(3, .int (et c.toNatClampNeg)), (0, .ref (a 0)), (1, .int c), (2, .int v)]) hx hb dX4_goats_32 rfl hl (by decide) rfl (fun ls hl => ?_)
      refine lv_aload_n hx hb dX4_goats_33 rfl (lv_at hl 1 rfl) ?_
      refine va_get (D := D) (ci := 4) (v := .ref (a 1)) (C := RX4) (T := TX4) (N := 6) hx hb hts hin4 hown hK.1 hP 0 rfl rfl 0 (by decide) (hts _ (List.mem_of_getElem? (i := 1) rfl)) (fun _ h9 => h9) rfl dX4_goats_34 ?_
      refine va_getN (D := D) (ci := 0) (v := .ref (a 3)) (C := RX0) (T := TX0) (N := 7) hx hb hts hin0 hown hK.1 hP 1 rfl rfl 5 (by decide) (va_Nw.use rfl (nw_X4_97 hK)) (fun _ h9 => h9) rfl dX4_goats_37 ?_
      refine lv_iload_n hx hb dX4_goats_40 rfl (lv_at hl 2 rfl) ?_
      refine lv_iload_n hx hb dX4_goats_41 rfl (lv_at hl 3 rfl) ?_
      refine k_iast hx hb hK hP hD hS 3 0 rfl rfl (j := c.toNatClampNeg) (inN.vp c_3.1 (by omega)) rfl dX4_goats_42 (fun H locs hP hD hS => ?_)
      have hP : va_P D vwCl [(a 0, .inr (4, [.ref (a 1), .ref (a 5), .ref (a 9), .ref (a 12), .int ft, .int tr])), (a 1, .inr (0, [.int (nI h), .int (nI w), .int pc, .int br, .ref (a 2), .ref (a 3), .ref (a 4)])), (a 2, .inl (cI, 16, .inl kd)), (a 3, .inl (cI, 16, .inl (upd et c.toNatClampNeg v))), (a 4, .inl (cI, 64, .inl nb))] H := hP
      have hD : va_D A [(a 0, .inr (4, [.ref (a 1), .ref (a 5), .ref (a 9), .ref (a 12), .int ft, .int tr])), (a 1, .inr (0, [.int (nI h), .int (nI w), .int pc, .int br, .ref (a 2), .ref (a 3), .ref (a 4)])), (a 2, .inl (cI, 16, .inl kd)), (a 3, .inl (cI, 16, .inl (upd et c.toNatClampNeg v))), (a 4, .inl (cI, 64, .inl nb))] := hD
      refine lv_iload_n hx hb dX4_goats_43 rfl (lv_at hl 0 rfl) ?_
      refine mi_ret (v := (et c.toNatClampNeg)) hx hb hr hlk hP hD hS dX4_goats_44 ?_
      rw [show goE (h * w) kd et c v = _ from by rw [goE, if_pos ⟨c_3, c_6⟩]]
      refine ⟨?_, rfl⟩
      rw [goR, if_pos c_3, if_pos c_6] <;> rfl
    · have c_6 := b2_f c_6
      refine lv_bipush (v := (-2)) hx hb dX4_goats_20 (by decide) ?_
      refine mi_ret (v := (-2)) hx hb hr hlk hP hD hS dX4_goats_22 ?_
      rw [show goE (h * w) kd et c v = _ from by rw [goE, if_neg (fun z => c_6 z.2)]]
      refine ⟨?_, rfl⟩
      rw [goR, if_pos c_3, if_neg c_6] <;> rfl
  · have c_3 := b2_f c_3
    refine lv_iconst (v := (-1)) hx hb dX4_goats_11 (by decide) ?_
    refine mi_ret (v := (-1)) hx hb hr hlk hP hD hS dX4_goats_12 ?_
    rw [show goE (h * w) kd et c v = _ from by rw [goE, if_neg (fun z => c_3 z.1)]]
    refine ⟨?_, rfl⟩
    rw [goR, if_neg c_3] <;> rfl
theorem iwX4_pace_X0 : ∀ x ∈ wsX00, x ∈ wsX4_pace := by decide +kernel
theorem iwX4_pace_X4 : ∀ x ∈ wsX40, x ∈ wsX4_pace := by decide +kernel
set_option maxRecDepth 100000 in
set_option maxHeartbeats 4000000 in
/-- X4_pace -/
theorem c_X4_pace (l : Launch) (D : va_G) (cI cJ cO : ClassId) (a : Nat → Nat) (ft : Int32) (tr : Int32) (h : Nat) (w : Nat) (pc : Int32) (br : Int32) (kd : Nat → Int32) (et : Nat → Int32) (nb : Nat → Int32) (v : Int32) (hh : h ≤ 4) : MG l yX4_pace wsX4_pace 1 20 0 0 D [(cI, .int), (cJ, .long), (cO, .object "ShornHill$Sheet")] [.ref (a 0), .int v] [(a 0, .inr (4, [.ref (a 1), .ref (a 5), .ref (a 9), .ref (a 12), .int ft, .int tr])), (a 1, .inr (0, [.int (nI h), .int (nI w), .int pc, .int br, .ref (a 2), .ref (a 3), .ref (a 4)])), (a 2, .inl (cI, 16, .inl kd)), (a 3, .inl (cI, 16, .inl et)), (a 4, .inl (cI, 64, .inl nb))] (QI D (fun (r : Int32) (w1 : va_W) => r = (paR h pc v 3) ∧ w1 = [(a 0, .inr (4, [.ref (a 1), .ref (a 5), .ref (a 9), .ref (a 12), .int ft, .int tr])), (a 1, .inr (0, [.int (nI h), .int (nI w), .int (paE h pc v 3), .int br, .ref (a 2), .ref (a 3), .ref (a 4)])), (a 2, .inl (cI, 16, .inl kd)), (a 3, .inl (cI, 16, .inl et)), (a 4, .inl (cI, 64, .inl nb))])) := by
  refine MG.of (cc := cX4_pace) (maxL := 3) (ret := (some .int)) (by decide) rfl (Nat.le_of_ble_eq_true rfl) ?_
  intro P_ E_ S_ M_ B_ T_ K_ hx hb hml hr hts hown hlk hnm A hA hP hK hD hS ls hl
  have hl : lv_has ls 3 [(0, .ref (a 0)), (1, .int v)] := hl
  have hin0 : ∀ x ∈ u_ws RX0 TX0 7, x ∈ wsX4_pace := iwX4_pace_X0
  have hin4 : ∀ x ∈ u_ws RX4 TX4 6, x ∈ wsX4_pace := iwX4_pace_X4
  refine lv_iload_n hx hb dX4_pace_0 rfl (lv_at hl 1 rfl) ?_
  refine lv_iconst (v := 1) hx hb dX4_pace_1 (by decide) ?_
  refine lv_icmp_lt (tgt := 10) hx hb dX4_pace_2 (by decide) (fun c_1 => ?_) (fun c_1 => ?_)
  · have cb : ¬ btw v 1 3 := by simp only [inN, softP, btw, inS, ripP, Int32.lt_iff_toInt_lt, Int32.le_iff_toInt_le, ← Int32.toInt_inj, ti_0, ti_1, ti_2, ti_3, ti_4, ti_8, ti_9, ti_10, ti_14, ti_15, ti_20, ti_60, ti_m1] at c_1 ⊢; omega
    refine lv_bipush (v := (-2)) hx hb dX4_pace_10 (by decide) ?_
    refine mi_ret (v := (-2)) hx hb hr hlk hP hD hS dX4_pace_12 ?_
    rw [show paE h pc v 3 = _ from by rw [paE, if_neg (fun z => cb z.1)]]
    refine ⟨?_, rfl⟩
    rw [paR, if_neg cb] <;> rfl
  · refine lv_iload_n hx hb dX4_pace_5 rfl (lv_at hl 1 rfl) ?_
    refine lv_iconst (v := 3) hx hb dX4_pace_6 (by decide) ?_
    refine lv_icmp_le (tgt := 13) hx hb dX4_pace_7 (by decide) (fun c_2 => ?_) (fun c_2 => ?_)
    · have cb : btw v 1 3 := by simp only [inN, softP, btw, inS, ripP, Int32.lt_iff_toInt_lt, Int32.le_iff_toInt_le, ← Int32.toInt_inj, ti_0, ti_1, ti_2, ti_3, ti_4, ti_8, ti_9, ti_10, ti_14, ti_15, ti_20, ti_60, ti_m1] at c_1 c_2 ⊢; omega
      refine lv_aload_n hx hb dX4_pace_13 rfl (lv_at hl 0 rfl) ?_
      refine va_get (D := D) (ci := 4) (v := .ref (a 1)) (C := RX4) (T := TX4) (N := 6) hx hb hts hin4 hown hK.1 hP 0 rfl rfl 0 (by decide) (hts _ (List.mem_of_getElem? (i := 1) rfl)) (fun _ h9 => h9) rfl dX4_pace_14 ?_
      refine k_ri (run_RN (As := []) (rest := []) ⟨hx, hb, hml, hown, hts⟩ (c_X0_stands l D cI cJ cO a h w pc br kd et nb hh) ⟨va_cnB 0 hts ggX4_pace_X0_stands rfl rfl rfl (nw_X4_106 hK) (hts _ (List.mem_of_getElem? (i := 3) rfl)) (by decide +kernel) ⟨Nat.le_of_ble_eq_true rfl, Nat.le_of_ble_eq_true rfl⟩, (hts _ (List.mem_of_getElem? (i := 2) rfl)), (hts _ (List.mem_of_getElem? (i := 4) rfl))⟩ hP hK [1, 2, 3, 4] rfl rfl rfl rfl rfl hl.1 rfl (Nat.le_of_ble_eq_true rfl) dX4_pace_17 ⟨Nat.le_refl _, Nat.le_refl _⟩) (fun r_3 q_4 => ?_)
      obtain rfl := q_4
      refine lv_if_ne (tgt := 26) hx hb dX4_pace_20 (by decide) (fun c_5 => ?_) (fun c_5 => ?_)
      · have c_5 := b2_t c_5
        have ch : ¬ h = 0 := by omega
        refine lv_aload_n hx hb dX4_pace_26 rfl (lv_at hl 0 rfl) ?_
        refine va_get (D := D) (ci := 4) (v := .ref (a 1)) (C := RX4) (T := TX4) (N := 6) hx hb hts hin4 hown hK.1 hP 0 rfl rfl 0 (by decide) (hts _ (List.mem_of_getElem? (i := 1) rfl)) (fun _ h9 => h9) rfl dX4_pace_27 ?_
        refine va_getN (D := D) (ci := 0) (v := .int pc) (C := RX0) (T := TX0) (N := 7) hx hb hts hin0 hown hK.1 hP 1 rfl rfl 2 (by decide) (va_Nw.use rfl (nw_X4_110 hK)) (fun _ h9 => h9) rfl dX4_pace_30 ?_
        refine lv_istore_n (lv' := [(2, .int pc), (0, .ref (a 0)), (1, .int v)]) hx hb dX4_pace_33 rfl hl (by decide) rfl (fun ls hl => ?_)
        refine lv_aload_n hx hb dX4_pace_34 rfl (lv_at hl 1 rfl) ?_
        refine va_get (D := D) (ci := 4) (v := .ref (a 1)) (C := RX4) (T := TX4) (N := 6) hx hb hts hin4 hown hK.1 hP 0 rfl rfl 0 (by decide) (hts _ (List.mem_of_getElem? (i := 1) rfl)) (fun _ h9 => h9) rfl dX4_pace_35 ?_
        refine lv_iload_n hx hb dX4_pace_38 rfl (lv_at hl 2 rfl) ?_
        refine va_putN (D := D) (ci := 0) (v := .int v) (ty := .int) (C := RX0) (T := TX0) (N := 7) hx hb hts hin0 tyX0 tyX0_ok nmX0 hown hK.1 hP hD hS 1 rfl rfl 2 (by decide) (va_Nw.use rfl (nw_X4_110 hK)) (fun _ h9 => h9) rfl (by decide +kernel) rfl rfl (Nat.le_of_ble_eq_true rfl) dX4_pace_39 (fun H locs hP hD hS => ?_)
        have hP : va_P D vwCl [(a 0, .inr (4, [.ref (a 1), .ref (a 5), .ref (a 9), .ref (a 12), .int ft, .int tr])), (a 1, .inr (0, [.int (nI h), .int (nI w), .int v, .int br, .ref (a 2), .ref (a 3), .ref (a 4)])), (a 2, .inl (cI, 16, .inl kd)), (a 3, .inl (cI, 16, .inl et)), (a 4, .inl (cI, 64, .inl nb))] H := hP
        have hD : va_D A [(a 0, .inr (4, [.ref (a 1), .ref (a 5), .ref (a 9), .ref (a 12), .int ft, .int tr])), (a 1, .inr (0, [.int (nI h), .int (nI w), .int v, .int br, .ref (a 2), .ref (a 3), .ref (a 4)])), (a 2, .inl (cI, 16, .inl kd)), (a 3, .inl (cI, 16, .inl et)), (a 4, .inl (cI, 64, .inl nb))] := hD
        refine lv_iload_n hx hb dX4_pace_42 rfl (lv_at hl 0 rfl) ?_
        refine mi_ret (v := pc) hx hb hr hlk hP hD hS dX4_pace_43 ?_
        rw [show paE h pc v 3 = _ from by rw [paE, if_pos ⟨cb, ch⟩]]
        refine ⟨?_, rfl⟩
        rw [paR, if_pos cb, if_neg ch] <;> rfl
      · have c_5 := b2_f c_5
        have ch : h = 0 := by omega
        refine lv_bipush (v := (-3)) hx hb dX4_pace_23 (by decide) ?_
        refine mi_ret (v := (-3)) hx hb hr hlk hP hD hS dX4_pace_25 ?_
        rw [show paE h pc v 3 = _ from by rw [paE, if_neg (fun z => (fun z => z ch) z.2)]]
        refine ⟨?_, rfl⟩
        rw [paR, if_pos cb, if_pos ch] <;> rfl
    · have cb : ¬ btw v 1 3 := by simp only [inN, softP, btw, inS, ripP, Int32.lt_iff_toInt_lt, Int32.le_iff_toInt_le, ← Int32.toInt_inj, ti_0, ti_1, ti_2, ti_3, ti_4, ti_8, ti_9, ti_10, ti_14, ti_15, ti_20, ti_60, ti_m1] at c_1 c_2 ⊢; omega
      refine lv_bipush (v := (-2)) hx hb dX4_pace_10 (by decide) ?_
      refine mi_ret (v := (-2)) hx hb hr hlk hP hD hS dX4_pace_12 ?_
      rw [show paE h pc v 3 = _ from by rw [paE, if_neg (fun z => cb z.1)]]
      refine ⟨?_, rfl⟩
      rw [paR, if_neg cb] <;> rfl
theorem iwX4_breadth_X0 : ∀ x ∈ wsX00, x ∈ wsX4_breadth := by decide +kernel
theorem iwX4_breadth_X4 : ∀ x ∈ wsX40, x ∈ wsX4_breadth := by decide +kernel
set_option maxRecDepth 100000 in
set_option maxHeartbeats 4000000 in
/-- X4_breadth -/
theorem c_X4_breadth (l : Launch) (D : va_G) (cI cJ cO : ClassId) (a : Nat → Nat) (ft : Int32) (tr : Int32) (h : Nat) (w : Nat) (pc : Int32) (br : Int32) (kd : Nat → Int32) (et : Nat → Int32) (nb : Nat → Int32) (v : Int32) (hh : h ≤ 4) : MG l yX4_breadth wsX4_breadth 1 20 0 0 D [(cI, .int), (cJ, .long), (cO, .object "ShornHill$Sheet")] [.ref (a 0), .int v] [(a 0, .inr (4, [.ref (a 1), .ref (a 5), .ref (a 9), .ref (a 12), .int ft, .int tr])), (a 1, .inr (0, [.int (nI h), .int (nI w), .int pc, .int br, .ref (a 2), .ref (a 3), .ref (a 4)])), (a 2, .inl (cI, 16, .inl kd)), (a 3, .inl (cI, 16, .inl et)), (a 4, .inl (cI, 64, .inl nb))] (QI D (fun (r : Int32) (w1 : va_W) => r = (paR h br v 9) ∧ w1 = [(a 0, .inr (4, [.ref (a 1), .ref (a 5), .ref (a 9), .ref (a 12), .int ft, .int tr])), (a 1, .inr (0, [.int (nI h), .int (nI w), .int pc, .int (paE h br v 9), .ref (a 2), .ref (a 3), .ref (a 4)])), (a 2, .inl (cI, 16, .inl kd)), (a 3, .inl (cI, 16, .inl et)), (a 4, .inl (cI, 64, .inl nb))])) := by
  refine MG.of (cc := cX4_breadth) (maxL := 3) (ret := (some .int)) (by decide) rfl (Nat.le_of_ble_eq_true rfl) ?_
  intro P_ E_ S_ M_ B_ T_ K_ hx hb hml hr hts hown hlk hnm A hA hP hK hD hS ls hl
  have hl : lv_has ls 3 [(0, .ref (a 0)), (1, .int v)] := hl
  have hin0 : ∀ x ∈ u_ws RX0 TX0 7, x ∈ wsX4_breadth := iwX4_breadth_X0
  have hin4 : ∀ x ∈ u_ws RX4 TX4 6, x ∈ wsX4_breadth := iwX4_breadth_X4
  refine lv_iload_n hx hb dX4_breadth_0 rfl (lv_at hl 1 rfl) ?_
  refine lv_iconst (v := 1) hx hb dX4_breadth_1 (by decide) ?_
  refine lv_icmp_lt (tgt := 11) hx hb dX4_breadth_2 (by decide) (fun c_1 => ?_) (fun c_1 => ?_)
  · have cb : ¬ btw v 1 9 := by simp only [inN, softP, btw, inS, ripP, Int32.lt_iff_toInt_lt, Int32.le_iff_toInt_le, ← Int32.toInt_inj, ti_0, ti_1, ti_2, ti_3, ti_4, ti_8, ti_9, ti_10, ti_14, ti_15, ti_20, ti_60, ti_m1] at c_1 ⊢; omega
    refine lv_bipush (v := (-2)) hx hb dX4_breadth_11 (by decide) ?_
    refine mi_ret (v := (-2)) hx hb hr hlk hP hD hS dX4_breadth_13 ?_
    rw [show paE h br v 9 = _ from by rw [paE, if_neg (fun z => cb z.1)]]
    refine ⟨?_, rfl⟩
    rw [paR, if_neg cb] <;> rfl
  · refine lv_iload_n hx hb dX4_breadth_5 rfl (lv_at hl 1 rfl) ?_
    refine lv_bipush (v := 9) hx hb dX4_breadth_6 (by decide) ?_
    refine lv_icmp_le (tgt := 14) hx hb dX4_breadth_8 (by decide) (fun c_2 => ?_) (fun c_2 => ?_)
    · have cb : btw v 1 9 := by simp only [inN, softP, btw, inS, ripP, Int32.lt_iff_toInt_lt, Int32.le_iff_toInt_le, ← Int32.toInt_inj, ti_0, ti_1, ti_2, ti_3, ti_4, ti_8, ti_9, ti_10, ti_14, ti_15, ti_20, ti_60, ti_m1] at c_1 c_2 ⊢; omega
      refine lv_aload_n hx hb dX4_breadth_14 rfl (lv_at hl 0 rfl) ?_
      refine va_get (D := D) (ci := 4) (v := .ref (a 1)) (C := RX4) (T := TX4) (N := 6) hx hb hts hin4 hown hK.1 hP 0 rfl rfl 0 (by decide) (hts _ (List.mem_of_getElem? (i := 1) rfl)) (fun _ h9 => h9) rfl dX4_breadth_15 ?_
      refine k_ri (run_RN (As := []) (rest := []) ⟨hx, hb, hml, hown, hts⟩ (c_X0_stands l D cI cJ cO a h w pc br kd et nb hh) ⟨va_cnB 0 hts ggX4_breadth_X0_stands rfl rfl rfl (nw_X4_106 hK) (hts _ (List.mem_of_getElem? (i := 3) rfl)) (by decide +kernel) ⟨Nat.le_of_ble_eq_true rfl, Nat.le_of_ble_eq_true rfl⟩, (hts _ (List.mem_of_getElem? (i := 2) rfl)), (hts _ (List.mem_of_getElem? (i := 4) rfl))⟩ hP hK [1, 2, 3, 4] rfl rfl rfl rfl rfl hl.1 rfl (Nat.le_of_ble_eq_true rfl) dX4_breadth_18 ⟨Nat.le_refl _, Nat.le_refl _⟩) (fun r_3 q_4 => ?_)
      obtain rfl := q_4
      refine lv_if_ne (tgt := 27) hx hb dX4_breadth_21 (by decide) (fun c_5 => ?_) (fun c_5 => ?_)
      · have c_5 := b2_t c_5
        have ch : ¬ h = 0 := by omega
        refine lv_aload_n hx hb dX4_breadth_27 rfl (lv_at hl 0 rfl) ?_
        refine va_get (D := D) (ci := 4) (v := .ref (a 1)) (C := RX4) (T := TX4) (N := 6) hx hb hts hin4 hown hK.1 hP 0 rfl rfl 0 (by decide) (hts _ (List.mem_of_getElem? (i := 1) rfl)) (fun _ h9 => h9) rfl dX4_breadth_28 ?_
        refine va_getN (D := D) (ci := 0) (v := .int br) (C := RX0) (T := TX0) (N := 7) hx hb hts hin0 hown hK.1 hP 1 rfl rfl 3 (by decide) (va_Nw.use rfl (nw_X4_113 hK)) (fun _ h9 => h9) rfl dX4_breadth_31 ?_
        refine lv_istore_n (lv' := [(2, .int br), (0, .ref (a 0)), (1, .int v)]) hx hb dX4_breadth_34 rfl hl (by decide) rfl (fun ls hl => ?_)
        refine lv_aload_n hx hb dX4_breadth_35 rfl (lv_at hl 1 rfl) ?_
        refine va_get (D := D) (ci := 4) (v := .ref (a 1)) (C := RX4) (T := TX4) (N := 6) hx hb hts hin4 hown hK.1 hP 0 rfl rfl 0 (by decide) (hts _ (List.mem_of_getElem? (i := 1) rfl)) (fun _ h9 => h9) rfl dX4_breadth_36 ?_
        refine lv_iload_n hx hb dX4_breadth_39 rfl (lv_at hl 2 rfl) ?_
        refine va_putN (D := D) (ci := 0) (v := .int v) (ty := .int) (C := RX0) (T := TX0) (N := 7) hx hb hts hin0 tyX0 tyX0_ok nmX0 hown hK.1 hP hD hS 1 rfl rfl 3 (by decide) (va_Nw.use rfl (nw_X4_113 hK)) (fun _ h9 => h9) rfl (by decide +kernel) rfl rfl (Nat.le_of_ble_eq_true rfl) dX4_breadth_40 (fun H locs hP hD hS => ?_)
        have hP : va_P D vwCl [(a 0, .inr (4, [.ref (a 1), .ref (a 5), .ref (a 9), .ref (a 12), .int ft, .int tr])), (a 1, .inr (0, [.int (nI h), .int (nI w), .int pc, .int v, .ref (a 2), .ref (a 3), .ref (a 4)])), (a 2, .inl (cI, 16, .inl kd)), (a 3, .inl (cI, 16, .inl et)), (a 4, .inl (cI, 64, .inl nb))] H := hP
        have hD : va_D A [(a 0, .inr (4, [.ref (a 1), .ref (a 5), .ref (a 9), .ref (a 12), .int ft, .int tr])), (a 1, .inr (0, [.int (nI h), .int (nI w), .int pc, .int v, .ref (a 2), .ref (a 3), .ref (a 4)])), (a 2, .inl (cI, 16, .inl kd)), (a 3, .inl (cI, 16, .inl et)), (a 4, .inl (cI, 64, .inl nb))] := hD
        refine lv_iload_n hx hb dX4_breadth_43 rfl (lv_at hl 0 rfl) ?_
        refine mi_ret (v := br) hx hb hr hlk hP hD hS dX4_breadth_44 ?_
        rw [show paE h br v 9 = _ from by rw [paE, if_pos ⟨cb, ch⟩]]
        refine ⟨?_, rfl⟩
        rw [paR, if_pos cb, if_neg ch] <;> rfl
      · have c_5 := b2_f c_5
        have ch : h = 0 := by omega
        refine lv_bipush (v := (-3)) hx hb dX4_breadth_24 (by decide) ?_
        refine mi_ret (v := (-3)) hx hb hr hlk hP hD hS dX4_breadth_26 ?_
        rw [show paE h br v 9 = _ from by rw [paE, if_neg (fun z => (fun z => z ch) z.2)]]
        refine ⟨?_, rfl⟩
        rw [paR, if_pos cb, if_pos ch] <;> rfl
    · have cb : ¬ btw v 1 9 := by simp only [inN, softP, btw, inS, ripP, Int32.lt_iff_toInt_lt, Int32.le_iff_toInt_le, ← Int32.toInt_inj, ti_0, ti_1, ti_2, ti_3, ti_4, ti_8, ti_9, ti_10, ti_14, ti_15, ti_20, ti_60, ti_m1] at c_1 c_2 ⊢; omega
      refine lv_bipush (v := (-2)) hx hb dX4_breadth_11 (by decide) ?_
      refine mi_ret (v := (-2)) hx hb hr hlk hP hD hS dX4_breadth_13 ?_
      rw [show paE h br v 9 = _ from by rw [paE, if_neg (fun z => cb z.1)]]
      refine ⟨?_, rfl⟩
      rw [paR, if_neg cb] <;> rfl
theorem iwX4_coat_X4 : ∀ x ∈ wsX40, x ∈ wsX4_coat := by decide +kernel
set_option maxRecDepth 100000 in
set_option maxHeartbeats 4000000 in
/-- X4_coat -/
theorem c_X4_coat (l : Launch) (D : va_G) (cI cJ cO : ClassId) (a : Nat → Nat) (ft : Int32) (tr : Int32) (h : Nat) (w : Nat) (pc : Int32) (br : Int32) (kd : Nat → Int32) (et : Nat → Int32) (nb : Nat → Int32) (c : Int32) (ws : Int32) (hn : h * w ≤ 16) : RG l yX4_coat wsX4_coat 2 44 D [(cI, .int), (cJ, .long), (cO, .object "ShornHill$Sheet")] [.ref (a 0), .int c, .int ws] [(a 0, .inr (4, [.ref (a 1), .ref (a 5), .ref (a 9), .ref (a 12), .int ft, .int tr])), (a 1, .inr (0, [.int (nI h), .int (nI w), .int pc, .int br, .ref (a 2), .ref (a 3), .ref (a 4)])), (a 2, .inl (cI, 16, .inl kd)), (a 3, .inl (cI, 16, .inl et)), (a 4, .inl (cI, 64, .inl nb))] (vp_Si (fun (r : Int32) => r = (coR (h * w) pc kd et c ws))) := by
  refine RG.of (cc := cX4_coat) (maxL := 3) (ret := (some .int)) (by decide) rfl (Nat.le_of_ble_eq_true rfl) ?_
  intro P_ E_ S_ M_ B_ T_ K_ hx hb hml hr hts hown hlk hP hK ls hl
  have hl : lv_has ls 3 [(0, .ref (a 0)), (1, .int c), (2, .int ws)] := hl
  have hin4 : ∀ x ∈ u_ws RX4 TX4 6, x ∈ wsX4_coat := iwX4_coat_X4
  refine lv_aload_n hx hb dX4_coat_0 rfl (lv_at hl 0 rfl) ?_
  refine va_get (D := D) (ci := 4) (v := .ref (a 1)) (C := RX4) (T := TX4) (N := 6) hx hb hts hin4 hown hK.1 hP 0 rfl rfl 0 (by decide) (hts _ (List.mem_of_getElem? (i := 1) rfl)) (fun _ h9 => h9) rfl dX4_coat_1 ?_
  refine lv_iload_n hx hb dX4_coat_4 rfl (lv_at hl 1 rfl) ?_
  refine k_ri (run_RN (As := [.int c]) (rest := []) ⟨hx, hb, hml, hown, hts⟩ (c_X0_has l D cI cJ cO a h w pc br kd et nb c hn) ⟨va_cnB 1 hts ggX4_coat_X0_has rfl rfl rfl (nw_X4_88 hK) (hts _ (List.mem_of_getElem? (i := 3) rfl)) (by decide +kernel) ⟨Nat.le_of_ble_eq_true rfl, Nat.le_of_ble_eq_true rfl⟩, (hts _ (List.mem_of_getElem? (i := 2) rfl)), (hts _ (List.mem_of_getElem? (i := 4) rfl))⟩ hP hK [1, 2, 3, 4] rfl rfl rfl rfl rfl hl.1 rfl (Nat.le_of_ble_eq_true rfl) dX4_coat_5 ⟨Nat.le_refl _, Nat.le_refl _⟩) (fun r_1 q_2 => ?_)
  obtain rfl := q_2
  refine lv_if_ne (tgt := 13) hx hb dX4_coat_8 (by decide) (fun c_3 => ?_) (fun c_3 => ?_)
  · have c_3 := b2_t c_3
    refine lv_iload_n hx hb dX4_coat_13 rfl (lv_at hl 2 rfl) ?_
    refine k_ri (run_RS (As := [.int ws]) (rest := []) ⟨hx, hb, hml, hown, hts⟩ (c_X4_isWeeks l D cI cJ cO ws) (va_cwS 1 hts gX4_coat_X4_isWeeks rfl rfl rfl (by decide +kernel) ⟨Nat.le_of_ble_eq_true rfl, Nat.le_of_ble_eq_true rfl⟩) hP hK [] rfl rfl hl.1 rfl (Nat.le_of_ble_eq_true rfl) dX4_coat_14 ⟨Nat.le_refl _, Nat.le_refl _⟩) (fun r_4 q_5 => ?_)
    obtain rfl := q_5
    refine lv_if_eq (tgt := 32) hx hb dX4_coat_17 (by decide) (fun c_6 => ?_) (fun c_6 => ?_)
    · have c_6 := b2_f c_6
      refine lv_bipush (v := (-2)) hx hb dX4_coat_32 (by decide) ?_
      refine ri_ret (v := (-2)) hx hb hr hlk dX4_coat_34 ?_
      rw [coR, if_pos c_3, if_neg c_6] <;> rfl
    · have c_6 := b2_t c_6
      refine lv_aload_n hx hb dX4_coat_20 rfl (lv_at hl 0 rfl) ?_
      refine va_get (D := D) (ci := 4) (v := .ref (a 1)) (C := RX4) (T := TX4) (N := 6) hx hb hts hin4 hown hK.1 hP 0 rfl rfl 0 (by decide) (hts _ (List.mem_of_getElem? (i := 1) rfl)) (fun _ h9 => h9) rfl dX4_coat_21 ?_
      refine lv_iload_n hx hb dX4_coat_24 rfl (lv_at hl 1 rfl) ?_
      refine lv_iload_n hx hb dX4_coat_25 rfl (lv_at hl 2 rfl) ?_
      refine k_ri (run_RN (As := [.int c, .int ws]) (rest := []) ⟨hx, hb, hml, hown, hts⟩ (c_X0_inches l D cI cJ cO a h w pc br kd et nb c ws c.toNatClampNeg (inN.vp c_3 (by omega)) rfl) ⟨va_cnB 2 hts ggX4_coat_X0_inches rfl rfl rfl (nw_X4_119 hK) (hts _ (List.mem_of_getElem? (i := 3) rfl)) (by decide +kernel) ⟨Nat.le_of_ble_eq_true rfl, Nat.le_of_ble_eq_true rfl⟩, (hts _ (List.mem_of_getElem? (i := 16) rfl)), (hts _ (List.mem_of_getElem? (i := 17) rfl))⟩ hP hK [1, 2, 3, 4] rfl rfl rfl rfl rfl hl.1 rfl (Nat.le_of_ble_eq_true rfl) dX4_coat_26 ⟨Nat.le_refl _, Nat.le_refl _⟩) (fun r_7 q_8 => ?_)
      obtain rfl := q_8
      refine lv_goto (tgt := 34) hx hb dX4_coat_29 (by decide) ?_
      refine ri_ret (v := (cv (kd c.toNatClampNeg) pc (et c.toNatClampNeg) ws)) hx hb hr hlk dX4_coat_34 ?_
      rw [coR, if_pos c_3, if_pos c_6] <;> rfl
  · have c_3 := b2_f c_3
    refine lv_iconst (v := (-1)) hx hb dX4_coat_11 (by decide) ?_
    refine ri_ret (v := (-1)) hx hb hr hlk dX4_coat_12 ?_
    rw [coR, if_neg c_3] <;> rfl
theorem iwX4_ripe_X4 : ∀ x ∈ wsX40, x ∈ wsX4_ripe := by decide +kernel
set_option maxRecDepth 100000 in
set_option maxHeartbeats 4000000 in
/-- X4_ripe -/
theorem c_X4_ripe (l : Launch) (D : va_G) (cI cJ cO : ClassId) (a : Nat → Nat) (ft : Int32) (tr : Int32) (h : Nat) (w : Nat) (pc : Int32) (br : Int32) (kd : Nat → Int32) (et : Nat → Int32) (nb : Nat → Int32) (ws : Int32) (hn : h * w ≤ 16) (hh : h ≤ 4) : RG l yX4_ripe wsX4_ripe 4 89 D [(cI, .int), (cJ, .long), (cO, .object "ShornHill$Sheet")] [.ref (a 0), .int ws] [(a 0, .inr (4, [.ref (a 1), .ref (a 5), .ref (a 9), .ref (a 12), .int ft, .int tr])), (a 1, .inr (0, [.int (nI h), .int (nI w), .int pc, .int br, .ref (a 2), .ref (a 3), .ref (a 4)])), (a 2, .inl (cI, 16, .inl kd)), (a 3, .inl (cI, 16, .inl et)), (a 4, .inl (cI, 64, .inl nb))] (vp_Si (fun (r : Int32) => r = (riR h (h * w) pc br kd et ws))) := by
  refine RG.of (cc := cX4_ripe) (maxL := 2) (ret := (some .int)) (by decide) rfl (Nat.le_of_ble_eq_true rfl) ?_
  intro P_ E_ S_ M_ B_ T_ K_ hx hb hml hr hts hown hlk hP hK ls hl
  have hl : lv_has ls 2 [(0, .ref (a 0)), (1, .int ws)] := hl
  have hin4 : ∀ x ∈ u_ws RX4 TX4 6, x ∈ wsX4_ripe := iwX4_ripe_X4
  refine lv_aload_n hx hb dX4_ripe_0 rfl (lv_at hl 0 rfl) ?_
  refine va_get (D := D) (ci := 4) (v := .ref (a 1)) (C := RX4) (T := TX4) (N := 6) hx hb hts hin4 hown hK.1 hP 0 rfl rfl 0 (by decide) (hts _ (List.mem_of_getElem? (i := 1) rfl)) (fun _ h9 => h9) rfl dX4_ripe_1 ?_
  refine k_ri (run_RN (As := []) (rest := []) ⟨hx, hb, hml, hown, hts⟩ (c_X0_stands l D cI cJ cO a h w pc br kd et nb hh) ⟨va_cnB 0 hts ggX4_ripe_X0_stands rfl rfl rfl (nw_X4_106 hK) (hts _ (List.mem_of_getElem? (i := 3) rfl)) (by decide +kernel) ⟨Nat.le_of_ble_eq_true rfl, Nat.le_of_ble_eq_true rfl⟩, (hts _ (List.mem_of_getElem? (i := 2) rfl)), (hts _ (List.mem_of_getElem? (i := 4) rfl))⟩ hP hK [1, 2, 3, 4] rfl rfl rfl rfl rfl hl.1 rfl (Nat.le_of_ble_eq_true rfl) dX4_ripe_4 ⟨Nat.le_refl _, Nat.le_refl _⟩) (fun r_1 q_2 => ?_)
  obtain rfl := q_2
  refine lv_if_ne (tgt := 13) hx hb dX4_ripe_7 (by decide) (fun c_3 => ?_) (fun c_3 => ?_)
  · have c_3 := b2_t c_3
    have ch : ¬ h = 0 := by omega
    refine lv_iload_n hx hb dX4_ripe_13 rfl (lv_at hl 1 rfl) ?_
    refine k_ri (run_RS (As := [.int ws]) (rest := []) ⟨hx, hb, hml, hown, hts⟩ (c_X4_isWeeks l D cI cJ cO ws) (va_cwS 1 hts gX4_ripe_X4_isWeeks rfl rfl rfl (by decide +kernel) ⟨Nat.le_of_ble_eq_true rfl, Nat.le_of_ble_eq_true rfl⟩) hP hK [] rfl rfl hl.1 rfl (Nat.le_of_ble_eq_true rfl) dX4_ripe_14 ⟨Nat.le_refl _, Nat.le_refl _⟩) (fun r_4 q_5 => ?_)
    obtain rfl := q_5
    refine lv_if_eq (tgt := 31) hx hb dX4_ripe_17 (by decide) (fun c_6 => ?_) (fun c_6 => ?_)
    · have c_6 := b2_f c_6
      refine lv_bipush (v := (-2)) hx hb dX4_ripe_31 (by decide) ?_
      refine ri_ret (v := (-2)) hx hb hr hlk dX4_ripe_33 ?_
      rw [riR, if_neg ch, if_neg c_6] <;> rfl
    · have c_6 := b2_t c_6
      refine lv_aload_n hx hb dX4_ripe_20 rfl (lv_at hl 0 rfl) ?_
      refine va_get (D := D) (ci := 4) (v := .ref (a 1)) (C := RX4) (T := TX4) (N := 6) hx hb hts hin4 hown hK.1 hP 0 rfl rfl 0 (by decide) (hts _ (List.mem_of_getElem? (i := 1) rfl)) (fun _ h9 => h9) rfl dX4_ripe_21 ?_
      refine lv_iload_n hx hb dX4_ripe_24 rfl (lv_at hl 1 rfl) ?_
      refine k_ri (run_RN (As := [.int ws]) (rest := []) ⟨hx, hb, hml, hown, hts⟩ (c_X0_ripeCells l D cI cJ cO a h w pc br kd et nb ws hn) ⟨va_cnB 1 hts ggX4_ripe_X0_ripeCells rfl rfl rfl (nw_X4_123 hK) (hts _ (List.mem_of_getElem? (i := 3) rfl)) (by decide +kernel) ⟨Nat.le_of_ble_eq_true rfl, Nat.le_of_ble_eq_true rfl⟩, (hts _ (List.mem_of_getElem? (i := 11) rfl)), (hts _ (List.mem_of_getElem? (i := 12) rfl))⟩ hP hK [1, 2, 3, 4] rfl rfl rfl rfl rfl hl.1 rfl (Nat.le_of_ble_eq_true rfl) dX4_ripe_25 ⟨Nat.le_refl _, Nat.le_refl _⟩) (fun r_7 q_8 => ?_)
      obtain rfl := q_8
      refine lv_goto (tgt := 33) hx hb dX4_ripe_28 (by decide) ?_
      refine ri_ret (v := (ripS pc br kd et ws (h * w))) hx hb hr hlk dX4_ripe_33 ?_
      rw [riR, if_neg ch, if_pos c_6] <;> rfl
  · have c_3 := b2_f c_3
    have ch : h = 0 := by omega
    refine lv_bipush (v := (-3)) hx hb dX4_ripe_10 (by decide) ?_
    refine ri_ret (v := (-3)) hx hb hr hlk dX4_ripe_12 ?_
    rw [riR, if_pos ch] <;> rfl
theorem iwX4_reading_X1 : ∀ x ∈ wsX10, x ∈ wsX4_reading := by decide +kernel
theorem iwX4_reading_X4 : ∀ x ∈ wsX40, x ∈ wsX4_reading := by decide +kernel
set_option maxRecDepth 100000 in
set_option maxHeartbeats 4000000 in
/-- X4_reading -/
theorem c_X4_reading (l : Launch) (D : va_G) (cI cJ cO : ClassId) (a : Nat → Nat) (ft : Int32) (tr : Int32) (h : Nat) (w : Nat) (pc : Int32) (br : Int32) (kd : Nat → Int32) (et : Nat → Int32) (nb : Nat → Int32) (rc : Nat) (ro : Nat → Int32) (rb : Nat → Int32) (rv : Nat → Int32) (c : Int32) (ws : Int32) (v : Int32) (hn : h * w ≤ 16) (hrc : rc ≤ 8) : MG l yX4_reading wsX4_reading 3 62 0 0 D [(cI, .int), (cJ, .long), (cO, .object "ShornHill$Sheet")] [.ref (a 0), .int c, .int ws, .int v] [(a 0, .inr (4, [.ref (a 1), .ref (a 5), .ref (a 9), .ref (a 12), .int ft, .int tr])), (a 1, .inr (0, [.int (nI h), .int (nI w), .int pc, .int br, .ref (a 2), .ref (a 3), .ref (a 4)])), (a 2, .inl (cI, 16, .inl kd)), (a 3, .inl (cI, 16, .inl et)), (a 4, .inl (cI, 64, .inl nb)), (a 5, .inr (1, [.int (nI rc), .ref (a 6), .ref (a 7), .ref (a 8)])), (a 6, .inl (cI, 8, .inl ro)), (a 7, .inl (cI, 8, .inl rb)), (a 8, .inl (cI, 8, .inl rv))] (QI D (fun (r : Int32) (w1 : va_W) => r = (reR (h * w) kd rc c ws v) ∧ w1 = [(a 0, .inr (4, [.ref (a 1), .ref (a 5), .ref (a 9), .ref (a 12), .int ft, .int tr])), (a 1, .inr (0, [.int (nI h), .int (nI w), .int pc, .int br, .ref (a 2), .ref (a 3), .ref (a 4)])), (a 2, .inl (cI, 16, .inl kd)), (a 3, .inl (cI, 16, .inl et)), (a 4, .inl (cI, 64, .inl nb)), (a 5, .inr (1, [.int (nI (reC (h * w) kd rc c ws v)), .ref (a 6), .ref (a 7), .ref (a 8)])), (a 6, .inl (cI, 8, .inl (reA (h * w) kd rc c ws v ro c))), (a 7, .inl (cI, 8, .inl (reA (h * w) kd rc c ws v rb ws))), (a 8, .inl (cI, 8, .inl (reA (h * w) kd rc c ws v rv v)))])) := by
  refine MG.of (cc := cX4_reading) (maxL := 4) (ret := (some .int)) (by decide) rfl (Nat.le_of_ble_eq_true rfl) ?_
  intro P_ E_ S_ M_ B_ T_ K_ hx hb hml hr hts hown hlk hnm A hA hP hK hD hS ls hl
  have hl : lv_has ls 4 [(0, .ref (a 0)), (1, .int c), (2, .int ws), (3, .int v)] := hl
  have hin1 : ∀ x ∈ u_ws RX1 TX1 4, x ∈ wsX4_reading := iwX4_reading_X1
  have hin4 : ∀ x ∈ u_ws RX4 TX4 6, x ∈ wsX4_reading := iwX4_reading_X4
  refine lv_aload_n hx hb dX4_reading_0 rfl (lv_at hl 0 rfl) ?_
  refine va_get (D := D) (ci := 4) (v := .ref (a 1)) (C := RX4) (T := TX4) (N := 6) hx hb hts hin4 hown hK.1 hP 0 rfl rfl 0 (by decide) (hts _ (List.mem_of_getElem? (i := 1) rfl)) (fun _ h9 => h9) rfl dX4_reading_1 ?_
  refine lv_iload_n hx hb dX4_reading_4 rfl (lv_at hl 1 rfl) ?_
  refine k_ri (run_RN (As := [.int c]) (rest := []) ⟨hx, hb, hml, hown, hts⟩ (c_X0_isSoft l D cI cJ cO a h w pc br kd et nb c hn) ⟨va_cnB 1 hts ggX4_reading_X0_isSoft rfl rfl rfl (nw_X4_100 hK) (hts _ (List.mem_of_getElem? (i := 4) rfl)) (by decide +kernel) ⟨Nat.le_of_ble_eq_true rfl, Nat.le_of_ble_eq_true rfl⟩, (hts _ (List.mem_of_getElem? (i := 3) rfl)), (hts _ (List.mem_of_getElem? (i := 5) rfl))⟩ hP hK [1, 2, 3, 4] rfl rfl rfl rfl rfl hl.1 rfl (Nat.le_of_ble_eq_true rfl) dX4_reading_5 ⟨Nat.le_refl _, Nat.le_refl _⟩) (fun r_1 q_2 => ?_)
  obtain rfl := q_2
  refine lv_if_ne (tgt := 13) hx hb dX4_reading_8 (by decide) (fun c_3 => ?_) (fun c_3 => ?_)
  · have c_3 := b2_t c_3
    refine lv_iload_n hx hb dX4_reading_13 rfl (lv_at hl 2 rfl) ?_
    refine k_ri (run_RS (As := [.int ws]) (rest := []) ⟨hx, hb, hml, hown, hts⟩ (c_X4_isWeeks l D cI cJ cO ws) (va_cwS 1 hts gX4_reading_X4_isWeeks rfl rfl rfl (by decide +kernel) ⟨Nat.le_of_ble_eq_true rfl, Nat.le_of_ble_eq_true rfl⟩) hP hK [] rfl rfl hl.1 rfl (Nat.le_of_ble_eq_true rfl) dX4_reading_14 ⟨Nat.le_refl _, Nat.le_refl _⟩) (fun r_4 q_5 => ?_)
    obtain rfl := q_5
    refine lv_if_eq (tgt := 27) hx hb dX4_reading_17 (by decide) (fun c_6 => ?_) (fun c_6 => ?_)
    · have c_6 := b2_f c_6
      refine lv_bipush (v := (-2)) hx hb dX4_reading_27 (by decide) ?_
      refine mi_ret (v := (-2)) hx hb hr hlk hP hD hS dX4_reading_29 ?_
      rw [show reC (h * w) kd rc c ws v = _ from by rw [reC, if_neg (fun z => (fun z => (fun z => c_6 z.1) z.1) z.2)]]
      rw [show reA (h * w) kd rc c ws v ro c = _ from by rw [reA, if_neg (fun z => (fun z => (fun z => c_6 z.1) z.1) z.2)]]
      rw [show reA (h * w) kd rc c ws v rb ws = _ from by rw [reA, if_neg (fun z => (fun z => (fun z => c_6 z.1) z.1) z.2)]]
      rw [show reA (h * w) kd rc c ws v rv v = _ from by rw [reA, if_neg (fun z => (fun z => (fun z => c_6 z.1) z.1) z.2)]]
      refine ⟨?_, rfl⟩
      rw [reR, if_pos c_3, if_neg (fun z => c_6 z.1)] <;> rfl
    · have c_6 := b2_t c_6
      refine lv_iload_n hx hb dX4_reading_20 rfl (lv_at hl 3 rfl) ?_
      refine k_ri (run_RS (As := [.int v]) (rest := []) ⟨hx, hb, hml, hown, hts⟩ (c_X4_isInches l D cI cJ cO v) (va_cwS 1 hts gX4_reading_X4_isInches rfl rfl rfl (by decide +kernel) ⟨Nat.le_of_ble_eq_true rfl, Nat.le_of_ble_eq_true rfl⟩) hP hK [] rfl rfl hl.1 rfl (Nat.le_of_ble_eq_true rfl) dX4_reading_21 ⟨Nat.le_refl _, Nat.le_refl _⟩) (fun r_7 q_8 => ?_)
      obtain rfl := q_8
      refine lv_if_ne (tgt := 30) hx hb dX4_reading_24 (by decide) (fun c_9 => ?_) (fun c_9 => ?_)
      · have c_9 := b2_t c_9
        refine lv_aload_n hx hb dX4_reading_30 rfl (lv_at hl 0 rfl) ?_
        refine va_get (D := D) (ci := 4) (v := .ref (a 5)) (C := RX4) (T := TX4) (N := 6) hx hb hts hin4 hown hK.1 hP 0 rfl rfl 1 (by decide) (hts _ (List.mem_of_getElem? (i := 2) rfl)) (fun _ h9 => h9) rfl dX4_reading_31 ?_
        refine va_getN (D := D) (ci := 1) (v := .int (nI rc)) (C := RX1) (T := TX1) (N := 4) hx hb hts hin1 hown hK.1 hP 5 rfl rfl 0 (by decide) (va_Nw.use rfl (nw_X4_76 hK)) (fun _ h9 => h9) rfl dX4_reading_34 ?_
        refine lv_bipush (v := 8) hx hb dX4_reading_37 (by decide) ?_
        refine lv_icmp_ge (tgt := 55) hx hb dX4_reading_39 (by decide) (fun c_10 => ?_) (fun c_10 => ?_)
        · have c_10 : 8 ≤ rc := (nI_leI (a := 8) (b := rc) (by omega) (by omega)).mp c_10
          have cr : ¬ rc < 8 := by omega
          refine lv_bipush (v := (-4)) hx hb dX4_reading_55 (by decide) ?_
          refine mi_ret (v := (-4)) hx hb hr hlk hP hD hS dX4_reading_57 ?_
          rw [show reC (h * w) kd rc c ws v = _ from by rw [reC, if_neg (fun z => (fun z => cr z.2) z.2)]]
          rw [show reA (h * w) kd rc c ws v ro c = _ from by rw [reA, if_neg (fun z => (fun z => cr z.2) z.2)]]
          rw [show reA (h * w) kd rc c ws v rb ws = _ from by rw [reA, if_neg (fun z => (fun z => cr z.2) z.2)]]
          rw [show reA (h * w) kd rc c ws v rv v = _ from by rw [reA, if_neg (fun z => (fun z => cr z.2) z.2)]]
          refine ⟨?_, rfl⟩
          rw [reR, if_pos c_3, if_pos ⟨c_6, c_9⟩, if_neg cr] <;> rfl
        · have c_10 : rc < 8 := Nat.lt_of_not_le (fun z => c_10 ((nI_leI (a := 8) (b := rc) (by omega) (by omega)).mpr z))
          have cr : rc < 8 := by omega
          refine lv_aload_n hx hb dX4_reading_42 rfl (lv_at hl 0 rfl) ?_
          refine va_get (D := D) (ci := 4) (v := .ref (a 5)) (C := RX4) (T := TX4) (N := 6) hx hb hts hin4 hown hK.1 hP 0 rfl rfl 1 (by decide) (hts _ (List.mem_of_getElem? (i := 2) rfl)) (fun _ h9 => h9) rfl dX4_reading_43 ?_
          refine lv_iload_n hx hb dX4_reading_46 rfl (lv_at hl 1 rfl) ?_
          refine lv_iload_n hx hb dX4_reading_47 rfl (lv_at hl 2 rfl) ?_
          refine lv_iload_n hx hb dX4_reading_48 rfl (lv_at hl 3 rfl) ?_
          refine k_mi (wr := [(a 0, .inr (4, [.ref (a 1), .ref (a 5), .ref (a 9), .ref (a 12), .int ft, .int tr])), (a 1, .inr (0, [.int (nI h), .int (nI w), .int pc, .int br, .ref (a 2), .ref (a 3), .ref (a 4)])), (a 2, .inl (cI, 16, .inl kd)), (a 3, .inl (cI, 16, .inl et)), (a 4, .inl (cI, 64, .inl nb))]) [5, 6, 7, 8] [0, 1, 2, 3, 4] (run_MN (As := [.int c, .int ws, .int v]) (rest := []) ⟨hx, hb, hml, hown, hts⟩ (c_X1_add l D cI cJ cO a rc ro rb rv c ws v cr) ⟨va_cnB 3 hts ggX4_reading_X1_add rfl rfl rfl (nw_X4_161 hK) (hts _ (List.mem_of_getElem? (i := 26) rfl)) (by decide +kernel) ⟨Nat.le_of_ble_eq_true rfl, Nat.le_of_ble_eq_true rfl⟩, (hts _ (List.mem_of_getElem? (i := 25) rfl)), (hts _ (List.mem_of_getElem? (i := 27) rfl))⟩ hP hK hD [5, 6, 7, 8] (by decide) rfl rfl rfl rfl rfl hl.1 rfl (Nat.le_of_ble_eq_true rfl) dX4_reading_49 ⟨Nat.le_refl _, Nat.le_refl _⟩) hP hD hS hA rfl rfl (by decide) (by decide) (fun r_11 w_13 H locs q_12 hP hD hS => ?_)
          obtain ⟨rfl, rfl⟩ := q_12
          have hP : va_P D vwCl [(a 0, .inr (4, [.ref (a 1), .ref (a 5), .ref (a 9), .ref (a 12), .int ft, .int tr])), (a 1, .inr (0, [.int (nI h), .int (nI w), .int pc, .int br, .ref (a 2), .ref (a 3), .ref (a 4)])), (a 2, .inl (cI, 16, .inl kd)), (a 3, .inl (cI, 16, .inl et)), (a 4, .inl (cI, 64, .inl nb)), (a 5, .inr (1, [.int (nI (rc + 1)), .ref (a 6), .ref (a 7), .ref (a 8)])), (a 6, .inl (cI, 8, .inl (upd ro rc c))), (a 7, .inl (cI, 8, .inl (upd rb rc ws))), (a 8, .inl (cI, 8, .inl (upd rv rc v)))] H := hP.sub [0, 1, 2, 3, 4, 5, 6, 7, 8] rfl
          have hD : va_D A [(a 0, .inr (4, [.ref (a 1), .ref (a 5), .ref (a 9), .ref (a 12), .int ft, .int tr])), (a 1, .inr (0, [.int (nI h), .int (nI w), .int pc, .int br, .ref (a 2), .ref (a 3), .ref (a 4)])), (a 2, .inl (cI, 16, .inl kd)), (a 3, .inl (cI, 16, .inl et)), (a 4, .inl (cI, 64, .inl nb)), (a 5, .inr (1, [.int (nI (rc + 1)), .ref (a 6), .ref (a 7), .ref (a 8)])), (a 6, .inl (cI, 8, .inl (upd ro rc c))), (a 7, .inl (cI, 8, .inl (upd rb rc ws))), (a 8, .inl (cI, 8, .inl (upd rv rc v)))] := hD.sub [0, 1, 2, 3, 4, 5, 6, 7, 8] (by decide) rfl
          refine lv_goto (tgt := 57) hx hb dX4_reading_52 (by decide) ?_
          refine mi_ret (v := (nI rc)) hx hb hr hlk hP hD hS dX4_reading_57 ?_
          rw [show reC (h * w) kd rc c ws v = _ from by rw [reC, if_pos ⟨c_3, ⟨⟨c_6, c_9⟩, cr⟩⟩]]
          rw [show reA (h * w) kd rc c ws v ro c = _ from by rw [reA, if_pos ⟨c_3, ⟨⟨c_6, c_9⟩, cr⟩⟩]]
          rw [show reA (h * w) kd rc c ws v rb ws = _ from by rw [reA, if_pos ⟨c_3, ⟨⟨c_6, c_9⟩, cr⟩⟩]]
          rw [show reA (h * w) kd rc c ws v rv v = _ from by rw [reA, if_pos ⟨c_3, ⟨⟨c_6, c_9⟩, cr⟩⟩]]
          refine ⟨?_, rfl⟩
          rw [reR, if_pos c_3, if_pos ⟨c_6, c_9⟩, if_pos cr] <;> rfl
      · have c_9 := b2_f c_9
        refine lv_bipush (v := (-2)) hx hb dX4_reading_27 (by decide) ?_
        refine mi_ret (v := (-2)) hx hb hr hlk hP hD hS dX4_reading_29 ?_
        rw [show reC (h * w) kd rc c ws v = _ from by rw [reC, if_neg (fun z => (fun z => (fun z => c_9 z.2) z.1) z.2)]]
        rw [show reA (h * w) kd rc c ws v ro c = _ from by rw [reA, if_neg (fun z => (fun z => (fun z => c_9 z.2) z.1) z.2)]]
        rw [show reA (h * w) kd rc c ws v rb ws = _ from by rw [reA, if_neg (fun z => (fun z => (fun z => c_9 z.2) z.1) z.2)]]
        rw [show reA (h * w) kd rc c ws v rv v = _ from by rw [reA, if_neg (fun z => (fun z => (fun z => c_9 z.2) z.1) z.2)]]
        refine ⟨?_, rfl⟩
        rw [reR, if_pos c_3, if_neg (fun z => c_9 z.2)] <;> rfl
  · have c_3 := b2_f c_3
    refine lv_iconst (v := (-1)) hx hb dX4_reading_11 (by decide) ?_
    refine mi_ret (v := (-1)) hx hb hr hlk hP hD hS dX4_reading_12 ?_
    rw [show reC (h * w) kd rc c ws v = _ from by rw [reC, if_neg (fun z => c_3 z.1)]]
    rw [show reA (h * w) kd rc c ws v ro c = _ from by rw [reA, if_neg (fun z => c_3 z.1)]]
    rw [show reA (h * w) kd rc c ws v rb ws = _ from by rw [reA, if_neg (fun z => c_3 z.1)]]
    rw [show reA (h * w) kd rc c ws v rv v = _ from by rw [reA, if_neg (fun z => c_3 z.1)]]
    refine ⟨?_, rfl⟩
    rw [reR, if_neg c_3] <;> rfl
theorem iwX4_back_X1 : ∀ x ∈ wsX10, x ∈ wsX4_back := by decide +kernel
theorem iwX4_back_X4 : ∀ x ∈ wsX40, x ∈ wsX4_back := by decide +kernel
set_option maxRecDepth 100000 in
set_option maxHeartbeats 4000000 in
/-- X4_back -/
theorem c_X4_back (l : Launch) (D : va_G) (cI cJ cO : ClassId) (a : Nat → Nat) (ft : Int32) (tr : Int32) (rc : Nat) (ro : Nat → Int32) (rb : Nat → Int32) (rv : Nat → Int32) (v : Int32) (hrc : rc ≤ 8) : MG l yX4_back wsX4_back 0 0 0 0 D [(cI, .int), (cJ, .long), (cO, .object "ShornHill$Sheet")] [.ref (a 0), .int v] [(a 0, .inr (4, [.ref (a 1), .ref (a 5), .ref (a 9), .ref (a 12), .int ft, .int tr])), (a 5, .inr (1, [.int (nI rc), .ref (a 6), .ref (a 7), .ref (a 8)])), (a 6, .inl (cI, 8, .inl ro)), (a 7, .inl (cI, 8, .inl rb)), (a 8, .inl (cI, 8, .inl rv))] (QI D (fun (r : Int32) (w1 : va_W) => r = (baR rc v) ∧ w1 = [(a 0, .inr (4, [.ref (a 1), .ref (a 5), .ref (a 9), .ref (a 12), .int ft, .int tr])), (a 5, .inr (1, [.int (nI (baC rc v)), .ref (a 6), .ref (a 7), .ref (a 8)])), (a 6, .inl (cI, 8, .inl ro)), (a 7, .inl (cI, 8, .inl rb)), (a 8, .inl (cI, 8, .inl rv))])) := by
  refine MG.of (cc := cX4_back) (maxL := 2) (ret := (some .int)) (by decide) rfl (Nat.le_of_ble_eq_true rfl) ?_
  intro P_ E_ S_ M_ B_ T_ K_ hx hb hml hr hts hown hlk hnm A hA hP hK hD hS ls hl
  have hl : lv_has ls 2 [(0, .ref (a 0)), (1, .int v)] := hl
  have hin1 : ∀ x ∈ u_ws RX1 TX1 4, x ∈ wsX4_back := iwX4_back_X1
  have hin4 : ∀ x ∈ u_ws RX4 TX4 6, x ∈ wsX4_back := iwX4_back_X4
  refine lv_iload_n hx hb dX4_back_0 rfl (lv_at hl 1 rfl) ?_
  refine lv_if_lt (tgt := 15) hx hb dX4_back_1 (by decide) (fun c_1 => ?_) (fun c_1 => ?_)
  · have ck : ¬ inN v (rc + 1) := by simp only [inN, softP, btw, inS, ripP, Int32.lt_iff_toInt_lt, Int32.le_iff_toInt_le, ← Int32.toInt_inj, ti_0, ti_1, ti_2, ti_3, ti_4, ti_8, ti_9, ti_10, ti_14, ti_15, ti_20, ti_60, ti_m1, nI_toInt (show rc < 2 ^ 31 by omega)] at c_1 ⊢; omega
    refine lv_bipush (v := (-2)) hx hb dX4_back_15 (by decide) ?_
    refine mi_ret (v := (-2)) hx hb hr hlk hP hD hS dX4_back_17 ?_
    rw [show baC rc v = _ from by rw [baC, if_neg ck]]
    refine ⟨?_, rfl⟩
    rw [baR, if_neg ck] <;> rfl
  · refine lv_iload_n hx hb dX4_back_4 rfl (lv_at hl 1 rfl) ?_
    refine lv_aload_n hx hb dX4_back_5 rfl (lv_at hl 0 rfl) ?_
    refine va_get (D := D) (ci := 4) (v := .ref (a 5)) (C := RX4) (T := TX4) (N := 6) hx hb hts hin4 hown hK.1 hP 0 rfl rfl 1 (by decide) (hts _ (List.mem_of_getElem? (i := 1) rfl)) (fun _ h9 => h9) rfl dX4_back_6 ?_
    refine va_getN (D := D) (ci := 1) (v := .int (nI rc)) (C := RX1) (T := TX1) (N := 4) hx hb hts hin1 hown hK.1 hP 1 rfl rfl 0 (by decide) (va_Nw.use rfl (nw_X4_76 hK)) (fun _ h9 => h9) rfl dX4_back_9 ?_
    refine lv_icmp_le (tgt := 18) hx hb dX4_back_12 (by decide) (fun c_2 => ?_) (fun c_2 => ?_)
    · have ck : inN v (rc + 1) := by simp only [inN, softP, btw, inS, ripP, Int32.lt_iff_toInt_lt, Int32.le_iff_toInt_le, ← Int32.toInt_inj, ti_0, ti_1, ti_2, ti_3, ti_4, ti_8, ti_9, ti_10, ti_14, ti_15, ti_20, ti_60, ti_m1, nI_toInt (show rc < 2 ^ 31 by omega)] at c_1 c_2 ⊢; omega
      refine lv_aload_n hx hb dX4_back_18 rfl (lv_at hl 0 rfl) ?_
      refine va_get (D := D) (ci := 4) (v := .ref (a 5)) (C := RX4) (T := TX4) (N := 6) hx hb hts hin4 hown hK.1 hP 0 rfl rfl 1 (by decide) (hts _ (List.mem_of_getElem? (i := 1) rfl)) (fun _ h9 => h9) rfl dX4_back_19 ?_
      refine lv_dup hx hb dX4_back_22 rfl ?_
      refine va_getN (D := D) (ci := 1) (v := .int (nI rc)) (C := RX1) (T := TX1) (N := 4) hx hb hts hin1 hown hK.1 hP 1 rfl rfl 0 (by decide) (va_Nw.use rfl (nw_X4_76 hK)) (fun _ h9 => h9) rfl dX4_back_23 ?_
      refine lv_iload_n hx hb dX4_back_26 rfl (lv_at hl 1 rfl) ?_
      refine lv_isub hx hb dX4_back_27 ?_
      refine k_top (y := (nI (rc - v.toNatClampNeg))) (by have e := ck.eq; have l1 := ck.lt; generalize v.toNatClampNeg = z at e l1 ⊢; rw [e]; exact pk_sub (by omega)) ?_
      refine va_putN (D := D) (ci := 1) (v := .int (nI (rc - v.toNatClampNeg))) (ty := .int) (C := RX1) (T := TX1) (N := 4) hx hb hts hin1 tyX1 tyX1_ok nmX1 hown hK.1 hP hD hS 1 rfl rfl 0 (by decide) (va_Nw.use rfl (nw_X4_76 hK)) (fun _ h9 => h9) rfl (by decide +kernel) rfl rfl (Nat.le_of_ble_eq_true rfl) dX4_back_28 (fun H locs hP hD hS => ?_)
      have hP : va_P D vwCl [(a 0, .inr (4, [.ref (a 1), .ref (a 5), .ref (a 9), .ref (a 12), .int ft, .int tr])), (a 5, .inr (1, [.int (nI (rc - v.toNatClampNeg)), .ref (a 6), .ref (a 7), .ref (a 8)])), (a 6, .inl (cI, 8, .inl ro)), (a 7, .inl (cI, 8, .inl rb)), (a 8, .inl (cI, 8, .inl rv))] H := hP
      have hD : va_D A [(a 0, .inr (4, [.ref (a 1), .ref (a 5), .ref (a 9), .ref (a 12), .int ft, .int tr])), (a 5, .inr (1, [.int (nI (rc - v.toNatClampNeg)), .ref (a 6), .ref (a 7), .ref (a 8)])), (a 6, .inl (cI, 8, .inl ro)), (a 7, .inl (cI, 8, .inl rb)), (a 8, .inl (cI, 8, .inl rv))] := hD
      refine lv_aload_n hx hb dX4_back_31 rfl (lv_at hl 0 rfl) ?_
      refine va_get (D := D) (ci := 4) (v := .ref (a 5)) (C := RX4) (T := TX4) (N := 6) hx hb hts hin4 hown hK.1 hP 0 rfl rfl 1 (by decide) (hts _ (List.mem_of_getElem? (i := 1) rfl)) (fun _ h9 => h9) rfl dX4_back_32 ?_
      refine va_getN (D := D) (ci := 1) (v := .int (nI (rc - v.toNatClampNeg))) (C := RX1) (T := TX1) (N := 4) hx hb hts hin1 hown hK.1 hP 1 rfl rfl 0 (by decide) (va_Nw.use rfl (nw_X4_76 hK)) (fun _ h9 => h9) rfl dX4_back_35 ?_
      refine mi_ret (v := (nI (rc - v.toNatClampNeg))) hx hb hr hlk hP hD hS dX4_back_38 ?_
      rw [show baC rc v = _ from by rw [baC, if_pos ck]]
      refine ⟨?_, rfl⟩
      rw [baR, if_pos ck] <;> rfl
    · have ck : ¬ inN v (rc + 1) := by simp only [inN, softP, btw, inS, ripP, Int32.lt_iff_toInt_lt, Int32.le_iff_toInt_le, ← Int32.toInt_inj, ti_0, ti_1, ti_2, ti_3, ti_4, ti_8, ti_9, ti_10, ti_14, ti_15, ti_20, ti_60, ti_m1, nI_toInt (show rc < 2 ^ 31 by omega)] at c_1 c_2 ⊢; omega
      refine lv_bipush (v := (-2)) hx hb dX4_back_15 (by decide) ?_
      refine mi_ret (v := (-2)) hx hb hr hlk hP hD hS dX4_back_17 ?_
      rw [show baC rc v = _ from by rw [baC, if_neg ck]]
      refine ⟨?_, rfl⟩
      rw [baR, if_neg ck] <;> rfl
end
