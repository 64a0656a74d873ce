section
-- ===== PART A: goes FIRST, ahead of the names: the tables' words, and 'selects' of the private methods out of them =====
/-- a private method of a class that the tables say can be made, by its rows of tables_1 -/
def lw_okq (q : MethodName × Nat) : Prop := (q.1.cls ≠ "java/lang/invoke/MethodHandle" ∧ q.1.cls ≠ "java/lang/invoke/VarHandle") ∧ Cond.instantiable q.1.cls q.2 ∈ tables_1 ∧ Cond.privateMethod q.1 ∈ tables_1 ∧ Cond.instanceMethod q.1 ∈ tables_1
theorem lw_p0 : lw_okq (⟨"RoofDrains", "spiltIfCleaned", "(I)I"⟩, 4) := ⟨⟨by decide +kernel, by decide +kernel⟩, List.mem_of_getElem? (i := 16) (by decide +kernel), List.mem_of_getElem? (i := 170) (by decide +kernel), List.mem_of_getElem? (i := 171) (by decide +kernel)⟩
theorem lw_p1 : lw_okq (⟨"RoofDrains$Roof", "wetPlane", "(II)V"⟩, 16) := ⟨⟨by decide +kernel, by decide +kernel⟩, List.mem_of_getElem? (i := 24) (by decide +kernel), List.mem_of_getElem? (i := 197) (by decide +kernel), List.mem_of_getElem? (i := 198) (by decide +kernel)⟩
theorem lw_p2 : lw_okq (⟨"RoofDrains$Roof", "emptyIntoDrain", "()V"⟩, 16) := ⟨⟨by decide +kernel, by decide +kernel⟩, List.mem_of_getElem? (i := 24) (by decide +kernel), List.mem_of_getElem? (i := 204) (by decide +kernel), List.mem_of_getElem? (i := 205) (by decide +kernel)⟩
theorem lw_p3 : lw_okq (⟨"RoofDrains$Roof", "pipeTakes", "(I)I"⟩, 16) := ⟨⟨by decide +kernel, by decide +kernel⟩, List.mem_of_getElem? (i := 24) (by decide +kernel), List.mem_of_getElem? (i := 208) (by decide +kernel), List.mem_of_getElem? (i := 209) (by decide +kernel)⟩
theorem lw_p4 : lw_okq (⟨"RoofDrains$Roof", "overflow", "(I)V"⟩, 16) := ⟨⟨by decide +kernel, by decide +kernel⟩, List.mem_of_getElem? (i := 24) (by decide +kernel), List.mem_of_getElem? (i := 215) (by decide +kernel), List.mem_of_getElem? (i := 216) (by decide +kernel)⟩
theorem lw_p5 : lw_okq (⟨"RoofDrains$Roof", "room", "(I)I"⟩, 16) := ⟨⟨by decide +kernel, by decide +kernel⟩, List.mem_of_getElem? (i := 24) (by decide +kernel), List.mem_of_getElem? (i := 219) (by decide +kernel), List.mem_of_getElem? (i := 220) (by decide +kernel)⟩
theorem lw_p6 : lw_okq (⟨"RoofDrains", "hashOfCounts", "(J)J"⟩, 4) := ⟨⟨by decide +kernel, by decide +kernel⟩, List.mem_of_getElem? (i := 16) (by decide +kernel), List.mem_of_getElem? (i := 256) (by decide +kernel), List.mem_of_getElem? (i := 257) (by decide +kernel)⟩
theorem lw_p7 : lw_okq (⟨"java/lang/Throwable", "fillInStackTrace", "(I)Ljava/lang/Throwable;"⟩, 6) := ⟨⟨by decide +kernel, by decide +kernel⟩, List.mem_of_getElem? (i := 322) (by decide +kernel), List.mem_of_getElem? (i := 320) (by decide +kernel), List.mem_of_getElem? (i := 321) (by decide +kernel)⟩
theorem lw_p8 : lw_okq (⟨"RoofDrains", "hashOfRoof", "(J)J"⟩, 4) := ⟨⟨by decide +kernel, by decide +kernel⟩, List.mem_of_getElem? (i := 16) (by decide +kernel), List.mem_of_getElem? (i := 356) (by decide +kernel), List.mem_of_getElem? (i := 357) (by decide +kernel)⟩
theorem lw_p9 : lw_okq (⟨"RoofDrains", "wouldSpill", "(II)Z"⟩, 4) := ⟨⟨by decide +kernel, by decide +kernel⟩, List.mem_of_getElem? (i := 16) (by decide +kernel), List.mem_of_getElem? (i := 389) (by decide +kernel), List.mem_of_getElem? (i := 390) (by decide +kernel)⟩
theorem lw_p10 : lw_okq (⟨"RoofDrains", "hashOfText", "(J)J"⟩, 4) := ⟨⟨by decide +kernel, by decide +kernel⟩, List.mem_of_getElem? (i := 16) (by decide +kernel), List.mem_of_getElem? (i := 402) (by decide +kernel), List.mem_of_getElem? (i := 403) (by decide +kernel)⟩
theorem lw_p11 : lw_okq (⟨"RoofDrainsModel", "fails", "(I)I"⟩, 12) := ⟨⟨by decide +kernel, by decide +kernel⟩, List.mem_of_getElem? (i := 635) (by decide +kernel), List.mem_of_getElem? (i := 692) (by decide +kernel), List.mem_of_getElem? (i := 693) (by decide +kernel)⟩
theorem lw_p12 : lw_okq (⟨"RoofDrainsModel", "saves", "()V"⟩, 12) := ⟨⟨by decide +kernel, by decide +kernel⟩, List.mem_of_getElem? (i := 635) (by decide +kernel), List.mem_of_getElem? (i := 696) (by decide +kernel), List.mem_of_getElem? (i := 697) (by decide +kernel)⟩
theorem lw_p13 : lw_okq (⟨"RoofDrainsModel", "ofPlane", "(II)I"⟩, 12) := ⟨⟨by decide +kernel, by decide +kernel⟩, List.mem_of_getElem? (i := 635) (by decide +kernel), List.mem_of_getElem? (i := 700) (by decide +kernel), List.mem_of_getElem? (i := 701) (by decide +kernel)⟩
theorem lw_p14 : lw_okq (⟨"RoofDrainsModel", "of", "(II)I"⟩, 12) := ⟨⟨by decide +kernel, by decide +kernel⟩, List.mem_of_getElem? (i := 635) (by decide +kernel), List.mem_of_getElem? (i := 708) (by decide +kernel), List.mem_of_getElem? (i := 709) (by decide +kernel)⟩
theorem lw_p15 : lw_okq (⟨"RoofDrainsModel", "leads", "(II)Z"⟩, 12) := ⟨⟨by decide +kernel, by decide +kernel⟩, List.mem_of_getElem? (i := 635) (by decide +kernel), List.mem_of_getElem? (i := 716) (by decide +kernel), List.mem_of_getElem? (i := 717) (by decide +kernel)⟩
def lw_privs_1 : List (MethodName × Nat) := [(⟨"RoofDrains", "spiltIfCleaned", "(I)I"⟩, 4), (⟨"RoofDrains$Roof", "wetPlane", "(II)V"⟩, 16), (⟨"RoofDrains$Roof", "emptyIntoDrain", "()V"⟩, 16), (⟨"RoofDrains$Roof", "pipeTakes", "(I)I"⟩, 16), (⟨"RoofDrains$Roof", "overflow", "(I)V"⟩, 16), (⟨"RoofDrains$Roof", "room", "(I)I"⟩, 16), (⟨"RoofDrains", "hashOfCounts", "(J)J"⟩, 4), (⟨"java/lang/Throwable", "fillInStackTrace", "(I)Ljava/lang/Throwable;"⟩, 6), (⟨"RoofDrains", "hashOfRoof", "(J)J"⟩, 4), (⟨"RoofDrains", "wouldSpill", "(II)Z"⟩, 4), (⟨"RoofDrains", "hashOfText", "(J)J"⟩, 4), (⟨"RoofDrainsModel", "fails", "(I)I"⟩, 12), (⟨"RoofDrainsModel", "saves", "()V"⟩, 12), (⟨"RoofDrainsModel", "ofPlane", "(II)I"⟩, 12), (⟨"RoofDrainsModel", "of", "(II)I"⟩, 12), (⟨"RoofDrainsModel", "leads", "(II)Z"⟩, 12)]
theorem lw_r1 : ∀ q ∈ lw_privs_1, lw_okq q := List.forall_mem_cons.mpr ⟨lw_p0, List.forall_mem_cons.mpr ⟨lw_p1, List.forall_mem_cons.mpr ⟨lw_p2, List.forall_mem_cons.mpr ⟨lw_p3, List.forall_mem_cons.mpr ⟨lw_p4, List.forall_mem_cons.mpr ⟨lw_p5, List.forall_mem_cons.mpr ⟨lw_p6, List.forall_mem_cons.mpr ⟨lw_p7, List.forall_mem_cons.mpr ⟨lw_p8, List.forall_mem_cons.mpr ⟨lw_p9, List.forall_mem_cons.mpr ⟨lw_p10, List.forall_mem_cons.mpr ⟨lw_p11, List.forall_mem_cons.mpr ⟨lw_p12, List.forall_mem_cons.mpr ⟨lw_p13, List.forall_mem_cons.mpr ⟨lw_p14, List.forall_mem_cons.mpr ⟨lw_p15, fun _ h => absurd h List.not_mem_nil⟩⟩⟩⟩⟩⟩⟩⟩⟩⟩⟩⟩⟩⟩⟩⟩
theorem lw_p16 : lw_okq (⟨"RoofDrainsModel", "rains", "(II)I"⟩, 12) := ⟨⟨by decide +kernel, by decide +kernel⟩, List.mem_of_getElem? (i := 635) (by decide +kernel), List.mem_of_getElem? (i := 732) (by decide +kernel), List.mem_of_getElem? (i := 733) (by decide +kernel)⟩
theorem lw_p17 : lw_okq (⟨"RoofDrainsModel", "minute", "(I)V"⟩, 12) := ⟨⟨by decide +kernel, by decide +kernel⟩, List.mem_of_getElem? (i := 635) (by decide +kernel), List.mem_of_getElem? (i := 736) (by decide +kernel), List.mem_of_getElem? (i := 737) (by decide +kernel)⟩
theorem lw_p18 : lw_okq (⟨"RoofDrainsModel", "sends", "(II)V"⟩, 12) := ⟨⟨by decide +kernel, by decide +kernel⟩, List.mem_of_getElem? (i := 635) (by decide +kernel), List.mem_of_getElem? (i := 740) (by decide +kernel), List.mem_of_getElem? (i := 741) (by decide +kernel)⟩
theorem lw_p19 : lw_okq (⟨"RoofDrainsModel", "adds", "(III)V"⟩, 12) := ⟨⟨by decide +kernel, by decide +kernel⟩, List.mem_of_getElem? (i := 635) (by decide +kernel), List.mem_of_getElem? (i := 744) (by decide +kernel), List.mem_of_getElem? (i := 745) (by decide +kernel)⟩
theorem lw_p20 : lw_okq (⟨"RoofDrainsModel", "drains", "()Z"⟩, 12) := ⟨⟨by decide +kernel, by decide +kernel⟩, List.mem_of_getElem? (i := 635) (by decide +kernel), List.mem_of_getElem? (i := 748) (by decide +kernel), List.mem_of_getElem? (i := 749) (by decide +kernel)⟩
theorem lw_p21 : lw_okq (⟨"RoofDrainsModel", "takes", "(I)I"⟩, 12) := ⟨⟨by decide +kernel, by decide +kernel⟩, List.mem_of_getElem? (i := 635) (by decide +kernel), List.mem_of_getElem? (i := 752) (by decide +kernel), List.mem_of_getElem? (i := 753) (by decide +kernel)⟩
theorem lw_p22 : lw_okq (⟨"RoofDrainsModel", "flowsOver", "(I)V"⟩, 12) := ⟨⟨by decide +kernel, by decide +kernel⟩, List.mem_of_getElem? (i := 635) (by decide +kernel), List.mem_of_getElem? (i := 756) (by decide +kernel), List.mem_of_getElem? (i := 757) (by decide +kernel)⟩
theorem lw_p23 : lw_okq (⟨"RoofDrainsModel", "room", "(I)I"⟩, 12) := ⟨⟨by decide +kernel, by decide +kernel⟩, List.mem_of_getElem? (i := 635) (by decide +kernel), List.mem_of_getElem? (i := 760) (by decide +kernel), List.mem_of_getElem? (i := 761) (by decide +kernel)⟩
theorem lw_p24 : lw_okq (⟨"RoofDrainsModel", "week", "()V"⟩, 12) := ⟨⟨by decide +kernel, by decide +kernel⟩, List.mem_of_getElem? (i := 635) (by decide +kernel), List.mem_of_getElem? (i := 768) (by decide +kernel), List.mem_of_getElem? (i := 769) (by decide +kernel)⟩
theorem lw_p25 : lw_okq (⟨"RoofDrainsModel", "leaves", "()I"⟩, 12) := ⟨⟨by decide +kernel, by decide +kernel⟩, List.mem_of_getElem? (i := 635) (by decide +kernel), List.mem_of_getElem? (i := 772) (by decide +kernel), List.mem_of_getElem? (i := 773) (by decide +kernel)⟩
theorem lw_p26 : lw_okq (⟨"RoofDrainsModel", "readsAll", "()V"⟩, 12) := ⟨⟨by decide +kernel, by decide +kernel⟩, List.mem_of_getElem? (i := 635) (by decide +kernel), List.mem_of_getElem? (i := 788) (by decide +kernel), List.mem_of_getElem? (i := 789) (by decide +kernel)⟩
theorem lw_p27 : lw_okq (⟨"RoofDrainsModel", "readsPart", "()V"⟩, 12) := ⟨⟨by decide +kernel, by decide +kernel⟩, List.mem_of_getElem? (i := 635) (by decide +kernel), List.mem_of_getElem? (i := 792) (by decide +kernel), List.mem_of_getElem? (i := 793) (by decide +kernel)⟩
theorem lw_p28 : lw_okq (⟨"RoofDrainsModel", "sign", "()I"⟩, 12) := ⟨⟨by decide +kernel, by decide +kernel⟩, List.mem_of_getElem? (i := 635) (by decide +kernel), List.mem_of_getElem? (i := 796) (by decide +kernel), List.mem_of_getElem? (i := 797) (by decide +kernel)⟩
theorem lw_p29 : lw_okq (⟨"RoofDrainsModel", "digit", "(II)I"⟩, 12) := ⟨⟨by decide +kernel, by decide +kernel⟩, List.mem_of_getElem? (i := 635) (by decide +kernel), List.mem_of_getElem? (i := 800) (by decide +kernel), List.mem_of_getElem? (i := 801) (by decide +kernel)⟩
theorem lw_p30 : lw_okq (⟨"RoofDrainsModel", "number", "(II)I"⟩, 12) := ⟨⟨by decide +kernel, by decide +kernel⟩, List.mem_of_getElem? (i := 635) (by decide +kernel), List.mem_of_getElem? (i := 804) (by decide +kernel), List.mem_of_getElem? (i := 805) (by decide +kernel)⟩
theorem lw_p31 : lw_okq (⟨"RoofDrainsModel", "tellsGutter", "(II)I"⟩, 12) := ⟨⟨by decide +kernel, by decide +kernel⟩, List.mem_of_getElem? (i := 635) (by decide +kernel), List.mem_of_getElem? (i := 824) (by decide +kernel), List.mem_of_getElem? (i := 825) (by decide +kernel)⟩
def lw_privs_2 : List (MethodName × Nat) := [(⟨"RoofDrainsModel", "rains", "(II)I"⟩, 12), (⟨"RoofDrainsModel", "minute", "(I)V"⟩, 12), (⟨"RoofDrainsModel", "sends", "(II)V"⟩, 12), (⟨"RoofDrainsModel", "adds", "(III)V"⟩, 12), (⟨"RoofDrainsModel", "drains", "()Z"⟩, 12), (⟨"RoofDrainsModel", "takes", "(I)I"⟩, 12), (⟨"RoofDrainsModel", "flowsOver", "(I)V"⟩, 12), (⟨"RoofDrainsModel", "room", "(I)I"⟩, 12), (⟨"RoofDrainsModel", "week", "()V"⟩, 12), (⟨"RoofDrainsModel", "leaves", "()I"⟩, 12), (⟨"RoofDrainsModel", "readsAll", "()V"⟩, 12), (⟨"RoofDrainsModel", "readsPart", "()V"⟩, 12), (⟨"RoofDrainsModel", "sign", "()I"⟩, 12), (⟨"RoofDrainsModel", "digit", "(II)I"⟩, 12), (⟨"RoofDrainsModel", "number", "(II)I"⟩, 12), (⟨"RoofDrainsModel", "tellsGutter", "(II)I"⟩, 12)]
theorem lw_r2 : ∀ q ∈ lw_privs_2, lw_okq q := List.forall_mem_cons.mpr ⟨lw_p16, List.forall_mem_cons.mpr ⟨lw_p17, List.forall_mem_cons.mpr ⟨lw_p18, List.forall_mem_cons.mpr ⟨lw_p19, List.forall_mem_cons.mpr ⟨lw_p20, List.forall_mem_cons.mpr ⟨lw_p21, List.forall_mem_cons.mpr ⟨lw_p22, List.forall_mem_cons.mpr ⟨lw_p23, List.forall_mem_cons.mpr ⟨lw_p24, List.forall_mem_cons.mpr ⟨lw_p25, List.forall_mem_cons.mpr ⟨lw_p26, List.forall_mem_cons.mpr ⟨lw_p27, List.forall_mem_cons.mpr ⟨lw_p28, List.forall_mem_cons.mpr ⟨lw_p29, List.forall_mem_cons.mpr ⟨lw_p30, List.forall_mem_cons.mpr ⟨lw_p31, fun _ h => absurd h List.not_mem_nil⟩⟩⟩⟩⟩⟩⟩⟩⟩⟩⟩⟩⟩⟩⟩⟩
theorem lw_p32 : lw_okq (⟨"RoofDrainsModel", "counts", "(I)I"⟩, 12) := ⟨⟨by decide +kernel, by decide +kernel⟩, List.mem_of_getElem? (i := 635) (by decide +kernel), List.mem_of_getElem? (i := 832) (by decide +kernel), List.mem_of_getElem? (i := 833) (by decide +kernel)⟩
theorem lw_p33 : lw_okq (⟨"RoofDrainsModel", "stands", "()I"⟩, 12) := ⟨⟨by decide +kernel, by decide +kernel⟩, List.mem_of_getElem? (i := 635) (by decide +kernel), List.mem_of_getElem? (i := 836) (by decide +kernel), List.mem_of_getElem? (i := 837) (by decide +kernel)⟩
theorem lw_p34 : lw_okq (⟨"RoofDrainsModel", "would", "(II)I"⟩, 12) := ⟨⟨by decide +kernel, by decide +kernel⟩, List.mem_of_getElem? (i := 635) (by decide +kernel), List.mem_of_getElem? (i := 848) (by decide +kernel), List.mem_of_getElem? (i := 849) (by decide +kernel)⟩
theorem lw_p35 : lw_okq (⟨"RoofDrainsModel", "putAside", "()V"⟩, 12) := ⟨⟨by decide +kernel, by decide +kernel⟩, List.mem_of_getElem? (i := 635) (by decide +kernel), List.mem_of_getElem? (i := 852) (by decide +kernel), List.mem_of_getElem? (i := 853) (by decide +kernel)⟩
theorem lw_p36 : lw_okq (⟨"RoofDrainsModel", "takeBack", "()V"⟩, 12) := ⟨⟨by decide +kernel, by decide +kernel⟩, List.mem_of_getElem? (i := 635) (by decide +kernel), List.mem_of_getElem? (i := 856) (by decide +kernel), List.mem_of_getElem? (i := 857) (by decide +kernel)⟩
theorem lw_p37 : lw_okq (⟨"RoofDrainsModel", "firstSpill", "(I)I"⟩, 12) := ⟨⟨by decide +kernel, by decide +kernel⟩, List.mem_of_getElem? (i := 635) (by decide +kernel), List.mem_of_getElem? (i := 864) (by decide +kernel), List.mem_of_getElem? (i := 865) (by decide +kernel)⟩
theorem lw_p38 : lw_okq (⟨"RoofDrainsModel", "bestOne", "()I"⟩, 12) := ⟨⟨by decide +kernel, by decide +kernel⟩, List.mem_of_getElem? (i := 635) (by decide +kernel), List.mem_of_getElem? (i := 872) (by decide +kernel), List.mem_of_getElem? (i := 873) (by decide +kernel)⟩
theorem lw_p39 : lw_okq (⟨"RoofDrainsModel", "greatestRain", "(I)I"⟩, 12) := ⟨⟨by decide +kernel, by decide +kernel⟩, List.mem_of_getElem? (i := 635) (by decide +kernel), List.mem_of_getElem? (i := 880) (by decide +kernel), List.mem_of_getElem? (i := 881) (by decide +kernel)⟩
theorem lw_p40 : lw_okq (⟨"RoofDrainsModel", "untilDry", "()I"⟩, 12) := ⟨⟨by decide +kernel, by decide +kernel⟩, List.mem_of_getElem? (i := 635) (by decide +kernel), List.mem_of_getElem? (i := 888) (by decide +kernel), List.mem_of_getElem? (i := 889) (by decide +kernel)⟩
theorem lw_p41 : lw_okq (⟨"RoofDrainsModel", "share", "()D"⟩, 12) := ⟨⟨by decide +kernel, by decide +kernel⟩, List.mem_of_getElem? (i := 635) (by decide +kernel), List.mem_of_getElem? (i := 896) (by decide +kernel), List.mem_of_getElem? (i := 897) (by decide +kernel)⟩
theorem lw_p42 : lw_okq (⟨"RoofDrainsModel", "hashes", "(J)V"⟩, 12) := ⟨⟨by decide +kernel, by decide +kernel⟩, List.mem_of_getElem? (i := 635) (by decide +kernel), List.mem_of_getElem? (i := 905) (by decide +kernel), List.mem_of_getElem? (i := 906) (by decide +kernel)⟩
def lw_privs_3 : List (MethodName × Nat) := [(⟨"RoofDrainsModel", "counts", "(I)I"⟩, 12), (⟨"RoofDrainsModel", "stands", "()I"⟩, 12), (⟨"RoofDrainsModel", "would", "(II)I"⟩, 12), (⟨"RoofDrainsModel", "putAside", "()V"⟩, 12), (⟨"RoofDrainsModel", "takeBack", "()V"⟩, 12), (⟨"RoofDrainsModel", "firstSpill", "(I)I"⟩, 12), (⟨"RoofDrainsModel", "bestOne", "()I"⟩, 12), (⟨"RoofDrainsModel", "greatestRain", "(I)I"⟩, 12), (⟨"RoofDrainsModel", "untilDry", "()I"⟩, 12), (⟨"RoofDrainsModel", "share", "()D"⟩, 12), (⟨"RoofDrainsModel", "hashes", "(J)V"⟩, 12)]
theorem lw_r3 : ∀ q ∈ lw_privs_3, lw_okq q := List.forall_mem_cons.mpr ⟨lw_p32, List.forall_mem_cons.mpr ⟨lw_p33, List.forall_mem_cons.mpr ⟨lw_p34, List.forall_mem_cons.mpr ⟨lw_p35, List.forall_mem_cons.mpr ⟨lw_p36, List.forall_mem_cons.mpr ⟨lw_p37, List.forall_mem_cons.mpr ⟨lw_p38, List.forall_mem_cons.mpr ⟨lw_p39, List.forall_mem_cons.mpr ⟨lw_p40, List.forall_mem_cons.mpr ⟨lw_p41, List.forall_mem_cons.mpr ⟨lw_p42, fun _ h => absurd h List.not_mem_nil⟩⟩⟩⟩⟩⟩⟩⟩⟩⟩⟩
def lw_privs : List (MethodName × Nat) := lw_privs_1 ++ (lw_privs_2 ++ (lw_privs_3))
def lw_tbl : List Cond := k2_sels lw_privs ++ tables_1
theorem lw_privs_ok : ∀ q ∈ lw_privs, lw_okq q := by
  show ∀ q ∈ lw_privs_1 ++ (lw_privs_2 ++ (lw_privs_3)), lw_okq q
  exact List.forall_mem_append.mpr ⟨lw_r1, List.forall_mem_append.mpr ⟨lw_r2, lw_r3⟩⟩
/-- the streams that the claim lets the run draw from -/
abbrev lw_cs : List Choice := [Jvm.Choice.named "NaN.bits"]
theorem lw_bits : nanBits ∈ lw_cs := by first | decide | exact List.mem_cons_self | simp [lw_cs, nanBits]
-- ===== end of PART A; then your names; then what follows =====
end
section
/-! ===== BEGIN words of one list among another's, by their places ===== -/
theorem goodIn_r {big : List Cond} (ws : List Cond) (ps : List Nat) (hp : ws = ps.filterMap (fun i => big[i]?)) (h : ws.all goodWord = true) : GoodIn big ws := by
  intro w hw
  have h1 := List.all_eq_true.mp h w hw
  rw [hp] at hw
  obtain ⟨i, -, hi⟩ := List.mem_filterMap.mp hw
  have hm : w ∈ big := by first | exact List.mem_of_getElem? hi | exact List.getElem?_mem hi
  exact ⟨hm, good_of_word h1⟩
theorem goodIn_app {big a b : List Cond} (ha : GoodIn big a) (hb : GoodIn big b) : GoodIn big (a ++ b) := fun w h => (List.mem_append.mp h).elim (ha w) (hb w)
theorem goodIn_ca {big a b : List Cond} {c : Cond} (ha : GoodIn big (c :: a)) (hb : GoodIn big b) : GoodIn big (c :: (a ++ b)) := fun w h => (List.mem_cons.mp h).elim (fun e => ha w (List.mem_cons.mpr (Or.inl e))) (fun h => (List.mem_append.mp h).elim (fun h => ha w (List.mem_cons.mpr (Or.inr h))) (hb w))
theorem goodIn_sub {big ws : List Cond} (hm : ∀ w ∈ ws, w ∈ big) (h : ws.all goodWord = true) : GoodIn big ws := fun w hw => ⟨hm w hw, good_of_word (List.all_eq_true.mp h w hw)⟩
/-! ===== END ===== -/

/-! ===== BEGIN exceptions that leave a method, and their catching by the caller (launches without stack traces) ===== -/
section VXA
/-! The laws vx_back, vx_callV, vx_callS, vx_callSW, vx_throw0, vx_throwS follow proofs of the library, with one case more: JvmDerived/Free/Laws.lean (Back.of_free), Shelf42/LK1.lean (callV, callS), Shelf/KitTraced.lean (throwNew0V, throwNewS). -/
/-- where a method has thrown q: the class by its name, the cell, what was written, the world -/
def vx_T (XC : String → State → State → Prop) (st : State) (q : Addr) (t : State) (mc ms : Nat) (free : Addr → Prop) : Prop :=
  ∃ (E : String) (ce : Cell) (L : List Loc), XC E st t ∧ t.heap[q]? = some ce ∧ ce.vm = .none ∧ st.vm.findClass E = some ce.cls ∧ st.WarmedH t.vm ∧ st.sameButNew ({ t with vm := st.vm } : State) L mc ms ∧ ∀ z ∈ L, free z.base
def vx_Q (Qc : Array Value → State → Outcome → State → Prop) (XC : String → State → State → Prop) (mc ms : Nat) (free : Addr → Prop) : Array Value → State → Outcome → State → Prop := fun a st o t =>
  (Qc a st o t ∧ ∃ L, FrameEnd st o t L mc ms ∧ ∀ q ∈ L, free q.base) ∨ ∃ q, o = .threw q ∧ vx_T XC st q t mc ms free
/-- a callee that returns or throws -/
def vx_Met (l : Launch) (y : MethodName) (ws : List Cond) (rm : Room) (Pc : Array Value → State → Prop) (Qc : Array Value → State → Outcome → State → Prop) (XC : String → State → State → Prop) (mc ms : Nat) (free : Addr → Prop) : Prop :=
  MetFree l y (headSpec ws rm) Pc (fun _ _ _ _ _ => True) (vx_Q Qc XC mc ms free)
def vx_Post (XC : String → State → State → Prop) (mc ms : Nat) (free : Addr → Prop) : Pt → Array Value → Addr → Pt → Prop := fun A a q B =>
  ∃ (g : JFrame) (mk : MethodId) (t : State) (L : List Loc) (E : String) (ce : Cell), B.U.heap = t.heap ∧ B.U.vm = t.vm ∧ XC E (A.U.calling g mk a) t ∧ t.heap[q]? = some ce ∧ ce.vm = .none ∧ A.U.vm.findClass E = some ce.cls ∧ B.locs = A.locs ++ L ∧ (∀ z ∈ L, free z.base) ∧ B.cells = A.cells + mc ∧ B.slots = A.slots + ms
def vx_Back (l : Launch) (R : Room) (p : Program) (e : Env) (below : List Frame) (s : State) (sargs : Array Value) (y : MethodName) (len W9 : Nat)
    (Pre : Pt → Array Value → Prop) (Post : Pt → Array Value → Option Value → Pt → Prop) (PostX : Pt → Array Value → Addr → Pt → Prop) : Prop :=
  ∀ (m : MethodId) (meth : Method) (c : Code) (A : Pt) (g : JFrame) (ig : Instr) (mk : MethodId) (a : Array Value),
    Stand p l e R s m sargs below meth c A.U A.locs A.cells A.slots → g.method = m → g.locals.size = c.maxLocals → decode c.code g.pc = .ok (ig, len) →
    2 * g.monitorRoom + (g.stack.map fun v => v.category).sum ≤ W9 → A.U.methodNamed? y = some mk → Pre A a →
    (∃ (v : Option Value) (B : Pt), Stand p l e R s m sargs below meth c B.U B.locs B.cells B.slots ∧ Post A a v B ∧
      Steps p.tables e below (doInvoke e (A.U.setTop g) [] mk a).1 (B.U.setTop { g with pc := g.pc + len, stack := v.toList ++ g.stack })) ∨
    (∃ (q : Addr) (B : Pt), Stand p l e R s m sargs below meth c B.U B.locs B.cells B.slots ∧ PostX A a q B ∧
      Steps p.tables e below (doInvoke e (A.U.setTop g) [] mk a).1 ((B.U.setTop g).pushFrame (.throwing q)))
section Payer
variable {l : Launch} {R : Room} {p : Program} {e : Env} {below : List Frame} {s : State} {sargs : Array Value} {y : MethodName} {len W9 : Nat}
theorem vx_back {ws : List Cond} {rm : Room} {Pc : Array Value → State → Prop} {Qc : Array Value → State → Outcome → State → Prop} {XC : String → State → State → Prop} {mc ms : Nat} {free : Addr → Prop} {bytes : ByteArray} {maxL : Nat} {ret : Option FieldType}
    (hM : vx_Met l y ws rm Pc Qc XC mc ms free) (hblind : FrameBlind Pc) (hrc : rm.cells = mc) (hrs : rm.slots = ms)
    (hframes : rm.frames + 1 ≤ R.frames) (hlocals : W9 + (maxL + 11) + rm.locals ≤ R.locals)
    (hws : ∀ w ∈ ws, ∀ a' U, s.WarmedH U.vm → w.before a' U = true) (hcode : Cond.code y bytes maxL ret ∈ ws) (hinit : ∀ a' U, s.WarmedH U.vm → (Cond.initialized y.cls).before a' U = true) :
    vx_Back l R p e below s sargs y len W9 (PreOf R mc ms Pc) (PostOf Qc mc ms free) (vx_Post XC mc ms free) := by
  intro m meth c A g ig mk a X hg hsize hdg hW hn hp
  have h1 : (headSpec ws rm).pre.before a A.U = true := atoms_intro fun w hw => hws w hw _ _ X.warmed
  have h2 : (Cond.code y bytes maxL ret).before a A.U = true := hws _ hcode _ _ X.warmed
  have h3 : (Cond.initialized y.cls).before a A.U = true := hinit _ _ X.warmed
  have h4 : A.cells + (headSpec ws rm).room.cells ≤ R.cells := by rw [show (headSpec ws rm).room.cells = mc from hrc]; exact hp.1
  have h5 : A.slots + (headSpec ws rm).room.slots ≤ R.slots := by rw [show (headSpec ws rm).room.slots = ms from hrs]; exact hp.2.1
  have hPc : Pc a (A.U.calling g mk a) := hblind _ _ _ _ hp.2.2
  obtain ⟨U, Ls, c0, s0⟩ := A
  dsimp only [Pt.U, Pt.locs, Pt.cells, Pt.slots] at h1 h2 h3 h4 h5 X hn hPc ⊢
  obtain ⟨methY, cY, hmY, hcY, -, hlY, -, -, -, -⟩ := Cond.code_spec hn h2
  obtain ⟨kY, hkY, -⟩ := className_of_methodNamed hn
  have hinitY : kY.init = .initialized := Cond.initialized_spec (findClass_of_methodNamed hn) hkY h3
  have h : At U g.method c below := by rw [hg]; exact X.here
  have hlocals9 : W9 + (maxL + 11) + (headSpec ws rm).room.locals ≤ R.locals := hlocals
  have happ : (headSpec ws rm).appliesLoose y e.platform (U.calling g mk a) = true :=
    Spec.appliesLoose_calling (g := g) h hdg hn hkY hinitY
      (X.room_calling (g := g) (R' := (headSpec ws rm).room) hsize hmY hcY hframes (by rw [hlY]; omega) h4 h5) h1
  obtain ⟨mid, hmid⟩ := h.above
  have hfr : (U.setTop g).frames = (.java g :: mid) ++ below := by rw [State.frames_setTop' g h.top, hmid]; rfl
  obtain ⟨o, s₂, hsteps, -, hend, hq⟩ := Steps.callFree hM p X.admits X.cas X.clock (acts := []) hfr happ hPc trivial
  have hq' : vx_Q Qc XC mc ms free a (U.calling g mk a) o s₂ := hq
  rw [State.frames_setTop' g h.top] at hend
  obtain ⟨g₀, hg0⟩ := Option.isSome_iff_exists.mp h.top
  obtain ⟨r, hr⟩ := State.topJava?_eq_some.mp hg0
  have hr' : (({ U with heap := s₂.heap, slotsUsed := s₂.slotsUsed } : State).setVm s₂.vm).frames = .java g₀ :: r := hr
  rcases hq' with ⟨hqc, L, hfe, hL⟩ | ⟨q, rfl, E, ce, L, hx, hce, hcv, hcl, hW₂, hsm, hL⟩
  · obtain ⟨⟨v, rfl⟩, hW₂, e2, q2, q3, q4, q5, q6⟩ := id hfe
    have e3 : s₂ = ({ (U.calling g mk a).setFrames s₂.frames with heap := s₂.heap, slotsUsed := s₂.slotsUsed } : State).setVm s₂.vm := by
      have : s₂ = ({ s₂ with vm := (U.calling g mk a).vm } : State).setVm s₂.vm := rfl
      rw [e2] at this
      exact this
    obtain ⟨c₂, i₂, len₂, hc₂, hd₂, hf₂⟩ := hend
    have hW' : U.WarmedH s₂.vm := hW₂
    have hcc : c₂ = c := by
      have h1 : s₂.code? g.method = U.code? g.method := by
        rw [State.code?_eq, State.code?_eq, hW'.alike.method?]
      exact Option.some.inj (hc₂.symm.trans (h1.trans h.code))
    subst hcc
    have hlen : len₂ = len := by rw [hdg] at hd₂; cases hd₂; rfl
    subst hlen
    have hs₂ : s₂ = (({ U with heap := s₂.heap, slotsUsed := s₂.slotsUsed } : State).setVm s₂.vm).setTop { g with pc := g.pc + len₂, stack := v.toList ++ g.stack } := by
      refine e3.trans ?_
      rw [hf₂, State.calling_eq h.top, State.setFrames_setFrames, State.setTop_of_frames _ hr', hr]
      rfl
    have hsame : U.sameButNew ({ U with heap := s₂.heap, slotsUsed := s₂.slotsUsed } : State) L mc ms := by
      refine ⟨?_, q2, q3, q4, q5, q6⟩
      obtain ⟨t, ht, -⟩ := State.frames_cons hr
      show ({ U with heap := s₂.heap, slotsUsed := s₂.slotsUsed } : State) = { U.setFrames U.frames with heap := s₂.heap, slotsUsed := s₂.slotsUsed }
      rw [State.setFrames_self ht]
    subst hg
    refine Or.inl ⟨v, ⟨(({ U with heap := s₂.heap, slotsUsed := s₂.slotsUsed } : State).setVm s₂.vm), Ls ++ L, c0 + mc, s0 + ms⟩,
      ⟨X.admits, X.cas, X.clock, X.frames, X.room, X.hears, X.method, X.code, (X.here.setHeapUsed s₂.heap s₂.slotsUsed).setVm hW'.alike, X.tail, State.WarmedH.trans X.warmed hW', X.limits, X.bytes, X.same.trans (hsame.setVm s.vm)⟩,
      ⟨g, mk, s₂, L, rfl, rfl, hqc, rfl, hL, rfl, rfl⟩, ?_⟩
    show Steps p.tables e below _ ((({ U with heap := s₂.heap, slotsUsed := s₂.slotsUsed } : State).setVm s₂.vm).setTop { g with pc := g.pc + len₂, stack := v.toList ++ g.stack })
    rw [← hs₂]
    exact hsteps
  · obtain ⟨e2, q2, q3, q4, q5, q6⟩ := id hsm
    have e3 : s₂ = ({ (U.calling g mk a).setFrames s₂.frames with heap := s₂.heap, slotsUsed := s₂.slotsUsed } : State).setVm s₂.vm := by
      have : s₂ = ({ s₂ with vm := (U.calling g mk a).vm } : State).setVm s₂.vm := rfl
      rw [e2] at this
      exact this
    have hf₂ : s₂.frames = .throwing q :: .java g :: U.frames.tail := hend
    have hW' : U.WarmedH s₂.vm := hW₂
    have hs₂ : s₂ = ((({ U with heap := s₂.heap, slotsUsed := s₂.slotsUsed } : State).setVm s₂.vm).setTop g).pushFrame (.throwing q) := by
      refine e3.trans ?_
      rw [hf₂, State.calling_eq h.top, State.setFrames_setFrames, State.pushFrame, State.frames_setTop _ hr', State.setTop_of_frames _ hr', State.setFrames_setFrames, hr]
      rfl
    have hsame : U.sameButNew ({ U with heap := s₂.heap, slotsUsed := s₂.slotsUsed } : State) L mc ms := by
      refine ⟨?_, q2, q3, q4, q5, q6⟩
      obtain ⟨t, ht, -⟩ := State.frames_cons hr
      show ({ U with heap := s₂.heap, slotsUsed := s₂.slotsUsed } : State) = { U.setFrames U.frames with heap := s₂.heap, slotsUsed := s₂.slotsUsed }
      rw [State.setFrames_self ht]
    subst hg
    refine Or.inr ⟨q, ⟨(({ U with heap := s₂.heap, slotsUsed := s₂.slotsUsed } : State).setVm s₂.vm), Ls ++ L, c0 + mc, s0 + ms⟩,
      ⟨X.admits, X.cas, X.clock, X.frames, X.room, X.hears, X.method, X.code, (X.here.setHeapUsed s₂.heap s₂.slotsUsed).setVm hW'.alike, X.tail, State.WarmedH.trans X.warmed hW', X.limits, X.bytes, X.same.trans (hsame.setVm s.vm)⟩,
      ⟨g, mk, s₂, L, E, ce, rfl, rfl, hx, hce, hcv, hcl, rfl, hL, rfl, rfl⟩, ?_⟩
    show Steps p.tables e below _ (((({ U with heap := s₂.heap, slotsUsed := s₂.slotsUsed } : State).setVm s₂.vm).setTop g).pushFrame (.throwing q))
    rw [← hs₂]
    exact hsteps
end Payer
section Calls
variable {p : Program} {l : Launch} {e : Env} {R : Room} {s : State} {m : MethodId} {args : Array Value} {below : List Frame} {meth : Method} {c : Code} {T : State} {locs : List Loc} {cells slots : Nat}
theorem vx_callV (X : Stand p l e R s m args below meth c T locs cells slots) (hexec : p.tables.exec = Jvm.exec) {own C : String} {index : Nat} {y : MethodName} {bytes : ByteArray} {maxL : Nat} {ret : Option FieldType}
    (hown : s.vm.findClass own = some m.cls) (hlink : (Cond.methodLink own index y).before args s = true) (hinst : (Cond.instanceMethod y).before args s = true) (hsel : (Cond.selects C y y).before args s = true)
    (hcode : (Cond.code y bytes maxL ret).before args s = true) (hy : y.cls ≠ "java/lang/invoke/MethodHandle" ∧ y.cls ≠ "java/lang/invoke/VarHandle")
    {W9 : Nat} {Pre : Pt → Array Value → Prop} {Post : Pt → Array Value → Option Value → Pt → Prop} {PostX : Pt → Array Value → Addr → Pt → Prop} (hK : vx_Back l R p e below s args y 3 W9 Pre Post PostX)
    {b : Addr} {cellB : Cell} (hcell : T.heap[b]? = some cellB) (hobj : cellB.vm.isStatics = false) (hcls : s.vm.findClass C = some cellB.cls)
    {g : JFrame} (hg : g.method = m) (hsize : g.locals.size = c.maxLocals) {argsL rest : List Value} (hlen : ∀ sig, parseMethodDescriptor y.desc = some sig → argsL.length = sig.parameters.length)
    (hstack : g.stack = argsL.reverse ++ .ref b :: rest) (hW : 2 * g.monitorRoom + (rest.map fun v => v.category).sum ≤ W9) (hdg : decode c.code g.pc = .ok (.invokevirtual index, 3))
    (hpre : ∀ vm₁, s.WarmedH vm₁ → Pre ⟨T.setVm vm₁, locs, cells, slots⟩ (Value.ref b :: argsL).toArray) :
    (∃ (v : Option Value) (vm₁ : Vm) (B : Pt), s.WarmedH vm₁ ∧ Stand p l e R s m args below meth c B.U B.locs B.cells B.slots ∧ Post ⟨T.setVm vm₁, locs, cells, slots⟩ (Value.ref b :: argsL).toArray v B ∧
      ∀ target, Steps p.tables e below (B.U.setTop { g with pc := g.pc + 3, stack := v.toList ++ rest }) target → Steps p.tables e below (T.setTop g) target) ∨
    (∃ (q : Addr) (vm₁ : Vm) (B : Pt), s.WarmedH vm₁ ∧ Stand p l e R s m args below meth c B.U B.locs B.cells B.slots ∧ PostX ⟨T.setVm vm₁, locs, cells, slots⟩ (Value.ref b :: argsL).toArray q B ∧
      Steps p.tables e below (T.setTop g) ((B.U.setTop { g with stack := rest }).pushFrame (.throwing q))) := by
  obtain ⟨mk, methM, hnamed, hmethM, hstM, habM⟩ := Cond.instanceMethod_spec hinst
  obtain ⟨methM', cM, hmethM', -, -, -, -, -, -, hsigM⟩ := Cond.code_spec hnamed hcode
  cases hmethM.symm.trans hmethM'
  obtain ⟨c2, r2, m2, q1, q2, q3, q4, kP, hkP, hkPi⟩ := Cond.selects_spec hsel
  cases hcls.symm.trans q1
  cases (State.methodFound?_of_named hnamed hy).symm.trans q2
  cases hnamed.symm.trans q3
  have hselP : selectMethod e.platform s.vm cellB.cls mk = .method mk := by rw [Launch.admits_selectMethod X.admits]; exact q4
  obtain ⟨vm₁, X₁, hstep₁⟩ := X.invokevirtual hexec hown hlink hnamed hmethM hstM hkP hkPi hy (a := b) (cell := cellB) hcell
    (fun z h => by rw [h] at hobj; cases hobj) hselP hmethM habM hkP hkPi (g := g) hg (argsL := argsL) (rest := rest) (hlen _ hsigM) hstack hdg
  rcases hK m meth c ⟨T.setVm vm₁, locs, cells, slots⟩ { g with stack := rest } (.invokevirtual index) mk (Value.ref b :: argsL).toArray X₁ hg hsize hdg hW (X₁.named hnamed) (hpre vm₁ X₁.warmed) with ⟨v, B, X', hpost, hsteps⟩ | ⟨q, B, X', hpost, hsteps⟩
  · exact Or.inl ⟨v, vm₁, B, X₁.warmed, X', hpost, fun target h => hstep₁ _ fun acts => by rw [doInvoke_state]; exact hsteps.trans h⟩
  · exact Or.inr ⟨q, vm₁, B, X₁.warmed, X', hpost, hstep₁ _ fun acts => by rw [doInvoke_state]; exact hsteps⟩
theorem vx_callS (X : Stand p l e R s m args below meth c T locs cells slots) (hexec : p.tables.exec = Jvm.exec) {own : String} {index : Nat} {y : MethodName} {bytes : ByteArray} {maxL : Nat} {ret : Option FieldType}
    (hown : s.vm.findClass own = some m.cls) (hlink : (Cond.methodLink own index y).before args s = true) (hstat : (Cond.static y).before args s = true) (hinit : (Cond.initialized y.cls).before args s = true)
    (hcode : (Cond.code y bytes maxL ret).before args s = true) (hy : y.cls ≠ "java/lang/invoke/MethodHandle" ∧ y.cls ≠ "java/lang/invoke/VarHandle")
    {W9 : Nat} {Pre : Pt → Array Value → Prop} {Post : Pt → Array Value → Option Value → Pt → Prop} {PostX : Pt → Array Value → Addr → Pt → Prop} (hK : vx_Back l R p e below s args y 3 W9 Pre Post PostX)
    {g : JFrame} (hg : g.method = m) (hsize : g.locals.size = c.maxLocals) {argsL rest : List Value} (hlen : ∀ sig, parseMethodDescriptor y.desc = some sig → argsL.length = sig.parameters.length)
    (hstack : g.stack = argsL.reverse ++ rest) (hW : 2 * g.monitorRoom + (rest.map fun v => v.category).sum ≤ W9) (hdg : decode c.code g.pc = .ok (.invokestatic index, 3))
    (hpre : ∀ vm₁, s.WarmedH vm₁ → Pre ⟨T.setVm vm₁, locs, cells, slots⟩ argsL.toArray) :
    (∃ (v : Option Value) (vm₁ : Vm) (B : Pt), s.WarmedH vm₁ ∧ Stand p l e R s m args below meth c B.U B.locs B.cells B.slots ∧ Post ⟨T.setVm vm₁, locs, cells, slots⟩ argsL.toArray v B ∧
      ∀ target, Steps p.tables e below (B.U.setTop { g with pc := g.pc + 3, stack := v.toList ++ rest }) target → Steps p.tables e below (T.setTop g) target) ∨
    (∃ (q : Addr) (vm₁ : Vm) (B : Pt), s.WarmedH vm₁ ∧ Stand p l e R s m args below meth c B.U B.locs B.cells B.slots ∧ PostX ⟨T.setVm vm₁, locs, cells, slots⟩ argsL.toArray q B ∧
      Steps p.tables e below (T.setTop g) ((B.U.setTop { g with stack := rest }).pushFrame (.throwing q))) := by
  obtain ⟨mk, hnamed⟩ := Cond.code_named hcode
  obtain ⟨methM, cM, hmethM, -, -, -, -, -, -, hsigM⟩ := Cond.code_spec hnamed hcode
  have hstatic : methM.isStatic = true := Cond.static_spec hnamed hmethM hstat
  obtain ⟨kP, hkP, -⟩ := className_of_methodNamed hnamed
  have hinitP : kP.init = .initialized := Cond.initialized_spec (findClass_of_methodNamed hnamed) hkP hinit
  obtain ⟨vm₁, X₁, hstep₁⟩ := X.invokestatic hexec hown hlink hnamed hmethM hstatic hkP hinitP hy (g := g) hg (argsL := argsL) (rest := rest) (hlen _ hsigM) hstack hdg
  rcases hK m meth c ⟨T.setVm vm₁, locs, cells, slots⟩ { g with stack := rest } (.invokestatic index) mk argsL.toArray X₁ hg hsize hdg hW (X₁.named hnamed) (hpre vm₁ X₁.warmed) with ⟨v, B, X', hpost, hsteps⟩ | ⟨q, B, X', hpost, hsteps⟩
  · exact Or.inl ⟨v, vm₁, B, X₁.warmed, X', hpost, fun target h => hstep₁ _ fun acts => by rw [doInvoke_state]; exact hsteps.trans h⟩
  · exact Or.inr ⟨q, vm₁, B, X₁.warmed, X', hpost, hstep₁ _ fun acts => by rw [doInvoke_state]; exact hsteps⟩
end Calls
theorem vx_cls {s : State} {T : State} {vm₁ : Vm} {E : String} {k : ClassId} (hW : s.WarmedH vm₁) (h : (T.setVm vm₁).vm.findClass E = some k) : s.vm.findClass E = some k := by
  have h1 : vm₁.findClass E = some k := h
  rw [hW.alike.findClass] at h1
  exact h1
/-- the method's frame g, with q thrown over it -/
def vx_W (p : Program) (l : Launch) (e : Env) (R : Room) (s : State) (m : MethodId) (args : Array Value) (below : List Frame) (meth : Method) (c : Code) (H : Heap) (locs : List Loc) (cells slots : Nat) (Q : State → Prop) (g : JFrame) (q : Addr) : Prop :=
  ∀ T : State, T.heap = H → Stand p l e R s m args below meth c T locs cells slots → ∃ t, Steps p.tables e below ((T.setTop g).pushFrame (.throwing q)) t ∧ Q t
def vx_Run (p : Program) (l : Launch) (e : Env) (R : Room) (s : State) (m : MethodId) (args : Array Value) (below : List Frame) (meth : Method) (c : Code) (H : Heap) (locs : List Loc) (cells slots mc ms : Nat) (g : JFrame) (rest : List Value) (Qa : State → Outcome → State → Prop) (XC : String → State → State → Prop) (free : Addr → Prop) : Prop :=
  ∀ T : State, T.heap = H → Stand p l e R s m args below meth c T locs cells slots →
    (∃ (v : Option Value) (st₀ t T' : State) (L : List Loc), st₀.heap = H ∧ Stand p l e R s m args below meth c T' (locs ++ L) (cells + mc) (slots + ms) ∧ (∀ q ∈ L, free q.base) ∧ T'.heap = t.heap ∧ T'.vm = t.vm ∧ Qa st₀ (.returned v) t ∧
      Goes p e below T g T' { g with pc := g.pc + 3, stack := v.toList ++ rest }) ∨
    (∃ (q : Addr) (st₀ t T' : State) (L : List Loc) (E : String) (ce : Cell), st₀.heap = H ∧ Stand p l e R s m args below meth c T' (locs ++ L) (cells + mc) (slots + ms) ∧ (∀ z ∈ L, free z.base) ∧ T'.heap = t.heap ∧ T'.vm = t.vm ∧ XC E st₀ t ∧ t.heap[q]? = some ce ∧ ce.vm = .none ∧ s.vm.findClass E = some ce.cls ∧
      Steps p.tables e below (T.setTop g) ((T'.setTop { g with stack := rest }).pushFrame (.throwing q)))
def vx_X {S : Type} (px : S → Prop) (B : String → S → State → Prop) (A : Nat → Prop) : String → State → State → Prop := fun E st t => ∃ u : S, px u ∧ B E u t ∧ va_F A st t
section Runs
variable {p : Program} {l : Launch} {e : Env} {R : Room} {s : State} {m : MethodId} {args : Array Value} {below : List Frame} {meth : Method} {c : Code} {H : Heap} {locs : List Loc} {cells slots : Nat}
variable {y : MethodName} {bytes cc : ByteArray} {maxL nL mc ms n index : Nat} {ret : Option FieldType} {ws : List Cond} {rm : Room} {Pc : Array Value → State → Prop} {Qc : Array Value → State → Outcome → State → Prop} {XC : String → State → State → Prop} {free : Addr → Prop} {Ts : List Cond} {own C : String} {b : Addr} {As rest : List Value} {g : JFrame}
theorem vx_callBack (cb : CallB R s args own index y bytes maxL ret ws rm mc ms n) (hM : vx_Met l y ws rm Pc Qc XC mc ms free) (hbl : FrameBlind Pc) : vx_Back l R p e below s args y 3 8 (PreOf R mc ms Pc) (PostOf Qc mc ms free) (vx_Post XC mc ms free) := by
  obtain ⟨hrc, hrs, hfr, hlo, hws, hcw, -, hini, -⟩ := cb
  exact vx_back (bytes := bytes) (maxL := maxL) (ret := ret) hM hbl hrc hrs hfr hlo hws hcw (fun a' U hW => word_at hW (Or.inl (by first | rfl | simp [Cond.onTables, Cond.keeps, Cond.steady])) hini)
theorem vx_runV (S : CallFix p m c cc nL s args Ts own) (hM : vx_Met l y ws rm Pc Qc XC mc ms free) (cw : CallW R s args own C index y bytes maxL ret ws rm mc ms n) (hp : PreV s H C b Pc As)
    (hg : g.method = m) (hn : As.length = n) (hsize : g.locals.size = nL) (hstack : g.stack = As.reverse ++ .ref b :: rest) (hW : 2 * g.monitorRoom + (rest.map fun v => v.category).sum ≤ 8) (hdg : decode cc g.pc = .ok (.invokevirtual index, 3)) (hf : cells + mc ≤ R.cells ∧ slots + ms ≤ R.slots) :
    vx_Run p l e R s m args below meth c H locs cells slots mc ms g rest (Qc (Value.ref b :: As).toArray) XC free := by
  have hK : vx_Back l R p e below s args y 3 8 (PreOf R mc ms Pc) (PostOf Qc mc ms free) (vx_Post XC mc ms free) := vx_callBack cw.1 hM hp.1
  obtain ⟨⟨-, -, -, -, -, -, hcode, -, hy, hlen, hl⟩, hin, hse⟩ := cw
  obtain ⟨hx, hb, hml, ho, -⟩ := S
  obtain ⟨-, ⟨cellB, hcB, hoB, hclB⟩, hPc⟩ := hp
  intro T hT X
  rcases vx_callV X hx (C := C) (bytes := bytes) (maxL := maxL) (ret := ret) ho hl hin hse hcode hy hK (by rw [hT]; exact hcB) hoB hclB hg (hsize.trans hml.symm) (argsL := As) (rest := rest) (fun sig h => hn.trans (hlen sig h)) hstack hW (by rw [hb]; exact hdg)
    (fun vm₁ hW₁ => ⟨hf.1, hf.2, hPc (T.setVm vm₁) hT hW₁⟩) with ⟨v, vm₁, ⟨U', l2, c2, s2⟩, hW₁, X', ⟨g', mk, t, L, e1, e2, hq, h1, hL, h2, h3⟩, st⟩ | ⟨q, vm₁, ⟨U', l2, c2, s2⟩, hW₁, X', ⟨g', mk, t, L, E, ce, e1, e2, hq, hce, hcv, hcl, h1, hL, h2, h3⟩, st⟩
  · dsimp only [Pt.U, Pt.locs, Pt.cells, Pt.slots] at X' e1 e2 h1 h2 h3 st
    subst h1; subst h2; subst h3
    exact Or.inl ⟨v, (T.setVm vm₁).calling g' mk (Value.ref b :: As).toArray, t, U', L, hT, X', hL, e1, e2, hq, st⟩
  · dsimp only [Pt.U, Pt.locs, Pt.cells, Pt.slots] at X' e1 e2 h1 h2 h3 st hcl
    subst h1; subst h2; subst h3
    exact Or.inr ⟨q, (T.setVm vm₁).calling g' mk (Value.ref b :: As).toArray, t, U', L, E, ce, hT, X', hL, e1, e2, hq, hce, hcv, vx_cls hW₁ hcl, st⟩
theorem vx_runS (S : CallFix p m c cc nL s args Ts own) (hM : vx_Met l y ws rm Pc Qc XC mc ms free) (cw : CallB R s args own index y bytes maxL ret ws rm mc ms n ∧ (Cond.static y).before args s = true) (hp : PreS s H Pc As)
    (hg : g.method = m) (hn : As.length = n) (hsize : g.locals.size = nL) (hstack : g.stack = As.reverse ++ rest) (hW : 2 * g.monitorRoom + (rest.map fun v => v.category).sum ≤ 8) (hdg : decode cc g.pc = .ok (.invokestatic index, 3)) (hf : cells + mc ≤ R.cells ∧ slots + ms ≤ R.slots) :
    vx_Run p l e R s m args below meth c H locs cells slots mc ms g rest (Qc As.toArray) XC free := by
  have hK : vx_Back l R p e below s args y 3 8 (PreOf R mc ms Pc) (PostOf Qc mc ms free) (vx_Post XC mc ms free) := vx_callBack cw.1 hM hp.1
  obtain ⟨⟨-, -, -, -, -, -, hcode, hini, hy, hlen, hl⟩, hstt⟩ := cw
  obtain ⟨hx, hb, hml, ho, -⟩ := S
  intro T hT X
  rcases vx_callS X hx (bytes := bytes) (maxL := maxL) (ret := ret) ho hl hstt hini hcode hy hK hg (hsize.trans hml.symm) (argsL := As) (rest := rest) (fun sig h => hn.trans (hlen sig h)) hstack hW (by rw [hb]; exact hdg)
    (fun vm₁ hW₁ => ⟨hf.1, hf.2, hp.2 (T.setVm vm₁) hT hW₁⟩) with ⟨v, vm₁, ⟨U', l2, c2, s2⟩, hW₁, X', ⟨g', mk, t, L, e1, e2, hq, h1, hL, h2, h3⟩, st⟩ | ⟨q, vm₁, ⟨U', l2, c2, s2⟩, hW₁, X', ⟨g', mk, t, L, E, ce, e1, e2, hq, hce, hcv, hcl, h1, hL, h2, h3⟩, st⟩
  · dsimp only [Pt.U, Pt.locs, Pt.cells, Pt.slots] at X' e1 e2 h1 h2 h3 st
    subst h1; subst h2; subst h3
    exact Or.inl ⟨v, (T.setVm vm₁).calling g' mk As.toArray, t, U', L, hT, X', hL, e1, e2, hq, st⟩
  · dsimp only [Pt.U, Pt.locs, Pt.cells, Pt.slots] at X' e1 e2 h1 h2 h3 st hcl
    subst h1; subst h2; subst h3
    exact Or.inr ⟨q, (T.setVm vm₁).calling g' mk As.toArray, t, U', L, E, ce, hT, X', hL, e1, e2, hq, hce, hcv, vx_cls hW₁ hcl, st⟩
end Runs
section Rows
variable {p : Program} {l : Launch} {e : Env} {R : Room} {s : State} {m : MethodId} {args : Array Value} {below : List Frame} {meth : Method} {c : Code} {H : Heap} {locs : List Loc} {cells slots : Nat} {Q : State → Prop}
variable {mc ms : Nat} {free : Addr → Prop} {A0 A1 : Nat → Prop} {H0 : Heap} {a : Array Value} {pc : Nat} {ls : Array Slot} {st0 rest : List Value}
theorem vx_keep {st₀ t T' : State} {L : List Loc} (h0 : st₀.heap = H) (e1 : T'.heap = t.heap) (hS : va_S A0 H0 H locs) (hA : ∀ q, q < H.size → A1 q → A0 q) (hf : ∀ q, free q → A0 q) (hL : ∀ q ∈ L, free q.base) (hF : va_F A1 st₀ t) :
    H.size ≤ T'.heap.size ∧ (∀ q : Nat, q < H.size → ¬ A1 q → T'.heap[q]? = H[q]?) ∧ va_S A0 H0 T'.heap (locs ++ L) := by
  obtain ⟨hz, hk⟩ := hF
  rw [h0] at hz hk
  exact ⟨by rw [e1]; exact hz, fun q h1 h2 => by rw [e1]; exact hk q h1 h2,
    ⟨Nat.le_trans hS.1 (by rw [e1]; exact hz), fun q h1 h2 => by rw [e1, hk q (Nat.lt_of_lt_of_le h1 hS.1) (fun z => h2 (hA q (Nat.lt_of_lt_of_le h1 hS.1) z))]; exact hS.2.1 q h1 h2, fun q hq => by
      rcases List.mem_append.mp hq with h | h
      · exact hS.2.2 q h
      · exact hf _ (hL q h)⟩⟩
theorem vx_calli {S SX : Type} {post : Int32 → S → Prop} {px : SX → Prop} {B : S → State → Prop} {BX : String → SX → State → Prop} {AX : Nat → Prop} (hr : vx_Run p l e R s m args below meth c H locs cells slots mc ms (F0 m pc ls st0) rest (va_Qi post B A1 a) (vx_X px BX AX) free) (hS : va_S A0 H0 H locs) (hA : ∀ q, q < H.size → A1 q → A0 q) (hf : ∀ q, free q → A0 q) (hAX : ∀ q, q < H.size → AX q → A0 q)
    (kx : ∀ (E : String) (ce : Cell) (q9 : Addr) (u : SX) (t : State) (H1 : Heap) (locs1 : List Loc), t.heap = H1 → s.vm.Alike t.vm → px u → BX E u t → H.size ≤ H1.size → (∀ q : Nat, q < H.size → ¬ AX q → H1[q]? = H[q]?) → va_S A0 H0 H1 locs1 → H1[q9]? = some ce → ce.vm = .none → s.vm.findClass E = some ce.cls → vx_W p l e R s m args below meth c H1 locs1 (cells + mc) (slots + ms) Q (F0 m pc ls rest) q9)
    (kk : ∀ (r : Int32) (u : S) (t : State) (H1 : Heap) (locs1 : List Loc), t.heap = H1 → s.vm.Alike t.vm → post r u → B u t → H.size ≤ H1.size → (∀ q : Nat, q < H.size → ¬ A1 q → H1[q]? = H[q]?) → va_S A0 H0 H1 locs1 → W p l e R s m args below meth c H1 locs1 (cells + mc) (slots + ms) Q (F0 m (pc + 3) ls (.int r :: rest))) : W p l e R s m args below meth c H locs cells slots Q (F0 m pc ls st0) := by
  intro T hT X
  rcases hr T hT X with ⟨v, st₀, t, T', L, h0, X', hL, e1, e2, ⟨⟨r, u, hv, hp, hb⟩, hF⟩, st⟩ | ⟨q, st₀, t, T', L, E, ce, h0, X', hL, e1, e2, ⟨u, hp, hb, hF⟩, hce, hcv, hcl, st⟩
  · cases hv
    obtain ⟨k1, k2, k3⟩ := vx_keep h0 e1 hS hA hf hL hF
    obtain ⟨t2, a1, b1⟩ := kk r u t T'.heap (locs ++ L) e1.symm (by rw [← e2]; exact X'.warmed.alike) hp hb k1 k2 k3 T' rfl X'
    exact ⟨t2, st t2 a1, b1⟩
  · obtain ⟨k1, k2, k3⟩ := vx_keep h0 e1 hS hAX hf hL hF
    obtain ⟨t2, a1, b1⟩ := kx E ce q u t T'.heap (locs ++ L) e1.symm (by rw [← e2]; exact X'.warmed.alike) hp hb k1 k2 k3 (by rw [e1]; exact hce) hcv hcl T' rfl X'
    exact ⟨t2, st.trans a1, b1⟩
theorem vx_calll {S SX : Type} {post : Int64 → S → Prop} {px : SX → Prop} {B : S → State → Prop} {BX : String → SX → State → Prop} {AX : Nat → Prop} (hr : vx_Run p l e R s m args below meth c H locs cells slots mc ms (F0 m pc ls st0) rest (va_Ql post B A1 a) (vx_X px BX AX) free) (hS : va_S A0 H0 H locs) (hA : ∀ q, q < H.size → A1 q → A0 q) (hf : ∀ q, free q → A0 q) (hAX : ∀ q, q < H.size → AX q → A0 q)
    (kx : ∀ (E : String) (ce : Cell) (q9 : Addr) (u : SX) (t : State) (H1 : Heap) (locs1 : List Loc), t.heap = H1 → s.vm.Alike t.vm → px u → BX E u t → H.size ≤ H1.size → (∀ q : Nat, q < H.size → ¬ AX q → H1[q]? = H[q]?) → va_S A0 H0 H1 locs1 → H1[q9]? = some ce → ce.vm = .none → s.vm.findClass E = some ce.cls → vx_W p l e R s m args below meth c H1 locs1 (cells + mc) (slots + ms) Q (F0 m pc ls rest) q9)
    (kk : ∀ (r : Int64) (u : S) (t : State) (H1 : Heap) (locs1 : List Loc), t.heap = H1 → s.vm.Alike t.vm → post r u → B u t → H.size ≤ H1.size → (∀ q : Nat, q < H.size → ¬ A1 q → H1[q]? = H[q]?) → va_S A0 H0 H1 locs1 → W p l e R s m args below meth c H1 locs1 (cells + mc) (slots + ms) Q (F0 m (pc + 3) ls (.long r :: rest))) : W p l e R s m args below meth c H locs cells slots Q (F0 m pc ls st0) := by
  intro T hT X
  rcases hr T hT X with ⟨v, st₀, t, T', L, h0, X', hL, e1, e2, ⟨⟨r, u, hv, hp, hb⟩, hF⟩, st⟩ | ⟨q, st₀, t, T', L, E, ce, h0, X', hL, e1, e2, ⟨u, hp, hb, hF⟩, hce, hcv, hcl, st⟩
  · cases hv
    obtain ⟨k1, k2, k3⟩ := vx_keep h0 e1 hS hA hf hL hF
    obtain ⟨t2, a1, b1⟩ := kk r u t T'.heap (locs ++ L) e1.symm (by rw [← e2]; exact X'.warmed.alike) hp hb k1 k2 k3 T' rfl X'
    exact ⟨t2, st t2 a1, b1⟩
  · obtain ⟨k1, k2, k3⟩ := vx_keep h0 e1 hS hAX hf hL hF
    obtain ⟨t2, a1, b1⟩ := kx E ce q u t T'.heap (locs ++ L) e1.symm (by rw [← e2]; exact X'.warmed.alike) hp hb k1 k2 k3 (by rw [e1]; exact hce) hcv hcl T' rfl X'
    exact ⟨t2, st.trans a1, b1⟩
theorem vx_callf {S SX : Type} {post : UInt32 → S → Prop} {px : SX → Prop} {B : S → State → Prop} {BX : String → SX → State → Prop} {AX : Nat → Prop} (hr : vx_Run p l e R s m args below meth c H locs cells slots mc ms (F0 m pc ls st0) rest (va_Qf post B A1 a) (vx_X px BX AX) free) (hS : va_S A0 H0 H locs) (hA : ∀ q, q < H.size → A1 q → A0 q) (hf : ∀ q, free q → A0 q) (hAX : ∀ q, q < H.size → AX q → A0 q)
    (kx : ∀ (E : String) (ce : Cell) (q9 : Addr) (u : SX) (t : State) (H1 : Heap) (locs1 : List Loc), t.heap = H1 → s.vm.Alike t.vm → px u → BX E u t → H.size ≤ H1.size → (∀ q : Nat, q < H.size → ¬ AX q → H1[q]? = H[q]?) → va_S A0 H0 H1 locs1 → H1[q9]? = some ce → ce.vm = .none → s.vm.findClass E = some ce.cls → vx_W p l e R s m args below meth c H1 locs1 (cells + mc) (slots + ms) Q (F0 m pc ls rest) q9)
    (kk : ∀ (r : UInt32) (u : S) (t : State) (H1 : Heap) (locs1 : List Loc), t.heap = H1 → s.vm.Alike t.vm → post r u → B u t → H.size ≤ H1.size → (∀ q : Nat, q < H.size → ¬ A1 q → H1[q]? = H[q]?) → va_S A0 H0 H1 locs1 → W p l e R s m args below meth c H1 locs1 (cells + mc) (slots + ms) Q (F0 m (pc + 3) ls (.float r :: rest))) : W p l e R s m args below meth c H locs cells slots Q (F0 m pc ls st0) := by
  intro T hT X
  rcases hr T hT X with ⟨v, st₀, t, T', L, h0, X', hL, e1, e2, ⟨⟨r, u, hv, hp, hb⟩, hF⟩, st⟩ | ⟨q, st₀, t, T', L, E, ce, h0, X', hL, e1, e2, ⟨u, hp, hb, hF⟩, hce, hcv, hcl, st⟩
  · cases hv
    obtain ⟨k1, k2, k3⟩ := vx_keep h0 e1 hS hA hf hL hF
    obtain ⟨t2, a1, b1⟩ := kk r u t T'.heap (locs ++ L) e1.symm (by rw [← e2]; exact X'.warmed.alike) hp hb k1 k2 k3 T' rfl X'
    exact ⟨t2, st t2 a1, b1⟩
  · obtain ⟨k1, k2, k3⟩ := vx_keep h0 e1 hS hAX hf hL hF
    obtain ⟨t2, a1, b1⟩ := kx E ce q u t T'.heap (locs ++ L) e1.symm (by rw [← e2]; exact X'.warmed.alike) hp hb k1 k2 k3 (by rw [e1]; exact hce) hcv hcl T' rfl X'
    exact ⟨t2, st.trans a1, b1⟩
theorem vx_calld {S SX : Type} {post : UInt64 → S → Prop} {px : SX → Prop} {B : S → State → Prop} {BX : String → SX → State → Prop} {AX : Nat → Prop} (hr : vx_Run p l e R s m args below meth c H locs cells slots mc ms (F0 m pc ls st0) rest (va_Qd post B A1 a) (vx_X px BX AX) free) (hS : va_S A0 H0 H locs) (hA : ∀ q, q < H.size → A1 q → A0 q) (hf : ∀ q, free q → A0 q) (hAX : ∀ q, q < H.size → AX q → A0 q)
    (kx : ∀ (E : String) (ce : Cell) (q9 : Addr) (u : SX) (t : State) (H1 : Heap) (locs1 : List Loc), t.heap = H1 → s.vm.Alike t.vm → px u → BX E u t → H.size ≤ H1.size → (∀ q : Nat, q < H.size → ¬ AX q → H1[q]? = H[q]?) → va_S A0 H0 H1 locs1 → H1[q9]? = some ce → ce.vm = .none → s.vm.findClass E = some ce.cls → vx_W p l e R s m args below meth c H1 locs1 (cells + mc) (slots + ms) Q (F0 m pc ls rest) q9)
    (kk : ∀ (r : UInt64) (u : S) (t : State) (H1 : Heap) (locs1 : List Loc), t.heap = H1 → s.vm.Alike t.vm → post r u → B u t → H.size ≤ H1.size → (∀ q : Nat, q < H.size → ¬ A1 q → H1[q]? = H[q]?) → va_S A0 H0 H1 locs1 → W p l e R s m args below meth c H1 locs1 (cells + mc) (slots + ms) Q (F0 m (pc + 3) ls (.double r :: rest))) : W p l e R s m args below meth c H locs cells slots Q (F0 m pc ls st0) := by
  intro T hT X
  rcases hr T hT X with ⟨v, st₀, t, T', L, h0, X', hL, e1, e2, ⟨⟨r, u, hv, hp, hb⟩, hF⟩, st⟩ | ⟨q, st₀, t, T', L, E, ce, h0, X', hL, e1, e2, ⟨u, hp, hb, hF⟩, hce, hcv, hcl, st⟩
  · cases hv
    obtain ⟨k1, k2, k3⟩ := vx_keep h0 e1 hS hA hf hL hF
    obtain ⟨t2, a1, b1⟩ := kk r u t T'.heap (locs ++ L) e1.symm (by rw [← e2]; exact X'.warmed.alike) hp hb k1 k2 k3 T' rfl X'
    exact ⟨t2, st t2 a1, b1⟩
  · obtain ⟨k1, k2, k3⟩ := vx_keep h0 e1 hS hAX hf hL hF
    obtain ⟨t2, a1, b1⟩ := kx E ce q u t T'.heap (locs ++ L) e1.symm (by rw [← e2]; exact X'.warmed.alike) hp hb k1 k2 k3 (by rw [e1]; exact hce) hcv hcl T' rfl X'
    exact ⟨t2, st.trans a1, b1⟩
theorem vx_callv {S SX : Type} {post : S → Prop} {px : SX → Prop} {B : S → State → Prop} {BX : String → SX → State → Prop} {AX : Nat → Prop} (hr : vx_Run p l e R s m args below meth c H locs cells slots mc ms (F0 m pc ls st0) rest (va_Qv post B A1 a) (vx_X px BX AX) free) (hS : va_S A0 H0 H locs) (hA : ∀ q, q < H.size → A1 q → A0 q) (hf : ∀ q, free q → A0 q) (hAX : ∀ q, q < H.size → AX q → A0 q)
    (kx : ∀ (E : String) (ce : Cell) (q9 : Addr) (u : SX) (t : State) (H1 : Heap) (locs1 : List Loc), t.heap = H1 → s.vm.Alike t.vm → px u → BX E u t → H.size ≤ H1.size → (∀ q : Nat, q < H.size → ¬ AX q → H1[q]? = H[q]?) → va_S A0 H0 H1 locs1 → H1[q9]? = some ce → ce.vm = .none → s.vm.findClass E = some ce.cls → vx_W p l e R s m args below meth c H1 locs1 (cells + mc) (slots + ms) Q (F0 m pc ls rest) q9)
    (kk : ∀ (u : S) (t : State) (H1 : Heap) (locs1 : List Loc), t.heap = H1 → s.vm.Alike t.vm → post u → B u t → H.size ≤ H1.size → (∀ q : Nat, q < H.size → ¬ A1 q → H1[q]? = H[q]?) → va_S A0 H0 H1 locs1 → W p l e R s m args below meth c H1 locs1 (cells + mc) (slots + ms) Q (F0 m (pc + 3) ls (rest))) : W p l e R s m args below meth c H locs cells slots Q (F0 m pc ls st0) := by
  intro T hT X
  rcases hr T hT X with ⟨v, st₀, t, T', L, h0, X', hL, e1, e2, ⟨⟨u, hv, hp, hb⟩, hF⟩, st⟩ | ⟨q, st₀, t, T', L, E, ce, h0, X', hL, e1, e2, ⟨u, hp, hb, hF⟩, hce, hcv, hcl, st⟩
  · cases hv
    obtain ⟨k1, k2, k3⟩ := vx_keep h0 e1 hS hA hf hL hF
    obtain ⟨t2, a1, b1⟩ := kk u t T'.heap (locs ++ L) e1.symm (by rw [← e2]; exact X'.warmed.alike) hp hb k1 k2 k3 T' rfl X'
    exact ⟨t2, st t2 a1, b1⟩
  · obtain ⟨k1, k2, k3⟩ := vx_keep h0 e1 hS hAX hf hL hF
    obtain ⟨t2, a1, b1⟩ := kx E ce q u t T'.heap (locs ++ L) e1.symm (by rw [← e2]; exact X'.warmed.alike) hp hb k1 k2 k3 (by rw [e1]; exact hce) hcv hcl T' rfl X'
    exact ⟨t2, st.trans a1, b1⟩
/-- caught by the row x of this method's table; the rows ahead don't take it -/
theorem vx_catch {own name : String} {E : String} {ce : Cell} {q : Addr} (hown : s.vm.findClass own = some m.cls) (pre : List ExceptionTableEntry) (x : ExceptionTableEntry) (suf : List ExceptionTableEntry) (hsplit : c.exceptionTable.toList = pre ++ x :: suf)
    (hpass : ∀ z ∈ pre, covers z pc = false ∨ (z.catchType ≠ 0 ∧ ∃ nm : String, (Cond.classLink own z.catchType nm).before args s = true ∧ va_Nc E nm s)) (hx : covers x pc = true) (h0 : x.catchType ≠ 0)
    (hlink : (Cond.classLink own x.catchType name).before args s = true) (hcast : (Cond.castable E name).before args s = true) (hcell : H[q]? = some ce) (hv : ce.vm = .none) (hcl : s.vm.findClass E = some ce.cls)
    (kk : W p l e R s m args below meth c H locs cells slots Q (F0 m x.handlerPc ls [.ref q])) : vx_W p l e R s m args below meth c H locs cells slots Q (F0 m pc ls rest) q := by
  intro T hT X
  have hpl : e.platform.magicAccessors = ({} : Platform).magicAccessors := by rw [X.admits.platform]
  obtain ⟨c3, c4, hc3, hc4, hasg⟩ := Cond.castable_spec hcast
  cases Option.some.inj (hc3.symm.trans hcl)
  obtain ⟨c5, hc5, hcl5⟩ := Cond.classLink_spec hown hlink e.platform hpl
  cases Option.some.inj (hc4.symm.trans hc5)
  obtain ⟨vm', X', st⟩ := X.thenCaughtThrough q (g := F0 m pc ls rest) rfl (Steps.refl _) (by rw [hT]; exact hcell) (by rw [hv]; rfl) (by obtain ⟨k9, h9, -⟩ := Vm.findClass_spec hcl; exact ⟨k9, h9⟩) pre x suf hsplit
    (fun z hz => by
      rcases hpass z hz with h | ⟨hz0, nm, hl1, hn1⟩
      · exact Or.inl h
      · obtain ⟨c6, hc6, hcl6⟩ := Cond.classLink_spec hown hl1 e.platform hpl
        obtain ⟨a8, b8, h1, h2, h3⟩ := hn1
        cases Option.some.inj (h1.symm.trans hcl)
        cases Option.some.inj (h2.symm.trans hc6)
        exact Or.inr ⟨hz0, _, hcl6, h3⟩) hx (Or.inr ⟨h0, c4, hcl5, hasg⟩)
  obtain ⟨t, a1, b1⟩ := kk (T.setVm vm') hT X'
  exact ⟨t, st.trans a1, b1⟩
end Rows
section Ends
variable {p : Program} {l : Launch} {e : Env} {R : Room} {s : State} {m : MethodId} {args : Array Value} {below : List Frame} {meth : Method} {c : Code} {H : Heap} {locs : List Loc} {cells slots : Nat} {Q : State → Prop}
variable {mc ms : Nat} {free : Addr → Prop} {A0 A1 : Nat → Prop} {H0 : Heap} {a : Array Value} {ls : Array Slot} {st0 rest : List Value}
variable {Qc : Array Value → State → Outcome → State → Prop} {XC : String → State → State → Prop}
/-- what a body that may throw owes at its end -/
def vx_MQ (below : List Frame) (Qc : Array Value → State → Outcome → State → Prop) (XC : String → State → State → Prop) (a : Array Value) (s : State) (mc ms : Nat) (free : Addr → Prop) : State → Prop := fun t =>
  ∃ o, t.status = .running ∧ Ended t below o ∧ vx_Q Qc XC mc ms free a s o t
theorem vx_ret {g : JFrame} {mc ms : Nat} (k : W p l e R s m args below meth c H locs cells slots (MQ below Qc args s mc ms free) g) : W p l e R s m args below meth c H locs cells slots (vx_MQ below Qc XC args s mc ms free) g := by
  intro T hT X
  obtain ⟨t, a1, o, b1, b2, b3, b4⟩ := k T hT X
  exact ⟨t, a1, o, b1, b2, Or.inl ⟨b3, b4⟩⟩
/-- not caught here: it goes on to the caller -/
theorem vx_widen {g : JFrame} {q : Addr} {k n : Nat} (h1 : cells ≤ k) (h2 : slots ≤ n) (kk : vx_W p l e R s m args below meth c H locs k n Q g q) : vx_W p l e R s m args below meth c H locs cells slots Q g q := fun T hT X => kk T hT (stand_widen X h1 h2)
theorem vx_out {pc : Nat} {E : String} {ce : Cell} {q : Addr} {mc ms : Nat} (hout : ∀ x ∈ c.exceptionTable.toList, covers x pc = false) (hlocks : meth.locks = false) (hcell : H[q]? = some ce) (hv : ce.vm = .none) (hcl : s.vm.findClass E = some ce.cls)
    (hx : ∀ t : State, t.heap = H → s.vm.Alike t.vm → XC E s t) (hf : ∀ z ∈ locs, free z.base) (hc : cells ≤ mc) (hs : slots ≤ ms) :
    vx_W p l e R s m args below meth c H locs cells slots (vx_MQ below Qc XC args s mc ms free) (F0 m pc ls rest) q := by
  intro T hT X
  obtain ⟨st1, hrun, hend, hW, hsm⟩ := X.leaveThrown q (g := F0 m pc ls rest) rfl rfl rfl hout hlocks
  have hcell9 : (T.setFrames (.throwing q :: below)).heap[q]? = some ce := by
    show T.heap[q]? = some ce
    rw [hT]; exact hcell
  exact ⟨_, st1, .threw q, hrun, hend, Or.inr ⟨q, rfl, E, ce, locs, hx _ hT hW.alike, hcell9, hv, hcl, hW, hsm.mono hc hs, hf⟩⟩
theorem vx_frame {U : State} {k n : Nat} (h : s.sameButNew ({ U with vm := s.vm } : State) locs k n) : s.heap.size ≤ U.heap.size ∧ ∀ q : Nat, q < s.heap.size → (∀ z ∈ locs, z.base ≠ q) → U.heap[q]? = s.heap[q]? := by
  obtain ⟨-, h2, -, -, -, h6⟩ := h
  refine ⟨h2, fun q hq hz => ?_⟩
  obtain ⟨c9, e1, e2, e3, e4⟩ := h6 q _ (Array.getElem?_eq_getElem hq)
  have hs : c9.slots = (s.heap[q]).slots := Array.ext_getElem? fun i => e4 i fun hm => hz _ hm rfl
  have h9 : c9 = s.heap[q] := by
    rw [hs] at e2
    exact e2
  have e5 : U.heap[q]? = some c9 := e1
  rw [e5, h9, Array.getElem?_eq_getElem hq]
/-- the words of a throw but the four that speak of the heap -/
def vx_no (w : Cond) : Bool := decide (w ≠ .isRef (.static Bundle.tN "UNASSIGNED_STACK" Bundle.steD)) && decide (w ≠ .isRef (.static Bundle.tN "SUPPRESSED_SENTINEL" Bundle.listD)) && decide (w ≠ .laysStatic Bundle.tN "UNASSIGNED_STACK" Bundle.steD) && decide (w ≠ .laysStatic Bundle.tN "SUPPRESSED_SENTINEL" Bundle.listD)
def vx_at0 (own : String) (ic : Nat) (X : String) (names : List String) : List Cond := (Bundle.ownAtoms0 own ic X names).filter vx_no
def vx_atS (own : String) (ic : Nat) (X : String) (names : List String) : List Cond := (Bundle.ownAtoms own ic X names).filter vx_no
/-- a word that the tables alone decide, or a good one -/
def vx_ot (w : Cond) : Bool := w.onTables || goodWord w
theorem vx_ot_at {args a' : Array Value} {s U : State} {w : Cond} (hW : s.WarmedH U.vm) (hvm : s.vm = U.vm) (hg : vx_ot w = true) (h : w.before args s = true) : w.before a' U = true := by
  simp only [vx_ot, Bool.or_eq_true] at hg
  rcases hg with hg | hg
  · exact va_tabs hg hvm h
  · exact word_at hW (good_of_word hg) h
/-- a list's words: the good ones out of the method's own list, the others by premises of their own -/
theorem vx_hat {args : Array Value} {s : State} {L B : List Cond} (h1 : ∀ w ∈ L.filter goodWord, w.before args s = true) (h2 : ∀ w ∈ L.filter (fun w => !goodWord w), w ∈ B) (h3 : ∀ w ∈ B, w.before args s = true) : ∀ w ∈ L, w.before args s = true := by
  intro w hw
  by_cases g : goodWord w = true
  · exact h1 w (List.mem_filter.mpr ⟨hw, g⟩)
  · refine h3 w (h2 w (List.mem_filter.mpr ⟨hw, ?_⟩))
    show (!goodWord w) = true
    cases hgw : goodWord w
    · rfl
    · exact absurd hgw g
theorem vx_c {args : Array Value} {s : State} {w : Cond} {B : List Cond} (h : w.before args s = true) (t : ∀ w ∈ B, w.before args s = true) : ∀ w' ∈ w :: B, w'.before args s = true := fun w' h' => (List.mem_cons.mp h').elim (fun e => by rw [e]; exact h) (t w')
theorem vx_n {args : Array Value} {s : State} : ∀ w ∈ ([] : List Cond), w.before args s = true := fun _ h => nomatch h
theorem vx_own {args : Array Value} {s : State} {L : List Cond} (h1 : ∀ w ∈ L.filter vx_no, w.before args s = true)
    (hU : (Cond.isRef (.static Bundle.tN "UNASSIGNED_STACK" Bundle.steD)).before args s = true) (hN : (Cond.isRef (.static Bundle.tN "SUPPRESSED_SENTINEL" Bundle.listD)).before args s = true)
    (lU : (Cond.laysStatic Bundle.tN "UNASSIGNED_STACK" Bundle.steD).before args s = true) (lN : (Cond.laysStatic Bundle.tN "SUPPRESSED_SENTINEL" Bundle.listD).before args s = true) : ∀ w ∈ L, w.before args s = true := by
  intro w hw
  by_cases e1 : w = .isRef (.static Bundle.tN "UNASSIGNED_STACK" Bundle.steD)
  · rw [e1]; exact hU
  · by_cases e2 : w = .isRef (.static Bundle.tN "SUPPRESSED_SENTINEL" Bundle.listD)
    · rw [e2]; exact hN
    · by_cases e3 : w = .laysStatic Bundle.tN "UNASSIGNED_STACK" Bundle.steD
      · rw [e3]; exact lU
      · by_cases e4 : w = .laysStatic Bundle.tN "SUPPRESSED_SENTINEL" Bundle.listD
        · rw [e4]; exact lN
        · exact h1 w (List.mem_filter.mpr ⟨hw, by unfold vx_no; rw [decide_eq_true e1, decide_eq_true e2, decide_eq_true e3, decide_eq_true e4]; rfl⟩)
/-- where a static field lies, its class's statics cell in H -/
def vx_L (C n d : String) (A : Nat → Prop) (U : State) (H : Heap) : Prop := ∃ (c : ClassId) (k : Class) (i : Nat) (f : Field) (a : Nat) (cell : Cell), U.vm.findClass C = some c ∧ U.fieldFound? C n d = some (c, k, i, f) ∧ f.isStatic = true ∧ k.statics = some a ∧ H[a]? = some cell ∧ cell.vm.isStatics = true ∧ cell.cls = c ∧ f.slot < cell.slots.size ∧ k.staticTypes[f.slot]? = some f.type ∧ ¬ A a
theorem vx_L.moved {C n d : String} {A : Nat → Prop} {u U : State} {H : Heap} (hvm : u.vm.Alike U.vm) (h : vx_L C n d A u H) : vx_L C n d A U H := by
  obtain ⟨c, k, i, f, a, cell, h1, h2, h3, h4, h5, h6, h7, h8, h9, h10⟩ := h
  obtain ⟨k', hi', he⟩ := State.fieldFound?_setVm hvm h2
  exact ⟨c, k', i, f, a, cell, by rw [hvm.findClass]; exact h1, hi', h3, by rw [he]; exact h4, h5, h6, h7, h8, by rw [he]; exact h9, h10⟩
theorem vx_L.kept {C n d : String} {A : Nat → Prop} {U : State} {H H1 : Heap} (h : vx_L C n d A U H) (hq : ∀ a : Nat, a < H.size → ¬ A a → H1[a]? = H[a]?) : vx_L C n d A U H1 := by
  obtain ⟨c, k, i, f, a, cell, h1, h2, h3, h4, h5, h6, h7, h8, h9, h10⟩ := h
  exact ⟨c, k, i, f, a, cell, h1, h2, h3, h4, by rw [hq a (Array.getElem?_eq_some_iff.mp h5).1 h10]; exact h5, h6, h7, h8, h9, h10⟩
theorem vx_L.narrow {C n d : String} {A B : Nat → Prop} {U : State} {H : Heap} (h : vx_L C n d A U H) (hAB : ∀ q, B q → A q) : vx_L C n d B U H := by
  obtain ⟨c, k, i, f, a, cell, h1, h2, h3, h4, h5, h6, h7, h8, h9, h10⟩ := h
  exact ⟨c, k, i, f, a, cell, h1, h2, h3, h4, h5, h6, h7, h8, h9, fun z => h10 (hAB _ z)⟩
theorem vx_L.word {C n d : String} {A : Nat → Prop} {s : State} {args : Array Value} (h : vx_L C n d A s s.heap) : (Cond.laysStatic C n d).before args s = true := by
  obtain ⟨c, k, i, f, a, cell, h1, h2, h3, h4, h5, h6, h7, h8, h9, -⟩ := h
  show (Cond.laysStatic C n d).holds args s none s [] = true
  exact Cond.laysStatic_of h1 h2 h3 h4 h5 h6 h7 h8 h9
/-- .. and what it holds: null or some reference -/
def vx_Zq (C n d : String) (A : Nat → Prop) (U : State) (H : Heap) : Prop := va_Zq C n d A U H ∧ vx_L C n d A U H
theorem vx_Zq.moved {C n d : String} {A : Nat → Prop} {u U : State} {H : Heap} (hvm : u.vm.Alike U.vm) (h : vx_Zq C n d A u H) : vx_Zq C n d A U H := ⟨va_Zq.moved hvm h.1, vx_L.moved hvm h.2⟩
theorem vx_Zq.kept {C n d : String} {A : Nat → Prop} {U : State} {H H1 : Heap} (h : vx_Zq C n d A U H) (hq : ∀ a : Nat, a < H.size → ¬ A a → H1[a]? = H[a]?) : vx_Zq C n d A U H1 := ⟨va_Zq.kept h.1 hq, vx_L.kept h.2 hq⟩
theorem vx_Zq.narrow {C n d : String} {A B : Nat → Prop} {U : State} {H : Heap} (h : vx_Zq C n d A U H) (hAB : ∀ q, B q → A q) : vx_Zq C n d B U H := ⟨va_Zq.narrow h.1 hAB, vx_L.narrow h.2 hAB⟩
theorem vx_Zqof {args : Array Value} {s : State} {C n d : String} {A : Nat → Prop} (hl : (Cond.laysStatic C n d).before args s = true) (hini : (Cond.initialized C).before args s = true) (h : (Cond.isRef (.static C n d)).before args s = true) (hA : ∀ a : Nat, a < s.heap.size → ¬ A a) : vx_Zq C n d A s s.heap := by
  refine ⟨va_Zqof hl hini h hA, ?_⟩
  obtain ⟨c, k, i, f, a, cell, h1, h2, h3, h4, h5, h6, h7, h8, h9⟩ := Cond.laysStatic_spec hl
  exact ⟨c, k, i, f, a, cell, h1, h2, h3, h4, h5, h6, h7, h8, h9, hA a (Array.getElem?_eq_some_iff.mp h5).1⟩
theorem vx_isRef {C n d : String} {v : Value} {A : Nat → Prop} {s : State} {args : Array Value} (h : va_Z C n d v A s s.heap) (hv : v.isRef = true) : (Cond.isRef (.static C n d)).before args s = true := by
  obtain ⟨cf, kf, fi, f, a, cell, h1, h2, h3, h4, h5, h6, h7, -⟩ := h
  have he : (Term.static C n d).eval args s none [] s = some v := by
    simp [Term.eval, State.fieldNamed?, h1, h2, h4, h5, h6, h7]
  simp only [Cond.before, Cond.holds, Cond.value, he]
  cases v <;> simp_all [Value.isRef]
theorem vx_isRefq {C n d : String} {A : Nat → Prop} {s : State} {args : Array Value} (h : va_Zq C n d A s s.heap) : (Cond.isRef (.static C n d)).before args s = true := by
  rcases h with h | ⟨t, h⟩
  · exact vx_isRef h rfl
  · exact vx_isRef h rfl
/-- the same frame, seen from here: as if the method were called anew in this heap -/
theorem vx_rebase {T : State} (X : Stand p l e R s m args below meth c T locs cells slots) {R' : Room} (hf : R'.frames ≤ R.frames) (hl : R'.locals ≤ R.locals) (hc : cells + R'.cells ≤ R.cells) (hs : slots + R'.slots ≤ R.slots) :
    Stand p l e R' ((T.setVm s.vm).setFrames (.invoking m args :: below)) m args below meth c T [] 0 0 := by
  have htop : (T.setVm s.vm).topJava?.isSome := X.here.top
  have hF : ((T.setVm s.vm).setFrames (.invoking m args :: below)).frames = .invoking m args :: below := State.frames_setFrames _ (State.cur_lt_of_top htop)
  obtain ⟨g₀, hg0⟩ := Option.isSome_iff_exists.mp htop
  obtain ⟨r, hr⟩ := State.topJava?_eq_some.mp hg0
  have hl9 : e.platform.stackLimits (T.setVm s.vm).me = e.platform.stackLimits s.me := X.limits
  have hb9 : (T.setVm s.vm).me.stackBytes = s.me.stackBytes := X.bytes
  refine ⟨X.admits, X.cas, X.clock, hF, ?_, X.hears, X.method, X.code, X.here, X.tail, X.warmed, ?_, ?_, ?_⟩
  · have h := X.room
    have hU : ((T.setVm s.vm).setFrames (.invoking m args :: below)).localsInUse = s.localsInUse := by
      rw [State.localsInUse_invoking hF (meth := meth) (c := c) X.method X.code, State.localsInUse_invoking X.frames X.method X.code]
    simp only [State.hasRoom, Bool.and_eq_true, decide_eq_true_eq] at h ⊢
    obtain ⟨⟨⟨⟨h1, h2, h3, h4, h5, h6⟩, h7⟩, h8⟩, h9⟩ := h
    rw [X.frames, List.length_cons] at h2 h3
    have q1 := X.heapSize
    have q2 := X.used
    simp only [hF, hU, List.length_cons, State.stackLimits_setFrames, State.stackBytes_setFrames, hl9, hb9]
    refine ⟨⟨⟨⟨by omega, by omega, by omega, by omega, by omega, h6⟩, ?_⟩, ?_⟩, X.book⟩
    · show T.heap.size + R'.cells ≤ e.platform.maxCells
      omega
    · show T.slotsUsed + R'.slots ≤ e.platform.maxSlots
      omega
  · rw [State.stackLimits_setFrames]; rfl
  · rw [State.stackBytes_setFrames]; rfl
  · refine ⟨?_, Nat.le_refl _, Nat.le_refl _, ?_, ?_, fun a c9 h9 => ⟨c9, h9, rfl, rfl, fun _ _ => rfl⟩⟩
    · obtain ⟨t, ht, -⟩ := State.frames_cons hr
      show T.setVm s.vm = { ((T.setVm s.vm).setFrames (.invoking m args :: below)).setFrames (T.setVm s.vm).frames with heap := T.heap, slotsUsed := T.slotsUsed }
      rw [State.setFrames_setFrames, State.setFrames_self ht]
      rfl
    · show T.slotsUsed = T.slotsUsed + ((T.heap.toList.drop T.heap.size).map (·.slots.size)).sum
      rw [List.drop_eq_nil_of_le (Nat.le_of_eq Array.length_toList)]
      rfl
    · show ((T.heap.toList.drop T.heap.size).map (·.slots.size)).sum ≤ 0
      rw [List.drop_eq_nil_of_le (Nat.le_of_eq Array.length_toList)]
      exact Nat.le_refl _
/-- 'throw new E()': new; dup; invokespecial; athrow -/
theorem vx_throw0 {cc : ByteArray} {pc : Nat} (hexec : p.tables.exec = Jvm.exec) (hb : c.code = cc) (hl : l.stackTraces = false) {own cls : String} {names : List String} {ik ic mc ms : Nat} {A : Nat → Prop}
    (hown : s.vm.findClass own = some m.cls) (hcls : Bundle.fit cls = true) (hnames : ∀ n ∈ names, Bundle.fit n = true)
    (hk : (Cond.classLink own ik cls).before args s = true) (hini : (Cond.initialized cls).before args s = true) (hat : ∀ w ∈ vx_at0 own ic cls names, w.before args s = true)
    (hgood : ∀ w ∈ Cond.classLink own ik cls :: Cond.initialized cls :: vx_at0 own ic cls names, vx_ot w = true)
    (hU : vx_Zq Bundle.tN "UNASSIGNED_STACK" Bundle.steD A s s.heap) (hN : vx_Zq Bundle.tN "SUPPRESSED_SENTINEL" Bundle.listD A s s.heap) (hS : va_S A s.heap H locs) (hsize : ls.size = c.maxLocals)
    (d0 : decode cc pc = .ok (.new ik, 3)) (d3 : decode cc (pc + 3) = .ok (.dup, 1)) (d4 : decode cc (pc + 4) = .ok (.invokespecial ic, 3)) (d7 : decode cc (pc + 7) = .ok (.athrow, 1))
    (hout : ∀ x ∈ c.exceptionTable.toList, covers x (pc + 7) = false)
    (hRframes : names.length + 3 < R.frames) (hRlocals : (rest.map fun v => v.category).sum + (13 * (names.length + 1) + 42) ≤ R.locals) (hRcells : cells + 1 ≤ R.cells) (hRslots : slots + 6 ≤ R.slots) (hlocks : meth.locks = false)
    (hx : ∀ t : State, s.vm.Alike t.vm → H.size ≤ t.heap.size → (∀ q : Nat, q < H.size → t.heap[q]? = H[q]?) → XC cls s t)
    (hf : ∀ z ∈ locs, free z.base) (hc : cells + 1 ≤ mc) (hs : slots + 6 ≤ ms) :
    W p l e R s m args below meth c H locs cells slots (vx_MQ below Qc XC args s mc ms free) (F0 m pc ls rest) := by
  intro T hT X
  have htr : e.platform.stackTraces = false := (show e.platform.stackTraces = l.stackTraces by rw [X.admits.platform]).trans hl
  have Y := vx_rebase X (R' := { frames := R.frames, locals := R.locals, cells := 1, slots := 6 }) (Nat.le_refl _) (Nat.le_refl _) hRcells hRslots
  obtain ⟨s', hA⟩ : ∃ z, z = (T.setVm s.vm).setFrames (.invoking m args :: below) := ⟨_, rfl⟩
  rw [← hA] at Y
  have hvm : s'.vm = s.vm := by rw [hA]; rfl
  have hhp : s'.heap = H := by rw [hA]; exact hT
  have hW0 : s.WarmedH s'.vm := by rw [hvm]; exact State.WarmedH.refl s
  have hat' : ∀ w ∈ vx_at0 own ic cls names, w.before args s' = true := fun w hw => vx_ot_at hW0 hvm.symm (hgood w (List.mem_cons_of_mem _ (List.mem_cons_of_mem _ hw))) (hat w hw)
  have hk' : (Cond.classLink own ik cls).before args s' = true := vx_ot_at hW0 hvm.symm (hgood _ List.mem_cons_self) hk
  have hini' : (Cond.initialized cls).before args s' = true := vx_ot_at hW0 hvm.symm (hgood _ (List.mem_cons_of_mem _ List.mem_cons_self)) hini
  have hU' : vx_Zq Bundle.tN "UNASSIGNED_STACK" Bundle.steD A s' s'.heap := by rw [hhp]; exact vx_Zq.moved hW0.alike (hU.kept hS.2.1)
  have hN' : vx_Zq Bundle.tN "SUPPRESSED_SENTINEL" Bundle.listD A s' s'.heap := by rw [hhp]; exact vx_Zq.moved hW0.alike (hN.kept hS.2.1)
  have h : ∀ w ∈ Bundle.ownAtoms0 own ic cls names, w.before args s' = true := vx_own hat' (vx_isRefq hU'.1) (vx_isRefq hN'.1) hU'.2.word hN'.2.word
  have hown' : s'.vm.findClass own = some m.cls := by rw [hvm]; exact hown
  have hins : (Cond.instantiable cls 6).before args s' = true := h _ (by simp [Bundle.ownAtoms0])
  obtain ⟨vm₁, cX, kX, hfX, hkX, -, -, X₁, st1⟩ := Y.newCold hexec (own := own) (C := cls) (index := ik) (n := 6) hown' hk' hins hini'
    (g := F0 m pc ls rest) rfl (by rw [hb]; exact d0) (Nat.le_refl _) (Nat.le_refl _)
  generalize hT1 : (T.setVm vm₁).pushCell { cls := cX, slots := kX.instanceTypes.map defaultValue, vm := .none } = T1 at X₁ st1
  have hcat : (Value.ref T.heap.size).category = 1 := rfl
  have hcellA : T1.heap[T.heap.size]? = some (freshCell cX kX) := by rw [← hT1]; exact State.heap_pushCell_size _ _
  have d3' : decode c.code (pc + 3) = .ok (.dup, 1) := by rw [hb]; exact d3
  obtain ⟨U, hsteps, hrun, hend, hW, hsame, ce, hce, hO⟩ := X₁.ctorThrow0 hexec htr (own := own) (cls := cls) (names := names) (ic := ic) hown' hcls hnames h (fun x hx => nomatch hx) hfX hkX hcellA (by rw [hhp, hT]; exact Nat.le_refl _)
    (g := { method := m, pc := pc + 4, locals := ls, stack := .ref T.heap.size :: .ref T.heap.size :: rest, locked := none }) rfl hsize rfl rfl (rest := rest) rfl
    (by rw [hb]; exact d4) (by rw [hb]; exact d7) hout hRframes (by simp only [List.map_cons, List.sum_cons, hcat]; omega) hlocks
  obtain ⟨f1, f2⟩ := vx_frame hsame
  rw [hhp] at f1 f2
  have hWs : s.WarmedH U.vm := State.WarmedH.trans hW0 hW
  have hcl : s.vm.findClass cls = some ce.cls := by
    have h9 := hO.cls
    rw [hvm] at h9
    exact h9
  have hall : s.sameButNew ({ U with vm := s.vm } : State) locs mc ms := by
    subst hA
    obtain ⟨e1, e2⟩ := hsame
    rw [State.setFrames_setFrames] at e1
    have h2 : (T.setVm s.vm).sameButNew ({ U with vm := s.vm } : State) [] (0 + 1) (0 + 6) := ⟨e1, e2⟩
    have h3 := X.same.trans h2
    rw [List.append_nil] at h3
    exact h3.mono hc hs
  refine ⟨U, ?_, .threw T.heap.size, hrun, hend, Or.inr ⟨T.heap.size, rfl, cls, ce, locs, hx U hWs.alike f1 (fun q hq => f2 q hq (fun z hz => nomatch hz)), hce, hO.vm, hcl, hWs, hall, hf⟩⟩
  refine st1 _ ?_
  show Steps p.tables e below (T1.setTop { method := m, pc := pc + 3, locals := ls, stack := .ref T.heap.size :: rest, locked := none }) _
  jvm_step X₁.here [X₁.here.top, hexec, d3', Value.category]
  exact hsteps
/-- 'throw new E("text")': new; dup; ldc; invokespecial; athrow -/
theorem vx_throwS {cc : ByteArray} {pc : Nat} (hexec : p.tables.exec = Jvm.exec) (hb : c.code = cc) (hl : l.stackTraces = false) {own cls text : String} {names : List String} {ik is ic mc ms sa : Nat} {A : Nat → Prop}
    (hown : s.vm.findClass own = some m.cls) (hcls : Bundle.fit cls = true) (hnames : ∀ n ∈ names, Bundle.fit n = true)
    (hk : (Cond.classLink own ik cls).before args s = true) (hini : (Cond.initialized cls).before args s = true) (hstr : vk_R own is text sa s) (hat : ∀ w ∈ vx_atS own ic cls names, w.before args s = true)
    (hgood : ∀ w ∈ Cond.classLink own ik cls :: Cond.initialized cls :: vx_atS own ic cls names, vx_ot w = true)
    (hU : vx_Zq Bundle.tN "UNASSIGNED_STACK" Bundle.steD A s s.heap) (hN : vx_Zq Bundle.tN "SUPPRESSED_SENTINEL" Bundle.listD A s s.heap) (hS : va_S A s.heap H locs) (hsize : ls.size = c.maxLocals)
    (d0 : decode cc pc = .ok (.new ik, 3)) (d3 : decode cc (pc + 3) = .ok (.dup, 1)) (d4 : decode cc (pc + 4) = .ok (.ldc is, 2)) (d6 : decode cc (pc + 6) = .ok (.invokespecial ic, 3)) (d9 : decode cc (pc + 9) = .ok (.athrow, 1))
    (hout : ∀ x ∈ c.exceptionTable.toList, covers x (pc + 9) = false)
    (hRframes : names.length + 3 < R.frames) (hRlocals : (rest.map fun v => v.category).sum + (13 * (names.length + 1) + 43) ≤ R.locals) (hRcells : cells + 1 ≤ R.cells) (hRslots : slots + 6 ≤ R.slots) (hlocks : meth.locks = false)
    (hx : ∀ t : State, s.vm.Alike t.vm → H.size ≤ t.heap.size → (∀ q : Nat, q < H.size → t.heap[q]? = H[q]?) → XC cls s t)
    (hf : ∀ z ∈ locs, free z.base) (hc : cells + 1 ≤ mc) (hs : slots + 6 ≤ ms) :
    W p l e R s m args below meth c H locs cells slots (vx_MQ below Qc XC args s mc ms free) (F0 m pc ls rest) := by
  intro T hT X
  have htr : e.platform.stackTraces = false := (show e.platform.stackTraces = l.stackTraces by rw [X.admits.platform]).trans hl
  have Y := vx_rebase X (R' := { frames := R.frames, locals := R.locals, cells := 1, slots := 6 }) (Nat.le_refl _) (Nat.le_refl _) hRcells hRslots
  obtain ⟨s', hA⟩ : ∃ z, z = (T.setVm s.vm).setFrames (.invoking m args :: below) := ⟨_, rfl⟩
  rw [← hA] at Y
  have hvm : s'.vm = s.vm := by rw [hA]; rfl
  have hhp : s'.heap = H := by rw [hA]; exact hT
  have hW0 : s.WarmedH s'.vm := by rw [hvm]; exact State.WarmedH.refl s
  have hat' : ∀ w ∈ vx_atS own ic cls names, w.before args s' = true := fun w hw => vx_ot_at hW0 hvm.symm (hgood w (List.mem_cons_of_mem _ (List.mem_cons_of_mem _ hw))) (hat w hw)
  have hk' : (Cond.classLink own ik cls).before args s' = true := vx_ot_at hW0 hvm.symm (hgood _ List.mem_cons_self) hk
  have hini' : (Cond.initialized cls).before args s' = true := vx_ot_at hW0 hvm.symm (hgood _ (List.mem_cons_of_mem _ List.mem_cons_self)) hini
  have hU' : vx_Zq Bundle.tN "UNASSIGNED_STACK" Bundle.steD A s' s'.heap := by rw [hhp]; exact vx_Zq.moved hW0.alike (hU.kept hS.2.1)
  have hN' : vx_Zq Bundle.tN "SUPPRESSED_SENTINEL" Bundle.listD A s' s'.heap := by rw [hhp]; exact vx_Zq.moved hW0.alike (hN.kept hS.2.1)
  have h : ∀ w ∈ Bundle.ownAtoms own ic cls names, w.before args s' = true := vx_own hat' (vx_isRefq hU'.1) (vx_isRefq hN'.1) hU'.2.word hN'.2.word
  have hown' : s'.vm.findClass own = some m.cls := by rw [hvm]; exact hown
  have hins : (Cond.instantiable cls 6).before args s' = true := h _ (by simp [Bundle.ownAtoms])
  obtain ⟨vm₁, cX, kX, hfX, hkX, -, -, X₁, st1⟩ := Y.newCold hexec (own := own) (C := cls) (index := ik) (n := 6) hown' hk' hins hini'
    (g := F0 m pc ls rest) rfl (by rw [hb]; exact d0) (Nat.le_refl _) (Nat.le_refl _)
  generalize hT1 : (T.setVm vm₁).pushCell { cls := cX, slots := kX.instanceTypes.map defaultValue, vm := .none } = T1 at X₁ st1
  have hcat : (Value.ref T.heap.size).category = 1 := rfl
  have hcellA : T1.heap[T.heap.size]? = some (freshCell cX kX) := by rw [← hT1]; exact State.heap_pushCell_size _ _
  have d3' : decode c.code (pc + 3) = .ok (.dup, 1) := by rw [hb]; exact d3
  have d4' : decode c.code (pc + 4) = .ok (.ldc is, 2) := by rw [hb]; exact d4
  have hstr' : vk_R own is text sa s' := vk_R.warm hW0 hstr
  obtain ⟨U, hsteps, hrun, hend, hW, hsame, ce, hce, hO⟩ := X₁.ctorThrowS hexec htr (own := own) (cls := cls) (names := names) (ic := ic) hown' hcls hnames h (fun x hx => nomatch hx) hfX hkX hcellA (by rw [hhp, hT]; exact Nat.le_refl _) (msg := .ref sa) rfl
    (g := { method := m, pc := pc + 6, locals := ls, stack := .ref sa :: .ref T.heap.size :: .ref T.heap.size :: rest, locked := none }) rfl hsize rfl rfl (rest := rest) rfl
    (by rw [hb]; exact d6) (by rw [hb]; exact d9) hout hRframes (by simp only [List.map_cons, List.sum_cons, hcat]; omega) hlocks
  obtain ⟨f1, f2⟩ := vx_frame hsame
  rw [hhp] at f1 f2
  have hWs : s.WarmedH U.vm := State.WarmedH.trans hW0 hW
  have hcl : s.vm.findClass cls = some ce.cls := by
    have h9 := hO.cls
    rw [hvm] at h9
    exact h9
  have hall : s.sameButNew ({ U with vm := s.vm } : State) locs mc ms := by
    subst hA
    obtain ⟨e1, e2⟩ := hsame
    rw [State.setFrames_setFrames] at e1
    have h2 : (T.setVm s.vm).sameButNew ({ U with vm := s.vm } : State) [] (0 + 1) (0 + 6) := ⟨e1, e2⟩
    have h3 := X.same.trans h2
    rw [List.append_nil] at h3
    exact h3.mono hc hs
  refine ⟨U, ?_, .threw T.heap.size, hrun, hend, Or.inr ⟨T.heap.size, rfl, cls, ce, locs, hx U hWs.alike f1 (fun q hq => f2 q hq (fun z hz => nomatch hz)), hce, hO.vm, hcl, hWs, hall, hf⟩⟩
  refine st1 _ ?_
  show Steps p.tables e below (T1.setTop { method := m, pc := pc + 3, locals := ls, stack := .ref T.heap.size :: rest, locked := none }) _
  jvm_step X₁.here [X₁.here.top, hexec, d3', Value.category]
  exact X₁.ldcString hexec (own := own) (text := text) (index := is) (a := sa) hown' hstr'.1 hstr'.2
    (g := { method := m, pc := pc + 4, locals := ls, stack := .ref T.heap.size :: .ref T.heap.size :: rest, locked := none }) rfl d4' _ hsteps
/-- 'throw new E("text")', the text by a wide index -/
theorem vx_throwSW {cc : ByteArray} {pc : Nat} (hexec : p.tables.exec = Jvm.exec) (hb : c.code = cc) (hl : l.stackTraces = false) {own cls text : String} {names : List String} {ik is ic mc ms sa : Nat} {A : Nat → Prop}
    (hown : s.vm.findClass own = some m.cls) (hcls : Bundle.fit cls = true) (hnames : ∀ n ∈ names, Bundle.fit n = true)
    (hk : (Cond.classLink own ik cls).before args s = true) (hini : (Cond.initialized cls).before args s = true) (hstr : vk_R own is text sa s) (hat : ∀ w ∈ vx_atS own ic cls names, w.before args s = true)
    (hgood : ∀ w ∈ Cond.classLink own ik cls :: Cond.initialized cls :: vx_atS own ic cls names, vx_ot w = true)
    (hU : vx_Zq Bundle.tN "UNASSIGNED_STACK" Bundle.steD A s s.heap) (hN : vx_Zq Bundle.tN "SUPPRESSED_SENTINEL" Bundle.listD A s s.heap) (hS : va_S A s.heap H locs) (hsize : ls.size = c.maxLocals)
    (d0 : decode cc pc = .ok (.new ik, 3)) (d3 : decode cc (pc + 3) = .ok (.dup, 1)) (d4 : decode cc (pc + 4) = .ok (.ldc_w is, 3)) (d7 : decode cc (pc + 7) = .ok (.invokespecial ic, 3)) (d10 : decode cc (pc + 10) = .ok (.athrow, 1))
    (hout : ∀ x ∈ c.exceptionTable.toList, covers x (pc + 10) = false)
    (hRframes : names.length + 3 < R.frames) (hRlocals : (rest.map fun v => v.category).sum + (13 * (names.length + 1) + 43) ≤ R.locals) (hRcells : cells + 1 ≤ R.cells) (hRslots : slots + 6 ≤ R.slots) (hlocks : meth.locks = false)
    (hx : ∀ t : State, s.vm.Alike t.vm → H.size ≤ t.heap.size → (∀ q : Nat, q < H.size → t.heap[q]? = H[q]?) → XC cls s t)
    (hf : ∀ z ∈ locs, free z.base) (hc : cells + 1 ≤ mc) (hs : slots + 6 ≤ ms) :
    W p l e R s m args below meth c H locs cells slots (vx_MQ below Qc XC args s mc ms free) (F0 m pc ls rest) := by
  intro T hT X
  have htr : e.platform.stackTraces = false := (show e.platform.stackTraces = l.stackTraces by rw [X.admits.platform]).trans hl
  have Y := vx_rebase X (R' := { frames := R.frames, locals := R.locals, cells := 1, slots := 6 }) (Nat.le_refl _) (Nat.le_refl _) hRcells hRslots
  obtain ⟨s', hA⟩ : ∃ z, z = (T.setVm s.vm).setFrames (.invoking m args :: below) := ⟨_, rfl⟩
  rw [← hA] at Y
  have hvm : s'.vm = s.vm := by rw [hA]; rfl
  have hhp : s'.heap = H := by rw [hA]; exact hT
  have hW0 : s.WarmedH s'.vm := by rw [hvm]; exact State.WarmedH.refl s
  have hat' : ∀ w ∈ vx_atS own ic cls names, w.before args s' = true := fun w hw => vx_ot_at hW0 hvm.symm (hgood w (List.mem_cons_of_mem _ (List.mem_cons_of_mem _ hw))) (hat w hw)
  have hk' : (Cond.classLink own ik cls).before args s' = true := vx_ot_at hW0 hvm.symm (hgood _ List.mem_cons_self) hk
  have hini' : (Cond.initialized cls).before args s' = true := vx_ot_at hW0 hvm.symm (hgood _ (List.mem_cons_of_mem _ List.mem_cons_self)) hini
  have hU' : vx_Zq Bundle.tN "UNASSIGNED_STACK" Bundle.steD A s' s'.heap := by rw [hhp]; exact vx_Zq.moved hW0.alike (hU.kept hS.2.1)
  have hN' : vx_Zq Bundle.tN "SUPPRESSED_SENTINEL" Bundle.listD A s' s'.heap := by rw [hhp]; exact vx_Zq.moved hW0.alike (hN.kept hS.2.1)
  have h : ∀ w ∈ Bundle.ownAtoms own ic cls names, w.before args s' = true := vx_own hat' (vx_isRefq hU'.1) (vx_isRefq hN'.1) hU'.2.word hN'.2.word
  have hown' : s'.vm.findClass own = some m.cls := by rw [hvm]; exact hown
  have hins : (Cond.instantiable cls 6).before args s' = true := h _ (by simp [Bundle.ownAtoms])
  obtain ⟨vm₁, cX, kX, hfX, hkX, -, -, X₁, st1⟩ := Y.newCold hexec (own := own) (C := cls) (index := ik) (n := 6) hown' hk' hins hini'
    (g := F0 m pc ls rest) rfl (by rw [hb]; exact d0) (Nat.le_refl _) (Nat.le_refl _)
  generalize hT1 : (T.setVm vm₁).pushCell { cls := cX, slots := kX.instanceTypes.map defaultValue, vm := .none } = T1 at X₁ st1
  have hcat : (Value.ref T.heap.size).category = 1 := rfl
  have hcellA : T1.heap[T.heap.size]? = some (freshCell cX kX) := by rw [← hT1]; exact State.heap_pushCell_size _ _
  have d3' : decode c.code (pc + 3) = .ok (.dup, 1) := by rw [hb]; exact d3
  have d4' : decode c.code (pc + 4) = .ok (.ldc_w is, 3) := by rw [hb]; exact d4
  have hstr' : vk_R own is text sa s' := vk_R.warm hW0 hstr
  obtain ⟨U, hsteps, hrun, hend, hW, hsame, ce, hce, hO⟩ := X₁.ctorThrowS hexec htr (own := own) (cls := cls) (names := names) (ic := ic) hown' hcls hnames h (fun x hx => nomatch hx) hfX hkX hcellA (by rw [hhp, hT]; exact Nat.le_refl _) (msg := .ref sa) rfl
    (g := { method := m, pc := pc + 7, locals := ls, stack := .ref sa :: .ref T.heap.size :: .ref T.heap.size :: rest, locked := none }) rfl hsize rfl rfl (rest := rest) rfl
    (by rw [hb]; exact d7) (by rw [hb]; exact d10) hout hRframes (by simp only [List.map_cons, List.sum_cons, hcat]; omega) hlocks
  obtain ⟨f1, f2⟩ := vx_frame hsame
  rw [hhp] at f1 f2
  have hWs : s.WarmedH U.vm := State.WarmedH.trans hW0 hW
  have hcl : s.vm.findClass cls = some ce.cls := by
    have h9 := hO.cls
    rw [hvm] at h9
    exact h9
  have hall : s.sameButNew ({ U with vm := s.vm } : State) locs mc ms := by
    subst hA
    obtain ⟨e1, e2⟩ := hsame
    rw [State.setFrames_setFrames] at e1
    have h2 : (T.setVm s.vm).sameButNew ({ U with vm := s.vm } : State) [] (0 + 1) (0 + 6) := ⟨e1, e2⟩
    have h3 := X.same.trans h2
    rw [List.append_nil] at h3
    exact h3.mono hc hs
  refine ⟨U, ?_, .threw T.heap.size, hrun, hend, Or.inr ⟨T.heap.size, rfl, cls, ce, locs, hx U hWs.alike f1 (fun q hq => f2 q hq (fun z hz => nomatch hz)), hce, hO.vm, hcl, hWs, hall, hf⟩⟩
  refine st1 _ ?_
  show Steps p.tables e below (T1.setTop { method := m, pc := pc + 3, locals := ls, stack := .ref T.heap.size :: rest, locked := none }) _
  jvm_step X₁.here [X₁.here.top, hexec, d3', Value.category]
  exact X₁.ldcStringW hexec (own := own) (text := text) (index := is) (a := sa) hown' hstr'.1 hstr'.2
    (g := { method := m, pc := pc + 4, locals := ls, stack := .ref T.heap.size :: .ref T.heap.size :: rest, locked := none }) rfl d4' _ hsteps
end Ends
section Bodies
variable {l : Launch}
theorem vx_ofW {y : MethodName} {ws ws' : List Cond} {rm : Room} {Pc : Array Value → State → Prop} {Qc : Array Value → State → Outcome → State → Prop} {XC : String → State → State → Prop} {mc ms : Nat} {free : Addr → Prop} {cc : ByteArray} {maxL : Nat} {ret : Option FieldType}
    (hy : plainName y.cls = true) (hw : ws = Cond.code y cc maxL ret :: ws')
    (body : ∀ p e s m args below meth c s₁, BodyLoose p l y (headSpec ws rm) cc maxL ret e s m args below meth c s₁ → c.maxLocals = maxL → (∀ x ∈ c.exceptionTable.toList, False) → Pc args s →
      W p l e (headSpec ws rm).room s m args below meth c s.heap [] 0 0 (vx_MQ below Qc XC args s mc ms free) (entryFrame m args maxL)) : vx_Met l y ws rm Pc Qc XC mc ms free := by
  refine MetFree.of_bodyS (code := cc) (maxLocals := maxL) (ret := ret) hy ?_ ?_
  · intro args s m h hn
    obtain ⟨meth, c, h1, h2, h3, h4, h5, h6, -, -⟩ := Cond.code_spec hn (atoms_spec (ws := ws) h _ (by rw [hw]; exact List.mem_cons_self))
    exact ⟨meth, c, h1, h2, h3, h4, h5, h6⟩
  · intro p e s m args below meth c s₁ B hml hP _
    have hh0 : s₁.heap = s.heap := by rw [B.state]; rfl
    have ht : ∀ x ∈ c.exceptionTable.toList, False := by
      obtain ⟨meth9, c9, h1, h2, -, -, -, -, h7, -⟩ := Cond.code_spec B.named (atoms_spec (ws := ws) B.pre _ (by rw [hw]; exact List.mem_cons_self))
      cases Option.some.inj (h1.symm.trans B.method)
      cases Option.some.inj (h2.symm.trans (Stand.of_body B).code)
      intro x hx
      rw [Array.isEmpty_iff.mp h7] at hx
      cases hx
    obtain ⟨t, a1, o, b1, b2, b3⟩ := body p e s m args below meth c s₁ B hml ht hP s₁ hh0 (Stand.of_body B)
    exact ⟨t, o, a1, b1, b2, b3⟩
/-- the table of a body with handlers -/
theorem vx_table {p : Program} {x y : MethodName} {S : Spec} {cc bytes : ByteArray} {maxL maxL' : Nat} {ret ret' : Option FieldType} {e : Env} {s s₁ : State} {m : MethodId} {args : Array Value} {below : List Frame} {meth : Method} {c : Code} {hh : List (Nat × Nat × Nat × Nat)}
    (B : BodyLoose p l y S cc maxL ret e s m args below meth c s₁) (h : (Cond.codeWith y bytes maxL' ret' hh).before args s = true) : c.exceptionTable.toList = tableOf hh := by
  obtain ⟨m9, meth9, c9, hn9, h1, h2, -, -, h6, -⟩ := Cond.codeWith_spec h
  cases Option.some.inj (hn9.symm.trans B.named)
  cases Option.some.inj (h1.symm.trans B.method)
  cases Option.some.inj (h2.symm.trans (Stand.of_body B).code)
  rw [← h6, table_eq]
end Bodies
end VXA
/-! ===== END ===== -/
/-! ===== BEGIN a static call of a method with an exception table ===== -/
section VXS
variable {p : Program} {l : Launch} {e : Env} {R : Room} {s : State} {m : MethodId} {args : Array Value} {below : List Frame} {meth : Method} {c : Code} {T : State} {H : Heap} {locs : List Loc} {cells slots : Nat}
abbrev vx_CSW (R : Room) (s : State) (args : Array Value) (own : String) (index : Nat) (y : MethodName) (bytes : ByteArray) (maxL : Nat) (ret : Option FieldType) (hh : List (Nat × Nat × Nat × Nat)) (ws : List Cond) (rm : Room) (mc ms n : Nat) : Prop :=
  (rm.cells = mc ∧ rm.slots = ms ∧ rm.frames + 1 ≤ R.frames ∧ 8 + (maxL + 11) + rm.locals ≤ R.locals ∧ (∀ w ∈ ws, ∀ (a' : Array Value) (U : State), s.WarmedH U.vm → w.before a' U = true) ∧ Cond.codeWith y bytes maxL ret hh ∈ ws) ∧
  (Cond.codeWith y bytes maxL ret hh).before args s = true ∧ (Cond.initialized y.cls).before args s = true ∧ (y.cls ≠ "java/lang/invoke/MethodHandle" ∧ y.cls ≠ "java/lang/invoke/VarHandle") ∧
  (∀ sig, parseMethodDescriptor y.desc = some sig → n = sig.parameters.length) ∧ (Cond.methodLink own index y).before args s = true ∧ (Cond.static y).before args s = true
theorem vx_cwSW {own : String} {index maxL mc ms : Nat} {y : MethodName} {bytes : ByteArray} {ret : Option FieldType} {hh : List (Nat × Nat × Nat × Nat)} {Ts ws ws' : List Cond} {rm : Room} (n : Nat) (ht : ∀ w ∈ Ts, w.before args s = true) (hT : GoodIn Ts (va_wsS own index y ws)) (hw : ws = Cond.codeWith y bytes maxL ret hh :: ws') (hrc : rm.cells = mc) (hrs : rm.slots = ms)
    (hd : y.cls ≠ "java/lang/invoke/MethodHandle" ∧ y.cls ≠ "java/lang/invoke/VarHandle" ∧ (parseMethodDescriptor y.desc).map (fun d => d.parameters.length) = some n) (hR : rm.frames + 1 ≤ R.frames ∧ 8 + (maxL + 11) + rm.locals ≤ R.locals) :
    vx_CSW R s args own index y bytes maxL ret hh ws rm mc ms n := by
  have ok : ∀ w ∈ va_wsS own index y ws, w.before args s = true := fun w h => ht w (hT w h).1
  have hG : GoodIn Ts ws := fun w h => hT w (by unfold va_wsS; exact List.mem_append_right _ h)
  have hc : Cond.codeWith y bytes maxL ret hh ∈ ws := by rw [hw]; exact List.mem_cons_self
  refine ⟨⟨hrc, hrs, hR.1, hR.2, pay_in ht hG, hc⟩, ht _ (hG _ hc).1, ok _ (by simp [va_wsS]), ⟨hd.1, hd.2.1⟩, fun sig h => ?_, ok _ (by simp [va_wsS]), ok _ (by simp [va_wsS])⟩
  have h2 := hd.2.2
  rw [h] at h2
  exact (Option.some.inj h2).symm
theorem vx_callSW (X : Stand p l e R s m args below meth c T locs cells slots) (hexec : p.tables.exec = Jvm.exec) {own : String} {index : Nat} {y : MethodName} {bytes : ByteArray} {maxL : Nat} {ret : Option FieldType} {hh : List (Nat × Nat × Nat × Nat)}
    (hown : s.vm.findClass own = some m.cls) (hlink : (Cond.methodLink own index y).before args s = true) (hstat : (Cond.static y).before args s = true) (hinit : (Cond.initialized y.cls).before args s = true)
    (hcode : (Cond.codeWith y bytes maxL ret hh).before args s = true) (hy : y.cls ≠ "java/lang/invoke/MethodHandle" ∧ y.cls ≠ "java/lang/invoke/VarHandle")
    {W9 : Nat} {Pre : Pt → Array Value → Prop} {Post : Pt → Array Value → Option Value → Pt → Prop} (hK : Back l R p e below s args y 3 W9 Pre Post)
    {g : JFrame} (hg : g.method = m) (hsize : g.locals.size = c.maxLocals) {argsL rest : List Value} (hlen : ∀ sig, parseMethodDescriptor y.desc = some sig → argsL.length = sig.parameters.length)
    (hstack : g.stack = argsL.reverse ++ rest) (hW : 2 * g.monitorRoom + (rest.map fun v => v.category).sum ≤ W9) (hdg : decode c.code g.pc = .ok (.invokestatic index, 3))
    (hpre : ∀ vm₁, s.WarmedH vm₁ → Pre ⟨T.setVm vm₁, locs, cells, slots⟩ argsL.toArray) :
    ∃ (v : Option Value) (vm₁ : Vm) (B : Pt), s.WarmedH vm₁ ∧ Stand p l e R s m args below meth c B.U B.locs B.cells B.slots ∧ Post ⟨T.setVm vm₁, locs, cells, slots⟩ argsL.toArray v B ∧
      ∀ target, Steps p.tables e below (B.U.setTop { g with pc := g.pc + 3, stack := v.toList ++ rest }) target → Steps p.tables e below (T.setTop g) target := by
  obtain ⟨mk, methM, cM, hnamed, hmethM, -, -, -, -, -, -, hsigM⟩ := Cond.codeWith_spec hcode
  have hstatic : methM.isStatic = true := Cond.static_spec hnamed hmethM hstat
  obtain ⟨kP, hkP, -⟩ := className_of_methodNamed hnamed
  have hinitP : kP.init = .initialized := Cond.initialized_spec (findClass_of_methodNamed hnamed) hkP hinit
  obtain ⟨vm₁, X₁, hstep₁⟩ := X.invokestatic hexec hown hlink hnamed hmethM hstatic hkP hinitP hy (g := g) hg (argsL := argsL) (rest := rest) (hlen _ hsigM) hstack hdg
  obtain ⟨v, B, X', hpost, hsteps⟩ := hK m meth c ⟨T.setVm vm₁, locs, cells, slots⟩ { g with stack := rest } (.invokestatic index) mk argsL.toArray X₁ hg hsize hdg hW (X₁.named hnamed) (hpre vm₁ X₁.warmed)
  exact ⟨v, vm₁, B, X₁.warmed, X', hpost, fun target h => hstep₁ _ fun acts => by rw [doInvoke_state]; exact hsteps.trans h⟩
theorem vx_runSW {y : MethodName} {bytes cc : ByteArray} {maxL nL mc ms n index : Nat} {ret : Option FieldType} {hh : List (Nat × Nat × Nat × Nat)} {ws : List Cond} {rm : Room} {Pc : Array Value → State → Prop} {Qc : Array Value → State → Outcome → State → Prop} {free : Addr → Prop} {Ts : List Cond} {own : String} {As rest : List Value} {g : JFrame}
    (S : CallFix p m c cc nL s args Ts own) (hM : Met l y ws rm Pc Qc mc ms free) (cw : vx_CSW R s args own index y bytes maxL ret hh ws rm mc ms n) (hp : PreS s H Pc As)
    (hg : g.method = m) (hn : As.length = n) (hsize : g.locals.size = nL) (hstack : g.stack = As.reverse ++ rest) (hW : 2 * g.monitorRoom + (rest.map fun v => v.category).sum ≤ 8) (hdg : decode cc g.pc = .ok (.invokestatic index, 3)) (hf : cells + mc ≤ R.cells ∧ slots + ms ≤ R.slots) :
    va_Run p l e R s m args below meth c H locs cells slots mc ms g rest (Qc As.toArray) (free) := by
  obtain ⟨⟨hrc, hrs, hfr, hlo, hws, hcw⟩, hcode, hini, hy, hlen, hl, hstt⟩ := cw
  have hK : Back l R p e below s args y 3 8 (PreOf R mc ms Pc) (PostOf Qc mc ms free) := va_backW (hh := hh) (bytes := bytes) (maxL := maxL) (ret := ret) hM hp.1 hrc hrs hfr hlo hws hcw (fun a' U hW => word_at hW (Or.inl (by first | rfl | simp [Cond.onTables, Cond.keeps, Cond.steady])) hini)
  obtain ⟨hx, hb, hml, ho, -⟩ := S
  intro T hT X
  obtain ⟨v, vm₁, ⟨U', l2, c2, s2⟩, hW₁, X', ⟨g', mk, t, L, e1, e2, hq, h1, hL, h2, h3⟩, st⟩ := vx_callSW X hx (hh := hh) (bytes := bytes) (maxL := maxL) (ret := ret) ho hl hstt hini hcode hy hK hg (hsize.trans hml.symm) (argsL := As) (rest := rest) (fun sig h => hn.trans (hlen sig h)) hstack hW (by rw [hb]; exact hdg)
    (fun vm₁ hW₁ => ⟨hf.1, hf.2, hp.2 (T.setVm vm₁) hT hW₁⟩)
  dsimp only [Pt.U, Pt.locs, Pt.cells, Pt.slots] at X' e1 e2 h1 h2 h3 st
  subst h1; subst h2; subst h3
  exact ⟨v, (T.setVm vm₁).calling g' mk As.toArray, t, U', L, hT, X', hL, e1, e2, hq, st⟩
/-- not caught here, past rows that name other classes: it goes on to the caller -/
theorem vx_outP {p : Program} {l : Launch} {e : Env} {R : Room} {s : State} {m : MethodId} {args : Array Value} {below : List Frame} {meth : Method} {c : Code} {H : Heap} {locs : List Loc} {cells slots : Nat} {free : Addr → Prop} {ls : Array Slot} {rest : List Value} {Qc : Array Value → State → Outcome → State → Prop} {XC : String → State → State → Prop}
    {pc : Nat} {own E : String} {ce : Cell} {q : Addr} {mc ms : Nat} (hown : s.vm.findClass own = some m.cls) (hlocks : meth.locks = false)
    (hpass : ∀ z ∈ c.exceptionTable.toList, covers z pc = false ∨ (z.catchType ≠ 0 ∧ ∃ nm : String, (Cond.classLink own z.catchType nm).before args s = true ∧ va_Nc E nm s)) (hcell : H[q]? = some ce) (hv : ce.vm = .none) (hcl : s.vm.findClass E = some ce.cls)
    (hx : ∀ t : State, t.heap = H → s.vm.Alike t.vm → XC E s t) (hf : ∀ z ∈ locs, free z.base) (hc : cells ≤ mc) (hs : slots ≤ ms) :
    vx_W p l e R s m args below meth c H locs cells slots (vx_MQ below Qc XC args s mc ms free) (F0 m pc ls rest) q := by
  intro T hT X
  have hpl : e.platform.magicAccessors = ({} : Platform).magicAccessors := by rw [X.admits.platform]
  obtain ⟨vm', hW', X', st⟩ := X.outThrough hlocks q (g := F0 m pc ls rest) rfl rfl rfl (cell := ce) (by rw [hT]; exact hcell) (by rw [hv]; rfl)
    (by obtain ⟨k9, h9, -⟩ := Vm.findClass_spec hcl; exact ⟨k9, h9⟩) (fun z hz => by
      rcases hpass z hz with h | ⟨hz0, nm, hl1, hn1⟩
      · exact Or.inl h
      · obtain ⟨c6, hc6, hcl6⟩ := Cond.classLink_spec hown hl1 e.platform hpl
        obtain ⟨a8, b8, h1, h2, h3⟩ := hn1
        cases Option.some.inj (h1.symm.trans hcl)
        cases Option.some.inj (h2.symm.trans hc6)
        exact Or.inr ⟨hz0, _, hcl6, h3⟩)
  obtain ⟨g₀, hfr⟩ := X'.frames_eq
  have hcell9 : ((T.setVm vm').setFrames (.throwing q :: below)).heap[q]? = some ce := by
    show T.heap[q]? = some ce
    rw [hT]; exact hcell
  have hend : Ended ((T.setVm vm').setFrames (.throwing q :: below)) below (.threw q) := State.frames_setFrames _ (State.cur_lt_of_frames hfr)
  refine ⟨(T.setVm vm').setFrames (.throwing q :: below), ?_, .threw q, X'.here.running, hend, Or.inr ⟨q, rfl, E, ce, locs, hx _ hT (X'.ends _).1.alike, hcell9, hv, hcl, (X'.ends _).1, (X'.ends _).2.mono hc hs, hf⟩⟩
  rw [X.pushThrowing_eq]
  exact st
/-- a thing of a world lies in the heap -/
theorem vx_lt {D : va_G} {cl : List vw_C} {ws : va_W} {H1 : Heap} (h : va_P D cl ws H1) {k : Nat} {q : Nat × va_E} (hk : ws[k]? = some q) : q.1 < H1.size := (h k q hk).lt
end VXS
/-! ===== END ===== -/
/-! ===== BEGIN methods with a table of their own: called by a name, returning or throwing ===== -/
section VXH
/-! vx_backW, vx_callVX, vx_callSX, vx_callVW, vx_runVW, vx_runVX, vx_runSX, vx_ofWH follow the same proofs as their sisters above (Free/Laws.lean, Shelf42/LK1.lean); vx_outP calls Shelf42/NT130.lean (outThrough). -/
section
variable {l : Launch} {R : Room} {p : Program} {e : Env} {below : List Frame} {s : State} {sargs : Array Value} {y : MethodName} {len W9 : Nat}
theorem vx_backW {ws : List Cond} {rm : Room} {Pc : Array Value → State → Prop} {Qc : Array Value → State → Outcome → State → Prop} {XC : String → State → State → Prop} {mc ms : Nat} {free : Addr → Prop} {bytes : ByteArray} {maxL : Nat} {ret : Option FieldType} {hh : List (Nat × Nat × Nat × Nat)}
    (hM : vx_Met l y ws rm Pc Qc XC mc ms free) (hblind : FrameBlind Pc) (hrc : rm.cells = mc) (hrs : rm.slots = ms)
    (hframes : rm.frames + 1 ≤ R.frames) (hlocals : W9 + (maxL + 11) + rm.locals ≤ R.locals)
    (hws : ∀ w ∈ ws, ∀ a' U, s.WarmedH U.vm → w.before a' U = true) (hcode : Cond.codeWith y bytes maxL ret hh ∈ ws) (hinit : ∀ a' U, s.WarmedH U.vm → (Cond.initialized y.cls).before a' U = true) :
    vx_Back l R p e below s sargs y len W9 (PreOf R mc ms Pc) (PostOf Qc mc ms free) (vx_Post XC mc ms free) := by
  intro m meth c A g ig mk a X hg hsize hdg hW hn hp
  have h1 : (headSpec ws rm).pre.before a A.U = true := atoms_intro fun w hw => hws w hw _ _ X.warmed
  have h2 : (Cond.codeWith y bytes maxL ret hh).before a A.U = true := hws _ hcode _ _ X.warmed
  have h3 : (Cond.initialized y.cls).before a A.U = true := hinit _ _ X.warmed
  have h4 : A.cells + (headSpec ws rm).room.cells ≤ R.cells := by rw [show (headSpec ws rm).room.cells = mc from hrc]; exact hp.1
  have h5 : A.slots + (headSpec ws rm).room.slots ≤ R.slots := by rw [show (headSpec ws rm).room.slots = ms from hrs]; exact hp.2.1
  have hPc : Pc a (A.U.calling g mk a) := hblind _ _ _ _ hp.2.2
  obtain ⟨U, Ls, c0, s0⟩ := A
  dsimp only [Pt.U, Pt.locs, Pt.cells, Pt.slots] at h1 h2 h3 h4 h5 X hn hPc ⊢
  obtain ⟨m9, methY, cY, hn9, hmY, hcY, -, hlY, -⟩ := Cond.codeWith_spec h2
  cases Option.some.inj (hn9.symm.trans hn)
  obtain ⟨kY, hkY, -⟩ := className_of_methodNamed hn
  have hinitY : kY.init = .initialized := Cond.initialized_spec (findClass_of_methodNamed hn) hkY h3
  have h : At U g.method c below := by rw [hg]; exact X.here
  have hlocals9 : W9 + (maxL + 11) + (headSpec ws rm).room.locals ≤ R.locals := hlocals
  have happ : (headSpec ws rm).appliesLoose y e.platform (U.calling g mk a) = true :=
    Spec.appliesLoose_calling (g := g) h hdg hn hkY hinitY
      (X.room_calling (g := g) (R' := (headSpec ws rm).room) hsize hmY hcY hframes (by rw [hlY]; omega) h4 h5) h1
  obtain ⟨mid, hmid⟩ := h.above
  have hfr : (U.setTop g).frames = (.java g :: mid) ++ below := by rw [State.frames_setTop' g h.top, hmid]; rfl
  obtain ⟨o, s₂, hsteps, -, hend, hq⟩ := Steps.callFree hM p X.admits X.cas X.clock (acts := []) hfr happ hPc trivial
  have hq' : vx_Q Qc XC mc ms free a (U.calling g mk a) o s₂ := hq
  rw [State.frames_setTop' g h.top] at hend
  obtain ⟨g₀, hg0⟩ := Option.isSome_iff_exists.mp h.top
  obtain ⟨r, hr⟩ := State.topJava?_eq_some.mp hg0
  have hr' : (({ U with heap := s₂.heap, slotsUsed := s₂.slotsUsed } : State).setVm s₂.vm).frames = .java g₀ :: r := hr
  rcases hq' with ⟨hqc, L, hfe, hL⟩ | ⟨q, rfl, E, ce, L, hx, hce, hcv, hcl, hW₂, hsm, hL⟩
  · obtain ⟨⟨v, rfl⟩, hW₂, e2, q2, q3, q4, q5, q6⟩ := id hfe
    have e3 : s₂ = ({ (U.calling g mk a).setFrames s₂.frames with heap := s₂.heap, slotsUsed := s₂.slotsUsed } : State).setVm s₂.vm := by
      have : s₂ = ({ s₂ with vm := (U.calling g mk a).vm } : State).setVm s₂.vm := rfl
      rw [e2] at this
      exact this
    obtain ⟨c₂, i₂, len₂, hc₂, hd₂, hf₂⟩ := hend
    have hW' : U.WarmedH s₂.vm := hW₂
    have hcc : c₂ = c := by
      have h1 : s₂.code? g.method = U.code? g.method := by
        rw [State.code?_eq, State.code?_eq, hW'.alike.method?]
      exact Option.some.inj (hc₂.symm.trans (h1.trans h.code))
    subst hcc
    have hlen : len₂ = len := by rw [hdg] at hd₂; cases hd₂; rfl
    subst hlen
    have hs₂ : s₂ = (({ U with heap := s₂.heap, slotsUsed := s₂.slotsUsed } : State).setVm s₂.vm).setTop { g with pc := g.pc + len₂, stack := v.toList ++ g.stack } := by
      refine e3.trans ?_
      rw [hf₂, State.calling_eq h.top, State.setFrames_setFrames, State.setTop_of_frames _ hr', hr]
      rfl
    have hsame : U.sameButNew ({ U with heap := s₂.heap, slotsUsed := s₂.slotsUsed } : State) L mc ms := by
      refine ⟨?_, q2, q3, q4, q5, q6⟩
      obtain ⟨t, ht, -⟩ := State.frames_cons hr
      show ({ U with heap := s₂.heap, slotsUsed := s₂.slotsUsed } : State) = { U.setFrames U.frames with heap := s₂.heap, slotsUsed := s₂.slotsUsed }
      rw [State.setFrames_self ht]
    subst hg
    refine Or.inl ⟨v, ⟨(({ U with heap := s₂.heap, slotsUsed := s₂.slotsUsed } : State).setVm s₂.vm), Ls ++ L, c0 + mc, s0 + ms⟩,
      ⟨X.admits, X.cas, X.clock, X.frames, X.room, X.hears, X.method, X.code, (X.here.setHeapUsed s₂.heap s₂.slotsUsed).setVm hW'.alike, X.tail, State.WarmedH.trans X.warmed hW', X.limits, X.bytes, X.same.trans (hsame.setVm s.vm)⟩,
      ⟨g, mk, s₂, L, rfl, rfl, hqc, rfl, hL, rfl, rfl⟩, ?_⟩
    show Steps p.tables e below _ ((({ U with heap := s₂.heap, slotsUsed := s₂.slotsUsed } : State).setVm s₂.vm).setTop { g with pc := g.pc + len₂, stack := v.toList ++ g.stack })
    rw [← hs₂]
    exact hsteps
  · obtain ⟨e2, q2, q3, q4, q5, q6⟩ := id hsm
    have e3 : s₂ = ({ (U.calling g mk a).setFrames s₂.frames with heap := s₂.heap, slotsUsed := s₂.slotsUsed } : State).setVm s₂.vm := by
      have : s₂ = ({ s₂ with vm := (U.calling g mk a).vm } : State).setVm s₂.vm := rfl
      rw [e2] at this
      exact this
    have hf₂ : s₂.frames = .throwing q :: .java g :: U.frames.tail := hend
    have hW' : U.WarmedH s₂.vm := hW₂
    have hs₂ : s₂ = ((({ U with heap := s₂.heap, slotsUsed := s₂.slotsUsed } : State).setVm s₂.vm).setTop g).pushFrame (.throwing q) := by
      refine e3.trans ?_
      rw [hf₂, State.calling_eq h.top, State.setFrames_setFrames, State.pushFrame, State.frames_setTop _ hr', State.setTop_of_frames _ hr', State.setFrames_setFrames, hr]
      rfl
    have hsame : U.sameButNew ({ U with heap := s₂.heap, slotsUsed := s₂.slotsUsed } : State) L mc ms := by
      refine ⟨?_, q2, q3, q4, q5, q6⟩
      obtain ⟨t, ht, -⟩ := State.frames_cons hr
      show ({ U with heap := s₂.heap, slotsUsed := s₂.slotsUsed } : State) = { U.setFrames U.frames with heap := s₂.heap, slotsUsed := s₂.slotsUsed }
      rw [State.setFrames_self ht]
    subst hg
    refine Or.inr ⟨q, ⟨(({ U with heap := s₂.heap, slotsUsed := s₂.slotsUsed } : State).setVm s₂.vm), Ls ++ L, c0 + mc, s0 + ms⟩,
      ⟨X.admits, X.cas, X.clock, X.frames, X.room, X.hears, X.method, X.code, (X.here.setHeapUsed s₂.heap s₂.slotsUsed).setVm hW'.alike, X.tail, State.WarmedH.trans X.warmed hW', X.limits, X.bytes, X.same.trans (hsame.setVm s.vm)⟩,
      ⟨g, mk, s₂, L, E, ce, rfl, rfl, hx, hce, hcv, hcl, rfl, hL, rfl, rfl⟩, ?_⟩
    show Steps p.tables e below _ (((({ U with heap := s₂.heap, slotsUsed := s₂.slotsUsed } : State).setVm s₂.vm).setTop g).pushFrame (.throwing q))
    rw [← hs₂]
    exact hsteps
end
variable {p : Program} {l : Launch} {e : Env} {R : Room} {s : State} {m : MethodId} {args : Array Value} {below : List Frame} {meth : Method} {c : Code} {T : State} {H : Heap} {locs : List Loc} {cells slots : Nat}
theorem vx_callVX (X : Stand p l e R s m args below meth c T locs cells slots) (hexec : p.tables.exec = Jvm.exec) {own C : String} {index : Nat} {y : MethodName} {bytes : ByteArray} {maxL : Nat} {ret : Option FieldType} {hh : List (Nat × Nat × Nat × Nat)}
    (hown : s.vm.findClass own = some m.cls) (hlink : (Cond.methodLink own index y).before args s = true) (hinst : (Cond.instanceMethod y).before args s = true) (hsel : (Cond.selects C y y).before args s = true)
    (hcode : (Cond.codeWith y bytes maxL ret hh).before args s = true) (hy : y.cls ≠ "java/lang/invoke/MethodHandle" ∧ y.cls ≠ "java/lang/invoke/VarHandle")
    {W9 : Nat} {Pre : Pt → Array Value → Prop} {Post : Pt → Array Value → Option Value → Pt → Prop} {PostX : Pt → Array Value → Addr → Pt → Prop} (hK : vx_Back l R p e below s args y 3 W9 Pre Post PostX)
    {b : Addr} {cellB : Cell} (hcell : T.heap[b]? = some cellB) (hobj : cellB.vm.isStatics = false) (hcls : s.vm.findClass C = some cellB.cls)
    {g : JFrame} (hg : g.method = m) (hsize : g.locals.size = c.maxLocals) {argsL rest : List Value} (hlen : ∀ sig, parseMethodDescriptor y.desc = some sig → argsL.length = sig.parameters.length)
    (hstack : g.stack = argsL.reverse ++ .ref b :: rest) (hW : 2 * g.monitorRoom + (rest.map fun v => v.category).sum ≤ W9) (hdg : decode c.code g.pc = .ok (.invokevirtual index, 3))
    (hpre : ∀ vm₁, s.WarmedH vm₁ → Pre ⟨T.setVm vm₁, locs, cells, slots⟩ (Value.ref b :: argsL).toArray) :
    (∃ (v : Option Value) (vm₁ : Vm) (B : Pt), s.WarmedH vm₁ ∧ Stand p l e R s m args below meth c B.U B.locs B.cells B.slots ∧ Post ⟨T.setVm vm₁, locs, cells, slots⟩ (Value.ref b :: argsL).toArray v B ∧
      ∀ target, Steps p.tables e below (B.U.setTop { g with pc := g.pc + 3, stack := v.toList ++ rest }) target → Steps p.tables e below (T.setTop g) target) ∨
    (∃ (q : Addr) (vm₁ : Vm) (B : Pt), s.WarmedH vm₁ ∧ Stand p l e R s m args below meth c B.U B.locs B.cells B.slots ∧ PostX ⟨T.setVm vm₁, locs, cells, slots⟩ (Value.ref b :: argsL).toArray q B ∧
      Steps p.tables e below (T.setTop g) ((B.U.setTop { g with stack := rest }).pushFrame (.throwing q))) := by
  obtain ⟨mk, methM, hnamed, hmethM, hstM, habM⟩ := Cond.instanceMethod_spec hinst
  obtain ⟨m8, methM', cM, hn8, hmethM', -, -, -, -, -, -, hsigM⟩ := Cond.codeWith_spec hcode
  cases Option.some.inj (hn8.symm.trans hnamed)
  cases hmethM.symm.trans hmethM'
  obtain ⟨c2, r2, m2, q1, q2, q3, q4, kP, hkP, hkPi⟩ := Cond.selects_spec hsel
  cases hcls.symm.trans q1
  cases (State.methodFound?_of_named hnamed hy).symm.trans q2
  cases hnamed.symm.trans q3
  have hselP : selectMethod e.platform s.vm cellB.cls mk = .method mk := by rw [Launch.admits_selectMethod X.admits]; exact q4
  obtain ⟨vm₁, X₁, hstep₁⟩ := X.invokevirtual hexec hown hlink hnamed hmethM hstM hkP hkPi hy (a := b) (cell := cellB) hcell
    (fun z h => by rw [h] at hobj; cases hobj) hselP hmethM habM hkP hkPi (g := g) hg (argsL := argsL) (rest := rest) (hlen _ hsigM) hstack hdg
  rcases hK m meth c ⟨T.setVm vm₁, locs, cells, slots⟩ { g with stack := rest } (.invokevirtual index) mk (Value.ref b :: argsL).toArray X₁ hg hsize hdg hW (X₁.named hnamed) (hpre vm₁ X₁.warmed) with ⟨v, B, X', hpost, hsteps⟩ | ⟨q, B, X', hpost, hsteps⟩
  · exact Or.inl ⟨v, vm₁, B, X₁.warmed, X', hpost, fun target h => hstep₁ _ fun acts => by rw [doInvoke_state]; exact hsteps.trans h⟩
  · exact Or.inr ⟨q, vm₁, B, X₁.warmed, X', hpost, hstep₁ _ fun acts => by rw [doInvoke_state]; exact hsteps⟩
theorem vx_callSX (X : Stand p l e R s m args below meth c T locs cells slots) (hexec : p.tables.exec = Jvm.exec) {own : String} {index : Nat} {y : MethodName} {bytes : ByteArray} {maxL : Nat} {ret : Option FieldType} {hh : List (Nat × Nat × Nat × Nat)}
    (hown : s.vm.findClass own = some m.cls) (hlink : (Cond.methodLink own index y).before args s = true) (hstat : (Cond.static y).before args s = true) (hinit : (Cond.initialized y.cls).before args s = true)
    (hcode : (Cond.codeWith y bytes maxL ret hh).before args s = true) (hy : y.cls ≠ "java/lang/invoke/MethodHandle" ∧ y.cls ≠ "java/lang/invoke/VarHandle")
    {W9 : Nat} {Pre : Pt → Array Value → Prop} {Post : Pt → Array Value → Option Value → Pt → Prop} {PostX : Pt → Array Value → Addr → Pt → Prop} (hK : vx_Back l R p e below s args y 3 W9 Pre Post PostX)
    {g : JFrame} (hg : g.method = m) (hsize : g.locals.size = c.maxLocals) {argsL rest : List Value} (hlen : ∀ sig, parseMethodDescriptor y.desc = some sig → argsL.length = sig.parameters.length)
    (hstack : g.stack = argsL.reverse ++ rest) (hW : 2 * g.monitorRoom + (rest.map fun v => v.category).sum ≤ W9) (hdg : decode c.code g.pc = .ok (.invokestatic index, 3))
    (hpre : ∀ vm₁, s.WarmedH vm₁ → Pre ⟨T.setVm vm₁, locs, cells, slots⟩ argsL.toArray) :
    (∃ (v : Option Value) (vm₁ : Vm) (B : Pt), s.WarmedH vm₁ ∧ Stand p l e R s m args below meth c B.U B.locs B.cells B.slots ∧ Post ⟨T.setVm vm₁, locs, cells, slots⟩ argsL.toArray v B ∧
      ∀ target, Steps p.tables e below (B.U.setTop { g with pc := g.pc + 3, stack := v.toList ++ rest }) target → Steps p.tables e below (T.setTop g) target) ∨
    (∃ (q : Addr) (vm₁ : Vm) (B : Pt), s.WarmedH vm₁ ∧ Stand p l e R s m args below meth c B.U B.locs B.cells B.slots ∧ PostX ⟨T.setVm vm₁, locs, cells, slots⟩ argsL.toArray q B ∧
      Steps p.tables e below (T.setTop g) ((B.U.setTop { g with stack := rest }).pushFrame (.throwing q))) := by
  obtain ⟨mk, methM, cM, hnamed, hmethM, -, -, -, -, -, -, hsigM⟩ := Cond.codeWith_spec hcode
  have hstatic : methM.isStatic = true := Cond.static_spec hnamed hmethM hstat
  obtain ⟨kP, hkP, -⟩ := className_of_methodNamed hnamed
  have hinitP : kP.init = .initialized := Cond.initialized_spec (findClass_of_methodNamed hnamed) hkP hinit
  obtain ⟨vm₁, X₁, hstep₁⟩ := X.invokestatic hexec hown hlink hnamed hmethM hstatic hkP hinitP hy (g := g) hg (argsL := argsL) (rest := rest) (hlen _ hsigM) hstack hdg
  rcases hK m meth c ⟨T.setVm vm₁, locs, cells, slots⟩ { g with stack := rest } (.invokestatic index) mk argsL.toArray X₁ hg hsize hdg hW (X₁.named hnamed) (hpre vm₁ X₁.warmed) with ⟨v, B, X', hpost, hsteps⟩ | ⟨q, B, X', hpost, hsteps⟩
  · exact Or.inl ⟨v, vm₁, B, X₁.warmed, X', hpost, fun target h => hstep₁ _ fun acts => by rw [doInvoke_state]; exact hsteps.trans h⟩
  · exact Or.inr ⟨q, vm₁, B, X₁.warmed, X', hpost, hstep₁ _ fun acts => by rw [doInvoke_state]; exact hsteps⟩
theorem vx_callVW (X : Stand p l e R s m args below meth c T locs cells slots) (hexec : p.tables.exec = Jvm.exec) {own C : String} {index : Nat} {y : MethodName} {bytes : ByteArray} {maxL : Nat} {ret : Option FieldType} {hh : List (Nat × Nat × Nat × Nat)}
    (hown : s.vm.findClass own = some m.cls) (hlink : (Cond.methodLink own index y).before args s = true) (hinst : (Cond.instanceMethod y).before args s = true) (hsel : (Cond.selects C y y).before args s = true)
    (hcode : (Cond.codeWith y bytes maxL ret hh).before args s = true) (hy : y.cls ≠ "java/lang/invoke/MethodHandle" ∧ y.cls ≠ "java/lang/invoke/VarHandle")
    {W9 : Nat} {Pre : Pt → Array Value → Prop} {Post : Pt → Array Value → Option Value → Pt → Prop} (hK : Back l R p e below s args y 3 W9 Pre Post)
    {b : Addr} {cellB : Cell} (hcell : T.heap[b]? = some cellB) (hobj : cellB.vm.isStatics = false) (hcls : s.vm.findClass C = some cellB.cls)
    {g : JFrame} (hg : g.method = m) (hsize : g.locals.size = c.maxLocals) {argsL rest : List Value} (hlen : ∀ sig, parseMethodDescriptor y.desc = some sig → argsL.length = sig.parameters.length)
    (hstack : g.stack = argsL.reverse ++ .ref b :: rest) (hW : 2 * g.monitorRoom + (rest.map fun v => v.category).sum ≤ W9) (hdg : decode c.code g.pc = .ok (.invokevirtual index, 3))
    (hpre : ∀ vm₁, s.WarmedH vm₁ → Pre ⟨T.setVm vm₁, locs, cells, slots⟩ (Value.ref b :: argsL).toArray) :
    ∃ (v : Option Value) (vm₁ : Vm) (B : Pt), s.WarmedH vm₁ ∧ Stand p l e R s m args below meth c B.U B.locs B.cells B.slots ∧ Post ⟨T.setVm vm₁, locs, cells, slots⟩ (Value.ref b :: argsL).toArray v B ∧
      ∀ target, Steps p.tables e below (B.U.setTop { g with pc := g.pc + 3, stack := v.toList ++ rest }) target → Steps p.tables e below (T.setTop g) target := by
  obtain ⟨mk, methM, hnamed, hmethM, hstM, habM⟩ := Cond.instanceMethod_spec hinst
  obtain ⟨m8, methM', cM, hn8, hmethM', -, -, -, -, -, -, hsigM⟩ := Cond.codeWith_spec hcode
  cases Option.some.inj (hn8.symm.trans hnamed)
  cases hmethM.symm.trans hmethM'
  obtain ⟨c2, r2, m2, q1, q2, q3, q4, kP, hkP, hkPi⟩ := Cond.selects_spec hsel
  cases hcls.symm.trans q1
  cases (State.methodFound?_of_named hnamed hy).symm.trans q2
  cases hnamed.symm.trans q3
  have hselP : selectMethod e.platform s.vm cellB.cls mk = .method mk := by rw [Launch.admits_selectMethod X.admits]; exact q4
  obtain ⟨vm₁, X₁, hstep₁⟩ := X.invokevirtual hexec hown hlink hnamed hmethM hstM hkP hkPi hy (a := b) (cell := cellB) hcell
    (fun z h => by rw [h] at hobj; cases hobj) hselP hmethM habM hkP hkPi (g := g) hg (argsL := argsL) (rest := rest) (hlen _ hsigM) hstack hdg
  obtain ⟨v, B, X', hpost, hsteps⟩ := hK m meth c ⟨T.setVm vm₁, locs, cells, slots⟩ { g with stack := rest } (.invokevirtual index) mk (Value.ref b :: argsL).toArray X₁ hg hsize hdg hW (X₁.named hnamed) (hpre vm₁ X₁.warmed)
  exact ⟨v, vm₁, B, X₁.warmed, X', hpost, fun target h => hstep₁ _ fun acts => by rw [doInvoke_state]; exact hsteps.trans h⟩
abbrev vx_CVW (R : Room) (s : State) (args : Array Value) (own C : String) (index : Nat) (y : MethodName) (bytes : ByteArray) (maxL : Nat) (ret : Option FieldType) (hh : List (Nat × Nat × Nat × Nat)) (ws : List Cond) (rm : Room) (mc ms n : Nat) : Prop :=
  (rm.cells = mc ∧ rm.slots = ms ∧ rm.frames + 1 ≤ R.frames ∧ 8 + (maxL + 11) + rm.locals ≤ R.locals ∧ (∀ w ∈ ws, ∀ (a' : Array Value) (U : State), s.WarmedH U.vm → w.before a' U = true) ∧ Cond.codeWith y bytes maxL ret hh ∈ ws) ∧
  (Cond.codeWith y bytes maxL ret hh).before args s = true ∧ (Cond.initialized y.cls).before args s = true ∧ (y.cls ≠ "java/lang/invoke/MethodHandle" ∧ y.cls ≠ "java/lang/invoke/VarHandle") ∧
  (∀ sig, parseMethodDescriptor y.desc = some sig → n = sig.parameters.length) ∧ (Cond.methodLink own index y).before args s = true ∧ (Cond.instanceMethod y).before args s = true ∧ (Cond.selects C y y).before args s = true
theorem vx_cwVW {own C : String} {index maxL mc ms : Nat} {y : MethodName} {bytes : ByteArray} {ret : Option FieldType} {hh : List (Nat × Nat × Nat × Nat)} {Ts ws ws' : List Cond} {rm : Room} (n : Nat) (ht : ∀ w ∈ Ts, w.before args s = true) (hT : GoodIn Ts (wsV own index C y ws)) (hw : ws = Cond.codeWith y bytes maxL ret hh :: ws') (hrc : rm.cells = mc) (hrs : rm.slots = ms)
    (hd : y.cls = C ∧ y.cls ≠ "java/lang/invoke/MethodHandle" ∧ y.cls ≠ "java/lang/invoke/VarHandle" ∧ (parseMethodDescriptor y.desc).map (fun d => d.parameters.length) = some n) (hR : rm.frames + 1 ≤ R.frames ∧ 8 + (maxL + 11) + rm.locals ≤ R.locals) :
    vx_CVW R s args own C index y bytes maxL ret hh ws rm mc ms n := by
  obtain ⟨hC, hd⟩ := hd
  subst hC
  have ok : ∀ w ∈ wsV own index y.cls y ws, w.before args s = true := fun w h => ht w (hT w h).1
  have hG : GoodIn Ts ws := fun w h => hT w (by unfold wsV; exact List.mem_append_right _ h)
  have hc : Cond.codeWith y bytes maxL ret hh ∈ ws := by rw [hw]; exact List.mem_cons_self
  refine ⟨⟨hrc, hrs, hR.1, hR.2, pay_in ht hG, hc⟩, ht _ (hG _ hc).1, ok _ (by simp [wsV]), ⟨hd.1, hd.2.1⟩, fun sig h => ?_, ok _ (by simp [wsV]), ok _ (by simp [wsV]), ok _ (by simp [wsV])⟩
  have h2 := hd.2.2
  rw [h] at h2
  exact (Option.some.inj h2).symm
theorem vx_runVW {y : MethodName} {bytes cc : ByteArray} {maxL nL mc ms n index : Nat} {ret : Option FieldType} {hh : List (Nat × Nat × Nat × Nat)} {ws : List Cond} {rm : Room} {Pc : Array Value → State → Prop} {Qc : Array Value → State → Outcome → State → Prop} {free : Addr → Prop} {Ts : List Cond} {own C : String} {b : Addr} {As rest : List Value} {g : JFrame}
    (S : CallFix p m c cc nL s args Ts own) (hM : Met l y ws rm Pc Qc mc ms free) (cw : vx_CVW R s args own C index y bytes maxL ret hh ws rm mc ms n) (hp : PreV s H C b Pc As)
    (hg : g.method = m) (hn : As.length = n) (hsize : g.locals.size = nL) (hstack : g.stack = As.reverse ++ .ref b :: rest) (hW : 2 * g.monitorRoom + (rest.map fun v => v.category).sum ≤ 8) (hdg : decode cc g.pc = .ok (.invokevirtual index, 3)) (hf : cells + mc ≤ R.cells ∧ slots + ms ≤ R.slots) :
    va_Run p l e R s m args below meth c H locs cells slots mc ms g rest (Qc (Value.ref b :: As).toArray) free := by
  obtain ⟨⟨hrc, hrs, hfr, hlo, hws, hcw⟩, hcode, hini, hy, hlen, hl, hin, hse⟩ := cw
  have hK : Back l R p e below s args y 3 8 (PreOf R mc ms Pc) (PostOf Qc mc ms free) := va_backW (hh := hh) (bytes := bytes) (maxL := maxL) (ret := ret) hM hp.1 hrc hrs hfr hlo hws hcw (fun a' U hW => word_at hW (Or.inl (by first | rfl | simp [Cond.onTables, Cond.keeps, Cond.steady])) hini)
  obtain ⟨hx, hb, hml, ho, -⟩ := S
  obtain ⟨-, ⟨cellB, hcB, hoB, hclB⟩, hPc⟩ := hp
  intro T hT X
  obtain ⟨v, vm₁, ⟨U', l2, c2, s2⟩, hW₁, X', ⟨g', mk, t, L, e1, e2, hq, h1, hL, h2, h3⟩, st⟩ := vx_callVW X hx (C := C) (hh := hh) (bytes := bytes) (maxL := maxL) (ret := ret) ho hl hin hse hcode hy hK (by rw [hT]; exact hcB) hoB hclB hg (hsize.trans hml.symm) (argsL := As) (rest := rest) (fun sig h => hn.trans (hlen sig h)) hstack hW (by rw [hb]; exact hdg)
    (fun vm₁ hW₁ => ⟨hf.1, hf.2, hPc (T.setVm vm₁) hT hW₁⟩)
  dsimp only [Pt.U, Pt.locs, Pt.cells, Pt.slots] at X' e1 e2 h1 h2 h3 st
  subst h1; subst h2; subst h3
  exact ⟨v, (T.setVm vm₁).calling g' mk (Value.ref b :: As).toArray, t, U', L, hT, X', hL, e1, e2, hq, st⟩
section
variable {y : MethodName} {bytes cc : ByteArray} {maxL nL mc ms n index : Nat} {ret : Option FieldType} {ws : List Cond} {rm : Room} {Pc : Array Value → State → Prop} {Qc : Array Value → State → Outcome → State → Prop} {XC : String → State → State → Prop} {free : Addr → Prop} {Ts : List Cond} {own C : String} {b : Addr} {As rest : List Value} {g : JFrame}
theorem vx_runVX {hh : List (Nat × Nat × Nat × Nat)} (S : CallFix p m c cc nL s args Ts own) (hM : vx_Met l y ws rm Pc Qc XC mc ms free) (cw : vx_CVW R s args own C index y bytes maxL ret hh ws rm mc ms n) (hp : PreV s H C b Pc As)
    (hg : g.method = m) (hn : As.length = n) (hsize : g.locals.size = nL) (hstack : g.stack = As.reverse ++ .ref b :: rest) (hW : 2 * g.monitorRoom + (rest.map fun v => v.category).sum ≤ 8) (hdg : decode cc g.pc = .ok (.invokevirtual index, 3)) (hf : cells + mc ≤ R.cells ∧ slots + ms ≤ R.slots) :
    vx_Run p l e R s m args below meth c H locs cells slots mc ms g rest (Qc (Value.ref b :: As).toArray) XC free := by
  obtain ⟨⟨hrc, hrs, hfr, hlo, hws, hcw⟩, hcode, hini, hy, hlen, hl, hin, hse⟩ := cw
  have hK : vx_Back l R p e below s args y 3 8 (PreOf R mc ms Pc) (PostOf Qc mc ms free) (vx_Post XC mc ms free) := vx_backW (hh := hh) (bytes := bytes) (maxL := maxL) (ret := ret) hM hp.1 hrc hrs hfr hlo hws hcw (fun a' U hW => word_at hW (Or.inl (by first | rfl | simp [Cond.onTables, Cond.keeps, Cond.steady])) hini)
  obtain ⟨hx, hb, hml, ho, -⟩ := S
  obtain ⟨-, ⟨cellB, hcB, hoB, hclB⟩, hPc⟩ := hp
  intro T hT X
  rcases vx_callVX X hx (C := C) (hh := hh) (bytes := bytes) (maxL := maxL) (ret := ret) ho hl hin hse hcode hy hK (by rw [hT]; exact hcB) hoB hclB hg (hsize.trans hml.symm) (argsL := As) (rest := rest) (fun sig h => hn.trans (hlen sig h)) hstack hW (by rw [hb]; exact hdg)
    (fun vm₁ hW₁ => ⟨hf.1, hf.2, hPc (T.setVm vm₁) hT hW₁⟩) with ⟨v, vm₁, ⟨U', l2, c2, s2⟩, hW₁, X', ⟨g', mk, t, L, e1, e2, hq, h1, hL, h2, h3⟩, st⟩ | ⟨q, vm₁, ⟨U', l2, c2, s2⟩, hW₁, X', ⟨g', mk, t, L, E, ce, e1, e2, hq, hce, hcv, hcl, h1, hL, h2, h3⟩, st⟩
  · dsimp only [Pt.U, Pt.locs, Pt.cells, Pt.slots] at X' e1 e2 h1 h2 h3 st
    subst h1; subst h2; subst h3
    exact Or.inl ⟨v, (T.setVm vm₁).calling g' mk (Value.ref b :: As).toArray, t, U', L, hT, X', hL, e1, e2, hq, st⟩
  · dsimp only [Pt.U, Pt.locs, Pt.cells, Pt.slots] at X' e1 e2 h1 h2 h3 st hcl
    subst h1; subst h2; subst h3
    exact Or.inr ⟨q, (T.setVm vm₁).calling g' mk (Value.ref b :: As).toArray, t, U', L, E, ce, hT, X', hL, e1, e2, hq, hce, hcv, vx_cls hW₁ hcl, st⟩
theorem vx_runSX {hh : List (Nat × Nat × Nat × Nat)} (S : CallFix p m c cc nL s args Ts own) (hM : vx_Met l y ws rm Pc Qc XC mc ms free) (cw : vx_CSW R s args own index y bytes maxL ret hh ws rm mc ms n) (hp : PreS s H Pc As)
    (hg : g.method = m) (hn : As.length = n) (hsize : g.locals.size = nL) (hstack : g.stack = As.reverse ++ rest) (hW : 2 * g.monitorRoom + (rest.map fun v => v.category).sum ≤ 8) (hdg : decode cc g.pc = .ok (.invokestatic index, 3)) (hf : cells + mc ≤ R.cells ∧ slots + ms ≤ R.slots) :
    vx_Run p l e R s m args below meth c H locs cells slots mc ms g rest (Qc As.toArray) XC free := by
  obtain ⟨⟨hrc, hrs, hfr, hlo, hws, hcw⟩, hcode, hini, hy, hlen, hl, hstt⟩ := cw
  have hK : vx_Back l R p e below s args y 3 8 (PreOf R mc ms Pc) (PostOf Qc mc ms free) (vx_Post XC mc ms free) := vx_backW (hh := hh) (bytes := bytes) (maxL := maxL) (ret := ret) hM hp.1 hrc hrs hfr hlo hws hcw (fun a' U hW => word_at hW (Or.inl (by first | rfl | simp [Cond.onTables, Cond.keeps, Cond.steady])) hini)
  obtain ⟨hx, hb, hml, ho, -⟩ := S
  intro T hT X
  rcases vx_callSX X hx (hh := hh) (bytes := bytes) (maxL := maxL) (ret := ret) ho hl hstt hini hcode hy hK hg (hsize.trans hml.symm) (argsL := As) (rest := rest) (fun sig h => hn.trans (hlen sig h)) hstack hW (by rw [hb]; exact hdg)
    (fun vm₁ hW₁ => ⟨hf.1, hf.2, hp.2 (T.setVm vm₁) hT hW₁⟩) with ⟨v, vm₁, ⟨U', l2, c2, s2⟩, hW₁, X', ⟨g', mk, t, L, e1, e2, hq, h1, hL, h2, h3⟩, st⟩ | ⟨q, vm₁, ⟨U', l2, c2, s2⟩, hW₁, X', ⟨g', mk, t, L, E, ce, e1, e2, hq, hce, hcv, hcl, h1, hL, h2, h3⟩, st⟩
  · dsimp only [Pt.U, Pt.locs, Pt.cells, Pt.slots] at X' e1 e2 h1 h2 h3 st
    subst h1; subst h2; subst h3
    exact Or.inl ⟨v, (T.setVm vm₁).calling g' mk As.toArray, t, U', L, hT, X', hL, e1, e2, hq, st⟩
  · dsimp only [Pt.U, Pt.locs, Pt.cells, Pt.slots] at X' e1 e2 h1 h2 h3 st hcl
    subst h1; subst h2; subst h3
    exact Or.inr ⟨q, (T.setVm vm₁).calling g' mk As.toArray, t, U', L, E, ce, hT, X', hL, e1, e2, hq, hce, hcv, vx_cls hW₁ hcl, st⟩
end
end VXH
theorem vx_ofWH {l : Launch} {y : MethodName} {ws ws' : List Cond} {rm : Room} {Pc : Array Value → State → Prop} {Qc : Array Value → State → Outcome → State → Prop} {XC : String → State → State → Prop} {mc ms : Nat} {free : Addr → Prop} {cc : ByteArray} {maxL : Nat} {ret : Option FieldType} {hh : List (Nat × Nat × Nat × Nat)}
    (hy : plainName y.cls = true) (hw : ws = Cond.codeWith y cc maxL ret hh :: ws')
    (body : ∀ p e s m args below meth c s₁, BodyLoose p l y (headSpec ws rm) cc maxL ret e s m args below meth c s₁ → c.maxLocals = maxL → Pc args s →
      W p l e (headSpec ws rm).room s m args below meth c s.heap [] 0 0 (vx_MQ below Qc XC args s mc ms free) (entryFrame m args maxL)) : vx_Met l y ws rm Pc Qc XC mc ms free := by
  refine MetFree.of_bodyS (code := cc) (maxLocals := maxL) (ret := ret) hy ?_ ?_
  · intro args s m h hn
    obtain ⟨m9, meth, c, hn9, h1, h2, h3, h4, -, h5, h6, -⟩ := Cond.codeWith_spec (atoms_spec (ws := ws) h _ (by rw [hw]; exact List.mem_cons_self))
    cases hn.symm.trans hn9
    exact ⟨meth, c, h1, h2, h3, h4, h5, h6⟩
  · intro p e s m args below meth c s₁ B hml hP _
    have hh0 : s₁.heap = s.heap := by rw [B.state]; rfl
    obtain ⟨t, a1, o, b1, b2, b3⟩ := body p e s m args below meth c s₁ B hml hP s₁ hh0 (Stand.of_body B)
    exact ⟨t, o, a1, b1, b2, b3⟩
/-! ===== END ===== -/
end
section
def RX0 : String := "RoofDrains$RainText"
def TX0 : u_T := fun k => match k with
  | 0 => ("RoofDrains$RainText", "codes", "[I", true)
  | _ => ("RoofDrains$RainText", "length", "I", false)
def tyX0 : Nat → FieldType := fun k => match k with
  | 0 => .array .int
  | _ => .int
abbrev wsX00 : List Cond := u_ws RX0 TX0 2
theorem nmX0 : ∀ a, a < 2 → ∀ b, b < 2 → a ≠ b → (TX0 a).2.1 ≠ (TX0 b).2.1 := by decide +kernel
theorem tyX0_ok : ∀ k, k < 2 → parseFieldDescriptor (TX0 k).2.2.1 = some (tyX0 k) := by decide +kernel
abbrev cX0_init : ByteArray := prog_2_method_1_code
def yX0_init : MethodName := ⟨RX0, "<init>", "()V"⟩
abbrev cX0_length : ByteArray := prog_2_method_2_code
def yX0_length : MethodName := ⟨RX0, "length", "()I"⟩
abbrev cX0_isFull : ByteArray := prog_2_method_3_code
def yX0_isFull : MethodName := ⟨RX0, "isFull", "()Z"⟩
abbrev cX0_add : ByteArray := prog_2_method_4_code
def yX0_add : MethodName := ⟨RX0, "add", "(I)V"⟩
abbrev cX0_empty : ByteArray := prog_2_method_5_code
def yX0_empty : MethodName := ⟨RX0, "empty", "()V"⟩
abbrev cX0_codeAt : ByteArray := prog_2_method_6_code
def yX0_codeAt : MethodName := ⟨RX0, "codeAt", "(I)I"⟩
abbrev cX0_firstWrong : ByteArray := prog_2_method_7_code
def yX0_firstWrong : MethodName := ⟨RX0, "firstWrong", "()I"⟩
abbrev cX0_isComplete : ByteArray := prog_2_method_8_code
def yX0_isComplete : MethodName := ⟨RX0, "isComplete", "()Z"⟩
abbrev cX0_mayEnd : ByteArray := prog_2_method_9_code
def yX0_mayEnd : MethodName := ⟨RX0, "mayEnd", "(I)Z"⟩
abbrev cX0_dueAfter : ByteArray := prog_2_method_10_code
def yX0_dueAfter : MethodName := ⟨RX0, "dueAfter", "(II)I"⟩
abbrev cX0_dueAfterFirst : ByteArray := prog_2_method_11_code
def yX0_dueAfterFirst : MethodName := ⟨RX0, "dueAfterFirst", "(I)I"⟩
abbrev cX0_dueAfterStar : ByteArray := prog_2_method_12_code
def yX0_dueAfterStar : MethodName := ⟨RX0, "dueAfterStar", "(I)I"⟩
abbrev cX0_dueAfterMinutesDigit : ByteArray := prog_2_method_13_code
def yX0_dueAfterMinutesDigit : MethodName := ⟨RX0, "dueAfterMinutesDigit", "(I)I"⟩
abbrev cX0_playOn : ByteArray := prog_2_method_14_code
def yX0_playOn : MethodName := ⟨RX0, "playOn", "(LRoofDrains$Roof;)V"⟩
abbrev cX0_playPart : ByteArray := prog_2_method_15_code
def yX0_playPart : MethodName := ⟨RX0, "playPart", "(LRoofDrains$Roof;III)V"⟩
abbrev cX0_cleanOn : ByteArray := prog_2_method_16_code
def yX0_cleanOn : MethodName := ⟨RX0, "cleanOn", "(LRoofDrains$Roof;I)V"⟩
def RX1 : String := "RoofDrains$Roof"
def TX1 : u_T := fun k => match k with
  | 0 => ("RoofDrains$Roof", "area", "[I", true)
  | 1 => ("RoofDrains$Roof", "slope", "[I", true)
  | 2 => ("RoofDrains$Roof", "leadsTo", "[I", true)
  | 3 => ("RoofDrains$Roof", "onPlane", "[I", true)
  | 4 => ("RoofDrains$Roof", "size", "[I", true)
  | 5 => ("RoofDrains$Roof", "bore", "[I", true)
  | 6 => ("RoofDrains$Roof", "leaves", "[I", true)
  | 7 => ("RoofDrains$Roof", "valleyTo", "[I", true)
  | 8 => ("RoofDrains$Roof", "inGutter", "[I", true)
  | 9 => ("RoofDrains$Roof", "spilt", "[I", true)
  | 10 => ("RoofDrains$Roof", "drained", "[I", true)
  | 11 => ("RoofDrains$Roof", "values", "[I", true)
  | 12 => ("RoofDrains$Roof", "minutesGone", "I", false)
  | 13 => ("RoofDrains$Roof", "weeksPassed", "I", false)
  | 14 => ("RoofDrains$Roof", "rained", "I", false)
  | _ => ("RoofDrains$Roof", "backedUp", "I", false)
def tyX1 : Nat → FieldType := fun k => match k with
  | 0 => .array .int
  | 1 => .array .int
  | 2 => .array .int
  | 3 => .array .int
  | 4 => .array .int
  | 5 => .array .int
  | 6 => .array .int
  | 7 => .array .int
  | 8 => .array .int
  | 9 => .array .int
  | 10 => .array .int
  | 11 => .array .int
  | 12 => .int
  | 13 => .int
  | 14 => .int
  | _ => .int
abbrev wsX10 : List Cond := u_ws RX1 TX1 16
theorem nmX1 : ∀ a, a < 16 → ∀ b, b < 16 → a ≠ b → (TX1 a).2.1 ≠ (TX1 b).2.1 := by decide +kernel
theorem tyX1_ok : ∀ k, k < 16 → parseFieldDescriptor (TX1 k).2.2.1 = some (tyX1 k) := by decide +kernel
abbrev cX1_init : ByteArray := prog_3_method_1_code
def yX1_init : MethodName := ⟨RX1, "<init>", "()V"⟩
abbrev cX1_copyFrom : ByteArray := prog_3_method_2_code
def yX1_copyFrom : MethodName := ⟨RX1, "copyFrom", "(LRoofDrains$Roof;)V"⟩
abbrev cX1_changePlane : ByteArray := prog_3_method_3_code
def yX1_changePlane : MethodName := ⟨RX1, "changePlane", "(IIII)I"⟩
abbrev cX1_changeGutter : ByteArray := prog_3_method_4_code
def yX1_changeGutter : MethodName := ⟨RX1, "changeGutter", "(III)I"⟩
abbrev cX1_changeValley : ByteArray := prog_3_method_5_code
def yX1_changeValley : MethodName := ⟨RX1, "changeValley", "(II)I"⟩
abbrev cX1_takeLeaves : ByteArray := prog_3_method_6_code
def yX1_takeLeaves : MethodName := ⟨RX1, "takeLeaves", "(I)I"⟩
abbrev cX1_changeSetting : ByteArray := prog_3_method_7_code
def yX1_changeSetting : MethodName := ⟨RX1, "changeSetting", "(II)I"⟩
abbrev cX1_valleysLead : ByteArray := prog_3_method_8_code
def yX1_valleysLead : MethodName := ⟨RX1, "valleysLead", "(II)Z"⟩
abbrev cX1_passMinutes : ByteArray := prog_3_method_9_code
def yX1_passMinutes : MethodName := ⟨RX1, "passMinutes", "(II)V"⟩
abbrev cX1_passMinute : ByteArray := prog_3_method_10_code
def yX1_passMinute : MethodName := ⟨RX1, "passMinute", "(I)V"⟩
abbrev cX1_passWeek : ByteArray := prog_3_method_11_code
def yX1_passWeek : MethodName := ⟨RX1, "passWeek", "()V"⟩
abbrev cX1_wetPlane : ByteArray := prog_3_method_12_code
def yX1_wetPlane : MethodName := ⟨RX1, "wetPlane", "(II)V"⟩
abbrev cX1_emptyIntoDrain : ByteArray := prog_3_method_13_code
def yX1_emptyIntoDrain : MethodName := ⟨RX1, "emptyIntoDrain", "()V"⟩
abbrev cX1_overflow : ByteArray := prog_3_method_14_code
def yX1_overflow : MethodName := ⟨RX1, "overflow", "(I)V"⟩
abbrev cX1_room : ByteArray := prog_3_method_15_code
def yX1_room : MethodName := ⟨RX1, "room", "(I)I"⟩
abbrev cX1_pipeTakes : ByteArray := prog_3_method_16_code
def yX1_pipeTakes : MethodName := ⟨RX1, "pipeTakes", "(I)I"⟩
abbrev cX1_planeNumber : ByteArray := prog_3_method_17_code
def yX1_planeNumber : MethodName := ⟨RX1, "planeNumber", "(II)I"⟩
abbrev cX1_gutterNumber : ByteArray := prog_3_method_18_code
def yX1_gutterNumber : MethodName := ⟨RX1, "gutterNumber", "(II)I"⟩
abbrev cX1_hasLeaves : ByteArray := prog_3_method_19_code
def yX1_hasLeaves : MethodName := ⟨RX1, "hasLeaves", "(I)Z"⟩
abbrev cX1_lowestThatSpiltMoreThanIn : ByteArray := prog_3_method_20_code
def yX1_lowestThatSpiltMoreThanIn : MethodName := ⟨RX1, "lowestThatSpiltMoreThanIn", "(LRoofDrains$Roof;)I"⟩
abbrev cX1_settingValue : ByteArray := prog_3_method_21_code
def yX1_settingValue : MethodName := ⟨RX1, "settingValue", "(I)I"⟩
abbrev cX1_minutesGone : ByteArray := prog_3_method_22_code
def yX1_minutesGone : MethodName := ⟨RX1, "minutesGone", "()I"⟩
abbrev cX1_weeksPassed : ByteArray := prog_3_method_23_code
def yX1_weeksPassed : MethodName := ⟨RX1, "weeksPassed", "()I"⟩
abbrev cX1_rainedLitres : ByteArray := prog_3_method_24_code
def yX1_rainedLitres : MethodName := ⟨RX1, "rainedLitres", "()I"⟩
abbrev cX1_backedUpMinutes : ByteArray := prog_3_method_25_code
def yX1_backedUpMinutes : MethodName := ⟨RX1, "backedUpMinutes", "()I"⟩
abbrev cX1_standingLitres : ByteArray := prog_3_method_26_code
def yX1_standingLitres : MethodName := ⟨RX1, "standingLitres", "()I"⟩
abbrev cX1_drainedLitres : ByteArray := prog_3_method_27_code
def yX1_drainedLitres : MethodName := ⟨RX1, "drainedLitres", "()I"⟩
abbrev cX1_spiltLitres : ByteArray := prog_3_method_28_code
def yX1_spiltLitres : MethodName := ⟨RX1, "spiltLitres", "()I"⟩
abbrev cX1_leavesTogether : ByteArray := prog_3_method_29_code
def yX1_leavesTogether : MethodName := ⟨RX1, "leavesTogether", "()I"⟩
abbrev cX1_sumOf : ByteArray := prog_3_method_30_code
def yX1_sumOf : MethodName := ⟨RX1, "sumOf", "([I)I"⟩
def RX2 : String := "RoofDrains$SavedRoofs"
def TX2 : u_T := fun k => match k with
  | 0 => ("RoofDrains$SavedRoofs", "rows", "[LRoofDrains$Roof;", true)
  | 1 => ("RoofDrains$SavedRoofs", "oldest", "I", false)
  | _ => ("RoofDrains$SavedRoofs", "held", "I", false)
def tyX2 : Nat → FieldType := fun k => match k with
  | 0 => .array (.object "RoofDrains$Roof")
  | 1 => .int
  | _ => .int
abbrev wsX20 : List Cond := u_ws RX2 TX2 3
theorem nmX2 : ∀ a, a < 3 → ∀ b, b < 3 → a ≠ b → (TX2 a).2.1 ≠ (TX2 b).2.1 := by decide +kernel
theorem tyX2_ok : ∀ k, k < 3 → parseFieldDescriptor (TX2 k).2.2.1 = some (tyX2 k) := by decide +kernel
abbrev cX2_init : ByteArray := prog_4_method_1_code
def yX2_init : MethodName := ⟨RX2, "<init>", "()V"⟩
abbrev cX2_held : ByteArray := prog_4_method_2_code
def yX2_held : MethodName := ⟨RX2, "held", "()I"⟩
abbrev cX2_keep : ByteArray := prog_4_method_3_code
def yX2_keep : MethodName := ⟨RX2, "keep", "(LRoofDrains$Roof;)V"⟩
abbrev cX2_dropLatest : ByteArray := prog_4_method_4_code
def yX2_dropLatest : MethodName := ⟨RX2, "dropLatest", "()LRoofDrains$Roof;"⟩
def RX3 : String := "RoofDrains"
def TX3 : u_T := fun k => match k with
  | 0 => ("RoofDrains", "roof", "LRoofDrains$Roof;", true)
  | 1 => ("RoofDrains", "thought", "LRoofDrains$Roof;", true)
  | 2 => ("RoofDrains", "saved", "LRoofDrains$SavedRoofs;", true)
  | _ => ("RoofDrains", "text", "LRoofDrains$RainText;", true)
def tyX3 : Nat → FieldType := fun k => match k with
  | 0 => .object "RoofDrains$Roof"
  | 1 => .object "RoofDrains$Roof"
  | 2 => .object "RoofDrains$SavedRoofs"
  | _ => .object "RoofDrains$RainText"
abbrev wsX30 : List Cond := u_ws RX3 TX3 4
theorem nmX3 : ∀ a, a < 4 → ∀ b, b < 4 → a ≠ b → (TX3 a).2.1 ≠ (TX3 b).2.1 := by decide +kernel
theorem tyX3_ok : ∀ k, k < 4 → parseFieldDescriptor (TX3 k).2.2.1 = some (tyX3 k) := by decide +kernel
abbrev cX3_init : ByteArray := prog_1_method_1_code
def yX3_init : MethodName := ⟨RX3, "<init>", "()V"⟩
abbrev cX3_plane : ByteArray := prog_1_method_2_code
def yX3_plane : MethodName := ⟨RX3, "plane", "(IIII)I"⟩
abbrev cX3_gutter : ByteArray := prog_1_method_3_code
def yX3_gutter : MethodName := ⟨RX3, "gutter", "(III)I"⟩
abbrev cX3_valley : ByteArray := prog_1_method_4_code
def yX3_valley : MethodName := ⟨RX3, "valley", "(II)I"⟩
abbrev cX3_clean : ByteArray := prog_1_method_5_code
def yX3_clean : MethodName := ⟨RX3, "clean", "(I)I"⟩
abbrev cX3_set : ByteArray := prog_1_method_6_code
def yX3_set : MethodName := ⟨RX3, "set", "(II)I"⟩
abbrev cX3_rain : ByteArray := prog_1_method_7_code
def yX3_rain : MethodName := ⟨RX3, "rain", "(II)I"⟩
abbrev cX3_weeks : ByteArray := prog_1_method_8_code
def yX3_weeks : MethodName := ⟨RX3, "weeks", "(I)I"⟩
abbrev cX3_append : ByteArray := prog_1_method_9_code
def yX3_append : MethodName := ⟨RX3, "append", "(I)I"⟩
abbrev cX3_clearBuffer : ByteArray := prog_1_method_10_code
def yX3_clearBuffer : MethodName := ⟨RX3, "clearBuffer", "()I"⟩
abbrev cX3_firstError : ByteArray := prog_1_method_11_code
def yX3_firstError : MethodName := ⟨RX3, "firstError", "()I"⟩
abbrev cX3_play : ByteArray := prog_1_method_12_code
def yX3_play : MethodName := ⟨RX3, "play", "()I"⟩
abbrev cX3_undo : ByteArray := prog_1_method_13_code
def yX3_undo : MethodName := ⟨RX3, "undo", "()I"⟩
abbrev cX3_planeOf : ByteArray := prog_1_method_14_code
def yX3_planeOf : MethodName := ⟨RX3, "planeOf", "(II)I"⟩
abbrev cX3_gutterOf : ByteArray := prog_1_method_15_code
def yX3_gutterOf : MethodName := ⟨RX3, "gutterOf", "(II)I"⟩
abbrev cX3_count : ByteArray := prog_1_method_16_code
def yX3_count : MethodName := ⟨RX3, "count", "(I)I"⟩
abbrev cX3_setting : ByteArray := prog_1_method_17_code
def yX3_setting : MethodName := ⟨RX3, "setting", "(I)I"⟩
abbrev cX3_ifRained : ByteArray := prog_1_method_18_code
def yX3_ifRained : MethodName := ⟨RX3, "ifRained", "(II)I"⟩
abbrev cX3_spillsFirst : ByteArray := prog_1_method_19_code
def yX3_spillsFirst : MethodName := ⟨RX3, "spillsFirst", "(I)I"⟩
abbrev cX3_bestClean : ByteArray := prog_1_method_20_code
def yX3_bestClean : MethodName := ⟨RX3, "bestClean", "()I"⟩
abbrev cX3_mostRain : ByteArray := prog_1_method_21_code
def yX3_mostRain : MethodName := ⟨RX3, "mostRain", "(I)I"⟩
abbrev cX3_dryIn : ByteArray := prog_1_method_22_code
def yX3_dryIn : MethodName := ⟨RX3, "dryIn", "()I"⟩
abbrev cX3_drainedShare : ByteArray := prog_1_method_23_code
def yX3_drainedShare : MethodName := ⟨RX3, "drainedShare", "()D"⟩
abbrev cX3_digest : ByteArray := prog_1_method_24_code
def yX3_digest : MethodName := ⟨RX3, "digest", "()J"⟩
abbrev cX3_spiltIfCleaned : ByteArray := prog_1_method_25_code
def yX3_spiltIfCleaned : MethodName := ⟨RX3, "spiltIfCleaned", "(I)I"⟩
abbrev cX3_wouldSpill : ByteArray := prog_1_method_26_code
def yX3_wouldSpill : MethodName := ⟨RX3, "wouldSpill", "(II)Z"⟩
abbrev cX3_hashWith : ByteArray := prog_1_method_27_code
def yX3_hashWith : MethodName := ⟨RX3, "hashWith", "(JJ)J"⟩
abbrev cX3_hashOfCounts : ByteArray := prog_1_method_28_code
def yX3_hashOfCounts : MethodName := ⟨RX3, "hashOfCounts", "(J)J"⟩
abbrev cX3_hashOfRoof : ByteArray := prog_1_method_29_code
def yX3_hashOfRoof : MethodName := ⟨RX3, "hashOfRoof", "(J)J"⟩
abbrev cX3_hashOfText : ByteArray := prog_1_method_30_code
def yX3_hashOfText : MethodName := ⟨RX3, "hashOfText", "(J)J"⟩
abbrev cX3_bitsOfShare : ByteArray := prog_1_method_31_code
def yX3_bitsOfShare : MethodName := ⟨RX3, "bitsOfShare", "(D)J"⟩
abbrev cX3_isWithin : ByteArray := prog_1_method_32_code
def yX3_isWithin : MethodName := ⟨RX3, "isWithin", "(III)Z"⟩
abbrev cX3_isPlane : ByteArray := prog_1_method_33_code
def yX3_isPlane : MethodName := ⟨RX3, "isPlane", "(I)Z"⟩
abbrev cX3_isGutter : ByteArray := prog_1_method_34_code
def yX3_isGutter : MethodName := ⟨RX3, "isGutter", "(I)Z"⟩
abbrev cX3_isSetting : ByteArray := prog_1_method_35_code
def yX3_isSetting : MethodName := ⟨RX3, "isSetting", "(I)Z"⟩
def RX4 : String := "RoofDrainsModel"
def TX4 : u_T := fun k => match k with
  | 0 => ("RoofDrainsModel", "thrown", "I", false)
  | 1 => ("RoofDrainsModel", "s", "[I", true)
  | 2 => ("RoofDrainsModel", "aside", "[I", true)
  | 3 => ("RoofDrainsModel", "saved", "[I", true)
  | 4 => ("RoofDrainsModel", "savedMany", "I", false)
  | 5 => ("RoofDrainsModel", "buffer", "[I", true)
  | 6 => ("RoofDrainsModel", "length", "I", false)
  | 7 => ("RoofDrainsModel", "at", "I", false)
  | 8 => ("RoofDrainsModel", "isWell", "Z", false)
  | 9 => ("RoofDrainsModel", "parts", "[I", true)
  | 10 => ("RoofDrainsModel", "partMany", "I", false)
  | _ => ("RoofDrainsModel", "hash", "J", false)
def tyX4 : Nat → FieldType := fun k => match k with
  | 0 => .int
  | 1 => .array .int
  | 2 => .array .int
  | 3 => .array .int
  | 4 => .int
  | 5 => .array .int
  | 6 => .int
  | 7 => .int
  | 8 => .boolean
  | 9 => .array .int
  | 10 => .int
  | _ => .long
abbrev wsX40 : List Cond := u_ws RX4 TX4 12
theorem nmX4 : ∀ a, a < 12 → ∀ b, b < 12 → a ≠ b → (TX4 a).2.1 ≠ (TX4 b).2.1 := by decide +kernel
theorem tyX4_ok : ∀ k, k < 12 → parseFieldDescriptor (TX4 k).2.2.1 = some (tyX4 k) := by decide +kernel
abbrev cX4_init : ByteArray := prog_6_method_1_code
def yX4_init : MethodName := ⟨RX4, "<init>", "()V"⟩
abbrev cX4_thrown : ByteArray := prog_6_method_2_code
def yX4_thrown : MethodName := ⟨RX4, "thrown", "()I"⟩
abbrev cX4_in : ByteArray := prog_6_method_3_code
def yX4_in : MethodName := ⟨RX4, "in", "(III)Z"⟩
abbrev cX4_fails : ByteArray := prog_6_method_4_code
def yX4_fails : MethodName := ⟨RX4, "fails", "(I)I"⟩
abbrev cX4_isOne : ByteArray := prog_6_method_5_code
def yX4_isOne : MethodName := ⟨RX4, "isOne", "(I)Z"⟩
abbrev cX4_ofPlane : ByteArray := prog_6_method_6_code
def yX4_ofPlane : MethodName := ⟨RX4, "ofPlane", "(II)I"⟩
abbrev cX4_of : ByteArray := prog_6_method_7_code
def yX4_of : MethodName := ⟨RX4, "of", "(II)I"⟩
abbrev cX4_adds : ByteArray := prog_6_method_8_code
def yX4_adds : MethodName := ⟨RX4, "adds", "(III)V"⟩
abbrev cX4_saves : ByteArray := prog_6_method_9_code
def yX4_saves : MethodName := ⟨RX4, "saves", "()V"⟩
abbrev cX4_putAside : ByteArray := prog_6_method_10_code
def yX4_putAside : MethodName := ⟨RX4, "putAside", "()V"⟩
abbrev cX4_takeBack : ByteArray := prog_6_method_11_code
def yX4_takeBack : MethodName := ⟨RX4, "takeBack", "()V"⟩
abbrev cX4_room : ByteArray := prog_6_method_12_code
def yX4_room : MethodName := ⟨RX4, "room", "(I)I"⟩
abbrev cX4_takes : ByteArray := prog_6_method_13_code
def yX4_takes : MethodName := ⟨RX4, "takes", "(I)I"⟩
abbrev cX4_sends : ByteArray := prog_6_method_14_code
def yX4_sends : MethodName := ⟨RX4, "sends", "(II)V"⟩
abbrev cX4_drains : ByteArray := prog_6_method_15_code
def yX4_drains : MethodName := ⟨RX4, "drains", "()Z"⟩
abbrev cX4_flowsOver : ByteArray := prog_6_method_16_code
def yX4_flowsOver : MethodName := ⟨RX4, "flowsOver", "(I)V"⟩
abbrev cX4_minute : ByteArray := prog_6_method_17_code
def yX4_minute : MethodName := ⟨RX4, "minute", "(I)V"⟩
abbrev cX4_rains : ByteArray := prog_6_method_18_code
def yX4_rains : MethodName := ⟨RX4, "rains", "(II)I"⟩
abbrev cX4_week : ByteArray := prog_6_method_19_code
def yX4_week : MethodName := ⟨RX4, "week", "()V"⟩
abbrev cX4_leaves : ByteArray := prog_6_method_20_code
def yX4_leaves : MethodName := ⟨RX4, "leaves", "()I"⟩
abbrev cX4_stands : ByteArray := prog_6_method_21_code
def yX4_stands : MethodName := ⟨RX4, "stands", "()I"⟩
abbrev cX4_plane : ByteArray := prog_6_method_22_code
def yX4_plane : MethodName := ⟨RX4, "plane", "(IIII)I"⟩
abbrev cX4_gutter : ByteArray := prog_6_method_23_code
def yX4_gutter : MethodName := ⟨RX4, "gutter", "(III)I"⟩
abbrev cX4_leads : ByteArray := prog_6_method_24_code
def yX4_leads : MethodName := ⟨RX4, "leads", "(II)Z"⟩
abbrev cX4_valley : ByteArray := prog_6_method_25_code
def yX4_valley : MethodName := ⟨RX4, "valley", "(II)I"⟩
abbrev cX4_clean : ByteArray := prog_6_method_26_code
def yX4_clean : MethodName := ⟨RX4, "clean", "(I)I"⟩
abbrev cX4_set : ByteArray := prog_6_method_27_code
def yX4_set : MethodName := ⟨RX4, "set", "(II)I"⟩
abbrev cX4_rain : ByteArray := prog_6_method_28_code
def yX4_rain : MethodName := ⟨RX4, "rain", "(II)I"⟩
abbrev cX4_weeks : ByteArray := prog_6_method_29_code
def yX4_weeks : MethodName := ⟨RX4, "weeks", "(I)I"⟩
abbrev cX4_append : ByteArray := prog_6_method_30_code
def yX4_append : MethodName := ⟨RX4, "append", "(I)I"⟩
abbrev cX4_clearBuffer : ByteArray := prog_6_method_31_code
def yX4_clearBuffer : MethodName := ⟨RX4, "clearBuffer", "()I"⟩
abbrev cX4_sign : ByteArray := prog_6_method_32_code
def yX4_sign : MethodName := ⟨RX4, "sign", "()I"⟩
abbrev cX4_digit : ByteArray := prog_6_method_33_code
def yX4_digit : MethodName := ⟨RX4, "digit", "(II)I"⟩
abbrev cX4_number : ByteArray := prog_6_method_34_code
def yX4_number : MethodName := ⟨RX4, "number", "(II)I"⟩
abbrev cX4_readsPart : ByteArray := prog_6_method_35_code
def yX4_readsPart : MethodName := ⟨RX4, "readsPart", "()V"⟩
abbrev cX4_readsAll : ByteArray := prog_6_method_36_code
def yX4_readsAll : MethodName := ⟨RX4, "readsAll", "()V"⟩
abbrev cX4_firstError : ByteArray := prog_6_method_37_code
def yX4_firstError : MethodName := ⟨RX4, "firstError", "()I"⟩
abbrev cX4_play : ByteArray := prog_6_method_38_code
def yX4_play : MethodName := ⟨RX4, "play", "()I"⟩
abbrev cX4_undo : ByteArray := prog_6_method_39_code
def yX4_undo : MethodName := ⟨RX4, "undo", "()I"⟩
abbrev cX4_planeOf : ByteArray := prog_6_method_40_code
def yX4_planeOf : MethodName := ⟨RX4, "planeOf", "(II)I"⟩
abbrev cX4_tellsGutter : ByteArray := prog_6_method_41_code
def yX4_tellsGutter : MethodName := ⟨RX4, "tellsGutter", "(II)I"⟩
abbrev cX4_gutterOf : ByteArray := prog_6_method_42_code
def yX4_gutterOf : MethodName := ⟨RX4, "gutterOf", "(II)I"⟩
abbrev cX4_counts : ByteArray := prog_6_method_43_code
def yX4_counts : MethodName := ⟨RX4, "counts", "(I)I"⟩
abbrev cX4_count : ByteArray := prog_6_method_44_code
def yX4_count : MethodName := ⟨RX4, "count", "(I)I"⟩
abbrev cX4_setting : ByteArray := prog_6_method_45_code
def yX4_setting : MethodName := ⟨RX4, "setting", "(I)I"⟩
abbrev cX4_would : ByteArray := prog_6_method_46_code
def yX4_would : MethodName := ⟨RX4, "would", "(II)I"⟩
abbrev cX4_ifRained : ByteArray := prog_6_method_47_code
def yX4_ifRained : MethodName := ⟨RX4, "ifRained", "(II)I"⟩
abbrev cX4_firstSpill : ByteArray := prog_6_method_48_code
def yX4_firstSpill : MethodName := ⟨RX4, "firstSpill", "(I)I"⟩
abbrev cX4_spillsFirst : ByteArray := prog_6_method_49_code
def yX4_spillsFirst : MethodName := ⟨RX4, "spillsFirst", "(I)I"⟩
abbrev cX4_bestOne : ByteArray := prog_6_method_50_code
def yX4_bestOne : MethodName := ⟨RX4, "bestOne", "()I"⟩
abbrev cX4_bestClean : ByteArray := prog_6_method_51_code
def yX4_bestClean : MethodName := ⟨RX4, "bestClean", "()I"⟩
abbrev cX4_greatestRain : ByteArray := prog_6_method_52_code
def yX4_greatestRain : MethodName := ⟨RX4, "greatestRain", "(I)I"⟩
abbrev cX4_mostRain : ByteArray := prog_6_method_53_code
def yX4_mostRain : MethodName := ⟨RX4, "mostRain", "(I)I"⟩
abbrev cX4_untilDry : ByteArray := prog_6_method_54_code
def yX4_untilDry : MethodName := ⟨RX4, "untilDry", "()I"⟩
abbrev cX4_dryIn : ByteArray := prog_6_method_55_code
def yX4_dryIn : MethodName := ⟨RX4, "dryIn", "()I"⟩
abbrev cX4_share : ByteArray := prog_6_method_56_code
def yX4_share : MethodName := ⟨RX4, "share", "()D"⟩
abbrev cX4_drainedShare : ByteArray := prog_6_method_57_code
def yX4_drainedShare : MethodName := ⟨RX4, "drainedShare", "()D"⟩
abbrev cX4_hashes : ByteArray := prog_6_method_58_code
def yX4_hashes : MethodName := ⟨RX4, "hashes", "(J)V"⟩
abbrev cX4_digest : ByteArray := prog_6_method_59_code
def yX4_digest : MethodName := ⟨RX4, "digest", "()J"⟩
def RJxe99ae : String := "java/lang/Double"
def TJxe99ae : u_T := fun k => match k with
  | _ => ("", "", "", false)
def tyJxe99ae : Nat → FieldType := fun k => match k with
  | _ => .int
abbrev wsJxe99ae0 : List Cond := u_ws RJxe99ae TJxe99ae 0
theorem nmJxe99ae : ∀ a, a < 0 → ∀ b, b < 0 → a ≠ b → (TJxe99ae a).2.1 ≠ (TJxe99ae b).2.1 := by decide +kernel
theorem tyJxe99ae_ok : ∀ k, k < 0 → parseFieldDescriptor (TJxe99ae k).2.2.1 = some (tyJxe99ae k) := by decide +kernel
abbrev cJxe99ae_isNaN_b9ae7 : ByteArray := prog_7_method_6_code
def yJxe99ae_isNaN_b9ae7 : MethodName := ⟨RJxe99ae, "isNaN", "(D)Z"⟩
abbrev cJxe99ae_doubleToLongBits_ccdee : ByteArray := prog_7_method_23_code
def yJxe99ae_doubleToLongBits_ccdee : MethodName := ⟨RJxe99ae, "doubleToLongBits", "(D)J"⟩
def RJ9 : String := "java/lang/Math"
def TJ9 : u_T := fun k => match k with
  | _ => ("", "", "", false)
def tyJ9 : Nat → FieldType := fun k => match k with
  | _ => .int
abbrev wsJ90 : List Cond := u_ws RJ9 TJ9 0
theorem nmJ9 : ∀ a, a < 0 → ∀ b, b < 0 → a ≠ b → (TJ9 a).2.1 ≠ (TJ9 b).2.1 := by decide +kernel
theorem tyJ9_ok : ∀ k, k < 0 → parseFieldDescriptor (TJ9 k).2.2.1 = some (tyJ9 k) := by decide +kernel
abbrev cJ9_min_7cf53 : ByteArray := prog_12_method_69_code
def yJ9_min_7cf53 : MethodName := ⟨RJ9, "min", "(II)I"⟩
def RJ0 : String := "java/lang/String"
def TJ0 : u_T := fun k => match k with
  | _ => ("", "", "", false)
def tyJ0 : Nat → FieldType := fun k => match k with
  | _ => .int
abbrev wsJ00 : List Cond := u_ws RJ0 TJ0 0
theorem nmJ0 : ∀ a, a < 0 → ∀ b, b < 0 → a ≠ b → (TJ0 a).2.1 ≠ (TJ0 b).2.1 := by decide +kernel
theorem tyJ0_ok : ∀ k, k < 0 → parseFieldDescriptor (TJ0 k).2.2.1 = some (tyJ0 k) := by decide +kernel
def RJ10 : String := "java/lang/System"
def TJ10 : u_T := fun k => match k with
  | _ => ("", "", "", false)
def tyJ10 : Nat → FieldType := fun k => match k with
  | _ => .int
abbrev wsJ100 : List Cond := u_ws RJ10 TJ10 0
theorem nmJ10 : ∀ a, a < 0 → ∀ b, b < 0 → a ≠ b → (TJ10 a).2.1 ≠ (TJ10 b).2.1 := by decide +kernel
theorem tyJ10_ok : ∀ k, k < 0 → parseFieldDescriptor (TJ10 k).2.2.1 = some (tyJ10 k) := by decide +kernel
def RL : String := "RoofDrainsLaw"
abbrev cL_plane : ByteArray := method_3_code
def yL_plane : MethodName := ⟨RL, "plane", "(LRoofDrains;IIII[J)I"⟩
abbrev cL_gutter : ByteArray := method_4_code
def yL_gutter : MethodName := ⟨RL, "gutter", "(LRoofDrains;III[J)I"⟩
abbrev cL_valley : ByteArray := method_5_code
def yL_valley : MethodName := ⟨RL, "valley", "(LRoofDrains;II[J)I"⟩
abbrev cL_clean : ByteArray := method_6_code
def yL_clean : MethodName := ⟨RL, "clean", "(LRoofDrains;I[J)I"⟩
abbrev cL_set : ByteArray := method_7_code
def yL_set : MethodName := ⟨RL, "set", "(LRoofDrains;II[J)I"⟩
abbrev cL_rain : ByteArray := method_8_code
def yL_rain : MethodName := ⟨RL, "rain", "(LRoofDrains;II[J)I"⟩
abbrev cL_weeks : ByteArray := method_9_code
def yL_weeks : MethodName := ⟨RL, "weeks", "(LRoofDrains;I[J)I"⟩
abbrev cL_append : ByteArray := method_10_code
def yL_append : MethodName := ⟨RL, "append", "(LRoofDrains;I[J)I"⟩
abbrev cL_play : ByteArray := method_11_code
def yL_play : MethodName := ⟨RL, "play", "(LRoofDrains;[J)I"⟩
abbrev cL_undo : ByteArray := method_12_code
def yL_undo : MethodName := ⟨RL, "undo", "(LRoofDrains;[J)I"⟩
abbrev cL_planeOf : ByteArray := method_13_code
def yL_planeOf : MethodName := ⟨RL, "planeOf", "(LRoofDrains;II[J)I"⟩
abbrev cL_gutterOf : ByteArray := method_14_code
def yL_gutterOf : MethodName := ⟨RL, "gutterOf", "(LRoofDrains;II[J)I"⟩
abbrev cL_count : ByteArray := method_15_code
def yL_count : MethodName := ⟨RL, "count", "(LRoofDrains;I[J)I"⟩
abbrev cL_setting : ByteArray := method_16_code
def yL_setting : MethodName := ⟨RL, "setting", "(LRoofDrains;I[J)I"⟩
abbrev cL_ifRained : ByteArray := method_17_code
def yL_ifRained : MethodName := ⟨RL, "ifRained", "(LRoofDrains;II[J)I"⟩
abbrev cL_spillsFirst : ByteArray := method_18_code
def yL_spillsFirst : MethodName := ⟨RL, "spillsFirst", "(LRoofDrains;I[J)I"⟩
abbrev cL_mostRain : ByteArray := method_19_code
def yL_mostRain : MethodName := ⟨RL, "mostRain", "(LRoofDrains;I[J)I"⟩
abbrev cL_law : ByteArray := code
def yL_law : MethodName := ⟨RL, "law", "([I)Z"⟩
def wsX0_init : List Cond := .code yX0_init cX0_init 1 none :: ([.methodLink RX0 1 objectInit, .instanceMethod objectInit, .code objectInit ⟨#[0xb1]⟩ 1 none, .arrayClass .int, .fieldLink RX0 9 "RoofDrains$RainText" "codes" "[I"] ++ wsX00)
def wsX0_length : List Cond := .code yX0_length cX0_length 1 (some .int) :: ([.fieldLink RX0 13 "RoofDrains$RainText" "length" "I"] ++ wsX00)
def wsX0_isFull : List Cond := .code yX0_isFull cX0_isFull 1 (some .boolean) :: ([.fieldLink RX0 13 "RoofDrains$RainText" "length" "I"] ++ wsX00)
def wsX0_add : List Cond := .code yX0_add cX0_add 2 none :: ([.fieldLink RX0 9 "RoofDrains$RainText" "codes" "[I", .fieldLink RX0 13 "RoofDrains$RainText" "length" "I"] ++ wsX00)
def wsX0_empty : List Cond := .code yX0_empty cX0_empty 1 none :: ([.fieldLink RX0 13 "RoofDrains$RainText" "length" "I"] ++ wsX00)
def wsX0_codeAt : List Cond := .code yX0_codeAt cX0_codeAt 2 (some .int) :: ([.fieldLink RX0 9 "RoofDrains$RainText" "codes" "[I"] ++ wsX00)
def wsX0_mayEnd : List Cond := .code yX0_mayEnd cX0_mayEnd 1 (some .boolean) :: ([])
def wsX3_isWithin : List Cond := .code yX3_isWithin cX3_isWithin 3 (some .boolean) :: ([])
def wsX0_dueAfterFirst : List Cond := .code yX0_dueAfterFirst cX0_dueAfterFirst 1 (some .int) :: ([.static yX3_isWithin, .initialized RX3, .code yX3_isWithin cX3_isWithin 3 (some .boolean)])
def wsX0_dueAfterStar : List Cond := .code yX0_dueAfterStar cX0_dueAfterStar 1 (some .int) :: ([])
def wsX0_dueAfterMinutesDigit : List Cond := .code yX0_dueAfterMinutesDigit cX0_dueAfterMinutesDigit 1 (some .int) :: ([.static yX3_isWithin, .initialized RX3, .code yX3_isWithin cX3_isWithin 3 (some .boolean)])
def wsX0_dueAfter : List Cond := .code yX0_dueAfter cX0_dueAfter 2 (some .int) :: ([.methodLink RX0 21 yX0_mayEnd, .static yX0_mayEnd, .initialized RX0, .code yX0_mayEnd cX0_mayEnd 1 (some .boolean), .methodLink RX0 25 yX0_dueAfterFirst, .static yX0_dueAfterFirst, .code yX0_dueAfterFirst cX0_dueAfterFirst 1 (some .int), .static yX3_isWithin, .initialized RX3, .code yX3_isWithin cX3_isWithin 3 (some .boolean), .methodLink RX0 35 yX0_dueAfterStar, .static yX0_dueAfterStar, .code yX0_dueAfterStar cX0_dueAfterStar 1 (some .int), .methodLink RX0 38 yX0_dueAfterMinutesDigit, .static yX0_dueAfterMinutesDigit, .code yX0_dueAfterMinutesDigit cX0_dueAfterMinutesDigit 1 (some .int)])
def wsX0_firstWrong : List Cond := .code yX0_firstWrong cX0_firstWrong 3 (some .int) :: ([.fieldLink RX0 13 "RoofDrains$RainText" "length" "I", .fieldLink RX0 9 "RoofDrains$RainText" "codes" "[I", .methodLink RX0 17 yX0_dueAfter, .static yX0_dueAfter, .initialized RX0, .code yX0_dueAfter cX0_dueAfter 2 (some .int), .methodLink RX0 21 yX0_mayEnd, .static yX0_mayEnd, .code yX0_mayEnd cX0_mayEnd 1 (some .boolean), .methodLink RX0 25 yX0_dueAfterFirst, .static yX0_dueAfterFirst, .code yX0_dueAfterFirst cX0_dueAfterFirst 1 (some .int), .static yX3_isWithin, .initialized RX3, .code yX3_isWithin cX3_isWithin 3 (some .boolean), .methodLink RX0 35 yX0_dueAfterStar, .static yX0_dueAfterStar, .code yX0_dueAfterStar cX0_dueAfterStar 1 (some .int), .methodLink RX0 38 yX0_dueAfterMinutesDigit, .static yX0_dueAfterMinutesDigit, .code yX0_dueAfterMinutesDigit cX0_dueAfterMinutesDigit 1 (some .int)] ++ wsX00)
def wsX0_isComplete : List Cond := .code yX0_isComplete cX0_isComplete 3 (some .boolean) :: ([.fieldLink RX0 13 "RoofDrains$RainText" "length" "I", .fieldLink RX0 9 "RoofDrains$RainText" "codes" "[I", .methodLink RX0 17 yX0_dueAfter, .static yX0_dueAfter, .initialized RX0, .code yX0_dueAfter cX0_dueAfter 2 (some .int), .methodLink RX0 21 yX0_mayEnd, .static yX0_mayEnd, .code yX0_mayEnd cX0_mayEnd 1 (some .boolean), .methodLink RX0 25 yX0_dueAfterFirst, .static yX0_dueAfterFirst, .code yX0_dueAfterFirst cX0_dueAfterFirst 1 (some .int), .static yX3_isWithin, .initialized RX3, .code yX3_isWithin cX3_isWithin 3 (some .boolean), .methodLink RX0 35 yX0_dueAfterStar, .static yX0_dueAfterStar, .code yX0_dueAfterStar cX0_dueAfterStar 1 (some .int), .methodLink RX0 38 yX0_dueAfterMinutesDigit, .static yX0_dueAfterMinutesDigit, .code yX0_dueAfterMinutesDigit cX0_dueAfterMinutesDigit 1 (some .int)] ++ wsX00)
def wsX1_passWeek : List Cond := .code yX1_passWeek cX1_passWeek 2 none :: ([.fieldLink RX1 30 "RoofDrains$Roof" "leaves" "[I", .fieldLink RX1 45 "RoofDrains$Roof" "values" "[I", .methodLink RX1 85 Lib.Math.min.name, .static Lib.Math.min.name, .initialized "java/lang/Math", .code Lib.Math.min.name Lib.Math.min.code 2 (some .int), .fieldLink RX1 58 "RoofDrains$Roof" "weeksPassed" "I"] ++ wsX10)
def wsX3_isGutter : List Cond := .code yX3_isGutter cX3_isGutter 1 (some .boolean) :: ([])
def wsX1_takeLeaves : List Cond := .code yX1_takeLeaves cX1_takeLeaves 3 (some .int) :: ([.fieldLink RX1 30 "RoofDrains$Roof" "leaves" "[I"] ++ wsX10)
def wsX0_cleanOn : List Cond := .code yX0_cleanOn cX0_cleanOn 2 none :: ([.static yX3_isGutter, .initialized RX3, .code yX3_isGutter cX3_isGutter 1 (some .boolean), .methodLink RX0 61 yX1_takeLeaves, .instanceMethod yX1_takeLeaves, .selects RX1 yX1_takeLeaves yX1_takeLeaves, .initialized RX1, .code yX1_takeLeaves cX1_takeLeaves 3 (some .int), .fieldLink RX1 30 "RoofDrains$Roof" "leaves" "[I"] ++ wsX10)
def wsX1_wetPlane : List Cond := .code yX1_wetPlane cX1_wetPlane 6 none :: ([.fieldLink RX1 9 "RoofDrains$Roof" "area" "[I", .fieldLink RX1 61 "RoofDrains$Roof" "rained" "I", .fieldLink RX1 21 "RoofDrains$Roof" "onPlane" "[I", .fieldLink RX1 15 "RoofDrains$Roof" "slope" "[I", .fieldLink RX1 18 "RoofDrains$Roof" "leadsTo" "[I", .fieldLink RX1 36 "RoofDrains$Roof" "inGutter" "[I", .static yX3_isGutter, .initialized RX3, .code yX3_isGutter cX3_isGutter 1 (some .boolean)] ++ wsX10)
def wsX1_pipeTakes : List Cond := .code yX1_pipeTakes cX1_pipeTakes 3 (some .int) :: ([.fieldLink RX1 27 "RoofDrains$Roof" "bore" "[I", .fieldLink RX1 30 "RoofDrains$Roof" "leaves" "[I"] ++ wsX10)
def wsX1_emptyIntoDrain : List Cond := .code yX1_emptyIntoDrain cX1_emptyIntoDrain 6 none :: ([.fieldLink RX1 45 "RoofDrains$Roof" "values" "[I", .fieldLink RX1 36 "RoofDrains$Roof" "inGutter" "[I", .methodLink RX1 85 Lib.Math.min.name, .static Lib.Math.min.name, .initialized "java/lang/Math", .code Lib.Math.min.name Lib.Math.min.code 2 (some .int), .fieldLink RX1 42 "RoofDrains$Roof" "drained" "[I", .fieldLink RX1 64 "RoofDrains$Roof" "backedUp" "I", .methodLink RX1 91 yX1_pipeTakes, .instanceMethod yX1_pipeTakes, .selects RX1 yX1_pipeTakes yX1_pipeTakes, .initialized RX1, .code yX1_pipeTakes cX1_pipeTakes 3 (some .int), .fieldLink RX1 27 "RoofDrains$Roof" "bore" "[I", .fieldLink RX1 30 "RoofDrains$Roof" "leaves" "[I"] ++ wsX10)
def wsX1_room : List Cond := .code yX1_room cX1_room 2 (some .int) :: ([.fieldLink RX1 24 "RoofDrains$Roof" "size" "[I", .fieldLink RX1 30 "RoofDrains$Roof" "leaves" "[I"] ++ wsX10)
def wsX1_overflow : List Cond := .code yX1_overflow cX1_overflow 4 none :: ([.fieldLink RX1 36 "RoofDrains$Roof" "inGutter" "[I", .fieldLink RX1 33 "RoofDrains$Roof" "valleyTo" "[I", .fieldLink RX1 39 "RoofDrains$Roof" "spilt" "[I", .methodLink RX1 95 yX1_room, .instanceMethod yX1_room, .selects RX1 yX1_room yX1_room, .initialized RX1, .code yX1_room cX1_room 2 (some .int), .fieldLink RX1 24 "RoofDrains$Roof" "size" "[I", .fieldLink RX1 30 "RoofDrains$Roof" "leaves" "[I", .static yX3_isGutter, .initialized RX3, .code yX3_isGutter cX3_isGutter 1 (some .boolean)] ++ wsX10)
def wsX1_passMinute_r1 : List Cond := [Cond.fieldLink RX1 54 "RoofDrains$Roof" "minutesGone" "I", Cond.methodLink RX1 75 yX1_wetPlane, Cond.instanceMethod yX1_wetPlane, Cond.selects RX1 yX1_wetPlane yX1_wetPlane, Cond.initialized RX1, Cond.code yX1_wetPlane cX1_wetPlane 6 none, Cond.fieldLink RX1 9 "RoofDrains$Roof" "area" "[I", Cond.fieldLink RX1 61 "RoofDrains$Roof" "rained" "I", Cond.fieldLink RX1 21 "RoofDrains$Roof" "onPlane" "[I", Cond.fieldLink RX1 15 "RoofDrains$Roof" "slope" "[I", Cond.fieldLink RX1 18 "RoofDrains$Roof" "leadsTo" "[I", Cond.fieldLink RX1 36 "RoofDrains$Roof" "inGutter" "[I", Cond.static yX3_isGutter, Cond.initialized RX3, Cond.code yX3_isGutter cX3_isGutter 1 (some .boolean), Cond.methodLink RX1 79 yX1_emptyIntoDrain, Cond.instanceMethod yX1_emptyIntoDrain, Cond.selects RX1 yX1_emptyIntoDrain yX1_emptyIntoDrain, Cond.code yX1_emptyIntoDrain cX1_emptyIntoDrain 6 none, Cond.fieldLink RX1 45 "RoofDrains$Roof" "values" "[I", Cond.methodLink RX1 85 Lib.Math.min.name, Cond.static Lib.Math.min.name, Cond.initialized "java/lang/Math", Cond.code Lib.Math.min.name Lib.Math.min.code 2 (some .int)]
def wsX1_passMinute_r2 : List Cond := [Cond.fieldLink RX1 42 "RoofDrains$Roof" "drained" "[I", Cond.fieldLink RX1 64 "RoofDrains$Roof" "backedUp" "I", Cond.methodLink RX1 91 yX1_pipeTakes, Cond.instanceMethod yX1_pipeTakes, Cond.selects RX1 yX1_pipeTakes yX1_pipeTakes, Cond.code yX1_pipeTakes cX1_pipeTakes 3 (some .int), Cond.fieldLink RX1 27 "RoofDrains$Roof" "bore" "[I", Cond.fieldLink RX1 30 "RoofDrains$Roof" "leaves" "[I", Cond.methodLink RX1 82 yX1_overflow, Cond.instanceMethod yX1_overflow, Cond.selects RX1 yX1_overflow yX1_overflow, Cond.code yX1_overflow cX1_overflow 4 none, Cond.fieldLink RX1 33 "RoofDrains$Roof" "valleyTo" "[I", Cond.fieldLink RX1 39 "RoofDrains$Roof" "spilt" "[I", Cond.methodLink RX1 95 yX1_room, Cond.instanceMethod yX1_room, Cond.selects RX1 yX1_room yX1_room, Cond.code yX1_room cX1_room 2 (some .int), Cond.fieldLink RX1 24 "RoofDrains$Roof" "size" "[I"]
def wsX1_passMinute : List Cond := .code yX1_passMinute cX1_passMinute 3 none :: ((wsX1_passMinute_r1 ++ wsX1_passMinute_r2) ++ wsX10)
def wsX1_passMinutes_r1 : List Cond := [Cond.methodLink RX1 71 yX1_passMinute, Cond.instanceMethod yX1_passMinute, Cond.selects RX1 yX1_passMinute yX1_passMinute, Cond.initialized RX1, Cond.code yX1_passMinute cX1_passMinute 3 none, Cond.fieldLink RX1 54 "RoofDrains$Roof" "minutesGone" "I", Cond.methodLink RX1 75 yX1_wetPlane, Cond.instanceMethod yX1_wetPlane, Cond.selects RX1 yX1_wetPlane yX1_wetPlane, Cond.code yX1_wetPlane cX1_wetPlane 6 none, Cond.fieldLink RX1 9 "RoofDrains$Roof" "area" "[I", Cond.fieldLink RX1 61 "RoofDrains$Roof" "rained" "I", Cond.fieldLink RX1 21 "RoofDrains$Roof" "onPlane" "[I", Cond.fieldLink RX1 15 "RoofDrains$Roof" "slope" "[I", Cond.fieldLink RX1 18 "RoofDrains$Roof" "leadsTo" "[I", Cond.fieldLink RX1 36 "RoofDrains$Roof" "inGutter" "[I", Cond.static yX3_isGutter, Cond.initialized RX3, Cond.code yX3_isGutter cX3_isGutter 1 (some .boolean), Cond.methodLink RX1 79 yX1_emptyIntoDrain, Cond.instanceMethod yX1_emptyIntoDrain, Cond.selects RX1 yX1_emptyIntoDrain yX1_emptyIntoDrain, Cond.code yX1_emptyIntoDrain cX1_emptyIntoDrain 6 none, Cond.fieldLink RX1 45 "RoofDrains$Roof" "values" "[I"]
def wsX1_passMinutes_r2 : List Cond := [Cond.methodLink RX1 85 Lib.Math.min.name, Cond.static Lib.Math.min.name, Cond.initialized "java/lang/Math", Cond.code Lib.Math.min.name Lib.Math.min.code 2 (some .int), Cond.fieldLink RX1 42 "RoofDrains$Roof" "drained" "[I", Cond.fieldLink RX1 64 "RoofDrains$Roof" "backedUp" "I", Cond.methodLink RX1 91 yX1_pipeTakes, Cond.instanceMethod yX1_pipeTakes, Cond.selects RX1 yX1_pipeTakes yX1_pipeTakes, Cond.code yX1_pipeTakes cX1_pipeTakes 3 (some .int), Cond.fieldLink RX1 27 "RoofDrains$Roof" "bore" "[I", Cond.fieldLink RX1 30 "RoofDrains$Roof" "leaves" "[I", Cond.methodLink RX1 82 yX1_overflow, Cond.instanceMethod yX1_overflow, Cond.selects RX1 yX1_overflow yX1_overflow, Cond.code yX1_overflow cX1_overflow 4 none, Cond.fieldLink RX1 33 "RoofDrains$Roof" "valleyTo" "[I", Cond.fieldLink RX1 39 "RoofDrains$Roof" "spilt" "[I", Cond.methodLink RX1 95 yX1_room, Cond.instanceMethod yX1_room, Cond.selects RX1 yX1_room yX1_room, Cond.code yX1_room cX1_room 2 (some .int), Cond.fieldLink RX1 24 "RoofDrains$Roof" "size" "[I"]
def wsX1_passMinutes : List Cond := .code yX1_passMinutes cX1_passMinutes 4 none :: ((wsX1_passMinutes_r1 ++ wsX1_passMinutes_r2) ++ wsX10)
def wsX0_playPart_r1 : List Cond := [Cond.methodLink RX0 45 yX1_passWeek, Cond.instanceMethod yX1_passWeek, Cond.selects RX1 yX1_passWeek yX1_passWeek, Cond.initialized RX1, Cond.code yX1_passWeek cX1_passWeek 2 none, Cond.fieldLink RX1 30 "RoofDrains$Roof" "leaves" "[I", Cond.fieldLink RX1 45 "RoofDrains$Roof" "values" "[I", Cond.methodLink RX1 85 Lib.Math.min.name, Cond.static Lib.Math.min.name, Cond.initialized "java/lang/Math", Cond.code Lib.Math.min.name Lib.Math.min.code 2 (some .int), Cond.fieldLink RX1 58 "RoofDrains$Roof" "weeksPassed" "I", Cond.methodLink RX0 50 yX0_cleanOn, Cond.static yX0_cleanOn, Cond.initialized RX0, Cond.code yX0_cleanOn cX0_cleanOn 2 none, Cond.static yX3_isGutter, Cond.initialized RX3, Cond.code yX3_isGutter cX3_isGutter 1 (some .boolean), Cond.methodLink RX0 61 yX1_takeLeaves, Cond.instanceMethod yX1_takeLeaves, Cond.selects RX1 yX1_takeLeaves yX1_takeLeaves, Cond.code yX1_takeLeaves cX1_takeLeaves 3 (some .int), Cond.methodLink RX0 54 yX1_passMinutes]
def wsX0_playPart_r2 : List Cond := [Cond.instanceMethod yX1_passMinutes, Cond.selects RX1 yX1_passMinutes yX1_passMinutes, Cond.code yX1_passMinutes cX1_passMinutes 4 none, Cond.methodLink RX1 71 yX1_passMinute, Cond.instanceMethod yX1_passMinute, Cond.selects RX1 yX1_passMinute yX1_passMinute, Cond.code yX1_passMinute cX1_passMinute 3 none, Cond.fieldLink RX1 54 "RoofDrains$Roof" "minutesGone" "I", Cond.methodLink RX1 75 yX1_wetPlane, Cond.instanceMethod yX1_wetPlane, Cond.selects RX1 yX1_wetPlane yX1_wetPlane, Cond.code yX1_wetPlane cX1_wetPlane 6 none, Cond.fieldLink RX1 9 "RoofDrains$Roof" "area" "[I", Cond.fieldLink RX1 61 "RoofDrains$Roof" "rained" "I", Cond.fieldLink RX1 21 "RoofDrains$Roof" "onPlane" "[I", Cond.fieldLink RX1 15 "RoofDrains$Roof" "slope" "[I", Cond.fieldLink RX1 18 "RoofDrains$Roof" "leadsTo" "[I", Cond.fieldLink RX1 36 "RoofDrains$Roof" "inGutter" "[I", Cond.methodLink RX1 79 yX1_emptyIntoDrain, Cond.instanceMethod yX1_emptyIntoDrain, Cond.selects RX1 yX1_emptyIntoDrain yX1_emptyIntoDrain, Cond.code yX1_emptyIntoDrain cX1_emptyIntoDrain 6 none, Cond.fieldLink RX1 42 "RoofDrains$Roof" "drained" "[I", Cond.fieldLink RX1 64 "RoofDrains$Roof" "backedUp" "I"]
def wsX0_playPart_r3 : List Cond := [Cond.methodLink RX1 91 yX1_pipeTakes, Cond.instanceMethod yX1_pipeTakes, Cond.selects RX1 yX1_pipeTakes yX1_pipeTakes, Cond.code yX1_pipeTakes cX1_pipeTakes 3 (some .int), Cond.fieldLink RX1 27 "RoofDrains$Roof" "bore" "[I", Cond.methodLink RX1 82 yX1_overflow, Cond.instanceMethod yX1_overflow, Cond.selects RX1 yX1_overflow yX1_overflow, Cond.code yX1_overflow cX1_overflow 4 none, Cond.fieldLink RX1 33 "RoofDrains$Roof" "valleyTo" "[I", Cond.fieldLink RX1 39 "RoofDrains$Roof" "spilt" "[I", Cond.methodLink RX1 95 yX1_room, Cond.instanceMethod yX1_room, Cond.selects RX1 yX1_room yX1_room, Cond.code yX1_room cX1_room 2 (some .int), Cond.fieldLink RX1 24 "RoofDrains$Roof" "size" "[I"]
def wsX0_playPart : List Cond := .code yX0_playPart cX0_playPart 4 none :: ((wsX0_playPart_r1 ++ (wsX0_playPart_r2 ++ wsX0_playPart_r3)) ++ wsX10)
def wsX0_playOn_r1 : List Cond := [Cond.fieldLink RX0 13 "RoofDrains$RainText" "length" "I", Cond.fieldLink RX0 9 "RoofDrains$RainText" "codes" "[I", Cond.methodLink RX0 41 yX0_playPart, Cond.static yX0_playPart, Cond.initialized RX0, Cond.code yX0_playPart cX0_playPart 4 none, Cond.methodLink RX0 45 yX1_passWeek, Cond.instanceMethod yX1_passWeek, Cond.selects RX1 yX1_passWeek yX1_passWeek, Cond.initialized RX1, Cond.code yX1_passWeek cX1_passWeek 2 none, Cond.fieldLink RX1 30 "RoofDrains$Roof" "leaves" "[I", Cond.fieldLink RX1 45 "RoofDrains$Roof" "values" "[I", Cond.methodLink RX1 85 Lib.Math.min.name, Cond.static Lib.Math.min.name, Cond.initialized "java/lang/Math", Cond.code Lib.Math.min.name Lib.Math.min.code 2 (some .int), Cond.fieldLink RX1 58 "RoofDrains$Roof" "weeksPassed" "I", Cond.methodLink RX0 50 yX0_cleanOn, Cond.static yX0_cleanOn, Cond.code yX0_cleanOn cX0_cleanOn 2 none, Cond.static yX3_isGutter, Cond.initialized RX3, Cond.code yX3_isGutter cX3_isGutter 1 (some .boolean)]
def wsX0_playOn_r2 : List Cond := [Cond.methodLink RX0 61 yX1_takeLeaves, Cond.instanceMethod yX1_takeLeaves, Cond.selects RX1 yX1_takeLeaves yX1_takeLeaves, Cond.code yX1_takeLeaves cX1_takeLeaves 3 (some .int), Cond.methodLink RX0 54 yX1_passMinutes, Cond.instanceMethod yX1_passMinutes, Cond.selects RX1 yX1_passMinutes yX1_passMinutes, Cond.code yX1_passMinutes cX1_passMinutes 4 none, Cond.methodLink RX1 71 yX1_passMinute, Cond.instanceMethod yX1_passMinute, Cond.selects RX1 yX1_passMinute yX1_passMinute, Cond.code yX1_passMinute cX1_passMinute 3 none, Cond.fieldLink RX1 54 "RoofDrains$Roof" "minutesGone" "I", Cond.methodLink RX1 75 yX1_wetPlane, Cond.instanceMethod yX1_wetPlane, Cond.selects RX1 yX1_wetPlane yX1_wetPlane, Cond.code yX1_wetPlane cX1_wetPlane 6 none, Cond.fieldLink RX1 9 "RoofDrains$Roof" "area" "[I", Cond.fieldLink RX1 61 "RoofDrains$Roof" "rained" "I", Cond.fieldLink RX1 21 "RoofDrains$Roof" "onPlane" "[I", Cond.fieldLink RX1 15 "RoofDrains$Roof" "slope" "[I", Cond.fieldLink RX1 18 "RoofDrains$Roof" "leadsTo" "[I", Cond.fieldLink RX1 36 "RoofDrains$Roof" "inGutter" "[I", Cond.methodLink RX1 79 yX1_emptyIntoDrain]
def wsX0_playOn_r3 : List Cond := [Cond.instanceMethod yX1_emptyIntoDrain, Cond.selects RX1 yX1_emptyIntoDrain yX1_emptyIntoDrain, Cond.code yX1_emptyIntoDrain cX1_emptyIntoDrain 6 none, Cond.fieldLink RX1 42 "RoofDrains$Roof" "drained" "[I", Cond.fieldLink RX1 64 "RoofDrains$Roof" "backedUp" "I", Cond.methodLink RX1 91 yX1_pipeTakes, Cond.instanceMethod yX1_pipeTakes, Cond.selects RX1 yX1_pipeTakes yX1_pipeTakes, Cond.code yX1_pipeTakes cX1_pipeTakes 3 (some .int), Cond.fieldLink RX1 27 "RoofDrains$Roof" "bore" "[I", Cond.methodLink RX1 82 yX1_overflow, Cond.instanceMethod yX1_overflow, Cond.selects RX1 yX1_overflow yX1_overflow, Cond.code yX1_overflow cX1_overflow 4 none, Cond.fieldLink RX1 33 "RoofDrains$Roof" "valleyTo" "[I", Cond.fieldLink RX1 39 "RoofDrains$Roof" "spilt" "[I", Cond.methodLink RX1 95 yX1_room, Cond.instanceMethod yX1_room, Cond.selects RX1 yX1_room yX1_room, Cond.code yX1_room cX1_room 2 (some .int), Cond.fieldLink RX1 24 "RoofDrains$Roof" "size" "[I", Cond.static yX3_isWithin, Cond.code yX3_isWithin cX3_isWithin 3 (some .boolean)]
def wsX0_playOn : List Cond := .code yX0_playOn cX0_playOn 7 none :: ((wsX0_playOn_r1 ++ (wsX0_playOn_r2 ++ wsX0_playOn_r3)) ++ wsX00 ++ wsX10)
def wsX1_init : List Cond := .code yX1_init cX1_init 2 none :: ([.methodLink RX1 3 objectInit, .instanceMethod objectInit, .code objectInit ⟨#[0xb1]⟩ 1 none, .arrayClass .int, .fieldLink RX1 9 "RoofDrains$Roof" "area" "[I", .fieldLink RX1 15 "RoofDrains$Roof" "slope" "[I", .fieldLink RX1 18 "RoofDrains$Roof" "leadsTo" "[I", .fieldLink RX1 21 "RoofDrains$Roof" "onPlane" "[I", .fieldLink RX1 24 "RoofDrains$Roof" "size" "[I", .fieldLink RX1 27 "RoofDrains$Roof" "bore" "[I", .fieldLink RX1 30 "RoofDrains$Roof" "leaves" "[I", .fieldLink RX1 33 "RoofDrains$Roof" "valleyTo" "[I", .fieldLink RX1 36 "RoofDrains$Roof" "inGutter" "[I", .fieldLink RX1 39 "RoofDrains$Roof" "spilt" "[I", .fieldLink RX1 42 "RoofDrains$Roof" "drained" "[I", .fieldLink RX1 45 "RoofDrains$Roof" "values" "[I"] ++ wsX10)
def wsX1_copyFrom : List Cond := .code yX1_copyFrom cX1_copyFrom 2 none :: ([.fieldLink RX1 9 "RoofDrains$Roof" "area" "[I", .methodLink RX1 48 arraycopyName, .native arraycopyName, .static arraycopyName, .initialized "java/lang/System", .fieldLink RX1 15 "RoofDrains$Roof" "slope" "[I", .fieldLink RX1 18 "RoofDrains$Roof" "leadsTo" "[I", .fieldLink RX1 21 "RoofDrains$Roof" "onPlane" "[I", .fieldLink RX1 24 "RoofDrains$Roof" "size" "[I", .fieldLink RX1 27 "RoofDrains$Roof" "bore" "[I", .fieldLink RX1 30 "RoofDrains$Roof" "leaves" "[I", .fieldLink RX1 33 "RoofDrains$Roof" "valleyTo" "[I", .fieldLink RX1 36 "RoofDrains$Roof" "inGutter" "[I", .fieldLink RX1 39 "RoofDrains$Roof" "spilt" "[I", .fieldLink RX1 42 "RoofDrains$Roof" "drained" "[I", .fieldLink RX1 45 "RoofDrains$Roof" "values" "[I", .fieldLink RX1 54 "RoofDrains$Roof" "minutesGone" "I", .fieldLink RX1 58 "RoofDrains$Roof" "weeksPassed" "I", .fieldLink RX1 61 "RoofDrains$Roof" "rained" "I", .fieldLink RX1 64 "RoofDrains$Roof" "backedUp" "I"] ++ wsX10)
def wsX1_changePlane : List Cond := .code yX1_changePlane cX1_changePlane 6 (some .int) :: ([.fieldLink RX1 9 "RoofDrains$Roof" "area" "[I", .fieldLink RX1 15 "RoofDrains$Roof" "slope" "[I", .fieldLink RX1 18 "RoofDrains$Roof" "leadsTo" "[I"] ++ wsX10)
def wsX1_changeGutter : List Cond := .code yX1_changeGutter cX1_changeGutter 5 (some .int) :: ([.fieldLink RX1 24 "RoofDrains$Roof" "size" "[I", .fieldLink RX1 27 "RoofDrains$Roof" "bore" "[I"] ++ wsX10)
def wsX1_changeValley : List Cond := .code yX1_changeValley cX1_changeValley 4 (some .int) :: ([.fieldLink RX1 33 "RoofDrains$Roof" "valleyTo" "[I"] ++ wsX10)
def wsX1_changeSetting : List Cond := .code yX1_changeSetting cX1_changeSetting 4 (some .int) :: ([.fieldLink RX1 45 "RoofDrains$Roof" "values" "[I"] ++ wsX10)
def wsX1_valleysLead : List Cond := .code yX1_valleysLead cX1_valleysLead 5 (some .boolean) :: ([.fieldLink RX1 33 "RoofDrains$Roof" "valleyTo" "[I", .static yX3_isGutter, .initialized RX3, .code yX3_isGutter cX3_isGutter 1 (some .boolean)] ++ wsX10)
def wsX1_planeNumber : List Cond := .code yX1_planeNumber cX1_planeNumber 3 (some .int) :: ([.fieldLink RX1 9 "RoofDrains$Roof" "area" "[I", .fieldLink RX1 15 "RoofDrains$Roof" "slope" "[I", .fieldLink RX1 18 "RoofDrains$Roof" "leadsTo" "[I", .fieldLink RX1 21 "RoofDrains$Roof" "onPlane" "[I"] ++ wsX10)
def wsX1_gutterNumber : List Cond := .code yX1_gutterNumber cX1_gutterNumber 3 (some .int) :: ([.fieldLink RX1 24 "RoofDrains$Roof" "size" "[I", .fieldLink RX1 27 "RoofDrains$Roof" "bore" "[I", .fieldLink RX1 30 "RoofDrains$Roof" "leaves" "[I", .fieldLink RX1 33 "RoofDrains$Roof" "valleyTo" "[I", .fieldLink RX1 36 "RoofDrains$Roof" "inGutter" "[I", .fieldLink RX1 39 "RoofDrains$Roof" "spilt" "[I", .fieldLink RX1 42 "RoofDrains$Roof" "drained" "[I", .methodLink RX1 95 yX1_room, .instanceMethod yX1_room, .selects RX1 yX1_room yX1_room, .initialized RX1, .code yX1_room cX1_room 2 (some .int), .methodLink RX1 91 yX1_pipeTakes, .instanceMethod yX1_pipeTakes, .selects RX1 yX1_pipeTakes yX1_pipeTakes, .code yX1_pipeTakes cX1_pipeTakes 3 (some .int)] ++ wsX10)
def wsX1_hasLeaves : List Cond := .code yX1_hasLeaves cX1_hasLeaves 2 (some .boolean) :: ([.fieldLink RX1 30 "RoofDrains$Roof" "leaves" "[I"] ++ wsX10)
def wsX1_lowestThatSpiltMoreThanIn : List Cond := .code yX1_lowestThatSpiltMoreThanIn cX1_lowestThatSpiltMoreThanIn 3 (some .int) :: ([.fieldLink RX1 39 "RoofDrains$Roof" "spilt" "[I"] ++ wsX10)
def wsX1_settingValue : List Cond := .code yX1_settingValue cX1_settingValue 2 (some .int) :: ([.fieldLink RX1 45 "RoofDrains$Roof" "values" "[I"] ++ wsX10)
def wsX1_minutesGone : List Cond := .code yX1_minutesGone cX1_minutesGone 1 (some .int) :: ([.fieldLink RX1 54 "RoofDrains$Roof" "minutesGone" "I"] ++ wsX10)
def wsX1_weeksPassed : List Cond := .code yX1_weeksPassed cX1_weeksPassed 1 (some .int) :: ([.fieldLink RX1 58 "RoofDrains$Roof" "weeksPassed" "I"] ++ wsX10)
def wsX1_rainedLitres : List Cond := .code yX1_rainedLitres cX1_rainedLitres 1 (some .int) :: ([.fieldLink RX1 61 "RoofDrains$Roof" "rained" "I"] ++ wsX10)
def wsX1_backedUpMinutes : List Cond := .code yX1_backedUpMinutes cX1_backedUpMinutes 1 (some .int) :: ([.fieldLink RX1 64 "RoofDrains$Roof" "backedUp" "I"] ++ wsX10)
def wsX1_sumOf : List Cond := .code yX1_sumOf cX1_sumOf 6 (some .int) :: ([])
def wsX1_standingLitres : List Cond := .code yX1_standingLitres cX1_standingLitres 1 (some .int) :: ([.fieldLink RX1 21 "RoofDrains$Roof" "onPlane" "[I", .fieldLink RX1 36 "RoofDrains$Roof" "inGutter" "[I", .methodLink RX1 98 yX1_sumOf, .static yX1_sumOf, .initialized RX1, .code yX1_sumOf cX1_sumOf 6 (some .int)] ++ wsX10)
def wsX1_drainedLitres : List Cond := .code yX1_drainedLitres cX1_drainedLitres 1 (some .int) :: ([.fieldLink RX1 42 "RoofDrains$Roof" "drained" "[I", .methodLink RX1 98 yX1_sumOf, .static yX1_sumOf, .initialized RX1, .code yX1_sumOf cX1_sumOf 6 (some .int)] ++ wsX10)
def wsX1_spiltLitres : List Cond := .code yX1_spiltLitres cX1_spiltLitres 1 (some .int) :: ([.fieldLink RX1 39 "RoofDrains$Roof" "spilt" "[I", .methodLink RX1 98 yX1_sumOf, .static yX1_sumOf, .initialized RX1, .code yX1_sumOf cX1_sumOf 6 (some .int)] ++ wsX10)
def wsX1_leavesTogether : List Cond := .code yX1_leavesTogether cX1_leavesTogether 1 (some .int) :: ([.fieldLink RX1 30 "RoofDrains$Roof" "leaves" "[I", .methodLink RX1 98 yX1_sumOf, .static yX1_sumOf, .initialized RX1, .code yX1_sumOf cX1_sumOf 6 (some .int)] ++ wsX10)
def wsX2_init : List Cond := .code yX2_init cX2_init 1 none :: ([.methodLink RX2 1 objectInit, .instanceMethod objectInit, .code objectInit ⟨#[0xb1]⟩ 1 none, .classLink RX2 9 RX1, .fieldLink RX2 11 "RoofDrains$SavedRoofs" "rows" "[LRoofDrains$Roof;"] ++ wsX20)
def wsX2_held : List Cond := .code yX2_held cX2_held 1 (some .int) :: ([.fieldLink RX2 15 "RoofDrains$SavedRoofs" "held" "I"] ++ wsX20)
def wsX2_keep_r1 : List Cond := [Cond.fieldLink RX2 15 "RoofDrains$SavedRoofs" "held" "I", Cond.fieldLink RX2 19 "RoofDrains$SavedRoofs" "oldest" "I", Cond.fieldLink RX2 11 "RoofDrains$SavedRoofs" "rows" "[LRoofDrains$Roof;", Cond.classLink RX2 9 RX1, Cond.instantiable RX1 16, Cond.initialized RX1, Cond.methodLink RX2 22 yX1_init, Cond.instanceMethod yX1_init, Cond.code yX1_init cX1_init 2 none, Cond.methodLink RX1 3 objectInit, Cond.instanceMethod objectInit, Cond.code objectInit ⟨#[0xb1]⟩ 1 none, Cond.arrayClass .int, Cond.fieldLink RX1 9 "RoofDrains$Roof" "area" "[I", Cond.fieldLink RX1 15 "RoofDrains$Roof" "slope" "[I", Cond.fieldLink RX1 18 "RoofDrains$Roof" "leadsTo" "[I", Cond.fieldLink RX1 21 "RoofDrains$Roof" "onPlane" "[I", Cond.fieldLink RX1 24 "RoofDrains$Roof" "size" "[I", Cond.fieldLink RX1 27 "RoofDrains$Roof" "bore" "[I", Cond.fieldLink RX1 30 "RoofDrains$Roof" "leaves" "[I", Cond.fieldLink RX1 33 "RoofDrains$Roof" "valleyTo" "[I", Cond.fieldLink RX1 36 "RoofDrains$Roof" "inGutter" "[I", Cond.fieldLink RX1 39 "RoofDrains$Roof" "spilt" "[I", Cond.fieldLink RX1 42 "RoofDrains$Roof" "drained" "[I"]
def wsX2_keep_r2 : List Cond := [Cond.fieldLink RX1 45 "RoofDrains$Roof" "values" "[I", Cond.methodLink RX2 23 yX1_copyFrom, Cond.instanceMethod yX1_copyFrom, Cond.selects RX1 yX1_copyFrom yX1_copyFrom, Cond.code yX1_copyFrom cX1_copyFrom 2 none, Cond.methodLink RX1 48 arraycopyName, Cond.native arraycopyName, Cond.static arraycopyName, Cond.initialized "java/lang/System", Cond.fieldLink RX1 54 "RoofDrains$Roof" "minutesGone" "I", Cond.fieldLink RX1 58 "RoofDrains$Roof" "weeksPassed" "I", Cond.fieldLink RX1 61 "RoofDrains$Roof" "rained" "I", Cond.fieldLink RX1 64 "RoofDrains$Roof" "backedUp" "I"]
def wsX2_keep : List Cond := .code yX2_keep cX2_keep 4 none :: ((wsX2_keep_r1 ++ wsX2_keep_r2) ++ wsX20 ++ wsX10)
def wsX2_dropLatest : List Cond := .code yX2_dropLatest cX2_dropLatest 1 (some (.object "RoofDrains$Roof")) :: ([.fieldLink RX2 15 "RoofDrains$SavedRoofs" "held" "I", .fieldLink RX2 11 "RoofDrains$SavedRoofs" "rows" "[LRoofDrains$Roof;", .fieldLink RX2 19 "RoofDrains$SavedRoofs" "oldest" "I"] ++ wsX20)
def wsX3_init_r1 : List Cond := [Cond.methodLink RX3 1 objectInit, Cond.instanceMethod objectInit, Cond.code objectInit ⟨#[0xb1]⟩ 1 none, Cond.classLink RX3 7 RX1, Cond.instantiable RX1 16, Cond.initialized RX1, Cond.fieldLink RX3 10 "RoofDrains" "roof" "LRoofDrains$Roof;", Cond.fieldLink RX3 16 "RoofDrains" "thought" "LRoofDrains$Roof;", Cond.classLink RX3 19 RX2, Cond.instantiable RX2 3, Cond.initialized RX2, Cond.fieldLink RX3 22 "RoofDrains" "saved" "LRoofDrains$SavedRoofs;", Cond.classLink RX3 26 RX0, Cond.instantiable RX0 2, Cond.initialized RX0, Cond.fieldLink RX3 29 "RoofDrains" "text" "LRoofDrains$RainText;", Cond.methodLink RX3 9 yX1_init, Cond.instanceMethod yX1_init, Cond.code yX1_init cX1_init 2 none, Cond.methodLink RX1 3 objectInit, Cond.arrayClass .int, Cond.fieldLink RX1 9 "RoofDrains$Roof" "area" "[I", Cond.fieldLink RX1 15 "RoofDrains$Roof" "slope" "[I", Cond.fieldLink RX1 18 "RoofDrains$Roof" "leadsTo" "[I"]
def wsX3_init_r2 : List Cond := [Cond.fieldLink RX1 21 "RoofDrains$Roof" "onPlane" "[I", Cond.fieldLink RX1 24 "RoofDrains$Roof" "size" "[I", Cond.fieldLink RX1 27 "RoofDrains$Roof" "bore" "[I", Cond.fieldLink RX1 30 "RoofDrains$Roof" "leaves" "[I", Cond.fieldLink RX1 33 "RoofDrains$Roof" "valleyTo" "[I", Cond.fieldLink RX1 36 "RoofDrains$Roof" "inGutter" "[I", Cond.fieldLink RX1 39 "RoofDrains$Roof" "spilt" "[I", Cond.fieldLink RX1 42 "RoofDrains$Roof" "drained" "[I", Cond.fieldLink RX1 45 "RoofDrains$Roof" "values" "[I", Cond.methodLink RX3 21 yX2_init, Cond.instanceMethod yX2_init, Cond.code yX2_init cX2_init 1 none, Cond.methodLink RX2 1 objectInit, Cond.classLink RX2 9 RX1, Cond.fieldLink RX2 11 "RoofDrains$SavedRoofs" "rows" "[LRoofDrains$Roof;", Cond.methodLink RX3 28 yX0_init, Cond.instanceMethod yX0_init, Cond.code yX0_init cX0_init 1 none, Cond.methodLink RX0 1 objectInit, Cond.fieldLink RX0 9 "RoofDrains$RainText" "codes" "[I"]
def wsX3_init : List Cond := .code yX3_init cX3_init 1 none :: ((wsX3_init_r1 ++ wsX3_init_r2) ++ wsX10 ++ wsX30 ++ wsX20 ++ wsX00)
def wsX3_isPlane : List Cond := .code yX3_isPlane cX3_isPlane 1 (some .boolean) :: ([])
def wsX3_plane_r1 : List Cond := [Cond.classLink RX3 40 "java/lang/IndexOutOfBoundsException", Cond.initialized "java/lang/IndexOutOfBoundsException", Cond.classLink RX3 51 "java/lang/IllegalArgumentException", Cond.initialized "java/lang/IllegalArgumentException", Cond.fieldLink RX3 22 "RoofDrains" "saved" "LRoofDrains$SavedRoofs;", Cond.fieldLink RX3 10 "RoofDrains" "roof" "LRoofDrains$Roof;", Cond.methodLink RX3 33 yX3_isPlane, Cond.static yX3_isPlane, Cond.initialized RX3, Cond.code yX3_isPlane cX3_isPlane 1 (some .boolean), Cond.methodLink RX3 37 yX3_isGutter, Cond.static yX3_isGutter, Cond.code yX3_isGutter cX3_isGutter 1 (some .boolean), Cond.methodLink RX3 47 yX3_isWithin, Cond.static yX3_isWithin, Cond.code yX3_isWithin cX3_isWithin 3 (some .boolean), Cond.methodLink RX3 56 yX2_keep, Cond.instanceMethod yX2_keep, Cond.selects RX2 yX2_keep yX2_keep, Cond.initialized RX2, Cond.code yX2_keep cX2_keep 4 none, Cond.fieldLink RX2 15 "RoofDrains$SavedRoofs" "held" "I", Cond.fieldLink RX2 19 "RoofDrains$SavedRoofs" "oldest" "I", Cond.fieldLink RX2 11 "RoofDrains$SavedRoofs" "rows" "[LRoofDrains$Roof;"]
def wsX3_plane_r2 : List Cond := [Cond.classLink RX2 9 RX1, Cond.instantiable RX1 16, Cond.initialized RX1, Cond.methodLink RX2 22 yX1_init, Cond.instanceMethod yX1_init, Cond.code yX1_init cX1_init 2 none, Cond.methodLink RX1 3 objectInit, Cond.instanceMethod objectInit, Cond.code objectInit ⟨#[0xb1]⟩ 1 none, Cond.arrayClass .int, Cond.fieldLink RX1 9 "RoofDrains$Roof" "area" "[I", Cond.fieldLink RX1 15 "RoofDrains$Roof" "slope" "[I", Cond.fieldLink RX1 18 "RoofDrains$Roof" "leadsTo" "[I", Cond.fieldLink RX1 21 "RoofDrains$Roof" "onPlane" "[I", Cond.fieldLink RX1 24 "RoofDrains$Roof" "size" "[I", Cond.fieldLink RX1 27 "RoofDrains$Roof" "bore" "[I", Cond.fieldLink RX1 30 "RoofDrains$Roof" "leaves" "[I", Cond.fieldLink RX1 33 "RoofDrains$Roof" "valleyTo" "[I", Cond.fieldLink RX1 36 "RoofDrains$Roof" "inGutter" "[I", Cond.fieldLink RX1 39 "RoofDrains$Roof" "spilt" "[I", Cond.fieldLink RX1 42 "RoofDrains$Roof" "drained" "[I", Cond.fieldLink RX1 45 "RoofDrains$Roof" "values" "[I", Cond.methodLink RX2 23 yX1_copyFrom, Cond.instanceMethod yX1_copyFrom]
def wsX3_plane_r3 : List Cond := [Cond.selects RX1 yX1_copyFrom yX1_copyFrom, Cond.code yX1_copyFrom cX1_copyFrom 2 none, Cond.methodLink RX1 48 arraycopyName, Cond.native arraycopyName, Cond.static arraycopyName, Cond.initialized "java/lang/System", Cond.fieldLink RX1 54 "RoofDrains$Roof" "minutesGone" "I", Cond.fieldLink RX1 58 "RoofDrains$Roof" "weeksPassed" "I", Cond.fieldLink RX1 61 "RoofDrains$Roof" "rained" "I", Cond.fieldLink RX1 64 "RoofDrains$Roof" "backedUp" "I", Cond.methodLink RX3 60 yX1_changePlane, Cond.instanceMethod yX1_changePlane, Cond.selects RX1 yX1_changePlane yX1_changePlane, Cond.code yX1_changePlane cX1_changePlane 6 (some .int)]
def wsX3_plane : List Cond := .code yX3_plane cX3_plane 5 (some .int) :: ((wsX3_plane_r1 ++ (wsX3_plane_r2 ++ wsX3_plane_r3)) ++ wsX30 ++ wsX20 ++ wsX10 ++ (vx_atS RX3 44 "java/lang/IndexOutOfBoundsException" ["java/lang/RuntimeException", "java/lang/Exception"]).filter goodWord ++ (vx_atS RX3 55 "java/lang/IllegalArgumentException" ["java/lang/RuntimeException", "java/lang/Exception"]).filter goodWord)
def wsX3_gutter_r1 : List Cond := [Cond.classLink RX3 40 "java/lang/IndexOutOfBoundsException", Cond.initialized "java/lang/IndexOutOfBoundsException", Cond.classLink RX3 51 "java/lang/IllegalArgumentException", Cond.initialized "java/lang/IllegalArgumentException", Cond.fieldLink RX3 22 "RoofDrains" "saved" "LRoofDrains$SavedRoofs;", Cond.fieldLink RX3 10 "RoofDrains" "roof" "LRoofDrains$Roof;", Cond.methodLink RX3 37 yX3_isGutter, Cond.static yX3_isGutter, Cond.initialized RX3, Cond.code yX3_isGutter cX3_isGutter 1 (some .boolean), Cond.methodLink RX3 47 yX3_isWithin, Cond.static yX3_isWithin, Cond.code yX3_isWithin cX3_isWithin 3 (some .boolean), Cond.methodLink RX3 56 yX2_keep, Cond.instanceMethod yX2_keep, Cond.selects RX2 yX2_keep yX2_keep, Cond.initialized RX2, Cond.code yX2_keep cX2_keep 4 none, Cond.fieldLink RX2 15 "RoofDrains$SavedRoofs" "held" "I", Cond.fieldLink RX2 19 "RoofDrains$SavedRoofs" "oldest" "I", Cond.fieldLink RX2 11 "RoofDrains$SavedRoofs" "rows" "[LRoofDrains$Roof;", Cond.classLink RX2 9 RX1, Cond.instantiable RX1 16, Cond.initialized RX1]
def wsX3_gutter_r2 : List Cond := [Cond.methodLink RX2 22 yX1_init, Cond.instanceMethod yX1_init, Cond.code yX1_init cX1_init 2 none, Cond.methodLink RX1 3 objectInit, Cond.instanceMethod objectInit, Cond.code objectInit ⟨#[0xb1]⟩ 1 none, Cond.arrayClass .int, Cond.fieldLink RX1 9 "RoofDrains$Roof" "area" "[I", Cond.fieldLink RX1 15 "RoofDrains$Roof" "slope" "[I", Cond.fieldLink RX1 18 "RoofDrains$Roof" "leadsTo" "[I", Cond.fieldLink RX1 21 "RoofDrains$Roof" "onPlane" "[I", Cond.fieldLink RX1 24 "RoofDrains$Roof" "size" "[I", Cond.fieldLink RX1 27 "RoofDrains$Roof" "bore" "[I", Cond.fieldLink RX1 30 "RoofDrains$Roof" "leaves" "[I", Cond.fieldLink RX1 33 "RoofDrains$Roof" "valleyTo" "[I", Cond.fieldLink RX1 36 "RoofDrains$Roof" "inGutter" "[I", Cond.fieldLink RX1 39 "RoofDrains$Roof" "spilt" "[I", Cond.fieldLink RX1 42 "RoofDrains$Roof" "drained" "[I", Cond.fieldLink RX1 45 "RoofDrains$Roof" "values" "[I", Cond.methodLink RX2 23 yX1_copyFrom, Cond.instanceMethod yX1_copyFrom, Cond.selects RX1 yX1_copyFrom yX1_copyFrom, Cond.code yX1_copyFrom cX1_copyFrom 2 none, Cond.methodLink RX1 48 arraycopyName]
def wsX3_gutter_r3 : List Cond := [Cond.native arraycopyName, Cond.static arraycopyName, Cond.initialized "java/lang/System", Cond.fieldLink RX1 54 "RoofDrains$Roof" "minutesGone" "I", Cond.fieldLink RX1 58 "RoofDrains$Roof" "weeksPassed" "I", Cond.fieldLink RX1 61 "RoofDrains$Roof" "rained" "I", Cond.fieldLink RX1 64 "RoofDrains$Roof" "backedUp" "I", Cond.methodLink RX3 68 yX1_changeGutter, Cond.instanceMethod yX1_changeGutter, Cond.selects RX1 yX1_changeGutter yX1_changeGutter, Cond.code yX1_changeGutter cX1_changeGutter 5 (some .int)]
def wsX3_gutter : List Cond := .code yX3_gutter cX3_gutter 4 (some .int) :: ((wsX3_gutter_r1 ++ (wsX3_gutter_r2 ++ wsX3_gutter_r3)) ++ wsX30 ++ wsX20 ++ wsX10 ++ (vx_atS RX3 44 "java/lang/IndexOutOfBoundsException" ["java/lang/RuntimeException", "java/lang/Exception"]).filter goodWord ++ (vx_atS RX3 55 "java/lang/IllegalArgumentException" ["java/lang/RuntimeException", "java/lang/Exception"]).filter goodWord)
def wsX3_valley_r1 : List Cond := [Cond.classLink RX3 40 "java/lang/IndexOutOfBoundsException", Cond.initialized "java/lang/IndexOutOfBoundsException", Cond.classLink RX3 51 "java/lang/IllegalArgumentException", Cond.initialized "java/lang/IllegalArgumentException", Cond.classLink RX3 78 "java/lang/IllegalStateException", Cond.initialized "java/lang/IllegalStateException", Cond.fieldLink RX3 10 "RoofDrains" "roof" "LRoofDrains$Roof;", Cond.fieldLink RX3 22 "RoofDrains" "saved" "LRoofDrains$SavedRoofs;", Cond.methodLink RX3 37 yX3_isGutter, Cond.static yX3_isGutter, Cond.initialized RX3, Cond.code yX3_isGutter cX3_isGutter 1 (some .boolean), Cond.methodLink RX3 74 yX1_valleysLead, Cond.instanceMethod yX1_valleysLead, Cond.selects RX1 yX1_valleysLead yX1_valleysLead, Cond.initialized RX1, Cond.code yX1_valleysLead cX1_valleysLead 5 (some .boolean), Cond.fieldLink RX1 33 "RoofDrains$Roof" "valleyTo" "[I", Cond.methodLink RX3 56 yX2_keep, Cond.instanceMethod yX2_keep, Cond.selects RX2 yX2_keep yX2_keep, Cond.initialized RX2, Cond.code yX2_keep cX2_keep 4 none, Cond.fieldLink RX2 15 "RoofDrains$SavedRoofs" "held" "I"]
def wsX3_valley_r2 : List Cond := [Cond.fieldLink RX2 19 "RoofDrains$SavedRoofs" "oldest" "I", Cond.fieldLink RX2 11 "RoofDrains$SavedRoofs" "rows" "[LRoofDrains$Roof;", Cond.classLink RX2 9 RX1, Cond.instantiable RX1 16, Cond.methodLink RX2 22 yX1_init, Cond.instanceMethod yX1_init, Cond.code yX1_init cX1_init 2 none, Cond.methodLink RX1 3 objectInit, Cond.instanceMethod objectInit, Cond.code objectInit ⟨#[0xb1]⟩ 1 none, Cond.arrayClass .int, Cond.fieldLink RX1 9 "RoofDrains$Roof" "area" "[I", Cond.fieldLink RX1 15 "RoofDrains$Roof" "slope" "[I", Cond.fieldLink RX1 18 "RoofDrains$Roof" "leadsTo" "[I", Cond.fieldLink RX1 21 "RoofDrains$Roof" "onPlane" "[I", Cond.fieldLink RX1 24 "RoofDrains$Roof" "size" "[I", Cond.fieldLink RX1 27 "RoofDrains$Roof" "bore" "[I", Cond.fieldLink RX1 30 "RoofDrains$Roof" "leaves" "[I", Cond.fieldLink RX1 36 "RoofDrains$Roof" "inGutter" "[I", Cond.fieldLink RX1 39 "RoofDrains$Roof" "spilt" "[I", Cond.fieldLink RX1 42 "RoofDrains$Roof" "drained" "[I", Cond.fieldLink RX1 45 "RoofDrains$Roof" "values" "[I", Cond.methodLink RX2 23 yX1_copyFrom, Cond.instanceMethod yX1_copyFrom]
def wsX3_valley_r3 : List Cond := [Cond.selects RX1 yX1_copyFrom yX1_copyFrom, Cond.code yX1_copyFrom cX1_copyFrom 2 none, Cond.methodLink RX1 48 arraycopyName, Cond.native arraycopyName, Cond.static arraycopyName, Cond.initialized "java/lang/System", Cond.fieldLink RX1 54 "RoofDrains$Roof" "minutesGone" "I", Cond.fieldLink RX1 58 "RoofDrains$Roof" "weeksPassed" "I", Cond.fieldLink RX1 61 "RoofDrains$Roof" "rained" "I", Cond.fieldLink RX1 64 "RoofDrains$Roof" "backedUp" "I", Cond.methodLink RX3 83 yX1_changeValley, Cond.instanceMethod yX1_changeValley, Cond.selects RX1 yX1_changeValley yX1_changeValley, Cond.code yX1_changeValley cX1_changeValley 4 (some .int)]
def wsX3_valley : List Cond := .code yX3_valley cX3_valley 3 (some .int) :: ((wsX3_valley_r1 ++ (wsX3_valley_r2 ++ wsX3_valley_r3)) ++ wsX30 ++ wsX10 ++ wsX20 ++ (vx_atS RX3 44 "java/lang/IndexOutOfBoundsException" ["java/lang/RuntimeException", "java/lang/Exception"]).filter goodWord ++ (vx_atS RX3 55 "java/lang/IllegalArgumentException" ["java/lang/RuntimeException", "java/lang/Exception"]).filter goodWord ++ (vx_atS RX3 82 "java/lang/IllegalStateException" ["java/lang/RuntimeException", "java/lang/Exception"]).filter goodWord)
def wsX3_clean_r1 : List Cond := [Cond.classLink RX3 40 "java/lang/IndexOutOfBoundsException", Cond.initialized "java/lang/IndexOutOfBoundsException", Cond.fieldLink RX3 22 "RoofDrains" "saved" "LRoofDrains$SavedRoofs;", Cond.fieldLink RX3 10 "RoofDrains" "roof" "LRoofDrains$Roof;", Cond.methodLink RX3 37 yX3_isGutter, Cond.static yX3_isGutter, Cond.initialized RX3, Cond.code yX3_isGutter cX3_isGutter 1 (some .boolean), Cond.methodLink RX3 56 yX2_keep, Cond.instanceMethod yX2_keep, Cond.selects RX2 yX2_keep yX2_keep, Cond.initialized RX2, Cond.code yX2_keep cX2_keep 4 none, Cond.fieldLink RX2 15 "RoofDrains$SavedRoofs" "held" "I", Cond.fieldLink RX2 19 "RoofDrains$SavedRoofs" "oldest" "I", Cond.fieldLink RX2 11 "RoofDrains$SavedRoofs" "rows" "[LRoofDrains$Roof;", Cond.classLink RX2 9 RX1, Cond.instantiable RX1 16, Cond.initialized RX1, Cond.methodLink RX2 22 yX1_init, Cond.instanceMethod yX1_init, Cond.code yX1_init cX1_init 2 none, Cond.methodLink RX1 3 objectInit, Cond.instanceMethod objectInit]
def wsX3_clean_r2 : List Cond := [Cond.code objectInit ⟨#[0xb1]⟩ 1 none, Cond.arrayClass .int, Cond.fieldLink RX1 9 "RoofDrains$Roof" "area" "[I", Cond.fieldLink RX1 15 "RoofDrains$Roof" "slope" "[I", Cond.fieldLink RX1 18 "RoofDrains$Roof" "leadsTo" "[I", Cond.fieldLink RX1 21 "RoofDrains$Roof" "onPlane" "[I", Cond.fieldLink RX1 24 "RoofDrains$Roof" "size" "[I", Cond.fieldLink RX1 27 "RoofDrains$Roof" "bore" "[I", Cond.fieldLink RX1 30 "RoofDrains$Roof" "leaves" "[I", Cond.fieldLink RX1 33 "RoofDrains$Roof" "valleyTo" "[I", Cond.fieldLink RX1 36 "RoofDrains$Roof" "inGutter" "[I", Cond.fieldLink RX1 39 "RoofDrains$Roof" "spilt" "[I", Cond.fieldLink RX1 42 "RoofDrains$Roof" "drained" "[I", Cond.fieldLink RX1 45 "RoofDrains$Roof" "values" "[I", Cond.methodLink RX2 23 yX1_copyFrom, Cond.instanceMethod yX1_copyFrom, Cond.selects RX1 yX1_copyFrom yX1_copyFrom, Cond.code yX1_copyFrom cX1_copyFrom 2 none, Cond.methodLink RX1 48 arraycopyName, Cond.native arraycopyName, Cond.static arraycopyName, Cond.initialized "java/lang/System", Cond.fieldLink RX1 54 "RoofDrains$Roof" "minutesGone" "I", Cond.fieldLink RX1 58 "RoofDrains$Roof" "weeksPassed" "I"]
def wsX3_clean_r3 : List Cond := [Cond.fieldLink RX1 61 "RoofDrains$Roof" "rained" "I", Cond.fieldLink RX1 64 "RoofDrains$Roof" "backedUp" "I", Cond.methodLink RX3 87 yX1_takeLeaves, Cond.instanceMethod yX1_takeLeaves, Cond.selects RX1 yX1_takeLeaves yX1_takeLeaves, Cond.code yX1_takeLeaves cX1_takeLeaves 3 (some .int)]
def wsX3_clean : List Cond := .code yX3_clean cX3_clean 2 (some .int) :: ((wsX3_clean_r1 ++ (wsX3_clean_r2 ++ wsX3_clean_r3)) ++ wsX30 ++ wsX20 ++ wsX10 ++ (vx_atS RX3 44 "java/lang/IndexOutOfBoundsException" ["java/lang/RuntimeException", "java/lang/Exception"]).filter goodWord)
def wsX3_isSetting : List Cond := .code yX3_isSetting cX3_isSetting 1 (some .boolean) :: ([])
def wsX3_set_r1 : List Cond := [Cond.classLink RX3 40 "java/lang/IndexOutOfBoundsException", Cond.initialized "java/lang/IndexOutOfBoundsException", Cond.classLink RX3 51 "java/lang/IllegalArgumentException", Cond.initialized "java/lang/IllegalArgumentException", Cond.fieldLink RX3 96 "RoofDrains" "MOST_OF_SETTING" "[I", Cond.fieldLink RX3 22 "RoofDrains" "saved" "LRoofDrains$SavedRoofs;", Cond.fieldLink RX3 10 "RoofDrains" "roof" "LRoofDrains$Roof;", Cond.methodLink RX3 91 yX3_isSetting, Cond.static yX3_isSetting, Cond.initialized RX3, Cond.code yX3_isSetting cX3_isSetting 1 (some .boolean), Cond.methodLink RX3 47 yX3_isWithin, Cond.static yX3_isWithin, Cond.code yX3_isWithin cX3_isWithin 3 (some .boolean), Cond.methodLink RX3 56 yX2_keep, Cond.instanceMethod yX2_keep, Cond.selects RX2 yX2_keep yX2_keep, Cond.initialized RX2, Cond.code yX2_keep cX2_keep 4 none, Cond.fieldLink RX2 15 "RoofDrains$SavedRoofs" "held" "I", Cond.fieldLink RX2 19 "RoofDrains$SavedRoofs" "oldest" "I", Cond.fieldLink RX2 11 "RoofDrains$SavedRoofs" "rows" "[LRoofDrains$Roof;", Cond.classLink RX2 9 RX1, Cond.instantiable RX1 16]
def wsX3_set_r2 : List Cond := [Cond.initialized RX1, Cond.methodLink RX2 22 yX1_init, Cond.instanceMethod yX1_init, Cond.code yX1_init cX1_init 2 none, Cond.methodLink RX1 3 objectInit, Cond.instanceMethod objectInit, Cond.code objectInit ⟨#[0xb1]⟩ 1 none, Cond.arrayClass .int, Cond.fieldLink RX1 9 "RoofDrains$Roof" "area" "[I", Cond.fieldLink RX1 15 "RoofDrains$Roof" "slope" "[I", Cond.fieldLink RX1 18 "RoofDrains$Roof" "leadsTo" "[I", Cond.fieldLink RX1 21 "RoofDrains$Roof" "onPlane" "[I", Cond.fieldLink RX1 24 "RoofDrains$Roof" "size" "[I", Cond.fieldLink RX1 27 "RoofDrains$Roof" "bore" "[I", Cond.fieldLink RX1 30 "RoofDrains$Roof" "leaves" "[I", Cond.fieldLink RX1 33 "RoofDrains$Roof" "valleyTo" "[I", Cond.fieldLink RX1 36 "RoofDrains$Roof" "inGutter" "[I", Cond.fieldLink RX1 39 "RoofDrains$Roof" "spilt" "[I", Cond.fieldLink RX1 42 "RoofDrains$Roof" "drained" "[I", Cond.fieldLink RX1 45 "RoofDrains$Roof" "values" "[I", Cond.methodLink RX2 23 yX1_copyFrom, Cond.instanceMethod yX1_copyFrom, Cond.selects RX1 yX1_copyFrom yX1_copyFrom, Cond.code yX1_copyFrom cX1_copyFrom 2 none]
def wsX3_set_r3 : List Cond := [Cond.methodLink RX1 48 arraycopyName, Cond.native arraycopyName, Cond.static arraycopyName, Cond.initialized "java/lang/System", Cond.fieldLink RX1 54 "RoofDrains$Roof" "minutesGone" "I", Cond.fieldLink RX1 58 "RoofDrains$Roof" "weeksPassed" "I", Cond.fieldLink RX1 61 "RoofDrains$Roof" "rained" "I", Cond.fieldLink RX1 64 "RoofDrains$Roof" "backedUp" "I", Cond.methodLink RX3 102 yX1_changeSetting, Cond.instanceMethod yX1_changeSetting, Cond.selects RX1 yX1_changeSetting yX1_changeSetting, Cond.code yX1_changeSetting cX1_changeSetting 4 (some .int)]
def wsX3_set : List Cond := .code yX3_set cX3_set 3 (some .int) :: ((wsX3_set_r1 ++ (wsX3_set_r2 ++ wsX3_set_r3)) ++ wsX30 ++ wsX20 ++ wsX10 ++ (vx_atS RX3 44 "java/lang/IndexOutOfBoundsException" ["java/lang/RuntimeException", "java/lang/Exception"]).filter goodWord ++ (vx_atS RX3 55 "java/lang/IllegalArgumentException" ["java/lang/RuntimeException", "java/lang/Exception"]).filter goodWord)
def wsX3_rain_r1 : List Cond := [Cond.classLink RX3 51 "java/lang/IllegalArgumentException", Cond.initialized "java/lang/IllegalArgumentException", Cond.fieldLink RX3 22 "RoofDrains" "saved" "LRoofDrains$SavedRoofs;", Cond.fieldLink RX3 10 "RoofDrains" "roof" "LRoofDrains$Roof;", Cond.methodLink RX3 47 yX3_isWithin, Cond.static yX3_isWithin, Cond.initialized RX3, Cond.code yX3_isWithin cX3_isWithin 3 (some .boolean), Cond.methodLink RX3 56 yX2_keep, Cond.instanceMethod yX2_keep, Cond.selects RX2 yX2_keep yX2_keep, Cond.initialized RX2, Cond.code yX2_keep cX2_keep 4 none, Cond.fieldLink RX2 15 "RoofDrains$SavedRoofs" "held" "I", Cond.fieldLink RX2 19 "RoofDrains$SavedRoofs" "oldest" "I", Cond.fieldLink RX2 11 "RoofDrains$SavedRoofs" "rows" "[LRoofDrains$Roof;", Cond.classLink RX2 9 RX1, Cond.instantiable RX1 16, Cond.initialized RX1, Cond.methodLink RX2 22 yX1_init, Cond.instanceMethod yX1_init, Cond.code yX1_init cX1_init 2 none, Cond.methodLink RX1 3 objectInit, Cond.instanceMethod objectInit]
def wsX3_rain_r2 : List Cond := [Cond.code objectInit ⟨#[0xb1]⟩ 1 none, Cond.arrayClass .int, Cond.fieldLink RX1 9 "RoofDrains$Roof" "area" "[I", Cond.fieldLink RX1 15 "RoofDrains$Roof" "slope" "[I", Cond.fieldLink RX1 18 "RoofDrains$Roof" "leadsTo" "[I", Cond.fieldLink RX1 21 "RoofDrains$Roof" "onPlane" "[I", Cond.fieldLink RX1 24 "RoofDrains$Roof" "size" "[I", Cond.fieldLink RX1 27 "RoofDrains$Roof" "bore" "[I", Cond.fieldLink RX1 30 "RoofDrains$Roof" "leaves" "[I", Cond.fieldLink RX1 33 "RoofDrains$Roof" "valleyTo" "[I", Cond.fieldLink RX1 36 "RoofDrains$Roof" "inGutter" "[I", Cond.fieldLink RX1 39 "RoofDrains$Roof" "spilt" "[I", Cond.fieldLink RX1 42 "RoofDrains$Roof" "drained" "[I", Cond.fieldLink RX1 45 "RoofDrains$Roof" "values" "[I", Cond.methodLink RX2 23 yX1_copyFrom, Cond.instanceMethod yX1_copyFrom, Cond.selects RX1 yX1_copyFrom yX1_copyFrom, Cond.code yX1_copyFrom cX1_copyFrom 2 none, Cond.methodLink RX1 48 arraycopyName, Cond.native arraycopyName, Cond.static arraycopyName, Cond.initialized "java/lang/System", Cond.fieldLink RX1 54 "RoofDrains$Roof" "minutesGone" "I", Cond.fieldLink RX1 58 "RoofDrains$Roof" "weeksPassed" "I"]
def wsX3_rain_r3 : List Cond := [Cond.fieldLink RX1 61 "RoofDrains$Roof" "rained" "I", Cond.fieldLink RX1 64 "RoofDrains$Roof" "backedUp" "I", Cond.methodLink RX3 107 yX1_spiltLitres, Cond.instanceMethod yX1_spiltLitres, Cond.selects RX1 yX1_spiltLitres yX1_spiltLitres, Cond.code yX1_spiltLitres cX1_spiltLitres 1 (some .int), Cond.methodLink RX1 98 yX1_sumOf, Cond.static yX1_sumOf, Cond.code yX1_sumOf cX1_sumOf 6 (some .int), Cond.methodLink RX3 111 yX1_passMinutes, Cond.instanceMethod yX1_passMinutes, Cond.selects RX1 yX1_passMinutes yX1_passMinutes, Cond.code yX1_passMinutes cX1_passMinutes 4 none, Cond.methodLink RX1 71 yX1_passMinute, Cond.instanceMethod yX1_passMinute, Cond.selects RX1 yX1_passMinute yX1_passMinute, Cond.code yX1_passMinute cX1_passMinute 3 none, Cond.methodLink RX1 75 yX1_wetPlane, Cond.instanceMethod yX1_wetPlane, Cond.selects RX1 yX1_wetPlane yX1_wetPlane, Cond.code yX1_wetPlane cX1_wetPlane 6 none, Cond.static yX3_isGutter, Cond.code yX3_isGutter cX3_isGutter 1 (some .boolean), Cond.methodLink RX1 79 yX1_emptyIntoDrain]
def wsX3_rain_r4 : List Cond := [Cond.instanceMethod yX1_emptyIntoDrain, Cond.selects RX1 yX1_emptyIntoDrain yX1_emptyIntoDrain, Cond.code yX1_emptyIntoDrain cX1_emptyIntoDrain 6 none, Cond.methodLink RX1 85 Lib.Math.min.name, Cond.static Lib.Math.min.name, Cond.initialized "java/lang/Math", Cond.code Lib.Math.min.name Lib.Math.min.code 2 (some .int), Cond.methodLink RX1 91 yX1_pipeTakes, Cond.instanceMethod yX1_pipeTakes, Cond.selects RX1 yX1_pipeTakes yX1_pipeTakes, Cond.code yX1_pipeTakes cX1_pipeTakes 3 (some .int), Cond.methodLink RX1 82 yX1_overflow, Cond.instanceMethod yX1_overflow, Cond.selects RX1 yX1_overflow yX1_overflow, Cond.code yX1_overflow cX1_overflow 4 none, Cond.methodLink RX1 95 yX1_room, Cond.instanceMethod yX1_room, Cond.selects RX1 yX1_room yX1_room, Cond.code yX1_room cX1_room 2 (some .int)]
def wsX3_rain : List Cond := .code yX3_rain cX3_rain 4 (some .int) :: ((wsX3_rain_r1 ++ (wsX3_rain_r2 ++ (wsX3_rain_r3 ++ wsX3_rain_r4))) ++ wsX30 ++ wsX20 ++ wsX10 ++ (vx_atS RX3 55 "java/lang/IllegalArgumentException" ["java/lang/RuntimeException", "java/lang/Exception"]).filter goodWord)
def wsX3_weeks_r1 : List Cond := [Cond.classLink RX3 51 "java/lang/IllegalArgumentException", Cond.initialized "java/lang/IllegalArgumentException", Cond.fieldLink RX3 22 "RoofDrains" "saved" "LRoofDrains$SavedRoofs;", Cond.fieldLink RX3 10 "RoofDrains" "roof" "LRoofDrains$Roof;", Cond.methodLink RX3 47 yX3_isWithin, Cond.static yX3_isWithin, Cond.initialized RX3, Cond.code yX3_isWithin cX3_isWithin 3 (some .boolean), Cond.methodLink RX3 56 yX2_keep, Cond.instanceMethod yX2_keep, Cond.selects RX2 yX2_keep yX2_keep, Cond.initialized RX2, Cond.code yX2_keep cX2_keep 4 none, Cond.fieldLink RX2 15 "RoofDrains$SavedRoofs" "held" "I", Cond.fieldLink RX2 19 "RoofDrains$SavedRoofs" "oldest" "I", Cond.fieldLink RX2 11 "RoofDrains$SavedRoofs" "rows" "[LRoofDrains$Roof;", Cond.classLink RX2 9 RX1, Cond.instantiable RX1 16, Cond.initialized RX1, Cond.methodLink RX2 22 yX1_init, Cond.instanceMethod yX1_init, Cond.code yX1_init cX1_init 2 none, Cond.methodLink RX1 3 objectInit, Cond.instanceMethod objectInit]
def wsX3_weeks_r2 : List Cond := [Cond.code objectInit ⟨#[0xb1]⟩ 1 none, Cond.arrayClass .int, Cond.fieldLink RX1 9 "RoofDrains$Roof" "area" "[I", Cond.fieldLink RX1 15 "RoofDrains$Roof" "slope" "[I", Cond.fieldLink RX1 18 "RoofDrains$Roof" "leadsTo" "[I", Cond.fieldLink RX1 21 "RoofDrains$Roof" "onPlane" "[I", Cond.fieldLink RX1 24 "RoofDrains$Roof" "size" "[I", Cond.fieldLink RX1 27 "RoofDrains$Roof" "bore" "[I", Cond.fieldLink RX1 30 "RoofDrains$Roof" "leaves" "[I", Cond.fieldLink RX1 33 "RoofDrains$Roof" "valleyTo" "[I", Cond.fieldLink RX1 36 "RoofDrains$Roof" "inGutter" "[I", Cond.fieldLink RX1 39 "RoofDrains$Roof" "spilt" "[I", Cond.fieldLink RX1 42 "RoofDrains$Roof" "drained" "[I", Cond.fieldLink RX1 45 "RoofDrains$Roof" "values" "[I", Cond.methodLink RX2 23 yX1_copyFrom, Cond.instanceMethod yX1_copyFrom, Cond.selects RX1 yX1_copyFrom yX1_copyFrom, Cond.code yX1_copyFrom cX1_copyFrom 2 none, Cond.methodLink RX1 48 arraycopyName, Cond.native arraycopyName, Cond.static arraycopyName, Cond.initialized "java/lang/System", Cond.fieldLink RX1 54 "RoofDrains$Roof" "minutesGone" "I", Cond.fieldLink RX1 58 "RoofDrains$Roof" "weeksPassed" "I"]
def wsX3_weeks_r3 : List Cond := [Cond.fieldLink RX1 61 "RoofDrains$Roof" "rained" "I", Cond.fieldLink RX1 64 "RoofDrains$Roof" "backedUp" "I", Cond.methodLink RX3 117 yX1_passWeek, Cond.instanceMethod yX1_passWeek, Cond.selects RX1 yX1_passWeek yX1_passWeek, Cond.code yX1_passWeek cX1_passWeek 2 none, Cond.methodLink RX1 85 Lib.Math.min.name, Cond.static Lib.Math.min.name, Cond.initialized "java/lang/Math", Cond.code Lib.Math.min.name Lib.Math.min.code 2 (some .int), Cond.methodLink RX3 120 yX1_leavesTogether, Cond.instanceMethod yX1_leavesTogether, Cond.selects RX1 yX1_leavesTogether yX1_leavesTogether, Cond.code yX1_leavesTogether cX1_leavesTogether 1 (some .int), Cond.methodLink RX1 98 yX1_sumOf, Cond.static yX1_sumOf, Cond.code yX1_sumOf cX1_sumOf 6 (some .int)]
def wsX3_weeks : List Cond := .code yX3_weeks cX3_weeks 3 (some .int) :: ((wsX3_weeks_r1 ++ (wsX3_weeks_r2 ++ wsX3_weeks_r3)) ++ wsX30 ++ wsX20 ++ wsX10 ++ (vx_atS RX3 55 "java/lang/IllegalArgumentException" ["java/lang/RuntimeException", "java/lang/Exception"]).filter goodWord)
def wsX3_append : List Cond := .code yX3_append cX3_append 2 (some .int) :: ([.classLink RX3 51 "java/lang/IllegalArgumentException", .initialized "java/lang/IllegalArgumentException", .classLink RX3 78 "java/lang/IllegalStateException", .initialized "java/lang/IllegalStateException", .fieldLink RX3 29 "RoofDrains" "text" "LRoofDrains$RainText;", .methodLink RX3 47 yX3_isWithin, .static yX3_isWithin, .initialized RX3, .code yX3_isWithin cX3_isWithin 3 (some .boolean), .methodLink RX3 125 yX0_isFull, .instanceMethod yX0_isFull, .selects RX0 yX0_isFull yX0_isFull, .initialized RX0, .code yX0_isFull cX0_isFull 1 (some .boolean), .fieldLink RX0 13 "RoofDrains$RainText" "length" "I", .methodLink RX3 131 yX0_add, .instanceMethod yX0_add, .selects RX0 yX0_add yX0_add, .code yX0_add cX0_add 2 none, .fieldLink RX0 9 "RoofDrains$RainText" "codes" "[I", .methodLink RX3 135 yX0_length, .instanceMethod yX0_length, .selects RX0 yX0_length yX0_length, .code yX0_length cX0_length 1 (some .int)] ++ wsX30 ++ wsX00 ++ (vx_atS RX3 55 "java/lang/IllegalArgumentException" ["java/lang/RuntimeException", "java/lang/Exception"]).filter goodWord ++ (vx_atS RX3 82 "java/lang/IllegalStateException" ["java/lang/RuntimeException", "java/lang/Exception"]).filter goodWord)
def wsX3_clearBuffer : List Cond := .code yX3_clearBuffer cX3_clearBuffer 2 (some .int) :: ([.fieldLink RX3 29 "RoofDrains" "text" "LRoofDrains$RainText;", .methodLink RX3 135 yX0_length, .instanceMethod yX0_length, .selects RX0 yX0_length yX0_length, .initialized RX0, .code yX0_length cX0_length 1 (some .int), .fieldLink RX0 13 "RoofDrains$RainText" "length" "I", .methodLink RX3 138 yX0_empty, .instanceMethod yX0_empty, .selects RX0 yX0_empty yX0_empty, .code yX0_empty cX0_empty 1 none] ++ wsX30 ++ wsX00)
def wsX3_firstError_r1 : List Cond := [Cond.fieldLink RX3 29 "RoofDrains" "text" "LRoofDrains$RainText;", Cond.methodLink RX3 141 yX0_firstWrong, Cond.instanceMethod yX0_firstWrong, Cond.selects RX0 yX0_firstWrong yX0_firstWrong, Cond.initialized RX0, Cond.code yX0_firstWrong cX0_firstWrong 3 (some .int), Cond.fieldLink RX0 13 "RoofDrains$RainText" "length" "I", Cond.fieldLink RX0 9 "RoofDrains$RainText" "codes" "[I", Cond.methodLink RX0 17 yX0_dueAfter, Cond.static yX0_dueAfter, Cond.code yX0_dueAfter cX0_dueAfter 2 (some .int), Cond.methodLink RX0 21 yX0_mayEnd, Cond.static yX0_mayEnd, Cond.code yX0_mayEnd cX0_mayEnd 1 (some .boolean), Cond.methodLink RX0 25 yX0_dueAfterFirst, Cond.static yX0_dueAfterFirst, Cond.code yX0_dueAfterFirst cX0_dueAfterFirst 1 (some .int), Cond.static yX3_isWithin, Cond.initialized RX3, Cond.code yX3_isWithin cX3_isWithin 3 (some .boolean), Cond.methodLink RX0 35 yX0_dueAfterStar, Cond.static yX0_dueAfterStar, Cond.code yX0_dueAfterStar cX0_dueAfterStar 1 (some .int), Cond.methodLink RX0 38 yX0_dueAfterMinutesDigit]
def wsX3_firstError_r2 : List Cond := [Cond.static yX0_dueAfterMinutesDigit, Cond.code yX0_dueAfterMinutesDigit cX0_dueAfterMinutesDigit 1 (some .int)]
def wsX3_firstError : List Cond := .code yX3_firstError cX3_firstError 1 (some .int) :: ((wsX3_firstError_r1 ++ wsX3_firstError_r2) ++ wsX30 ++ wsX00)
def wsX3_play_r1 : List Cond := [Cond.classLink RX3 51 "java/lang/IllegalArgumentException", Cond.initialized "java/lang/IllegalArgumentException", Cond.fieldLink RX3 29 "RoofDrains" "text" "LRoofDrains$RainText;", Cond.fieldLink RX3 22 "RoofDrains" "saved" "LRoofDrains$SavedRoofs;", Cond.fieldLink RX3 10 "RoofDrains" "roof" "LRoofDrains$Roof;", Cond.methodLink RX3 144 yX0_isComplete, Cond.instanceMethod yX0_isComplete, Cond.selects RX0 yX0_isComplete yX0_isComplete, Cond.initialized RX0, Cond.code yX0_isComplete cX0_isComplete 3 (some .boolean), Cond.fieldLink RX0 13 "RoofDrains$RainText" "length" "I", Cond.fieldLink RX0 9 "RoofDrains$RainText" "codes" "[I", Cond.methodLink RX0 17 yX0_dueAfter, Cond.static yX0_dueAfter, Cond.code yX0_dueAfter cX0_dueAfter 2 (some .int), Cond.methodLink RX0 21 yX0_mayEnd, Cond.static yX0_mayEnd, Cond.code yX0_mayEnd cX0_mayEnd 1 (some .boolean), Cond.methodLink RX0 25 yX0_dueAfterFirst, Cond.static yX0_dueAfterFirst, Cond.code yX0_dueAfterFirst cX0_dueAfterFirst 1 (some .int), Cond.static yX3_isWithin, Cond.initialized RX3, Cond.code yX3_isWithin cX3_isWithin 3 (some .boolean)]
def wsX3_play_r2 : List Cond := [Cond.methodLink RX0 35 yX0_dueAfterStar, Cond.static yX0_dueAfterStar, Cond.code yX0_dueAfterStar cX0_dueAfterStar 1 (some .int), Cond.methodLink RX0 38 yX0_dueAfterMinutesDigit, Cond.static yX0_dueAfterMinutesDigit, Cond.code yX0_dueAfterMinutesDigit cX0_dueAfterMinutesDigit 1 (some .int), Cond.methodLink RX3 56 yX2_keep, Cond.instanceMethod yX2_keep, Cond.selects RX2 yX2_keep yX2_keep, Cond.initialized RX2, Cond.code yX2_keep cX2_keep 4 none, Cond.fieldLink RX2 15 "RoofDrains$SavedRoofs" "held" "I", Cond.fieldLink RX2 19 "RoofDrains$SavedRoofs" "oldest" "I", Cond.fieldLink RX2 11 "RoofDrains$SavedRoofs" "rows" "[LRoofDrains$Roof;", Cond.classLink RX2 9 RX1, Cond.instantiable RX1 16, Cond.initialized RX1, Cond.methodLink RX2 22 yX1_init, Cond.instanceMethod yX1_init, Cond.code yX1_init cX1_init 2 none, Cond.methodLink RX1 3 objectInit, Cond.instanceMethod objectInit, Cond.code objectInit ⟨#[0xb1]⟩ 1 none, Cond.arrayClass .int]
def wsX3_play_r3 : List Cond := [Cond.fieldLink RX1 9 "RoofDrains$Roof" "area" "[I", Cond.fieldLink RX1 15 "RoofDrains$Roof" "slope" "[I", Cond.fieldLink RX1 18 "RoofDrains$Roof" "leadsTo" "[I", Cond.fieldLink RX1 21 "RoofDrains$Roof" "onPlane" "[I", Cond.fieldLink RX1 24 "RoofDrains$Roof" "size" "[I", Cond.fieldLink RX1 27 "RoofDrains$Roof" "bore" "[I", Cond.fieldLink RX1 30 "RoofDrains$Roof" "leaves" "[I", Cond.fieldLink RX1 33 "RoofDrains$Roof" "valleyTo" "[I", Cond.fieldLink RX1 36 "RoofDrains$Roof" "inGutter" "[I", Cond.fieldLink RX1 39 "RoofDrains$Roof" "spilt" "[I", Cond.fieldLink RX1 42 "RoofDrains$Roof" "drained" "[I", Cond.fieldLink RX1 45 "RoofDrains$Roof" "values" "[I", Cond.methodLink RX2 23 yX1_copyFrom, Cond.instanceMethod yX1_copyFrom, Cond.selects RX1 yX1_copyFrom yX1_copyFrom, Cond.code yX1_copyFrom cX1_copyFrom 2 none, Cond.methodLink RX1 48 arraycopyName, Cond.native arraycopyName, Cond.static arraycopyName, Cond.initialized "java/lang/System", Cond.fieldLink RX1 54 "RoofDrains$Roof" "minutesGone" "I", Cond.fieldLink RX1 58 "RoofDrains$Roof" "weeksPassed" "I", Cond.fieldLink RX1 61 "RoofDrains$Roof" "rained" "I", Cond.fieldLink RX1 64 "RoofDrains$Roof" "backedUp" "I"]
def wsX3_play_r4 : List Cond := [Cond.methodLink RX3 107 yX1_spiltLitres, Cond.instanceMethod yX1_spiltLitres, Cond.selects RX1 yX1_spiltLitres yX1_spiltLitres, Cond.code yX1_spiltLitres cX1_spiltLitres 1 (some .int), Cond.methodLink RX1 98 yX1_sumOf, Cond.static yX1_sumOf, Cond.code yX1_sumOf cX1_sumOf 6 (some .int), Cond.methodLink RX3 149 yX0_playOn, Cond.instanceMethod yX0_playOn, Cond.selects RX0 yX0_playOn yX0_playOn, Cond.code yX0_playOn cX0_playOn 7 none, Cond.methodLink RX0 41 yX0_playPart, Cond.static yX0_playPart, Cond.code yX0_playPart cX0_playPart 4 none, Cond.methodLink RX0 45 yX1_passWeek, Cond.instanceMethod yX1_passWeek, Cond.selects RX1 yX1_passWeek yX1_passWeek, Cond.code yX1_passWeek cX1_passWeek 2 none, Cond.methodLink RX1 85 Lib.Math.min.name, Cond.static Lib.Math.min.name, Cond.initialized "java/lang/Math", Cond.code Lib.Math.min.name Lib.Math.min.code 2 (some .int), Cond.methodLink RX0 50 yX0_cleanOn, Cond.static yX0_cleanOn]
def wsX3_play_r5 : List Cond := [Cond.code yX0_cleanOn cX0_cleanOn 2 none, Cond.static yX3_isGutter, Cond.code yX3_isGutter cX3_isGutter 1 (some .boolean), Cond.methodLink RX0 61 yX1_takeLeaves, Cond.instanceMethod yX1_takeLeaves, Cond.selects RX1 yX1_takeLeaves yX1_takeLeaves, Cond.code yX1_takeLeaves cX1_takeLeaves 3 (some .int), Cond.methodLink RX0 54 yX1_passMinutes, Cond.instanceMethod yX1_passMinutes, Cond.selects RX1 yX1_passMinutes yX1_passMinutes, Cond.code yX1_passMinutes cX1_passMinutes 4 none, Cond.methodLink RX1 71 yX1_passMinute, Cond.instanceMethod yX1_passMinute, Cond.selects RX1 yX1_passMinute yX1_passMinute, Cond.code yX1_passMinute cX1_passMinute 3 none, Cond.methodLink RX1 75 yX1_wetPlane, Cond.instanceMethod yX1_wetPlane, Cond.selects RX1 yX1_wetPlane yX1_wetPlane, Cond.code yX1_wetPlane cX1_wetPlane 6 none, Cond.methodLink RX1 79 yX1_emptyIntoDrain, Cond.instanceMethod yX1_emptyIntoDrain, Cond.selects RX1 yX1_emptyIntoDrain yX1_emptyIntoDrain, Cond.code yX1_emptyIntoDrain cX1_emptyIntoDrain 6 none, Cond.methodLink RX1 91 yX1_pipeTakes]
def wsX3_play_r6 : List Cond := [Cond.instanceMethod yX1_pipeTakes, Cond.selects RX1 yX1_pipeTakes yX1_pipeTakes, Cond.code yX1_pipeTakes cX1_pipeTakes 3 (some .int), Cond.methodLink RX1 82 yX1_overflow, Cond.instanceMethod yX1_overflow, Cond.selects RX1 yX1_overflow yX1_overflow, Cond.code yX1_overflow cX1_overflow 4 none, Cond.methodLink RX1 95 yX1_room, Cond.instanceMethod yX1_room, Cond.selects RX1 yX1_room yX1_room, Cond.code yX1_room cX1_room 2 (some .int), Cond.methodLink RX3 138 yX0_empty, Cond.instanceMethod yX0_empty, Cond.selects RX0 yX0_empty yX0_empty, Cond.code yX0_empty cX0_empty 1 none]
def wsX3_play : List Cond := .code yX3_play cX3_play 2 (some .int) :: ((wsX3_play_r1 ++ (wsX3_play_r2 ++ (wsX3_play_r3 ++ (wsX3_play_r4 ++ (wsX3_play_r5 ++ wsX3_play_r6))))) ++ wsX30 ++ wsX00 ++ wsX20 ++ wsX10 ++ (vx_atS RX3 55 "java/lang/IllegalArgumentException" ["java/lang/RuntimeException", "java/lang/Exception"]).filter goodWord)
def wsX3_undo_r1 : List Cond := [Cond.classLink RX3 78 "java/lang/IllegalStateException", Cond.initialized "java/lang/IllegalStateException", Cond.fieldLink RX3 22 "RoofDrains" "saved" "LRoofDrains$SavedRoofs;", Cond.fieldLink RX3 10 "RoofDrains" "roof" "LRoofDrains$Roof;", Cond.methodLink RX3 152 yX2_dropLatest, Cond.instanceMethod yX2_dropLatest, Cond.selects RX2 yX2_dropLatest yX2_dropLatest, Cond.initialized RX2, Cond.code yX2_dropLatest cX2_dropLatest 1 (some (.object "RoofDrains$Roof")), Cond.fieldLink RX2 15 "RoofDrains$SavedRoofs" "held" "I", Cond.fieldLink RX2 11 "RoofDrains$SavedRoofs" "rows" "[LRoofDrains$Roof;", Cond.fieldLink RX2 19 "RoofDrains$SavedRoofs" "oldest" "I", Cond.methodLink RX3 158 yX1_copyFrom, Cond.instanceMethod yX1_copyFrom, Cond.selects RX1 yX1_copyFrom yX1_copyFrom, Cond.initialized RX1, Cond.code yX1_copyFrom cX1_copyFrom 2 none, Cond.fieldLink RX1 9 "RoofDrains$Roof" "area" "[I", Cond.methodLink RX1 48 arraycopyName, Cond.native arraycopyName, Cond.static arraycopyName, Cond.initialized "java/lang/System", Cond.fieldLink RX1 15 "RoofDrains$Roof" "slope" "[I", Cond.fieldLink RX1 18 "RoofDrains$Roof" "leadsTo" "[I"]
def wsX3_undo_r2 : List Cond := [Cond.fieldLink RX1 21 "RoofDrains$Roof" "onPlane" "[I", Cond.fieldLink RX1 24 "RoofDrains$Roof" "size" "[I", Cond.fieldLink RX1 27 "RoofDrains$Roof" "bore" "[I", Cond.fieldLink RX1 30 "RoofDrains$Roof" "leaves" "[I", Cond.fieldLink RX1 33 "RoofDrains$Roof" "valleyTo" "[I", Cond.fieldLink RX1 36 "RoofDrains$Roof" "inGutter" "[I", Cond.fieldLink RX1 39 "RoofDrains$Roof" "spilt" "[I", Cond.fieldLink RX1 42 "RoofDrains$Roof" "drained" "[I", Cond.fieldLink RX1 45 "RoofDrains$Roof" "values" "[I", Cond.fieldLink RX1 54 "RoofDrains$Roof" "minutesGone" "I", Cond.fieldLink RX1 58 "RoofDrains$Roof" "weeksPassed" "I", Cond.fieldLink RX1 61 "RoofDrains$Roof" "rained" "I", Cond.fieldLink RX1 64 "RoofDrains$Roof" "backedUp" "I", Cond.methodLink RX3 161 yX2_held, Cond.instanceMethod yX2_held, Cond.selects RX2 yX2_held yX2_held, Cond.code yX2_held cX2_held 1 (some .int)]
def wsX3_undo : List Cond := .code yX3_undo cX3_undo 2 (some .int) :: ((wsX3_undo_r1 ++ wsX3_undo_r2) ++ wsX30 ++ wsX20 ++ wsX10 ++ (vx_atS RX3 82 "java/lang/IllegalStateException" ["java/lang/RuntimeException", "java/lang/Exception"]).filter goodWord)
def wsX3_planeOf : List Cond := .code yX3_planeOf cX3_planeOf 3 (some .int) :: ([.classLink RX3 40 "java/lang/IndexOutOfBoundsException", .initialized "java/lang/IndexOutOfBoundsException", .classLink RX3 51 "java/lang/IllegalArgumentException", .initialized "java/lang/IllegalArgumentException", .fieldLink RX3 10 "RoofDrains" "roof" "LRoofDrains$Roof;", .methodLink RX3 33 yX3_isPlane, .static yX3_isPlane, .initialized RX3, .code yX3_isPlane cX3_isPlane 1 (some .boolean), .methodLink RX3 47 yX3_isWithin, .static yX3_isWithin, .code yX3_isWithin cX3_isWithin 3 (some .boolean), .methodLink RX3 168 yX1_planeNumber, .instanceMethod yX1_planeNumber, .selects RX1 yX1_planeNumber yX1_planeNumber, .initialized RX1, .code yX1_planeNumber cX1_planeNumber 3 (some .int), .fieldLink RX1 9 "RoofDrains$Roof" "area" "[I", .fieldLink RX1 15 "RoofDrains$Roof" "slope" "[I", .fieldLink RX1 18 "RoofDrains$Roof" "leadsTo" "[I", .fieldLink RX1 21 "RoofDrains$Roof" "onPlane" "[I"] ++ wsX30 ++ wsX10 ++ (vx_atS RX3 44 "java/lang/IndexOutOfBoundsException" ["java/lang/RuntimeException", "java/lang/Exception"]).filter goodWord ++ (vx_atS RX3 55 "java/lang/IllegalArgumentException" ["java/lang/RuntimeException", "java/lang/Exception"]).filter goodWord)
def wsX3_gutterOf_r1 : List Cond := [Cond.classLink RX3 40 "java/lang/IndexOutOfBoundsException", Cond.initialized "java/lang/IndexOutOfBoundsException", Cond.classLink RX3 51 "java/lang/IllegalArgumentException", Cond.initialized "java/lang/IllegalArgumentException", Cond.fieldLink RX3 10 "RoofDrains" "roof" "LRoofDrains$Roof;", Cond.methodLink RX3 37 yX3_isGutter, Cond.static yX3_isGutter, Cond.initialized RX3, Cond.code yX3_isGutter cX3_isGutter 1 (some .boolean), Cond.methodLink RX3 47 yX3_isWithin, Cond.static yX3_isWithin, Cond.code yX3_isWithin cX3_isWithin 3 (some .boolean), Cond.methodLink RX3 173 yX1_gutterNumber, Cond.instanceMethod yX1_gutterNumber, Cond.selects RX1 yX1_gutterNumber yX1_gutterNumber, Cond.initialized RX1, Cond.code yX1_gutterNumber cX1_gutterNumber 3 (some .int), Cond.fieldLink RX1 24 "RoofDrains$Roof" "size" "[I", Cond.fieldLink RX1 27 "RoofDrains$Roof" "bore" "[I", Cond.fieldLink RX1 30 "RoofDrains$Roof" "leaves" "[I", Cond.fieldLink RX1 33 "RoofDrains$Roof" "valleyTo" "[I", Cond.fieldLink RX1 36 "RoofDrains$Roof" "inGutter" "[I", Cond.fieldLink RX1 39 "RoofDrains$Roof" "spilt" "[I", Cond.fieldLink RX1 42 "RoofDrains$Roof" "drained" "[I"]
def wsX3_gutterOf_r2 : List Cond := [Cond.methodLink RX1 95 yX1_room, Cond.instanceMethod yX1_room, Cond.selects RX1 yX1_room yX1_room, Cond.code yX1_room cX1_room 2 (some .int), Cond.methodLink RX1 91 yX1_pipeTakes, Cond.instanceMethod yX1_pipeTakes, Cond.selects RX1 yX1_pipeTakes yX1_pipeTakes, Cond.code yX1_pipeTakes cX1_pipeTakes 3 (some .int)]
def wsX3_gutterOf : List Cond := .code yX3_gutterOf cX3_gutterOf 3 (some .int) :: ((wsX3_gutterOf_r1 ++ wsX3_gutterOf_r2) ++ wsX30 ++ wsX10 ++ (vx_atS RX3 44 "java/lang/IndexOutOfBoundsException" ["java/lang/RuntimeException", "java/lang/Exception"]).filter goodWord ++ (vx_atS RX3 55 "java/lang/IllegalArgumentException" ["java/lang/RuntimeException", "java/lang/Exception"]).filter goodWord)
def wsX3_count_r1 : List Cond := [Cond.classLink RX3 51 "java/lang/IllegalArgumentException", Cond.initialized "java/lang/IllegalArgumentException", Cond.fieldLink RX3 10 "RoofDrains" "roof" "LRoofDrains$Roof;", Cond.fieldLink RX3 22 "RoofDrains" "saved" "LRoofDrains$SavedRoofs;", Cond.methodLink RX3 176 yX1_minutesGone, Cond.instanceMethod yX1_minutesGone, Cond.selects RX1 yX1_minutesGone yX1_minutesGone, Cond.initialized RX1, Cond.code yX1_minutesGone cX1_minutesGone 1 (some .int), Cond.fieldLink RX1 54 "RoofDrains$Roof" "minutesGone" "I", Cond.methodLink RX3 179 yX1_weeksPassed, Cond.instanceMethod yX1_weeksPassed, Cond.selects RX1 yX1_weeksPassed yX1_weeksPassed, Cond.code yX1_weeksPassed cX1_weeksPassed 1 (some .int), Cond.fieldLink RX1 58 "RoofDrains$Roof" "weeksPassed" "I", Cond.methodLink RX3 182 yX1_rainedLitres, Cond.instanceMethod yX1_rainedLitres, Cond.selects RX1 yX1_rainedLitres yX1_rainedLitres, Cond.code yX1_rainedLitres cX1_rainedLitres 1 (some .int), Cond.fieldLink RX1 61 "RoofDrains$Roof" "rained" "I", Cond.methodLink RX3 185 yX1_standingLitres, Cond.instanceMethod yX1_standingLitres, Cond.selects RX1 yX1_standingLitres yX1_standingLitres, Cond.code yX1_standingLitres cX1_standingLitres 1 (some .int)]
def wsX3_count_r2 : List Cond := [Cond.fieldLink RX1 21 "RoofDrains$Roof" "onPlane" "[I", Cond.fieldLink RX1 36 "RoofDrains$Roof" "inGutter" "[I", Cond.methodLink RX1 98 yX1_sumOf, Cond.static yX1_sumOf, Cond.code yX1_sumOf cX1_sumOf 6 (some .int), Cond.methodLink RX3 188 yX1_drainedLitres, Cond.instanceMethod yX1_drainedLitres, Cond.selects RX1 yX1_drainedLitres yX1_drainedLitres, Cond.code yX1_drainedLitres cX1_drainedLitres 1 (some .int), Cond.fieldLink RX1 42 "RoofDrains$Roof" "drained" "[I", Cond.methodLink RX3 107 yX1_spiltLitres, Cond.instanceMethod yX1_spiltLitres, Cond.selects RX1 yX1_spiltLitres yX1_spiltLitres, Cond.code yX1_spiltLitres cX1_spiltLitres 1 (some .int), Cond.fieldLink RX1 39 "RoofDrains$Roof" "spilt" "[I", Cond.methodLink RX3 191 yX1_backedUpMinutes, Cond.instanceMethod yX1_backedUpMinutes, Cond.selects RX1 yX1_backedUpMinutes yX1_backedUpMinutes, Cond.code yX1_backedUpMinutes cX1_backedUpMinutes 1 (some .int), Cond.fieldLink RX1 64 "RoofDrains$Roof" "backedUp" "I", Cond.methodLink RX3 120 yX1_leavesTogether, Cond.instanceMethod yX1_leavesTogether, Cond.selects RX1 yX1_leavesTogether yX1_leavesTogether, Cond.code yX1_leavesTogether cX1_leavesTogether 1 (some .int)]
def wsX3_count_r3 : List Cond := [Cond.fieldLink RX1 30 "RoofDrains$Roof" "leaves" "[I", Cond.methodLink RX3 161 yX2_held, Cond.instanceMethod yX2_held, Cond.selects RX2 yX2_held yX2_held, Cond.initialized RX2, Cond.code yX2_held cX2_held 1 (some .int), Cond.fieldLink RX2 15 "RoofDrains$SavedRoofs" "held" "I"]
def wsX3_count : List Cond := .code yX3_count cX3_count 2 (some .int) :: ((wsX3_count_r1 ++ (wsX3_count_r2 ++ wsX3_count_r3)) ++ wsX30 ++ wsX10 ++ wsX20 ++ (vx_atS RX3 55 "java/lang/IllegalArgumentException" ["java/lang/RuntimeException", "java/lang/Exception"]).filter goodWord)
def wsX3_setting : List Cond := .code yX3_setting cX3_setting 2 (some .int) :: ([.classLink RX3 40 "java/lang/IndexOutOfBoundsException", .initialized "java/lang/IndexOutOfBoundsException", .fieldLink RX3 10 "RoofDrains" "roof" "LRoofDrains$Roof;", .methodLink RX3 91 yX3_isSetting, .static yX3_isSetting, .initialized RX3, .code yX3_isSetting cX3_isSetting 1 (some .boolean), .methodLink RX3 194 yX1_settingValue, .instanceMethod yX1_settingValue, .selects RX1 yX1_settingValue yX1_settingValue, .initialized RX1, .code yX1_settingValue cX1_settingValue 2 (some .int), .fieldLink RX1 45 "RoofDrains$Roof" "values" "[I"] ++ wsX30 ++ wsX10 ++ (vx_atS RX3 44 "java/lang/IndexOutOfBoundsException" ["java/lang/RuntimeException", "java/lang/Exception"]).filter goodWord)
def wsX3_ifRained_r1 : List Cond := [Cond.classLink RX3 51 "java/lang/IllegalArgumentException", Cond.initialized "java/lang/IllegalArgumentException", Cond.fieldLink RX3 16 "RoofDrains" "thought" "LRoofDrains$Roof;", Cond.fieldLink RX3 10 "RoofDrains" "roof" "LRoofDrains$Roof;", Cond.methodLink RX3 47 yX3_isWithin, Cond.static yX3_isWithin, Cond.initialized RX3, Cond.code yX3_isWithin cX3_isWithin 3 (some .boolean), Cond.methodLink RX3 158 yX1_copyFrom, Cond.instanceMethod yX1_copyFrom, Cond.selects RX1 yX1_copyFrom yX1_copyFrom, Cond.initialized RX1, Cond.code yX1_copyFrom cX1_copyFrom 2 none, Cond.fieldLink RX1 9 "RoofDrains$Roof" "area" "[I", Cond.methodLink RX1 48 arraycopyName, Cond.native arraycopyName, Cond.static arraycopyName, Cond.initialized "java/lang/System", Cond.fieldLink RX1 15 "RoofDrains$Roof" "slope" "[I", Cond.fieldLink RX1 18 "RoofDrains$Roof" "leadsTo" "[I", Cond.fieldLink RX1 21 "RoofDrains$Roof" "onPlane" "[I", Cond.fieldLink RX1 24 "RoofDrains$Roof" "size" "[I", Cond.fieldLink RX1 27 "RoofDrains$Roof" "bore" "[I", Cond.fieldLink RX1 30 "RoofDrains$Roof" "leaves" "[I"]
def wsX3_ifRained_r2 : List Cond := [Cond.fieldLink RX1 33 "RoofDrains$Roof" "valleyTo" "[I", Cond.fieldLink RX1 36 "RoofDrains$Roof" "inGutter" "[I", Cond.fieldLink RX1 39 "RoofDrains$Roof" "spilt" "[I", Cond.fieldLink RX1 42 "RoofDrains$Roof" "drained" "[I", Cond.fieldLink RX1 45 "RoofDrains$Roof" "values" "[I", Cond.fieldLink RX1 54 "RoofDrains$Roof" "minutesGone" "I", Cond.fieldLink RX1 58 "RoofDrains$Roof" "weeksPassed" "I", Cond.fieldLink RX1 61 "RoofDrains$Roof" "rained" "I", Cond.fieldLink RX1 64 "RoofDrains$Roof" "backedUp" "I", Cond.methodLink RX3 194 yX1_settingValue, Cond.instanceMethod yX1_settingValue, Cond.selects RX1 yX1_settingValue yX1_settingValue, Cond.code yX1_settingValue cX1_settingValue 2 (some .int), Cond.methodLink RX3 111 yX1_passMinutes, Cond.instanceMethod yX1_passMinutes, Cond.selects RX1 yX1_passMinutes yX1_passMinutes, Cond.code yX1_passMinutes cX1_passMinutes 4 none, Cond.methodLink RX1 71 yX1_passMinute, Cond.instanceMethod yX1_passMinute, Cond.selects RX1 yX1_passMinute yX1_passMinute, Cond.code yX1_passMinute cX1_passMinute 3 none, Cond.methodLink RX1 75 yX1_wetPlane, Cond.instanceMethod yX1_wetPlane, Cond.selects RX1 yX1_wetPlane yX1_wetPlane]
def wsX3_ifRained_r3 : List Cond := [Cond.code yX1_wetPlane cX1_wetPlane 6 none, Cond.static yX3_isGutter, Cond.code yX3_isGutter cX3_isGutter 1 (some .boolean), Cond.methodLink RX1 79 yX1_emptyIntoDrain, Cond.instanceMethod yX1_emptyIntoDrain, Cond.selects RX1 yX1_emptyIntoDrain yX1_emptyIntoDrain, Cond.code yX1_emptyIntoDrain cX1_emptyIntoDrain 6 none, Cond.methodLink RX1 85 Lib.Math.min.name, Cond.static Lib.Math.min.name, Cond.initialized "java/lang/Math", Cond.code Lib.Math.min.name Lib.Math.min.code 2 (some .int), Cond.methodLink RX1 91 yX1_pipeTakes, Cond.instanceMethod yX1_pipeTakes, Cond.selects RX1 yX1_pipeTakes yX1_pipeTakes, Cond.code yX1_pipeTakes cX1_pipeTakes 3 (some .int), Cond.methodLink RX1 82 yX1_overflow, Cond.instanceMethod yX1_overflow, Cond.selects RX1 yX1_overflow yX1_overflow, Cond.code yX1_overflow cX1_overflow 4 none, Cond.methodLink RX1 95 yX1_room, Cond.instanceMethod yX1_room, Cond.selects RX1 yX1_room yX1_room, Cond.code yX1_room cX1_room 2 (some .int), Cond.methodLink RX3 107 yX1_spiltLitres]
def wsX3_ifRained_r4 : List Cond := [Cond.instanceMethod yX1_spiltLitres, Cond.selects RX1 yX1_spiltLitres yX1_spiltLitres, Cond.code yX1_spiltLitres cX1_spiltLitres 1 (some .int), Cond.methodLink RX1 98 yX1_sumOf, Cond.static yX1_sumOf, Cond.code yX1_sumOf cX1_sumOf 6 (some .int), Cond.methodLink RX3 188 yX1_drainedLitres, Cond.instanceMethod yX1_drainedLitres, Cond.selects RX1 yX1_drainedLitres yX1_drainedLitres, Cond.code yX1_drainedLitres cX1_drainedLitres 1 (some .int), Cond.methodLink RX3 185 yX1_standingLitres, Cond.instanceMethod yX1_standingLitres, Cond.selects RX1 yX1_standingLitres yX1_standingLitres, Cond.code yX1_standingLitres cX1_standingLitres 1 (some .int)]
def wsX3_ifRained : List Cond := .code yX3_ifRained cX3_ifRained 3 (some .int) :: ((wsX3_ifRained_r1 ++ (wsX3_ifRained_r2 ++ (wsX3_ifRained_r3 ++ wsX3_ifRained_r4))) ++ wsX30 ++ wsX10 ++ (vx_atS RX3 55 "java/lang/IllegalArgumentException" ["java/lang/RuntimeException", "java/lang/Exception"]).filter goodWord)
def wsX3_spillsFirst_r1 : List Cond := [Cond.classLink RX3 51 "java/lang/IllegalArgumentException", Cond.initialized "java/lang/IllegalArgumentException", Cond.fieldLink RX3 16 "RoofDrains" "thought" "LRoofDrains$Roof;", Cond.fieldLink RX3 10 "RoofDrains" "roof" "LRoofDrains$Roof;", Cond.methodLink RX3 47 yX3_isWithin, Cond.static yX3_isWithin, Cond.initialized RX3, Cond.code yX3_isWithin cX3_isWithin 3 (some .boolean), Cond.methodLink RX3 158 yX1_copyFrom, Cond.instanceMethod yX1_copyFrom, Cond.selects RX1 yX1_copyFrom yX1_copyFrom, Cond.initialized RX1, Cond.code yX1_copyFrom cX1_copyFrom 2 none, Cond.fieldLink RX1 9 "RoofDrains$Roof" "area" "[I", Cond.methodLink RX1 48 arraycopyName, Cond.native arraycopyName, Cond.static arraycopyName, Cond.initialized "java/lang/System", Cond.fieldLink RX1 15 "RoofDrains$Roof" "slope" "[I", Cond.fieldLink RX1 18 "RoofDrains$Roof" "leadsTo" "[I", Cond.fieldLink RX1 21 "RoofDrains$Roof" "onPlane" "[I", Cond.fieldLink RX1 24 "RoofDrains$Roof" "size" "[I", Cond.fieldLink RX1 27 "RoofDrains$Roof" "bore" "[I", Cond.fieldLink RX1 30 "RoofDrains$Roof" "leaves" "[I"]
def wsX3_spillsFirst_r2 : List Cond := [Cond.fieldLink RX1 33 "RoofDrains$Roof" "valleyTo" "[I", Cond.fieldLink RX1 36 "RoofDrains$Roof" "inGutter" "[I", Cond.fieldLink RX1 39 "RoofDrains$Roof" "spilt" "[I", Cond.fieldLink RX1 42 "RoofDrains$Roof" "drained" "[I", Cond.fieldLink RX1 45 "RoofDrains$Roof" "values" "[I", Cond.fieldLink RX1 54 "RoofDrains$Roof" "minutesGone" "I", Cond.fieldLink RX1 58 "RoofDrains$Roof" "weeksPassed" "I", Cond.fieldLink RX1 61 "RoofDrains$Roof" "rained" "I", Cond.fieldLink RX1 64 "RoofDrains$Roof" "backedUp" "I", Cond.methodLink RX3 194 yX1_settingValue, Cond.instanceMethod yX1_settingValue, Cond.selects RX1 yX1_settingValue yX1_settingValue, Cond.code yX1_settingValue cX1_settingValue 2 (some .int), Cond.methodLink RX3 201 yX1_passMinute, Cond.instanceMethod yX1_passMinute, Cond.selects RX1 yX1_passMinute yX1_passMinute, Cond.code yX1_passMinute cX1_passMinute 3 none, Cond.methodLink RX1 75 yX1_wetPlane, Cond.instanceMethod yX1_wetPlane, Cond.selects RX1 yX1_wetPlane yX1_wetPlane, Cond.code yX1_wetPlane cX1_wetPlane 6 none, Cond.static yX3_isGutter, Cond.code yX3_isGutter cX3_isGutter 1 (some .boolean), Cond.methodLink RX1 79 yX1_emptyIntoDrain]
def wsX3_spillsFirst_r3 : List Cond := [Cond.instanceMethod yX1_emptyIntoDrain, Cond.selects RX1 yX1_emptyIntoDrain yX1_emptyIntoDrain, Cond.code yX1_emptyIntoDrain cX1_emptyIntoDrain 6 none, Cond.methodLink RX1 85 Lib.Math.min.name, Cond.static Lib.Math.min.name, Cond.initialized "java/lang/Math", Cond.code Lib.Math.min.name Lib.Math.min.code 2 (some .int), Cond.methodLink RX1 91 yX1_pipeTakes, Cond.instanceMethod yX1_pipeTakes, Cond.selects RX1 yX1_pipeTakes yX1_pipeTakes, Cond.code yX1_pipeTakes cX1_pipeTakes 3 (some .int), Cond.methodLink RX1 82 yX1_overflow, Cond.instanceMethod yX1_overflow, Cond.selects RX1 yX1_overflow yX1_overflow, Cond.code yX1_overflow cX1_overflow 4 none, Cond.methodLink RX1 95 yX1_room, Cond.instanceMethod yX1_room, Cond.selects RX1 yX1_room yX1_room, Cond.code yX1_room cX1_room 2 (some .int), Cond.methodLink RX3 204 yX1_lowestThatSpiltMoreThanIn, Cond.instanceMethod yX1_lowestThatSpiltMoreThanIn, Cond.selects RX1 yX1_lowestThatSpiltMoreThanIn yX1_lowestThatSpiltMoreThanIn, Cond.code yX1_lowestThatSpiltMoreThanIn cX1_lowestThatSpiltMoreThanIn 3 (some .int)]
def wsX3_spillsFirst : List Cond := .code yX3_spillsFirst cX3_spillsFirst 4 (some .int) :: ((wsX3_spillsFirst_r1 ++ (wsX3_spillsFirst_r2 ++ wsX3_spillsFirst_r3)) ++ wsX30 ++ wsX10 ++ (vx_atS RX3 55 "java/lang/IllegalArgumentException" ["java/lang/RuntimeException", "java/lang/Exception"]).filter goodWord)
def wsX3_spiltIfCleaned_r1 : List Cond := [Cond.fieldLink RX3 16 "RoofDrains" "thought" "LRoofDrains$Roof;", Cond.fieldLink RX3 10 "RoofDrains" "roof" "LRoofDrains$Roof;", Cond.methodLink RX3 158 yX1_copyFrom, Cond.instanceMethod yX1_copyFrom, Cond.selects RX1 yX1_copyFrom yX1_copyFrom, Cond.initialized RX1, Cond.code yX1_copyFrom cX1_copyFrom 2 none, Cond.fieldLink RX1 9 "RoofDrains$Roof" "area" "[I", Cond.methodLink RX1 48 arraycopyName, Cond.native arraycopyName, Cond.static arraycopyName, Cond.initialized "java/lang/System", Cond.fieldLink RX1 15 "RoofDrains$Roof" "slope" "[I", Cond.fieldLink RX1 18 "RoofDrains$Roof" "leadsTo" "[I", Cond.fieldLink RX1 21 "RoofDrains$Roof" "onPlane" "[I", Cond.fieldLink RX1 24 "RoofDrains$Roof" "size" "[I", Cond.fieldLink RX1 27 "RoofDrains$Roof" "bore" "[I", Cond.fieldLink RX1 30 "RoofDrains$Roof" "leaves" "[I", Cond.fieldLink RX1 33 "RoofDrains$Roof" "valleyTo" "[I", Cond.fieldLink RX1 36 "RoofDrains$Roof" "inGutter" "[I", Cond.fieldLink RX1 39 "RoofDrains$Roof" "spilt" "[I", Cond.fieldLink RX1 42 "RoofDrains$Roof" "drained" "[I", Cond.fieldLink RX1 45 "RoofDrains$Roof" "values" "[I", Cond.fieldLink RX1 54 "RoofDrains$Roof" "minutesGone" "I"]
def wsX3_spiltIfCleaned_r2 : List Cond := [Cond.fieldLink RX1 58 "RoofDrains$Roof" "weeksPassed" "I", Cond.fieldLink RX1 61 "RoofDrains$Roof" "rained" "I", Cond.fieldLink RX1 64 "RoofDrains$Roof" "backedUp" "I", Cond.methodLink RX3 87 yX1_takeLeaves, Cond.instanceMethod yX1_takeLeaves, Cond.selects RX1 yX1_takeLeaves yX1_takeLeaves, Cond.code yX1_takeLeaves cX1_takeLeaves 3 (some .int), Cond.methodLink RX3 194 yX1_settingValue, Cond.instanceMethod yX1_settingValue, Cond.selects RX1 yX1_settingValue yX1_settingValue, Cond.code yX1_settingValue cX1_settingValue 2 (some .int), Cond.methodLink RX3 111 yX1_passMinutes, Cond.instanceMethod yX1_passMinutes, Cond.selects RX1 yX1_passMinutes yX1_passMinutes, Cond.code yX1_passMinutes cX1_passMinutes 4 none, Cond.methodLink RX1 71 yX1_passMinute, Cond.instanceMethod yX1_passMinute, Cond.selects RX1 yX1_passMinute yX1_passMinute, Cond.code yX1_passMinute cX1_passMinute 3 none, Cond.methodLink RX1 75 yX1_wetPlane, Cond.instanceMethod yX1_wetPlane, Cond.selects RX1 yX1_wetPlane yX1_wetPlane, Cond.code yX1_wetPlane cX1_wetPlane 6 none, Cond.static yX3_isGutter]
def wsX3_spiltIfCleaned_r3 : List Cond := [Cond.initialized RX3, Cond.code yX3_isGutter cX3_isGutter 1 (some .boolean), Cond.methodLink RX1 79 yX1_emptyIntoDrain, Cond.instanceMethod yX1_emptyIntoDrain, Cond.selects RX1 yX1_emptyIntoDrain yX1_emptyIntoDrain, Cond.code yX1_emptyIntoDrain cX1_emptyIntoDrain 6 none, Cond.methodLink RX1 85 Lib.Math.min.name, Cond.static Lib.Math.min.name, Cond.initialized "java/lang/Math", Cond.code Lib.Math.min.name Lib.Math.min.code 2 (some .int), Cond.methodLink RX1 91 yX1_pipeTakes, Cond.instanceMethod yX1_pipeTakes, Cond.selects RX1 yX1_pipeTakes yX1_pipeTakes, Cond.code yX1_pipeTakes cX1_pipeTakes 3 (some .int), Cond.methodLink RX1 82 yX1_overflow, Cond.instanceMethod yX1_overflow, Cond.selects RX1 yX1_overflow yX1_overflow, Cond.code yX1_overflow cX1_overflow 4 none, Cond.methodLink RX1 95 yX1_room, Cond.instanceMethod yX1_room, Cond.selects RX1 yX1_room yX1_room, Cond.code yX1_room cX1_room 2 (some .int), Cond.methodLink RX3 107 yX1_spiltLitres, Cond.instanceMethod yX1_spiltLitres]
def wsX3_spiltIfCleaned_r4 : List Cond := [Cond.selects RX1 yX1_spiltLitres yX1_spiltLitres, Cond.code yX1_spiltLitres cX1_spiltLitres 1 (some .int), Cond.methodLink RX1 98 yX1_sumOf, Cond.static yX1_sumOf, Cond.code yX1_sumOf cX1_sumOf 6 (some .int)]
def wsX3_spiltIfCleaned : List Cond := .code yX3_spiltIfCleaned cX3_spiltIfCleaned 2 (some .int) :: ((wsX3_spiltIfCleaned_r1 ++ (wsX3_spiltIfCleaned_r2 ++ (wsX3_spiltIfCleaned_r3 ++ wsX3_spiltIfCleaned_r4))) ++ wsX30 ++ wsX10)
def wsX3_bestClean_r1 : List Cond := [Cond.fieldLink RX3 10 "RoofDrains" "roof" "LRoofDrains$Roof;", Cond.methodLink RX3 208 yX1_hasLeaves, Cond.instanceMethod yX1_hasLeaves, Cond.selects RX1 yX1_hasLeaves yX1_hasLeaves, Cond.initialized RX1, Cond.code yX1_hasLeaves cX1_hasLeaves 2 (some .boolean), Cond.fieldLink RX1 30 "RoofDrains$Roof" "leaves" "[I", Cond.methodLink RX3 211 yX3_spiltIfCleaned, Cond.instanceMethod yX3_spiltIfCleaned, Cond.selects RX3 yX3_spiltIfCleaned yX3_spiltIfCleaned, Cond.initialized RX3, Cond.code yX3_spiltIfCleaned cX3_spiltIfCleaned 2 (some .int), Cond.fieldLink RX3 16 "RoofDrains" "thought" "LRoofDrains$Roof;", Cond.methodLink RX3 158 yX1_copyFrom, Cond.instanceMethod yX1_copyFrom, Cond.selects RX1 yX1_copyFrom yX1_copyFrom, Cond.code yX1_copyFrom cX1_copyFrom 2 none, Cond.fieldLink RX1 9 "RoofDrains$Roof" "area" "[I", Cond.methodLink RX1 48 arraycopyName, Cond.native arraycopyName, Cond.static arraycopyName, Cond.initialized "java/lang/System", Cond.fieldLink RX1 15 "RoofDrains$Roof" "slope" "[I", Cond.fieldLink RX1 18 "RoofDrains$Roof" "leadsTo" "[I"]
def wsX3_bestClean_r2 : List Cond := [Cond.fieldLink RX1 21 "RoofDrains$Roof" "onPlane" "[I", Cond.fieldLink RX1 24 "RoofDrains$Roof" "size" "[I", Cond.fieldLink RX1 27 "RoofDrains$Roof" "bore" "[I", Cond.fieldLink RX1 33 "RoofDrains$Roof" "valleyTo" "[I", Cond.fieldLink RX1 36 "RoofDrains$Roof" "inGutter" "[I", Cond.fieldLink RX1 39 "RoofDrains$Roof" "spilt" "[I", Cond.fieldLink RX1 42 "RoofDrains$Roof" "drained" "[I", Cond.fieldLink RX1 45 "RoofDrains$Roof" "values" "[I", Cond.fieldLink RX1 54 "RoofDrains$Roof" "minutesGone" "I", Cond.fieldLink RX1 58 "RoofDrains$Roof" "weeksPassed" "I", Cond.fieldLink RX1 61 "RoofDrains$Roof" "rained" "I", Cond.fieldLink RX1 64 "RoofDrains$Roof" "backedUp" "I", Cond.methodLink RX3 87 yX1_takeLeaves, Cond.instanceMethod yX1_takeLeaves, Cond.selects RX1 yX1_takeLeaves yX1_takeLeaves, Cond.code yX1_takeLeaves cX1_takeLeaves 3 (some .int), Cond.methodLink RX3 194 yX1_settingValue, Cond.instanceMethod yX1_settingValue, Cond.selects RX1 yX1_settingValue yX1_settingValue, Cond.code yX1_settingValue cX1_settingValue 2 (some .int), Cond.methodLink RX3 111 yX1_passMinutes, Cond.instanceMethod yX1_passMinutes, Cond.selects RX1 yX1_passMinutes yX1_passMinutes, Cond.code yX1_passMinutes cX1_passMinutes 4 none]
def wsX3_bestClean_r3 : List Cond := [Cond.methodLink RX1 71 yX1_passMinute, Cond.instanceMethod yX1_passMinute, Cond.selects RX1 yX1_passMinute yX1_passMinute, Cond.code yX1_passMinute cX1_passMinute 3 none, Cond.methodLink RX1 75 yX1_wetPlane, Cond.instanceMethod yX1_wetPlane, Cond.selects RX1 yX1_wetPlane yX1_wetPlane, Cond.code yX1_wetPlane cX1_wetPlane 6 none, Cond.static yX3_isGutter, Cond.code yX3_isGutter cX3_isGutter 1 (some .boolean), Cond.methodLink RX1 79 yX1_emptyIntoDrain, Cond.instanceMethod yX1_emptyIntoDrain, Cond.selects RX1 yX1_emptyIntoDrain yX1_emptyIntoDrain, Cond.code yX1_emptyIntoDrain cX1_emptyIntoDrain 6 none, Cond.methodLink RX1 85 Lib.Math.min.name, Cond.static Lib.Math.min.name, Cond.initialized "java/lang/Math", Cond.code Lib.Math.min.name Lib.Math.min.code 2 (some .int), Cond.methodLink RX1 91 yX1_pipeTakes, Cond.instanceMethod yX1_pipeTakes, Cond.selects RX1 yX1_pipeTakes yX1_pipeTakes, Cond.code yX1_pipeTakes cX1_pipeTakes 3 (some .int), Cond.methodLink RX1 82 yX1_overflow, Cond.instanceMethod yX1_overflow]
def wsX3_bestClean_r4 : List Cond := [Cond.selects RX1 yX1_overflow yX1_overflow, Cond.code yX1_overflow cX1_overflow 4 none, Cond.methodLink RX1 95 yX1_room, Cond.instanceMethod yX1_room, Cond.selects RX1 yX1_room yX1_room, Cond.code yX1_room cX1_room 2 (some .int), Cond.methodLink RX3 107 yX1_spiltLitres, Cond.instanceMethod yX1_spiltLitres, Cond.selects RX1 yX1_spiltLitres yX1_spiltLitres, Cond.code yX1_spiltLitres cX1_spiltLitres 1 (some .int), Cond.methodLink RX1 98 yX1_sumOf, Cond.static yX1_sumOf, Cond.code yX1_sumOf cX1_sumOf 6 (some .int)]
def wsX3_bestClean : List Cond := .code yX3_bestClean cX3_bestClean 5 (some .int) :: ((wsX3_bestClean_r1 ++ (wsX3_bestClean_r2 ++ (wsX3_bestClean_r3 ++ wsX3_bestClean_r4))) ++ wsX30 ++ wsX10)
def wsX3_wouldSpill_r1 : List Cond := [Cond.fieldLink RX3 16 "RoofDrains" "thought" "LRoofDrains$Roof;", Cond.fieldLink RX3 10 "RoofDrains" "roof" "LRoofDrains$Roof;", Cond.methodLink RX3 158 yX1_copyFrom, Cond.instanceMethod yX1_copyFrom, Cond.selects RX1 yX1_copyFrom yX1_copyFrom, Cond.initialized RX1, Cond.code yX1_copyFrom cX1_copyFrom 2 none, Cond.fieldLink RX1 9 "RoofDrains$Roof" "area" "[I", Cond.methodLink RX1 48 arraycopyName, Cond.native arraycopyName, Cond.static arraycopyName, Cond.initialized "java/lang/System", Cond.fieldLink RX1 15 "RoofDrains$Roof" "slope" "[I", Cond.fieldLink RX1 18 "RoofDrains$Roof" "leadsTo" "[I", Cond.fieldLink RX1 21 "RoofDrains$Roof" "onPlane" "[I", Cond.fieldLink RX1 24 "RoofDrains$Roof" "size" "[I", Cond.fieldLink RX1 27 "RoofDrains$Roof" "bore" "[I", Cond.fieldLink RX1 30 "RoofDrains$Roof" "leaves" "[I", Cond.fieldLink RX1 33 "RoofDrains$Roof" "valleyTo" "[I", Cond.fieldLink RX1 36 "RoofDrains$Roof" "inGutter" "[I", Cond.fieldLink RX1 39 "RoofDrains$Roof" "spilt" "[I", Cond.fieldLink RX1 42 "RoofDrains$Roof" "drained" "[I", Cond.fieldLink RX1 45 "RoofDrains$Roof" "values" "[I", Cond.fieldLink RX1 54 "RoofDrains$Roof" "minutesGone" "I"]
def wsX3_wouldSpill_r2 : List Cond := [Cond.fieldLink RX1 58 "RoofDrains$Roof" "weeksPassed" "I", Cond.fieldLink RX1 61 "RoofDrains$Roof" "rained" "I", Cond.fieldLink RX1 64 "RoofDrains$Roof" "backedUp" "I", Cond.methodLink RX3 201 yX1_passMinute, Cond.instanceMethod yX1_passMinute, Cond.selects RX1 yX1_passMinute yX1_passMinute, Cond.code yX1_passMinute cX1_passMinute 3 none, Cond.methodLink RX1 75 yX1_wetPlane, Cond.instanceMethod yX1_wetPlane, Cond.selects RX1 yX1_wetPlane yX1_wetPlane, Cond.code yX1_wetPlane cX1_wetPlane 6 none, Cond.static yX3_isGutter, Cond.initialized RX3, Cond.code yX3_isGutter cX3_isGutter 1 (some .boolean), Cond.methodLink RX1 79 yX1_emptyIntoDrain, Cond.instanceMethod yX1_emptyIntoDrain, Cond.selects RX1 yX1_emptyIntoDrain yX1_emptyIntoDrain, Cond.code yX1_emptyIntoDrain cX1_emptyIntoDrain 6 none, Cond.methodLink RX1 85 Lib.Math.min.name, Cond.static Lib.Math.min.name, Cond.initialized "java/lang/Math", Cond.code Lib.Math.min.name Lib.Math.min.code 2 (some .int), Cond.methodLink RX1 91 yX1_pipeTakes, Cond.instanceMethod yX1_pipeTakes]
def wsX3_wouldSpill_r3 : List Cond := [Cond.selects RX1 yX1_pipeTakes yX1_pipeTakes, Cond.code yX1_pipeTakes cX1_pipeTakes 3 (some .int), Cond.methodLink RX1 82 yX1_overflow, Cond.instanceMethod yX1_overflow, Cond.selects RX1 yX1_overflow yX1_overflow, Cond.code yX1_overflow cX1_overflow 4 none, Cond.methodLink RX1 95 yX1_room, Cond.instanceMethod yX1_room, Cond.selects RX1 yX1_room yX1_room, Cond.code yX1_room cX1_room 2 (some .int), Cond.methodLink RX3 204 yX1_lowestThatSpiltMoreThanIn, Cond.instanceMethod yX1_lowestThatSpiltMoreThanIn, Cond.selects RX1 yX1_lowestThatSpiltMoreThanIn yX1_lowestThatSpiltMoreThanIn, Cond.code yX1_lowestThatSpiltMoreThanIn cX1_lowestThatSpiltMoreThanIn 3 (some .int)]
def wsX3_wouldSpill : List Cond := .code yX3_wouldSpill cX3_wouldSpill 4 (some .boolean) :: ((wsX3_wouldSpill_r1 ++ (wsX3_wouldSpill_r2 ++ wsX3_wouldSpill_r3)) ++ wsX30 ++ wsX10)
def wsX3_mostRain_r1 : List Cond := [Cond.classLink RX3 51 "java/lang/IllegalArgumentException", Cond.initialized "java/lang/IllegalArgumentException", Cond.methodLink RX3 47 yX3_isWithin, Cond.static yX3_isWithin, Cond.initialized RX3, Cond.code yX3_isWithin cX3_isWithin 3 (some .boolean), Cond.methodLink RX3 216 yX3_wouldSpill, Cond.instanceMethod yX3_wouldSpill, Cond.selects RX3 yX3_wouldSpill yX3_wouldSpill, Cond.code yX3_wouldSpill cX3_wouldSpill 4 (some .boolean), Cond.fieldLink RX3 16 "RoofDrains" "thought" "LRoofDrains$Roof;", Cond.fieldLink RX3 10 "RoofDrains" "roof" "LRoofDrains$Roof;", Cond.methodLink RX3 158 yX1_copyFrom, Cond.instanceMethod yX1_copyFrom, Cond.selects RX1 yX1_copyFrom yX1_copyFrom, Cond.initialized RX1, Cond.code yX1_copyFrom cX1_copyFrom 2 none, Cond.fieldLink RX1 9 "RoofDrains$Roof" "area" "[I", Cond.methodLink RX1 48 arraycopyName, Cond.native arraycopyName, Cond.static arraycopyName, Cond.initialized "java/lang/System", Cond.fieldLink RX1 15 "RoofDrains$Roof" "slope" "[I", Cond.fieldLink RX1 18 "RoofDrains$Roof" "leadsTo" "[I"]
def wsX3_mostRain_r2 : List Cond := [Cond.fieldLink RX1 21 "RoofDrains$Roof" "onPlane" "[I", Cond.fieldLink RX1 24 "RoofDrains$Roof" "size" "[I", Cond.fieldLink RX1 27 "RoofDrains$Roof" "bore" "[I", Cond.fieldLink RX1 30 "RoofDrains$Roof" "leaves" "[I", Cond.fieldLink RX1 33 "RoofDrains$Roof" "valleyTo" "[I", Cond.fieldLink RX1 36 "RoofDrains$Roof" "inGutter" "[I", Cond.fieldLink RX1 39 "RoofDrains$Roof" "spilt" "[I", Cond.fieldLink RX1 42 "RoofDrains$Roof" "drained" "[I", Cond.fieldLink RX1 45 "RoofDrains$Roof" "values" "[I", Cond.fieldLink RX1 54 "RoofDrains$Roof" "minutesGone" "I", Cond.fieldLink RX1 58 "RoofDrains$Roof" "weeksPassed" "I", Cond.fieldLink RX1 61 "RoofDrains$Roof" "rained" "I", Cond.fieldLink RX1 64 "RoofDrains$Roof" "backedUp" "I", Cond.methodLink RX3 201 yX1_passMinute, Cond.instanceMethod yX1_passMinute, Cond.selects RX1 yX1_passMinute yX1_passMinute, Cond.code yX1_passMinute cX1_passMinute 3 none, Cond.methodLink RX1 75 yX1_wetPlane, Cond.instanceMethod yX1_wetPlane, Cond.selects RX1 yX1_wetPlane yX1_wetPlane, Cond.code yX1_wetPlane cX1_wetPlane 6 none, Cond.static yX3_isGutter, Cond.code yX3_isGutter cX3_isGutter 1 (some .boolean), Cond.methodLink RX1 79 yX1_emptyIntoDrain]
def wsX3_mostRain_r3 : List Cond := [Cond.instanceMethod yX1_emptyIntoDrain, Cond.selects RX1 yX1_emptyIntoDrain yX1_emptyIntoDrain, Cond.code yX1_emptyIntoDrain cX1_emptyIntoDrain 6 none, Cond.methodLink RX1 85 Lib.Math.min.name, Cond.static Lib.Math.min.name, Cond.initialized "java/lang/Math", Cond.code Lib.Math.min.name Lib.Math.min.code 2 (some .int), Cond.methodLink RX1 91 yX1_pipeTakes, Cond.instanceMethod yX1_pipeTakes, Cond.selects RX1 yX1_pipeTakes yX1_pipeTakes, Cond.code yX1_pipeTakes cX1_pipeTakes 3 (some .int), Cond.methodLink RX1 82 yX1_overflow, Cond.instanceMethod yX1_overflow, Cond.selects RX1 yX1_overflow yX1_overflow, Cond.code yX1_overflow cX1_overflow 4 none, Cond.methodLink RX1 95 yX1_room, Cond.instanceMethod yX1_room, Cond.selects RX1 yX1_room yX1_room, Cond.code yX1_room cX1_room 2 (some .int), Cond.methodLink RX3 204 yX1_lowestThatSpiltMoreThanIn, Cond.instanceMethod yX1_lowestThatSpiltMoreThanIn, Cond.selects RX1 yX1_lowestThatSpiltMoreThanIn yX1_lowestThatSpiltMoreThanIn, Cond.code yX1_lowestThatSpiltMoreThanIn cX1_lowestThatSpiltMoreThanIn 3 (some .int)]
def wsX3_mostRain : List Cond := .code yX3_mostRain cX3_mostRain 3 (some .int) :: ((wsX3_mostRain_r1 ++ (wsX3_mostRain_r2 ++ wsX3_mostRain_r3)) ++ wsX30 ++ wsX10 ++ (vx_atS RX3 55 "java/lang/IllegalArgumentException" ["java/lang/RuntimeException", "java/lang/Exception"]).filter goodWord)
def wsX3_dryIn_r1 : List Cond := [Cond.fieldLink RX3 16 "RoofDrains" "thought" "LRoofDrains$Roof;", Cond.fieldLink RX3 10 "RoofDrains" "roof" "LRoofDrains$Roof;", Cond.methodLink RX3 158 yX1_copyFrom, Cond.instanceMethod yX1_copyFrom, Cond.selects RX1 yX1_copyFrom yX1_copyFrom, Cond.initialized RX1, Cond.code yX1_copyFrom cX1_copyFrom 2 none, Cond.fieldLink RX1 9 "RoofDrains$Roof" "area" "[I", Cond.methodLink RX1 48 arraycopyName, Cond.native arraycopyName, Cond.static arraycopyName, Cond.initialized "java/lang/System", Cond.fieldLink RX1 15 "RoofDrains$Roof" "slope" "[I", Cond.fieldLink RX1 18 "RoofDrains$Roof" "leadsTo" "[I", Cond.fieldLink RX1 21 "RoofDrains$Roof" "onPlane" "[I", Cond.fieldLink RX1 24 "RoofDrains$Roof" "size" "[I", Cond.fieldLink RX1 27 "RoofDrains$Roof" "bore" "[I", Cond.fieldLink RX1 30 "RoofDrains$Roof" "leaves" "[I", Cond.fieldLink RX1 33 "RoofDrains$Roof" "valleyTo" "[I", Cond.fieldLink RX1 36 "RoofDrains$Roof" "inGutter" "[I", Cond.fieldLink RX1 39 "RoofDrains$Roof" "spilt" "[I", Cond.fieldLink RX1 42 "RoofDrains$Roof" "drained" "[I", Cond.fieldLink RX1 45 "RoofDrains$Roof" "values" "[I", Cond.fieldLink RX1 54 "RoofDrains$Roof" "minutesGone" "I"]
def wsX3_dryIn_r2 : List Cond := [Cond.fieldLink RX1 58 "RoofDrains$Roof" "weeksPassed" "I", Cond.fieldLink RX1 61 "RoofDrains$Roof" "rained" "I", Cond.fieldLink RX1 64 "RoofDrains$Roof" "backedUp" "I", Cond.methodLink RX3 185 yX1_standingLitres, Cond.instanceMethod yX1_standingLitres, Cond.selects RX1 yX1_standingLitres yX1_standingLitres, Cond.code yX1_standingLitres cX1_standingLitres 1 (some .int), Cond.methodLink RX1 98 yX1_sumOf, Cond.static yX1_sumOf, Cond.code yX1_sumOf cX1_sumOf 6 (some .int), Cond.methodLink RX3 201 yX1_passMinute, Cond.instanceMethod yX1_passMinute, Cond.selects RX1 yX1_passMinute yX1_passMinute, Cond.code yX1_passMinute cX1_passMinute 3 none, Cond.methodLink RX1 75 yX1_wetPlane, Cond.instanceMethod yX1_wetPlane, Cond.selects RX1 yX1_wetPlane yX1_wetPlane, Cond.code yX1_wetPlane cX1_wetPlane 6 none, Cond.static yX3_isGutter, Cond.initialized RX3, Cond.code yX3_isGutter cX3_isGutter 1 (some .boolean), Cond.methodLink RX1 79 yX1_emptyIntoDrain, Cond.instanceMethod yX1_emptyIntoDrain, Cond.selects RX1 yX1_emptyIntoDrain yX1_emptyIntoDrain]
def wsX3_dryIn_r3 : List Cond := [Cond.code yX1_emptyIntoDrain cX1_emptyIntoDrain 6 none, Cond.methodLink RX1 85 Lib.Math.min.name, Cond.static Lib.Math.min.name, Cond.initialized "java/lang/Math", Cond.code Lib.Math.min.name Lib.Math.min.code 2 (some .int), Cond.methodLink RX1 91 yX1_pipeTakes, Cond.instanceMethod yX1_pipeTakes, Cond.selects RX1 yX1_pipeTakes yX1_pipeTakes, Cond.code yX1_pipeTakes cX1_pipeTakes 3 (some .int), Cond.methodLink RX1 82 yX1_overflow, Cond.instanceMethod yX1_overflow, Cond.selects RX1 yX1_overflow yX1_overflow, Cond.code yX1_overflow cX1_overflow 4 none, Cond.methodLink RX1 95 yX1_room, Cond.instanceMethod yX1_room, Cond.selects RX1 yX1_room yX1_room, Cond.code yX1_room cX1_room 2 (some .int)]
def wsX3_dryIn : List Cond := .code yX3_dryIn cX3_dryIn 2 (some .int) :: ((wsX3_dryIn_r1 ++ (wsX3_dryIn_r2 ++ wsX3_dryIn_r3)) ++ wsX30 ++ wsX10)
def wsX3_drainedShare : List Cond := .code yX3_drainedShare cX3_drainedShare 2 (some .double) :: ([.fieldLink RX3 10 "RoofDrains" "roof" "LRoofDrains$Roof;", .methodLink RX3 182 yX1_rainedLitres, .instanceMethod yX1_rainedLitres, .selects RX1 yX1_rainedLitres yX1_rainedLitres, .initialized RX1, .code yX1_rainedLitres cX1_rainedLitres 1 (some .int), .fieldLink RX1 61 "RoofDrains$Roof" "rained" "I", .methodLink RX3 188 yX1_drainedLitres, .instanceMethod yX1_drainedLitres, .selects RX1 yX1_drainedLitres yX1_drainedLitres, .code yX1_drainedLitres cX1_drainedLitres 1 (some .int), .fieldLink RX1 42 "RoofDrains$Roof" "drained" "[I", .methodLink RX1 98 yX1_sumOf, .static yX1_sumOf, .code yX1_sumOf cX1_sumOf 6 (some .int)] ++ wsX30 ++ wsX10)
def wsX3_hashWith : List Cond := .code yX3_hashWith cX3_hashWith 4 (some .long) :: ([.constantLong RX3 258 (31)])
def wsX3_hashOfCounts_r1 : List Cond := [Cond.fieldLink RX3 10 "RoofDrains" "roof" "LRoofDrains$Roof;", Cond.methodLink RX3 260 yX3_count, Cond.instanceMethod yX3_count, Cond.selects RX3 yX3_count yX3_count, Cond.initialized RX3, Cond.code yX3_count cX3_count 2 (some .int), Cond.classLink RX3 51 "java/lang/IllegalArgumentException", Cond.initialized "java/lang/IllegalArgumentException", Cond.fieldLink RX3 22 "RoofDrains" "saved" "LRoofDrains$SavedRoofs;", Cond.methodLink RX3 176 yX1_minutesGone, Cond.instanceMethod yX1_minutesGone, Cond.selects RX1 yX1_minutesGone yX1_minutesGone, Cond.initialized RX1, Cond.code yX1_minutesGone cX1_minutesGone 1 (some .int), Cond.fieldLink RX1 54 "RoofDrains$Roof" "minutesGone" "I", Cond.methodLink RX3 179 yX1_weeksPassed, Cond.instanceMethod yX1_weeksPassed, Cond.selects RX1 yX1_weeksPassed yX1_weeksPassed, Cond.code yX1_weeksPassed cX1_weeksPassed 1 (some .int), Cond.fieldLink RX1 58 "RoofDrains$Roof" "weeksPassed" "I", Cond.methodLink RX3 182 yX1_rainedLitres, Cond.instanceMethod yX1_rainedLitres, Cond.selects RX1 yX1_rainedLitres yX1_rainedLitres, Cond.code yX1_rainedLitres cX1_rainedLitres 1 (some .int)]
def wsX3_hashOfCounts_r2 : List Cond := [Cond.fieldLink RX1 61 "RoofDrains$Roof" "rained" "I", Cond.methodLink RX3 185 yX1_standingLitres, Cond.instanceMethod yX1_standingLitres, Cond.selects RX1 yX1_standingLitres yX1_standingLitres, Cond.code yX1_standingLitres cX1_standingLitres 1 (some .int), Cond.fieldLink RX1 21 "RoofDrains$Roof" "onPlane" "[I", Cond.fieldLink RX1 36 "RoofDrains$Roof" "inGutter" "[I", Cond.methodLink RX1 98 yX1_sumOf, Cond.static yX1_sumOf, Cond.code yX1_sumOf cX1_sumOf 6 (some .int), Cond.methodLink RX3 188 yX1_drainedLitres, Cond.instanceMethod yX1_drainedLitres, Cond.selects RX1 yX1_drainedLitres yX1_drainedLitres, Cond.code yX1_drainedLitres cX1_drainedLitres 1 (some .int), Cond.fieldLink RX1 42 "RoofDrains$Roof" "drained" "[I", Cond.methodLink RX3 107 yX1_spiltLitres, Cond.instanceMethod yX1_spiltLitres, Cond.selects RX1 yX1_spiltLitres yX1_spiltLitres, Cond.code yX1_spiltLitres cX1_spiltLitres 1 (some .int), Cond.fieldLink RX1 39 "RoofDrains$Roof" "spilt" "[I", Cond.methodLink RX3 191 yX1_backedUpMinutes, Cond.instanceMethod yX1_backedUpMinutes, Cond.selects RX1 yX1_backedUpMinutes yX1_backedUpMinutes, Cond.code yX1_backedUpMinutes cX1_backedUpMinutes 1 (some .int)]
def wsX3_hashOfCounts_r3 : List Cond := [Cond.fieldLink RX1 64 "RoofDrains$Roof" "backedUp" "I", Cond.methodLink RX3 120 yX1_leavesTogether, Cond.instanceMethod yX1_leavesTogether, Cond.selects RX1 yX1_leavesTogether yX1_leavesTogether, Cond.code yX1_leavesTogether cX1_leavesTogether 1 (some .int), Cond.fieldLink RX1 30 "RoofDrains$Roof" "leaves" "[I", Cond.methodLink RX3 161 yX2_held, Cond.instanceMethod yX2_held, Cond.selects RX2 yX2_held yX2_held, Cond.initialized RX2, Cond.code yX2_held cX2_held 1 (some .int), Cond.fieldLink RX2 15 "RoofDrains$SavedRoofs" "held" "I", Cond.methodLink RX3 231 yX3_hashWith, Cond.static yX3_hashWith, Cond.code yX3_hashWith cX3_hashWith 4 (some .long), Cond.constantLong RX3 258 (31), Cond.methodLink RX3 194 yX1_settingValue, Cond.instanceMethod yX1_settingValue, Cond.selects RX1 yX1_settingValue yX1_settingValue, Cond.code yX1_settingValue cX1_settingValue 2 (some .int), Cond.fieldLink RX1 45 "RoofDrains$Roof" "values" "[I"]
def wsX3_hashOfCounts : List Cond := .code yX3_hashOfCounts cX3_hashOfCounts 6 (some .long) :: ((wsX3_hashOfCounts_r1 ++ (wsX3_hashOfCounts_r2 ++ wsX3_hashOfCounts_r3)) ++ wsX30 ++ wsX10 ++ wsX20 ++ (vx_atS RX3 55 "java/lang/IllegalArgumentException" ["java/lang/RuntimeException", "java/lang/Exception"]).filter goodWord)
def wsX3_hashOfRoof_r1 : List Cond := [Cond.fieldLink RX3 10 "RoofDrains" "roof" "LRoofDrains$Roof;", Cond.methodLink RX3 168 yX1_planeNumber, Cond.instanceMethod yX1_planeNumber, Cond.selects RX1 yX1_planeNumber yX1_planeNumber, Cond.initialized RX1, Cond.code yX1_planeNumber cX1_planeNumber 3 (some .int), Cond.fieldLink RX1 9 "RoofDrains$Roof" "area" "[I", Cond.fieldLink RX1 15 "RoofDrains$Roof" "slope" "[I", Cond.fieldLink RX1 18 "RoofDrains$Roof" "leadsTo" "[I", Cond.fieldLink RX1 21 "RoofDrains$Roof" "onPlane" "[I", Cond.methodLink RX3 231 yX3_hashWith, Cond.static yX3_hashWith, Cond.initialized RX3, Cond.code yX3_hashWith cX3_hashWith 4 (some .long), Cond.constantLong RX3 258 (31), Cond.methodLink RX3 173 yX1_gutterNumber, Cond.instanceMethod yX1_gutterNumber, Cond.selects RX1 yX1_gutterNumber yX1_gutterNumber, Cond.code yX1_gutterNumber cX1_gutterNumber 3 (some .int), Cond.fieldLink RX1 24 "RoofDrains$Roof" "size" "[I", Cond.fieldLink RX1 27 "RoofDrains$Roof" "bore" "[I", Cond.fieldLink RX1 30 "RoofDrains$Roof" "leaves" "[I", Cond.fieldLink RX1 33 "RoofDrains$Roof" "valleyTo" "[I", Cond.fieldLink RX1 36 "RoofDrains$Roof" "inGutter" "[I"]
def wsX3_hashOfRoof_r2 : List Cond := [Cond.fieldLink RX1 39 "RoofDrains$Roof" "spilt" "[I", Cond.fieldLink RX1 42 "RoofDrains$Roof" "drained" "[I", Cond.methodLink RX1 95 yX1_room, Cond.instanceMethod yX1_room, Cond.selects RX1 yX1_room yX1_room, Cond.code yX1_room cX1_room 2 (some .int), Cond.methodLink RX1 91 yX1_pipeTakes, Cond.instanceMethod yX1_pipeTakes, Cond.selects RX1 yX1_pipeTakes yX1_pipeTakes, Cond.code yX1_pipeTakes cX1_pipeTakes 3 (some .int)]
def wsX3_hashOfRoof : List Cond := .code yX3_hashOfRoof cX3_hashOfRoof 7 (some .long) :: ((wsX3_hashOfRoof_r1 ++ wsX3_hashOfRoof_r2) ++ wsX30 ++ wsX10)
def wsX3_bitsOfShare : List Cond := .code yX3_bitsOfShare cX3_bitsOfShare 8 (some .long) :: ([.constantLong RX3 266 (1022), .constantDouble RX3 268 (4611686018427387904), .constantDouble RX3 270 (4841369599423283200), .constantLong RX3 272 (1023)])
def wsX3_hashOfText : List Cond := .code yX3_hashOfText cX3_hashOfText 6 (some .long) :: ([.fieldLink RX3 29 "RoofDrains" "text" "LRoofDrains$RainText;", .methodLink RX3 135 yX0_length, .instanceMethod yX0_length, .selects RX0 yX0_length yX0_length, .initialized RX0, .code yX0_length cX0_length 1 (some .int), .fieldLink RX0 13 "RoofDrains$RainText" "length" "I", .methodLink RX3 231 yX3_hashWith, .static yX3_hashWith, .initialized RX3, .code yX3_hashWith cX3_hashWith 4 (some .long), .constantLong RX3 258 (31), .methodLink RX3 263 yX0_codeAt, .instanceMethod yX0_codeAt, .selects RX0 yX0_codeAt yX0_codeAt, .code yX0_codeAt cX0_codeAt 2 (some .int), .fieldLink RX0 9 "RoofDrains$RainText" "codes" "[I"] ++ wsX30 ++ wsX00)
def wsX3_digest_r1 : List Cond := [Cond.constantLong RX3 219 (3067), Cond.methodLink RX3 221 yX3_hashOfCounts, Cond.instanceMethod yX3_hashOfCounts, Cond.selects RX3 yX3_hashOfCounts yX3_hashOfCounts, Cond.initialized RX3, Cond.code yX3_hashOfCounts cX3_hashOfCounts 6 (some .long), Cond.fieldLink RX3 10 "RoofDrains" "roof" "LRoofDrains$Roof;", Cond.methodLink RX3 260 yX3_count, Cond.instanceMethod yX3_count, Cond.selects RX3 yX3_count yX3_count, Cond.code yX3_count cX3_count 2 (some .int), Cond.classLink RX3 51 "java/lang/IllegalArgumentException", Cond.initialized "java/lang/IllegalArgumentException", Cond.fieldLink RX3 22 "RoofDrains" "saved" "LRoofDrains$SavedRoofs;", Cond.methodLink RX3 176 yX1_minutesGone, Cond.instanceMethod yX1_minutesGone, Cond.selects RX1 yX1_minutesGone yX1_minutesGone, Cond.initialized RX1, Cond.code yX1_minutesGone cX1_minutesGone 1 (some .int), Cond.fieldLink RX1 54 "RoofDrains$Roof" "minutesGone" "I", Cond.methodLink RX3 179 yX1_weeksPassed, Cond.instanceMethod yX1_weeksPassed, Cond.selects RX1 yX1_weeksPassed yX1_weeksPassed, Cond.code yX1_weeksPassed cX1_weeksPassed 1 (some .int)]
def wsX3_digest_r2 : List Cond := [Cond.fieldLink RX1 58 "RoofDrains$Roof" "weeksPassed" "I", Cond.methodLink RX3 182 yX1_rainedLitres, Cond.instanceMethod yX1_rainedLitres, Cond.selects RX1 yX1_rainedLitres yX1_rainedLitres, Cond.code yX1_rainedLitres cX1_rainedLitres 1 (some .int), Cond.fieldLink RX1 61 "RoofDrains$Roof" "rained" "I", Cond.methodLink RX3 185 yX1_standingLitres, Cond.instanceMethod yX1_standingLitres, Cond.selects RX1 yX1_standingLitres yX1_standingLitres, Cond.code yX1_standingLitres cX1_standingLitres 1 (some .int), Cond.fieldLink RX1 21 "RoofDrains$Roof" "onPlane" "[I", Cond.fieldLink RX1 36 "RoofDrains$Roof" "inGutter" "[I", Cond.methodLink RX1 98 yX1_sumOf, Cond.static yX1_sumOf, Cond.code yX1_sumOf cX1_sumOf 6 (some .int), Cond.methodLink RX3 188 yX1_drainedLitres, Cond.instanceMethod yX1_drainedLitres, Cond.selects RX1 yX1_drainedLitres yX1_drainedLitres, Cond.code yX1_drainedLitres cX1_drainedLitres 1 (some .int), Cond.fieldLink RX1 42 "RoofDrains$Roof" "drained" "[I", Cond.methodLink RX3 107 yX1_spiltLitres, Cond.instanceMethod yX1_spiltLitres, Cond.selects RX1 yX1_spiltLitres yX1_spiltLitres, Cond.code yX1_spiltLitres cX1_spiltLitres 1 (some .int)]
def wsX3_digest_r3 : List Cond := [Cond.fieldLink RX1 39 "RoofDrains$Roof" "spilt" "[I", Cond.methodLink RX3 191 yX1_backedUpMinutes, Cond.instanceMethod yX1_backedUpMinutes, Cond.selects RX1 yX1_backedUpMinutes yX1_backedUpMinutes, Cond.code yX1_backedUpMinutes cX1_backedUpMinutes 1 (some .int), Cond.fieldLink RX1 64 "RoofDrains$Roof" "backedUp" "I", Cond.methodLink RX3 120 yX1_leavesTogether, Cond.instanceMethod yX1_leavesTogether, Cond.selects RX1 yX1_leavesTogether yX1_leavesTogether, Cond.code yX1_leavesTogether cX1_leavesTogether 1 (some .int), Cond.fieldLink RX1 30 "RoofDrains$Roof" "leaves" "[I", Cond.methodLink RX3 161 yX2_held, Cond.instanceMethod yX2_held, Cond.selects RX2 yX2_held yX2_held, Cond.initialized RX2, Cond.code yX2_held cX2_held 1 (some .int), Cond.fieldLink RX2 15 "RoofDrains$SavedRoofs" "held" "I", Cond.methodLink RX3 231 yX3_hashWith, Cond.static yX3_hashWith, Cond.code yX3_hashWith cX3_hashWith 4 (some .long), Cond.constantLong RX3 258 (31), Cond.methodLink RX3 194 yX1_settingValue, Cond.instanceMethod yX1_settingValue, Cond.selects RX1 yX1_settingValue yX1_settingValue]
def wsX3_digest_r4 : List Cond := [Cond.code yX1_settingValue cX1_settingValue 2 (some .int), Cond.fieldLink RX1 45 "RoofDrains$Roof" "values" "[I", Cond.methodLink RX3 225 yX3_hashOfRoof, Cond.instanceMethod yX3_hashOfRoof, Cond.selects RX3 yX3_hashOfRoof yX3_hashOfRoof, Cond.code yX3_hashOfRoof cX3_hashOfRoof 7 (some .long), Cond.methodLink RX3 168 yX1_planeNumber, Cond.instanceMethod yX1_planeNumber, Cond.selects RX1 yX1_planeNumber yX1_planeNumber, Cond.code yX1_planeNumber cX1_planeNumber 3 (some .int), Cond.fieldLink RX1 9 "RoofDrains$Roof" "area" "[I", Cond.fieldLink RX1 15 "RoofDrains$Roof" "slope" "[I", Cond.fieldLink RX1 18 "RoofDrains$Roof" "leadsTo" "[I", Cond.methodLink RX3 173 yX1_gutterNumber, Cond.instanceMethod yX1_gutterNumber, Cond.selects RX1 yX1_gutterNumber yX1_gutterNumber, Cond.code yX1_gutterNumber cX1_gutterNumber 3 (some .int), Cond.fieldLink RX1 24 "RoofDrains$Roof" "size" "[I", Cond.fieldLink RX1 27 "RoofDrains$Roof" "bore" "[I", Cond.fieldLink RX1 33 "RoofDrains$Roof" "valleyTo" "[I", Cond.methodLink RX1 95 yX1_room, Cond.instanceMethod yX1_room, Cond.selects RX1 yX1_room yX1_room, Cond.code yX1_room cX1_room 2 (some .int)]
def wsX3_digest_r5 : List Cond := [Cond.methodLink RX1 91 yX1_pipeTakes, Cond.instanceMethod yX1_pipeTakes, Cond.selects RX1 yX1_pipeTakes yX1_pipeTakes, Cond.code yX1_pipeTakes cX1_pipeTakes 3 (some .int), Cond.methodLink RX3 228 yX3_ifRained, Cond.instanceMethod yX3_ifRained, Cond.selects RX3 yX3_ifRained yX3_ifRained, Cond.code yX3_ifRained cX3_ifRained 3 (some .int), Cond.fieldLink RX3 16 "RoofDrains" "thought" "LRoofDrains$Roof;", Cond.methodLink RX3 47 yX3_isWithin, Cond.static yX3_isWithin, Cond.code yX3_isWithin cX3_isWithin 3 (some .boolean), Cond.methodLink RX3 158 yX1_copyFrom, Cond.instanceMethod yX1_copyFrom, Cond.selects RX1 yX1_copyFrom yX1_copyFrom, Cond.code yX1_copyFrom cX1_copyFrom 2 none, Cond.methodLink RX1 48 arraycopyName, Cond.native arraycopyName, Cond.static arraycopyName, Cond.initialized "java/lang/System", Cond.methodLink RX3 111 yX1_passMinutes, Cond.instanceMethod yX1_passMinutes, Cond.selects RX1 yX1_passMinutes yX1_passMinutes, Cond.code yX1_passMinutes cX1_passMinutes 4 none]
def wsX3_digest_r6 : List Cond := [Cond.methodLink RX1 71 yX1_passMinute, Cond.instanceMethod yX1_passMinute, Cond.selects RX1 yX1_passMinute yX1_passMinute, Cond.code yX1_passMinute cX1_passMinute 3 none, Cond.methodLink RX1 75 yX1_wetPlane, Cond.instanceMethod yX1_wetPlane, Cond.selects RX1 yX1_wetPlane yX1_wetPlane, Cond.code yX1_wetPlane cX1_wetPlane 6 none, Cond.static yX3_isGutter, Cond.code yX3_isGutter cX3_isGutter 1 (some .boolean), Cond.methodLink RX1 79 yX1_emptyIntoDrain, Cond.instanceMethod yX1_emptyIntoDrain, Cond.selects RX1 yX1_emptyIntoDrain yX1_emptyIntoDrain, Cond.code yX1_emptyIntoDrain cX1_emptyIntoDrain 6 none, Cond.methodLink RX1 85 Lib.Math.min.name, Cond.static Lib.Math.min.name, Cond.initialized "java/lang/Math", Cond.code Lib.Math.min.name Lib.Math.min.code 2 (some .int), Cond.methodLink RX1 82 yX1_overflow, Cond.instanceMethod yX1_overflow, Cond.selects RX1 yX1_overflow yX1_overflow, Cond.code yX1_overflow cX1_overflow 4 none, Cond.methodLink RX3 235 yX3_spillsFirst, Cond.instanceMethod yX3_spillsFirst]
def wsX3_digest_r7 : List Cond := [Cond.selects RX3 yX3_spillsFirst yX3_spillsFirst, Cond.code yX3_spillsFirst cX3_spillsFirst 4 (some .int), Cond.methodLink RX3 201 yX1_passMinute, Cond.methodLink RX3 204 yX1_lowestThatSpiltMoreThanIn, Cond.instanceMethod yX1_lowestThatSpiltMoreThanIn, Cond.selects RX1 yX1_lowestThatSpiltMoreThanIn yX1_lowestThatSpiltMoreThanIn, Cond.code yX1_lowestThatSpiltMoreThanIn cX1_lowestThatSpiltMoreThanIn 3 (some .int), Cond.methodLink RX3 238 yX3_bestClean, Cond.instanceMethod yX3_bestClean, Cond.selects RX3 yX3_bestClean yX3_bestClean, Cond.code yX3_bestClean cX3_bestClean 5 (some .int), Cond.methodLink RX3 208 yX1_hasLeaves, Cond.instanceMethod yX1_hasLeaves, Cond.selects RX1 yX1_hasLeaves yX1_hasLeaves, Cond.code yX1_hasLeaves cX1_hasLeaves 2 (some .boolean), Cond.methodLink RX3 211 yX3_spiltIfCleaned, Cond.instanceMethod yX3_spiltIfCleaned, Cond.selects RX3 yX3_spiltIfCleaned yX3_spiltIfCleaned, Cond.code yX3_spiltIfCleaned cX3_spiltIfCleaned 2 (some .int), Cond.methodLink RX3 87 yX1_takeLeaves, Cond.instanceMethod yX1_takeLeaves, Cond.selects RX1 yX1_takeLeaves yX1_takeLeaves, Cond.code yX1_takeLeaves cX1_takeLeaves 3 (some .int), Cond.methodLink RX3 241 yX3_mostRain]
def wsX3_digest_r8 : List Cond := [Cond.instanceMethod yX3_mostRain, Cond.selects RX3 yX3_mostRain yX3_mostRain, Cond.code yX3_mostRain cX3_mostRain 3 (some .int), Cond.methodLink RX3 216 yX3_wouldSpill, Cond.instanceMethod yX3_wouldSpill, Cond.selects RX3 yX3_wouldSpill yX3_wouldSpill, Cond.code yX3_wouldSpill cX3_wouldSpill 4 (some .boolean), Cond.methodLink RX3 244 yX3_dryIn, Cond.instanceMethod yX3_dryIn, Cond.selects RX3 yX3_dryIn yX3_dryIn, Cond.code yX3_dryIn cX3_dryIn 2 (some .int), Cond.methodLink RX3 247 yX3_drainedShare, Cond.instanceMethod yX3_drainedShare, Cond.selects RX3 yX3_drainedShare yX3_drainedShare, Cond.code yX3_drainedShare cX3_drainedShare 2 (some .double), Cond.methodLink RX3 251 yX3_bitsOfShare, Cond.static yX3_bitsOfShare, Cond.code yX3_bitsOfShare cX3_bitsOfShare 8 (some .long), Cond.constantLong RX3 266 (1022), Cond.constantDouble RX3 268 (4611686018427387904), Cond.constantDouble RX3 270 (4841369599423283200), Cond.constantLong RX3 272 (1023), Cond.methodLink RX3 255 yX3_hashOfText, Cond.instanceMethod yX3_hashOfText]
def wsX3_digest_r9 : List Cond := [Cond.selects RX3 yX3_hashOfText yX3_hashOfText, Cond.code yX3_hashOfText cX3_hashOfText 6 (some .long), Cond.fieldLink RX3 29 "RoofDrains" "text" "LRoofDrains$RainText;", Cond.methodLink RX3 135 yX0_length, Cond.instanceMethod yX0_length, Cond.selects RX0 yX0_length yX0_length, Cond.initialized RX0, Cond.code yX0_length cX0_length 1 (some .int), Cond.fieldLink RX0 13 "RoofDrains$RainText" "length" "I", Cond.methodLink RX3 263 yX0_codeAt, Cond.instanceMethod yX0_codeAt, Cond.selects RX0 yX0_codeAt yX0_codeAt, Cond.code yX0_codeAt cX0_codeAt 2 (some .int), Cond.fieldLink RX0 9 "RoofDrains$RainText" "codes" "[I"]
def wsX3_digest : List Cond := .code yX3_digest cX3_digest 4 (some .long) :: ((wsX3_digest_r1 ++ (wsX3_digest_r2 ++ (wsX3_digest_r3 ++ (wsX3_digest_r4 ++ (wsX3_digest_r5 ++ (wsX3_digest_r6 ++ (wsX3_digest_r7 ++ (wsX3_digest_r8 ++ wsX3_digest_r9)))))))) ++ wsX30 ++ wsX10 ++ wsX20 ++ wsX00 ++ (vx_atS RX3 55 "java/lang/IllegalArgumentException" ["java/lang/RuntimeException", "java/lang/Exception"]).filter goodWord)
def wsX4_init : List Cond := .code yX4_init cX4_init 2 none :: ([.methodLink RX4 1 objectInit, .instanceMethod objectInit, .code objectInit ⟨#[0xb1]⟩ 1 none, .arrayClass .int, .fieldLink RX4 7 "RoofDrainsModel" "s" "[I", .fieldLink RX4 13 "RoofDrainsModel" "aside" "[I", .fieldLink RX4 16 "RoofDrainsModel" "saved" "[I", .fieldLink RX4 19 "RoofDrainsModel" "buffer" "[I", .fieldLink RX4 22 "RoofDrainsModel" "parts" "[I", .fieldLink RX4 25 "RoofDrainsModel" "thrown" "I"] ++ wsX40)
def wsX4_thrown : List Cond := .code yX4_thrown cX4_thrown 1 (some .int) :: ([.fieldLink RX4 25 "RoofDrainsModel" "thrown" "I"] ++ wsX40)
def wsX4_in : List Cond := .code yX4_in cX4_in 3 (some .boolean) :: ([])
def wsX4_fails : List Cond := .code yX4_fails cX4_fails 2 (some .int) :: ([.fieldLink RX4 25 "RoofDrainsModel" "thrown" "I"] ++ wsX40)
def wsX4_isOne : List Cond := .code yX4_isOne cX4_isOne 1 (some .boolean) :: ([.methodLink RX4 29 yX4_in, .static yX4_in, .initialized RX4, .code yX4_in cX4_in 3 (some .boolean)])
def wsX4_ofPlane : List Cond := .code yX4_ofPlane cX4_ofPlane 3 (some .int) :: ([.fieldLink RX4 7 "RoofDrainsModel" "s" "[I"] ++ wsX40)
def wsX4_of : List Cond := .code yX4_of cX4_of 3 (some .int) :: ([.fieldLink RX4 7 "RoofDrainsModel" "s" "[I"] ++ wsX40)
def wsX4_adds : List Cond := .code yX4_adds cX4_adds 4 none :: ([.fieldLink RX4 7 "RoofDrainsModel" "s" "[I"] ++ wsX40)
def wsX4_saves : List Cond := .code yX4_saves cX4_saves 2 none :: ([.fieldLink RX4 33 "RoofDrainsModel" "savedMany" "I", .fieldLink RX4 16 "RoofDrainsModel" "saved" "[I", .fieldLink RX4 7 "RoofDrainsModel" "s" "[I"] ++ wsX40)
def wsX4_putAside : List Cond := .code yX4_putAside cX4_putAside 2 none :: ([.fieldLink RX4 13 "RoofDrainsModel" "aside" "[I", .fieldLink RX4 7 "RoofDrainsModel" "s" "[I"] ++ wsX40)
def wsX4_takeBack : List Cond := .code yX4_takeBack cX4_takeBack 2 none :: ([.fieldLink RX4 7 "RoofDrainsModel" "s" "[I", .fieldLink RX4 13 "RoofDrainsModel" "aside" "[I"] ++ wsX40)
def wsX4_room : List Cond := .code yX4_room cX4_room 2 (some .int) :: ([.methodLink RX4 36 yX4_of, .instanceMethod yX4_of, .selects RX4 yX4_of yX4_of, .initialized RX4, .code yX4_of cX4_of 3 (some .int), .fieldLink RX4 7 "RoofDrainsModel" "s" "[I"] ++ wsX40)
def wsX4_takes : List Cond := .code yX4_takes cX4_takes 3 (some .int) :: ([.methodLink RX4 36 yX4_of, .instanceMethod yX4_of, .selects RX4 yX4_of yX4_of, .initialized RX4, .code yX4_of cX4_of 3 (some .int), .fieldLink RX4 7 "RoofDrainsModel" "s" "[I"] ++ wsX40)
def wsX4_sends : List Cond := .code yX4_sends cX4_sends 6 none :: ([.fieldLink RX4 7 "RoofDrainsModel" "s" "[I", .methodLink RX4 40 yX4_ofPlane, .instanceMethod yX4_ofPlane, .selects RX4 yX4_ofPlane yX4_ofPlane, .initialized RX4, .code yX4_ofPlane cX4_ofPlane 3 (some .int), .methodLink RX4 43 yX4_adds, .instanceMethod yX4_adds, .selects RX4 yX4_adds yX4_adds, .code yX4_adds cX4_adds 4 none] ++ wsX40)
def wsX4_drains : List Cond := .code yX4_drains cX4_drains 6 (some .boolean) :: ([.fieldLink RX4 7 "RoofDrainsModel" "s" "[I", .methodLink RX4 47 yX4_takes, .instanceMethod yX4_takes, .selects RX4 yX4_takes yX4_takes, .initialized RX4, .code yX4_takes cX4_takes 3 (some .int), .methodLink RX4 36 yX4_of, .instanceMethod yX4_of, .selects RX4 yX4_of yX4_of, .code yX4_of cX4_of 3 (some .int), .methodLink RX4 43 yX4_adds, .instanceMethod yX4_adds, .selects RX4 yX4_adds yX4_adds, .code yX4_adds cX4_adds 4 none] ++ wsX40)
def wsX4_flowsOver : List Cond := .code yX4_flowsOver cX4_flowsOver 3 none :: ([.fieldLink RX4 7 "RoofDrainsModel" "s" "[I", .methodLink RX4 36 yX4_of, .instanceMethod yX4_of, .selects RX4 yX4_of yX4_of, .initialized RX4, .code yX4_of cX4_of 3 (some .int), .methodLink RX4 51 yX4_room, .instanceMethod yX4_room, .selects RX4 yX4_room yX4_room, .code yX4_room cX4_room 2 (some .int), .methodLink RX4 43 yX4_adds, .instanceMethod yX4_adds, .selects RX4 yX4_adds yX4_adds, .code yX4_adds cX4_adds 4 none] ++ wsX40)
def wsX4_minute_r1 : List Cond := [Cond.fieldLink RX4 7 "RoofDrainsModel" "s" "[I", Cond.methodLink RX4 54 yX4_sends, Cond.instanceMethod yX4_sends, Cond.selects RX4 yX4_sends yX4_sends, Cond.initialized RX4, Cond.code yX4_sends cX4_sends 6 none, Cond.methodLink RX4 40 yX4_ofPlane, Cond.instanceMethod yX4_ofPlane, Cond.selects RX4 yX4_ofPlane yX4_ofPlane, Cond.code yX4_ofPlane cX4_ofPlane 3 (some .int), Cond.methodLink RX4 43 yX4_adds, Cond.instanceMethod yX4_adds, Cond.selects RX4 yX4_adds yX4_adds, Cond.code yX4_adds cX4_adds 4 none, Cond.methodLink RX4 58 yX4_drains, Cond.instanceMethod yX4_drains, Cond.selects RX4 yX4_drains yX4_drains, Cond.code yX4_drains cX4_drains 6 (some .boolean), Cond.methodLink RX4 47 yX4_takes, Cond.instanceMethod yX4_takes, Cond.selects RX4 yX4_takes yX4_takes, Cond.code yX4_takes cX4_takes 3 (some .int), Cond.methodLink RX4 36 yX4_of, Cond.instanceMethod yX4_of]
def wsX4_minute_r2 : List Cond := [Cond.selects RX4 yX4_of yX4_of, Cond.code yX4_of cX4_of 3 (some .int), Cond.methodLink RX4 62 yX4_flowsOver, Cond.instanceMethod yX4_flowsOver, Cond.selects RX4 yX4_flowsOver yX4_flowsOver, Cond.code yX4_flowsOver cX4_flowsOver 3 none, Cond.methodLink RX4 51 yX4_room, Cond.instanceMethod yX4_room, Cond.selects RX4 yX4_room yX4_room, Cond.code yX4_room cX4_room 2 (some .int)]
def wsX4_minute : List Cond := .code yX4_minute cX4_minute 3 none :: ((wsX4_minute_r1 ++ wsX4_minute_r2) ++ wsX40)
def wsX4_rains_r1 : List Cond := [Cond.fieldLink RX4 7 "RoofDrainsModel" "s" "[I", Cond.methodLink RX4 66 yX4_minute, Cond.instanceMethod yX4_minute, Cond.selects RX4 yX4_minute yX4_minute, Cond.initialized RX4, Cond.code yX4_minute cX4_minute 3 none, Cond.methodLink RX4 54 yX4_sends, Cond.instanceMethod yX4_sends, Cond.selects RX4 yX4_sends yX4_sends, Cond.code yX4_sends cX4_sends 6 none, Cond.methodLink RX4 40 yX4_ofPlane, Cond.instanceMethod yX4_ofPlane, Cond.selects RX4 yX4_ofPlane yX4_ofPlane, Cond.code yX4_ofPlane cX4_ofPlane 3 (some .int), Cond.methodLink RX4 43 yX4_adds, Cond.instanceMethod yX4_adds, Cond.selects RX4 yX4_adds yX4_adds, Cond.code yX4_adds cX4_adds 4 none, Cond.methodLink RX4 58 yX4_drains, Cond.instanceMethod yX4_drains, Cond.selects RX4 yX4_drains yX4_drains, Cond.code yX4_drains cX4_drains 6 (some .boolean), Cond.methodLink RX4 47 yX4_takes, Cond.instanceMethod yX4_takes]
def wsX4_rains_r2 : List Cond := [Cond.selects RX4 yX4_takes yX4_takes, Cond.code yX4_takes cX4_takes 3 (some .int), Cond.methodLink RX4 36 yX4_of, Cond.instanceMethod yX4_of, Cond.selects RX4 yX4_of yX4_of, Cond.code yX4_of cX4_of 3 (some .int), Cond.methodLink RX4 62 yX4_flowsOver, Cond.instanceMethod yX4_flowsOver, Cond.selects RX4 yX4_flowsOver yX4_flowsOver, Cond.code yX4_flowsOver cX4_flowsOver 3 none, Cond.methodLink RX4 51 yX4_room, Cond.instanceMethod yX4_room, Cond.selects RX4 yX4_room yX4_room, Cond.code yX4_room cX4_room 2 (some .int)]
def wsX4_rains : List Cond := .code yX4_rains cX4_rains 5 (some .int) :: ((wsX4_rains_r1 ++ wsX4_rains_r2) ++ wsX40)
def wsX4_week : List Cond := .code yX4_week cX4_week 3 none :: ([.fieldLink RX4 7 "RoofDrainsModel" "s" "[I", .methodLink RX4 36 yX4_of, .instanceMethod yX4_of, .selects RX4 yX4_of yX4_of, .initialized RX4, .code yX4_of cX4_of 3 (some .int)] ++ wsX40)
def wsX4_leaves : List Cond := .code yX4_leaves cX4_leaves 3 (some .int) :: ([.methodLink RX4 36 yX4_of, .instanceMethod yX4_of, .selects RX4 yX4_of yX4_of, .initialized RX4, .code yX4_of cX4_of 3 (some .int), .fieldLink RX4 7 "RoofDrainsModel" "s" "[I"] ++ wsX40)
def wsX4_stands : List Cond := .code yX4_stands cX4_stands 3 (some .int) :: ([.methodLink RX4 40 yX4_ofPlane, .instanceMethod yX4_ofPlane, .selects RX4 yX4_ofPlane yX4_ofPlane, .initialized RX4, .code yX4_ofPlane cX4_ofPlane 3 (some .int), .fieldLink RX4 7 "RoofDrainsModel" "s" "[I", .methodLink RX4 36 yX4_of, .instanceMethod yX4_of, .selects RX4 yX4_of yX4_of, .code yX4_of cX4_of 3 (some .int)] ++ wsX40)
def wsX4_plane : List Cond := .code yX4_plane cX4_plane 6 (some .int) :: ([.fieldLink RX4 25 "RoofDrainsModel" "thrown" "I", .fieldLink RX4 7 "RoofDrainsModel" "s" "[I", .methodLink RX4 69 yX4_isOne, .static yX4_isOne, .initialized RX4, .code yX4_isOne cX4_isOne 1 (some .boolean), .methodLink RX4 29 yX4_in, .static yX4_in, .code yX4_in cX4_in 3 (some .boolean), .methodLink RX4 73 yX4_fails, .instanceMethod yX4_fails, .selects RX4 yX4_fails yX4_fails, .code yX4_fails cX4_fails 2 (some .int), .methodLink RX4 76 yX4_saves, .instanceMethod yX4_saves, .selects RX4 yX4_saves yX4_saves, .code yX4_saves cX4_saves 2 none, .fieldLink RX4 33 "RoofDrainsModel" "savedMany" "I", .fieldLink RX4 16 "RoofDrainsModel" "saved" "[I", .methodLink RX4 40 yX4_ofPlane, .instanceMethod yX4_ofPlane, .selects RX4 yX4_ofPlane yX4_ofPlane, .code yX4_ofPlane cX4_ofPlane 3 (some .int)] ++ wsX40)
def wsX4_gutter : List Cond := .code yX4_gutter cX4_gutter 5 (some .int) :: ([.fieldLink RX4 25 "RoofDrainsModel" "thrown" "I", .fieldLink RX4 7 "RoofDrainsModel" "s" "[I", .methodLink RX4 69 yX4_isOne, .static yX4_isOne, .initialized RX4, .code yX4_isOne cX4_isOne 1 (some .boolean), .methodLink RX4 29 yX4_in, .static yX4_in, .code yX4_in cX4_in 3 (some .boolean), .methodLink RX4 73 yX4_fails, .instanceMethod yX4_fails, .selects RX4 yX4_fails yX4_fails, .code yX4_fails cX4_fails 2 (some .int), .methodLink RX4 76 yX4_saves, .instanceMethod yX4_saves, .selects RX4 yX4_saves yX4_saves, .code yX4_saves cX4_saves 2 none, .fieldLink RX4 33 "RoofDrainsModel" "savedMany" "I", .fieldLink RX4 16 "RoofDrainsModel" "saved" "[I", .methodLink RX4 36 yX4_of, .instanceMethod yX4_of, .selects RX4 yX4_of yX4_of, .code yX4_of cX4_of 3 (some .int)] ++ wsX40)
def wsX4_leads : List Cond := .code yX4_leads cX4_leads 4 (some .boolean) :: ([.methodLink RX4 36 yX4_of, .instanceMethod yX4_of, .selects RX4 yX4_of yX4_of, .initialized RX4, .code yX4_of cX4_of 3 (some .int), .fieldLink RX4 7 "RoofDrainsModel" "s" "[I"] ++ wsX40)
def wsX4_valley_r1 : List Cond := [Cond.fieldLink RX4 25 "RoofDrainsModel" "thrown" "I", Cond.fieldLink RX4 7 "RoofDrainsModel" "s" "[I", Cond.methodLink RX4 69 yX4_isOne, Cond.static yX4_isOne, Cond.initialized RX4, Cond.code yX4_isOne cX4_isOne 1 (some .boolean), Cond.methodLink RX4 29 yX4_in, Cond.static yX4_in, Cond.code yX4_in cX4_in 3 (some .boolean), Cond.methodLink RX4 73 yX4_fails, Cond.instanceMethod yX4_fails, Cond.selects RX4 yX4_fails yX4_fails, Cond.code yX4_fails cX4_fails 2 (some .int), Cond.methodLink RX4 79 yX4_leads, Cond.instanceMethod yX4_leads, Cond.selects RX4 yX4_leads yX4_leads, Cond.code yX4_leads cX4_leads 4 (some .boolean), Cond.methodLink RX4 36 yX4_of, Cond.instanceMethod yX4_of, Cond.selects RX4 yX4_of yX4_of, Cond.code yX4_of cX4_of 3 (some .int), Cond.methodLink RX4 76 yX4_saves, Cond.instanceMethod yX4_saves, Cond.selects RX4 yX4_saves yX4_saves]
def wsX4_valley_r2 : List Cond := [Cond.code yX4_saves cX4_saves 2 none, Cond.fieldLink RX4 33 "RoofDrainsModel" "savedMany" "I", Cond.fieldLink RX4 16 "RoofDrainsModel" "saved" "[I"]
def wsX4_valley : List Cond := .code yX4_valley cX4_valley 4 (some .int) :: ((wsX4_valley_r1 ++ wsX4_valley_r2) ++ wsX40)
def wsX4_clean : List Cond := .code yX4_clean cX4_clean 3 (some .int) :: ([.fieldLink RX4 25 "RoofDrainsModel" "thrown" "I", .fieldLink RX4 7 "RoofDrainsModel" "s" "[I", .methodLink RX4 69 yX4_isOne, .static yX4_isOne, .initialized RX4, .code yX4_isOne cX4_isOne 1 (some .boolean), .methodLink RX4 29 yX4_in, .static yX4_in, .code yX4_in cX4_in 3 (some .boolean), .methodLink RX4 73 yX4_fails, .instanceMethod yX4_fails, .selects RX4 yX4_fails yX4_fails, .code yX4_fails cX4_fails 2 (some .int), .methodLink RX4 76 yX4_saves, .instanceMethod yX4_saves, .selects RX4 yX4_saves yX4_saves, .code yX4_saves cX4_saves 2 none, .fieldLink RX4 33 "RoofDrainsModel" "savedMany" "I", .fieldLink RX4 16 "RoofDrainsModel" "saved" "[I", .methodLink RX4 36 yX4_of, .instanceMethod yX4_of, .selects RX4 yX4_of yX4_of, .code yX4_of cX4_of 3 (some .int)] ++ wsX40)
def wsX4_set : List Cond := .code yX4_set cX4_set 4 (some .int) :: ([.fieldLink RX4 25 "RoofDrainsModel" "thrown" "I", .fieldLink RX4 7 "RoofDrainsModel" "s" "[I", .methodLink RX4 29 yX4_in, .static yX4_in, .initialized RX4, .code yX4_in cX4_in 3 (some .boolean), .methodLink RX4 73 yX4_fails, .instanceMethod yX4_fails, .selects RX4 yX4_fails yX4_fails, .code yX4_fails cX4_fails 2 (some .int), .methodLink RX4 76 yX4_saves, .instanceMethod yX4_saves, .selects RX4 yX4_saves yX4_saves, .code yX4_saves cX4_saves 2 none, .fieldLink RX4 33 "RoofDrainsModel" "savedMany" "I", .fieldLink RX4 16 "RoofDrainsModel" "saved" "[I"] ++ wsX40)
def wsX4_rain_r1 : List Cond := [Cond.fieldLink RX4 25 "RoofDrainsModel" "thrown" "I", Cond.methodLink RX4 29 yX4_in, Cond.static yX4_in, Cond.initialized RX4, Cond.code yX4_in cX4_in 3 (some .boolean), Cond.methodLink RX4 73 yX4_fails, Cond.instanceMethod yX4_fails, Cond.selects RX4 yX4_fails yX4_fails, Cond.code yX4_fails cX4_fails 2 (some .int), Cond.methodLink RX4 76 yX4_saves, Cond.instanceMethod yX4_saves, Cond.selects RX4 yX4_saves yX4_saves, Cond.code yX4_saves cX4_saves 2 none, Cond.fieldLink RX4 33 "RoofDrainsModel" "savedMany" "I", Cond.fieldLink RX4 16 "RoofDrainsModel" "saved" "[I", Cond.fieldLink RX4 7 "RoofDrainsModel" "s" "[I", Cond.methodLink RX4 83 yX4_rains, Cond.instanceMethod yX4_rains, Cond.selects RX4 yX4_rains yX4_rains, Cond.code yX4_rains cX4_rains 5 (some .int), Cond.methodLink RX4 66 yX4_minute, Cond.instanceMethod yX4_minute, Cond.selects RX4 yX4_minute yX4_minute, Cond.code yX4_minute cX4_minute 3 none]
def wsX4_rain_r2 : List Cond := [Cond.methodLink RX4 54 yX4_sends, Cond.instanceMethod yX4_sends, Cond.selects RX4 yX4_sends yX4_sends, Cond.code yX4_sends cX4_sends 6 none, Cond.methodLink RX4 40 yX4_ofPlane, Cond.instanceMethod yX4_ofPlane, Cond.selects RX4 yX4_ofPlane yX4_ofPlane, Cond.code yX4_ofPlane cX4_ofPlane 3 (some .int), Cond.methodLink RX4 43 yX4_adds, Cond.instanceMethod yX4_adds, Cond.selects RX4 yX4_adds yX4_adds, Cond.code yX4_adds cX4_adds 4 none, Cond.methodLink RX4 58 yX4_drains, Cond.instanceMethod yX4_drains, Cond.selects RX4 yX4_drains yX4_drains, Cond.code yX4_drains cX4_drains 6 (some .boolean), Cond.methodLink RX4 47 yX4_takes, Cond.instanceMethod yX4_takes, Cond.selects RX4 yX4_takes yX4_takes, Cond.code yX4_takes cX4_takes 3 (some .int), Cond.methodLink RX4 36 yX4_of, Cond.instanceMethod yX4_of, Cond.selects RX4 yX4_of yX4_of, Cond.code yX4_of cX4_of 3 (some .int)]
def wsX4_rain_r3 : List Cond := [Cond.methodLink RX4 62 yX4_flowsOver, Cond.instanceMethod yX4_flowsOver, Cond.selects RX4 yX4_flowsOver yX4_flowsOver, Cond.code yX4_flowsOver cX4_flowsOver 3 none, Cond.methodLink RX4 51 yX4_room, Cond.instanceMethod yX4_room, Cond.selects RX4 yX4_room yX4_room, Cond.code yX4_room cX4_room 2 (some .int)]
def wsX4_rain : List Cond := .code yX4_rain cX4_rain 3 (some .int) :: ((wsX4_rain_r1 ++ (wsX4_rain_r2 ++ wsX4_rain_r3)) ++ wsX40)
def wsX4_weeks_r1 : List Cond := [Cond.fieldLink RX4 25 "RoofDrainsModel" "thrown" "I", Cond.methodLink RX4 29 yX4_in, Cond.static yX4_in, Cond.initialized RX4, Cond.code yX4_in cX4_in 3 (some .boolean), Cond.methodLink RX4 73 yX4_fails, Cond.instanceMethod yX4_fails, Cond.selects RX4 yX4_fails yX4_fails, Cond.code yX4_fails cX4_fails 2 (some .int), Cond.methodLink RX4 76 yX4_saves, Cond.instanceMethod yX4_saves, Cond.selects RX4 yX4_saves yX4_saves, Cond.code yX4_saves cX4_saves 2 none, Cond.fieldLink RX4 33 "RoofDrainsModel" "savedMany" "I", Cond.fieldLink RX4 16 "RoofDrainsModel" "saved" "[I", Cond.fieldLink RX4 7 "RoofDrainsModel" "s" "[I", Cond.methodLink RX4 86 yX4_week, Cond.instanceMethod yX4_week, Cond.selects RX4 yX4_week yX4_week, Cond.code yX4_week cX4_week 3 none, Cond.methodLink RX4 36 yX4_of, Cond.instanceMethod yX4_of, Cond.selects RX4 yX4_of yX4_of, Cond.code yX4_of cX4_of 3 (some .int)]
def wsX4_weeks_r2 : List Cond := [Cond.methodLink RX4 89 yX4_leaves, Cond.instanceMethod yX4_leaves, Cond.selects RX4 yX4_leaves yX4_leaves, Cond.code yX4_leaves cX4_leaves 3 (some .int)]
def wsX4_weeks : List Cond := .code yX4_weeks cX4_weeks 3 (some .int) :: ((wsX4_weeks_r1 ++ wsX4_weeks_r2) ++ wsX40)
def wsX4_append : List Cond := .code yX4_append cX4_append 2 (some .int) :: ([.fieldLink RX4 25 "RoofDrainsModel" "thrown" "I", .fieldLink RX4 93 "RoofDrainsModel" "length" "I", .fieldLink RX4 19 "RoofDrainsModel" "buffer" "[I", .methodLink RX4 29 yX4_in, .static yX4_in, .initialized RX4, .code yX4_in cX4_in 3 (some .boolean), .methodLink RX4 73 yX4_fails, .instanceMethod yX4_fails, .selects RX4 yX4_fails yX4_fails, .code yX4_fails cX4_fails 2 (some .int)] ++ wsX40)
def wsX4_clearBuffer : List Cond := .code yX4_clearBuffer cX4_clearBuffer 2 (some .int) :: ([.fieldLink RX4 25 "RoofDrainsModel" "thrown" "I", .fieldLink RX4 93 "RoofDrainsModel" "length" "I"] ++ wsX40)
def wsX4_sign : List Cond := .code yX4_sign cX4_sign 1 (some .int) :: ([.fieldLink RX4 96 "RoofDrainsModel" "at" "I", .fieldLink RX4 93 "RoofDrainsModel" "length" "I", .fieldLink RX4 19 "RoofDrainsModel" "buffer" "[I"] ++ wsX40)
def wsX4_digit : List Cond := .code yX4_digit cX4_digit 4 (some .int) :: ([.fieldLink RX4 99 "RoofDrainsModel" "isWell" "Z", .fieldLink RX4 96 "RoofDrainsModel" "at" "I", .methodLink RX4 103 yX4_sign, .instanceMethod yX4_sign, .selects RX4 yX4_sign yX4_sign, .initialized RX4, .code yX4_sign cX4_sign 1 (some .int), .fieldLink RX4 93 "RoofDrainsModel" "length" "I", .fieldLink RX4 19 "RoofDrainsModel" "buffer" "[I", .methodLink RX4 29 yX4_in, .static yX4_in, .code yX4_in cX4_in 3 (some .boolean)] ++ wsX40)
def wsX4_number : List Cond := .code yX4_number cX4_number 4 (some .int) :: ([.fieldLink RX4 99 "RoofDrainsModel" "isWell" "Z", .fieldLink RX4 96 "RoofDrainsModel" "at" "I", .methodLink RX4 106 yX4_digit, .instanceMethod yX4_digit, .selects RX4 yX4_digit yX4_digit, .initialized RX4, .code yX4_digit cX4_digit 4 (some .int), .methodLink RX4 103 yX4_sign, .instanceMethod yX4_sign, .selects RX4 yX4_sign yX4_sign, .code yX4_sign cX4_sign 1 (some .int), .fieldLink RX4 93 "RoofDrainsModel" "length" "I", .fieldLink RX4 19 "RoofDrainsModel" "buffer" "[I", .methodLink RX4 29 yX4_in, .static yX4_in, .code yX4_in cX4_in 3 (some .boolean)] ++ wsX40)
def wsX4_readsPart : List Cond := .code yX4_readsPart cX4_readsPart 3 none :: ([.fieldLink RX4 109 "RoofDrainsModel" "partMany" "I", .fieldLink RX4 96 "RoofDrainsModel" "at" "I", .fieldLink RX4 22 "RoofDrainsModel" "parts" "[I", .fieldLink RX4 99 "RoofDrainsModel" "isWell" "Z", .methodLink RX4 103 yX4_sign, .instanceMethod yX4_sign, .selects RX4 yX4_sign yX4_sign, .initialized RX4, .code yX4_sign cX4_sign 1 (some .int), .fieldLink RX4 93 "RoofDrainsModel" "length" "I", .fieldLink RX4 19 "RoofDrainsModel" "buffer" "[I", .methodLink RX4 106 yX4_digit, .instanceMethod yX4_digit, .selects RX4 yX4_digit yX4_digit, .code yX4_digit cX4_digit 4 (some .int), .methodLink RX4 29 yX4_in, .static yX4_in, .code yX4_in cX4_in 3 (some .boolean), .methodLink RX4 112 yX4_number, .instanceMethod yX4_number, .selects RX4 yX4_number yX4_number, .code yX4_number cX4_number 4 (some .int)] ++ wsX40)
def wsX4_readsAll_r1 : List Cond := [Cond.fieldLink RX4 96 "RoofDrainsModel" "at" "I", Cond.fieldLink RX4 99 "RoofDrainsModel" "isWell" "Z", Cond.fieldLink RX4 109 "RoofDrainsModel" "partMany" "I", Cond.fieldLink RX4 93 "RoofDrainsModel" "length" "I", Cond.methodLink RX4 115 yX4_readsPart, Cond.instanceMethod yX4_readsPart, Cond.selects RX4 yX4_readsPart yX4_readsPart, Cond.initialized RX4, Cond.code yX4_readsPart cX4_readsPart 3 none, Cond.fieldLink RX4 22 "RoofDrainsModel" "parts" "[I", Cond.methodLink RX4 103 yX4_sign, Cond.instanceMethod yX4_sign, Cond.selects RX4 yX4_sign yX4_sign, Cond.code yX4_sign cX4_sign 1 (some .int), Cond.fieldLink RX4 19 "RoofDrainsModel" "buffer" "[I", Cond.methodLink RX4 106 yX4_digit, Cond.instanceMethod yX4_digit, Cond.selects RX4 yX4_digit yX4_digit, Cond.code yX4_digit cX4_digit 4 (some .int), Cond.methodLink RX4 29 yX4_in, Cond.static yX4_in, Cond.code yX4_in cX4_in 3 (some .boolean), Cond.methodLink RX4 112 yX4_number, Cond.instanceMethod yX4_number]
def wsX4_readsAll_r2 : List Cond := [Cond.selects RX4 yX4_number yX4_number, Cond.code yX4_number cX4_number 4 (some .int)]
def wsX4_readsAll : List Cond := .code yX4_readsAll cX4_readsAll 1 none :: ((wsX4_readsAll_r1 ++ wsX4_readsAll_r2) ++ wsX40)
def wsX4_firstError_r1 : List Cond := [Cond.fieldLink RX4 25 "RoofDrainsModel" "thrown" "I", Cond.fieldLink RX4 96 "RoofDrainsModel" "at" "I", Cond.methodLink RX4 118 yX4_readsAll, Cond.instanceMethod yX4_readsAll, Cond.selects RX4 yX4_readsAll yX4_readsAll, Cond.initialized RX4, Cond.code yX4_readsAll cX4_readsAll 1 none, Cond.fieldLink RX4 99 "RoofDrainsModel" "isWell" "Z", Cond.fieldLink RX4 109 "RoofDrainsModel" "partMany" "I", Cond.fieldLink RX4 93 "RoofDrainsModel" "length" "I", Cond.methodLink RX4 115 yX4_readsPart, Cond.instanceMethod yX4_readsPart, Cond.selects RX4 yX4_readsPart yX4_readsPart, Cond.code yX4_readsPart cX4_readsPart 3 none, Cond.fieldLink RX4 22 "RoofDrainsModel" "parts" "[I", Cond.methodLink RX4 103 yX4_sign, Cond.instanceMethod yX4_sign, Cond.selects RX4 yX4_sign yX4_sign, Cond.code yX4_sign cX4_sign 1 (some .int), Cond.fieldLink RX4 19 "RoofDrainsModel" "buffer" "[I", Cond.methodLink RX4 106 yX4_digit, Cond.instanceMethod yX4_digit, Cond.selects RX4 yX4_digit yX4_digit, Cond.code yX4_digit cX4_digit 4 (some .int)]
def wsX4_firstError_r2 : List Cond := [Cond.methodLink RX4 29 yX4_in, Cond.static yX4_in, Cond.code yX4_in cX4_in 3 (some .boolean), Cond.methodLink RX4 112 yX4_number, Cond.instanceMethod yX4_number, Cond.selects RX4 yX4_number yX4_number, Cond.code yX4_number cX4_number 4 (some .int)]
def wsX4_firstError : List Cond := .code yX4_firstError cX4_firstError 1 (some .int) :: ((wsX4_firstError_r1 ++ wsX4_firstError_r2) ++ wsX40)
def wsX4_play_r1 : List Cond := [Cond.fieldLink RX4 25 "RoofDrainsModel" "thrown" "I", Cond.fieldLink RX4 99 "RoofDrainsModel" "isWell" "Z", Cond.fieldLink RX4 93 "RoofDrainsModel" "length" "I", Cond.fieldLink RX4 109 "RoofDrainsModel" "partMany" "I", Cond.fieldLink RX4 22 "RoofDrainsModel" "parts" "[I", Cond.fieldLink RX4 7 "RoofDrainsModel" "s" "[I", Cond.methodLink RX4 118 yX4_readsAll, Cond.instanceMethod yX4_readsAll, Cond.selects RX4 yX4_readsAll yX4_readsAll, Cond.initialized RX4, Cond.code yX4_readsAll cX4_readsAll 1 none, Cond.fieldLink RX4 96 "RoofDrainsModel" "at" "I", Cond.methodLink RX4 115 yX4_readsPart, Cond.instanceMethod yX4_readsPart, Cond.selects RX4 yX4_readsPart yX4_readsPart, Cond.code yX4_readsPart cX4_readsPart 3 none, Cond.methodLink RX4 103 yX4_sign, Cond.instanceMethod yX4_sign, Cond.selects RX4 yX4_sign yX4_sign, Cond.code yX4_sign cX4_sign 1 (some .int), Cond.fieldLink RX4 19 "RoofDrainsModel" "buffer" "[I", Cond.methodLink RX4 106 yX4_digit, Cond.instanceMethod yX4_digit, Cond.selects RX4 yX4_digit yX4_digit]
def wsX4_play_r2 : List Cond := [Cond.code yX4_digit cX4_digit 4 (some .int), Cond.methodLink RX4 29 yX4_in, Cond.static yX4_in, Cond.code yX4_in cX4_in 3 (some .boolean), Cond.methodLink RX4 112 yX4_number, Cond.instanceMethod yX4_number, Cond.selects RX4 yX4_number yX4_number, Cond.code yX4_number cX4_number 4 (some .int), Cond.methodLink RX4 73 yX4_fails, Cond.instanceMethod yX4_fails, Cond.selects RX4 yX4_fails yX4_fails, Cond.code yX4_fails cX4_fails 2 (some .int), Cond.methodLink RX4 76 yX4_saves, Cond.instanceMethod yX4_saves, Cond.selects RX4 yX4_saves yX4_saves, Cond.code yX4_saves cX4_saves 2 none, Cond.fieldLink RX4 33 "RoofDrainsModel" "savedMany" "I", Cond.fieldLink RX4 16 "RoofDrainsModel" "saved" "[I", Cond.methodLink RX4 86 yX4_week, Cond.instanceMethod yX4_week, Cond.selects RX4 yX4_week yX4_week, Cond.code yX4_week cX4_week 3 none, Cond.methodLink RX4 36 yX4_of, Cond.instanceMethod yX4_of]
def wsX4_play_r3 : List Cond := [Cond.selects RX4 yX4_of yX4_of, Cond.code yX4_of cX4_of 3 (some .int), Cond.methodLink RX4 83 yX4_rains, Cond.instanceMethod yX4_rains, Cond.selects RX4 yX4_rains yX4_rains, Cond.code yX4_rains cX4_rains 5 (some .int), Cond.methodLink RX4 66 yX4_minute, Cond.instanceMethod yX4_minute, Cond.selects RX4 yX4_minute yX4_minute, Cond.code yX4_minute cX4_minute 3 none, Cond.methodLink RX4 54 yX4_sends, Cond.instanceMethod yX4_sends, Cond.selects RX4 yX4_sends yX4_sends, Cond.code yX4_sends cX4_sends 6 none, Cond.methodLink RX4 40 yX4_ofPlane, Cond.instanceMethod yX4_ofPlane, Cond.selects RX4 yX4_ofPlane yX4_ofPlane, Cond.code yX4_ofPlane cX4_ofPlane 3 (some .int), Cond.methodLink RX4 43 yX4_adds, Cond.instanceMethod yX4_adds, Cond.selects RX4 yX4_adds yX4_adds, Cond.code yX4_adds cX4_adds 4 none, Cond.methodLink RX4 58 yX4_drains, Cond.instanceMethod yX4_drains]
def wsX4_play_r4 : List Cond := [Cond.selects RX4 yX4_drains yX4_drains, Cond.code yX4_drains cX4_drains 6 (some .boolean), Cond.methodLink RX4 47 yX4_takes, Cond.instanceMethod yX4_takes, Cond.selects RX4 yX4_takes yX4_takes, Cond.code yX4_takes cX4_takes 3 (some .int), Cond.methodLink RX4 62 yX4_flowsOver, Cond.instanceMethod yX4_flowsOver, Cond.selects RX4 yX4_flowsOver yX4_flowsOver, Cond.code yX4_flowsOver cX4_flowsOver 3 none, Cond.methodLink RX4 51 yX4_room, Cond.instanceMethod yX4_room, Cond.selects RX4 yX4_room yX4_room, Cond.code yX4_room cX4_room 2 (some .int)]
def wsX4_play : List Cond := .code yX4_play cX4_play 3 (some .int) :: ((wsX4_play_r1 ++ (wsX4_play_r2 ++ (wsX4_play_r3 ++ wsX4_play_r4))) ++ wsX40)
def wsX4_undo : List Cond := .code yX4_undo cX4_undo 2 (some .int) :: ([.fieldLink RX4 25 "RoofDrainsModel" "thrown" "I", .fieldLink RX4 33 "RoofDrainsModel" "savedMany" "I", .fieldLink RX4 7 "RoofDrainsModel" "s" "[I", .fieldLink RX4 16 "RoofDrainsModel" "saved" "[I", .methodLink RX4 73 yX4_fails, .instanceMethod yX4_fails, .selects RX4 yX4_fails yX4_fails, .initialized RX4, .code yX4_fails cX4_fails 2 (some .int)] ++ wsX40)
def wsX4_planeOf : List Cond := .code yX4_planeOf cX4_planeOf 3 (some .int) :: ([.fieldLink RX4 25 "RoofDrainsModel" "thrown" "I", .methodLink RX4 69 yX4_isOne, .static yX4_isOne, .initialized RX4, .code yX4_isOne cX4_isOne 1 (some .boolean), .methodLink RX4 29 yX4_in, .static yX4_in, .code yX4_in cX4_in 3 (some .boolean), .methodLink RX4 73 yX4_fails, .instanceMethod yX4_fails, .selects RX4 yX4_fails yX4_fails, .code yX4_fails cX4_fails 2 (some .int), .methodLink RX4 40 yX4_ofPlane, .instanceMethod yX4_ofPlane, .selects RX4 yX4_ofPlane yX4_ofPlane, .code yX4_ofPlane cX4_ofPlane 3 (some .int), .fieldLink RX4 7 "RoofDrainsModel" "s" "[I"] ++ wsX40)
def wsX4_tellsGutter : List Cond := .code yX4_tellsGutter cX4_tellsGutter 3 (some .int) :: ([.methodLink RX4 36 yX4_of, .instanceMethod yX4_of, .selects RX4 yX4_of yX4_of, .initialized RX4, .code yX4_of cX4_of 3 (some .int), .fieldLink RX4 7 "RoofDrainsModel" "s" "[I", .methodLink RX4 51 yX4_room, .instanceMethod yX4_room, .selects RX4 yX4_room yX4_room, .code yX4_room cX4_room 2 (some .int), .methodLink RX4 47 yX4_takes, .instanceMethod yX4_takes, .selects RX4 yX4_takes yX4_takes, .code yX4_takes cX4_takes 3 (some .int)] ++ wsX40)
def wsX4_gutterOf_r1 : List Cond := [Cond.fieldLink RX4 25 "RoofDrainsModel" "thrown" "I", Cond.methodLink RX4 69 yX4_isOne, Cond.static yX4_isOne, Cond.initialized RX4, Cond.code yX4_isOne cX4_isOne 1 (some .boolean), Cond.methodLink RX4 29 yX4_in, Cond.static yX4_in, Cond.code yX4_in cX4_in 3 (some .boolean), Cond.methodLink RX4 73 yX4_fails, Cond.instanceMethod yX4_fails, Cond.selects RX4 yX4_fails yX4_fails, Cond.code yX4_fails cX4_fails 2 (some .int), Cond.methodLink RX4 121 yX4_tellsGutter, Cond.instanceMethod yX4_tellsGutter, Cond.selects RX4 yX4_tellsGutter yX4_tellsGutter, Cond.code yX4_tellsGutter cX4_tellsGutter 3 (some .int), Cond.methodLink RX4 36 yX4_of, Cond.instanceMethod yX4_of, Cond.selects RX4 yX4_of yX4_of, Cond.code yX4_of cX4_of 3 (some .int), Cond.fieldLink RX4 7 "RoofDrainsModel" "s" "[I", Cond.methodLink RX4 51 yX4_room, Cond.instanceMethod yX4_room, Cond.selects RX4 yX4_room yX4_room]
def wsX4_gutterOf_r2 : List Cond := [Cond.code yX4_room cX4_room 2 (some .int), Cond.methodLink RX4 47 yX4_takes, Cond.instanceMethod yX4_takes, Cond.selects RX4 yX4_takes yX4_takes, Cond.code yX4_takes cX4_takes 3 (some .int)]
def wsX4_gutterOf : List Cond := .code yX4_gutterOf cX4_gutterOf 3 (some .int) :: ((wsX4_gutterOf_r1 ++ wsX4_gutterOf_r2) ++ wsX40)
def wsX4_counts : List Cond := .code yX4_counts cX4_counts 2 (some .int) :: ([.fieldLink RX4 33 "RoofDrainsModel" "savedMany" "I", .fieldLink RX4 7 "RoofDrainsModel" "s" "[I", .methodLink RX4 124 yX4_stands, .instanceMethod yX4_stands, .selects RX4 yX4_stands yX4_stands, .initialized RX4, .code yX4_stands cX4_stands 3 (some .int), .methodLink RX4 40 yX4_ofPlane, .instanceMethod yX4_ofPlane, .selects RX4 yX4_ofPlane yX4_ofPlane, .code yX4_ofPlane cX4_ofPlane 3 (some .int), .methodLink RX4 36 yX4_of, .instanceMethod yX4_of, .selects RX4 yX4_of yX4_of, .code yX4_of cX4_of 3 (some .int), .methodLink RX4 89 yX4_leaves, .instanceMethod yX4_leaves, .selects RX4 yX4_leaves yX4_leaves, .code yX4_leaves cX4_leaves 3 (some .int)] ++ wsX40)
def wsX4_count_r1 : List Cond := [Cond.fieldLink RX4 25 "RoofDrainsModel" "thrown" "I", Cond.methodLink RX4 29 yX4_in, Cond.static yX4_in, Cond.initialized RX4, Cond.code yX4_in cX4_in 3 (some .boolean), Cond.methodLink RX4 127 yX4_counts, Cond.instanceMethod yX4_counts, Cond.selects RX4 yX4_counts yX4_counts, Cond.code yX4_counts cX4_counts 2 (some .int), Cond.fieldLink RX4 33 "RoofDrainsModel" "savedMany" "I", Cond.fieldLink RX4 7 "RoofDrainsModel" "s" "[I", Cond.methodLink RX4 124 yX4_stands, Cond.instanceMethod yX4_stands, Cond.selects RX4 yX4_stands yX4_stands, Cond.code yX4_stands cX4_stands 3 (some .int), Cond.methodLink RX4 40 yX4_ofPlane, Cond.instanceMethod yX4_ofPlane, Cond.selects RX4 yX4_ofPlane yX4_ofPlane, Cond.code yX4_ofPlane cX4_ofPlane 3 (some .int), Cond.methodLink RX4 36 yX4_of, Cond.instanceMethod yX4_of, Cond.selects RX4 yX4_of yX4_of, Cond.code yX4_of cX4_of 3 (some .int), Cond.methodLink RX4 89 yX4_leaves]
def wsX4_count_r2 : List Cond := [Cond.instanceMethod yX4_leaves, Cond.selects RX4 yX4_leaves yX4_leaves, Cond.code yX4_leaves cX4_leaves 3 (some .int), Cond.methodLink RX4 73 yX4_fails, Cond.instanceMethod yX4_fails, Cond.selects RX4 yX4_fails yX4_fails, Cond.code yX4_fails cX4_fails 2 (some .int)]
def wsX4_count : List Cond := .code yX4_count cX4_count 2 (some .int) :: ((wsX4_count_r1 ++ wsX4_count_r2) ++ wsX40)
def wsX4_setting : List Cond := .code yX4_setting cX4_setting 2 (some .int) :: ([.fieldLink RX4 25 "RoofDrainsModel" "thrown" "I", .fieldLink RX4 7 "RoofDrainsModel" "s" "[I", .methodLink RX4 29 yX4_in, .static yX4_in, .initialized RX4, .code yX4_in cX4_in 3 (some .boolean), .methodLink RX4 73 yX4_fails, .instanceMethod yX4_fails, .selects RX4 yX4_fails yX4_fails, .code yX4_fails cX4_fails 2 (some .int)] ++ wsX40)
def wsX4_would_r1 : List Cond := [Cond.fieldLink RX4 7 "RoofDrainsModel" "s" "[I", Cond.fieldLink RX4 13 "RoofDrainsModel" "aside" "[I", Cond.methodLink RX4 130 yX4_putAside, Cond.instanceMethod yX4_putAside, Cond.selects RX4 yX4_putAside yX4_putAside, Cond.initialized RX4, Cond.code yX4_putAside cX4_putAside 2 none, Cond.methodLink RX4 83 yX4_rains, Cond.instanceMethod yX4_rains, Cond.selects RX4 yX4_rains yX4_rains, Cond.code yX4_rains cX4_rains 5 (some .int), Cond.methodLink RX4 66 yX4_minute, Cond.instanceMethod yX4_minute, Cond.selects RX4 yX4_minute yX4_minute, Cond.code yX4_minute cX4_minute 3 none, Cond.methodLink RX4 54 yX4_sends, Cond.instanceMethod yX4_sends, Cond.selects RX4 yX4_sends yX4_sends, Cond.code yX4_sends cX4_sends 6 none, Cond.methodLink RX4 40 yX4_ofPlane, Cond.instanceMethod yX4_ofPlane, Cond.selects RX4 yX4_ofPlane yX4_ofPlane, Cond.code yX4_ofPlane cX4_ofPlane 3 (some .int), Cond.methodLink RX4 43 yX4_adds]
def wsX4_would_r2 : List Cond := [Cond.instanceMethod yX4_adds, Cond.selects RX4 yX4_adds yX4_adds, Cond.code yX4_adds cX4_adds 4 none, Cond.methodLink RX4 58 yX4_drains, Cond.instanceMethod yX4_drains, Cond.selects RX4 yX4_drains yX4_drains, Cond.code yX4_drains cX4_drains 6 (some .boolean), Cond.methodLink RX4 47 yX4_takes, Cond.instanceMethod yX4_takes, Cond.selects RX4 yX4_takes yX4_takes, Cond.code yX4_takes cX4_takes 3 (some .int), Cond.methodLink RX4 36 yX4_of, Cond.instanceMethod yX4_of, Cond.selects RX4 yX4_of yX4_of, Cond.code yX4_of cX4_of 3 (some .int), Cond.methodLink RX4 62 yX4_flowsOver, Cond.instanceMethod yX4_flowsOver, Cond.selects RX4 yX4_flowsOver yX4_flowsOver, Cond.code yX4_flowsOver cX4_flowsOver 3 none, Cond.methodLink RX4 51 yX4_room, Cond.instanceMethod yX4_room, Cond.selects RX4 yX4_room yX4_room, Cond.code yX4_room cX4_room 2 (some .int), Cond.methodLink RX4 124 yX4_stands]
def wsX4_would_r3 : List Cond := [Cond.instanceMethod yX4_stands, Cond.selects RX4 yX4_stands yX4_stands, Cond.code yX4_stands cX4_stands 3 (some .int), Cond.methodLink RX4 133 yX4_takeBack, Cond.instanceMethod yX4_takeBack, Cond.selects RX4 yX4_takeBack yX4_takeBack, Cond.code yX4_takeBack cX4_takeBack 2 none]
def wsX4_would : List Cond := .code yX4_would cX4_would 6 (some .int) :: ((wsX4_would_r1 ++ (wsX4_would_r2 ++ wsX4_would_r3)) ++ wsX40)
def wsX4_ifRained_r1 : List Cond := [Cond.fieldLink RX4 25 "RoofDrainsModel" "thrown" "I", Cond.methodLink RX4 29 yX4_in, Cond.static yX4_in, Cond.initialized RX4, Cond.code yX4_in cX4_in 3 (some .boolean), Cond.methodLink RX4 136 yX4_would, Cond.instanceMethod yX4_would, Cond.selects RX4 yX4_would yX4_would, Cond.code yX4_would cX4_would 6 (some .int), Cond.fieldLink RX4 7 "RoofDrainsModel" "s" "[I", Cond.fieldLink RX4 13 "RoofDrainsModel" "aside" "[I", Cond.methodLink RX4 130 yX4_putAside, Cond.instanceMethod yX4_putAside, Cond.selects RX4 yX4_putAside yX4_putAside, Cond.code yX4_putAside cX4_putAside 2 none, Cond.methodLink RX4 83 yX4_rains, Cond.instanceMethod yX4_rains, Cond.selects RX4 yX4_rains yX4_rains, Cond.code yX4_rains cX4_rains 5 (some .int), Cond.methodLink RX4 66 yX4_minute, Cond.instanceMethod yX4_minute, Cond.selects RX4 yX4_minute yX4_minute, Cond.code yX4_minute cX4_minute 3 none, Cond.methodLink RX4 54 yX4_sends]
def wsX4_ifRained_r2 : List Cond := [Cond.instanceMethod yX4_sends, Cond.selects RX4 yX4_sends yX4_sends, Cond.code yX4_sends cX4_sends 6 none, Cond.methodLink RX4 40 yX4_ofPlane, Cond.instanceMethod yX4_ofPlane, Cond.selects RX4 yX4_ofPlane yX4_ofPlane, Cond.code yX4_ofPlane cX4_ofPlane 3 (some .int), Cond.methodLink RX4 43 yX4_adds, Cond.instanceMethod yX4_adds, Cond.selects RX4 yX4_adds yX4_adds, Cond.code yX4_adds cX4_adds 4 none, Cond.methodLink RX4 58 yX4_drains, Cond.instanceMethod yX4_drains, Cond.selects RX4 yX4_drains yX4_drains, Cond.code yX4_drains cX4_drains 6 (some .boolean), Cond.methodLink RX4 47 yX4_takes, Cond.instanceMethod yX4_takes, Cond.selects RX4 yX4_takes yX4_takes, Cond.code yX4_takes cX4_takes 3 (some .int), Cond.methodLink RX4 36 yX4_of, Cond.instanceMethod yX4_of, Cond.selects RX4 yX4_of yX4_of, Cond.code yX4_of cX4_of 3 (some .int), Cond.methodLink RX4 62 yX4_flowsOver]
def wsX4_ifRained_r3 : List Cond := [Cond.instanceMethod yX4_flowsOver, Cond.selects RX4 yX4_flowsOver yX4_flowsOver, Cond.code yX4_flowsOver cX4_flowsOver 3 none, Cond.methodLink RX4 51 yX4_room, Cond.instanceMethod yX4_room, Cond.selects RX4 yX4_room yX4_room, Cond.code yX4_room cX4_room 2 (some .int), Cond.methodLink RX4 124 yX4_stands, Cond.instanceMethod yX4_stands, Cond.selects RX4 yX4_stands yX4_stands, Cond.code yX4_stands cX4_stands 3 (some .int), Cond.methodLink RX4 133 yX4_takeBack, Cond.instanceMethod yX4_takeBack, Cond.selects RX4 yX4_takeBack yX4_takeBack, Cond.code yX4_takeBack cX4_takeBack 2 none, Cond.methodLink RX4 73 yX4_fails, Cond.instanceMethod yX4_fails, Cond.selects RX4 yX4_fails yX4_fails, Cond.code yX4_fails cX4_fails 2 (some .int)]
def wsX4_ifRained : List Cond := .code yX4_ifRained cX4_ifRained 3 (some .int) :: ((wsX4_ifRained_r1 ++ (wsX4_ifRained_r2 ++ wsX4_ifRained_r3)) ++ wsX40)
def wsX4_firstSpill_r1 : List Cond := [Cond.fieldLink RX4 7 "RoofDrainsModel" "s" "[I", Cond.fieldLink RX4 13 "RoofDrainsModel" "aside" "[I", Cond.methodLink RX4 130 yX4_putAside, Cond.instanceMethod yX4_putAside, Cond.selects RX4 yX4_putAside yX4_putAside, Cond.initialized RX4, Cond.code yX4_putAside cX4_putAside 2 none, Cond.methodLink RX4 66 yX4_minute, Cond.instanceMethod yX4_minute, Cond.selects RX4 yX4_minute yX4_minute, Cond.code yX4_minute cX4_minute 3 none, Cond.methodLink RX4 54 yX4_sends, Cond.instanceMethod yX4_sends, Cond.selects RX4 yX4_sends yX4_sends, Cond.code yX4_sends cX4_sends 6 none, Cond.methodLink RX4 40 yX4_ofPlane, Cond.instanceMethod yX4_ofPlane, Cond.selects RX4 yX4_ofPlane yX4_ofPlane, Cond.code yX4_ofPlane cX4_ofPlane 3 (some .int), Cond.methodLink RX4 43 yX4_adds, Cond.instanceMethod yX4_adds, Cond.selects RX4 yX4_adds yX4_adds, Cond.code yX4_adds cX4_adds 4 none, Cond.methodLink RX4 58 yX4_drains]
def wsX4_firstSpill_r2 : List Cond := [Cond.instanceMethod yX4_drains, Cond.selects RX4 yX4_drains yX4_drains, Cond.code yX4_drains cX4_drains 6 (some .boolean), Cond.methodLink RX4 47 yX4_takes, Cond.instanceMethod yX4_takes, Cond.selects RX4 yX4_takes yX4_takes, Cond.code yX4_takes cX4_takes 3 (some .int), Cond.methodLink RX4 36 yX4_of, Cond.instanceMethod yX4_of, Cond.selects RX4 yX4_of yX4_of, Cond.code yX4_of cX4_of 3 (some .int), Cond.methodLink RX4 62 yX4_flowsOver, Cond.instanceMethod yX4_flowsOver, Cond.selects RX4 yX4_flowsOver yX4_flowsOver, Cond.code yX4_flowsOver cX4_flowsOver 3 none, Cond.methodLink RX4 51 yX4_room, Cond.instanceMethod yX4_room, Cond.selects RX4 yX4_room yX4_room, Cond.code yX4_room cX4_room 2 (some .int), Cond.methodLink RX4 133 yX4_takeBack, Cond.instanceMethod yX4_takeBack, Cond.selects RX4 yX4_takeBack yX4_takeBack, Cond.code yX4_takeBack cX4_takeBack 2 none]
def wsX4_firstSpill : List Cond := .code yX4_firstSpill cX4_firstSpill 5 (some .int) :: ((wsX4_firstSpill_r1 ++ wsX4_firstSpill_r2) ++ wsX40)
def wsX4_spillsFirst_r1 : List Cond := [Cond.fieldLink RX4 25 "RoofDrainsModel" "thrown" "I", Cond.methodLink RX4 29 yX4_in, Cond.static yX4_in, Cond.initialized RX4, Cond.code yX4_in cX4_in 3 (some .boolean), Cond.methodLink RX4 139 yX4_firstSpill, Cond.instanceMethod yX4_firstSpill, Cond.selects RX4 yX4_firstSpill yX4_firstSpill, Cond.code yX4_firstSpill cX4_firstSpill 5 (some .int), Cond.fieldLink RX4 7 "RoofDrainsModel" "s" "[I", Cond.fieldLink RX4 13 "RoofDrainsModel" "aside" "[I", Cond.methodLink RX4 130 yX4_putAside, Cond.instanceMethod yX4_putAside, Cond.selects RX4 yX4_putAside yX4_putAside, Cond.code yX4_putAside cX4_putAside 2 none, Cond.methodLink RX4 66 yX4_minute, Cond.instanceMethod yX4_minute, Cond.selects RX4 yX4_minute yX4_minute, Cond.code yX4_minute cX4_minute 3 none, Cond.methodLink RX4 54 yX4_sends, Cond.instanceMethod yX4_sends, Cond.selects RX4 yX4_sends yX4_sends, Cond.code yX4_sends cX4_sends 6 none, Cond.methodLink RX4 40 yX4_ofPlane]
def wsX4_spillsFirst_r2 : List Cond := [Cond.instanceMethod yX4_ofPlane, Cond.selects RX4 yX4_ofPlane yX4_ofPlane, Cond.code yX4_ofPlane cX4_ofPlane 3 (some .int), Cond.methodLink RX4 43 yX4_adds, Cond.instanceMethod yX4_adds, Cond.selects RX4 yX4_adds yX4_adds, Cond.code yX4_adds cX4_adds 4 none, Cond.methodLink RX4 58 yX4_drains, Cond.instanceMethod yX4_drains, Cond.selects RX4 yX4_drains yX4_drains, Cond.code yX4_drains cX4_drains 6 (some .boolean), Cond.methodLink RX4 47 yX4_takes, Cond.instanceMethod yX4_takes, Cond.selects RX4 yX4_takes yX4_takes, Cond.code yX4_takes cX4_takes 3 (some .int), Cond.methodLink RX4 36 yX4_of, Cond.instanceMethod yX4_of, Cond.selects RX4 yX4_of yX4_of, Cond.code yX4_of cX4_of 3 (some .int), Cond.methodLink RX4 62 yX4_flowsOver, Cond.instanceMethod yX4_flowsOver, Cond.selects RX4 yX4_flowsOver yX4_flowsOver, Cond.code yX4_flowsOver cX4_flowsOver 3 none, Cond.methodLink RX4 51 yX4_room]
def wsX4_spillsFirst_r3 : List Cond := [Cond.instanceMethod yX4_room, Cond.selects RX4 yX4_room yX4_room, Cond.code yX4_room cX4_room 2 (some .int), Cond.methodLink RX4 133 yX4_takeBack, Cond.instanceMethod yX4_takeBack, Cond.selects RX4 yX4_takeBack yX4_takeBack, Cond.code yX4_takeBack cX4_takeBack 2 none, Cond.methodLink RX4 73 yX4_fails, Cond.instanceMethod yX4_fails, Cond.selects RX4 yX4_fails yX4_fails, Cond.code yX4_fails cX4_fails 2 (some .int)]
def wsX4_spillsFirst : List Cond := .code yX4_spillsFirst cX4_spillsFirst 2 (some .int) :: ((wsX4_spillsFirst_r1 ++ (wsX4_spillsFirst_r2 ++ wsX4_spillsFirst_r3)) ++ wsX40)
def wsX4_bestOne_r1 : List Cond := [Cond.fieldLink RX4 7 "RoofDrainsModel" "s" "[I", Cond.methodLink RX4 36 yX4_of, Cond.instanceMethod yX4_of, Cond.selects RX4 yX4_of yX4_of, Cond.initialized RX4, Cond.code yX4_of cX4_of 3 (some .int), Cond.methodLink RX4 136 yX4_would, Cond.instanceMethod yX4_would, Cond.selects RX4 yX4_would yX4_would, Cond.code yX4_would cX4_would 6 (some .int), Cond.fieldLink RX4 13 "RoofDrainsModel" "aside" "[I", Cond.methodLink RX4 130 yX4_putAside, Cond.instanceMethod yX4_putAside, Cond.selects RX4 yX4_putAside yX4_putAside, Cond.code yX4_putAside cX4_putAside 2 none, Cond.methodLink RX4 83 yX4_rains, Cond.instanceMethod yX4_rains, Cond.selects RX4 yX4_rains yX4_rains, Cond.code yX4_rains cX4_rains 5 (some .int), Cond.methodLink RX4 66 yX4_minute, Cond.instanceMethod yX4_minute, Cond.selects RX4 yX4_minute yX4_minute, Cond.code yX4_minute cX4_minute 3 none, Cond.methodLink RX4 54 yX4_sends]
def wsX4_bestOne_r2 : List Cond := [Cond.instanceMethod yX4_sends, Cond.selects RX4 yX4_sends yX4_sends, Cond.code yX4_sends cX4_sends 6 none, Cond.methodLink RX4 40 yX4_ofPlane, Cond.instanceMethod yX4_ofPlane, Cond.selects RX4 yX4_ofPlane yX4_ofPlane, Cond.code yX4_ofPlane cX4_ofPlane 3 (some .int), Cond.methodLink RX4 43 yX4_adds, Cond.instanceMethod yX4_adds, Cond.selects RX4 yX4_adds yX4_adds, Cond.code yX4_adds cX4_adds 4 none, Cond.methodLink RX4 58 yX4_drains, Cond.instanceMethod yX4_drains, Cond.selects RX4 yX4_drains yX4_drains, Cond.code yX4_drains cX4_drains 6 (some .boolean), Cond.methodLink RX4 47 yX4_takes, Cond.instanceMethod yX4_takes, Cond.selects RX4 yX4_takes yX4_takes, Cond.code yX4_takes cX4_takes 3 (some .int), Cond.methodLink RX4 62 yX4_flowsOver, Cond.instanceMethod yX4_flowsOver, Cond.selects RX4 yX4_flowsOver yX4_flowsOver, Cond.code yX4_flowsOver cX4_flowsOver 3 none, Cond.methodLink RX4 51 yX4_room]
def wsX4_bestOne_r3 : List Cond := [Cond.instanceMethod yX4_room, Cond.selects RX4 yX4_room yX4_room, Cond.code yX4_room cX4_room 2 (some .int), Cond.methodLink RX4 124 yX4_stands, Cond.instanceMethod yX4_stands, Cond.selects RX4 yX4_stands yX4_stands, Cond.code yX4_stands cX4_stands 3 (some .int), Cond.methodLink RX4 133 yX4_takeBack, Cond.instanceMethod yX4_takeBack, Cond.selects RX4 yX4_takeBack yX4_takeBack, Cond.code yX4_takeBack cX4_takeBack 2 none]
def wsX4_bestOne : List Cond := .code yX4_bestOne cX4_bestOne 7 (some .int) :: ((wsX4_bestOne_r1 ++ (wsX4_bestOne_r2 ++ wsX4_bestOne_r3)) ++ wsX40)
def wsX4_bestClean_r1 : List Cond := [Cond.fieldLink RX4 25 "RoofDrainsModel" "thrown" "I", Cond.methodLink RX4 142 yX4_bestOne, Cond.instanceMethod yX4_bestOne, Cond.selects RX4 yX4_bestOne yX4_bestOne, Cond.initialized RX4, Cond.code yX4_bestOne cX4_bestOne 7 (some .int), Cond.fieldLink RX4 7 "RoofDrainsModel" "s" "[I", Cond.methodLink RX4 36 yX4_of, Cond.instanceMethod yX4_of, Cond.selects RX4 yX4_of yX4_of, Cond.code yX4_of cX4_of 3 (some .int), Cond.methodLink RX4 136 yX4_would, Cond.instanceMethod yX4_would, Cond.selects RX4 yX4_would yX4_would, Cond.code yX4_would cX4_would 6 (some .int), Cond.fieldLink RX4 13 "RoofDrainsModel" "aside" "[I", Cond.methodLink RX4 130 yX4_putAside, Cond.instanceMethod yX4_putAside, Cond.selects RX4 yX4_putAside yX4_putAside, Cond.code yX4_putAside cX4_putAside 2 none, Cond.methodLink RX4 83 yX4_rains, Cond.instanceMethod yX4_rains, Cond.selects RX4 yX4_rains yX4_rains, Cond.code yX4_rains cX4_rains 5 (some .int)]
def wsX4_bestClean_r2 : List Cond := [Cond.methodLink RX4 66 yX4_minute, Cond.instanceMethod yX4_minute, Cond.selects RX4 yX4_minute yX4_minute, Cond.code yX4_minute cX4_minute 3 none, Cond.methodLink RX4 54 yX4_sends, Cond.instanceMethod yX4_sends, Cond.selects RX4 yX4_sends yX4_sends, Cond.code yX4_sends cX4_sends 6 none, Cond.methodLink RX4 40 yX4_ofPlane, Cond.instanceMethod yX4_ofPlane, Cond.selects RX4 yX4_ofPlane yX4_ofPlane, Cond.code yX4_ofPlane cX4_ofPlane 3 (some .int), Cond.methodLink RX4 43 yX4_adds, Cond.instanceMethod yX4_adds, Cond.selects RX4 yX4_adds yX4_adds, Cond.code yX4_adds cX4_adds 4 none, Cond.methodLink RX4 58 yX4_drains, Cond.instanceMethod yX4_drains, Cond.selects RX4 yX4_drains yX4_drains, Cond.code yX4_drains cX4_drains 6 (some .boolean), Cond.methodLink RX4 47 yX4_takes, Cond.instanceMethod yX4_takes, Cond.selects RX4 yX4_takes yX4_takes, Cond.code yX4_takes cX4_takes 3 (some .int)]
def wsX4_bestClean_r3 : List Cond := [Cond.methodLink RX4 62 yX4_flowsOver, Cond.instanceMethod yX4_flowsOver, Cond.selects RX4 yX4_flowsOver yX4_flowsOver, Cond.code yX4_flowsOver cX4_flowsOver 3 none, Cond.methodLink RX4 51 yX4_room, Cond.instanceMethod yX4_room, Cond.selects RX4 yX4_room yX4_room, Cond.code yX4_room cX4_room 2 (some .int), Cond.methodLink RX4 124 yX4_stands, Cond.instanceMethod yX4_stands, Cond.selects RX4 yX4_stands yX4_stands, Cond.code yX4_stands cX4_stands 3 (some .int), Cond.methodLink RX4 133 yX4_takeBack, Cond.instanceMethod yX4_takeBack, Cond.selects RX4 yX4_takeBack yX4_takeBack, Cond.code yX4_takeBack cX4_takeBack 2 none]
def wsX4_bestClean : List Cond := .code yX4_bestClean cX4_bestClean 1 (some .int) :: ((wsX4_bestClean_r1 ++ (wsX4_bestClean_r2 ++ wsX4_bestClean_r3)) ++ wsX40)
def wsX4_greatestRain_r1 : List Cond := [Cond.methodLink RX4 130 yX4_putAside, Cond.instanceMethod yX4_putAside, Cond.selects RX4 yX4_putAside yX4_putAside, Cond.initialized RX4, Cond.code yX4_putAside cX4_putAside 2 none, Cond.fieldLink RX4 13 "RoofDrainsModel" "aside" "[I", Cond.fieldLink RX4 7 "RoofDrainsModel" "s" "[I", Cond.methodLink RX4 83 yX4_rains, Cond.instanceMethod yX4_rains, Cond.selects RX4 yX4_rains yX4_rains, Cond.code yX4_rains cX4_rains 5 (some .int), Cond.methodLink RX4 66 yX4_minute, Cond.instanceMethod yX4_minute, Cond.selects RX4 yX4_minute yX4_minute, Cond.code yX4_minute cX4_minute 3 none, Cond.methodLink RX4 54 yX4_sends, Cond.instanceMethod yX4_sends, Cond.selects RX4 yX4_sends yX4_sends, Cond.code yX4_sends cX4_sends 6 none, Cond.methodLink RX4 40 yX4_ofPlane, Cond.instanceMethod yX4_ofPlane, Cond.selects RX4 yX4_ofPlane yX4_ofPlane, Cond.code yX4_ofPlane cX4_ofPlane 3 (some .int), Cond.methodLink RX4 43 yX4_adds]
def wsX4_greatestRain_r2 : List Cond := [Cond.instanceMethod yX4_adds, Cond.selects RX4 yX4_adds yX4_adds, Cond.code yX4_adds cX4_adds 4 none, Cond.methodLink RX4 58 yX4_drains, Cond.instanceMethod yX4_drains, Cond.selects RX4 yX4_drains yX4_drains, Cond.code yX4_drains cX4_drains 6 (some .boolean), Cond.methodLink RX4 47 yX4_takes, Cond.instanceMethod yX4_takes, Cond.selects RX4 yX4_takes yX4_takes, Cond.code yX4_takes cX4_takes 3 (some .int), Cond.methodLink RX4 36 yX4_of, Cond.instanceMethod yX4_of, Cond.selects RX4 yX4_of yX4_of, Cond.code yX4_of cX4_of 3 (some .int), Cond.methodLink RX4 62 yX4_flowsOver, Cond.instanceMethod yX4_flowsOver, Cond.selects RX4 yX4_flowsOver yX4_flowsOver, Cond.code yX4_flowsOver cX4_flowsOver 3 none, Cond.methodLink RX4 51 yX4_room, Cond.instanceMethod yX4_room, Cond.selects RX4 yX4_room yX4_room, Cond.code yX4_room cX4_room 2 (some .int), Cond.methodLink RX4 133 yX4_takeBack]
def wsX4_greatestRain_r3 : List Cond := [Cond.instanceMethod yX4_takeBack, Cond.selects RX4 yX4_takeBack yX4_takeBack, Cond.code yX4_takeBack cX4_takeBack 2 none]
def wsX4_greatestRain : List Cond := .code yX4_greatestRain cX4_greatestRain 4 (some .int) :: ((wsX4_greatestRain_r1 ++ (wsX4_greatestRain_r2 ++ wsX4_greatestRain_r3)) ++ wsX40)
def wsX4_mostRain_r1 : List Cond := [Cond.fieldLink RX4 25 "RoofDrainsModel" "thrown" "I", Cond.methodLink RX4 29 yX4_in, Cond.static yX4_in, Cond.initialized RX4, Cond.code yX4_in cX4_in 3 (some .boolean), Cond.methodLink RX4 145 yX4_greatestRain, Cond.instanceMethod yX4_greatestRain, Cond.selects RX4 yX4_greatestRain yX4_greatestRain, Cond.code yX4_greatestRain cX4_greatestRain 4 (some .int), Cond.methodLink RX4 130 yX4_putAside, Cond.instanceMethod yX4_putAside, Cond.selects RX4 yX4_putAside yX4_putAside, Cond.code yX4_putAside cX4_putAside 2 none, Cond.fieldLink RX4 13 "RoofDrainsModel" "aside" "[I", Cond.fieldLink RX4 7 "RoofDrainsModel" "s" "[I", Cond.methodLink RX4 83 yX4_rains, Cond.instanceMethod yX4_rains, Cond.selects RX4 yX4_rains yX4_rains, Cond.code yX4_rains cX4_rains 5 (some .int), Cond.methodLink RX4 66 yX4_minute, Cond.instanceMethod yX4_minute, Cond.selects RX4 yX4_minute yX4_minute, Cond.code yX4_minute cX4_minute 3 none, Cond.methodLink RX4 54 yX4_sends]
def wsX4_mostRain_r2 : List Cond := [Cond.instanceMethod yX4_sends, Cond.selects RX4 yX4_sends yX4_sends, Cond.code yX4_sends cX4_sends 6 none, Cond.methodLink RX4 40 yX4_ofPlane, Cond.instanceMethod yX4_ofPlane, Cond.selects RX4 yX4_ofPlane yX4_ofPlane, Cond.code yX4_ofPlane cX4_ofPlane 3 (some .int), Cond.methodLink RX4 43 yX4_adds, Cond.instanceMethod yX4_adds, Cond.selects RX4 yX4_adds yX4_adds, Cond.code yX4_adds cX4_adds 4 none, Cond.methodLink RX4 58 yX4_drains, Cond.instanceMethod yX4_drains, Cond.selects RX4 yX4_drains yX4_drains, Cond.code yX4_drains cX4_drains 6 (some .boolean), Cond.methodLink RX4 47 yX4_takes, Cond.instanceMethod yX4_takes, Cond.selects RX4 yX4_takes yX4_takes, Cond.code yX4_takes cX4_takes 3 (some .int), Cond.methodLink RX4 36 yX4_of, Cond.instanceMethod yX4_of, Cond.selects RX4 yX4_of yX4_of, Cond.code yX4_of cX4_of 3 (some .int), Cond.methodLink RX4 62 yX4_flowsOver]
def wsX4_mostRain_r3 : List Cond := [Cond.instanceMethod yX4_flowsOver, Cond.selects RX4 yX4_flowsOver yX4_flowsOver, Cond.code yX4_flowsOver cX4_flowsOver 3 none, Cond.methodLink RX4 51 yX4_room, Cond.instanceMethod yX4_room, Cond.selects RX4 yX4_room yX4_room, Cond.code yX4_room cX4_room 2 (some .int), Cond.methodLink RX4 133 yX4_takeBack, Cond.instanceMethod yX4_takeBack, Cond.selects RX4 yX4_takeBack yX4_takeBack, Cond.code yX4_takeBack cX4_takeBack 2 none, Cond.methodLink RX4 73 yX4_fails, Cond.instanceMethod yX4_fails, Cond.selects RX4 yX4_fails yX4_fails, Cond.code yX4_fails cX4_fails 2 (some .int)]
def wsX4_mostRain : List Cond := .code yX4_mostRain cX4_mostRain 2 (some .int) :: ((wsX4_mostRain_r1 ++ (wsX4_mostRain_r2 ++ wsX4_mostRain_r3)) ++ wsX40)
def wsX4_untilDry_r1 : List Cond := [Cond.methodLink RX4 130 yX4_putAside, Cond.instanceMethod yX4_putAside, Cond.selects RX4 yX4_putAside yX4_putAside, Cond.initialized RX4, Cond.code yX4_putAside cX4_putAside 2 none, Cond.fieldLink RX4 13 "RoofDrainsModel" "aside" "[I", Cond.fieldLink RX4 7 "RoofDrainsModel" "s" "[I", Cond.methodLink RX4 124 yX4_stands, Cond.instanceMethod yX4_stands, Cond.selects RX4 yX4_stands yX4_stands, Cond.code yX4_stands cX4_stands 3 (some .int), Cond.methodLink RX4 40 yX4_ofPlane, Cond.instanceMethod yX4_ofPlane, Cond.selects RX4 yX4_ofPlane yX4_ofPlane, Cond.code yX4_ofPlane cX4_ofPlane 3 (some .int), Cond.methodLink RX4 36 yX4_of, Cond.instanceMethod yX4_of, Cond.selects RX4 yX4_of yX4_of, Cond.code yX4_of cX4_of 3 (some .int), Cond.methodLink RX4 66 yX4_minute, Cond.instanceMethod yX4_minute, Cond.selects RX4 yX4_minute yX4_minute, Cond.code yX4_minute cX4_minute 3 none, Cond.methodLink RX4 54 yX4_sends]
def wsX4_untilDry_r2 : List Cond := [Cond.instanceMethod yX4_sends, Cond.selects RX4 yX4_sends yX4_sends, Cond.code yX4_sends cX4_sends 6 none, Cond.methodLink RX4 43 yX4_adds, Cond.instanceMethod yX4_adds, Cond.selects RX4 yX4_adds yX4_adds, Cond.code yX4_adds cX4_adds 4 none, Cond.methodLink RX4 58 yX4_drains, Cond.instanceMethod yX4_drains, Cond.selects RX4 yX4_drains yX4_drains, Cond.code yX4_drains cX4_drains 6 (some .boolean), Cond.methodLink RX4 47 yX4_takes, Cond.instanceMethod yX4_takes, Cond.selects RX4 yX4_takes yX4_takes, Cond.code yX4_takes cX4_takes 3 (some .int), Cond.methodLink RX4 62 yX4_flowsOver, Cond.instanceMethod yX4_flowsOver, Cond.selects RX4 yX4_flowsOver yX4_flowsOver, Cond.code yX4_flowsOver cX4_flowsOver 3 none, Cond.methodLink RX4 51 yX4_room, Cond.instanceMethod yX4_room, Cond.selects RX4 yX4_room yX4_room, Cond.code yX4_room cX4_room 2 (some .int), Cond.methodLink RX4 133 yX4_takeBack]
def wsX4_untilDry_r3 : List Cond := [Cond.instanceMethod yX4_takeBack, Cond.selects RX4 yX4_takeBack yX4_takeBack, Cond.code yX4_takeBack cX4_takeBack 2 none]
def wsX4_untilDry : List Cond := .code yX4_untilDry cX4_untilDry 2 (some .int) :: ((wsX4_untilDry_r1 ++ (wsX4_untilDry_r2 ++ wsX4_untilDry_r3)) ++ wsX40)
def wsX4_dryIn_r1 : List Cond := [Cond.fieldLink RX4 25 "RoofDrainsModel" "thrown" "I", Cond.methodLink RX4 148 yX4_untilDry, Cond.instanceMethod yX4_untilDry, Cond.selects RX4 yX4_untilDry yX4_untilDry, Cond.initialized RX4, Cond.code yX4_untilDry cX4_untilDry 2 (some .int), Cond.methodLink RX4 130 yX4_putAside, Cond.instanceMethod yX4_putAside, Cond.selects RX4 yX4_putAside yX4_putAside, Cond.code yX4_putAside cX4_putAside 2 none, Cond.fieldLink RX4 13 "RoofDrainsModel" "aside" "[I", Cond.fieldLink RX4 7 "RoofDrainsModel" "s" "[I", Cond.methodLink RX4 124 yX4_stands, Cond.instanceMethod yX4_stands, Cond.selects RX4 yX4_stands yX4_stands, Cond.code yX4_stands cX4_stands 3 (some .int), Cond.methodLink RX4 40 yX4_ofPlane, Cond.instanceMethod yX4_ofPlane, Cond.selects RX4 yX4_ofPlane yX4_ofPlane, Cond.code yX4_ofPlane cX4_ofPlane 3 (some .int), Cond.methodLink RX4 36 yX4_of, Cond.instanceMethod yX4_of, Cond.selects RX4 yX4_of yX4_of, Cond.code yX4_of cX4_of 3 (some .int)]
def wsX4_dryIn_r2 : List Cond := [Cond.methodLink RX4 66 yX4_minute, Cond.instanceMethod yX4_minute, Cond.selects RX4 yX4_minute yX4_minute, Cond.code yX4_minute cX4_minute 3 none, Cond.methodLink RX4 54 yX4_sends, Cond.instanceMethod yX4_sends, Cond.selects RX4 yX4_sends yX4_sends, Cond.code yX4_sends cX4_sends 6 none, Cond.methodLink RX4 43 yX4_adds, Cond.instanceMethod yX4_adds, Cond.selects RX4 yX4_adds yX4_adds, Cond.code yX4_adds cX4_adds 4 none, Cond.methodLink RX4 58 yX4_drains, Cond.instanceMethod yX4_drains, Cond.selects RX4 yX4_drains yX4_drains, Cond.code yX4_drains cX4_drains 6 (some .boolean), Cond.methodLink RX4 47 yX4_takes, Cond.instanceMethod yX4_takes, Cond.selects RX4 yX4_takes yX4_takes, Cond.code yX4_takes cX4_takes 3 (some .int), Cond.methodLink RX4 62 yX4_flowsOver, Cond.instanceMethod yX4_flowsOver, Cond.selects RX4 yX4_flowsOver yX4_flowsOver, Cond.code yX4_flowsOver cX4_flowsOver 3 none]
def wsX4_dryIn_r3 : List Cond := [Cond.methodLink RX4 51 yX4_room, Cond.instanceMethod yX4_room, Cond.selects RX4 yX4_room yX4_room, Cond.code yX4_room cX4_room 2 (some .int), Cond.methodLink RX4 133 yX4_takeBack, Cond.instanceMethod yX4_takeBack, Cond.selects RX4 yX4_takeBack yX4_takeBack, Cond.code yX4_takeBack cX4_takeBack 2 none]
def wsX4_dryIn : List Cond := .code yX4_dryIn cX4_dryIn 1 (some .int) :: ((wsX4_dryIn_r1 ++ (wsX4_dryIn_r2 ++ wsX4_dryIn_r3)) ++ wsX40)
def wsX4_share : List Cond := .code yX4_share cX4_share 1 (some .double) :: ([.fieldLink RX4 7 "RoofDrainsModel" "s" "[I"] ++ wsX40)
def wsX4_drainedShare : List Cond := .code yX4_drainedShare cX4_drainedShare 1 (some .double) :: ([.fieldLink RX4 25 "RoofDrainsModel" "thrown" "I", .methodLink RX4 151 yX4_share, .instanceMethod yX4_share, .selects RX4 yX4_share yX4_share, .initialized RX4, .code yX4_share cX4_share 1 (some .double), .fieldLink RX4 7 "RoofDrainsModel" "s" "[I"] ++ wsX40)
def wsX4_hashes : List Cond := .code yX4_hashes cX4_hashes 3 none :: ([.constantLong RX4 155 (31), .fieldLink RX4 157 "RoofDrainsModel" "hash" "J"] ++ wsX40)
def wsJxe99ae_isNaN_b9ae7 : List Cond := .code yJxe99ae_isNaN_b9ae7 cJxe99ae_isNaN_b9ae7 2 (some .boolean) :: ([])
def wsJxe99ae_doubleToLongBits_ccdee : List Cond := .code yJxe99ae_doubleToLongBits_ccdee cJxe99ae_doubleToLongBits_ccdee 2 (some .long) :: ([.methodLink RJxe99ae 134 ⟨"java/lang/Double", "doubleToRawLongBits", "(D)J"⟩, .native ⟨"java/lang/Double", "doubleToRawLongBits", "(D)J"⟩, .static ⟨"java/lang/Double", "doubleToRawLongBits", "(D)J"⟩, .initialized "java/lang/Double", .constantLong RJxe99ae 137 (9221120237041090560), .methodLink RJxe99ae 122 yJxe99ae_isNaN_b9ae7, .static yJxe99ae_isNaN_b9ae7, .initialized RJxe99ae, .code yJxe99ae_isNaN_b9ae7 cJxe99ae_isNaN_b9ae7 2 (some .boolean)])
def wsX4_digest_r1 : List Cond := [Cond.fieldLink RX4 25 "RoofDrainsModel" "thrown" "I", Cond.constantLong RX4 161 (3067), Cond.fieldLink RX4 157 "RoofDrainsModel" "hash" "J", Cond.fieldLink RX4 7 "RoofDrainsModel" "s" "[I", Cond.fieldLink RX4 93 "RoofDrainsModel" "length" "I", Cond.fieldLink RX4 19 "RoofDrainsModel" "buffer" "[I", Cond.methodLink RX4 127 yX4_counts, Cond.instanceMethod yX4_counts, Cond.selects RX4 yX4_counts yX4_counts, Cond.initialized RX4, Cond.code yX4_counts cX4_counts 2 (some .int), Cond.fieldLink RX4 33 "RoofDrainsModel" "savedMany" "I", Cond.methodLink RX4 124 yX4_stands, Cond.instanceMethod yX4_stands, Cond.selects RX4 yX4_stands yX4_stands, Cond.code yX4_stands cX4_stands 3 (some .int), Cond.methodLink RX4 40 yX4_ofPlane, Cond.instanceMethod yX4_ofPlane, Cond.selects RX4 yX4_ofPlane yX4_ofPlane, Cond.code yX4_ofPlane cX4_ofPlane 3 (some .int), Cond.methodLink RX4 36 yX4_of, Cond.instanceMethod yX4_of, Cond.selects RX4 yX4_of yX4_of, Cond.code yX4_of cX4_of 3 (some .int)]
def wsX4_digest_r2 : List Cond := [Cond.methodLink RX4 89 yX4_leaves, Cond.instanceMethod yX4_leaves, Cond.selects RX4 yX4_leaves yX4_leaves, Cond.code yX4_leaves cX4_leaves 3 (some .int), Cond.methodLink RX4 163 yX4_hashes, Cond.instanceMethod yX4_hashes, Cond.selects RX4 yX4_hashes yX4_hashes, Cond.code yX4_hashes cX4_hashes 3 none, Cond.constantLong RX4 155 (31), Cond.methodLink RX4 121 yX4_tellsGutter, Cond.instanceMethod yX4_tellsGutter, Cond.selects RX4 yX4_tellsGutter yX4_tellsGutter, Cond.code yX4_tellsGutter cX4_tellsGutter 3 (some .int), Cond.methodLink RX4 51 yX4_room, Cond.instanceMethod yX4_room, Cond.selects RX4 yX4_room yX4_room, Cond.code yX4_room cX4_room 2 (some .int), Cond.methodLink RX4 47 yX4_takes, Cond.instanceMethod yX4_takes, Cond.selects RX4 yX4_takes yX4_takes, Cond.code yX4_takes cX4_takes 3 (some .int), Cond.methodLink RX4 136 yX4_would, Cond.instanceMethod yX4_would, Cond.selects RX4 yX4_would yX4_would]
def wsX4_digest_r3 : List Cond := [Cond.code yX4_would cX4_would 6 (some .int), Cond.fieldLink RX4 13 "RoofDrainsModel" "aside" "[I", Cond.methodLink RX4 130 yX4_putAside, Cond.instanceMethod yX4_putAside, Cond.selects RX4 yX4_putAside yX4_putAside, Cond.code yX4_putAside cX4_putAside 2 none, Cond.methodLink RX4 83 yX4_rains, Cond.instanceMethod yX4_rains, Cond.selects RX4 yX4_rains yX4_rains, Cond.code yX4_rains cX4_rains 5 (some .int), Cond.methodLink RX4 66 yX4_minute, Cond.instanceMethod yX4_minute, Cond.selects RX4 yX4_minute yX4_minute, Cond.code yX4_minute cX4_minute 3 none, Cond.methodLink RX4 54 yX4_sends, Cond.instanceMethod yX4_sends, Cond.selects RX4 yX4_sends yX4_sends, Cond.code yX4_sends cX4_sends 6 none, Cond.methodLink RX4 43 yX4_adds, Cond.instanceMethod yX4_adds, Cond.selects RX4 yX4_adds yX4_adds, Cond.code yX4_adds cX4_adds 4 none, Cond.methodLink RX4 58 yX4_drains, Cond.instanceMethod yX4_drains]
def wsX4_digest_r4 : List Cond := [Cond.selects RX4 yX4_drains yX4_drains, Cond.code yX4_drains cX4_drains 6 (some .boolean), Cond.methodLink RX4 62 yX4_flowsOver, Cond.instanceMethod yX4_flowsOver, Cond.selects RX4 yX4_flowsOver yX4_flowsOver, Cond.code yX4_flowsOver cX4_flowsOver 3 none, Cond.methodLink RX4 133 yX4_takeBack, Cond.instanceMethod yX4_takeBack, Cond.selects RX4 yX4_takeBack yX4_takeBack, Cond.code yX4_takeBack cX4_takeBack 2 none, Cond.methodLink RX4 139 yX4_firstSpill, Cond.instanceMethod yX4_firstSpill, Cond.selects RX4 yX4_firstSpill yX4_firstSpill, Cond.code yX4_firstSpill cX4_firstSpill 5 (some .int), Cond.methodLink RX4 142 yX4_bestOne, Cond.instanceMethod yX4_bestOne, Cond.selects RX4 yX4_bestOne yX4_bestOne, Cond.code yX4_bestOne cX4_bestOne 7 (some .int), Cond.methodLink RX4 145 yX4_greatestRain, Cond.instanceMethod yX4_greatestRain, Cond.selects RX4 yX4_greatestRain yX4_greatestRain, Cond.code yX4_greatestRain cX4_greatestRain 4 (some .int), Cond.methodLink RX4 148 yX4_untilDry, Cond.instanceMethod yX4_untilDry]
def wsX4_digest_r5 : List Cond := [Cond.selects RX4 yX4_untilDry yX4_untilDry, Cond.code yX4_untilDry cX4_untilDry 2 (some .int), Cond.methodLink RX4 151 yX4_share, Cond.instanceMethod yX4_share, Cond.selects RX4 yX4_share yX4_share, Cond.code yX4_share cX4_share 1 (some .double), Cond.methodLink RX4 167 yJxe99ae_doubleToLongBits_ccdee, Cond.static yJxe99ae_doubleToLongBits_ccdee, Cond.initialized RJxe99ae, Cond.code yJxe99ae_doubleToLongBits_ccdee cJxe99ae_doubleToLongBits_ccdee 2 (some .long), Cond.methodLink RJxe99ae 134 ⟨"java/lang/Double", "doubleToRawLongBits", "(D)J"⟩, Cond.native ⟨"java/lang/Double", "doubleToRawLongBits", "(D)J"⟩, Cond.static ⟨"java/lang/Double", "doubleToRawLongBits", "(D)J"⟩, Cond.initialized "java/lang/Double", Cond.constantLong RJxe99ae 137 (9221120237041090560), Cond.methodLink RJxe99ae 122 yJxe99ae_isNaN_b9ae7, Cond.static yJxe99ae_isNaN_b9ae7, Cond.code yJxe99ae_isNaN_b9ae7 cJxe99ae_isNaN_b9ae7 2 (some .boolean)]
def wsX4_digest : List Cond := .code yX4_digest cX4_digest 2 (some .long) :: ((wsX4_digest_r1 ++ (wsX4_digest_r2 ++ (wsX4_digest_r3 ++ (wsX4_digest_r4 ++ wsX4_digest_r5)))) ++ wsX40)
def wsJ9_min_7cf53 : List Cond := .code yJ9_min_7cf53 cJ9_min_7cf53 2 (some .int) :: ([])
def wsL_plane_r1 : List Cond := [Cond.classLink RL 13 "java/lang/IndexOutOfBoundsException", Cond.classLink RL 15 "java/lang/IllegalArgumentException", Cond.methodLink RL 7 yX3_plane, Cond.instanceMethod yX3_plane, Cond.selects RX3 yX3_plane yX3_plane, Cond.initialized RX3, Cond.code yX3_plane cX3_plane 5 (some .int), Cond.classLink RX3 40 "java/lang/IndexOutOfBoundsException", Cond.initialized "java/lang/IndexOutOfBoundsException", Cond.classLink RX3 51 "java/lang/IllegalArgumentException", Cond.initialized "java/lang/IllegalArgumentException", Cond.fieldLink RX3 22 "RoofDrains" "saved" "LRoofDrains$SavedRoofs;", Cond.fieldLink RX3 10 "RoofDrains" "roof" "LRoofDrains$Roof;", Cond.methodLink RX3 33 yX3_isPlane, Cond.static yX3_isPlane, Cond.code yX3_isPlane cX3_isPlane 1 (some .boolean), Cond.methodLink RX3 37 yX3_isGutter, Cond.static yX3_isGutter, Cond.code yX3_isGutter cX3_isGutter 1 (some .boolean), Cond.methodLink RX3 47 yX3_isWithin, Cond.static yX3_isWithin, Cond.code yX3_isWithin cX3_isWithin 3 (some .boolean), Cond.methodLink RX3 56 yX2_keep, Cond.instanceMethod yX2_keep]
def wsL_plane_r2 : List Cond := [Cond.selects RX2 yX2_keep yX2_keep, Cond.initialized RX2, Cond.code yX2_keep cX2_keep 4 none, Cond.fieldLink RX2 15 "RoofDrains$SavedRoofs" "held" "I", Cond.fieldLink RX2 19 "RoofDrains$SavedRoofs" "oldest" "I", Cond.fieldLink RX2 11 "RoofDrains$SavedRoofs" "rows" "[LRoofDrains$Roof;", Cond.classLink RX2 9 RX1, Cond.instantiable RX1 16, Cond.initialized RX1, Cond.methodLink RX2 22 yX1_init, Cond.instanceMethod yX1_init, Cond.code yX1_init cX1_init 2 none, Cond.methodLink RX1 3 objectInit, Cond.instanceMethod objectInit, Cond.code objectInit ⟨#[0xb1]⟩ 1 none, Cond.arrayClass .int, Cond.fieldLink RX1 9 "RoofDrains$Roof" "area" "[I", Cond.fieldLink RX1 15 "RoofDrains$Roof" "slope" "[I", Cond.fieldLink RX1 18 "RoofDrains$Roof" "leadsTo" "[I", Cond.fieldLink RX1 21 "RoofDrains$Roof" "onPlane" "[I", Cond.fieldLink RX1 24 "RoofDrains$Roof" "size" "[I", Cond.fieldLink RX1 27 "RoofDrains$Roof" "bore" "[I", Cond.fieldLink RX1 30 "RoofDrains$Roof" "leaves" "[I", Cond.fieldLink RX1 33 "RoofDrains$Roof" "valleyTo" "[I"]
def wsL_plane_r3 : List Cond := [Cond.fieldLink RX1 36 "RoofDrains$Roof" "inGutter" "[I", Cond.fieldLink RX1 39 "RoofDrains$Roof" "spilt" "[I", Cond.fieldLink RX1 42 "RoofDrains$Roof" "drained" "[I", Cond.fieldLink RX1 45 "RoofDrains$Roof" "values" "[I", Cond.methodLink RX2 23 yX1_copyFrom, Cond.instanceMethod yX1_copyFrom, Cond.selects RX1 yX1_copyFrom yX1_copyFrom, Cond.code yX1_copyFrom cX1_copyFrom 2 none, Cond.methodLink RX1 48 arraycopyName, Cond.native arraycopyName, Cond.static arraycopyName, Cond.initialized "java/lang/System", Cond.fieldLink RX1 54 "RoofDrains$Roof" "minutesGone" "I", Cond.fieldLink RX1 58 "RoofDrains$Roof" "weeksPassed" "I", Cond.fieldLink RX1 61 "RoofDrains$Roof" "rained" "I", Cond.fieldLink RX1 64 "RoofDrains$Roof" "backedUp" "I", Cond.methodLink RX3 60 yX1_changePlane, Cond.instanceMethod yX1_changePlane, Cond.selects RX1 yX1_changePlane yX1_changePlane, Cond.code yX1_changePlane cX1_changePlane 6 (some .int)]
def wsL_plane : List Cond := .codeWith yL_plane cL_plane 7 (some .int) [(0, 14, 17, 13), (0, 14, 21, 15)] :: ((wsL_plane_r1 ++ (wsL_plane_r2 ++ wsL_plane_r3)) ++ wsX30 ++ wsX20 ++ wsX10 ++ (vx_atS RX3 44 "java/lang/IndexOutOfBoundsException" ["java/lang/RuntimeException", "java/lang/Exception"]).filter goodWord ++ (vx_atS RX3 55 "java/lang/IllegalArgumentException" ["java/lang/RuntimeException", "java/lang/Exception"]).filter goodWord)
def wsL_gutter_r1 : List Cond := [Cond.classLink RL 13 "java/lang/IndexOutOfBoundsException", Cond.classLink RL 15 "java/lang/IllegalArgumentException", Cond.methodLink RL 17 yX3_gutter, Cond.instanceMethod yX3_gutter, Cond.selects RX3 yX3_gutter yX3_gutter, Cond.initialized RX3, Cond.code yX3_gutter cX3_gutter 4 (some .int), Cond.classLink RX3 40 "java/lang/IndexOutOfBoundsException", Cond.initialized "java/lang/IndexOutOfBoundsException", Cond.classLink RX3 51 "java/lang/IllegalArgumentException", Cond.initialized "java/lang/IllegalArgumentException", Cond.fieldLink RX3 22 "RoofDrains" "saved" "LRoofDrains$SavedRoofs;", Cond.fieldLink RX3 10 "RoofDrains" "roof" "LRoofDrains$Roof;", Cond.methodLink RX3 37 yX3_isGutter, Cond.static yX3_isGutter, Cond.code yX3_isGutter cX3_isGutter 1 (some .boolean), Cond.methodLink RX3 47 yX3_isWithin, Cond.static yX3_isWithin, Cond.code yX3_isWithin cX3_isWithin 3 (some .boolean), Cond.methodLink RX3 56 yX2_keep, Cond.instanceMethod yX2_keep, Cond.selects RX2 yX2_keep yX2_keep, Cond.initialized RX2, Cond.code yX2_keep cX2_keep 4 none]
def wsL_gutter_r2 : List Cond := [Cond.fieldLink RX2 15 "RoofDrains$SavedRoofs" "held" "I", Cond.fieldLink RX2 19 "RoofDrains$SavedRoofs" "oldest" "I", Cond.fieldLink RX2 11 "RoofDrains$SavedRoofs" "rows" "[LRoofDrains$Roof;", Cond.classLink RX2 9 RX1, Cond.instantiable RX1 16, Cond.initialized RX1, Cond.methodLink RX2 22 yX1_init, Cond.instanceMethod yX1_init, Cond.code yX1_init cX1_init 2 none, Cond.methodLink RX1 3 objectInit, Cond.instanceMethod objectInit, Cond.code objectInit ⟨#[0xb1]⟩ 1 none, Cond.arrayClass .int, Cond.fieldLink RX1 9 "RoofDrains$Roof" "area" "[I", Cond.fieldLink RX1 15 "RoofDrains$Roof" "slope" "[I", Cond.fieldLink RX1 18 "RoofDrains$Roof" "leadsTo" "[I", Cond.fieldLink RX1 21 "RoofDrains$Roof" "onPlane" "[I", Cond.fieldLink RX1 24 "RoofDrains$Roof" "size" "[I", Cond.fieldLink RX1 27 "RoofDrains$Roof" "bore" "[I", Cond.fieldLink RX1 30 "RoofDrains$Roof" "leaves" "[I", Cond.fieldLink RX1 33 "RoofDrains$Roof" "valleyTo" "[I", Cond.fieldLink RX1 36 "RoofDrains$Roof" "inGutter" "[I", Cond.fieldLink RX1 39 "RoofDrains$Roof" "spilt" "[I", Cond.fieldLink RX1 42 "RoofDrains$Roof" "drained" "[I"]
def wsL_gutter_r3 : List Cond := [Cond.fieldLink RX1 45 "RoofDrains$Roof" "values" "[I", Cond.methodLink RX2 23 yX1_copyFrom, Cond.instanceMethod yX1_copyFrom, Cond.selects RX1 yX1_copyFrom yX1_copyFrom, Cond.code yX1_copyFrom cX1_copyFrom 2 none, Cond.methodLink RX1 48 arraycopyName, Cond.native arraycopyName, Cond.static arraycopyName, Cond.initialized "java/lang/System", Cond.fieldLink RX1 54 "RoofDrains$Roof" "minutesGone" "I", Cond.fieldLink RX1 58 "RoofDrains$Roof" "weeksPassed" "I", Cond.fieldLink RX1 61 "RoofDrains$Roof" "rained" "I", Cond.fieldLink RX1 64 "RoofDrains$Roof" "backedUp" "I", Cond.methodLink RX3 68 yX1_changeGutter, Cond.instanceMethod yX1_changeGutter, Cond.selects RX1 yX1_changeGutter yX1_changeGutter, Cond.code yX1_changeGutter cX1_changeGutter 5 (some .int)]
def wsL_gutter : List Cond := .codeWith yL_gutter cL_gutter 6 (some .int) [(0, 12, 15, 13), (0, 12, 19, 15)] :: ((wsL_gutter_r1 ++ (wsL_gutter_r2 ++ wsL_gutter_r3)) ++ wsX30 ++ wsX20 ++ wsX10 ++ (vx_atS RX3 44 "java/lang/IndexOutOfBoundsException" ["java/lang/RuntimeException", "java/lang/Exception"]).filter goodWord ++ (vx_atS RX3 55 "java/lang/IllegalArgumentException" ["java/lang/RuntimeException", "java/lang/Exception"]).filter goodWord)
def wsL_valley_r1 : List Cond := [Cond.classLink RL 13 "java/lang/IndexOutOfBoundsException", Cond.classLink RL 15 "java/lang/IllegalArgumentException", Cond.classLink RL 25 "java/lang/IllegalStateException", Cond.methodLink RL 21 yX3_valley, Cond.instanceMethod yX3_valley, Cond.selects RX3 yX3_valley yX3_valley, Cond.initialized RX3, Cond.code yX3_valley cX3_valley 3 (some .int), Cond.classLink RX3 40 "java/lang/IndexOutOfBoundsException", Cond.initialized "java/lang/IndexOutOfBoundsException", Cond.classLink RX3 51 "java/lang/IllegalArgumentException", Cond.initialized "java/lang/IllegalArgumentException", Cond.classLink RX3 78 "java/lang/IllegalStateException", Cond.initialized "java/lang/IllegalStateException", Cond.fieldLink RX3 10 "RoofDrains" "roof" "LRoofDrains$Roof;", Cond.fieldLink RX3 22 "RoofDrains" "saved" "LRoofDrains$SavedRoofs;", Cond.methodLink RX3 37 yX3_isGutter, Cond.static yX3_isGutter, Cond.code yX3_isGutter cX3_isGutter 1 (some .boolean), Cond.methodLink RX3 74 yX1_valleysLead, Cond.instanceMethod yX1_valleysLead, Cond.selects RX1 yX1_valleysLead yX1_valleysLead, Cond.initialized RX1, Cond.code yX1_valleysLead cX1_valleysLead 5 (some .boolean)]
def wsL_valley_r2 : List Cond := [Cond.fieldLink RX1 33 "RoofDrains$Roof" "valleyTo" "[I", Cond.methodLink RX3 56 yX2_keep, Cond.instanceMethod yX2_keep, Cond.selects RX2 yX2_keep yX2_keep, Cond.initialized RX2, Cond.code yX2_keep cX2_keep 4 none, Cond.fieldLink RX2 15 "RoofDrains$SavedRoofs" "held" "I", Cond.fieldLink RX2 19 "RoofDrains$SavedRoofs" "oldest" "I", Cond.fieldLink RX2 11 "RoofDrains$SavedRoofs" "rows" "[LRoofDrains$Roof;", Cond.classLink RX2 9 RX1, Cond.instantiable RX1 16, Cond.methodLink RX2 22 yX1_init, Cond.instanceMethod yX1_init, Cond.code yX1_init cX1_init 2 none, Cond.methodLink RX1 3 objectInit, Cond.instanceMethod objectInit, Cond.code objectInit ⟨#[0xb1]⟩ 1 none, Cond.arrayClass .int, Cond.fieldLink RX1 9 "RoofDrains$Roof" "area" "[I", Cond.fieldLink RX1 15 "RoofDrains$Roof" "slope" "[I", Cond.fieldLink RX1 18 "RoofDrains$Roof" "leadsTo" "[I", Cond.fieldLink RX1 21 "RoofDrains$Roof" "onPlane" "[I", Cond.fieldLink RX1 24 "RoofDrains$Roof" "size" "[I", Cond.fieldLink RX1 27 "RoofDrains$Roof" "bore" "[I"]
def wsL_valley_r3 : List Cond := [Cond.fieldLink RX1 30 "RoofDrains$Roof" "leaves" "[I", Cond.fieldLink RX1 36 "RoofDrains$Roof" "inGutter" "[I", Cond.fieldLink RX1 39 "RoofDrains$Roof" "spilt" "[I", Cond.fieldLink RX1 42 "RoofDrains$Roof" "drained" "[I", Cond.fieldLink RX1 45 "RoofDrains$Roof" "values" "[I", Cond.methodLink RX2 23 yX1_copyFrom, Cond.instanceMethod yX1_copyFrom, Cond.selects RX1 yX1_copyFrom yX1_copyFrom, Cond.code yX1_copyFrom cX1_copyFrom 2 none, Cond.methodLink RX1 48 arraycopyName, Cond.native arraycopyName, Cond.static arraycopyName, Cond.initialized "java/lang/System", Cond.fieldLink RX1 54 "RoofDrains$Roof" "minutesGone" "I", Cond.fieldLink RX1 58 "RoofDrains$Roof" "weeksPassed" "I", Cond.fieldLink RX1 61 "RoofDrains$Roof" "rained" "I", Cond.fieldLink RX1 64 "RoofDrains$Roof" "backedUp" "I", Cond.methodLink RX3 83 yX1_changeValley, Cond.instanceMethod yX1_changeValley, Cond.selects RX1 yX1_changeValley yX1_changeValley, Cond.code yX1_changeValley cX1_changeValley 4 (some .int)]
def wsL_valley : List Cond := .codeWith yL_valley cL_valley 5 (some .int) [(0, 10, 13, 13), (0, 10, 17, 15), (0, 10, 21, 25)] :: ((wsL_valley_r1 ++ (wsL_valley_r2 ++ wsL_valley_r3)) ++ wsX30 ++ wsX10 ++ wsX20 ++ (vx_atS RX3 44 "java/lang/IndexOutOfBoundsException" ["java/lang/RuntimeException", "java/lang/Exception"]).filter goodWord ++ (vx_atS RX3 55 "java/lang/IllegalArgumentException" ["java/lang/RuntimeException", "java/lang/Exception"]).filter goodWord ++ (vx_atS RX3 82 "java/lang/IllegalStateException" ["java/lang/RuntimeException", "java/lang/Exception"]).filter goodWord)
def wsL_clean_r1 : List Cond := [Cond.classLink RL 13 "java/lang/IndexOutOfBoundsException", Cond.methodLink RL 27 yX3_clean, Cond.instanceMethod yX3_clean, Cond.selects RX3 yX3_clean yX3_clean, Cond.initialized RX3, Cond.code yX3_clean cX3_clean 2 (some .int), Cond.classLink RX3 40 "java/lang/IndexOutOfBoundsException", Cond.initialized "java/lang/IndexOutOfBoundsException", Cond.fieldLink RX3 22 "RoofDrains" "saved" "LRoofDrains$SavedRoofs;", Cond.fieldLink RX3 10 "RoofDrains" "roof" "LRoofDrains$Roof;", Cond.methodLink RX3 37 yX3_isGutter, Cond.static yX3_isGutter, Cond.code yX3_isGutter cX3_isGutter 1 (some .boolean), Cond.methodLink RX3 56 yX2_keep, Cond.instanceMethod yX2_keep, Cond.selects RX2 yX2_keep yX2_keep, Cond.initialized RX2, Cond.code yX2_keep cX2_keep 4 none, Cond.fieldLink RX2 15 "RoofDrains$SavedRoofs" "held" "I", Cond.fieldLink RX2 19 "RoofDrains$SavedRoofs" "oldest" "I", Cond.fieldLink RX2 11 "RoofDrains$SavedRoofs" "rows" "[LRoofDrains$Roof;", Cond.classLink RX2 9 RX1, Cond.instantiable RX1 16, Cond.initialized RX1]
def wsL_clean_r2 : List Cond := [Cond.methodLink RX2 22 yX1_init, Cond.instanceMethod yX1_init, Cond.code yX1_init cX1_init 2 none, Cond.methodLink RX1 3 objectInit, Cond.instanceMethod objectInit, Cond.code objectInit ⟨#[0xb1]⟩ 1 none, Cond.arrayClass .int, Cond.fieldLink RX1 9 "RoofDrains$Roof" "area" "[I", Cond.fieldLink RX1 15 "RoofDrains$Roof" "slope" "[I", Cond.fieldLink RX1 18 "RoofDrains$Roof" "leadsTo" "[I", Cond.fieldLink RX1 21 "RoofDrains$Roof" "onPlane" "[I", Cond.fieldLink RX1 24 "RoofDrains$Roof" "size" "[I", Cond.fieldLink RX1 27 "RoofDrains$Roof" "bore" "[I", Cond.fieldLink RX1 30 "RoofDrains$Roof" "leaves" "[I", Cond.fieldLink RX1 33 "RoofDrains$Roof" "valleyTo" "[I", Cond.fieldLink RX1 36 "RoofDrains$Roof" "inGutter" "[I", Cond.fieldLink RX1 39 "RoofDrains$Roof" "spilt" "[I", Cond.fieldLink RX1 42 "RoofDrains$Roof" "drained" "[I", Cond.fieldLink RX1 45 "RoofDrains$Roof" "values" "[I", Cond.methodLink RX2 23 yX1_copyFrom, Cond.instanceMethod yX1_copyFrom, Cond.selects RX1 yX1_copyFrom yX1_copyFrom, Cond.code yX1_copyFrom cX1_copyFrom 2 none, Cond.methodLink RX1 48 arraycopyName]
def wsL_clean_r3 : List Cond := [Cond.native arraycopyName, Cond.static arraycopyName, Cond.initialized "java/lang/System", Cond.fieldLink RX1 54 "RoofDrains$Roof" "minutesGone" "I", Cond.fieldLink RX1 58 "RoofDrains$Roof" "weeksPassed" "I", Cond.fieldLink RX1 61 "RoofDrains$Roof" "rained" "I", Cond.fieldLink RX1 64 "RoofDrains$Roof" "backedUp" "I", Cond.methodLink RX3 87 yX1_takeLeaves, Cond.instanceMethod yX1_takeLeaves, Cond.selects RX1 yX1_takeLeaves yX1_takeLeaves, Cond.code yX1_takeLeaves cX1_takeLeaves 3 (some .int)]
def wsL_clean : List Cond := .codeWith yL_clean cL_clean 4 (some .int) [(0, 9, 12, 13)] :: ((wsL_clean_r1 ++ (wsL_clean_r2 ++ wsL_clean_r3)) ++ wsX30 ++ wsX20 ++ wsX10 ++ (vx_atS RX3 44 "java/lang/IndexOutOfBoundsException" ["java/lang/RuntimeException", "java/lang/Exception"]).filter goodWord)
def wsL_set_r1 : List Cond := [Cond.classLink RL 13 "java/lang/IndexOutOfBoundsException", Cond.classLink RL 15 "java/lang/IllegalArgumentException", Cond.methodLink RL 31 yX3_set, Cond.instanceMethod yX3_set, Cond.selects RX3 yX3_set yX3_set, Cond.initialized RX3, Cond.code yX3_set cX3_set 3 (some .int), Cond.classLink RX3 40 "java/lang/IndexOutOfBoundsException", Cond.initialized "java/lang/IndexOutOfBoundsException", Cond.classLink RX3 51 "java/lang/IllegalArgumentException", Cond.initialized "java/lang/IllegalArgumentException", Cond.fieldLink RX3 96 "RoofDrains" "MOST_OF_SETTING" "[I", Cond.fieldLink RX3 22 "RoofDrains" "saved" "LRoofDrains$SavedRoofs;", Cond.fieldLink RX3 10 "RoofDrains" "roof" "LRoofDrains$Roof;", Cond.methodLink RX3 91 yX3_isSetting, Cond.static yX3_isSetting, Cond.code yX3_isSetting cX3_isSetting 1 (some .boolean), Cond.methodLink RX3 47 yX3_isWithin, Cond.static yX3_isWithin, Cond.code yX3_isWithin cX3_isWithin 3 (some .boolean), Cond.methodLink RX3 56 yX2_keep, Cond.instanceMethod yX2_keep, Cond.selects RX2 yX2_keep yX2_keep, Cond.initialized RX2]
def wsL_set_r2 : List Cond := [Cond.code yX2_keep cX2_keep 4 none, Cond.fieldLink RX2 15 "RoofDrains$SavedRoofs" "held" "I", Cond.fieldLink RX2 19 "RoofDrains$SavedRoofs" "oldest" "I", Cond.fieldLink RX2 11 "RoofDrains$SavedRoofs" "rows" "[LRoofDrains$Roof;", Cond.classLink RX2 9 RX1, Cond.instantiable RX1 16, Cond.initialized RX1, Cond.methodLink RX2 22 yX1_init, Cond.instanceMethod yX1_init, Cond.code yX1_init cX1_init 2 none, Cond.methodLink RX1 3 objectInit, Cond.instanceMethod objectInit, Cond.code objectInit ⟨#[0xb1]⟩ 1 none, Cond.arrayClass .int, Cond.fieldLink RX1 9 "RoofDrains$Roof" "area" "[I", Cond.fieldLink RX1 15 "RoofDrains$Roof" "slope" "[I", Cond.fieldLink RX1 18 "RoofDrains$Roof" "leadsTo" "[I", Cond.fieldLink RX1 21 "RoofDrains$Roof" "onPlane" "[I", Cond.fieldLink RX1 24 "RoofDrains$Roof" "size" "[I", Cond.fieldLink RX1 27 "RoofDrains$Roof" "bore" "[I", Cond.fieldLink RX1 30 "RoofDrains$Roof" "leaves" "[I", Cond.fieldLink RX1 33 "RoofDrains$Roof" "valleyTo" "[I", Cond.fieldLink RX1 36 "RoofDrains$Roof" "inGutter" "[I", Cond.fieldLink RX1 39 "RoofDrains$Roof" "spilt" "[I"]
def wsL_set_r3 : List Cond := [Cond.fieldLink RX1 42 "RoofDrains$Roof" "drained" "[I", Cond.fieldLink RX1 45 "RoofDrains$Roof" "values" "[I", Cond.methodLink RX2 23 yX1_copyFrom, Cond.instanceMethod yX1_copyFrom, Cond.selects RX1 yX1_copyFrom yX1_copyFrom, Cond.code yX1_copyFrom cX1_copyFrom 2 none, Cond.methodLink RX1 48 arraycopyName, Cond.native arraycopyName, Cond.static arraycopyName, Cond.initialized "java/lang/System", Cond.fieldLink RX1 54 "RoofDrains$Roof" "minutesGone" "I", Cond.fieldLink RX1 58 "RoofDrains$Roof" "weeksPassed" "I", Cond.fieldLink RX1 61 "RoofDrains$Roof" "rained" "I", Cond.fieldLink RX1 64 "RoofDrains$Roof" "backedUp" "I", Cond.methodLink RX3 102 yX1_changeSetting, Cond.instanceMethod yX1_changeSetting, Cond.selects RX1 yX1_changeSetting yX1_changeSetting, Cond.code yX1_changeSetting cX1_changeSetting 4 (some .int)]
def wsL_set : List Cond := .codeWith yL_set cL_set 5 (some .int) [(0, 10, 13, 13), (0, 10, 17, 15)] :: ((wsL_set_r1 ++ (wsL_set_r2 ++ wsL_set_r3)) ++ wsX30 ++ wsX20 ++ wsX10 ++ (vx_atS RX3 44 "java/lang/IndexOutOfBoundsException" ["java/lang/RuntimeException", "java/lang/Exception"]).filter goodWord ++ (vx_atS RX3 55 "java/lang/IllegalArgumentException" ["java/lang/RuntimeException", "java/lang/Exception"]).filter goodWord)
def wsL_rain_r1 : List Cond := [Cond.classLink RL 15 "java/lang/IllegalArgumentException", Cond.methodLink RL 34 yX3_rain, Cond.instanceMethod yX3_rain, Cond.selects RX3 yX3_rain yX3_rain, Cond.initialized RX3, Cond.code yX3_rain cX3_rain 4 (some .int), Cond.classLink RX3 51 "java/lang/IllegalArgumentException", Cond.initialized "java/lang/IllegalArgumentException", Cond.fieldLink RX3 22 "RoofDrains" "saved" "LRoofDrains$SavedRoofs;", Cond.fieldLink RX3 10 "RoofDrains" "roof" "LRoofDrains$Roof;", Cond.methodLink RX3 47 yX3_isWithin, Cond.static yX3_isWithin, Cond.code yX3_isWithin cX3_isWithin 3 (some .boolean), Cond.methodLink RX3 56 yX2_keep, Cond.instanceMethod yX2_keep, Cond.selects RX2 yX2_keep yX2_keep, Cond.initialized RX2, Cond.code yX2_keep cX2_keep 4 none, Cond.fieldLink RX2 15 "RoofDrains$SavedRoofs" "held" "I", Cond.fieldLink RX2 19 "RoofDrains$SavedRoofs" "oldest" "I", Cond.fieldLink RX2 11 "RoofDrains$SavedRoofs" "rows" "[LRoofDrains$Roof;", Cond.classLink RX2 9 RX1, Cond.instantiable RX1 16, Cond.initialized RX1]
def wsL_rain_r2 : List Cond := [Cond.methodLink RX2 22 yX1_init, Cond.instanceMethod yX1_init, Cond.code yX1_init cX1_init 2 none, Cond.methodLink RX1 3 objectInit, Cond.instanceMethod objectInit, Cond.code objectInit ⟨#[0xb1]⟩ 1 none, Cond.arrayClass .int, Cond.fieldLink RX1 9 "RoofDrains$Roof" "area" "[I", Cond.fieldLink RX1 15 "RoofDrains$Roof" "slope" "[I", Cond.fieldLink RX1 18 "RoofDrains$Roof" "leadsTo" "[I", Cond.fieldLink RX1 21 "RoofDrains$Roof" "onPlane" "[I", Cond.fieldLink RX1 24 "RoofDrains$Roof" "size" "[I", Cond.fieldLink RX1 27 "RoofDrains$Roof" "bore" "[I", Cond.fieldLink RX1 30 "RoofDrains$Roof" "leaves" "[I", Cond.fieldLink RX1 33 "RoofDrains$Roof" "valleyTo" "[I", Cond.fieldLink RX1 36 "RoofDrains$Roof" "inGutter" "[I", Cond.fieldLink RX1 39 "RoofDrains$Roof" "spilt" "[I", Cond.fieldLink RX1 42 "RoofDrains$Roof" "drained" "[I", Cond.fieldLink RX1 45 "RoofDrains$Roof" "values" "[I", Cond.methodLink RX2 23 yX1_copyFrom, Cond.instanceMethod yX1_copyFrom, Cond.selects RX1 yX1_copyFrom yX1_copyFrom, Cond.code yX1_copyFrom cX1_copyFrom 2 none, Cond.methodLink RX1 48 arraycopyName]
def wsL_rain_r3 : List Cond := [Cond.native arraycopyName, Cond.static arraycopyName, Cond.initialized "java/lang/System", Cond.fieldLink RX1 54 "RoofDrains$Roof" "minutesGone" "I", Cond.fieldLink RX1 58 "RoofDrains$Roof" "weeksPassed" "I", Cond.fieldLink RX1 61 "RoofDrains$Roof" "rained" "I", Cond.fieldLink RX1 64 "RoofDrains$Roof" "backedUp" "I", Cond.methodLink RX3 107 yX1_spiltLitres, Cond.instanceMethod yX1_spiltLitres, Cond.selects RX1 yX1_spiltLitres yX1_spiltLitres, Cond.code yX1_spiltLitres cX1_spiltLitres 1 (some .int), Cond.methodLink RX1 98 yX1_sumOf, Cond.static yX1_sumOf, Cond.code yX1_sumOf cX1_sumOf 6 (some .int), Cond.methodLink RX3 111 yX1_passMinutes, Cond.instanceMethod yX1_passMinutes, Cond.selects RX1 yX1_passMinutes yX1_passMinutes, Cond.code yX1_passMinutes cX1_passMinutes 4 none, Cond.methodLink RX1 71 yX1_passMinute, Cond.instanceMethod yX1_passMinute, Cond.selects RX1 yX1_passMinute yX1_passMinute, Cond.code yX1_passMinute cX1_passMinute 3 none, Cond.methodLink RX1 75 yX1_wetPlane, Cond.instanceMethod yX1_wetPlane]
def wsL_rain_r4 : List Cond := [Cond.selects RX1 yX1_wetPlane yX1_wetPlane, Cond.code yX1_wetPlane cX1_wetPlane 6 none, Cond.static yX3_isGutter, Cond.code yX3_isGutter cX3_isGutter 1 (some .boolean), Cond.methodLink RX1 79 yX1_emptyIntoDrain, Cond.instanceMethod yX1_emptyIntoDrain, Cond.selects RX1 yX1_emptyIntoDrain yX1_emptyIntoDrain, Cond.code yX1_emptyIntoDrain cX1_emptyIntoDrain 6 none, Cond.methodLink RX1 85 Lib.Math.min.name, Cond.static Lib.Math.min.name, Cond.initialized "java/lang/Math", Cond.code Lib.Math.min.name Lib.Math.min.code 2 (some .int), Cond.methodLink RX1 91 yX1_pipeTakes, Cond.instanceMethod yX1_pipeTakes, Cond.selects RX1 yX1_pipeTakes yX1_pipeTakes, Cond.code yX1_pipeTakes cX1_pipeTakes 3 (some .int), Cond.methodLink RX1 82 yX1_overflow, Cond.instanceMethod yX1_overflow, Cond.selects RX1 yX1_overflow yX1_overflow, Cond.code yX1_overflow cX1_overflow 4 none, Cond.methodLink RX1 95 yX1_room, Cond.instanceMethod yX1_room, Cond.selects RX1 yX1_room yX1_room, Cond.code yX1_room cX1_room 2 (some .int)]
def wsL_rain : List Cond := .codeWith yL_rain cL_rain 5 (some .int) [(0, 10, 13, 15)] :: ((wsL_rain_r1 ++ (wsL_rain_r2 ++ (wsL_rain_r3 ++ wsL_rain_r4))) ++ wsX30 ++ wsX20 ++ wsX10 ++ (vx_atS RX3 55 "java/lang/IllegalArgumentException" ["java/lang/RuntimeException", "java/lang/Exception"]).filter goodWord)
def wsL_weeks_r1 : List Cond := [Cond.classLink RL 15 "java/lang/IllegalArgumentException", Cond.methodLink RL 37 yX3_weeks, Cond.instanceMethod yX3_weeks, Cond.selects RX3 yX3_weeks yX3_weeks, Cond.initialized RX3, Cond.code yX3_weeks cX3_weeks 3 (some .int), Cond.classLink RX3 51 "java/lang/IllegalArgumentException", Cond.initialized "java/lang/IllegalArgumentException", Cond.fieldLink RX3 22 "RoofDrains" "saved" "LRoofDrains$SavedRoofs;", Cond.fieldLink RX3 10 "RoofDrains" "roof" "LRoofDrains$Roof;", Cond.methodLink RX3 47 yX3_isWithin, Cond.static yX3_isWithin, Cond.code yX3_isWithin cX3_isWithin 3 (some .boolean), Cond.methodLink RX3 56 yX2_keep, Cond.instanceMethod yX2_keep, Cond.selects RX2 yX2_keep yX2_keep, Cond.initialized RX2, Cond.code yX2_keep cX2_keep 4 none, Cond.fieldLink RX2 15 "RoofDrains$SavedRoofs" "held" "I", Cond.fieldLink RX2 19 "RoofDrains$SavedRoofs" "oldest" "I", Cond.fieldLink RX2 11 "RoofDrains$SavedRoofs" "rows" "[LRoofDrains$Roof;", Cond.classLink RX2 9 RX1, Cond.instantiable RX1 16, Cond.initialized RX1]
def wsL_weeks_r2 : List Cond := [Cond.methodLink RX2 22 yX1_init, Cond.instanceMethod yX1_init, Cond.code yX1_init cX1_init 2 none, Cond.methodLink RX1 3 objectInit, Cond.instanceMethod objectInit, Cond.code objectInit ⟨#[0xb1]⟩ 1 none, Cond.arrayClass .int, Cond.fieldLink RX1 9 "RoofDrains$Roof" "area" "[I", Cond.fieldLink RX1 15 "RoofDrains$Roof" "slope" "[I", Cond.fieldLink RX1 18 "RoofDrains$Roof" "leadsTo" "[I", Cond.fieldLink RX1 21 "RoofDrains$Roof" "onPlane" "[I", Cond.fieldLink RX1 24 "RoofDrains$Roof" "size" "[I", Cond.fieldLink RX1 27 "RoofDrains$Roof" "bore" "[I", Cond.fieldLink RX1 30 "RoofDrains$Roof" "leaves" "[I", Cond.fieldLink RX1 33 "RoofDrains$Roof" "valleyTo" "[I", Cond.fieldLink RX1 36 "RoofDrains$Roof" "inGutter" "[I", Cond.fieldLink RX1 39 "RoofDrains$Roof" "spilt" "[I", Cond.fieldLink RX1 42 "RoofDrains$Roof" "drained" "[I", Cond.fieldLink RX1 45 "RoofDrains$Roof" "values" "[I", Cond.methodLink RX2 23 yX1_copyFrom, Cond.instanceMethod yX1_copyFrom, Cond.selects RX1 yX1_copyFrom yX1_copyFrom, Cond.code yX1_copyFrom cX1_copyFrom 2 none, Cond.methodLink RX1 48 arraycopyName]
def wsL_weeks_r3 : List Cond := [Cond.native arraycopyName, Cond.static arraycopyName, Cond.initialized "java/lang/System", Cond.fieldLink RX1 54 "RoofDrains$Roof" "minutesGone" "I", Cond.fieldLink RX1 58 "RoofDrains$Roof" "weeksPassed" "I", Cond.fieldLink RX1 61 "RoofDrains$Roof" "rained" "I", Cond.fieldLink RX1 64 "RoofDrains$Roof" "backedUp" "I", Cond.methodLink RX3 117 yX1_passWeek, Cond.instanceMethod yX1_passWeek, Cond.selects RX1 yX1_passWeek yX1_passWeek, Cond.code yX1_passWeek cX1_passWeek 2 none, Cond.methodLink RX1 85 Lib.Math.min.name, Cond.static Lib.Math.min.name, Cond.initialized "java/lang/Math", Cond.code Lib.Math.min.name Lib.Math.min.code 2 (some .int), Cond.methodLink RX3 120 yX1_leavesTogether, Cond.instanceMethod yX1_leavesTogether, Cond.selects RX1 yX1_leavesTogether yX1_leavesTogether, Cond.code yX1_leavesTogether cX1_leavesTogether 1 (some .int), Cond.methodLink RX1 98 yX1_sumOf, Cond.static yX1_sumOf, Cond.code yX1_sumOf cX1_sumOf 6 (some .int)]
def wsL_weeks : List Cond := .codeWith yL_weeks cL_weeks 4 (some .int) [(0, 9, 12, 15)] :: ((wsL_weeks_r1 ++ (wsL_weeks_r2 ++ wsL_weeks_r3)) ++ wsX30 ++ wsX20 ++ wsX10 ++ (vx_atS RX3 55 "java/lang/IllegalArgumentException" ["java/lang/RuntimeException", "java/lang/Exception"]).filter goodWord)
def wsL_append_r1 : List Cond := [Cond.classLink RL 15 "java/lang/IllegalArgumentException", Cond.classLink RL 25 "java/lang/IllegalStateException", Cond.methodLink RL 40 yX3_append, Cond.instanceMethod yX3_append, Cond.selects RX3 yX3_append yX3_append, Cond.initialized RX3, Cond.code yX3_append cX3_append 2 (some .int), Cond.classLink RX3 51 "java/lang/IllegalArgumentException", Cond.initialized "java/lang/IllegalArgumentException", Cond.classLink RX3 78 "java/lang/IllegalStateException", Cond.initialized "java/lang/IllegalStateException", Cond.fieldLink RX3 29 "RoofDrains" "text" "LRoofDrains$RainText;", Cond.methodLink RX3 47 yX3_isWithin, Cond.static yX3_isWithin, Cond.code yX3_isWithin cX3_isWithin 3 (some .boolean), Cond.methodLink RX3 125 yX0_isFull, Cond.instanceMethod yX0_isFull, Cond.selects RX0 yX0_isFull yX0_isFull, Cond.initialized RX0, Cond.code yX0_isFull cX0_isFull 1 (some .boolean), Cond.fieldLink RX0 13 "RoofDrains$RainText" "length" "I", Cond.methodLink RX3 131 yX0_add, Cond.instanceMethod yX0_add, Cond.selects RX0 yX0_add yX0_add]
def wsL_append_r2 : List Cond := [Cond.code yX0_add cX0_add 2 none, Cond.fieldLink RX0 9 "RoofDrains$RainText" "codes" "[I", Cond.methodLink RX3 135 yX0_length, Cond.instanceMethod yX0_length, Cond.selects RX0 yX0_length yX0_length, Cond.code yX0_length cX0_length 1 (some .int)]
def wsL_append : List Cond := .codeWith yL_append cL_append 4 (some .int) [(0, 9, 12, 15), (0, 9, 15, 25)] :: ((wsL_append_r1 ++ wsL_append_r2) ++ wsX30 ++ wsX00 ++ (vx_atS RX3 55 "java/lang/IllegalArgumentException" ["java/lang/RuntimeException", "java/lang/Exception"]).filter goodWord ++ (vx_atS RX3 82 "java/lang/IllegalStateException" ["java/lang/RuntimeException", "java/lang/Exception"]).filter goodWord)
def wsL_play_r1 : List Cond := [Cond.classLink RL 15 "java/lang/IllegalArgumentException", Cond.methodLink RL 43 yX3_play, Cond.instanceMethod yX3_play, Cond.selects RX3 yX3_play yX3_play, Cond.initialized RX3, Cond.code yX3_play cX3_play 2 (some .int), Cond.classLink RX3 51 "java/lang/IllegalArgumentException", Cond.initialized "java/lang/IllegalArgumentException", Cond.fieldLink RX3 29 "RoofDrains" "text" "LRoofDrains$RainText;", Cond.fieldLink RX3 22 "RoofDrains" "saved" "LRoofDrains$SavedRoofs;", Cond.fieldLink RX3 10 "RoofDrains" "roof" "LRoofDrains$Roof;", Cond.methodLink RX3 144 yX0_isComplete, Cond.instanceMethod yX0_isComplete, Cond.selects RX0 yX0_isComplete yX0_isComplete, Cond.initialized RX0, Cond.code yX0_isComplete cX0_isComplete 3 (some .boolean), Cond.fieldLink RX0 13 "RoofDrains$RainText" "length" "I", Cond.fieldLink RX0 9 "RoofDrains$RainText" "codes" "[I", Cond.methodLink RX0 17 yX0_dueAfter, Cond.static yX0_dueAfter, Cond.code yX0_dueAfter cX0_dueAfter 2 (some .int), Cond.methodLink RX0 21 yX0_mayEnd, Cond.static yX0_mayEnd, Cond.code yX0_mayEnd cX0_mayEnd 1 (some .boolean)]
def wsL_play_r2 : List Cond := [Cond.methodLink RX0 25 yX0_dueAfterFirst, Cond.static yX0_dueAfterFirst, Cond.code yX0_dueAfterFirst cX0_dueAfterFirst 1 (some .int), Cond.static yX3_isWithin, Cond.code yX3_isWithin cX3_isWithin 3 (some .boolean), Cond.methodLink RX0 35 yX0_dueAfterStar, Cond.static yX0_dueAfterStar, Cond.code yX0_dueAfterStar cX0_dueAfterStar 1 (some .int), Cond.methodLink RX0 38 yX0_dueAfterMinutesDigit, Cond.static yX0_dueAfterMinutesDigit, Cond.code yX0_dueAfterMinutesDigit cX0_dueAfterMinutesDigit 1 (some .int), Cond.methodLink RX3 56 yX2_keep, Cond.instanceMethod yX2_keep, Cond.selects RX2 yX2_keep yX2_keep, Cond.initialized RX2, Cond.code yX2_keep cX2_keep 4 none, Cond.fieldLink RX2 15 "RoofDrains$SavedRoofs" "held" "I", Cond.fieldLink RX2 19 "RoofDrains$SavedRoofs" "oldest" "I", Cond.fieldLink RX2 11 "RoofDrains$SavedRoofs" "rows" "[LRoofDrains$Roof;", Cond.classLink RX2 9 RX1, Cond.instantiable RX1 16, Cond.initialized RX1, Cond.methodLink RX2 22 yX1_init, Cond.instanceMethod yX1_init]
def wsL_play_r3 : List Cond := [Cond.code yX1_init cX1_init 2 none, Cond.methodLink RX1 3 objectInit, Cond.instanceMethod objectInit, Cond.code objectInit ⟨#[0xb1]⟩ 1 none, Cond.arrayClass .int, Cond.fieldLink RX1 9 "RoofDrains$Roof" "area" "[I", Cond.fieldLink RX1 15 "RoofDrains$Roof" "slope" "[I", Cond.fieldLink RX1 18 "RoofDrains$Roof" "leadsTo" "[I", Cond.fieldLink RX1 21 "RoofDrains$Roof" "onPlane" "[I", Cond.fieldLink RX1 24 "RoofDrains$Roof" "size" "[I", Cond.fieldLink RX1 27 "RoofDrains$Roof" "bore" "[I", Cond.fieldLink RX1 30 "RoofDrains$Roof" "leaves" "[I", Cond.fieldLink RX1 33 "RoofDrains$Roof" "valleyTo" "[I", Cond.fieldLink RX1 36 "RoofDrains$Roof" "inGutter" "[I", Cond.fieldLink RX1 39 "RoofDrains$Roof" "spilt" "[I", Cond.fieldLink RX1 42 "RoofDrains$Roof" "drained" "[I", Cond.fieldLink RX1 45 "RoofDrains$Roof" "values" "[I", Cond.methodLink RX2 23 yX1_copyFrom, Cond.instanceMethod yX1_copyFrom, Cond.selects RX1 yX1_copyFrom yX1_copyFrom, Cond.code yX1_copyFrom cX1_copyFrom 2 none, Cond.methodLink RX1 48 arraycopyName, Cond.native arraycopyName, Cond.static arraycopyName]
def wsL_play_r4 : List Cond := [Cond.initialized "java/lang/System", Cond.fieldLink RX1 54 "RoofDrains$Roof" "minutesGone" "I", Cond.fieldLink RX1 58 "RoofDrains$Roof" "weeksPassed" "I", Cond.fieldLink RX1 61 "RoofDrains$Roof" "rained" "I", Cond.fieldLink RX1 64 "RoofDrains$Roof" "backedUp" "I", Cond.methodLink RX3 107 yX1_spiltLitres, Cond.instanceMethod yX1_spiltLitres, Cond.selects RX1 yX1_spiltLitres yX1_spiltLitres, Cond.code yX1_spiltLitres cX1_spiltLitres 1 (some .int), Cond.methodLink RX1 98 yX1_sumOf, Cond.static yX1_sumOf, Cond.code yX1_sumOf cX1_sumOf 6 (some .int), Cond.methodLink RX3 149 yX0_playOn, Cond.instanceMethod yX0_playOn, Cond.selects RX0 yX0_playOn yX0_playOn, Cond.code yX0_playOn cX0_playOn 7 none, Cond.methodLink RX0 41 yX0_playPart, Cond.static yX0_playPart, Cond.code yX0_playPart cX0_playPart 4 none, Cond.methodLink RX0 45 yX1_passWeek, Cond.instanceMethod yX1_passWeek, Cond.selects RX1 yX1_passWeek yX1_passWeek, Cond.code yX1_passWeek cX1_passWeek 2 none, Cond.methodLink RX1 85 Lib.Math.min.name]
def wsL_play_r5 : List Cond := [Cond.static Lib.Math.min.name, Cond.initialized "java/lang/Math", Cond.code Lib.Math.min.name Lib.Math.min.code 2 (some .int), Cond.methodLink RX0 50 yX0_cleanOn, Cond.static yX0_cleanOn, Cond.code yX0_cleanOn cX0_cleanOn 2 none, Cond.static yX3_isGutter, Cond.code yX3_isGutter cX3_isGutter 1 (some .boolean), Cond.methodLink RX0 61 yX1_takeLeaves, Cond.instanceMethod yX1_takeLeaves, Cond.selects RX1 yX1_takeLeaves yX1_takeLeaves, Cond.code yX1_takeLeaves cX1_takeLeaves 3 (some .int), Cond.methodLink RX0 54 yX1_passMinutes, Cond.instanceMethod yX1_passMinutes, Cond.selects RX1 yX1_passMinutes yX1_passMinutes, Cond.code yX1_passMinutes cX1_passMinutes 4 none, Cond.methodLink RX1 71 yX1_passMinute, Cond.instanceMethod yX1_passMinute, Cond.selects RX1 yX1_passMinute yX1_passMinute, Cond.code yX1_passMinute cX1_passMinute 3 none, Cond.methodLink RX1 75 yX1_wetPlane, Cond.instanceMethod yX1_wetPlane, Cond.selects RX1 yX1_wetPlane yX1_wetPlane, Cond.code yX1_wetPlane cX1_wetPlane 6 none]
def wsL_play_r6 : List Cond := [Cond.methodLink RX1 79 yX1_emptyIntoDrain, Cond.instanceMethod yX1_emptyIntoDrain, Cond.selects RX1 yX1_emptyIntoDrain yX1_emptyIntoDrain, Cond.code yX1_emptyIntoDrain cX1_emptyIntoDrain 6 none, Cond.methodLink RX1 91 yX1_pipeTakes, Cond.instanceMethod yX1_pipeTakes, Cond.selects RX1 yX1_pipeTakes yX1_pipeTakes, Cond.code yX1_pipeTakes cX1_pipeTakes 3 (some .int), Cond.methodLink RX1 82 yX1_overflow, Cond.instanceMethod yX1_overflow, Cond.selects RX1 yX1_overflow yX1_overflow, Cond.code yX1_overflow cX1_overflow 4 none, Cond.methodLink RX1 95 yX1_room, Cond.instanceMethod yX1_room, Cond.selects RX1 yX1_room yX1_room, Cond.code yX1_room cX1_room 2 (some .int), Cond.methodLink RX3 138 yX0_empty, Cond.instanceMethod yX0_empty, Cond.selects RX0 yX0_empty yX0_empty, Cond.code yX0_empty cX0_empty 1 none]
def wsL_play : List Cond := .codeWith yL_play cL_play 3 (some .int) [(0, 8, 11, 15)] :: ((wsL_play_r1 ++ (wsL_play_r2 ++ (wsL_play_r3 ++ (wsL_play_r4 ++ (wsL_play_r5 ++ wsL_play_r6))))) ++ wsX30 ++ wsX00 ++ wsX20 ++ wsX10 ++ (vx_atS RX3 55 "java/lang/IllegalArgumentException" ["java/lang/RuntimeException", "java/lang/Exception"]).filter goodWord)
def wsL_undo_r1 : List Cond := [Cond.classLink RL 25 "java/lang/IllegalStateException", Cond.methodLink RL 47 yX3_undo, Cond.instanceMethod yX3_undo, Cond.selects RX3 yX3_undo yX3_undo, Cond.initialized RX3, Cond.code yX3_undo cX3_undo 2 (some .int), Cond.classLink RX3 78 "java/lang/IllegalStateException", Cond.initialized "java/lang/IllegalStateException", Cond.fieldLink RX3 22 "RoofDrains" "saved" "LRoofDrains$SavedRoofs;", Cond.fieldLink RX3 10 "RoofDrains" "roof" "LRoofDrains$Roof;", Cond.methodLink RX3 152 yX2_dropLatest, Cond.instanceMethod yX2_dropLatest, Cond.selects RX2 yX2_dropLatest yX2_dropLatest, Cond.initialized RX2, Cond.code yX2_dropLatest cX2_dropLatest 1 (some (.object "RoofDrains$Roof")), Cond.fieldLink RX2 15 "RoofDrains$SavedRoofs" "held" "I", Cond.fieldLink RX2 11 "RoofDrains$SavedRoofs" "rows" "[LRoofDrains$Roof;", Cond.fieldLink RX2 19 "RoofDrains$SavedRoofs" "oldest" "I", Cond.methodLink RX3 158 yX1_copyFrom, Cond.instanceMethod yX1_copyFrom, Cond.selects RX1 yX1_copyFrom yX1_copyFrom, Cond.initialized RX1, Cond.code yX1_copyFrom cX1_copyFrom 2 none, Cond.fieldLink RX1 9 "RoofDrains$Roof" "area" "[I"]
def wsL_undo_r2 : List Cond := [Cond.methodLink RX1 48 arraycopyName, Cond.native arraycopyName, Cond.static arraycopyName, Cond.initialized "java/lang/System", Cond.fieldLink RX1 15 "RoofDrains$Roof" "slope" "[I", Cond.fieldLink RX1 18 "RoofDrains$Roof" "leadsTo" "[I", Cond.fieldLink RX1 21 "RoofDrains$Roof" "onPlane" "[I", Cond.fieldLink RX1 24 "RoofDrains$Roof" "size" "[I", Cond.fieldLink RX1 27 "RoofDrains$Roof" "bore" "[I", Cond.fieldLink RX1 30 "RoofDrains$Roof" "leaves" "[I", Cond.fieldLink RX1 33 "RoofDrains$Roof" "valleyTo" "[I", Cond.fieldLink RX1 36 "RoofDrains$Roof" "inGutter" "[I", Cond.fieldLink RX1 39 "RoofDrains$Roof" "spilt" "[I", Cond.fieldLink RX1 42 "RoofDrains$Roof" "drained" "[I", Cond.fieldLink RX1 45 "RoofDrains$Roof" "values" "[I", Cond.fieldLink RX1 54 "RoofDrains$Roof" "minutesGone" "I", Cond.fieldLink RX1 58 "RoofDrains$Roof" "weeksPassed" "I", Cond.fieldLink RX1 61 "RoofDrains$Roof" "rained" "I", Cond.fieldLink RX1 64 "RoofDrains$Roof" "backedUp" "I", Cond.methodLink RX3 161 yX2_held, Cond.instanceMethod yX2_held, Cond.selects RX2 yX2_held yX2_held, Cond.code yX2_held cX2_held 1 (some .int)]
def wsL_undo : List Cond := .codeWith yL_undo cL_undo 3 (some .int) [(0, 8, 11, 25)] :: ((wsL_undo_r1 ++ wsL_undo_r2) ++ wsX30 ++ wsX20 ++ wsX10 ++ (vx_atS RX3 82 "java/lang/IllegalStateException" ["java/lang/RuntimeException", "java/lang/Exception"]).filter goodWord)
def wsL_planeOf_r1 : List Cond := [Cond.classLink RL 13 "java/lang/IndexOutOfBoundsException", Cond.classLink RL 15 "java/lang/IllegalArgumentException", Cond.methodLink RL 50 yX3_planeOf, Cond.instanceMethod yX3_planeOf, Cond.selects RX3 yX3_planeOf yX3_planeOf, Cond.initialized RX3, Cond.code yX3_planeOf cX3_planeOf 3 (some .int), Cond.classLink RX3 40 "java/lang/IndexOutOfBoundsException", Cond.initialized "java/lang/IndexOutOfBoundsException", Cond.classLink RX3 51 "java/lang/IllegalArgumentException", Cond.initialized "java/lang/IllegalArgumentException", Cond.fieldLink RX3 10 "RoofDrains" "roof" "LRoofDrains$Roof;", Cond.methodLink RX3 33 yX3_isPlane, Cond.static yX3_isPlane, Cond.code yX3_isPlane cX3_isPlane 1 (some .boolean), Cond.methodLink RX3 47 yX3_isWithin, Cond.static yX3_isWithin, Cond.code yX3_isWithin cX3_isWithin 3 (some .boolean), Cond.methodLink RX3 168 yX1_planeNumber, Cond.instanceMethod yX1_planeNumber, Cond.selects RX1 yX1_planeNumber yX1_planeNumber, Cond.initialized RX1, Cond.code yX1_planeNumber cX1_planeNumber 3 (some .int), Cond.fieldLink RX1 9 "RoofDrains$Roof" "area" "[I"]
def wsL_planeOf_r2 : List Cond := [Cond.fieldLink RX1 15 "RoofDrains$Roof" "slope" "[I", Cond.fieldLink RX1 18 "RoofDrains$Roof" "leadsTo" "[I", Cond.fieldLink RX1 21 "RoofDrains$Roof" "onPlane" "[I"]
def wsL_planeOf : List Cond := .codeWith yL_planeOf cL_planeOf 5 (some .int) [(0, 10, 13, 13), (0, 10, 17, 15)] :: ((wsL_planeOf_r1 ++ wsL_planeOf_r2) ++ wsX30 ++ wsX10 ++ (vx_atS RX3 44 "java/lang/IndexOutOfBoundsException" ["java/lang/RuntimeException", "java/lang/Exception"]).filter goodWord ++ (vx_atS RX3 55 "java/lang/IllegalArgumentException" ["java/lang/RuntimeException", "java/lang/Exception"]).filter goodWord)
def wsL_gutterOf_r1 : List Cond := [Cond.classLink RL 13 "java/lang/IndexOutOfBoundsException", Cond.classLink RL 15 "java/lang/IllegalArgumentException", Cond.methodLink RL 53 yX3_gutterOf, Cond.instanceMethod yX3_gutterOf, Cond.selects RX3 yX3_gutterOf yX3_gutterOf, Cond.initialized RX3, Cond.code yX3_gutterOf cX3_gutterOf 3 (some .int), Cond.classLink RX3 40 "java/lang/IndexOutOfBoundsException", Cond.initialized "java/lang/IndexOutOfBoundsException", Cond.classLink RX3 51 "java/lang/IllegalArgumentException", Cond.initialized "java/lang/IllegalArgumentException", Cond.fieldLink RX3 10 "RoofDrains" "roof" "LRoofDrains$Roof;", Cond.methodLink RX3 37 yX3_isGutter, Cond.static yX3_isGutter, Cond.code yX3_isGutter cX3_isGutter 1 (some .boolean), Cond.methodLink RX3 47 yX3_isWithin, Cond.static yX3_isWithin, Cond.code yX3_isWithin cX3_isWithin 3 (some .boolean), Cond.methodLink RX3 173 yX1_gutterNumber, Cond.instanceMethod yX1_gutterNumber, Cond.selects RX1 yX1_gutterNumber yX1_gutterNumber, Cond.initialized RX1, Cond.code yX1_gutterNumber cX1_gutterNumber 3 (some .int), Cond.fieldLink RX1 24 "RoofDrains$Roof" "size" "[I"]
def wsL_gutterOf_r2 : List Cond := [Cond.fieldLink RX1 27 "RoofDrains$Roof" "bore" "[I", Cond.fieldLink RX1 30 "RoofDrains$Roof" "leaves" "[I", Cond.fieldLink RX1 33 "RoofDrains$Roof" "valleyTo" "[I", Cond.fieldLink RX1 36 "RoofDrains$Roof" "inGutter" "[I", Cond.fieldLink RX1 39 "RoofDrains$Roof" "spilt" "[I", Cond.fieldLink RX1 42 "RoofDrains$Roof" "drained" "[I", Cond.methodLink RX1 95 yX1_room, Cond.instanceMethod yX1_room, Cond.selects RX1 yX1_room yX1_room, Cond.code yX1_room cX1_room 2 (some .int), Cond.methodLink RX1 91 yX1_pipeTakes, Cond.instanceMethod yX1_pipeTakes, Cond.selects RX1 yX1_pipeTakes yX1_pipeTakes, Cond.code yX1_pipeTakes cX1_pipeTakes 3 (some .int)]
def wsL_gutterOf : List Cond := .codeWith yL_gutterOf cL_gutterOf 5 (some .int) [(0, 10, 13, 13), (0, 10, 17, 15)] :: ((wsL_gutterOf_r1 ++ wsL_gutterOf_r2) ++ wsX30 ++ wsX10 ++ (vx_atS RX3 44 "java/lang/IndexOutOfBoundsException" ["java/lang/RuntimeException", "java/lang/Exception"]).filter goodWord ++ (vx_atS RX3 55 "java/lang/IllegalArgumentException" ["java/lang/RuntimeException", "java/lang/Exception"]).filter goodWord)
def wsL_count_r1 : List Cond := [Cond.classLink RL 15 "java/lang/IllegalArgumentException", Cond.methodLink RL 56 yX3_count, Cond.instanceMethod yX3_count, Cond.selects RX3 yX3_count yX3_count, Cond.initialized RX3, Cond.code yX3_count cX3_count 2 (some .int), Cond.classLink RX3 51 "java/lang/IllegalArgumentException", Cond.initialized "java/lang/IllegalArgumentException", Cond.fieldLink RX3 10 "RoofDrains" "roof" "LRoofDrains$Roof;", Cond.fieldLink RX3 22 "RoofDrains" "saved" "LRoofDrains$SavedRoofs;", Cond.methodLink RX3 176 yX1_minutesGone, Cond.instanceMethod yX1_minutesGone, Cond.selects RX1 yX1_minutesGone yX1_minutesGone, Cond.initialized RX1, Cond.code yX1_minutesGone cX1_minutesGone 1 (some .int), Cond.fieldLink RX1 54 "RoofDrains$Roof" "minutesGone" "I", Cond.methodLink RX3 179 yX1_weeksPassed, Cond.instanceMethod yX1_weeksPassed, Cond.selects RX1 yX1_weeksPassed yX1_weeksPassed, Cond.code yX1_weeksPassed cX1_weeksPassed 1 (some .int), Cond.fieldLink RX1 58 "RoofDrains$Roof" "weeksPassed" "I", Cond.methodLink RX3 182 yX1_rainedLitres, Cond.instanceMethod yX1_rainedLitres, Cond.selects RX1 yX1_rainedLitres yX1_rainedLitres]
def wsL_count_r2 : List Cond := [Cond.code yX1_rainedLitres cX1_rainedLitres 1 (some .int), Cond.fieldLink RX1 61 "RoofDrains$Roof" "rained" "I", Cond.methodLink RX3 185 yX1_standingLitres, Cond.instanceMethod yX1_standingLitres, Cond.selects RX1 yX1_standingLitres yX1_standingLitres, Cond.code yX1_standingLitres cX1_standingLitres 1 (some .int), Cond.fieldLink RX1 21 "RoofDrains$Roof" "onPlane" "[I", Cond.fieldLink RX1 36 "RoofDrains$Roof" "inGutter" "[I", Cond.methodLink RX1 98 yX1_sumOf, Cond.static yX1_sumOf, Cond.code yX1_sumOf cX1_sumOf 6 (some .int), Cond.methodLink RX3 188 yX1_drainedLitres, Cond.instanceMethod yX1_drainedLitres, Cond.selects RX1 yX1_drainedLitres yX1_drainedLitres, Cond.code yX1_drainedLitres cX1_drainedLitres 1 (some .int), Cond.fieldLink RX1 42 "RoofDrains$Roof" "drained" "[I", Cond.methodLink RX3 107 yX1_spiltLitres, Cond.instanceMethod yX1_spiltLitres, Cond.selects RX1 yX1_spiltLitres yX1_spiltLitres, Cond.code yX1_spiltLitres cX1_spiltLitres 1 (some .int), Cond.fieldLink RX1 39 "RoofDrains$Roof" "spilt" "[I", Cond.methodLink RX3 191 yX1_backedUpMinutes, Cond.instanceMethod yX1_backedUpMinutes, Cond.selects RX1 yX1_backedUpMinutes yX1_backedUpMinutes]
def wsL_count_r3 : List Cond := [Cond.code yX1_backedUpMinutes cX1_backedUpMinutes 1 (some .int), Cond.fieldLink RX1 64 "RoofDrains$Roof" "backedUp" "I", Cond.methodLink RX3 120 yX1_leavesTogether, Cond.instanceMethod yX1_leavesTogether, Cond.selects RX1 yX1_leavesTogether yX1_leavesTogether, Cond.code yX1_leavesTogether cX1_leavesTogether 1 (some .int), Cond.fieldLink RX1 30 "RoofDrains$Roof" "leaves" "[I", Cond.methodLink RX3 161 yX2_held, Cond.instanceMethod yX2_held, Cond.selects RX2 yX2_held yX2_held, Cond.initialized RX2, Cond.code yX2_held cX2_held 1 (some .int), Cond.fieldLink RX2 15 "RoofDrains$SavedRoofs" "held" "I"]
def wsL_count : List Cond := .codeWith yL_count cL_count 4 (some .int) [(0, 9, 12, 15)] :: ((wsL_count_r1 ++ (wsL_count_r2 ++ wsL_count_r3)) ++ wsX30 ++ wsX10 ++ wsX20 ++ (vx_atS RX3 55 "java/lang/IllegalArgumentException" ["java/lang/RuntimeException", "java/lang/Exception"]).filter goodWord)
def wsL_setting : List Cond := .codeWith yL_setting cL_setting 4 (some .int) [(0, 9, 12, 13)] :: ([.classLink RL 13 "java/lang/IndexOutOfBoundsException", .methodLink RL 59 yX3_setting, .instanceMethod yX3_setting, .selects RX3 yX3_setting yX3_setting, .initialized RX3, .code yX3_setting cX3_setting 2 (some .int), .classLink RX3 40 "java/lang/IndexOutOfBoundsException", .initialized "java/lang/IndexOutOfBoundsException", .fieldLink RX3 10 "RoofDrains" "roof" "LRoofDrains$Roof;", .methodLink RX3 91 yX3_isSetting, .static yX3_isSetting, .code yX3_isSetting cX3_isSetting 1 (some .boolean), .methodLink RX3 194 yX1_settingValue, .instanceMethod yX1_settingValue, .selects RX1 yX1_settingValue yX1_settingValue, .initialized RX1, .code yX1_settingValue cX1_settingValue 2 (some .int), .fieldLink RX1 45 "RoofDrains$Roof" "values" "[I"] ++ wsX30 ++ wsX10 ++ (vx_atS RX3 44 "java/lang/IndexOutOfBoundsException" ["java/lang/RuntimeException", "java/lang/Exception"]).filter goodWord)
def wsL_ifRained_r1 : List Cond := [Cond.classLink RL 15 "java/lang/IllegalArgumentException", Cond.methodLink RL 62 yX3_ifRained, Cond.instanceMethod yX3_ifRained, Cond.selects RX3 yX3_ifRained yX3_ifRained, Cond.initialized RX3, Cond.code yX3_ifRained cX3_ifRained 3 (some .int), Cond.classLink RX3 51 "java/lang/IllegalArgumentException", Cond.initialized "java/lang/IllegalArgumentException", Cond.fieldLink RX3 16 "RoofDrains" "thought" "LRoofDrains$Roof;", Cond.fieldLink RX3 10 "RoofDrains" "roof" "LRoofDrains$Roof;", Cond.methodLink RX3 47 yX3_isWithin, Cond.static yX3_isWithin, Cond.code yX3_isWithin cX3_isWithin 3 (some .boolean), Cond.methodLink RX3 158 yX1_copyFrom, Cond.instanceMethod yX1_copyFrom, Cond.selects RX1 yX1_copyFrom yX1_copyFrom, Cond.initialized RX1, Cond.code yX1_copyFrom cX1_copyFrom 2 none, Cond.fieldLink RX1 9 "RoofDrains$Roof" "area" "[I", Cond.methodLink RX1 48 arraycopyName, Cond.native arraycopyName, Cond.static arraycopyName, Cond.initialized "java/lang/System", Cond.fieldLink RX1 15 "RoofDrains$Roof" "slope" "[I"]
def wsL_ifRained_r2 : List Cond := [Cond.fieldLink RX1 18 "RoofDrains$Roof" "leadsTo" "[I", Cond.fieldLink RX1 21 "RoofDrains$Roof" "onPlane" "[I", Cond.fieldLink RX1 24 "RoofDrains$Roof" "size" "[I", Cond.fieldLink RX1 27 "RoofDrains$Roof" "bore" "[I", Cond.fieldLink RX1 30 "RoofDrains$Roof" "leaves" "[I", Cond.fieldLink RX1 33 "RoofDrains$Roof" "valleyTo" "[I", Cond.fieldLink RX1 36 "RoofDrains$Roof" "inGutter" "[I", Cond.fieldLink RX1 39 "RoofDrains$Roof" "spilt" "[I", Cond.fieldLink RX1 42 "RoofDrains$Roof" "drained" "[I", Cond.fieldLink RX1 45 "RoofDrains$Roof" "values" "[I", Cond.fieldLink RX1 54 "RoofDrains$Roof" "minutesGone" "I", Cond.fieldLink RX1 58 "RoofDrains$Roof" "weeksPassed" "I", Cond.fieldLink RX1 61 "RoofDrains$Roof" "rained" "I", Cond.fieldLink RX1 64 "RoofDrains$Roof" "backedUp" "I", Cond.methodLink RX3 194 yX1_settingValue, Cond.instanceMethod yX1_settingValue, Cond.selects RX1 yX1_settingValue yX1_settingValue, Cond.code yX1_settingValue cX1_settingValue 2 (some .int), Cond.methodLink RX3 111 yX1_passMinutes, Cond.instanceMethod yX1_passMinutes, Cond.selects RX1 yX1_passMinutes yX1_passMinutes, Cond.code yX1_passMinutes cX1_passMinutes 4 none, Cond.methodLink RX1 71 yX1_passMinute, Cond.instanceMethod yX1_passMinute]
def wsL_ifRained_r3 : List Cond := [Cond.selects RX1 yX1_passMinute yX1_passMinute, Cond.code yX1_passMinute cX1_passMinute 3 none, Cond.methodLink RX1 75 yX1_wetPlane, Cond.instanceMethod yX1_wetPlane, Cond.selects RX1 yX1_wetPlane yX1_wetPlane, Cond.code yX1_wetPlane cX1_wetPlane 6 none, Cond.static yX3_isGutter, Cond.code yX3_isGutter cX3_isGutter 1 (some .boolean), Cond.methodLink RX1 79 yX1_emptyIntoDrain, Cond.instanceMethod yX1_emptyIntoDrain, Cond.selects RX1 yX1_emptyIntoDrain yX1_emptyIntoDrain, Cond.code yX1_emptyIntoDrain cX1_emptyIntoDrain 6 none, Cond.methodLink RX1 85 Lib.Math.min.name, Cond.static Lib.Math.min.name, Cond.initialized "java/lang/Math", Cond.code Lib.Math.min.name Lib.Math.min.code 2 (some .int), Cond.methodLink RX1 91 yX1_pipeTakes, Cond.instanceMethod yX1_pipeTakes, Cond.selects RX1 yX1_pipeTakes yX1_pipeTakes, Cond.code yX1_pipeTakes cX1_pipeTakes 3 (some .int), Cond.methodLink RX1 82 yX1_overflow, Cond.instanceMethod yX1_overflow, Cond.selects RX1 yX1_overflow yX1_overflow, Cond.code yX1_overflow cX1_overflow 4 none]
def wsL_ifRained_r4 : List Cond := [Cond.methodLink RX1 95 yX1_room, Cond.instanceMethod yX1_room, Cond.selects RX1 yX1_room yX1_room, Cond.code yX1_room cX1_room 2 (some .int), Cond.methodLink RX3 107 yX1_spiltLitres, Cond.instanceMethod yX1_spiltLitres, Cond.selects RX1 yX1_spiltLitres yX1_spiltLitres, Cond.code yX1_spiltLitres cX1_spiltLitres 1 (some .int), Cond.methodLink RX1 98 yX1_sumOf, Cond.static yX1_sumOf, Cond.code yX1_sumOf cX1_sumOf 6 (some .int), Cond.methodLink RX3 188 yX1_drainedLitres, Cond.instanceMethod yX1_drainedLitres, Cond.selects RX1 yX1_drainedLitres yX1_drainedLitres, Cond.code yX1_drainedLitres cX1_drainedLitres 1 (some .int), Cond.methodLink RX3 185 yX1_standingLitres, Cond.instanceMethod yX1_standingLitres, Cond.selects RX1 yX1_standingLitres yX1_standingLitres, Cond.code yX1_standingLitres cX1_standingLitres 1 (some .int)]
def wsL_ifRained : List Cond := .codeWith yL_ifRained cL_ifRained 5 (some .int) [(0, 10, 13, 15)] :: ((wsL_ifRained_r1 ++ (wsL_ifRained_r2 ++ (wsL_ifRained_r3 ++ wsL_ifRained_r4))) ++ wsX30 ++ wsX10 ++ (vx_atS RX3 55 "java/lang/IllegalArgumentException" ["java/lang/RuntimeException", "java/lang/Exception"]).filter goodWord)
def wsL_spillsFirst_r1 : List Cond := [Cond.classLink RL 15 "java/lang/IllegalArgumentException", Cond.methodLink RL 65 yX3_spillsFirst, Cond.instanceMethod yX3_spillsFirst, Cond.selects RX3 yX3_spillsFirst yX3_spillsFirst, Cond.initialized RX3, Cond.code yX3_spillsFirst cX3_spillsFirst 4 (some .int), Cond.classLink RX3 51 "java/lang/IllegalArgumentException", Cond.initialized "java/lang/IllegalArgumentException", Cond.fieldLink RX3 16 "RoofDrains" "thought" "LRoofDrains$Roof;", Cond.fieldLink RX3 10 "RoofDrains" "roof" "LRoofDrains$Roof;", Cond.methodLink RX3 47 yX3_isWithin, Cond.static yX3_isWithin, Cond.code yX3_isWithin cX3_isWithin 3 (some .boolean), Cond.methodLink RX3 158 yX1_copyFrom, Cond.instanceMethod yX1_copyFrom, Cond.selects RX1 yX1_copyFrom yX1_copyFrom, Cond.initialized RX1, Cond.code yX1_copyFrom cX1_copyFrom 2 none, Cond.fieldLink RX1 9 "RoofDrains$Roof" "area" "[I", Cond.methodLink RX1 48 arraycopyName, Cond.native arraycopyName, Cond.static arraycopyName, Cond.initialized "java/lang/System", Cond.fieldLink RX1 15 "RoofDrains$Roof" "slope" "[I"]
def wsL_spillsFirst_r2 : List Cond := [Cond.fieldLink RX1 18 "RoofDrains$Roof" "leadsTo" "[I", Cond.fieldLink RX1 21 "RoofDrains$Roof" "onPlane" "[I", Cond.fieldLink RX1 24 "RoofDrains$Roof" "size" "[I", Cond.fieldLink RX1 27 "RoofDrains$Roof" "bore" "[I", Cond.fieldLink RX1 30 "RoofDrains$Roof" "leaves" "[I", Cond.fieldLink RX1 33 "RoofDrains$Roof" "valleyTo" "[I", Cond.fieldLink RX1 36 "RoofDrains$Roof" "inGutter" "[I", Cond.fieldLink RX1 39 "RoofDrains$Roof" "spilt" "[I", Cond.fieldLink RX1 42 "RoofDrains$Roof" "drained" "[I", Cond.fieldLink RX1 45 "RoofDrains$Roof" "values" "[I", Cond.fieldLink RX1 54 "RoofDrains$Roof" "minutesGone" "I", Cond.fieldLink RX1 58 "RoofDrains$Roof" "weeksPassed" "I", Cond.fieldLink RX1 61 "RoofDrains$Roof" "rained" "I", Cond.fieldLink RX1 64 "RoofDrains$Roof" "backedUp" "I", Cond.methodLink RX3 194 yX1_settingValue, Cond.instanceMethod yX1_settingValue, Cond.selects RX1 yX1_settingValue yX1_settingValue, Cond.code yX1_settingValue cX1_settingValue 2 (some .int), Cond.methodLink RX3 201 yX1_passMinute, Cond.instanceMethod yX1_passMinute, Cond.selects RX1 yX1_passMinute yX1_passMinute, Cond.code yX1_passMinute cX1_passMinute 3 none, Cond.methodLink RX1 75 yX1_wetPlane, Cond.instanceMethod yX1_wetPlane]
def wsL_spillsFirst_r3 : List Cond := [Cond.selects RX1 yX1_wetPlane yX1_wetPlane, Cond.code yX1_wetPlane cX1_wetPlane 6 none, Cond.static yX3_isGutter, Cond.code yX3_isGutter cX3_isGutter 1 (some .boolean), Cond.methodLink RX1 79 yX1_emptyIntoDrain, Cond.instanceMethod yX1_emptyIntoDrain, Cond.selects RX1 yX1_emptyIntoDrain yX1_emptyIntoDrain, Cond.code yX1_emptyIntoDrain cX1_emptyIntoDrain 6 none, Cond.methodLink RX1 85 Lib.Math.min.name, Cond.static Lib.Math.min.name, Cond.initialized "java/lang/Math", Cond.code Lib.Math.min.name Lib.Math.min.code 2 (some .int), Cond.methodLink RX1 91 yX1_pipeTakes, Cond.instanceMethod yX1_pipeTakes, Cond.selects RX1 yX1_pipeTakes yX1_pipeTakes, Cond.code yX1_pipeTakes cX1_pipeTakes 3 (some .int), Cond.methodLink RX1 82 yX1_overflow, Cond.instanceMethod yX1_overflow, Cond.selects RX1 yX1_overflow yX1_overflow, Cond.code yX1_overflow cX1_overflow 4 none, Cond.methodLink RX1 95 yX1_room, Cond.instanceMethod yX1_room, Cond.selects RX1 yX1_room yX1_room, Cond.code yX1_room cX1_room 2 (some .int)]
def wsL_spillsFirst_r4 : List Cond := [Cond.methodLink RX3 204 yX1_lowestThatSpiltMoreThanIn, Cond.instanceMethod yX1_lowestThatSpiltMoreThanIn, Cond.selects RX1 yX1_lowestThatSpiltMoreThanIn yX1_lowestThatSpiltMoreThanIn, Cond.code yX1_lowestThatSpiltMoreThanIn cX1_lowestThatSpiltMoreThanIn 3 (some .int)]
def wsL_spillsFirst : List Cond := .codeWith yL_spillsFirst cL_spillsFirst 4 (some .int) [(0, 9, 12, 15)] :: ((wsL_spillsFirst_r1 ++ (wsL_spillsFirst_r2 ++ (wsL_spillsFirst_r3 ++ wsL_spillsFirst_r4))) ++ wsX30 ++ wsX10 ++ (vx_atS RX3 55 "java/lang/IllegalArgumentException" ["java/lang/RuntimeException", "java/lang/Exception"]).filter goodWord)
def wsL_mostRain_r1 : List Cond := [Cond.classLink RL 15 "java/lang/IllegalArgumentException", Cond.methodLink RL 68 yX3_mostRain, Cond.instanceMethod yX3_mostRain, Cond.selects RX3 yX3_mostRain yX3_mostRain, Cond.initialized RX3, Cond.code yX3_mostRain cX3_mostRain 3 (some .int), Cond.classLink RX3 51 "java/lang/IllegalArgumentException", Cond.initialized "java/lang/IllegalArgumentException", Cond.methodLink RX3 47 yX3_isWithin, Cond.static yX3_isWithin, Cond.code yX3_isWithin cX3_isWithin 3 (some .boolean), Cond.methodLink RX3 216 yX3_wouldSpill, Cond.instanceMethod yX3_wouldSpill, Cond.selects RX3 yX3_wouldSpill yX3_wouldSpill, Cond.code yX3_wouldSpill cX3_wouldSpill 4 (some .boolean), Cond.fieldLink RX3 16 "RoofDrains" "thought" "LRoofDrains$Roof;", Cond.fieldLink RX3 10 "RoofDrains" "roof" "LRoofDrains$Roof;", Cond.methodLink RX3 158 yX1_copyFrom, Cond.instanceMethod yX1_copyFrom, Cond.selects RX1 yX1_copyFrom yX1_copyFrom, Cond.initialized RX1, Cond.code yX1_copyFrom cX1_copyFrom 2 none, Cond.fieldLink RX1 9 "RoofDrains$Roof" "area" "[I", Cond.methodLink RX1 48 arraycopyName]
def wsL_mostRain_r2 : List Cond := [Cond.native arraycopyName, Cond.static arraycopyName, Cond.initialized "java/lang/System", Cond.fieldLink RX1 15 "RoofDrains$Roof" "slope" "[I", Cond.fieldLink RX1 18 "RoofDrains$Roof" "leadsTo" "[I", Cond.fieldLink RX1 21 "RoofDrains$Roof" "onPlane" "[I", Cond.fieldLink RX1 24 "RoofDrains$Roof" "size" "[I", Cond.fieldLink RX1 27 "RoofDrains$Roof" "bore" "[I", Cond.fieldLink RX1 30 "RoofDrains$Roof" "leaves" "[I", Cond.fieldLink RX1 33 "RoofDrains$Roof" "valleyTo" "[I", Cond.fieldLink RX1 36 "RoofDrains$Roof" "inGutter" "[I", Cond.fieldLink RX1 39 "RoofDrains$Roof" "spilt" "[I", Cond.fieldLink RX1 42 "RoofDrains$Roof" "drained" "[I", Cond.fieldLink RX1 45 "RoofDrains$Roof" "values" "[I", Cond.fieldLink RX1 54 "RoofDrains$Roof" "minutesGone" "I", Cond.fieldLink RX1 58 "RoofDrains$Roof" "weeksPassed" "I", Cond.fieldLink RX1 61 "RoofDrains$Roof" "rained" "I", Cond.fieldLink RX1 64 "RoofDrains$Roof" "backedUp" "I", Cond.methodLink RX3 201 yX1_passMinute, Cond.instanceMethod yX1_passMinute, Cond.selects RX1 yX1_passMinute yX1_passMinute, Cond.code yX1_passMinute cX1_passMinute 3 none, Cond.methodLink RX1 75 yX1_wetPlane, Cond.instanceMethod yX1_wetPlane]
def wsL_mostRain_r3 : List Cond := [Cond.selects RX1 yX1_wetPlane yX1_wetPlane, Cond.code yX1_wetPlane cX1_wetPlane 6 none, Cond.static yX3_isGutter, Cond.code yX3_isGutter cX3_isGutter 1 (some .boolean), Cond.methodLink RX1 79 yX1_emptyIntoDrain, Cond.instanceMethod yX1_emptyIntoDrain, Cond.selects RX1 yX1_emptyIntoDrain yX1_emptyIntoDrain, Cond.code yX1_emptyIntoDrain cX1_emptyIntoDrain 6 none, Cond.methodLink RX1 85 Lib.Math.min.name, Cond.static Lib.Math.min.name, Cond.initialized "java/lang/Math", Cond.code Lib.Math.min.name Lib.Math.min.code 2 (some .int), Cond.methodLink RX1 91 yX1_pipeTakes, Cond.instanceMethod yX1_pipeTakes, Cond.selects RX1 yX1_pipeTakes yX1_pipeTakes, Cond.code yX1_pipeTakes cX1_pipeTakes 3 (some .int), Cond.methodLink RX1 82 yX1_overflow, Cond.instanceMethod yX1_overflow, Cond.selects RX1 yX1_overflow yX1_overflow, Cond.code yX1_overflow cX1_overflow 4 none, Cond.methodLink RX1 95 yX1_room, Cond.instanceMethod yX1_room, Cond.selects RX1 yX1_room yX1_room, Cond.code yX1_room cX1_room 2 (some .int)]
def wsL_mostRain_r4 : List Cond := [Cond.methodLink RX3 204 yX1_lowestThatSpiltMoreThanIn, Cond.instanceMethod yX1_lowestThatSpiltMoreThanIn, Cond.selects RX1 yX1_lowestThatSpiltMoreThanIn yX1_lowestThatSpiltMoreThanIn, Cond.code yX1_lowestThatSpiltMoreThanIn cX1_lowestThatSpiltMoreThanIn 3 (some .int)]
def wsL_mostRain : List Cond := .codeWith yL_mostRain cL_mostRain 4 (some .int) [(0, 9, 12, 15)] :: ((wsL_mostRain_r1 ++ (wsL_mostRain_r2 ++ (wsL_mostRain_r3 ++ wsL_mostRain_r4))) ++ wsX30 ++ wsX10 ++ (vx_atS RX3 55 "java/lang/IllegalArgumentException" ["java/lang/RuntimeException", "java/lang/Exception"]).filter goodWord)
def wsL_law0_r1 : List Cond := [Cond.classLink RL 8 RX3, Cond.instantiable RX3 4, Cond.initialized RX3, Cond.classLink RL 72 RX4, Cond.instantiable RX4 12, Cond.initialized RX4, Cond.arrayClass .long, Cond.methodLink RL 71 yX3_init, Cond.instanceMethod yX3_init, Cond.code yX3_init cX3_init 1 none, Cond.methodLink RX3 1 objectInit, Cond.instanceMethod objectInit, Cond.code objectInit ⟨#[0xb1]⟩ 1 none, Cond.classLink RX3 7 RX1, Cond.instantiable RX1 16, Cond.initialized RX1, Cond.fieldLink RX3 10 "RoofDrains" "roof" "LRoofDrains$Roof;", Cond.fieldLink RX3 16 "RoofDrains" "thought" "LRoofDrains$Roof;", Cond.classLink RX3 19 RX2, Cond.instantiable RX2 3, Cond.initialized RX2, Cond.fieldLink RX3 22 "RoofDrains" "saved" "LRoofDrains$SavedRoofs;", Cond.classLink RX3 26 RX0, Cond.instantiable RX0 2]
def wsL_law0_r2 : List Cond := [Cond.initialized RX0, Cond.fieldLink RX3 29 "RoofDrains" "text" "LRoofDrains$RainText;", Cond.methodLink RX3 9 yX1_init, Cond.instanceMethod yX1_init, Cond.code yX1_init cX1_init 2 none, Cond.methodLink RX1 3 objectInit, Cond.arrayClass .int, Cond.fieldLink RX1 9 "RoofDrains$Roof" "area" "[I", Cond.fieldLink RX1 15 "RoofDrains$Roof" "slope" "[I", Cond.fieldLink RX1 18 "RoofDrains$Roof" "leadsTo" "[I", Cond.fieldLink RX1 21 "RoofDrains$Roof" "onPlane" "[I", Cond.fieldLink RX1 24 "RoofDrains$Roof" "size" "[I", Cond.fieldLink RX1 27 "RoofDrains$Roof" "bore" "[I", Cond.fieldLink RX1 30 "RoofDrains$Roof" "leaves" "[I", Cond.fieldLink RX1 33 "RoofDrains$Roof" "valleyTo" "[I", Cond.fieldLink RX1 36 "RoofDrains$Roof" "inGutter" "[I", Cond.fieldLink RX1 39 "RoofDrains$Roof" "spilt" "[I", Cond.fieldLink RX1 42 "RoofDrains$Roof" "drained" "[I", Cond.fieldLink RX1 45 "RoofDrains$Roof" "values" "[I", Cond.methodLink RX3 21 yX2_init, Cond.instanceMethod yX2_init, Cond.code yX2_init cX2_init 1 none, Cond.methodLink RX2 1 objectInit, Cond.classLink RX2 9 RX1]
def wsL_law0_r3 : List Cond := [Cond.fieldLink RX2 11 "RoofDrains$SavedRoofs" "rows" "[LRoofDrains$Roof;", Cond.methodLink RX3 28 yX0_init, Cond.instanceMethod yX0_init, Cond.code yX0_init cX0_init 1 none, Cond.methodLink RX0 1 objectInit, Cond.fieldLink RX0 9 "RoofDrains$RainText" "codes" "[I", Cond.methodLink RL 74 yX4_init, Cond.instanceMethod yX4_init, Cond.code yX4_init cX4_init 2 none, Cond.methodLink RX4 1 objectInit, Cond.fieldLink RX4 7 "RoofDrainsModel" "s" "[I", Cond.fieldLink RX4 13 "RoofDrainsModel" "aside" "[I", Cond.fieldLink RX4 16 "RoofDrainsModel" "saved" "[I", Cond.fieldLink RX4 19 "RoofDrainsModel" "buffer" "[I", Cond.fieldLink RX4 22 "RoofDrainsModel" "parts" "[I", Cond.fieldLink RX4 25 "RoofDrainsModel" "thrown" "I", Cond.methodLink RL 75 yL_plane, Cond.static yL_plane, Cond.initialized RL, Cond.codeWith yL_plane cL_plane 7 (some .int) [(0, 14, 17, 13), (0, 14, 21, 15)], Cond.classLink RL 13 "java/lang/IndexOutOfBoundsException", Cond.classLink RL 15 "java/lang/IllegalArgumentException", Cond.methodLink RL 7 yX3_plane, Cond.instanceMethod yX3_plane]
def wsL_law0_r4 : List Cond := [Cond.selects RX3 yX3_plane yX3_plane, Cond.code yX3_plane cX3_plane 5 (some .int), Cond.classLink RX3 40 "java/lang/IndexOutOfBoundsException", Cond.initialized "java/lang/IndexOutOfBoundsException", Cond.classLink RX3 51 "java/lang/IllegalArgumentException", Cond.initialized "java/lang/IllegalArgumentException", Cond.methodLink RX3 33 yX3_isPlane, Cond.static yX3_isPlane, Cond.code yX3_isPlane cX3_isPlane 1 (some .boolean), Cond.methodLink RX3 37 yX3_isGutter, Cond.static yX3_isGutter, Cond.code yX3_isGutter cX3_isGutter 1 (some .boolean), Cond.methodLink RX3 47 yX3_isWithin, Cond.static yX3_isWithin, Cond.code yX3_isWithin cX3_isWithin 3 (some .boolean), Cond.methodLink RX3 56 yX2_keep, Cond.instanceMethod yX2_keep, Cond.selects RX2 yX2_keep yX2_keep, Cond.code yX2_keep cX2_keep 4 none, Cond.fieldLink RX2 15 "RoofDrains$SavedRoofs" "held" "I", Cond.fieldLink RX2 19 "RoofDrains$SavedRoofs" "oldest" "I", Cond.methodLink RX2 22 yX1_init, Cond.methodLink RX2 23 yX1_copyFrom, Cond.instanceMethod yX1_copyFrom]
def wsL_law0_r5 : List Cond := [Cond.selects RX1 yX1_copyFrom yX1_copyFrom, Cond.code yX1_copyFrom cX1_copyFrom 2 none, Cond.methodLink RX1 48 arraycopyName, Cond.native arraycopyName, Cond.static arraycopyName, Cond.initialized "java/lang/System", Cond.fieldLink RX1 54 "RoofDrains$Roof" "minutesGone" "I", Cond.fieldLink RX1 58 "RoofDrains$Roof" "weeksPassed" "I", Cond.fieldLink RX1 61 "RoofDrains$Roof" "rained" "I", Cond.fieldLink RX1 64 "RoofDrains$Roof" "backedUp" "I", Cond.methodLink RX3 60 yX1_changePlane, Cond.instanceMethod yX1_changePlane, Cond.selects RX1 yX1_changePlane yX1_changePlane, Cond.code yX1_changePlane cX1_changePlane 6 (some .int), Cond.methodLink RL 80 yX4_plane, Cond.instanceMethod yX4_plane, Cond.selects RX4 yX4_plane yX4_plane, Cond.code yX4_plane cX4_plane 6 (some .int), Cond.methodLink RX4 69 yX4_isOne, Cond.static yX4_isOne, Cond.code yX4_isOne cX4_isOne 1 (some .boolean), Cond.methodLink RX4 29 yX4_in, Cond.static yX4_in, Cond.code yX4_in cX4_in 3 (some .boolean)]
def wsL_law0_r6 : List Cond := [Cond.methodLink RX4 73 yX4_fails, Cond.instanceMethod yX4_fails, Cond.selects RX4 yX4_fails yX4_fails, Cond.code yX4_fails cX4_fails 2 (some .int), Cond.methodLink RX4 76 yX4_saves, Cond.instanceMethod yX4_saves, Cond.selects RX4 yX4_saves yX4_saves, Cond.code yX4_saves cX4_saves 2 none, Cond.fieldLink RX4 33 "RoofDrainsModel" "savedMany" "I", Cond.methodLink RX4 40 yX4_ofPlane, Cond.instanceMethod yX4_ofPlane, Cond.selects RX4 yX4_ofPlane yX4_ofPlane, Cond.code yX4_ofPlane cX4_ofPlane 3 (some .int), Cond.methodLink RL 81 yX4_thrown, Cond.instanceMethod yX4_thrown, Cond.selects RX4 yX4_thrown yX4_thrown, Cond.code yX4_thrown cX4_thrown 1 (some .int), Cond.methodLink RL 84 yL_gutter, Cond.static yL_gutter, Cond.codeWith yL_gutter cL_gutter 6 (some .int) [(0, 12, 15, 13), (0, 12, 19, 15)], Cond.methodLink RL 17 yX3_gutter, Cond.instanceMethod yX3_gutter, Cond.selects RX3 yX3_gutter yX3_gutter, Cond.code yX3_gutter cX3_gutter 4 (some .int)]
def wsL_law0_r7 : List Cond := [Cond.methodLink RX3 68 yX1_changeGutter, Cond.instanceMethod yX1_changeGutter, Cond.selects RX1 yX1_changeGutter yX1_changeGutter, Cond.code yX1_changeGutter cX1_changeGutter 5 (some .int), Cond.methodLink RL 87 yX4_gutter, Cond.instanceMethod yX4_gutter, Cond.selects RX4 yX4_gutter yX4_gutter, Cond.code yX4_gutter cX4_gutter 5 (some .int), Cond.methodLink RX4 36 yX4_of, Cond.instanceMethod yX4_of, Cond.selects RX4 yX4_of yX4_of, Cond.code yX4_of cX4_of 3 (some .int), Cond.methodLink RL 88 yL_valley, Cond.static yL_valley, Cond.codeWith yL_valley cL_valley 5 (some .int) [(0, 10, 13, 13), (0, 10, 17, 15), (0, 10, 21, 25)], Cond.classLink RL 25 "java/lang/IllegalStateException", Cond.methodLink RL 21 yX3_valley, Cond.instanceMethod yX3_valley, Cond.selects RX3 yX3_valley yX3_valley, Cond.code yX3_valley cX3_valley 3 (some .int), Cond.classLink RX3 78 "java/lang/IllegalStateException", Cond.initialized "java/lang/IllegalStateException", Cond.methodLink RX3 74 yX1_valleysLead, Cond.instanceMethod yX1_valleysLead]
def wsL_law0_r8 : List Cond := [Cond.selects RX1 yX1_valleysLead yX1_valleysLead, Cond.code yX1_valleysLead cX1_valleysLead 5 (some .boolean), Cond.methodLink RX3 83 yX1_changeValley, Cond.instanceMethod yX1_changeValley, Cond.selects RX1 yX1_changeValley yX1_changeValley, Cond.code yX1_changeValley cX1_changeValley 4 (some .int), Cond.methodLink RL 91 yX4_valley, Cond.instanceMethod yX4_valley, Cond.selects RX4 yX4_valley yX4_valley, Cond.code yX4_valley cX4_valley 4 (some .int), Cond.methodLink RX4 79 yX4_leads, Cond.instanceMethod yX4_leads, Cond.selects RX4 yX4_leads yX4_leads, Cond.code yX4_leads cX4_leads 4 (some .boolean), Cond.methodLink RL 92 yL_clean, Cond.static yL_clean, Cond.codeWith yL_clean cL_clean 4 (some .int) [(0, 9, 12, 13)], Cond.methodLink RL 27 yX3_clean, Cond.instanceMethod yX3_clean, Cond.selects RX3 yX3_clean yX3_clean, Cond.code yX3_clean cX3_clean 2 (some .int), Cond.methodLink RX3 87 yX1_takeLeaves, Cond.instanceMethod yX1_takeLeaves, Cond.selects RX1 yX1_takeLeaves yX1_takeLeaves]
def wsL_law0_r9 : List Cond := [Cond.code yX1_takeLeaves cX1_takeLeaves 3 (some .int), Cond.methodLink RL 95 yX4_clean, Cond.instanceMethod yX4_clean, Cond.selects RX4 yX4_clean yX4_clean, Cond.code yX4_clean cX4_clean 3 (some .int), Cond.methodLink RL 96 yL_set, Cond.static yL_set, Cond.codeWith yL_set cL_set 5 (some .int) [(0, 10, 13, 13), (0, 10, 17, 15)], Cond.methodLink RL 31 yX3_set, Cond.instanceMethod yX3_set, Cond.selects RX3 yX3_set yX3_set, Cond.code yX3_set cX3_set 3 (some .int), Cond.fieldLink RX3 96 "RoofDrains" "MOST_OF_SETTING" "[I", Cond.methodLink RX3 91 yX3_isSetting, Cond.static yX3_isSetting, Cond.code yX3_isSetting cX3_isSetting 1 (some .boolean), Cond.methodLink RX3 102 yX1_changeSetting, Cond.instanceMethod yX1_changeSetting, Cond.selects RX1 yX1_changeSetting yX1_changeSetting, Cond.code yX1_changeSetting cX1_changeSetting 4 (some .int), Cond.methodLink RL 98 yX4_set, Cond.instanceMethod yX4_set, Cond.selects RX4 yX4_set yX4_set, Cond.code yX4_set cX4_set 4 (some .int)]
def wsL_law0_r10 : List Cond := [Cond.methodLink RL 99 yL_rain, Cond.static yL_rain, Cond.codeWith yL_rain cL_rain 5 (some .int) [(0, 10, 13, 15)], Cond.methodLink RL 34 yX3_rain, Cond.instanceMethod yX3_rain, Cond.selects RX3 yX3_rain yX3_rain, Cond.code yX3_rain cX3_rain 4 (some .int), Cond.methodLink RX3 107 yX1_spiltLitres, Cond.instanceMethod yX1_spiltLitres, Cond.selects RX1 yX1_spiltLitres yX1_spiltLitres, Cond.code yX1_spiltLitres cX1_spiltLitres 1 (some .int), Cond.methodLink RX1 98 yX1_sumOf, Cond.static yX1_sumOf, Cond.code yX1_sumOf cX1_sumOf 6 (some .int), Cond.methodLink RX3 111 yX1_passMinutes, Cond.instanceMethod yX1_passMinutes, Cond.selects RX1 yX1_passMinutes yX1_passMinutes, Cond.code yX1_passMinutes cX1_passMinutes 4 none, Cond.methodLink RX1 71 yX1_passMinute, Cond.instanceMethod yX1_passMinute, Cond.selects RX1 yX1_passMinute yX1_passMinute, Cond.code yX1_passMinute cX1_passMinute 3 none, Cond.methodLink RX1 75 yX1_wetPlane, Cond.instanceMethod yX1_wetPlane]
def wsL_law0_r11 : List Cond := [Cond.selects RX1 yX1_wetPlane yX1_wetPlane, Cond.code yX1_wetPlane cX1_wetPlane 6 none, Cond.methodLink RX1 79 yX1_emptyIntoDrain, Cond.instanceMethod yX1_emptyIntoDrain, Cond.selects RX1 yX1_emptyIntoDrain yX1_emptyIntoDrain, Cond.code yX1_emptyIntoDrain cX1_emptyIntoDrain 6 none, Cond.methodLink RX1 85 Lib.Math.min.name, Cond.static Lib.Math.min.name, Cond.initialized "java/lang/Math", Cond.code Lib.Math.min.name Lib.Math.min.code 2 (some .int), Cond.methodLink RX1 91 yX1_pipeTakes, Cond.instanceMethod yX1_pipeTakes, Cond.selects RX1 yX1_pipeTakes yX1_pipeTakes, Cond.code yX1_pipeTakes cX1_pipeTakes 3 (some .int), Cond.methodLink RX1 82 yX1_overflow, Cond.instanceMethod yX1_overflow, Cond.selects RX1 yX1_overflow yX1_overflow, Cond.code yX1_overflow cX1_overflow 4 none, Cond.methodLink RX1 95 yX1_room, Cond.instanceMethod yX1_room, Cond.selects RX1 yX1_room yX1_room, Cond.code yX1_room cX1_room 2 (some .int), Cond.methodLink RL 101 yX4_rain, Cond.instanceMethod yX4_rain]
def wsL_law0_r12 : List Cond := [Cond.selects RX4 yX4_rain yX4_rain, Cond.code yX4_rain cX4_rain 3 (some .int), Cond.methodLink RX4 83 yX4_rains, Cond.instanceMethod yX4_rains, Cond.selects RX4 yX4_rains yX4_rains, Cond.code yX4_rains cX4_rains 5 (some .int), Cond.methodLink RX4 66 yX4_minute, Cond.instanceMethod yX4_minute, Cond.selects RX4 yX4_minute yX4_minute, Cond.code yX4_minute cX4_minute 3 none, Cond.methodLink RX4 54 yX4_sends, Cond.instanceMethod yX4_sends, Cond.selects RX4 yX4_sends yX4_sends, Cond.code yX4_sends cX4_sends 6 none, Cond.methodLink RX4 43 yX4_adds, Cond.instanceMethod yX4_adds, Cond.selects RX4 yX4_adds yX4_adds, Cond.code yX4_adds cX4_adds 4 none, Cond.methodLink RX4 58 yX4_drains, Cond.instanceMethod yX4_drains, Cond.selects RX4 yX4_drains yX4_drains, Cond.code yX4_drains cX4_drains 6 (some .boolean), Cond.methodLink RX4 47 yX4_takes, Cond.instanceMethod yX4_takes]
def wsL_law0_r13 : List Cond := [Cond.selects RX4 yX4_takes yX4_takes, Cond.code yX4_takes cX4_takes 3 (some .int), Cond.methodLink RX4 62 yX4_flowsOver, Cond.instanceMethod yX4_flowsOver, Cond.selects RX4 yX4_flowsOver yX4_flowsOver, Cond.code yX4_flowsOver cX4_flowsOver 3 none, Cond.methodLink RX4 51 yX4_room, Cond.instanceMethod yX4_room, Cond.selects RX4 yX4_room yX4_room, Cond.code yX4_room cX4_room 2 (some .int), Cond.methodLink RL 102 yL_weeks, Cond.static yL_weeks, Cond.codeWith yL_weeks cL_weeks 4 (some .int) [(0, 9, 12, 15)], Cond.methodLink RL 37 yX3_weeks, Cond.instanceMethod yX3_weeks, Cond.selects RX3 yX3_weeks yX3_weeks, Cond.code yX3_weeks cX3_weeks 3 (some .int), Cond.methodLink RX3 117 yX1_passWeek, Cond.instanceMethod yX1_passWeek, Cond.selects RX1 yX1_passWeek yX1_passWeek, Cond.code yX1_passWeek cX1_passWeek 2 none, Cond.methodLink RX3 120 yX1_leavesTogether, Cond.instanceMethod yX1_leavesTogether, Cond.selects RX1 yX1_leavesTogether yX1_leavesTogether]
def wsL_law0_r14 : List Cond := [Cond.code yX1_leavesTogether cX1_leavesTogether 1 (some .int), Cond.methodLink RL 104 yX4_weeks, Cond.instanceMethod yX4_weeks, Cond.selects RX4 yX4_weeks yX4_weeks, Cond.code yX4_weeks cX4_weeks 3 (some .int), Cond.methodLink RX4 86 yX4_week, Cond.instanceMethod yX4_week, Cond.selects RX4 yX4_week yX4_week, Cond.code yX4_week cX4_week 3 none, Cond.methodLink RX4 89 yX4_leaves, Cond.instanceMethod yX4_leaves, Cond.selects RX4 yX4_leaves yX4_leaves, Cond.code yX4_leaves cX4_leaves 3 (some .int), Cond.methodLink RL 105 yL_append, Cond.static yL_append, Cond.codeWith yL_append cL_append 4 (some .int) [(0, 9, 12, 15), (0, 9, 15, 25)], Cond.methodLink RL 40 yX3_append, Cond.instanceMethod yX3_append, Cond.selects RX3 yX3_append yX3_append, Cond.code yX3_append cX3_append 2 (some .int), Cond.methodLink RX3 125 yX0_isFull, Cond.instanceMethod yX0_isFull, Cond.selects RX0 yX0_isFull yX0_isFull, Cond.code yX0_isFull cX0_isFull 1 (some .boolean)]
def wsL_law0_r15 : List Cond := [Cond.fieldLink RX0 13 "RoofDrains$RainText" "length" "I", Cond.methodLink RX3 131 yX0_add, Cond.instanceMethod yX0_add, Cond.selects RX0 yX0_add yX0_add, Cond.code yX0_add cX0_add 2 none, Cond.methodLink RX3 135 yX0_length, Cond.instanceMethod yX0_length, Cond.selects RX0 yX0_length yX0_length, Cond.code yX0_length cX0_length 1 (some .int), Cond.methodLink RL 107 yX4_append, Cond.instanceMethod yX4_append, Cond.selects RX4 yX4_append yX4_append, Cond.code yX4_append cX4_append 2 (some .int), Cond.fieldLink RX4 93 "RoofDrainsModel" "length" "I", Cond.methodLink RL 108 yX3_clearBuffer, Cond.instanceMethod yX3_clearBuffer, Cond.selects RX3 yX3_clearBuffer yX3_clearBuffer, Cond.code yX3_clearBuffer cX3_clearBuffer 2 (some .int), Cond.methodLink RX3 138 yX0_empty, Cond.instanceMethod yX0_empty, Cond.selects RX0 yX0_empty yX0_empty, Cond.code yX0_empty cX0_empty 1 none, Cond.methodLink RL 111 yX4_clearBuffer, Cond.instanceMethod yX4_clearBuffer]
def wsL_law0_r16 : List Cond := [Cond.selects RX4 yX4_clearBuffer yX4_clearBuffer, Cond.code yX4_clearBuffer cX4_clearBuffer 2 (some .int), Cond.methodLink RL 112 yX3_firstError, Cond.instanceMethod yX3_firstError, Cond.selects RX3 yX3_firstError yX3_firstError, Cond.code yX3_firstError cX3_firstError 1 (some .int), Cond.methodLink RX3 141 yX0_firstWrong, Cond.instanceMethod yX0_firstWrong, Cond.selects RX0 yX0_firstWrong yX0_firstWrong, Cond.code yX0_firstWrong cX0_firstWrong 3 (some .int), Cond.methodLink RX0 17 yX0_dueAfter, Cond.static yX0_dueAfter, Cond.code yX0_dueAfter cX0_dueAfter 2 (some .int), Cond.methodLink RX0 21 yX0_mayEnd, Cond.static yX0_mayEnd, Cond.code yX0_mayEnd cX0_mayEnd 1 (some .boolean), Cond.methodLink RX0 25 yX0_dueAfterFirst, Cond.static yX0_dueAfterFirst, Cond.code yX0_dueAfterFirst cX0_dueAfterFirst 1 (some .int), Cond.methodLink RX0 35 yX0_dueAfterStar, Cond.static yX0_dueAfterStar, Cond.code yX0_dueAfterStar cX0_dueAfterStar 1 (some .int), Cond.methodLink RX0 38 yX0_dueAfterMinutesDigit, Cond.static yX0_dueAfterMinutesDigit]
def wsL_law0_r17 : List Cond := [Cond.code yX0_dueAfterMinutesDigit cX0_dueAfterMinutesDigit 1 (some .int), Cond.methodLink RL 115 yX4_firstError, Cond.instanceMethod yX4_firstError, Cond.selects RX4 yX4_firstError yX4_firstError, Cond.code yX4_firstError cX4_firstError 1 (some .int), Cond.fieldLink RX4 96 "RoofDrainsModel" "at" "I", Cond.methodLink RX4 118 yX4_readsAll, Cond.instanceMethod yX4_readsAll, Cond.selects RX4 yX4_readsAll yX4_readsAll, Cond.code yX4_readsAll cX4_readsAll 1 none, Cond.fieldLink RX4 99 "RoofDrainsModel" "isWell" "Z", Cond.fieldLink RX4 109 "RoofDrainsModel" "partMany" "I", Cond.methodLink RX4 115 yX4_readsPart, Cond.instanceMethod yX4_readsPart, Cond.selects RX4 yX4_readsPart yX4_readsPart, Cond.code yX4_readsPart cX4_readsPart 3 none, Cond.methodLink RX4 103 yX4_sign, Cond.instanceMethod yX4_sign, Cond.selects RX4 yX4_sign yX4_sign, Cond.code yX4_sign cX4_sign 1 (some .int), Cond.methodLink RX4 106 yX4_digit, Cond.instanceMethod yX4_digit, Cond.selects RX4 yX4_digit yX4_digit, Cond.code yX4_digit cX4_digit 4 (some .int)]
def wsL_law0_r18 : List Cond := [Cond.methodLink RX4 112 yX4_number, Cond.instanceMethod yX4_number, Cond.selects RX4 yX4_number yX4_number, Cond.code yX4_number cX4_number 4 (some .int), Cond.methodLink RL 116 yL_play, Cond.static yL_play, Cond.codeWith yL_play cL_play 3 (some .int) [(0, 8, 11, 15)], Cond.methodLink RL 43 yX3_play, Cond.instanceMethod yX3_play, Cond.selects RX3 yX3_play yX3_play, Cond.code yX3_play cX3_play 2 (some .int), Cond.methodLink RX3 144 yX0_isComplete, Cond.instanceMethod yX0_isComplete, Cond.selects RX0 yX0_isComplete yX0_isComplete, Cond.code yX0_isComplete cX0_isComplete 3 (some .boolean), Cond.methodLink RX3 149 yX0_playOn, Cond.instanceMethod yX0_playOn, Cond.selects RX0 yX0_playOn yX0_playOn, Cond.code yX0_playOn cX0_playOn 7 none, Cond.methodLink RX0 41 yX0_playPart, Cond.static yX0_playPart, Cond.code yX0_playPart cX0_playPart 4 none, Cond.methodLink RX0 45 yX1_passWeek, Cond.methodLink RX0 50 yX0_cleanOn]
def wsL_law0_r19 : List Cond := [Cond.static yX0_cleanOn, Cond.code yX0_cleanOn cX0_cleanOn 2 none, Cond.methodLink RX0 61 yX1_takeLeaves, Cond.methodLink RX0 54 yX1_passMinutes, Cond.methodLink RL 119 yX4_play, Cond.instanceMethod yX4_play, Cond.selects RX4 yX4_play yX4_play, Cond.code yX4_play cX4_play 3 (some .int), Cond.methodLink RL 120 yL_undo, Cond.static yL_undo, Cond.codeWith yL_undo cL_undo 3 (some .int) [(0, 8, 11, 25)], Cond.methodLink RL 47 yX3_undo, Cond.instanceMethod yX3_undo, Cond.selects RX3 yX3_undo yX3_undo, Cond.code yX3_undo cX3_undo 2 (some .int), Cond.methodLink RX3 152 yX2_dropLatest, Cond.instanceMethod yX2_dropLatest, Cond.selects RX2 yX2_dropLatest yX2_dropLatest, Cond.code yX2_dropLatest cX2_dropLatest 1 (some (.object "RoofDrains$Roof")), Cond.methodLink RX3 158 yX1_copyFrom, Cond.methodLink RX3 161 yX2_held, Cond.instanceMethod yX2_held, Cond.selects RX2 yX2_held yX2_held, Cond.code yX2_held cX2_held 1 (some .int)]
def wsL_law0_r20 : List Cond := [Cond.methodLink RL 122 yX4_undo, Cond.instanceMethod yX4_undo, Cond.selects RX4 yX4_undo yX4_undo, Cond.code yX4_undo cX4_undo 2 (some .int), Cond.methodLink RL 123 yL_planeOf, Cond.static yL_planeOf, Cond.codeWith yL_planeOf cL_planeOf 5 (some .int) [(0, 10, 13, 13), (0, 10, 17, 15)], Cond.methodLink RL 50 yX3_planeOf, Cond.instanceMethod yX3_planeOf, Cond.selects RX3 yX3_planeOf yX3_planeOf, Cond.code yX3_planeOf cX3_planeOf 3 (some .int), Cond.methodLink RX3 168 yX1_planeNumber, Cond.instanceMethod yX1_planeNumber, Cond.selects RX1 yX1_planeNumber yX1_planeNumber, Cond.code yX1_planeNumber cX1_planeNumber 3 (some .int), Cond.methodLink RL 125 yX4_planeOf, Cond.instanceMethod yX4_planeOf, Cond.selects RX4 yX4_planeOf yX4_planeOf, Cond.code yX4_planeOf cX4_planeOf 3 (some .int), Cond.methodLink RL 126 yL_gutterOf, Cond.static yL_gutterOf, Cond.codeWith yL_gutterOf cL_gutterOf 5 (some .int) [(0, 10, 13, 13), (0, 10, 17, 15)], Cond.methodLink RL 53 yX3_gutterOf, Cond.instanceMethod yX3_gutterOf]
def wsL_law0_r21 : List Cond := [Cond.selects RX3 yX3_gutterOf yX3_gutterOf, Cond.code yX3_gutterOf cX3_gutterOf 3 (some .int), Cond.methodLink RX3 173 yX1_gutterNumber, Cond.instanceMethod yX1_gutterNumber, Cond.selects RX1 yX1_gutterNumber yX1_gutterNumber, Cond.code yX1_gutterNumber cX1_gutterNumber 3 (some .int), Cond.methodLink RL 128 yX4_gutterOf, Cond.instanceMethod yX4_gutterOf, Cond.selects RX4 yX4_gutterOf yX4_gutterOf, Cond.code yX4_gutterOf cX4_gutterOf 3 (some .int), Cond.methodLink RX4 121 yX4_tellsGutter, Cond.instanceMethod yX4_tellsGutter, Cond.selects RX4 yX4_tellsGutter yX4_tellsGutter, Cond.code yX4_tellsGutter cX4_tellsGutter 3 (some .int), Cond.methodLink RL 129 yL_count, Cond.static yL_count, Cond.codeWith yL_count cL_count 4 (some .int) [(0, 9, 12, 15)], Cond.methodLink RL 56 yX3_count, Cond.instanceMethod yX3_count, Cond.selects RX3 yX3_count yX3_count, Cond.code yX3_count cX3_count 2 (some .int), Cond.methodLink RX3 176 yX1_minutesGone, Cond.instanceMethod yX1_minutesGone, Cond.selects RX1 yX1_minutesGone yX1_minutesGone]
def wsL_law0_r22 : List Cond := [Cond.code yX1_minutesGone cX1_minutesGone 1 (some .int), Cond.methodLink RX3 179 yX1_weeksPassed, Cond.instanceMethod yX1_weeksPassed, Cond.selects RX1 yX1_weeksPassed yX1_weeksPassed, Cond.code yX1_weeksPassed cX1_weeksPassed 1 (some .int), Cond.methodLink RX3 182 yX1_rainedLitres, Cond.instanceMethod yX1_rainedLitres, Cond.selects RX1 yX1_rainedLitres yX1_rainedLitres, Cond.code yX1_rainedLitres cX1_rainedLitres 1 (some .int), Cond.methodLink RX3 185 yX1_standingLitres, Cond.instanceMethod yX1_standingLitres, Cond.selects RX1 yX1_standingLitres yX1_standingLitres, Cond.code yX1_standingLitres cX1_standingLitres 1 (some .int), Cond.methodLink RX3 188 yX1_drainedLitres, Cond.instanceMethod yX1_drainedLitres, Cond.selects RX1 yX1_drainedLitres yX1_drainedLitres, Cond.code yX1_drainedLitres cX1_drainedLitres 1 (some .int), Cond.methodLink RX3 191 yX1_backedUpMinutes, Cond.instanceMethod yX1_backedUpMinutes, Cond.selects RX1 yX1_backedUpMinutes yX1_backedUpMinutes, Cond.code yX1_backedUpMinutes cX1_backedUpMinutes 1 (some .int), Cond.methodLink RL 131 yX4_count, Cond.instanceMethod yX4_count, Cond.selects RX4 yX4_count yX4_count]
def wsL_law0_r23 : List Cond := [Cond.code yX4_count cX4_count 2 (some .int), Cond.methodLink RX4 127 yX4_counts, Cond.instanceMethod yX4_counts, Cond.selects RX4 yX4_counts yX4_counts, Cond.code yX4_counts cX4_counts 2 (some .int), Cond.methodLink RX4 124 yX4_stands, Cond.instanceMethod yX4_stands, Cond.selects RX4 yX4_stands yX4_stands, Cond.code yX4_stands cX4_stands 3 (some .int), Cond.methodLink RL 132 yL_setting, Cond.static yL_setting, Cond.codeWith yL_setting cL_setting 4 (some .int) [(0, 9, 12, 13)], Cond.methodLink RL 59 yX3_setting, Cond.instanceMethod yX3_setting, Cond.selects RX3 yX3_setting yX3_setting, Cond.code yX3_setting cX3_setting 2 (some .int), Cond.methodLink RX3 194 yX1_settingValue, Cond.instanceMethod yX1_settingValue, Cond.selects RX1 yX1_settingValue yX1_settingValue, Cond.code yX1_settingValue cX1_settingValue 2 (some .int), Cond.methodLink RL 134 yX4_setting, Cond.instanceMethod yX4_setting, Cond.selects RX4 yX4_setting yX4_setting, Cond.code yX4_setting cX4_setting 2 (some .int)]
def wsL_law0_r24 : List Cond := [Cond.methodLink RL 135 yL_ifRained, Cond.static yL_ifRained, Cond.codeWith yL_ifRained cL_ifRained 5 (some .int) [(0, 10, 13, 15)], Cond.methodLink RL 62 yX3_ifRained, Cond.instanceMethod yX3_ifRained, Cond.selects RX3 yX3_ifRained yX3_ifRained, Cond.code yX3_ifRained cX3_ifRained 3 (some .int), Cond.methodLink RL 137 yX4_ifRained, Cond.instanceMethod yX4_ifRained, Cond.selects RX4 yX4_ifRained yX4_ifRained, Cond.code yX4_ifRained cX4_ifRained 3 (some .int), Cond.methodLink RX4 136 yX4_would, Cond.instanceMethod yX4_would, Cond.selects RX4 yX4_would yX4_would, Cond.code yX4_would cX4_would 6 (some .int), Cond.methodLink RX4 130 yX4_putAside, Cond.instanceMethod yX4_putAside, Cond.selects RX4 yX4_putAside yX4_putAside, Cond.code yX4_putAside cX4_putAside 2 none, Cond.methodLink RX4 133 yX4_takeBack, Cond.instanceMethod yX4_takeBack, Cond.selects RX4 yX4_takeBack yX4_takeBack, Cond.code yX4_takeBack cX4_takeBack 2 none, Cond.methodLink RL 138 yL_spillsFirst]
def wsL_law0_r25 : List Cond := [Cond.static yL_spillsFirst, Cond.codeWith yL_spillsFirst cL_spillsFirst 4 (some .int) [(0, 9, 12, 15)], Cond.methodLink RL 65 yX3_spillsFirst, Cond.instanceMethod yX3_spillsFirst, Cond.selects RX3 yX3_spillsFirst yX3_spillsFirst, Cond.code yX3_spillsFirst cX3_spillsFirst 4 (some .int), Cond.methodLink RX3 201 yX1_passMinute, Cond.methodLink RX3 204 yX1_lowestThatSpiltMoreThanIn, Cond.instanceMethod yX1_lowestThatSpiltMoreThanIn, Cond.selects RX1 yX1_lowestThatSpiltMoreThanIn yX1_lowestThatSpiltMoreThanIn, Cond.code yX1_lowestThatSpiltMoreThanIn cX1_lowestThatSpiltMoreThanIn 3 (some .int), Cond.methodLink RL 140 yX4_spillsFirst, Cond.instanceMethod yX4_spillsFirst, Cond.selects RX4 yX4_spillsFirst yX4_spillsFirst, Cond.code yX4_spillsFirst cX4_spillsFirst 2 (some .int), Cond.methodLink RX4 139 yX4_firstSpill, Cond.instanceMethod yX4_firstSpill, Cond.selects RX4 yX4_firstSpill yX4_firstSpill, Cond.code yX4_firstSpill cX4_firstSpill 5 (some .int), Cond.methodLink RL 141 yX3_bestClean, Cond.instanceMethod yX3_bestClean, Cond.selects RX3 yX3_bestClean yX3_bestClean, Cond.code yX3_bestClean cX3_bestClean 5 (some .int), Cond.methodLink RX3 208 yX1_hasLeaves]
def wsL_law0_r26 : List Cond := [Cond.instanceMethod yX1_hasLeaves, Cond.selects RX1 yX1_hasLeaves yX1_hasLeaves, Cond.code yX1_hasLeaves cX1_hasLeaves 2 (some .boolean), Cond.methodLink RX3 211 yX3_spiltIfCleaned, Cond.instanceMethod yX3_spiltIfCleaned, Cond.selects RX3 yX3_spiltIfCleaned yX3_spiltIfCleaned, Cond.code yX3_spiltIfCleaned cX3_spiltIfCleaned 2 (some .int), Cond.methodLink RL 144 yX4_bestClean, Cond.instanceMethod yX4_bestClean, Cond.selects RX4 yX4_bestClean yX4_bestClean, Cond.code yX4_bestClean cX4_bestClean 1 (some .int), Cond.methodLink RX4 142 yX4_bestOne, Cond.instanceMethod yX4_bestOne, Cond.selects RX4 yX4_bestOne yX4_bestOne, Cond.code yX4_bestOne cX4_bestOne 7 (some .int), Cond.methodLink RL 145 yL_mostRain, Cond.static yL_mostRain, Cond.codeWith yL_mostRain cL_mostRain 4 (some .int) [(0, 9, 12, 15)], Cond.methodLink RL 68 yX3_mostRain, Cond.instanceMethod yX3_mostRain, Cond.selects RX3 yX3_mostRain yX3_mostRain, Cond.code yX3_mostRain cX3_mostRain 3 (some .int), Cond.methodLink RX3 216 yX3_wouldSpill, Cond.instanceMethod yX3_wouldSpill]
def wsL_law0_r27 : List Cond := [Cond.selects RX3 yX3_wouldSpill yX3_wouldSpill, Cond.code yX3_wouldSpill cX3_wouldSpill 4 (some .boolean), Cond.methodLink RL 147 yX4_mostRain, Cond.instanceMethod yX4_mostRain, Cond.selects RX4 yX4_mostRain yX4_mostRain, Cond.code yX4_mostRain cX4_mostRain 2 (some .int), Cond.methodLink RX4 145 yX4_greatestRain, Cond.instanceMethod yX4_greatestRain, Cond.selects RX4 yX4_greatestRain yX4_greatestRain, Cond.code yX4_greatestRain cX4_greatestRain 4 (some .int), Cond.methodLink RL 148 yX3_dryIn, Cond.instanceMethod yX3_dryIn, Cond.selects RX3 yX3_dryIn yX3_dryIn, Cond.code yX3_dryIn cX3_dryIn 2 (some .int), Cond.methodLink RL 151 yX4_dryIn, Cond.instanceMethod yX4_dryIn, Cond.selects RX4 yX4_dryIn yX4_dryIn, Cond.code yX4_dryIn cX4_dryIn 1 (some .int), Cond.methodLink RX4 148 yX4_untilDry, Cond.instanceMethod yX4_untilDry, Cond.selects RX4 yX4_untilDry yX4_untilDry, Cond.code yX4_untilDry cX4_untilDry 2 (some .int), Cond.methodLink RL 152 yX3_drainedShare, Cond.instanceMethod yX3_drainedShare]
def wsL_law0_r28 : List Cond := [Cond.selects RX3 yX3_drainedShare yX3_drainedShare, Cond.code yX3_drainedShare cX3_drainedShare 2 (some .double), Cond.methodLink RL 156 yX4_drainedShare, Cond.instanceMethod yX4_drainedShare, Cond.selects RX4 yX4_drainedShare yX4_drainedShare, Cond.code yX4_drainedShare cX4_drainedShare 1 (some .double), Cond.methodLink RX4 151 yX4_share, Cond.instanceMethod yX4_share, Cond.selects RX4 yX4_share yX4_share, Cond.code yX4_share cX4_share 1 (some .double), Cond.methodLink RL 157 yX3_digest, Cond.instanceMethod yX3_digest, Cond.selects RX3 yX3_digest yX3_digest, Cond.code yX3_digest cX3_digest 4 (some .long), Cond.constantLong RX3 219 (3067), Cond.methodLink RX3 221 yX3_hashOfCounts, Cond.instanceMethod yX3_hashOfCounts, Cond.selects RX3 yX3_hashOfCounts yX3_hashOfCounts, Cond.code yX3_hashOfCounts cX3_hashOfCounts 6 (some .long), Cond.methodLink RX3 260 yX3_count, Cond.methodLink RX3 231 yX3_hashWith, Cond.static yX3_hashWith, Cond.code yX3_hashWith cX3_hashWith 4 (some .long), Cond.constantLong RX3 258 (31)]
def wsL_law0_r29 : List Cond := [Cond.methodLink RX3 225 yX3_hashOfRoof, Cond.instanceMethod yX3_hashOfRoof, Cond.selects RX3 yX3_hashOfRoof yX3_hashOfRoof, Cond.code yX3_hashOfRoof cX3_hashOfRoof 7 (some .long), Cond.methodLink RX3 228 yX3_ifRained, Cond.methodLink RX3 235 yX3_spillsFirst, Cond.methodLink RX3 238 yX3_bestClean, Cond.methodLink RX3 241 yX3_mostRain, Cond.methodLink RX3 244 yX3_dryIn, Cond.methodLink RX3 247 yX3_drainedShare, Cond.methodLink RX3 251 yX3_bitsOfShare, Cond.static yX3_bitsOfShare, Cond.code yX3_bitsOfShare cX3_bitsOfShare 8 (some .long), Cond.constantLong RX3 266 (1022), Cond.constantDouble RX3 268 (4611686018427387904), Cond.constantDouble RX3 270 (4841369599423283200), Cond.constantLong RX3 272 (1023), Cond.methodLink RX3 255 yX3_hashOfText, Cond.instanceMethod yX3_hashOfText, Cond.selects RX3 yX3_hashOfText yX3_hashOfText, Cond.code yX3_hashOfText cX3_hashOfText 6 (some .long), Cond.methodLink RX3 263 yX0_codeAt, Cond.instanceMethod yX0_codeAt, Cond.selects RX0 yX0_codeAt yX0_codeAt]
def wsL_law0_r30 : List Cond := [Cond.code yX0_codeAt cX0_codeAt 2 (some .int), Cond.methodLink RL 161 yX4_digest, Cond.instanceMethod yX4_digest, Cond.selects RX4 yX4_digest yX4_digest, Cond.code yX4_digest cX4_digest 2 (some .long), Cond.constantLong RX4 161 (3067), Cond.fieldLink RX4 157 "RoofDrainsModel" "hash" "J", Cond.methodLink RX4 163 yX4_hashes, Cond.instanceMethod yX4_hashes, Cond.selects RX4 yX4_hashes yX4_hashes, Cond.code yX4_hashes cX4_hashes 3 none, Cond.constantLong RX4 155 (31), Cond.methodLink RX4 167 yJxe99ae_doubleToLongBits_ccdee, Cond.static yJxe99ae_doubleToLongBits_ccdee, Cond.initialized RJxe99ae, Cond.code yJxe99ae_doubleToLongBits_ccdee cJxe99ae_doubleToLongBits_ccdee 2 (some .long), Cond.methodLink RJxe99ae 134 ⟨"java/lang/Double", "doubleToRawLongBits", "(D)J"⟩, Cond.native ⟨"java/lang/Double", "doubleToRawLongBits", "(D)J"⟩, Cond.static ⟨"java/lang/Double", "doubleToRawLongBits", "(D)J"⟩, Cond.initialized "java/lang/Double", Cond.constantLong RJxe99ae 137 (9221120237041090560), Cond.methodLink RJxe99ae 122 yJxe99ae_isNaN_b9ae7, Cond.static yJxe99ae_isNaN_b9ae7, Cond.code yJxe99ae_isNaN_b9ae7 cJxe99ae_isNaN_b9ae7 2 (some .boolean)]
def wsL_law0 : List Cond := (wsL_law0_r1 ++ (wsL_law0_r2 ++ (wsL_law0_r3 ++ (wsL_law0_r4 ++ (wsL_law0_r5 ++ (wsL_law0_r6 ++ (wsL_law0_r7 ++ (wsL_law0_r8 ++ (wsL_law0_r9 ++ (wsL_law0_r10 ++ (wsL_law0_r11 ++ (wsL_law0_r12 ++ (wsL_law0_r13 ++ (wsL_law0_r14 ++ (wsL_law0_r15 ++ (wsL_law0_r16 ++ (wsL_law0_r17 ++ (wsL_law0_r18 ++ (wsL_law0_r19 ++ (wsL_law0_r20 ++ (wsL_law0_r21 ++ (wsL_law0_r22 ++ (wsL_law0_r23 ++ (wsL_law0_r24 ++ (wsL_law0_r25 ++ (wsL_law0_r26 ++ (wsL_law0_r27 ++ (wsL_law0_r28 ++ (wsL_law0_r29 ++ wsL_law0_r30))))))))))))))))))))))))))))) ++ wsX30 ++ wsX40 ++ wsX10 ++ wsX20 ++ wsX00 ++ ([] : List Cond)
def wsL_law : List Cond := wsL_law0 ++ (vx_atS RX3 44 "java/lang/IndexOutOfBoundsException" ["java/lang/RuntimeException", "java/lang/Exception"]).filter goodWord ++ (vx_atS RX3 55 "java/lang/IllegalArgumentException" ["java/lang/RuntimeException", "java/lang/Exception"]).filter goodWord ++ (vx_atS RX3 82 "java/lang/IllegalStateException" ["java/lang/RuntimeException", "java/lang/Exception"]).filter goodWord
abbrev vwCl : List vw_C := [(RX0, TX0, 2), (RX1, TX1, 16), (RX2, TX2, 3), (RX3, TX3, 4), (RX4, TX4, 12)]
end
section
theorem dX0_init_0 : decode cX0_init 0 = .ok (.aload_n 0, 1) := by decide +kernel
theorem dX0_init_1 : decode cX0_init 1 = .ok (.invokespecial 1, 3) := by decide +kernel
theorem dX0_init_4 : decode cX0_init 4 = .ok (.aload_n 0, 1) := by decide +kernel
theorem dX0_init_5 : decode cX0_init 5 = .ok (.bipush 60, 2) := by decide +kernel
theorem dX0_init_7 : decode cX0_init 7 = .ok (.newarray .int, 2) := by decide +kernel
theorem dX0_init_9 : decode cX0_init 9 = .ok (.putfield 9, 3) := by decide +kernel
theorem dX0_init_12 : decode cX0_init 12 = .ok (.return_, 1) := by decide +kernel
theorem dX0_length_0 : decode cX0_length 0 = .ok (.aload_n 0, 1) := by decide +kernel
theorem dX0_length_1 : decode cX0_length 1 = .ok (.getfield 13, 3) := by decide +kernel
theorem dX0_length_4 : decode cX0_length 4 = .ok (.ireturn, 1) := by decide +kernel
theorem dX0_isFull_0 : decode cX0_isFull 0 = .ok (.aload_n 0, 1) := by decide +kernel
theorem dX0_isFull_1 : decode cX0_isFull 1 = .ok (.getfield 13, 3) := by decide +kernel
theorem dX0_isFull_4 : decode cX0_isFull 4 = .ok (.bipush 60, 2) := by decide +kernel
theorem dX0_isFull_6 : decode cX0_isFull 6 = .ok (.if_icmp .lt 7, 3) := by decide +kernel
theorem dX0_isFull_9 : decode cX0_isFull 9 = .ok (.iconst 1, 1) := by decide +kernel
theorem dX0_isFull_10 : decode cX0_isFull 10 = .ok (.goto 4, 3) := by decide +kernel
theorem dX0_isFull_13 : decode cX0_isFull 13 = .ok (.iconst 0, 1) := by decide +kernel
theorem dX0_isFull_14 : decode cX0_isFull 14 = .ok (.ireturn, 1) := by decide +kernel
theorem dX0_add_0 : decode cX0_add 0 = .ok (.aload_n 0, 1) := by decide +kernel
theorem dX0_add_1 : decode cX0_add 1 = .ok (.getfield 9, 3) := by decide +kernel
theorem dX0_add_4 : decode cX0_add 4 = .ok (.aload_n 0, 1) := by decide +kernel
theorem dX0_add_5 : decode cX0_add 5 = .ok (.getfield 13, 3) := by decide +kernel
theorem dX0_add_8 : decode cX0_add 8 = .ok (.iload_n 1, 1) := by decide +kernel
theorem dX0_add_9 : decode cX0_add 9 = .ok (.iastore, 1) := by decide +kernel
theorem dX0_add_10 : decode cX0_add 10 = .ok (.aload_n 0, 1) := by decide +kernel
theorem dX0_add_11 : decode cX0_add 11 = .ok (.dup, 1) := by decide +kernel
theorem dX0_add_12 : decode cX0_add 12 = .ok (.getfield 13, 3) := by decide +kernel
theorem dX0_add_15 : decode cX0_add 15 = .ok (.iconst 1, 1) := by decide +kernel
theorem dX0_add_16 : decode cX0_add 16 = .ok (.iadd, 1) := by decide +kernel
theorem dX0_add_17 : decode cX0_add 17 = .ok (.putfield 13, 3) := by decide +kernel
theorem dX0_add_20 : decode cX0_add 20 = .ok (.return_, 1) := by decide +kernel
theorem dX0_empty_0 : decode cX0_empty 0 = .ok (.aload_n 0, 1) := by decide +kernel
theorem dX0_empty_1 : decode cX0_empty 1 = .ok (.iconst 0, 1) := by decide +kernel
theorem dX0_empty_2 : decode cX0_empty 2 = .ok (.putfield 13, 3) := by decide +kernel
theorem dX0_empty_5 : decode cX0_empty 5 = .ok (.return_, 1) := by decide +kernel
theorem dX0_codeAt_0 : decode cX0_codeAt 0 = .ok (.aload_n 0, 1) := by decide +kernel
theorem dX0_codeAt_1 : decode cX0_codeAt 1 = .ok (.getfield 9, 3) := by decide +kernel
theorem dX0_codeAt_4 : decode cX0_codeAt 4 = .ok (.iload_n 1, 1) := by decide +kernel
theorem dX0_codeAt_5 : decode cX0_codeAt 5 = .ok (.iaload, 1) := by decide +kernel
theorem dX0_codeAt_6 : decode cX0_codeAt 6 = .ok (.ireturn, 1) := by decide +kernel
set_option maxRecDepth 20000 in
theorem ggX0_firstWrong_X0_dueAfter : GoodIn wsX0_firstWrong wsX0_dueAfter := goodIn_r _ [6, 7, 8, 5, 9, 10, 11, 12, 13, 14, 15, 16, 17, 18, 19, 20, 21] (by decide +kernel) (by decide +kernel)
set_option maxRecDepth 20000 in
theorem gX0_firstWrong_X0_dueAfter : GoodIn wsX0_firstWrong (va_wsS RX0 17 yX0_dueAfter wsX0_dueAfter) := goodIn_app (goodIn_of _ (by decide +kernel)) ggX0_firstWrong_X0_dueAfter
theorem dX0_firstWrong_0 : decode cX0_firstWrong 0 = .ok (.iconst 1, 1) := by decide +kernel
theorem dX0_firstWrong_1 : decode cX0_firstWrong 1 = .ok (.istore_n 1, 1) := by decide +kernel
theorem dX0_firstWrong_2 : decode cX0_firstWrong 2 = .ok (.iconst 0, 1) := by decide +kernel
theorem dX0_firstWrong_3 : decode cX0_firstWrong 3 = .ok (.istore_n 2, 1) := by decide +kernel
theorem dX0_firstWrong_4 : decode cX0_firstWrong 4 = .ok (.iload_n 2, 1) := by decide +kernel
theorem dX0_firstWrong_5 : decode cX0_firstWrong 5 = .ok (.aload_n 0, 1) := by decide +kernel
theorem dX0_firstWrong_6 : decode cX0_firstWrong 6 = .ok (.getfield 13, 3) := by decide +kernel
theorem dX0_firstWrong_9 : decode cX0_firstWrong 9 = .ok (.if_icmp .ge 26, 3) := by decide +kernel
theorem dX0_firstWrong_12 : decode cX0_firstWrong 12 = .ok (.iload_n 1, 1) := by decide +kernel
theorem dX0_firstWrong_13 : decode cX0_firstWrong 13 = .ok (.aload_n 0, 1) := by decide +kernel
theorem dX0_firstWrong_14 : decode cX0_firstWrong 14 = .ok (.getfield 9, 3) := by decide +kernel
theorem dX0_firstWrong_17 : decode cX0_firstWrong 17 = .ok (.iload_n 2, 1) := by decide +kernel
theorem dX0_firstWrong_18 : decode cX0_firstWrong 18 = .ok (.iaload, 1) := by decide +kernel
theorem dX0_firstWrong_19 : decode cX0_firstWrong 19 = .ok (.invokestatic 17, 3) := by decide +kernel
theorem dX0_firstWrong_22 : decode cX0_firstWrong 22 = .ok (.istore_n 1, 1) := by decide +kernel
theorem dX0_firstWrong_23 : decode cX0_firstWrong 23 = .ok (.iload_n 1, 1) := by decide +kernel
theorem dX0_firstWrong_24 : decode cX0_firstWrong 24 = .ok (.ifCond .ne 5, 3) := by decide +kernel
theorem dX0_firstWrong_27 : decode cX0_firstWrong 27 = .ok (.iload_n 2, 1) := by decide +kernel
theorem dX0_firstWrong_28 : decode cX0_firstWrong 28 = .ok (.ireturn, 1) := by decide +kernel
theorem dX0_firstWrong_29 : decode cX0_firstWrong 29 = .ok (.iinc 2 1, 3) := by decide +kernel
theorem dX0_firstWrong_32 : decode cX0_firstWrong 32 = .ok (.goto (-28), 3) := by decide +kernel
theorem dX0_firstWrong_35 : decode cX0_firstWrong 35 = .ok (.aload_n 0, 1) := by decide +kernel
theorem dX0_firstWrong_36 : decode cX0_firstWrong 36 = .ok (.getfield 13, 3) := by decide +kernel
theorem dX0_firstWrong_39 : decode cX0_firstWrong 39 = .ok (.ireturn, 1) := by decide +kernel
set_option maxRecDepth 20000 in
theorem ggX0_isComplete_X0_dueAfter : GoodIn wsX0_isComplete wsX0_dueAfter := goodIn_r _ [6, 7, 8, 5, 9, 10, 11, 12, 13, 14, 15, 16, 17, 18, 19, 20, 21] (by decide +kernel) (by decide +kernel)
set_option maxRecDepth 20000 in
theorem gX0_isComplete_X0_dueAfter : GoodIn wsX0_isComplete (va_wsS RX0 17 yX0_dueAfter wsX0_dueAfter) := goodIn_app (goodIn_of _ (by decide +kernel)) ggX0_isComplete_X0_dueAfter
set_option maxRecDepth 20000 in
theorem ggX0_isComplete_X0_mayEnd : GoodIn wsX0_isComplete wsX0_mayEnd := goodIn_r _ [9] (by decide +kernel) (by decide +kernel)
set_option maxRecDepth 20000 in
theorem gX0_isComplete_X0_mayEnd : GoodIn wsX0_isComplete (va_wsS RX0 21 yX0_mayEnd wsX0_mayEnd) := goodIn_app (goodIn_of _ (by decide +kernel)) ggX0_isComplete_X0_mayEnd
theorem dX0_isComplete_0 : decode cX0_isComplete 0 = .ok (.iconst 1, 1) := by decide +kernel
theorem dX0_isComplete_1 : decode cX0_isComplete 1 = .ok (.istore_n 1, 1) := by decide +kernel
theorem dX0_isComplete_2 : decode cX0_isComplete 2 = .ok (.iconst 0, 1) := by decide +kernel
theorem dX0_isComplete_3 : decode cX0_isComplete 3 = .ok (.istore_n 2, 1) := by decide +kernel
theorem dX0_isComplete_4 : decode cX0_isComplete 4 = .ok (.iload_n 2, 1) := by decide +kernel
theorem dX0_isComplete_5 : decode cX0_isComplete 5 = .ok (.aload_n 0, 1) := by decide +kernel
theorem dX0_isComplete_6 : decode cX0_isComplete 6 = .ok (.getfield 13, 3) := by decide +kernel
theorem dX0_isComplete_9 : decode cX0_isComplete 9 = .ok (.if_icmp .ge 20, 3) := by decide +kernel
theorem dX0_isComplete_12 : decode cX0_isComplete 12 = .ok (.iload_n 1, 1) := by decide +kernel
theorem dX0_isComplete_13 : decode cX0_isComplete 13 = .ok (.aload_n 0, 1) := by decide +kernel
theorem dX0_isComplete_14 : decode cX0_isComplete 14 = .ok (.getfield 9, 3) := by decide +kernel
theorem dX0_isComplete_17 : decode cX0_isComplete 17 = .ok (.iload_n 2, 1) := by decide +kernel
theorem dX0_isComplete_18 : decode cX0_isComplete 18 = .ok (.iaload, 1) := by decide +kernel
theorem dX0_isComplete_19 : decode cX0_isComplete 19 = .ok (.invokestatic 17, 3) := by decide +kernel
theorem dX0_isComplete_22 : decode cX0_isComplete 22 = .ok (.istore_n 1, 1) := by decide +kernel
theorem dX0_isComplete_23 : decode cX0_isComplete 23 = .ok (.iinc 2 1, 3) := by decide +kernel
theorem dX0_isComplete_26 : decode cX0_isComplete 26 = .ok (.goto (-22), 3) := by decide +kernel
theorem dX0_isComplete_29 : decode cX0_isComplete 29 = .ok (.iload_n 1, 1) := by decide +kernel
theorem dX0_isComplete_30 : decode cX0_isComplete 30 = .ok (.invokestatic 21, 3) := by decide +kernel
theorem dX0_isComplete_33 : decode cX0_isComplete 33 = .ok (.ireturn, 1) := by decide +kernel
theorem dX0_mayEnd_0 : decode cX0_mayEnd 0 = .ok (.iload_n 0, 1) := by decide +kernel
theorem dX0_mayEnd_1 : decode cX0_mayEnd 1 = .ok (.iconst 5, 1) := by decide +kernel
theorem dX0_mayEnd_2 : decode cX0_mayEnd 2 = .ok (.if_icmp .eq 15, 3) := by decide +kernel
theorem dX0_mayEnd_5 : decode cX0_mayEnd 5 = .ok (.iload_n 0, 1) := by decide +kernel
theorem dX0_mayEnd_6 : decode cX0_mayEnd 6 = .ok (.bipush 6, 2) := by decide +kernel
theorem dX0_mayEnd_8 : decode cX0_mayEnd 8 = .ok (.if_icmp .eq 9, 3) := by decide +kernel
theorem dX0_mayEnd_11 : decode cX0_mayEnd 11 = .ok (.iload_n 0, 1) := by decide +kernel
theorem dX0_mayEnd_12 : decode cX0_mayEnd 12 = .ok (.bipush 7, 2) := by decide +kernel
theorem dX0_mayEnd_14 : decode cX0_mayEnd 14 = .ok (.if_icmp .ne 7, 3) := by decide +kernel
theorem dX0_mayEnd_17 : decode cX0_mayEnd 17 = .ok (.iconst 1, 1) := by decide +kernel
theorem dX0_mayEnd_18 : decode cX0_mayEnd 18 = .ok (.goto 4, 3) := by decide +kernel
theorem dX0_mayEnd_21 : decode cX0_mayEnd 21 = .ok (.iconst 0, 1) := by decide +kernel
theorem dX0_mayEnd_22 : decode cX0_mayEnd 22 = .ok (.ireturn, 1) := by decide +kernel
set_option maxRecDepth 20000 in
theorem ggX0_dueAfter_X0_mayEnd : GoodIn wsX0_dueAfter wsX0_mayEnd := goodIn_r _ [4] (by decide +kernel) (by decide +kernel)
set_option maxRecDepth 20000 in
theorem gX0_dueAfter_X0_mayEnd : GoodIn wsX0_dueAfter (va_wsS RX0 21 yX0_mayEnd wsX0_mayEnd) := goodIn_app (goodIn_of _ (by decide +kernel)) ggX0_dueAfter_X0_mayEnd
set_option maxRecDepth 20000 in
theorem ggX0_dueAfter_X0_dueAfterFirst : GoodIn wsX0_dueAfter wsX0_dueAfterFirst := goodIn_r _ [7, 8, 9, 10] (by decide +kernel) (by decide +kernel)
set_option maxRecDepth 20000 in
theorem gX0_dueAfter_X0_dueAfterFirst : GoodIn wsX0_dueAfter (va_wsS RX0 25 yX0_dueAfterFirst wsX0_dueAfterFirst) := goodIn_app (goodIn_of _ (by decide +kernel)) ggX0_dueAfter_X0_dueAfterFirst
set_option maxRecDepth 20000 in
theorem ggX0_dueAfter_X3_isWithin : GoodIn wsX0_dueAfter wsX3_isWithin := goodIn_r _ [10] (by decide +kernel) (by decide +kernel)
set_option maxRecDepth 20000 in
theorem gX0_dueAfter_X3_isWithin_n29 : GoodIn wsX0_dueAfter (wsX3_isWithin) := ggX0_dueAfter_X3_isWithin
set_option maxRecDepth 20000 in
theorem ggX0_dueAfter_X0_dueAfterStar : GoodIn wsX0_dueAfter wsX0_dueAfterStar := goodIn_r _ [13] (by decide +kernel) (by decide +kernel)
set_option maxRecDepth 20000 in
theorem gX0_dueAfter_X0_dueAfterStar : GoodIn wsX0_dueAfter (va_wsS RX0 35 yX0_dueAfterStar wsX0_dueAfterStar) := goodIn_app (goodIn_of _ (by decide +kernel)) ggX0_dueAfter_X0_dueAfterStar
set_option maxRecDepth 20000 in
theorem ggX0_dueAfter_X0_dueAfterMinutesDigit : GoodIn wsX0_dueAfter wsX0_dueAfterMinutesDigit := goodIn_r _ [16, 8, 9, 10] (by decide +kernel) (by decide +kernel)
set_option maxRecDepth 20000 in
theorem gX0_dueAfter_X0_dueAfterMinutesDigit : GoodIn wsX0_dueAfter (va_wsS RX0 38 yX0_dueAfterMinutesDigit wsX0_dueAfterMinutesDigit) := goodIn_app (goodIn_of _ (by decide +kernel)) ggX0_dueAfter_X0_dueAfterMinutesDigit
theorem dX0_dueAfter_0 : decode cX0_dueAfter 0 = .ok (.iload_n 1, 1) := by decide +kernel
theorem dX0_dueAfter_1 : decode cX0_dueAfter 1 = .ok (.bipush 59, 2) := by decide +kernel
theorem dX0_dueAfter_3 : decode cX0_dueAfter 3 = .ok (.if_icmp .ne 16, 3) := by decide +kernel
theorem dX0_dueAfter_6 : decode cX0_dueAfter 6 = .ok (.iload_n 0, 1) := by decide +kernel
theorem dX0_dueAfter_7 : decode cX0_dueAfter 7 = .ok (.invokestatic 21, 3) := by decide +kernel
theorem dX0_dueAfter_10 : decode cX0_dueAfter 10 = .ok (.ifCond .eq 7, 3) := by decide +kernel
theorem dX0_dueAfter_13 : decode cX0_dueAfter 13 = .ok (.iconst 1, 1) := by decide +kernel
theorem dX0_dueAfter_14 : decode cX0_dueAfter 14 = .ok (.goto 4, 3) := by decide +kernel
theorem dX0_dueAfter_17 : decode cX0_dueAfter 17 = .ok (.iconst 0, 1) := by decide +kernel
theorem dX0_dueAfter_18 : decode cX0_dueAfter 18 = .ok (.ireturn, 1) := by decide +kernel
theorem dX0_dueAfter_19 : decode cX0_dueAfter 19 = .ok (.iload_n 0, 1) := by decide +kernel
theorem dX0_dueAfter_20 : decode cX0_dueAfter 20 = .ok (.tableswitch 132 1 8 #[48, 53, 73, 78, 83, 101, 132, 114], 48) := by decide +kernel
theorem dX0_dueAfter_68 : decode cX0_dueAfter 68 = .ok (.iload_n 1, 1) := by decide +kernel
theorem dX0_dueAfter_69 : decode cX0_dueAfter 69 = .ok (.invokestatic 25, 3) := by decide +kernel
theorem dX0_dueAfter_72 : decode cX0_dueAfter 72 = .ok (.ireturn, 1) := by decide +kernel
theorem dX0_dueAfter_73 : decode cX0_dueAfter 73 = .ok (.iload_n 1, 1) := by decide +kernel
theorem dX0_dueAfter_74 : decode cX0_dueAfter 74 = .ok (.bipush 48, 2) := by decide +kernel
theorem dX0_dueAfter_76 : decode cX0_dueAfter 76 = .ok (.bipush 57, 2) := by decide +kernel
theorem dX0_dueAfter_78 : decode cX0_dueAfter 78 = .ok (.invokestatic 29, 3) := by decide +kernel
theorem dX0_dueAfter_81 : decode cX0_dueAfter 81 = .ok (.ifCond .eq 7, 3) := by decide +kernel
theorem dX0_dueAfter_84 : decode cX0_dueAfter 84 = .ok (.iconst 3, 1) := by decide +kernel
theorem dX0_dueAfter_85 : decode cX0_dueAfter 85 = .ok (.goto 7, 3) := by decide +kernel
theorem dX0_dueAfter_88 : decode cX0_dueAfter 88 = .ok (.iload_n 1, 1) := by decide +kernel
theorem dX0_dueAfter_89 : decode cX0_dueAfter 89 = .ok (.invokestatic 35, 3) := by decide +kernel
theorem dX0_dueAfter_92 : decode cX0_dueAfter 92 = .ok (.ireturn, 1) := by decide +kernel
theorem dX0_dueAfter_93 : decode cX0_dueAfter 93 = .ok (.iload_n 1, 1) := by decide +kernel
theorem dX0_dueAfter_94 : decode cX0_dueAfter 94 = .ok (.invokestatic 35, 3) := by decide +kernel
theorem dX0_dueAfter_97 : decode cX0_dueAfter 97 = .ok (.ireturn, 1) := by decide +kernel
theorem dX0_dueAfter_98 : decode cX0_dueAfter 98 = .ok (.iload_n 1, 1) := by decide +kernel
theorem dX0_dueAfter_99 : decode cX0_dueAfter 99 = .ok (.invokestatic 38, 3) := by decide +kernel
theorem dX0_dueAfter_102 : decode cX0_dueAfter 102 = .ok (.ireturn, 1) := by decide +kernel
theorem dX0_dueAfter_103 : decode cX0_dueAfter 103 = .ok (.iload_n 1, 1) := by decide +kernel
theorem dX0_dueAfter_104 : decode cX0_dueAfter 104 = .ok (.bipush 48, 2) := by decide +kernel
theorem dX0_dueAfter_106 : decode cX0_dueAfter 106 = .ok (.bipush 57, 2) := by decide +kernel
theorem dX0_dueAfter_108 : decode cX0_dueAfter 108 = .ok (.invokestatic 29, 3) := by decide +kernel
theorem dX0_dueAfter_111 : decode cX0_dueAfter 111 = .ok (.ifCond .eq 8, 3) := by decide +kernel
theorem dX0_dueAfter_114 : decode cX0_dueAfter 114 = .ok (.bipush 7, 2) := by decide +kernel
theorem dX0_dueAfter_116 : decode cX0_dueAfter 116 = .ok (.goto 4, 3) := by decide +kernel
theorem dX0_dueAfter_119 : decode cX0_dueAfter 119 = .ok (.iconst 0, 1) := by decide +kernel
theorem dX0_dueAfter_120 : decode cX0_dueAfter 120 = .ok (.ireturn, 1) := by decide +kernel
theorem dX0_dueAfter_121 : decode cX0_dueAfter 121 = .ok (.iload_n 1, 1) := by decide +kernel
theorem dX0_dueAfter_122 : decode cX0_dueAfter 122 = .ok (.bipush 48, 2) := by decide +kernel
theorem dX0_dueAfter_124 : decode cX0_dueAfter 124 = .ok (.if_icmp .ne 8, 3) := by decide +kernel
theorem dX0_dueAfter_127 : decode cX0_dueAfter 127 = .ok (.bipush 7, 2) := by decide +kernel
theorem dX0_dueAfter_129 : decode cX0_dueAfter 129 = .ok (.goto 4, 3) := by decide +kernel
theorem dX0_dueAfter_132 : decode cX0_dueAfter 132 = .ok (.iconst 0, 1) := by decide +kernel
theorem dX0_dueAfter_133 : decode cX0_dueAfter 133 = .ok (.ireturn, 1) := by decide +kernel
theorem dX0_dueAfter_134 : decode cX0_dueAfter 134 = .ok (.iload_n 1, 1) := by decide +kernel
theorem dX0_dueAfter_135 : decode cX0_dueAfter 135 = .ok (.bipush 48, 2) := by decide +kernel
theorem dX0_dueAfter_137 : decode cX0_dueAfter 137 = .ok (.bipush 53, 2) := by decide +kernel
theorem dX0_dueAfter_139 : decode cX0_dueAfter 139 = .ok (.invokestatic 29, 3) := by decide +kernel
theorem dX0_dueAfter_142 : decode cX0_dueAfter 142 = .ok (.ifCond .eq 8, 3) := by decide +kernel
theorem dX0_dueAfter_145 : decode cX0_dueAfter 145 = .ok (.bipush 7, 2) := by decide +kernel
theorem dX0_dueAfter_147 : decode cX0_dueAfter 147 = .ok (.goto 4, 3) := by decide +kernel
theorem dX0_dueAfter_150 : decode cX0_dueAfter 150 = .ok (.iconst 0, 1) := by decide +kernel
theorem dX0_dueAfter_151 : decode cX0_dueAfter 151 = .ok (.ireturn, 1) := by decide +kernel
theorem dX0_dueAfter_152 : decode cX0_dueAfter 152 = .ok (.iconst 0, 1) := by decide +kernel
theorem dX0_dueAfter_153 : decode cX0_dueAfter 153 = .ok (.ireturn, 1) := by decide +kernel
set_option maxRecDepth 20000 in
theorem ggX0_dueAfterFirst_X3_isWithin : GoodIn wsX0_dueAfterFirst wsX3_isWithin := goodIn_r _ [3] (by decide +kernel) (by decide +kernel)
set_option maxRecDepth 20000 in
theorem gX0_dueAfterFirst_X3_isWithin_n29 : GoodIn wsX0_dueAfterFirst (wsX3_isWithin) := ggX0_dueAfterFirst_X3_isWithin
theorem dX0_dueAfterFirst_0 : decode cX0_dueAfterFirst 0 = .ok (.iload_n 0, 1) := by decide +kernel
theorem dX0_dueAfterFirst_1 : decode cX0_dueAfterFirst 1 = .ok (.bipush 119, 2) := by decide +kernel
theorem dX0_dueAfterFirst_3 : decode cX0_dueAfterFirst 3 = .ok (.if_icmp .ne 6, 3) := by decide +kernel
theorem dX0_dueAfterFirst_6 : decode cX0_dueAfterFirst 6 = .ok (.bipush 7, 2) := by decide +kernel
theorem dX0_dueAfterFirst_8 : decode cX0_dueAfterFirst 8 = .ok (.ireturn, 1) := by decide +kernel
theorem dX0_dueAfterFirst_9 : decode cX0_dueAfterFirst 9 = .ok (.iload_n 0, 1) := by decide +kernel
theorem dX0_dueAfterFirst_10 : decode cX0_dueAfterFirst 10 = .ok (.bipush 99, 2) := by decide +kernel
theorem dX0_dueAfterFirst_12 : decode cX0_dueAfterFirst 12 = .ok (.if_icmp .ne 6, 3) := by decide +kernel
theorem dX0_dueAfterFirst_15 : decode cX0_dueAfterFirst 15 = .ok (.bipush 8, 2) := by decide +kernel
theorem dX0_dueAfterFirst_17 : decode cX0_dueAfterFirst 17 = .ok (.ireturn, 1) := by decide +kernel
theorem dX0_dueAfterFirst_18 : decode cX0_dueAfterFirst 18 = .ok (.iload_n 0, 1) := by decide +kernel
theorem dX0_dueAfterFirst_19 : decode cX0_dueAfterFirst 19 = .ok (.bipush 48, 2) := by decide +kernel
theorem dX0_dueAfterFirst_21 : decode cX0_dueAfterFirst 21 = .ok (.if_icmp .ne 5, 3) := by decide +kernel
theorem dX0_dueAfterFirst_24 : decode cX0_dueAfterFirst 24 = .ok (.iconst 3, 1) := by decide +kernel
theorem dX0_dueAfterFirst_25 : decode cX0_dueAfterFirst 25 = .ok (.ireturn, 1) := by decide +kernel
theorem dX0_dueAfterFirst_26 : decode cX0_dueAfterFirst 26 = .ok (.iload_n 0, 1) := by decide +kernel
theorem dX0_dueAfterFirst_27 : decode cX0_dueAfterFirst 27 = .ok (.bipush 49, 2) := by decide +kernel
theorem dX0_dueAfterFirst_29 : decode cX0_dueAfterFirst 29 = .ok (.bipush 57, 2) := by decide +kernel
theorem dX0_dueAfterFirst_31 : decode cX0_dueAfterFirst 31 = .ok (.invokestatic 29, 3) := by decide +kernel
theorem dX0_dueAfterFirst_34 : decode cX0_dueAfterFirst 34 = .ok (.ifCond .eq 7, 3) := by decide +kernel
theorem dX0_dueAfterFirst_37 : decode cX0_dueAfterFirst 37 = .ok (.iconst 2, 1) := by decide +kernel
theorem dX0_dueAfterFirst_38 : decode cX0_dueAfterFirst 38 = .ok (.goto 4, 3) := by decide +kernel
theorem dX0_dueAfterFirst_41 : decode cX0_dueAfterFirst 41 = .ok (.iconst 0, 1) := by decide +kernel
theorem dX0_dueAfterFirst_42 : decode cX0_dueAfterFirst 42 = .ok (.ireturn, 1) := by decide +kernel
theorem dX0_dueAfterStar_0 : decode cX0_dueAfterStar 0 = .ok (.iload_n 0, 1) := by decide +kernel
theorem dX0_dueAfterStar_1 : decode cX0_dueAfterStar 1 = .ok (.bipush 42, 2) := by decide +kernel
theorem dX0_dueAfterStar_3 : decode cX0_dueAfterStar 3 = .ok (.if_icmp .ne 7, 3) := by decide +kernel
theorem dX0_dueAfterStar_6 : decode cX0_dueAfterStar 6 = .ok (.iconst 4, 1) := by decide +kernel
theorem dX0_dueAfterStar_7 : decode cX0_dueAfterStar 7 = .ok (.goto 4, 3) := by decide +kernel
theorem dX0_dueAfterStar_10 : decode cX0_dueAfterStar 10 = .ok (.iconst 0, 1) := by decide +kernel
theorem dX0_dueAfterStar_11 : decode cX0_dueAfterStar 11 = .ok (.ireturn, 1) := by decide +kernel
set_option maxRecDepth 20000 in
theorem ggX0_dueAfterMinutesDigit_X3_isWithin : GoodIn wsX0_dueAfterMinutesDigit wsX3_isWithin := goodIn_r _ [3] (by decide +kernel) (by decide +kernel)
set_option maxRecDepth 20000 in
theorem gX0_dueAfterMinutesDigit_X3_isWithin_n29 : GoodIn wsX0_dueAfterMinutesDigit (wsX3_isWithin) := ggX0_dueAfterMinutesDigit_X3_isWithin
theorem dX0_dueAfterMinutesDigit_0 : decode cX0_dueAfterMinutesDigit 0 = .ok (.iload_n 0, 1) := by decide +kernel
theorem dX0_dueAfterMinutesDigit_1 : decode cX0_dueAfterMinutesDigit 1 = .ok (.bipush 49, 2) := by decide +kernel
theorem dX0_dueAfterMinutesDigit_3 : decode cX0_dueAfterMinutesDigit 3 = .ok (.bipush 53, 2) := by decide +kernel
theorem dX0_dueAfterMinutesDigit_5 : decode cX0_dueAfterMinutesDigit 5 = .ok (.invokestatic 29, 3) := by decide +kernel
theorem dX0_dueAfterMinutesDigit_8 : decode cX0_dueAfterMinutesDigit 8 = .ok (.ifCond .eq 5, 3) := by decide +kernel
theorem dX0_dueAfterMinutesDigit_11 : decode cX0_dueAfterMinutesDigit 11 = .ok (.iconst 5, 1) := by decide +kernel
theorem dX0_dueAfterMinutesDigit_12 : decode cX0_dueAfterMinutesDigit 12 = .ok (.ireturn, 1) := by decide +kernel
theorem dX0_dueAfterMinutesDigit_13 : decode cX0_dueAfterMinutesDigit 13 = .ok (.iload_n 0, 1) := by decide +kernel
theorem dX0_dueAfterMinutesDigit_14 : decode cX0_dueAfterMinutesDigit 14 = .ok (.bipush 54, 2) := by decide +kernel
theorem dX0_dueAfterMinutesDigit_16 : decode cX0_dueAfterMinutesDigit 16 = .ok (.if_icmp .ne 6, 3) := by decide +kernel
theorem dX0_dueAfterMinutesDigit_19 : decode cX0_dueAfterMinutesDigit 19 = .ok (.bipush 6, 2) := by decide +kernel
theorem dX0_dueAfterMinutesDigit_21 : decode cX0_dueAfterMinutesDigit 21 = .ok (.ireturn, 1) := by decide +kernel
theorem dX0_dueAfterMinutesDigit_22 : decode cX0_dueAfterMinutesDigit 22 = .ok (.iload_n 0, 1) := by decide +kernel
theorem dX0_dueAfterMinutesDigit_23 : decode cX0_dueAfterMinutesDigit 23 = .ok (.bipush 55, 2) := by decide +kernel
theorem dX0_dueAfterMinutesDigit_25 : decode cX0_dueAfterMinutesDigit 25 = .ok (.bipush 57, 2) := by decide +kernel
theorem dX0_dueAfterMinutesDigit_27 : decode cX0_dueAfterMinutesDigit 27 = .ok (.invokestatic 29, 3) := by decide +kernel
theorem dX0_dueAfterMinutesDigit_30 : decode cX0_dueAfterMinutesDigit 30 = .ok (.ifCond .eq 8, 3) := by decide +kernel
theorem dX0_dueAfterMinutesDigit_33 : decode cX0_dueAfterMinutesDigit 33 = .ok (.bipush 7, 2) := by decide +kernel
theorem dX0_dueAfterMinutesDigit_35 : decode cX0_dueAfterMinutesDigit 35 = .ok (.goto 4, 3) := by decide +kernel
theorem dX0_dueAfterMinutesDigit_38 : decode cX0_dueAfterMinutesDigit 38 = .ok (.iconst 0, 1) := by decide +kernel
theorem dX0_dueAfterMinutesDigit_39 : decode cX0_dueAfterMinutesDigit 39 = .ok (.ireturn, 1) := by decide +kernel
set_option maxRecDepth 20000 in
theorem ggX0_playOn_X0_playPart : GoodIn wsX0_playOn wsX0_playPart := goodIn_r _ [6, 7, 8, 9, 10, 11, 12, 13, 14, 15, 16, 17, 18, 19, 20, 5, 21, 22, 23, 24, 25, 26, 27, 28, 29, 30, 31, 32, 33, 34, 35, 36, 37, 38, 39, 40, 41, 42, 43, 44, 45, 46, 47, 48, 49, 50, 51, 52, 53, 54, 55, 56, 57, 58, 59, 60, 61, 62, 63, 64, 65, 66, 67, 68, 69, 74, 75, 76, 77, 78, 79, 80, 81, 82, 83, 84, 85, 86, 87, 88, 89] (by decide +kernel) (by decide +kernel)
set_option maxRecDepth 20000 in
theorem gX0_playOn_X0_playPart : GoodIn wsX0_playOn (va_wsS RX0 41 yX0_playPart wsX0_playPart) := goodIn_app (goodIn_of _ (by decide +kernel)) ggX0_playOn_X0_playPart
set_option maxRecDepth 20000 in
theorem ggX0_playOn_X3_isWithin : GoodIn wsX0_playOn wsX3_isWithin := goodIn_r _ [71] (by decide +kernel) (by decide +kernel)
set_option maxRecDepth 20000 in
theorem gX0_playOn_X3_isWithin_n29 : GoodIn wsX0_playOn (wsX3_isWithin) := ggX0_playOn_X3_isWithin
theorem dX0_playOn_0 : decode cX0_playOn 0 = .ok (.bipush 42, 2) := by decide +kernel
theorem dX0_playOn_2 : decode cX0_playOn 2 = .ok (.istore_n 2, 1) := by decide +kernel
theorem dX0_playOn_3 : decode cX0_playOn 3 = .ok (.iconst 0, 1) := by decide +kernel
theorem dX0_playOn_4 : decode cX0_playOn 4 = .ok (.istore_n 3, 1) := by decide +kernel
theorem dX0_playOn_5 : decode cX0_playOn 5 = .ok (.iconst 0, 1) := by decide +kernel
theorem dX0_playOn_6 : decode cX0_playOn 6 = .ok (.istore 4, 2) := by decide +kernel
theorem dX0_playOn_8 : decode cX0_playOn 8 = .ok (.iconst 0, 1) := by decide +kernel
theorem dX0_playOn_9 : decode cX0_playOn 9 = .ok (.istore 5, 2) := by decide +kernel
theorem dX0_playOn_11 : decode cX0_playOn 11 = .ok (.iload 5, 2) := by decide +kernel
theorem dX0_playOn_13 : decode cX0_playOn 13 = .ok (.aload_n 0, 1) := by decide +kernel
theorem dX0_playOn_14 : decode cX0_playOn 14 = .ok (.getfield 13, 3) := by decide +kernel
theorem dX0_playOn_17 : decode cX0_playOn 17 = .ok (.if_icmp .ge 76, 3) := by decide +kernel
theorem dX0_playOn_20 : decode cX0_playOn 20 = .ok (.aload_n 0, 1) := by decide +kernel
theorem dX0_playOn_21 : decode cX0_playOn 21 = .ok (.getfield 9, 3) := by decide +kernel
theorem dX0_playOn_24 : decode cX0_playOn 24 = .ok (.iload 5, 2) := by decide +kernel
theorem dX0_playOn_26 : decode cX0_playOn 26 = .ok (.iaload, 1) := by decide +kernel
theorem dX0_playOn_27 : decode cX0_playOn 27 = .ok (.istore 6, 2) := by decide +kernel
theorem dX0_playOn_29 : decode cX0_playOn 29 = .ok (.iload 6, 2) := by decide +kernel
theorem dX0_playOn_31 : decode cX0_playOn 31 = .ok (.bipush 59, 2) := by decide +kernel
theorem dX0_playOn_33 : decode cX0_playOn 33 = .ok (.if_icmp .ne 17, 3) := by decide +kernel
theorem dX0_playOn_36 : decode cX0_playOn 36 = .ok (.aload_n 1, 1) := by decide +kernel
theorem dX0_playOn_37 : decode cX0_playOn 37 = .ok (.iload_n 2, 1) := by decide +kernel
theorem dX0_playOn_38 : decode cX0_playOn 38 = .ok (.iload_n 3, 1) := by decide +kernel
theorem dX0_playOn_39 : decode cX0_playOn 39 = .ok (.iload 4, 2) := by decide +kernel
theorem dX0_playOn_41 : decode cX0_playOn 41 = .ok (.invokestatic 41, 3) := by decide +kernel
theorem dX0_playOn_44 : decode cX0_playOn 44 = .ok (.iconst 0, 1) := by decide +kernel
theorem dX0_playOn_45 : decode cX0_playOn 45 = .ok (.istore 4, 2) := by decide +kernel
theorem dX0_playOn_47 : decode cX0_playOn 47 = .ok (.goto 40, 3) := by decide +kernel
theorem dX0_playOn_50 : decode cX0_playOn 50 = .ok (.iload 6, 2) := by decide +kernel
theorem dX0_playOn_52 : decode cX0_playOn 52 = .ok (.bipush 48, 2) := by decide +kernel
theorem dX0_playOn_54 : decode cX0_playOn 54 = .ok (.bipush 57, 2) := by decide +kernel
theorem dX0_playOn_56 : decode cX0_playOn 56 = .ok (.invokestatic 29, 3) := by decide +kernel
theorem dX0_playOn_59 : decode cX0_playOn 59 = .ok (.ifCond .eq 19, 3) := by decide +kernel
theorem dX0_playOn_62 : decode cX0_playOn 62 = .ok (.iload 4, 2) := by decide +kernel
theorem dX0_playOn_64 : decode cX0_playOn 64 = .ok (.bipush 10, 2) := by decide +kernel
theorem dX0_playOn_66 : decode cX0_playOn 66 = .ok (.imul, 1) := by decide +kernel
theorem dX0_playOn_67 : decode cX0_playOn 67 = .ok (.iload 6, 2) := by decide +kernel
theorem dX0_playOn_69 : decode cX0_playOn 69 = .ok (.iadd, 1) := by decide +kernel
theorem dX0_playOn_70 : decode cX0_playOn 70 = .ok (.bipush 48, 2) := by decide +kernel
theorem dX0_playOn_72 : decode cX0_playOn 72 = .ok (.isub, 1) := by decide +kernel
theorem dX0_playOn_73 : decode cX0_playOn 73 = .ok (.istore 4, 2) := by decide +kernel
theorem dX0_playOn_75 : decode cX0_playOn 75 = .ok (.goto 12, 3) := by decide +kernel
theorem dX0_playOn_78 : decode cX0_playOn 78 = .ok (.iload 6, 2) := by decide +kernel
theorem dX0_playOn_80 : decode cX0_playOn 80 = .ok (.istore_n 2, 1) := by decide +kernel
theorem dX0_playOn_81 : decode cX0_playOn 81 = .ok (.iload 4, 2) := by decide +kernel
theorem dX0_playOn_83 : decode cX0_playOn 83 = .ok (.istore_n 3, 1) := by decide +kernel
theorem dX0_playOn_84 : decode cX0_playOn 84 = .ok (.iconst 0, 1) := by decide +kernel
theorem dX0_playOn_85 : decode cX0_playOn 85 = .ok (.istore 4, 2) := by decide +kernel
theorem dX0_playOn_87 : decode cX0_playOn 87 = .ok (.iinc 5 1, 3) := by decide +kernel
theorem dX0_playOn_90 : decode cX0_playOn 90 = .ok (.goto (-79), 3) := by decide +kernel
theorem dX0_playOn_93 : decode cX0_playOn 93 = .ok (.aload_n 1, 1) := by decide +kernel
theorem dX0_playOn_94 : decode cX0_playOn 94 = .ok (.iload_n 2, 1) := by decide +kernel
theorem dX0_playOn_95 : decode cX0_playOn 95 = .ok (.iload_n 3, 1) := by decide +kernel
theorem dX0_playOn_96 : decode cX0_playOn 96 = .ok (.iload 4, 2) := by decide +kernel
theorem dX0_playOn_98 : decode cX0_playOn 98 = .ok (.invokestatic 41, 3) := by decide +kernel
theorem dX0_playOn_101 : decode cX0_playOn 101 = .ok (.return_, 1) := by decide +kernel
set_option maxRecDepth 20000 in
theorem ggX0_playPart_X1_passWeek : GoodIn wsX0_playPart wsX1_passWeek := goodIn_r _ [5, 6, 7, 8, 9, 10, 11, 12, 65, 66, 67, 68, 69, 70, 71, 72, 73, 74, 75, 76, 77, 78, 79, 80] (by decide +kernel) (by decide +kernel)
set_option maxRecDepth 20000 in
theorem gX0_playPart_X1_passWeek : GoodIn wsX0_playPart (wsV RX0 45 RX1 yX1_passWeek wsX1_passWeek) := goodIn_app (goodIn_of _ (by decide +kernel)) ggX0_playPart_X1_passWeek
set_option maxRecDepth 20000 in
theorem ggX0_playPart_X0_cleanOn : GoodIn wsX0_playPart wsX0_cleanOn := goodIn_r _ [16, 17, 18, 19, 20, 21, 22, 4, 23, 6, 65, 66, 67, 68, 69, 70, 71, 72, 73, 74, 75, 76, 77, 78, 79, 80] (by decide +kernel) (by decide +kernel)
set_option maxRecDepth 20000 in
theorem gX0_playPart_X0_cleanOn : GoodIn wsX0_playPart (va_wsS RX0 50 yX0_cleanOn wsX0_cleanOn) := goodIn_app (goodIn_of _ (by decide +kernel)) ggX0_playPart_X0_cleanOn
set_option maxRecDepth 20000 in
theorem ggX0_playPart_X1_passMinutes : GoodIn wsX0_playPart wsX1_passMinutes := goodIn_r _ [27, 28, 29, 30, 4, 31, 32, 33, 34, 35, 36, 37, 38, 39, 40, 41, 42, 17, 18, 19, 43, 44, 45, 46, 7, 8, 9, 10, 11, 47, 48, 49, 50, 51, 52, 53, 6, 54, 55, 56, 57, 58, 59, 60, 61, 62, 63, 64, 65, 66, 67, 68, 69, 70, 71, 72, 73, 74, 75, 76, 77, 78, 79, 80] (by decide +kernel) (by decide +kernel)
set_option maxRecDepth 20000 in
theorem gX0_playPart_X1_passMinutes : GoodIn wsX0_playPart (wsV RX0 54 RX1 yX1_passMinutes wsX1_passMinutes) := goodIn_app (goodIn_of _ (by decide +kernel)) ggX0_playPart_X1_passMinutes
theorem dX0_playPart_0 : decode cX0_playPart 0 = .ok (.iload_n 1, 1) := by decide +kernel
theorem dX0_playPart_1 : decode cX0_playPart 1 = .ok (.bipush 119, 2) := by decide +kernel
theorem dX0_playPart_3 : decode cX0_playPart 3 = .ok (.if_icmp .ne 10, 3) := by decide +kernel
theorem dX0_playPart_6 : decode cX0_playPart 6 = .ok (.aload_n 0, 1) := by decide +kernel
theorem dX0_playPart_7 : decode cX0_playPart 7 = .ok (.invokevirtual 45, 3) := by decide +kernel
theorem dX0_playPart_10 : decode cX0_playPart 10 = .ok (.goto 23, 3) := by decide +kernel
theorem dX0_playPart_13 : decode cX0_playPart 13 = .ok (.iload_n 1, 1) := by decide +kernel
theorem dX0_playPart_14 : decode cX0_playPart 14 = .ok (.bipush 99, 2) := by decide +kernel
theorem dX0_playPart_16 : decode cX0_playPart 16 = .ok (.if_icmp .ne 11, 3) := by decide +kernel
theorem dX0_playPart_19 : decode cX0_playPart 19 = .ok (.aload_n 0, 1) := by decide +kernel
theorem dX0_playPart_20 : decode cX0_playPart 20 = .ok (.iload_n 3, 1) := by decide +kernel
theorem dX0_playPart_21 : decode cX0_playPart 21 = .ok (.invokestatic 50, 3) := by decide +kernel
theorem dX0_playPart_24 : decode cX0_playPart 24 = .ok (.goto 9, 3) := by decide +kernel
theorem dX0_playPart_27 : decode cX0_playPart 27 = .ok (.aload_n 0, 1) := by decide +kernel
theorem dX0_playPart_28 : decode cX0_playPart 28 = .ok (.iload_n 2, 1) := by decide +kernel
theorem dX0_playPart_29 : decode cX0_playPart 29 = .ok (.iload_n 3, 1) := by decide +kernel
theorem dX0_playPart_30 : decode cX0_playPart 30 = .ok (.invokevirtual 54, 3) := by decide +kernel
theorem dX0_playPart_33 : decode cX0_playPart 33 = .ok (.return_, 1) := by decide +kernel
set_option maxRecDepth 20000 in
theorem ggX0_cleanOn_X3_isGutter : GoodIn wsX0_cleanOn wsX3_isGutter := goodIn_r _ [3] (by decide +kernel) (by decide +kernel)
set_option maxRecDepth 20000 in
theorem gX0_cleanOn_X3_isGutter_n58 : GoodIn wsX0_cleanOn (wsX3_isGutter) := ggX0_cleanOn_X3_isGutter
set_option maxRecDepth 20000 in
theorem ggX0_cleanOn_X1_takeLeaves : GoodIn wsX0_cleanOn wsX1_takeLeaves := goodIn_r _ [8, 9, 10, 11, 12, 13, 14, 15, 16, 17, 18, 19, 20, 21, 22, 23, 24, 25] (by decide +kernel) (by decide +kernel)
set_option maxRecDepth 20000 in
theorem gX0_cleanOn_X1_takeLeaves : GoodIn wsX0_cleanOn (wsV RX0 61 RX1 yX1_takeLeaves wsX1_takeLeaves) := goodIn_app (goodIn_of _ (by decide +kernel)) ggX0_cleanOn_X1_takeLeaves
theorem dX0_cleanOn_0 : decode cX0_cleanOn 0 = .ok (.iload_n 1, 1) := by decide +kernel
theorem dX0_cleanOn_1 : decode cX0_cleanOn 1 = .ok (.invokestatic 58, 3) := by decide +kernel
theorem dX0_cleanOn_4 : decode cX0_cleanOn 4 = .ok (.ifCond .eq 9, 3) := by decide +kernel
theorem dX0_cleanOn_7 : decode cX0_cleanOn 7 = .ok (.aload_n 0, 1) := by decide +kernel
theorem dX0_cleanOn_8 : decode cX0_cleanOn 8 = .ok (.iload_n 1, 1) := by decide +kernel
theorem dX0_cleanOn_9 : decode cX0_cleanOn 9 = .ok (.invokevirtual 61, 3) := by decide +kernel
theorem dX0_cleanOn_12 : decode cX0_cleanOn 12 = .ok (.pop, 1) := by decide +kernel
theorem dX0_cleanOn_13 : decode cX0_cleanOn 13 = .ok (.return_, 1) := by decide +kernel
theorem dX1_init_0 : decode cX1_init 0 = .ok (.aload_n 0, 1) := by decide +kernel
theorem dX1_init_1 : decode cX1_init 1 = .ok (.invokespecial 3, 3) := by decide +kernel
theorem dX1_init_4 : decode cX1_init 4 = .ok (.aload_n 0, 1) := by decide +kernel
theorem dX1_init_5 : decode cX1_init 5 = .ok (.bipush 6, 2) := by decide +kernel
theorem dX1_init_7 : decode cX1_init 7 = .ok (.newarray .int, 2) := by decide +kernel
theorem dX1_init_9 : decode cX1_init 9 = .ok (.putfield 9, 3) := by decide +kernel
theorem dX1_init_12 : decode cX1_init 12 = .ok (.aload_n 0, 1) := by decide +kernel
theorem dX1_init_13 : decode cX1_init 13 = .ok (.bipush 6, 2) := by decide +kernel
theorem dX1_init_15 : decode cX1_init 15 = .ok (.newarray .int, 2) := by decide +kernel
theorem dX1_init_17 : decode cX1_init 17 = .ok (.putfield 15, 3) := by decide +kernel
theorem dX1_init_20 : decode cX1_init 20 = .ok (.aload_n 0, 1) := by decide +kernel
theorem dX1_init_21 : decode cX1_init 21 = .ok (.bipush 6, 2) := by decide +kernel
theorem dX1_init_23 : decode cX1_init 23 = .ok (.newarray .int, 2) := by decide +kernel
theorem dX1_init_25 : decode cX1_init 25 = .ok (.putfield 18, 3) := by decide +kernel
theorem dX1_init_28 : decode cX1_init 28 = .ok (.aload_n 0, 1) := by decide +kernel
theorem dX1_init_29 : decode cX1_init 29 = .ok (.bipush 6, 2) := by decide +kernel
theorem dX1_init_31 : decode cX1_init 31 = .ok (.newarray .int, 2) := by decide +kernel
theorem dX1_init_33 : decode cX1_init 33 = .ok (.putfield 21, 3) := by decide +kernel
theorem dX1_init_36 : decode cX1_init 36 = .ok (.iconst 0, 1) := by decide +kernel
theorem dX1_init_37 : decode cX1_init 37 = .ok (.istore_n 1, 1) := by decide +kernel
theorem dX1_init_38 : decode cX1_init 38 = .ok (.iload_n 1, 1) := by decide +kernel
theorem dX1_init_39 : decode cX1_init 39 = .ok (.bipush 6, 2) := by decide +kernel
theorem dX1_init_41 : decode cX1_init 41 = .ok (.if_icmp .ge 31, 3) := by decide +kernel
theorem dX1_init_44 : decode cX1_init 44 = .ok (.aload_n 0, 1) := by decide +kernel
theorem dX1_init_45 : decode cX1_init 45 = .ok (.getfield 9, 3) := by decide +kernel
theorem dX1_init_48 : decode cX1_init 48 = .ok (.iload_n 1, 1) := by decide +kernel
theorem dX1_init_49 : decode cX1_init 49 = .ok (.bipush 40, 2) := by decide +kernel
theorem dX1_init_51 : decode cX1_init 51 = .ok (.iastore, 1) := by decide +kernel
theorem dX1_init_52 : decode cX1_init 52 = .ok (.aload_n 0, 1) := by decide +kernel
theorem dX1_init_53 : decode cX1_init 53 = .ok (.getfield 15, 3) := by decide +kernel
theorem dX1_init_56 : decode cX1_init 56 = .ok (.iload_n 1, 1) := by decide +kernel
theorem dX1_init_57 : decode cX1_init 57 = .ok (.iconst 3, 1) := by decide +kernel
theorem dX1_init_58 : decode cX1_init 58 = .ok (.iastore, 1) := by decide +kernel
theorem dX1_init_59 : decode cX1_init 59 = .ok (.aload_n 0, 1) := by decide +kernel
theorem dX1_init_60 : decode cX1_init 60 = .ok (.getfield 18, 3) := by decide +kernel
theorem dX1_init_63 : decode cX1_init 63 = .ok (.iload_n 1, 1) := by decide +kernel
theorem dX1_init_64 : decode cX1_init 64 = .ok (.iload_n 1, 1) := by decide +kernel
theorem dX1_init_65 : decode cX1_init 65 = .ok (.iastore, 1) := by decide +kernel
theorem dX1_init_66 : decode cX1_init 66 = .ok (.iinc 1 1, 3) := by decide +kernel
theorem dX1_init_69 : decode cX1_init 69 = .ok (.goto (-31), 3) := by decide +kernel
theorem dX1_init_72 : decode cX1_init 72 = .ok (.aload_n 0, 1) := by decide +kernel
theorem dX1_init_73 : decode cX1_init 73 = .ok (.bipush 6, 2) := by decide +kernel
theorem dX1_init_75 : decode cX1_init 75 = .ok (.newarray .int, 2) := by decide +kernel
theorem dX1_init_77 : decode cX1_init 77 = .ok (.putfield 24, 3) := by decide +kernel
theorem dX1_init_80 : decode cX1_init 80 = .ok (.aload_n 0, 1) := by decide +kernel
theorem dX1_init_81 : decode cX1_init 81 = .ok (.bipush 6, 2) := by decide +kernel
theorem dX1_init_83 : decode cX1_init 83 = .ok (.newarray .int, 2) := by decide +kernel
theorem dX1_init_85 : decode cX1_init 85 = .ok (.putfield 27, 3) := by decide +kernel
theorem dX1_init_88 : decode cX1_init 88 = .ok (.aload_n 0, 1) := by decide +kernel
theorem dX1_init_89 : decode cX1_init 89 = .ok (.bipush 6, 2) := by decide +kernel
theorem dX1_init_91 : decode cX1_init 91 = .ok (.newarray .int, 2) := by decide +kernel
theorem dX1_init_93 : decode cX1_init 93 = .ok (.putfield 30, 3) := by decide +kernel
theorem dX1_init_96 : decode cX1_init 96 = .ok (.aload_n 0, 1) := by decide +kernel
theorem dX1_init_97 : decode cX1_init 97 = .ok (.bipush 6, 2) := by decide +kernel
theorem dX1_init_99 : decode cX1_init 99 = .ok (.newarray .int, 2) := by decide +kernel
theorem dX1_init_101 : decode cX1_init 101 = .ok (.putfield 33, 3) := by decide +kernel
theorem dX1_init_104 : decode cX1_init 104 = .ok (.aload_n 0, 1) := by decide +kernel
theorem dX1_init_105 : decode cX1_init 105 = .ok (.bipush 6, 2) := by decide +kernel
theorem dX1_init_107 : decode cX1_init 107 = .ok (.newarray .int, 2) := by decide +kernel
theorem dX1_init_109 : decode cX1_init 109 = .ok (.putfield 36, 3) := by decide +kernel
theorem dX1_init_112 : decode cX1_init 112 = .ok (.aload_n 0, 1) := by decide +kernel
theorem dX1_init_113 : decode cX1_init 113 = .ok (.bipush 6, 2) := by decide +kernel
theorem dX1_init_115 : decode cX1_init 115 = .ok (.newarray .int, 2) := by decide +kernel
theorem dX1_init_117 : decode cX1_init 117 = .ok (.putfield 39, 3) := by decide +kernel
theorem dX1_init_120 : decode cX1_init 120 = .ok (.aload_n 0, 1) := by decide +kernel
theorem dX1_init_121 : decode cX1_init 121 = .ok (.bipush 6, 2) := by decide +kernel
theorem dX1_init_123 : decode cX1_init 123 = .ok (.newarray .int, 2) := by decide +kernel
theorem dX1_init_125 : decode cX1_init 125 = .ok (.putfield 42, 3) := by decide +kernel
theorem dX1_init_128 : decode cX1_init 128 = .ok (.iconst 0, 1) := by decide +kernel
theorem dX1_init_129 : decode cX1_init 129 = .ok (.istore_n 1, 1) := by decide +kernel
theorem dX1_init_130 : decode cX1_init 130 = .ok (.iload_n 1, 1) := by decide +kernel
theorem dX1_init_131 : decode cX1_init 131 = .ok (.bipush 6, 2) := by decide +kernel
theorem dX1_init_133 : decode cX1_init 133 = .ok (.if_icmp .ge 32, 3) := by decide +kernel
theorem dX1_init_136 : decode cX1_init 136 = .ok (.aload_n 0, 1) := by decide +kernel
theorem dX1_init_137 : decode cX1_init 137 = .ok (.getfield 24, 3) := by decide +kernel
theorem dX1_init_140 : decode cX1_init 140 = .ok (.iload_n 1, 1) := by decide +kernel
theorem dX1_init_141 : decode cX1_init 141 = .ok (.bipush 60, 2) := by decide +kernel
theorem dX1_init_143 : decode cX1_init 143 = .ok (.iastore, 1) := by decide +kernel
theorem dX1_init_144 : decode cX1_init 144 = .ok (.aload_n 0, 1) := by decide +kernel
theorem dX1_init_145 : decode cX1_init 145 = .ok (.getfield 27, 3) := by decide +kernel
theorem dX1_init_148 : decode cX1_init 148 = .ok (.iload_n 1, 1) := by decide +kernel
theorem dX1_init_149 : decode cX1_init 149 = .ok (.bipush 20, 2) := by decide +kernel
theorem dX1_init_151 : decode cX1_init 151 = .ok (.iastore, 1) := by decide +kernel
theorem dX1_init_152 : decode cX1_init 152 = .ok (.aload_n 0, 1) := by decide +kernel
theorem dX1_init_153 : decode cX1_init 153 = .ok (.getfield 33, 3) := by decide +kernel
theorem dX1_init_156 : decode cX1_init 156 = .ok (.iload_n 1, 1) := by decide +kernel
theorem dX1_init_157 : decode cX1_init 157 = .ok (.iconst (-1), 1) := by decide +kernel
theorem dX1_init_158 : decode cX1_init 158 = .ok (.iastore, 1) := by decide +kernel
theorem dX1_init_159 : decode cX1_init 159 = .ok (.iinc 1 1, 3) := by decide +kernel
theorem dX1_init_162 : decode cX1_init 162 = .ok (.goto (-32), 3) := by decide +kernel
theorem dX1_init_165 : decode cX1_init 165 = .ok (.aload_n 0, 1) := by decide +kernel
theorem dX1_init_166 : decode cX1_init 166 = .ok (.iconst 3, 1) := by decide +kernel
theorem dX1_init_167 : decode cX1_init 167 = .ok (.newarray .int, 2) := by decide +kernel
theorem dX1_init_169 : decode cX1_init 169 = .ok (.putfield 45, 3) := by decide +kernel
theorem dX1_init_172 : decode cX1_init 172 = .ok (.aload_n 0, 1) := by decide +kernel
theorem dX1_init_173 : decode cX1_init 173 = .ok (.getfield 45, 3) := by decide +kernel
theorem dX1_init_176 : decode cX1_init 176 = .ok (.iconst 0, 1) := by decide +kernel
theorem dX1_init_177 : decode cX1_init 177 = .ok (.bipush 100, 2) := by decide +kernel
theorem dX1_init_179 : decode cX1_init 179 = .ok (.iastore, 1) := by decide +kernel
theorem dX1_init_180 : decode cX1_init 180 = .ok (.aload_n 0, 1) := by decide +kernel
theorem dX1_init_181 : decode cX1_init 181 = .ok (.getfield 45, 3) := by decide +kernel
theorem dX1_init_184 : decode cX1_init 184 = .ok (.iconst 1, 1) := by decide +kernel
theorem dX1_init_185 : decode cX1_init 185 = .ok (.iconst 4, 1) := by decide +kernel
theorem dX1_init_186 : decode cX1_init 186 = .ok (.iastore, 1) := by decide +kernel
theorem dX1_init_187 : decode cX1_init 187 = .ok (.aload_n 0, 1) := by decide +kernel
theorem dX1_init_188 : decode cX1_init 188 = .ok (.getfield 45, 3) := by decide +kernel
theorem dX1_init_191 : decode cX1_init 191 = .ok (.iconst 2, 1) := by decide +kernel
theorem dX1_init_192 : decode cX1_init 192 = .ok (.bipush 20, 2) := by decide +kernel
theorem dX1_init_194 : decode cX1_init 194 = .ok (.iastore, 1) := by decide +kernel
theorem dX1_init_195 : decode cX1_init 195 = .ok (.return_, 1) := by decide +kernel
theorem dX1_copyFrom_0 : decode cX1_copyFrom 0 = .ok (.aload_n 1, 1) := by decide +kernel
theorem dX1_copyFrom_1 : decode cX1_copyFrom 1 = .ok (.getfield 9, 3) := by decide +kernel
theorem dX1_copyFrom_4 : decode cX1_copyFrom 4 = .ok (.iconst 0, 1) := by decide +kernel
theorem dX1_copyFrom_5 : decode cX1_copyFrom 5 = .ok (.aload_n 0, 1) := by decide +kernel
theorem dX1_copyFrom_6 : decode cX1_copyFrom 6 = .ok (.getfield 9, 3) := by decide +kernel
theorem dX1_copyFrom_9 : decode cX1_copyFrom 9 = .ok (.iconst 0, 1) := by decide +kernel
theorem dX1_copyFrom_10 : decode cX1_copyFrom 10 = .ok (.bipush 6, 2) := by decide +kernel
theorem dX1_copyFrom_12 : decode cX1_copyFrom 12 = .ok (.invokestatic 48, 3) := by decide +kernel
theorem dX1_copyFrom_15 : decode cX1_copyFrom 15 = .ok (.aload_n 1, 1) := by decide +kernel
theorem dX1_copyFrom_16 : decode cX1_copyFrom 16 = .ok (.getfield 15, 3) := by decide +kernel
theorem dX1_copyFrom_19 : decode cX1_copyFrom 19 = .ok (.iconst 0, 1) := by decide +kernel
theorem dX1_copyFrom_20 : decode cX1_copyFrom 20 = .ok (.aload_n 0, 1) := by decide +kernel
theorem dX1_copyFrom_21 : decode cX1_copyFrom 21 = .ok (.getfield 15, 3) := by decide +kernel
theorem dX1_copyFrom_24 : decode cX1_copyFrom 24 = .ok (.iconst 0, 1) := by decide +kernel
theorem dX1_copyFrom_25 : decode cX1_copyFrom 25 = .ok (.bipush 6, 2) := by decide +kernel
theorem dX1_copyFrom_27 : decode cX1_copyFrom 27 = .ok (.invokestatic 48, 3) := by decide +kernel
theorem dX1_copyFrom_30 : decode cX1_copyFrom 30 = .ok (.aload_n 1, 1) := by decide +kernel
theorem dX1_copyFrom_31 : decode cX1_copyFrom 31 = .ok (.getfield 18, 3) := by decide +kernel
theorem dX1_copyFrom_34 : decode cX1_copyFrom 34 = .ok (.iconst 0, 1) := by decide +kernel
theorem dX1_copyFrom_35 : decode cX1_copyFrom 35 = .ok (.aload_n 0, 1) := by decide +kernel
theorem dX1_copyFrom_36 : decode cX1_copyFrom 36 = .ok (.getfield 18, 3) := by decide +kernel
theorem dX1_copyFrom_39 : decode cX1_copyFrom 39 = .ok (.iconst 0, 1) := by decide +kernel
theorem dX1_copyFrom_40 : decode cX1_copyFrom 40 = .ok (.bipush 6, 2) := by decide +kernel
theorem dX1_copyFrom_42 : decode cX1_copyFrom 42 = .ok (.invokestatic 48, 3) := by decide +kernel
theorem dX1_copyFrom_45 : decode cX1_copyFrom 45 = .ok (.aload_n 1, 1) := by decide +kernel
theorem dX1_copyFrom_46 : decode cX1_copyFrom 46 = .ok (.getfield 21, 3) := by decide +kernel
theorem dX1_copyFrom_49 : decode cX1_copyFrom 49 = .ok (.iconst 0, 1) := by decide +kernel
theorem dX1_copyFrom_50 : decode cX1_copyFrom 50 = .ok (.aload_n 0, 1) := by decide +kernel
theorem dX1_copyFrom_51 : decode cX1_copyFrom 51 = .ok (.getfield 21, 3) := by decide +kernel
theorem dX1_copyFrom_54 : decode cX1_copyFrom 54 = .ok (.iconst 0, 1) := by decide +kernel
theorem dX1_copyFrom_55 : decode cX1_copyFrom 55 = .ok (.bipush 6, 2) := by decide +kernel
theorem dX1_copyFrom_57 : decode cX1_copyFrom 57 = .ok (.invokestatic 48, 3) := by decide +kernel
theorem dX1_copyFrom_60 : decode cX1_copyFrom 60 = .ok (.aload_n 1, 1) := by decide +kernel
theorem dX1_copyFrom_61 : decode cX1_copyFrom 61 = .ok (.getfield 24, 3) := by decide +kernel
theorem dX1_copyFrom_64 : decode cX1_copyFrom 64 = .ok (.iconst 0, 1) := by decide +kernel
theorem dX1_copyFrom_65 : decode cX1_copyFrom 65 = .ok (.aload_n 0, 1) := by decide +kernel
theorem dX1_copyFrom_66 : decode cX1_copyFrom 66 = .ok (.getfield 24, 3) := by decide +kernel
theorem dX1_copyFrom_69 : decode cX1_copyFrom 69 = .ok (.iconst 0, 1) := by decide +kernel
theorem dX1_copyFrom_70 : decode cX1_copyFrom 70 = .ok (.bipush 6, 2) := by decide +kernel
theorem dX1_copyFrom_72 : decode cX1_copyFrom 72 = .ok (.invokestatic 48, 3) := by decide +kernel
theorem dX1_copyFrom_75 : decode cX1_copyFrom 75 = .ok (.aload_n 1, 1) := by decide +kernel
theorem dX1_copyFrom_76 : decode cX1_copyFrom 76 = .ok (.getfield 27, 3) := by decide +kernel
theorem dX1_copyFrom_79 : decode cX1_copyFrom 79 = .ok (.iconst 0, 1) := by decide +kernel
theorem dX1_copyFrom_80 : decode cX1_copyFrom 80 = .ok (.aload_n 0, 1) := by decide +kernel
theorem dX1_copyFrom_81 : decode cX1_copyFrom 81 = .ok (.getfield 27, 3) := by decide +kernel
theorem dX1_copyFrom_84 : decode cX1_copyFrom 84 = .ok (.iconst 0, 1) := by decide +kernel
theorem dX1_copyFrom_85 : decode cX1_copyFrom 85 = .ok (.bipush 6, 2) := by decide +kernel
theorem dX1_copyFrom_87 : decode cX1_copyFrom 87 = .ok (.invokestatic 48, 3) := by decide +kernel
theorem dX1_copyFrom_90 : decode cX1_copyFrom 90 = .ok (.aload_n 1, 1) := by decide +kernel
theorem dX1_copyFrom_91 : decode cX1_copyFrom 91 = .ok (.getfield 30, 3) := by decide +kernel
theorem dX1_copyFrom_94 : decode cX1_copyFrom 94 = .ok (.iconst 0, 1) := by decide +kernel
theorem dX1_copyFrom_95 : decode cX1_copyFrom 95 = .ok (.aload_n 0, 1) := by decide +kernel
theorem dX1_copyFrom_96 : decode cX1_copyFrom 96 = .ok (.getfield 30, 3) := by decide +kernel
theorem dX1_copyFrom_99 : decode cX1_copyFrom 99 = .ok (.iconst 0, 1) := by decide +kernel
theorem dX1_copyFrom_100 : decode cX1_copyFrom 100 = .ok (.bipush 6, 2) := by decide +kernel
theorem dX1_copyFrom_102 : decode cX1_copyFrom 102 = .ok (.invokestatic 48, 3) := by decide +kernel
theorem dX1_copyFrom_105 : decode cX1_copyFrom 105 = .ok (.aload_n 1, 1) := by decide +kernel
theorem dX1_copyFrom_106 : decode cX1_copyFrom 106 = .ok (.getfield 33, 3) := by decide +kernel
theorem dX1_copyFrom_109 : decode cX1_copyFrom 109 = .ok (.iconst 0, 1) := by decide +kernel
theorem dX1_copyFrom_110 : decode cX1_copyFrom 110 = .ok (.aload_n 0, 1) := by decide +kernel
theorem dX1_copyFrom_111 : decode cX1_copyFrom 111 = .ok (.getfield 33, 3) := by decide +kernel
theorem dX1_copyFrom_114 : decode cX1_copyFrom 114 = .ok (.iconst 0, 1) := by decide +kernel
theorem dX1_copyFrom_115 : decode cX1_copyFrom 115 = .ok (.bipush 6, 2) := by decide +kernel
theorem dX1_copyFrom_117 : decode cX1_copyFrom 117 = .ok (.invokestatic 48, 3) := by decide +kernel
theorem dX1_copyFrom_120 : decode cX1_copyFrom 120 = .ok (.aload_n 1, 1) := by decide +kernel
theorem dX1_copyFrom_121 : decode cX1_copyFrom 121 = .ok (.getfield 36, 3) := by decide +kernel
theorem dX1_copyFrom_124 : decode cX1_copyFrom 124 = .ok (.iconst 0, 1) := by decide +kernel
theorem dX1_copyFrom_125 : decode cX1_copyFrom 125 = .ok (.aload_n 0, 1) := by decide +kernel
theorem dX1_copyFrom_126 : decode cX1_copyFrom 126 = .ok (.getfield 36, 3) := by decide +kernel
theorem dX1_copyFrom_129 : decode cX1_copyFrom 129 = .ok (.iconst 0, 1) := by decide +kernel
theorem dX1_copyFrom_130 : decode cX1_copyFrom 130 = .ok (.bipush 6, 2) := by decide +kernel
theorem dX1_copyFrom_132 : decode cX1_copyFrom 132 = .ok (.invokestatic 48, 3) := by decide +kernel
theorem dX1_copyFrom_135 : decode cX1_copyFrom 135 = .ok (.aload_n 1, 1) := by decide +kernel
theorem dX1_copyFrom_136 : decode cX1_copyFrom 136 = .ok (.getfield 39, 3) := by decide +kernel
theorem dX1_copyFrom_139 : decode cX1_copyFrom 139 = .ok (.iconst 0, 1) := by decide +kernel
theorem dX1_copyFrom_140 : decode cX1_copyFrom 140 = .ok (.aload_n 0, 1) := by decide +kernel
theorem dX1_copyFrom_141 : decode cX1_copyFrom 141 = .ok (.getfield 39, 3) := by decide +kernel
theorem dX1_copyFrom_144 : decode cX1_copyFrom 144 = .ok (.iconst 0, 1) := by decide +kernel
theorem dX1_copyFrom_145 : decode cX1_copyFrom 145 = .ok (.bipush 6, 2) := by decide +kernel
theorem dX1_copyFrom_147 : decode cX1_copyFrom 147 = .ok (.invokestatic 48, 3) := by decide +kernel
theorem dX1_copyFrom_150 : decode cX1_copyFrom 150 = .ok (.aload_n 1, 1) := by decide +kernel
theorem dX1_copyFrom_151 : decode cX1_copyFrom 151 = .ok (.getfield 42, 3) := by decide +kernel
theorem dX1_copyFrom_154 : decode cX1_copyFrom 154 = .ok (.iconst 0, 1) := by decide +kernel
theorem dX1_copyFrom_155 : decode cX1_copyFrom 155 = .ok (.aload_n 0, 1) := by decide +kernel
theorem dX1_copyFrom_156 : decode cX1_copyFrom 156 = .ok (.getfield 42, 3) := by decide +kernel
theorem dX1_copyFrom_159 : decode cX1_copyFrom 159 = .ok (.iconst 0, 1) := by decide +kernel
theorem dX1_copyFrom_160 : decode cX1_copyFrom 160 = .ok (.bipush 6, 2) := by decide +kernel
theorem dX1_copyFrom_162 : decode cX1_copyFrom 162 = .ok (.invokestatic 48, 3) := by decide +kernel
theorem dX1_copyFrom_165 : decode cX1_copyFrom 165 = .ok (.aload_n 1, 1) := by decide +kernel
theorem dX1_copyFrom_166 : decode cX1_copyFrom 166 = .ok (.getfield 45, 3) := by decide +kernel
theorem dX1_copyFrom_169 : decode cX1_copyFrom 169 = .ok (.iconst 0, 1) := by decide +kernel
theorem dX1_copyFrom_170 : decode cX1_copyFrom 170 = .ok (.aload_n 0, 1) := by decide +kernel
theorem dX1_copyFrom_171 : decode cX1_copyFrom 171 = .ok (.getfield 45, 3) := by decide +kernel
theorem dX1_copyFrom_174 : decode cX1_copyFrom 174 = .ok (.iconst 0, 1) := by decide +kernel
theorem dX1_copyFrom_175 : decode cX1_copyFrom 175 = .ok (.iconst 3, 1) := by decide +kernel
theorem dX1_copyFrom_176 : decode cX1_copyFrom 176 = .ok (.invokestatic 48, 3) := by decide +kernel
theorem dX1_copyFrom_179 : decode cX1_copyFrom 179 = .ok (.aload_n 0, 1) := by decide +kernel
theorem dX1_copyFrom_180 : decode cX1_copyFrom 180 = .ok (.aload_n 1, 1) := by decide +kernel
theorem dX1_copyFrom_181 : decode cX1_copyFrom 181 = .ok (.getfield 54, 3) := by decide +kernel
theorem dX1_copyFrom_184 : decode cX1_copyFrom 184 = .ok (.putfield 54, 3) := by decide +kernel
theorem dX1_copyFrom_187 : decode cX1_copyFrom 187 = .ok (.aload_n 0, 1) := by decide +kernel
theorem dX1_copyFrom_188 : decode cX1_copyFrom 188 = .ok (.aload_n 1, 1) := by decide +kernel
theorem dX1_copyFrom_189 : decode cX1_copyFrom 189 = .ok (.getfield 58, 3) := by decide +kernel
theorem dX1_copyFrom_192 : decode cX1_copyFrom 192 = .ok (.putfield 58, 3) := by decide +kernel
theorem dX1_copyFrom_195 : decode cX1_copyFrom 195 = .ok (.aload_n 0, 1) := by decide +kernel
theorem dX1_copyFrom_196 : decode cX1_copyFrom 196 = .ok (.aload_n 1, 1) := by decide +kernel
theorem dX1_copyFrom_197 : decode cX1_copyFrom 197 = .ok (.getfield 61, 3) := by decide +kernel
theorem dX1_copyFrom_200 : decode cX1_copyFrom 200 = .ok (.putfield 61, 3) := by decide +kernel
theorem dX1_copyFrom_203 : decode cX1_copyFrom 203 = .ok (.aload_n 0, 1) := by decide +kernel
theorem dX1_copyFrom_204 : decode cX1_copyFrom 204 = .ok (.aload_n 1, 1) := by decide +kernel
theorem dX1_copyFrom_205 : decode cX1_copyFrom 205 = .ok (.getfield 64, 3) := by decide +kernel
theorem dX1_copyFrom_208 : decode cX1_copyFrom 208 = .ok (.putfield 64, 3) := by decide +kernel
theorem dX1_copyFrom_211 : decode cX1_copyFrom 211 = .ok (.return_, 1) := by decide +kernel
theorem dX1_changePlane_0 : decode cX1_changePlane 0 = .ok (.aload_n 0, 1) := by decide +kernel
theorem dX1_changePlane_1 : decode cX1_changePlane 1 = .ok (.getfield 9, 3) := by decide +kernel
theorem dX1_changePlane_4 : decode cX1_changePlane 4 = .ok (.iload_n 1, 1) := by decide +kernel
theorem dX1_changePlane_5 : decode cX1_changePlane 5 = .ok (.iaload, 1) := by decide +kernel
theorem dX1_changePlane_6 : decode cX1_changePlane 6 = .ok (.istore 5, 2) := by decide +kernel
theorem dX1_changePlane_8 : decode cX1_changePlane 8 = .ok (.aload_n 0, 1) := by decide +kernel
theorem dX1_changePlane_9 : decode cX1_changePlane 9 = .ok (.getfield 9, 3) := by decide +kernel
theorem dX1_changePlane_12 : decode cX1_changePlane 12 = .ok (.iload_n 1, 1) := by decide +kernel
theorem dX1_changePlane_13 : decode cX1_changePlane 13 = .ok (.iload_n 2, 1) := by decide +kernel
theorem dX1_changePlane_14 : decode cX1_changePlane 14 = .ok (.iastore, 1) := by decide +kernel
theorem dX1_changePlane_15 : decode cX1_changePlane 15 = .ok (.aload_n 0, 1) := by decide +kernel
theorem dX1_changePlane_16 : decode cX1_changePlane 16 = .ok (.getfield 15, 3) := by decide +kernel
theorem dX1_changePlane_19 : decode cX1_changePlane 19 = .ok (.iload_n 1, 1) := by decide +kernel
theorem dX1_changePlane_20 : decode cX1_changePlane 20 = .ok (.iload_n 3, 1) := by decide +kernel
theorem dX1_changePlane_21 : decode cX1_changePlane 21 = .ok (.iastore, 1) := by decide +kernel
theorem dX1_changePlane_22 : decode cX1_changePlane 22 = .ok (.aload_n 0, 1) := by decide +kernel
theorem dX1_changePlane_23 : decode cX1_changePlane 23 = .ok (.getfield 18, 3) := by decide +kernel
theorem dX1_changePlane_26 : decode cX1_changePlane 26 = .ok (.iload_n 1, 1) := by decide +kernel
theorem dX1_changePlane_27 : decode cX1_changePlane 27 = .ok (.iload 4, 2) := by decide +kernel
theorem dX1_changePlane_29 : decode cX1_changePlane 29 = .ok (.iastore, 1) := by decide +kernel
theorem dX1_changePlane_30 : decode cX1_changePlane 30 = .ok (.iload 5, 2) := by decide +kernel
theorem dX1_changePlane_32 : decode cX1_changePlane 32 = .ok (.ireturn, 1) := by decide +kernel
theorem dX1_changeGutter_0 : decode cX1_changeGutter 0 = .ok (.aload_n 0, 1) := by decide +kernel
theorem dX1_changeGutter_1 : decode cX1_changeGutter 1 = .ok (.getfield 24, 3) := by decide +kernel
theorem dX1_changeGutter_4 : decode cX1_changeGutter 4 = .ok (.iload_n 1, 1) := by decide +kernel
theorem dX1_changeGutter_5 : decode cX1_changeGutter 5 = .ok (.iaload, 1) := by decide +kernel
theorem dX1_changeGutter_6 : decode cX1_changeGutter 6 = .ok (.istore 4, 2) := by decide +kernel
theorem dX1_changeGutter_8 : decode cX1_changeGutter 8 = .ok (.aload_n 0, 1) := by decide +kernel
theorem dX1_changeGutter_9 : decode cX1_changeGutter 9 = .ok (.getfield 24, 3) := by decide +kernel
theorem dX1_changeGutter_12 : decode cX1_changeGutter 12 = .ok (.iload_n 1, 1) := by decide +kernel
theorem dX1_changeGutter_13 : decode cX1_changeGutter 13 = .ok (.iload_n 2, 1) := by decide +kernel
theorem dX1_changeGutter_14 : decode cX1_changeGutter 14 = .ok (.iastore, 1) := by decide +kernel
theorem dX1_changeGutter_15 : decode cX1_changeGutter 15 = .ok (.aload_n 0, 1) := by decide +kernel
theorem dX1_changeGutter_16 : decode cX1_changeGutter 16 = .ok (.getfield 27, 3) := by decide +kernel
theorem dX1_changeGutter_19 : decode cX1_changeGutter 19 = .ok (.iload_n 1, 1) := by decide +kernel
theorem dX1_changeGutter_20 : decode cX1_changeGutter 20 = .ok (.iload_n 3, 1) := by decide +kernel
theorem dX1_changeGutter_21 : decode cX1_changeGutter 21 = .ok (.iastore, 1) := by decide +kernel
theorem dX1_changeGutter_22 : decode cX1_changeGutter 22 = .ok (.iload 4, 2) := by decide +kernel
theorem dX1_changeGutter_24 : decode cX1_changeGutter 24 = .ok (.ireturn, 1) := by decide +kernel
theorem dX1_changeValley_0 : decode cX1_changeValley 0 = .ok (.aload_n 0, 1) := by decide +kernel
theorem dX1_changeValley_1 : decode cX1_changeValley 1 = .ok (.getfield 33, 3) := by decide +kernel
theorem dX1_changeValley_4 : decode cX1_changeValley 4 = .ok (.iload_n 1, 1) := by decide +kernel
theorem dX1_changeValley_5 : decode cX1_changeValley 5 = .ok (.iaload, 1) := by decide +kernel
theorem dX1_changeValley_6 : decode cX1_changeValley 6 = .ok (.istore_n 3, 1) := by decide +kernel
theorem dX1_changeValley_7 : decode cX1_changeValley 7 = .ok (.aload_n 0, 1) := by decide +kernel
theorem dX1_changeValley_8 : decode cX1_changeValley 8 = .ok (.getfield 33, 3) := by decide +kernel
theorem dX1_changeValley_11 : decode cX1_changeValley 11 = .ok (.iload_n 1, 1) := by decide +kernel
theorem dX1_changeValley_12 : decode cX1_changeValley 12 = .ok (.iload_n 2, 1) := by decide +kernel
theorem dX1_changeValley_13 : decode cX1_changeValley 13 = .ok (.iastore, 1) := by decide +kernel
theorem dX1_changeValley_14 : decode cX1_changeValley 14 = .ok (.iload_n 3, 1) := by decide +kernel
theorem dX1_changeValley_15 : decode cX1_changeValley 15 = .ok (.ireturn, 1) := by decide +kernel
theorem dX1_takeLeaves_0 : decode cX1_takeLeaves 0 = .ok (.aload_n 0, 1) := by decide +kernel
theorem dX1_takeLeaves_1 : decode cX1_takeLeaves 1 = .ok (.getfield 30, 3) := by decide +kernel
theorem dX1_takeLeaves_4 : decode cX1_takeLeaves 4 = .ok (.iload_n 1, 1) := by decide +kernel
theorem dX1_takeLeaves_5 : decode cX1_takeLeaves 5 = .ok (.iaload, 1) := by decide +kernel
theorem dX1_takeLeaves_6 : decode cX1_takeLeaves 6 = .ok (.istore_n 2, 1) := by decide +kernel
theorem dX1_takeLeaves_7 : decode cX1_takeLeaves 7 = .ok (.aload_n 0, 1) := by decide +kernel
theorem dX1_takeLeaves_8 : decode cX1_takeLeaves 8 = .ok (.getfield 30, 3) := by decide +kernel
theorem dX1_takeLeaves_11 : decode cX1_takeLeaves 11 = .ok (.iload_n 1, 1) := by decide +kernel
theorem dX1_takeLeaves_12 : decode cX1_takeLeaves 12 = .ok (.iconst 0, 1) := by decide +kernel
theorem dX1_takeLeaves_13 : decode cX1_takeLeaves 13 = .ok (.iastore, 1) := by decide +kernel
theorem dX1_takeLeaves_14 : decode cX1_takeLeaves 14 = .ok (.iload_n 2, 1) := by decide +kernel
theorem dX1_takeLeaves_15 : decode cX1_takeLeaves 15 = .ok (.ireturn, 1) := by decide +kernel
theorem dX1_changeSetting_0 : decode cX1_changeSetting 0 = .ok (.aload_n 0, 1) := by decide +kernel
theorem dX1_changeSetting_1 : decode cX1_changeSetting 1 = .ok (.getfield 45, 3) := by decide +kernel
theorem dX1_changeSetting_4 : decode cX1_changeSetting 4 = .ok (.iload_n 1, 1) := by decide +kernel
theorem dX1_changeSetting_5 : decode cX1_changeSetting 5 = .ok (.iaload, 1) := by decide +kernel
theorem dX1_changeSetting_6 : decode cX1_changeSetting 6 = .ok (.istore_n 3, 1) := by decide +kernel
theorem dX1_changeSetting_7 : decode cX1_changeSetting 7 = .ok (.aload_n 0, 1) := by decide +kernel
theorem dX1_changeSetting_8 : decode cX1_changeSetting 8 = .ok (.getfield 45, 3) := by decide +kernel
theorem dX1_changeSetting_11 : decode cX1_changeSetting 11 = .ok (.iload_n 1, 1) := by decide +kernel
theorem dX1_changeSetting_12 : decode cX1_changeSetting 12 = .ok (.iload_n 2, 1) := by decide +kernel
theorem dX1_changeSetting_13 : decode cX1_changeSetting 13 = .ok (.iastore, 1) := by decide +kernel
theorem dX1_changeSetting_14 : decode cX1_changeSetting 14 = .ok (.iload_n 3, 1) := by decide +kernel
theorem dX1_changeSetting_15 : decode cX1_changeSetting 15 = .ok (.ireturn, 1) := by decide +kernel
set_option maxRecDepth 20000 in
theorem ggX1_valleysLead_X3_isGutter : GoodIn wsX1_valleysLead wsX3_isGutter := goodIn_r _ [4] (by decide +kernel) (by decide +kernel)
set_option maxRecDepth 20000 in
theorem gX1_valleysLead_X3_isGutter_n67 : GoodIn wsX1_valleysLead (wsX3_isGutter) := ggX1_valleysLead_X3_isGutter
theorem dX1_valleysLead_0 : decode cX1_valleysLead 0 = .ok (.iload_n 1, 1) := by decide +kernel
theorem dX1_valleysLead_1 : decode cX1_valleysLead 1 = .ok (.istore_n 3, 1) := by decide +kernel
theorem dX1_valleysLead_2 : decode cX1_valleysLead 2 = .ok (.iconst 0, 1) := by decide +kernel
theorem dX1_valleysLead_3 : decode cX1_valleysLead 3 = .ok (.istore 4, 2) := by decide +kernel
theorem dX1_valleysLead_5 : decode cX1_valleysLead 5 = .ok (.iload 4, 2) := by decide +kernel
theorem dX1_valleysLead_7 : decode cX1_valleysLead 7 = .ok (.bipush 6, 2) := by decide +kernel
theorem dX1_valleysLead_9 : decode cX1_valleysLead 9 = .ok (.if_icmp .ge 30, 3) := by decide +kernel
theorem dX1_valleysLead_12 : decode cX1_valleysLead 12 = .ok (.iload_n 3, 1) := by decide +kernel
theorem dX1_valleysLead_13 : decode cX1_valleysLead 13 = .ok (.invokestatic 67, 3) := by decide +kernel
theorem dX1_valleysLead_16 : decode cX1_valleysLead 16 = .ok (.ifCond .eq 23, 3) := by decide +kernel
theorem dX1_valleysLead_19 : decode cX1_valleysLead 19 = .ok (.iload_n 3, 1) := by decide +kernel
theorem dX1_valleysLead_20 : decode cX1_valleysLead 20 = .ok (.iload_n 2, 1) := by decide +kernel
theorem dX1_valleysLead_21 : decode cX1_valleysLead 21 = .ok (.if_icmp .ne 5, 3) := by decide +kernel
theorem dX1_valleysLead_24 : decode cX1_valleysLead 24 = .ok (.iconst 1, 1) := by decide +kernel
theorem dX1_valleysLead_25 : decode cX1_valleysLead 25 = .ok (.ireturn, 1) := by decide +kernel
theorem dX1_valleysLead_26 : decode cX1_valleysLead 26 = .ok (.aload_n 0, 1) := by decide +kernel
theorem dX1_valleysLead_27 : decode cX1_valleysLead 27 = .ok (.getfield 33, 3) := by decide +kernel
theorem dX1_valleysLead_30 : decode cX1_valleysLead 30 = .ok (.iload_n 3, 1) := by decide +kernel
theorem dX1_valleysLead_31 : decode cX1_valleysLead 31 = .ok (.iaload, 1) := by decide +kernel
theorem dX1_valleysLead_32 : decode cX1_valleysLead 32 = .ok (.istore_n 3, 1) := by decide +kernel
theorem dX1_valleysLead_33 : decode cX1_valleysLead 33 = .ok (.iinc 4 1, 3) := by decide +kernel
theorem dX1_valleysLead_36 : decode cX1_valleysLead 36 = .ok (.goto (-31), 3) := by decide +kernel
theorem dX1_valleysLead_39 : decode cX1_valleysLead 39 = .ok (.iconst 0, 1) := by decide +kernel
theorem dX1_valleysLead_40 : decode cX1_valleysLead 40 = .ok (.ireturn, 1) := by decide +kernel
set_option maxRecDepth 20000 in
theorem ggX1_passMinutes_X1_passMinute : GoodIn wsX1_passMinutes wsX1_passMinute := goodIn_r _ [5, 6, 7, 8, 9, 4, 10, 11, 12, 13, 14, 15, 16, 17, 18, 19, 20, 21, 22, 23, 24, 25, 26, 27, 28, 29, 30, 31, 32, 33, 34, 35, 36, 37, 38, 39, 40, 41, 42, 43, 44, 45, 46, 47, 48, 49, 50, 51, 52, 53, 54, 55, 56, 57, 58, 59, 60, 61, 62, 63] (by decide +kernel) (by decide +kernel)
set_option maxRecDepth 20000 in
theorem gX1_passMinutes_X1_passMinute : GoodIn wsX1_passMinutes (wsV RX1 71 RX1 yX1_passMinute wsX1_passMinute) := goodIn_app (goodIn_of _ (by decide +kernel)) ggX1_passMinutes_X1_passMinute
theorem dX1_passMinutes_0 : decode cX1_passMinutes 0 = .ok (.iconst 0, 1) := by decide +kernel
theorem dX1_passMinutes_1 : decode cX1_passMinutes 1 = .ok (.istore_n 3, 1) := by decide +kernel
theorem dX1_passMinutes_2 : decode cX1_passMinutes 2 = .ok (.iload_n 3, 1) := by decide +kernel
theorem dX1_passMinutes_3 : decode cX1_passMinutes 3 = .ok (.iload_n 2, 1) := by decide +kernel
theorem dX1_passMinutes_4 : decode cX1_passMinutes 4 = .ok (.if_icmp .ge 14, 3) := by decide +kernel
theorem dX1_passMinutes_7 : decode cX1_passMinutes 7 = .ok (.aload_n 0, 1) := by decide +kernel
theorem dX1_passMinutes_8 : decode cX1_passMinutes 8 = .ok (.iload_n 1, 1) := by decide +kernel
theorem dX1_passMinutes_9 : decode cX1_passMinutes 9 = .ok (.invokevirtual 71, 3) := by decide +kernel
theorem dX1_passMinutes_12 : decode cX1_passMinutes 12 = .ok (.iinc 3 1, 3) := by decide +kernel
theorem dX1_passMinutes_15 : decode cX1_passMinutes 15 = .ok (.goto (-13), 3) := by decide +kernel
theorem dX1_passMinutes_18 : decode cX1_passMinutes 18 = .ok (.return_, 1) := by decide +kernel
set_option maxRecDepth 20000 in
theorem ggX1_passMinute_X1_wetPlane : GoodIn wsX1_passMinute wsX1_wetPlane := goodIn_r _ [6, 7, 8, 9, 10, 11, 12, 13, 14, 15, 44, 45, 46, 47, 48, 49, 50, 51, 52, 53, 54, 55, 56, 57, 58, 59] (by decide +kernel) (by decide +kernel)
set_option maxRecDepth 20000 in
theorem gX1_passMinute_X1_wetPlane : GoodIn wsX1_passMinute (wsV RX1 75 RX1 yX1_wetPlane wsX1_wetPlane) := goodIn_app (goodIn_of _ (by decide +kernel)) ggX1_passMinute_X1_wetPlane
set_option maxRecDepth 20000 in
theorem ggX1_passMinute_X1_emptyIntoDrain : GoodIn wsX1_passMinute wsX1_emptyIntoDrain := goodIn_r _ [19, 20, 12, 21, 22, 23, 24, 25, 26, 27, 28, 29, 5, 30, 31, 32, 44, 45, 46, 47, 48, 49, 50, 51, 52, 53, 54, 55, 56, 57, 58, 59] (by decide +kernel) (by decide +kernel)
set_option maxRecDepth 20000 in
theorem gX1_passMinute_X1_emptyIntoDrain : GoodIn wsX1_passMinute (wsV RX1 79 RX1 yX1_emptyIntoDrain wsX1_emptyIntoDrain) := goodIn_app (goodIn_of _ (by decide +kernel)) ggX1_passMinute_X1_emptyIntoDrain
set_option maxRecDepth 20000 in
theorem ggX1_passMinute_X1_overflow : GoodIn wsX1_passMinute wsX1_overflow := goodIn_r _ [36, 12, 37, 38, 39, 40, 41, 5, 42, 43, 32, 13, 14, 15, 44, 45, 46, 47, 48, 49, 50, 51, 52, 53, 54, 55, 56, 57, 58, 59] (by decide +kernel) (by decide +kernel)
set_option maxRecDepth 20000 in
theorem gX1_passMinute_X1_overflow : GoodIn wsX1_passMinute (wsV RX1 82 RX1 yX1_overflow wsX1_overflow) := goodIn_app (goodIn_of _ (by decide +kernel)) ggX1_passMinute_X1_overflow
theorem dX1_passMinute_0 : decode cX1_passMinute 0 = .ok (.iconst 0, 1) := by decide +kernel
theorem dX1_passMinute_1 : decode cX1_passMinute 1 = .ok (.istore_n 2, 1) := by decide +kernel
theorem dX1_passMinute_2 : decode cX1_passMinute 2 = .ok (.iload_n 2, 1) := by decide +kernel
theorem dX1_passMinute_3 : decode cX1_passMinute 3 = .ok (.bipush 6, 2) := by decide +kernel
theorem dX1_passMinute_5 : decode cX1_passMinute 5 = .ok (.if_icmp .ge 15, 3) := by decide +kernel
theorem dX1_passMinute_8 : decode cX1_passMinute 8 = .ok (.aload_n 0, 1) := by decide +kernel
theorem dX1_passMinute_9 : decode cX1_passMinute 9 = .ok (.iload_n 2, 1) := by decide +kernel
theorem dX1_passMinute_10 : decode cX1_passMinute 10 = .ok (.iload_n 1, 1) := by decide +kernel
theorem dX1_passMinute_11 : decode cX1_passMinute 11 = .ok (.invokevirtual 75, 3) := by decide +kernel
theorem dX1_passMinute_14 : decode cX1_passMinute 14 = .ok (.iinc 2 1, 3) := by decide +kernel
theorem dX1_passMinute_17 : decode cX1_passMinute 17 = .ok (.goto (-15), 3) := by decide +kernel
theorem dX1_passMinute_20 : decode cX1_passMinute 20 = .ok (.aload_n 0, 1) := by decide +kernel
theorem dX1_passMinute_21 : decode cX1_passMinute 21 = .ok (.invokevirtual 79, 3) := by decide +kernel
theorem dX1_passMinute_24 : decode cX1_passMinute 24 = .ok (.iconst 0, 1) := by decide +kernel
theorem dX1_passMinute_25 : decode cX1_passMinute 25 = .ok (.istore_n 2, 1) := by decide +kernel
theorem dX1_passMinute_26 : decode cX1_passMinute 26 = .ok (.iload_n 2, 1) := by decide +kernel
theorem dX1_passMinute_27 : decode cX1_passMinute 27 = .ok (.bipush 6, 2) := by decide +kernel
theorem dX1_passMinute_29 : decode cX1_passMinute 29 = .ok (.if_icmp .ge 14, 3) := by decide +kernel
theorem dX1_passMinute_32 : decode cX1_passMinute 32 = .ok (.aload_n 0, 1) := by decide +kernel
theorem dX1_passMinute_33 : decode cX1_passMinute 33 = .ok (.iload_n 2, 1) := by decide +kernel
theorem dX1_passMinute_34 : decode cX1_passMinute 34 = .ok (.invokevirtual 82, 3) := by decide +kernel
theorem dX1_passMinute_37 : decode cX1_passMinute 37 = .ok (.iinc 2 1, 3) := by decide +kernel
theorem dX1_passMinute_40 : decode cX1_passMinute 40 = .ok (.goto (-14), 3) := by decide +kernel
theorem dX1_passMinute_43 : decode cX1_passMinute 43 = .ok (.aload_n 0, 1) := by decide +kernel
theorem dX1_passMinute_44 : decode cX1_passMinute 44 = .ok (.dup, 1) := by decide +kernel
theorem dX1_passMinute_45 : decode cX1_passMinute 45 = .ok (.getfield 54, 3) := by decide +kernel
theorem dX1_passMinute_48 : decode cX1_passMinute 48 = .ok (.iconst 1, 1) := by decide +kernel
theorem dX1_passMinute_49 : decode cX1_passMinute 49 = .ok (.iadd, 1) := by decide +kernel
theorem dX1_passMinute_50 : decode cX1_passMinute 50 = .ok (.putfield 54, 3) := by decide +kernel
theorem dX1_passMinute_53 : decode cX1_passMinute 53 = .ok (.return_, 1) := by decide +kernel
theorem dX1_passWeek_0 : decode cX1_passWeek 0 = .ok (.iconst 0, 1) := by decide +kernel
theorem dX1_passWeek_1 : decode cX1_passWeek 1 = .ok (.istore_n 1, 1) := by decide +kernel
theorem dX1_passWeek_2 : decode cX1_passWeek 2 = .ok (.iload_n 1, 1) := by decide +kernel
theorem dX1_passWeek_3 : decode cX1_passWeek 3 = .ok (.bipush 6, 2) := by decide +kernel
theorem dX1_passWeek_5 : decode cX1_passWeek 5 = .ok (.if_icmp .ge 33, 3) := by decide +kernel
theorem dX1_passWeek_8 : decode cX1_passWeek 8 = .ok (.aload_n 0, 1) := by decide +kernel
theorem dX1_passWeek_9 : decode cX1_passWeek 9 = .ok (.getfield 30, 3) := by decide +kernel
theorem dX1_passWeek_12 : decode cX1_passWeek 12 = .ok (.iload_n 1, 1) := by decide +kernel
theorem dX1_passWeek_13 : decode cX1_passWeek 13 = .ok (.bipush 100, 2) := by decide +kernel
theorem dX1_passWeek_15 : decode cX1_passWeek 15 = .ok (.aload_n 0, 1) := by decide +kernel
theorem dX1_passWeek_16 : decode cX1_passWeek 16 = .ok (.getfield 30, 3) := by decide +kernel
theorem dX1_passWeek_19 : decode cX1_passWeek 19 = .ok (.iload_n 1, 1) := by decide +kernel
theorem dX1_passWeek_20 : decode cX1_passWeek 20 = .ok (.iaload, 1) := by decide +kernel
theorem dX1_passWeek_21 : decode cX1_passWeek 21 = .ok (.aload_n 0, 1) := by decide +kernel
theorem dX1_passWeek_22 : decode cX1_passWeek 22 = .ok (.getfield 45, 3) := by decide +kernel
theorem dX1_passWeek_25 : decode cX1_passWeek 25 = .ok (.iconst 1, 1) := by decide +kernel
theorem dX1_passWeek_26 : decode cX1_passWeek 26 = .ok (.iaload, 1) := by decide +kernel
theorem dX1_passWeek_27 : decode cX1_passWeek 27 = .ok (.iadd, 1) := by decide +kernel
theorem dX1_passWeek_28 : decode cX1_passWeek 28 = .ok (.invokestatic 85, 3) := by decide +kernel
theorem dX1_passWeek_31 : decode cX1_passWeek 31 = .ok (.iastore, 1) := by decide +kernel
theorem dX1_passWeek_32 : decode cX1_passWeek 32 = .ok (.iinc 1 1, 3) := by decide +kernel
theorem dX1_passWeek_35 : decode cX1_passWeek 35 = .ok (.goto (-33), 3) := by decide +kernel
theorem dX1_passWeek_38 : decode cX1_passWeek 38 = .ok (.aload_n 0, 1) := by decide +kernel
theorem dX1_passWeek_39 : decode cX1_passWeek 39 = .ok (.dup, 1) := by decide +kernel
theorem dX1_passWeek_40 : decode cX1_passWeek 40 = .ok (.getfield 58, 3) := by decide +kernel
theorem dX1_passWeek_43 : decode cX1_passWeek 43 = .ok (.iconst 1, 1) := by decide +kernel
theorem dX1_passWeek_44 : decode cX1_passWeek 44 = .ok (.iadd, 1) := by decide +kernel
theorem dX1_passWeek_45 : decode cX1_passWeek 45 = .ok (.putfield 58, 3) := by decide +kernel
theorem dX1_passWeek_48 : decode cX1_passWeek 48 = .ok (.return_, 1) := by decide +kernel
set_option maxRecDepth 20000 in
theorem ggX1_wetPlane_X3_isGutter : GoodIn wsX1_wetPlane wsX3_isGutter := goodIn_r _ [9] (by decide +kernel) (by decide +kernel)
set_option maxRecDepth 20000 in
theorem gX1_wetPlane_X3_isGutter_n67 : GoodIn wsX1_wetPlane (wsX3_isGutter) := ggX1_wetPlane_X3_isGutter
theorem dX1_wetPlane_0 : decode cX1_wetPlane 0 = .ok (.aload_n 0, 1) := by decide +kernel
theorem dX1_wetPlane_1 : decode cX1_wetPlane 1 = .ok (.getfield 9, 3) := by decide +kernel
theorem dX1_wetPlane_4 : decode cX1_wetPlane 4 = .ok (.iload_n 1, 1) := by decide +kernel
theorem dX1_wetPlane_5 : decode cX1_wetPlane 5 = .ok (.iaload, 1) := by decide +kernel
theorem dX1_wetPlane_6 : decode cX1_wetPlane 6 = .ok (.iload_n 2, 1) := by decide +kernel
theorem dX1_wetPlane_7 : decode cX1_wetPlane 7 = .ok (.imul, 1) := by decide +kernel
theorem dX1_wetPlane_8 : decode cX1_wetPlane 8 = .ok (.bipush 10, 2) := by decide +kernel
theorem dX1_wetPlane_10 : decode cX1_wetPlane 10 = .ok (.idiv, 1) := by decide +kernel
theorem dX1_wetPlane_11 : decode cX1_wetPlane 11 = .ok (.istore_n 3, 1) := by decide +kernel
theorem dX1_wetPlane_12 : decode cX1_wetPlane 12 = .ok (.aload_n 0, 1) := by decide +kernel
theorem dX1_wetPlane_13 : decode cX1_wetPlane 13 = .ok (.dup, 1) := by decide +kernel
theorem dX1_wetPlane_14 : decode cX1_wetPlane 14 = .ok (.getfield 61, 3) := by decide +kernel
theorem dX1_wetPlane_17 : decode cX1_wetPlane 17 = .ok (.iload_n 3, 1) := by decide +kernel
theorem dX1_wetPlane_18 : decode cX1_wetPlane 18 = .ok (.iadd, 1) := by decide +kernel
theorem dX1_wetPlane_19 : decode cX1_wetPlane 19 = .ok (.putfield 61, 3) := by decide +kernel
theorem dX1_wetPlane_22 : decode cX1_wetPlane 22 = .ok (.aload_n 0, 1) := by decide +kernel
theorem dX1_wetPlane_23 : decode cX1_wetPlane 23 = .ok (.getfield 21, 3) := by decide +kernel
theorem dX1_wetPlane_26 : decode cX1_wetPlane 26 = .ok (.iload_n 1, 1) := by decide +kernel
theorem dX1_wetPlane_27 : decode cX1_wetPlane 27 = .ok (.dup2, 1) := by decide +kernel
theorem dX1_wetPlane_28 : decode cX1_wetPlane 28 = .ok (.iaload, 1) := by decide +kernel
theorem dX1_wetPlane_29 : decode cX1_wetPlane 29 = .ok (.iload_n 3, 1) := by decide +kernel
theorem dX1_wetPlane_30 : decode cX1_wetPlane 30 = .ok (.iadd, 1) := by decide +kernel
theorem dX1_wetPlane_31 : decode cX1_wetPlane 31 = .ok (.iastore, 1) := by decide +kernel
theorem dX1_wetPlane_32 : decode cX1_wetPlane 32 = .ok (.aload_n 0, 1) := by decide +kernel
theorem dX1_wetPlane_33 : decode cX1_wetPlane 33 = .ok (.getfield 21, 3) := by decide +kernel
theorem dX1_wetPlane_36 : decode cX1_wetPlane 36 = .ok (.iload_n 1, 1) := by decide +kernel
theorem dX1_wetPlane_37 : decode cX1_wetPlane 37 = .ok (.iaload, 1) := by decide +kernel
theorem dX1_wetPlane_38 : decode cX1_wetPlane 38 = .ok (.iconst 5, 1) := by decide +kernel
theorem dX1_wetPlane_39 : decode cX1_wetPlane 39 = .ok (.aload_n 0, 1) := by decide +kernel
theorem dX1_wetPlane_40 : decode cX1_wetPlane 40 = .ok (.getfield 15, 3) := by decide +kernel
theorem dX1_wetPlane_43 : decode cX1_wetPlane 43 = .ok (.iload_n 1, 1) := by decide +kernel
theorem dX1_wetPlane_44 : decode cX1_wetPlane 44 = .ok (.iaload, 1) := by decide +kernel
theorem dX1_wetPlane_45 : decode cX1_wetPlane 45 = .ok (.iadd, 1) := by decide +kernel
theorem dX1_wetPlane_46 : decode cX1_wetPlane 46 = .ok (.imul, 1) := by decide +kernel
theorem dX1_wetPlane_47 : decode cX1_wetPlane 47 = .ok (.bipush 14, 2) := by decide +kernel
theorem dX1_wetPlane_49 : decode cX1_wetPlane 49 = .ok (.idiv, 1) := by decide +kernel
theorem dX1_wetPlane_50 : decode cX1_wetPlane 50 = .ok (.istore 4, 2) := by decide +kernel
theorem dX1_wetPlane_52 : decode cX1_wetPlane 52 = .ok (.iload 4, 2) := by decide +kernel
theorem dX1_wetPlane_54 : decode cX1_wetPlane 54 = .ok (.ifCond .ne 15, 3) := by decide +kernel
theorem dX1_wetPlane_57 : decode cX1_wetPlane 57 = .ok (.aload_n 0, 1) := by decide +kernel
theorem dX1_wetPlane_58 : decode cX1_wetPlane 58 = .ok (.getfield 21, 3) := by decide +kernel
theorem dX1_wetPlane_61 : decode cX1_wetPlane 61 = .ok (.iload_n 1, 1) := by decide +kernel
theorem dX1_wetPlane_62 : decode cX1_wetPlane 62 = .ok (.iaload, 1) := by decide +kernel
theorem dX1_wetPlane_63 : decode cX1_wetPlane 63 = .ok (.ifCond .le 6, 3) := by decide +kernel
theorem dX1_wetPlane_66 : decode cX1_wetPlane 66 = .ok (.iconst 1, 1) := by decide +kernel
theorem dX1_wetPlane_67 : decode cX1_wetPlane 67 = .ok (.istore 4, 2) := by decide +kernel
theorem dX1_wetPlane_69 : decode cX1_wetPlane 69 = .ok (.aload_n 0, 1) := by decide +kernel
theorem dX1_wetPlane_70 : decode cX1_wetPlane 70 = .ok (.getfield 21, 3) := by decide +kernel
theorem dX1_wetPlane_73 : decode cX1_wetPlane 73 = .ok (.iload_n 1, 1) := by decide +kernel
theorem dX1_wetPlane_74 : decode cX1_wetPlane 74 = .ok (.dup2, 1) := by decide +kernel
theorem dX1_wetPlane_75 : decode cX1_wetPlane 75 = .ok (.iaload, 1) := by decide +kernel
theorem dX1_wetPlane_76 : decode cX1_wetPlane 76 = .ok (.iload 4, 2) := by decide +kernel
theorem dX1_wetPlane_78 : decode cX1_wetPlane 78 = .ok (.isub, 1) := by decide +kernel
theorem dX1_wetPlane_79 : decode cX1_wetPlane 79 = .ok (.iastore, 1) := by decide +kernel
theorem dX1_wetPlane_80 : decode cX1_wetPlane 80 = .ok (.aload_n 0, 1) := by decide +kernel
theorem dX1_wetPlane_81 : decode cX1_wetPlane 81 = .ok (.getfield 18, 3) := by decide +kernel
theorem dX1_wetPlane_84 : decode cX1_wetPlane 84 = .ok (.iload_n 1, 1) := by decide +kernel
theorem dX1_wetPlane_85 : decode cX1_wetPlane 85 = .ok (.iaload, 1) := by decide +kernel
theorem dX1_wetPlane_86 : decode cX1_wetPlane 86 = .ok (.istore 5, 2) := by decide +kernel
theorem dX1_wetPlane_88 : decode cX1_wetPlane 88 = .ok (.iload 5, 2) := by decide +kernel
theorem dX1_wetPlane_90 : decode cX1_wetPlane 90 = .ok (.invokestatic 67, 3) := by decide +kernel
theorem dX1_wetPlane_93 : decode cX1_wetPlane 93 = .ok (.ifCond .eq 15, 3) := by decide +kernel
theorem dX1_wetPlane_96 : decode cX1_wetPlane 96 = .ok (.aload_n 0, 1) := by decide +kernel
theorem dX1_wetPlane_97 : decode cX1_wetPlane 97 = .ok (.getfield 36, 3) := by decide +kernel
theorem dX1_wetPlane_100 : decode cX1_wetPlane 100 = .ok (.iload 5, 2) := by decide +kernel
theorem dX1_wetPlane_102 : decode cX1_wetPlane 102 = .ok (.dup2, 1) := by decide +kernel
theorem dX1_wetPlane_103 : decode cX1_wetPlane 103 = .ok (.iaload, 1) := by decide +kernel
theorem dX1_wetPlane_104 : decode cX1_wetPlane 104 = .ok (.iload 4, 2) := by decide +kernel
theorem dX1_wetPlane_106 : decode cX1_wetPlane 106 = .ok (.iadd, 1) := by decide +kernel
theorem dX1_wetPlane_107 : decode cX1_wetPlane 107 = .ok (.iastore, 1) := by decide +kernel
theorem dX1_wetPlane_108 : decode cX1_wetPlane 108 = .ok (.return_, 1) := by decide +kernel
set_option maxRecDepth 20000 in
theorem ggX1_emptyIntoDrain_X1_pipeTakes : GoodIn wsX1_emptyIntoDrain wsX1_pipeTakes := goodIn_r _ [13, 14, 15, 16, 17, 18, 19, 20, 21, 22, 23, 24, 25, 26, 27, 28, 29, 30, 31] (by decide +kernel) (by decide +kernel)
set_option maxRecDepth 20000 in
theorem gX1_emptyIntoDrain_X1_pipeTakes : GoodIn wsX1_emptyIntoDrain (wsV RX1 91 RX1 yX1_pipeTakes wsX1_pipeTakes) := goodIn_app (goodIn_of _ (by decide +kernel)) ggX1_emptyIntoDrain_X1_pipeTakes
theorem dX1_emptyIntoDrain_0 : decode cX1_emptyIntoDrain 0 = .ok (.aload_n 0, 1) := by decide +kernel
theorem dX1_emptyIntoDrain_1 : decode cX1_emptyIntoDrain 1 = .ok (.getfield 45, 3) := by decide +kernel
theorem dX1_emptyIntoDrain_4 : decode cX1_emptyIntoDrain 4 = .ok (.iconst 0, 1) := by decide +kernel
theorem dX1_emptyIntoDrain_5 : decode cX1_emptyIntoDrain 5 = .ok (.iaload, 1) := by decide +kernel
theorem dX1_emptyIntoDrain_6 : decode cX1_emptyIntoDrain 6 = .ok (.istore_n 1, 1) := by decide +kernel
theorem dX1_emptyIntoDrain_7 : decode cX1_emptyIntoDrain 7 = .ok (.iconst 0, 1) := by decide +kernel
theorem dX1_emptyIntoDrain_8 : decode cX1_emptyIntoDrain 8 = .ok (.istore_n 2, 1) := by decide +kernel
theorem dX1_emptyIntoDrain_9 : decode cX1_emptyIntoDrain 9 = .ok (.iconst 0, 1) := by decide +kernel
theorem dX1_emptyIntoDrain_10 : decode cX1_emptyIntoDrain 10 = .ok (.istore_n 3, 1) := by decide +kernel
theorem dX1_emptyIntoDrain_11 : decode cX1_emptyIntoDrain 11 = .ok (.iload_n 3, 1) := by decide +kernel
theorem dX1_emptyIntoDrain_12 : decode cX1_emptyIntoDrain 12 = .ok (.bipush 6, 2) := by decide +kernel
theorem dX1_emptyIntoDrain_14 : decode cX1_emptyIntoDrain 14 = .ok (.if_icmp .ge 77, 3) := by decide +kernel
theorem dX1_emptyIntoDrain_17 : decode cX1_emptyIntoDrain 17 = .ok (.aload_n 0, 1) := by decide +kernel
theorem dX1_emptyIntoDrain_18 : decode cX1_emptyIntoDrain 18 = .ok (.iload_n 3, 1) := by decide +kernel
theorem dX1_emptyIntoDrain_19 : decode cX1_emptyIntoDrain 19 = .ok (.invokevirtual 91, 3) := by decide +kernel
theorem dX1_emptyIntoDrain_22 : decode cX1_emptyIntoDrain 22 = .ok (.aload_n 0, 1) := by decide +kernel
theorem dX1_emptyIntoDrain_23 : decode cX1_emptyIntoDrain 23 = .ok (.getfield 36, 3) := by decide +kernel
theorem dX1_emptyIntoDrain_26 : decode cX1_emptyIntoDrain 26 = .ok (.iload_n 3, 1) := by decide +kernel
theorem dX1_emptyIntoDrain_27 : decode cX1_emptyIntoDrain 27 = .ok (.iaload, 1) := by decide +kernel
theorem dX1_emptyIntoDrain_28 : decode cX1_emptyIntoDrain 28 = .ok (.invokestatic 85, 3) := by decide +kernel
theorem dX1_emptyIntoDrain_31 : decode cX1_emptyIntoDrain 31 = .ok (.istore 4, 2) := by decide +kernel
theorem dX1_emptyIntoDrain_33 : decode cX1_emptyIntoDrain 33 = .ok (.iload 4, 2) := by decide +kernel
theorem dX1_emptyIntoDrain_35 : decode cX1_emptyIntoDrain 35 = .ok (.iload_n 1, 1) := by decide +kernel
theorem dX1_emptyIntoDrain_36 : decode cX1_emptyIntoDrain 36 = .ok (.invokestatic 85, 3) := by decide +kernel
theorem dX1_emptyIntoDrain_39 : decode cX1_emptyIntoDrain 39 = .ok (.istore 5, 2) := by decide +kernel
theorem dX1_emptyIntoDrain_41 : decode cX1_emptyIntoDrain 41 = .ok (.aload_n 0, 1) := by decide +kernel
theorem dX1_emptyIntoDrain_42 : decode cX1_emptyIntoDrain 42 = .ok (.getfield 36, 3) := by decide +kernel
theorem dX1_emptyIntoDrain_45 : decode cX1_emptyIntoDrain 45 = .ok (.iload_n 3, 1) := by decide +kernel
theorem dX1_emptyIntoDrain_46 : decode cX1_emptyIntoDrain 46 = .ok (.dup2, 1) := by decide +kernel
theorem dX1_emptyIntoDrain_47 : decode cX1_emptyIntoDrain 47 = .ok (.iaload, 1) := by decide +kernel
theorem dX1_emptyIntoDrain_48 : decode cX1_emptyIntoDrain 48 = .ok (.iload 5, 2) := by decide +kernel
theorem dX1_emptyIntoDrain_50 : decode cX1_emptyIntoDrain 50 = .ok (.isub, 1) := by decide +kernel
theorem dX1_emptyIntoDrain_51 : decode cX1_emptyIntoDrain 51 = .ok (.iastore, 1) := by decide +kernel
theorem dX1_emptyIntoDrain_52 : decode cX1_emptyIntoDrain 52 = .ok (.aload_n 0, 1) := by decide +kernel
theorem dX1_emptyIntoDrain_53 : decode cX1_emptyIntoDrain 53 = .ok (.getfield 42, 3) := by decide +kernel
theorem dX1_emptyIntoDrain_56 : decode cX1_emptyIntoDrain 56 = .ok (.iload_n 3, 1) := by decide +kernel
theorem dX1_emptyIntoDrain_57 : decode cX1_emptyIntoDrain 57 = .ok (.dup2, 1) := by decide +kernel
theorem dX1_emptyIntoDrain_58 : decode cX1_emptyIntoDrain 58 = .ok (.iaload, 1) := by decide +kernel
theorem dX1_emptyIntoDrain_59 : decode cX1_emptyIntoDrain 59 = .ok (.iload 5, 2) := by decide +kernel
theorem dX1_emptyIntoDrain_61 : decode cX1_emptyIntoDrain 61 = .ok (.iadd, 1) := by decide +kernel
theorem dX1_emptyIntoDrain_62 : decode cX1_emptyIntoDrain 62 = .ok (.iastore, 1) := by decide +kernel
theorem dX1_emptyIntoDrain_63 : decode cX1_emptyIntoDrain 63 = .ok (.iload_n 1, 1) := by decide +kernel
theorem dX1_emptyIntoDrain_64 : decode cX1_emptyIntoDrain 64 = .ok (.iload 5, 2) := by decide +kernel
theorem dX1_emptyIntoDrain_66 : decode cX1_emptyIntoDrain 66 = .ok (.isub, 1) := by decide +kernel
theorem dX1_emptyIntoDrain_67 : decode cX1_emptyIntoDrain 67 = .ok (.istore_n 1, 1) := by decide +kernel
theorem dX1_emptyIntoDrain_68 : decode cX1_emptyIntoDrain 68 = .ok (.iload_n 2, 1) := by decide +kernel
theorem dX1_emptyIntoDrain_69 : decode cX1_emptyIntoDrain 69 = .ok (.ifCond .ne 10, 3) := by decide +kernel
theorem dX1_emptyIntoDrain_72 : decode cX1_emptyIntoDrain 72 = .ok (.iload 5, 2) := by decide +kernel
theorem dX1_emptyIntoDrain_74 : decode cX1_emptyIntoDrain 74 = .ok (.iload 4, 2) := by decide +kernel
theorem dX1_emptyIntoDrain_76 : decode cX1_emptyIntoDrain 76 = .ok (.if_icmp .ge 7, 3) := by decide +kernel
theorem dX1_emptyIntoDrain_79 : decode cX1_emptyIntoDrain 79 = .ok (.iconst 1, 1) := by decide +kernel
theorem dX1_emptyIntoDrain_80 : decode cX1_emptyIntoDrain 80 = .ok (.goto 4, 3) := by decide +kernel
theorem dX1_emptyIntoDrain_83 : decode cX1_emptyIntoDrain 83 = .ok (.iconst 0, 1) := by decide +kernel
theorem dX1_emptyIntoDrain_84 : decode cX1_emptyIntoDrain 84 = .ok (.istore_n 2, 1) := by decide +kernel
theorem dX1_emptyIntoDrain_85 : decode cX1_emptyIntoDrain 85 = .ok (.iinc 3 1, 3) := by decide +kernel
theorem dX1_emptyIntoDrain_88 : decode cX1_emptyIntoDrain 88 = .ok (.goto (-77), 3) := by decide +kernel
theorem dX1_emptyIntoDrain_91 : decode cX1_emptyIntoDrain 91 = .ok (.iload_n 2, 1) := by decide +kernel
theorem dX1_emptyIntoDrain_92 : decode cX1_emptyIntoDrain 92 = .ok (.ifCond .eq 13, 3) := by decide +kernel
theorem dX1_emptyIntoDrain_95 : decode cX1_emptyIntoDrain 95 = .ok (.aload_n 0, 1) := by decide +kernel
theorem dX1_emptyIntoDrain_96 : decode cX1_emptyIntoDrain 96 = .ok (.dup, 1) := by decide +kernel
theorem dX1_emptyIntoDrain_97 : decode cX1_emptyIntoDrain 97 = .ok (.getfield 64, 3) := by decide +kernel
theorem dX1_emptyIntoDrain_100 : decode cX1_emptyIntoDrain 100 = .ok (.iconst 1, 1) := by decide +kernel
theorem dX1_emptyIntoDrain_101 : decode cX1_emptyIntoDrain 101 = .ok (.iadd, 1) := by decide +kernel
theorem dX1_emptyIntoDrain_102 : decode cX1_emptyIntoDrain 102 = .ok (.putfield 64, 3) := by decide +kernel
theorem dX1_emptyIntoDrain_105 : decode cX1_emptyIntoDrain 105 = .ok (.return_, 1) := by decide +kernel
set_option maxRecDepth 20000 in
theorem ggX1_overflow_X1_room : GoodIn wsX1_overflow wsX1_room := goodIn_r _ [8, 9, 10, 14, 15, 16, 17, 18, 19, 20, 21, 22, 23, 24, 25, 26, 27, 28, 29] (by decide +kernel) (by decide +kernel)
set_option maxRecDepth 20000 in
theorem gX1_overflow_X1_room : GoodIn wsX1_overflow (wsV RX1 95 RX1 yX1_room wsX1_room) := goodIn_app (goodIn_of _ (by decide +kernel)) ggX1_overflow_X1_room
set_option maxRecDepth 20000 in
theorem ggX1_overflow_X3_isGutter : GoodIn wsX1_overflow wsX3_isGutter := goodIn_r _ [13] (by decide +kernel) (by decide +kernel)
set_option maxRecDepth 20000 in
theorem gX1_overflow_X3_isGutter_n67 : GoodIn wsX1_overflow (wsX3_isGutter) := ggX1_overflow_X3_isGutter
theorem dX1_overflow_0 : decode cX1_overflow 0 = .ok (.aload_n 0, 1) := by decide +kernel
theorem dX1_overflow_1 : decode cX1_overflow 1 = .ok (.getfield 36, 3) := by decide +kernel
theorem dX1_overflow_4 : decode cX1_overflow 4 = .ok (.iload_n 1, 1) := by decide +kernel
theorem dX1_overflow_5 : decode cX1_overflow 5 = .ok (.iaload, 1) := by decide +kernel
theorem dX1_overflow_6 : decode cX1_overflow 6 = .ok (.aload_n 0, 1) := by decide +kernel
theorem dX1_overflow_7 : decode cX1_overflow 7 = .ok (.iload_n 1, 1) := by decide +kernel
theorem dX1_overflow_8 : decode cX1_overflow 8 = .ok (.invokevirtual 95, 3) := by decide +kernel
theorem dX1_overflow_11 : decode cX1_overflow 11 = .ok (.isub, 1) := by decide +kernel
theorem dX1_overflow_12 : decode cX1_overflow 12 = .ok (.istore_n 2, 1) := by decide +kernel
theorem dX1_overflow_13 : decode cX1_overflow 13 = .ok (.iload_n 2, 1) := by decide +kernel
theorem dX1_overflow_14 : decode cX1_overflow 14 = .ok (.ifCond .gt 4, 3) := by decide +kernel
theorem dX1_overflow_17 : decode cX1_overflow 17 = .ok (.return_, 1) := by decide +kernel
theorem dX1_overflow_18 : decode cX1_overflow 18 = .ok (.aload_n 0, 1) := by decide +kernel
theorem dX1_overflow_19 : decode cX1_overflow 19 = .ok (.getfield 36, 3) := by decide +kernel
theorem dX1_overflow_22 : decode cX1_overflow 22 = .ok (.iload_n 1, 1) := by decide +kernel
theorem dX1_overflow_23 : decode cX1_overflow 23 = .ok (.dup2, 1) := by decide +kernel
theorem dX1_overflow_24 : decode cX1_overflow 24 = .ok (.iaload, 1) := by decide +kernel
theorem dX1_overflow_25 : decode cX1_overflow 25 = .ok (.iload_n 2, 1) := by decide +kernel
theorem dX1_overflow_26 : decode cX1_overflow 26 = .ok (.isub, 1) := by decide +kernel
theorem dX1_overflow_27 : decode cX1_overflow 27 = .ok (.iastore, 1) := by decide +kernel
theorem dX1_overflow_28 : decode cX1_overflow 28 = .ok (.aload_n 0, 1) := by decide +kernel
theorem dX1_overflow_29 : decode cX1_overflow 29 = .ok (.getfield 33, 3) := by decide +kernel
theorem dX1_overflow_32 : decode cX1_overflow 32 = .ok (.iload_n 1, 1) := by decide +kernel
theorem dX1_overflow_33 : decode cX1_overflow 33 = .ok (.iaload, 1) := by decide +kernel
theorem dX1_overflow_34 : decode cX1_overflow 34 = .ok (.istore_n 3, 1) := by decide +kernel
theorem dX1_overflow_35 : decode cX1_overflow 35 = .ok (.iload_n 3, 1) := by decide +kernel
theorem dX1_overflow_36 : decode cX1_overflow 36 = .ok (.invokestatic 67, 3) := by decide +kernel
theorem dX1_overflow_39 : decode cX1_overflow 39 = .ok (.ifCond .eq 16, 3) := by decide +kernel
theorem dX1_overflow_42 : decode cX1_overflow 42 = .ok (.aload_n 0, 1) := by decide +kernel
theorem dX1_overflow_43 : decode cX1_overflow 43 = .ok (.getfield 36, 3) := by decide +kernel
theorem dX1_overflow_46 : decode cX1_overflow 46 = .ok (.iload_n 3, 1) := by decide +kernel
theorem dX1_overflow_47 : decode cX1_overflow 47 = .ok (.dup2, 1) := by decide +kernel
theorem dX1_overflow_48 : decode cX1_overflow 48 = .ok (.iaload, 1) := by decide +kernel
theorem dX1_overflow_49 : decode cX1_overflow 49 = .ok (.iload_n 2, 1) := by decide +kernel
theorem dX1_overflow_50 : decode cX1_overflow 50 = .ok (.iadd, 1) := by decide +kernel
theorem dX1_overflow_51 : decode cX1_overflow 51 = .ok (.iastore, 1) := by decide +kernel
theorem dX1_overflow_52 : decode cX1_overflow 52 = .ok (.goto 13, 3) := by decide +kernel
theorem dX1_overflow_55 : decode cX1_overflow 55 = .ok (.aload_n 0, 1) := by decide +kernel
theorem dX1_overflow_56 : decode cX1_overflow 56 = .ok (.getfield 39, 3) := by decide +kernel
theorem dX1_overflow_59 : decode cX1_overflow 59 = .ok (.iload_n 1, 1) := by decide +kernel
theorem dX1_overflow_60 : decode cX1_overflow 60 = .ok (.dup2, 1) := by decide +kernel
theorem dX1_overflow_61 : decode cX1_overflow 61 = .ok (.iaload, 1) := by decide +kernel
theorem dX1_overflow_62 : decode cX1_overflow 62 = .ok (.iload_n 2, 1) := by decide +kernel
theorem dX1_overflow_63 : decode cX1_overflow 63 = .ok (.iadd, 1) := by decide +kernel
theorem dX1_overflow_64 : decode cX1_overflow 64 = .ok (.iastore, 1) := by decide +kernel
theorem dX1_overflow_65 : decode cX1_overflow 65 = .ok (.return_, 1) := by decide +kernel
theorem dX1_room_0 : decode cX1_room 0 = .ok (.aload_n 0, 1) := by decide +kernel
theorem dX1_room_1 : decode cX1_room 1 = .ok (.getfield 24, 3) := by decide +kernel
theorem dX1_room_4 : decode cX1_room 4 = .ok (.iload_n 1, 1) := by decide +kernel
theorem dX1_room_5 : decode cX1_room 5 = .ok (.iaload, 1) := by decide +kernel
theorem dX1_room_6 : decode cX1_room 6 = .ok (.bipush 100, 2) := by decide +kernel
theorem dX1_room_8 : decode cX1_room 8 = .ok (.aload_n 0, 1) := by decide +kernel
theorem dX1_room_9 : decode cX1_room 9 = .ok (.getfield 30, 3) := by decide +kernel
theorem dX1_room_12 : decode cX1_room 12 = .ok (.iload_n 1, 1) := by decide +kernel
theorem dX1_room_13 : decode cX1_room 13 = .ok (.iaload, 1) := by decide +kernel
theorem dX1_room_14 : decode cX1_room 14 = .ok (.isub, 1) := by decide +kernel
theorem dX1_room_15 : decode cX1_room 15 = .ok (.imul, 1) := by decide +kernel
theorem dX1_room_16 : decode cX1_room 16 = .ok (.bipush 100, 2) := by decide +kernel
theorem dX1_room_18 : decode cX1_room 18 = .ok (.idiv, 1) := by decide +kernel
theorem dX1_room_19 : decode cX1_room 19 = .ok (.ireturn, 1) := by decide +kernel
theorem dX1_pipeTakes_0 : decode cX1_pipeTakes 0 = .ok (.aload_n 0, 1) := by decide +kernel
theorem dX1_pipeTakes_1 : decode cX1_pipeTakes 1 = .ok (.getfield 27, 3) := by decide +kernel
theorem dX1_pipeTakes_4 : decode cX1_pipeTakes 4 = .ok (.iload_n 1, 1) := by decide +kernel
theorem dX1_pipeTakes_5 : decode cX1_pipeTakes 5 = .ok (.iaload, 1) := by decide +kernel
theorem dX1_pipeTakes_6 : decode cX1_pipeTakes 6 = .ok (.bipush 100, 2) := by decide +kernel
theorem dX1_pipeTakes_8 : decode cX1_pipeTakes 8 = .ok (.aload_n 0, 1) := by decide +kernel
theorem dX1_pipeTakes_9 : decode cX1_pipeTakes 9 = .ok (.getfield 30, 3) := by decide +kernel
theorem dX1_pipeTakes_12 : decode cX1_pipeTakes 12 = .ok (.iload_n 1, 1) := by decide +kernel
theorem dX1_pipeTakes_13 : decode cX1_pipeTakes 13 = .ok (.iaload, 1) := by decide +kernel
theorem dX1_pipeTakes_14 : decode cX1_pipeTakes 14 = .ok (.isub, 1) := by decide +kernel
theorem dX1_pipeTakes_15 : decode cX1_pipeTakes 15 = .ok (.imul, 1) := by decide +kernel
theorem dX1_pipeTakes_16 : decode cX1_pipeTakes 16 = .ok (.bipush 100, 2) := by decide +kernel
theorem dX1_pipeTakes_18 : decode cX1_pipeTakes 18 = .ok (.idiv, 1) := by decide +kernel
theorem dX1_pipeTakes_19 : decode cX1_pipeTakes 19 = .ok (.istore_n 2, 1) := by decide +kernel
theorem dX1_pipeTakes_20 : decode cX1_pipeTakes 20 = .ok (.iload_n 2, 1) := by decide +kernel
theorem dX1_pipeTakes_21 : decode cX1_pipeTakes 21 = .ok (.ifCond .ne 16, 3) := by decide +kernel
theorem dX1_pipeTakes_24 : decode cX1_pipeTakes 24 = .ok (.aload_n 0, 1) := by decide +kernel
theorem dX1_pipeTakes_25 : decode cX1_pipeTakes 25 = .ok (.getfield 27, 3) := by decide +kernel
theorem dX1_pipeTakes_28 : decode cX1_pipeTakes 28 = .ok (.iload_n 1, 1) := by decide +kernel
theorem dX1_pipeTakes_29 : decode cX1_pipeTakes 29 = .ok (.iaload, 1) := by decide +kernel
theorem dX1_pipeTakes_30 : decode cX1_pipeTakes 30 = .ok (.ifCond .eq 7, 3) := by decide +kernel
theorem dX1_pipeTakes_33 : decode cX1_pipeTakes 33 = .ok (.iconst 1, 1) := by decide +kernel
theorem dX1_pipeTakes_34 : decode cX1_pipeTakes 34 = .ok (.goto 4, 3) := by decide +kernel
theorem dX1_pipeTakes_37 : decode cX1_pipeTakes 37 = .ok (.iload_n 2, 1) := by decide +kernel
theorem dX1_pipeTakes_38 : decode cX1_pipeTakes 38 = .ok (.ireturn, 1) := by decide +kernel
theorem dX1_planeNumber_0 : decode cX1_planeNumber 0 = .ok (.iload_n 2, 1) := by decide +kernel
theorem dX1_planeNumber_1 : decode cX1_planeNumber 1 = .ok (.tableswitch 48 0 2 #[27, 34, 41], 27) := by decide +kernel
theorem dX1_planeNumber_28 : decode cX1_planeNumber 28 = .ok (.aload_n 0, 1) := by decide +kernel
theorem dX1_planeNumber_29 : decode cX1_planeNumber 29 = .ok (.getfield 9, 3) := by decide +kernel
theorem dX1_planeNumber_32 : decode cX1_planeNumber 32 = .ok (.iload_n 1, 1) := by decide +kernel
theorem dX1_planeNumber_33 : decode cX1_planeNumber 33 = .ok (.iaload, 1) := by decide +kernel
theorem dX1_planeNumber_34 : decode cX1_planeNumber 34 = .ok (.ireturn, 1) := by decide +kernel
theorem dX1_planeNumber_35 : decode cX1_planeNumber 35 = .ok (.aload_n 0, 1) := by decide +kernel
theorem dX1_planeNumber_36 : decode cX1_planeNumber 36 = .ok (.getfield 15, 3) := by decide +kernel
theorem dX1_planeNumber_39 : decode cX1_planeNumber 39 = .ok (.iload_n 1, 1) := by decide +kernel
theorem dX1_planeNumber_40 : decode cX1_planeNumber 40 = .ok (.iaload, 1) := by decide +kernel
theorem dX1_planeNumber_41 : decode cX1_planeNumber 41 = .ok (.ireturn, 1) := by decide +kernel
theorem dX1_planeNumber_42 : decode cX1_planeNumber 42 = .ok (.aload_n 0, 1) := by decide +kernel
theorem dX1_planeNumber_43 : decode cX1_planeNumber 43 = .ok (.getfield 18, 3) := by decide +kernel
theorem dX1_planeNumber_46 : decode cX1_planeNumber 46 = .ok (.iload_n 1, 1) := by decide +kernel
theorem dX1_planeNumber_47 : decode cX1_planeNumber 47 = .ok (.iaload, 1) := by decide +kernel
theorem dX1_planeNumber_48 : decode cX1_planeNumber 48 = .ok (.ireturn, 1) := by decide +kernel
theorem dX1_planeNumber_49 : decode cX1_planeNumber 49 = .ok (.aload_n 0, 1) := by decide +kernel
theorem dX1_planeNumber_50 : decode cX1_planeNumber 50 = .ok (.getfield 21, 3) := by decide +kernel
theorem dX1_planeNumber_53 : decode cX1_planeNumber 53 = .ok (.iload_n 1, 1) := by decide +kernel
theorem dX1_planeNumber_54 : decode cX1_planeNumber 54 = .ok (.iaload, 1) := by decide +kernel
theorem dX1_planeNumber_55 : decode cX1_planeNumber 55 = .ok (.ireturn, 1) := by decide +kernel
set_option maxRecDepth 20000 in
theorem ggX1_gutterNumber_X1_room : GoodIn wsX1_gutterNumber wsX1_room := goodIn_r _ [12, 1, 3, 17, 18, 19, 20, 21, 22, 23, 24, 25, 26, 27, 28, 29, 30, 31, 32] (by decide +kernel) (by decide +kernel)
set_option maxRecDepth 20000 in
theorem gX1_gutterNumber_X1_room : GoodIn wsX1_gutterNumber (wsV RX1 95 RX1 yX1_room wsX1_room) := goodIn_app (goodIn_of _ (by decide +kernel)) ggX1_gutterNumber_X1_room
set_option maxRecDepth 20000 in
theorem ggX1_gutterNumber_X1_pipeTakes : GoodIn wsX1_gutterNumber wsX1_pipeTakes := goodIn_r _ [16, 2, 3, 17, 18, 19, 20, 21, 22, 23, 24, 25, 26, 27, 28, 29, 30, 31, 32] (by decide +kernel) (by decide +kernel)
set_option maxRecDepth 20000 in
theorem gX1_gutterNumber_X1_pipeTakes : GoodIn wsX1_gutterNumber (wsV RX1 91 RX1 yX1_pipeTakes wsX1_pipeTakes) := goodIn_app (goodIn_of _ (by decide +kernel)) ggX1_gutterNumber_X1_pipeTakes
theorem dX1_gutterNumber_0 : decode cX1_gutterNumber 0 = .ok (.iload_n 2, 1) := by decide +kernel
theorem dX1_gutterNumber_1 : decode cX1_gutterNumber 1 = .ok (.tableswitch 101 0 7 #[47, 54, 61, 68, 75, 82, 88, 94], 47) := by decide +kernel
theorem dX1_gutterNumber_48 : decode cX1_gutterNumber 48 = .ok (.aload_n 0, 1) := by decide +kernel
theorem dX1_gutterNumber_49 : decode cX1_gutterNumber 49 = .ok (.getfield 24, 3) := by decide +kernel
theorem dX1_gutterNumber_52 : decode cX1_gutterNumber 52 = .ok (.iload_n 1, 1) := by decide +kernel
theorem dX1_gutterNumber_53 : decode cX1_gutterNumber 53 = .ok (.iaload, 1) := by decide +kernel
theorem dX1_gutterNumber_54 : decode cX1_gutterNumber 54 = .ok (.ireturn, 1) := by decide +kernel
theorem dX1_gutterNumber_55 : decode cX1_gutterNumber 55 = .ok (.aload_n 0, 1) := by decide +kernel
theorem dX1_gutterNumber_56 : decode cX1_gutterNumber 56 = .ok (.getfield 27, 3) := by decide +kernel
theorem dX1_gutterNumber_59 : decode cX1_gutterNumber 59 = .ok (.iload_n 1, 1) := by decide +kernel
theorem dX1_gutterNumber_60 : decode cX1_gutterNumber 60 = .ok (.iaload, 1) := by decide +kernel
theorem dX1_gutterNumber_61 : decode cX1_gutterNumber 61 = .ok (.ireturn, 1) := by decide +kernel
theorem dX1_gutterNumber_62 : decode cX1_gutterNumber 62 = .ok (.aload_n 0, 1) := by decide +kernel
theorem dX1_gutterNumber_63 : decode cX1_gutterNumber 63 = .ok (.getfield 30, 3) := by decide +kernel
theorem dX1_gutterNumber_66 : decode cX1_gutterNumber 66 = .ok (.iload_n 1, 1) := by decide +kernel
theorem dX1_gutterNumber_67 : decode cX1_gutterNumber 67 = .ok (.iaload, 1) := by decide +kernel
theorem dX1_gutterNumber_68 : decode cX1_gutterNumber 68 = .ok (.ireturn, 1) := by decide +kernel
theorem dX1_gutterNumber_69 : decode cX1_gutterNumber 69 = .ok (.aload_n 0, 1) := by decide +kernel
theorem dX1_gutterNumber_70 : decode cX1_gutterNumber 70 = .ok (.getfield 33, 3) := by decide +kernel
theorem dX1_gutterNumber_73 : decode cX1_gutterNumber 73 = .ok (.iload_n 1, 1) := by decide +kernel
theorem dX1_gutterNumber_74 : decode cX1_gutterNumber 74 = .ok (.iaload, 1) := by decide +kernel
theorem dX1_gutterNumber_75 : decode cX1_gutterNumber 75 = .ok (.ireturn, 1) := by decide +kernel
theorem dX1_gutterNumber_76 : decode cX1_gutterNumber 76 = .ok (.aload_n 0, 1) := by decide +kernel
theorem dX1_gutterNumber_77 : decode cX1_gutterNumber 77 = .ok (.getfield 36, 3) := by decide +kernel
theorem dX1_gutterNumber_80 : decode cX1_gutterNumber 80 = .ok (.iload_n 1, 1) := by decide +kernel
theorem dX1_gutterNumber_81 : decode cX1_gutterNumber 81 = .ok (.iaload, 1) := by decide +kernel
theorem dX1_gutterNumber_82 : decode cX1_gutterNumber 82 = .ok (.ireturn, 1) := by decide +kernel
theorem dX1_gutterNumber_83 : decode cX1_gutterNumber 83 = .ok (.aload_n 0, 1) := by decide +kernel
theorem dX1_gutterNumber_84 : decode cX1_gutterNumber 84 = .ok (.iload_n 1, 1) := by decide +kernel
theorem dX1_gutterNumber_85 : decode cX1_gutterNumber 85 = .ok (.invokevirtual 95, 3) := by decide +kernel
theorem dX1_gutterNumber_88 : decode cX1_gutterNumber 88 = .ok (.ireturn, 1) := by decide +kernel
theorem dX1_gutterNumber_89 : decode cX1_gutterNumber 89 = .ok (.aload_n 0, 1) := by decide +kernel
theorem dX1_gutterNumber_90 : decode cX1_gutterNumber 90 = .ok (.iload_n 1, 1) := by decide +kernel
theorem dX1_gutterNumber_91 : decode cX1_gutterNumber 91 = .ok (.invokevirtual 91, 3) := by decide +kernel
theorem dX1_gutterNumber_94 : decode cX1_gutterNumber 94 = .ok (.ireturn, 1) := by decide +kernel
theorem dX1_gutterNumber_95 : decode cX1_gutterNumber 95 = .ok (.aload_n 0, 1) := by decide +kernel
theorem dX1_gutterNumber_96 : decode cX1_gutterNumber 96 = .ok (.getfield 39, 3) := by decide +kernel
theorem dX1_gutterNumber_99 : decode cX1_gutterNumber 99 = .ok (.iload_n 1, 1) := by decide +kernel
theorem dX1_gutterNumber_100 : decode cX1_gutterNumber 100 = .ok (.iaload, 1) := by decide +kernel
theorem dX1_gutterNumber_101 : decode cX1_gutterNumber 101 = .ok (.ireturn, 1) := by decide +kernel
theorem dX1_gutterNumber_102 : decode cX1_gutterNumber 102 = .ok (.aload_n 0, 1) := by decide +kernel
theorem dX1_gutterNumber_103 : decode cX1_gutterNumber 103 = .ok (.getfield 42, 3) := by decide +kernel
theorem dX1_gutterNumber_106 : decode cX1_gutterNumber 106 = .ok (.iload_n 1, 1) := by decide +kernel
theorem dX1_gutterNumber_107 : decode cX1_gutterNumber 107 = .ok (.iaload, 1) := by decide +kernel
theorem dX1_gutterNumber_108 : decode cX1_gutterNumber 108 = .ok (.ireturn, 1) := by decide +kernel
theorem dX1_hasLeaves_0 : decode cX1_hasLeaves 0 = .ok (.aload_n 0, 1) := by decide +kernel
theorem dX1_hasLeaves_1 : decode cX1_hasLeaves 1 = .ok (.getfield 30, 3) := by decide +kernel
theorem dX1_hasLeaves_4 : decode cX1_hasLeaves 4 = .ok (.iload_n 1, 1) := by decide +kernel
theorem dX1_hasLeaves_5 : decode cX1_hasLeaves 5 = .ok (.iaload, 1) := by decide +kernel
theorem dX1_hasLeaves_6 : decode cX1_hasLeaves 6 = .ok (.ifCond .le 7, 3) := by decide +kernel
theorem dX1_hasLeaves_9 : decode cX1_hasLeaves 9 = .ok (.iconst 1, 1) := by decide +kernel
theorem dX1_hasLeaves_10 : decode cX1_hasLeaves 10 = .ok (.goto 4, 3) := by decide +kernel
theorem dX1_hasLeaves_13 : decode cX1_hasLeaves 13 = .ok (.iconst 0, 1) := by decide +kernel
theorem dX1_hasLeaves_14 : decode cX1_hasLeaves 14 = .ok (.ireturn, 1) := by decide +kernel
theorem dX1_lowestThatSpiltMoreThanIn_0 : decode cX1_lowestThatSpiltMoreThanIn 0 = .ok (.iconst 0, 1) := by decide +kernel
theorem dX1_lowestThatSpiltMoreThanIn_1 : decode cX1_lowestThatSpiltMoreThanIn 1 = .ok (.istore_n 2, 1) := by decide +kernel
theorem dX1_lowestThatSpiltMoreThanIn_2 : decode cX1_lowestThatSpiltMoreThanIn 2 = .ok (.iload_n 2, 1) := by decide +kernel
theorem dX1_lowestThatSpiltMoreThanIn_3 : decode cX1_lowestThatSpiltMoreThanIn 3 = .ok (.bipush 6, 2) := by decide +kernel
theorem dX1_lowestThatSpiltMoreThanIn_5 : decode cX1_lowestThatSpiltMoreThanIn 5 = .ok (.if_icmp .ge 26, 3) := by decide +kernel
theorem dX1_lowestThatSpiltMoreThanIn_8 : decode cX1_lowestThatSpiltMoreThanIn 8 = .ok (.aload_n 0, 1) := by decide +kernel
theorem dX1_lowestThatSpiltMoreThanIn_9 : decode cX1_lowestThatSpiltMoreThanIn 9 = .ok (.getfield 39, 3) := by decide +kernel
theorem dX1_lowestThatSpiltMoreThanIn_12 : decode cX1_lowestThatSpiltMoreThanIn 12 = .ok (.iload_n 2, 1) := by decide +kernel
theorem dX1_lowestThatSpiltMoreThanIn_13 : decode cX1_lowestThatSpiltMoreThanIn 13 = .ok (.iaload, 1) := by decide +kernel
theorem dX1_lowestThatSpiltMoreThanIn_14 : decode cX1_lowestThatSpiltMoreThanIn 14 = .ok (.aload_n 1, 1) := by decide +kernel
theorem dX1_lowestThatSpiltMoreThanIn_15 : decode cX1_lowestThatSpiltMoreThanIn 15 = .ok (.getfield 39, 3) := by decide +kernel
theorem dX1_lowestThatSpiltMoreThanIn_18 : decode cX1_lowestThatSpiltMoreThanIn 18 = .ok (.iload_n 2, 1) := by decide +kernel
theorem dX1_lowestThatSpiltMoreThanIn_19 : decode cX1_lowestThatSpiltMoreThanIn 19 = .ok (.iaload, 1) := by decide +kernel
theorem dX1_lowestThatSpiltMoreThanIn_20 : decode cX1_lowestThatSpiltMoreThanIn 20 = .ok (.if_icmp .le 5, 3) := by decide +kernel
theorem dX1_lowestThatSpiltMoreThanIn_23 : decode cX1_lowestThatSpiltMoreThanIn 23 = .ok (.iload_n 2, 1) := by decide +kernel
theorem dX1_lowestThatSpiltMoreThanIn_24 : decode cX1_lowestThatSpiltMoreThanIn 24 = .ok (.ireturn, 1) := by decide +kernel
theorem dX1_lowestThatSpiltMoreThanIn_25 : decode cX1_lowestThatSpiltMoreThanIn 25 = .ok (.iinc 2 1, 3) := by decide +kernel
theorem dX1_lowestThatSpiltMoreThanIn_28 : decode cX1_lowestThatSpiltMoreThanIn 28 = .ok (.goto (-26), 3) := by decide +kernel
theorem dX1_lowestThatSpiltMoreThanIn_31 : decode cX1_lowestThatSpiltMoreThanIn 31 = .ok (.iconst (-1), 1) := by decide +kernel
theorem dX1_lowestThatSpiltMoreThanIn_32 : decode cX1_lowestThatSpiltMoreThanIn 32 = .ok (.ireturn, 1) := by decide +kernel
theorem dX1_settingValue_0 : decode cX1_settingValue 0 = .ok (.aload_n 0, 1) := by decide +kernel
theorem dX1_settingValue_1 : decode cX1_settingValue 1 = .ok (.getfield 45, 3) := by decide +kernel
theorem dX1_settingValue_4 : decode cX1_settingValue 4 = .ok (.iload_n 1, 1) := by decide +kernel
theorem dX1_settingValue_5 : decode cX1_settingValue 5 = .ok (.iaload, 1) := by decide +kernel
theorem dX1_settingValue_6 : decode cX1_settingValue 6 = .ok (.ireturn, 1) := by decide +kernel
theorem dX1_minutesGone_0 : decode cX1_minutesGone 0 = .ok (.aload_n 0, 1) := by decide +kernel
theorem dX1_minutesGone_1 : decode cX1_minutesGone 1 = .ok (.getfield 54, 3) := by decide +kernel
theorem dX1_minutesGone_4 : decode cX1_minutesGone 4 = .ok (.ireturn, 1) := by decide +kernel
theorem dX1_weeksPassed_0 : decode cX1_weeksPassed 0 = .ok (.aload_n 0, 1) := by decide +kernel
theorem dX1_weeksPassed_1 : decode cX1_weeksPassed 1 = .ok (.getfield 58, 3) := by decide +kernel
theorem dX1_weeksPassed_4 : decode cX1_weeksPassed 4 = .ok (.ireturn, 1) := by decide +kernel
theorem dX1_rainedLitres_0 : decode cX1_rainedLitres 0 = .ok (.aload_n 0, 1) := by decide +kernel
theorem dX1_rainedLitres_1 : decode cX1_rainedLitres 1 = .ok (.getfield 61, 3) := by decide +kernel
theorem dX1_rainedLitres_4 : decode cX1_rainedLitres 4 = .ok (.ireturn, 1) := by decide +kernel
theorem dX1_backedUpMinutes_0 : decode cX1_backedUpMinutes 0 = .ok (.aload_n 0, 1) := by decide +kernel
theorem dX1_backedUpMinutes_1 : decode cX1_backedUpMinutes 1 = .ok (.getfield 64, 3) := by decide +kernel
theorem dX1_backedUpMinutes_4 : decode cX1_backedUpMinutes 4 = .ok (.ireturn, 1) := by decide +kernel
set_option maxRecDepth 20000 in
theorem ggX1_standingLitres_X1_sumOf : GoodIn wsX1_standingLitres wsX1_sumOf := goodIn_r _ [6] (by decide +kernel) (by decide +kernel)
set_option maxRecDepth 20000 in
theorem gX1_standingLitres_X1_sumOf : GoodIn wsX1_standingLitres (va_wsS RX1 98 yX1_sumOf wsX1_sumOf) := goodIn_app (goodIn_of _ (by decide +kernel)) ggX1_standingLitres_X1_sumOf
theorem dX1_standingLitres_0 : decode cX1_standingLitres 0 = .ok (.aload_n 0, 1) := by decide +kernel
theorem dX1_standingLitres_1 : decode cX1_standingLitres 1 = .ok (.getfield 21, 3) := by decide +kernel
theorem dX1_standingLitres_4 : decode cX1_standingLitres 4 = .ok (.invokestatic 98, 3) := by decide +kernel
theorem dX1_standingLitres_7 : decode cX1_standingLitres 7 = .ok (.aload_n 0, 1) := by decide +kernel
theorem dX1_standingLitres_8 : decode cX1_standingLitres 8 = .ok (.getfield 36, 3) := by decide +kernel
theorem dX1_standingLitres_11 : decode cX1_standingLitres 11 = .ok (.invokestatic 98, 3) := by decide +kernel
theorem dX1_standingLitres_14 : decode cX1_standingLitres 14 = .ok (.iadd, 1) := by decide +kernel
theorem dX1_standingLitres_15 : decode cX1_standingLitres 15 = .ok (.ireturn, 1) := by decide +kernel
set_option maxRecDepth 20000 in
theorem ggX1_drainedLitres_X1_sumOf : GoodIn wsX1_drainedLitres wsX1_sumOf := goodIn_r _ [5] (by decide +kernel) (by decide +kernel)
set_option maxRecDepth 20000 in
theorem gX1_drainedLitres_X1_sumOf : GoodIn wsX1_drainedLitres (va_wsS RX1 98 yX1_sumOf wsX1_sumOf) := goodIn_app (goodIn_of _ (by decide +kernel)) ggX1_drainedLitres_X1_sumOf
theorem dX1_drainedLitres_0 : decode cX1_drainedLitres 0 = .ok (.aload_n 0, 1) := by decide +kernel
theorem dX1_drainedLitres_1 : decode cX1_drainedLitres 1 = .ok (.getfield 42, 3) := by decide +kernel
theorem dX1_drainedLitres_4 : decode cX1_drainedLitres 4 = .ok (.invokestatic 98, 3) := by decide +kernel
theorem dX1_drainedLitres_7 : decode cX1_drainedLitres 7 = .ok (.ireturn, 1) := by decide +kernel
set_option maxRecDepth 20000 in
theorem ggX1_spiltLitres_X1_sumOf : GoodIn wsX1_spiltLitres wsX1_sumOf := goodIn_r _ [5] (by decide +kernel) (by decide +kernel)
set_option maxRecDepth 20000 in
theorem gX1_spiltLitres_X1_sumOf : GoodIn wsX1_spiltLitres (va_wsS RX1 98 yX1_sumOf wsX1_sumOf) := goodIn_app (goodIn_of _ (by decide +kernel)) ggX1_spiltLitres_X1_sumOf
theorem dX1_spiltLitres_0 : decode cX1_spiltLitres 0 = .ok (.aload_n 0, 1) := by decide +kernel
theorem dX1_spiltLitres_1 : decode cX1_spiltLitres 1 = .ok (.getfield 39, 3) := by decide +kernel
theorem dX1_spiltLitres_4 : decode cX1_spiltLitres 4 = .ok (.invokestatic 98, 3) := by decide +kernel
theorem dX1_spiltLitres_7 : decode cX1_spiltLitres 7 = .ok (.ireturn, 1) := by decide +kernel
set_option maxRecDepth 20000 in
theorem ggX1_leavesTogether_X1_sumOf : GoodIn wsX1_leavesTogether wsX1_sumOf := goodIn_r _ [5] (by decide +kernel) (by decide +kernel)
set_option maxRecDepth 20000 in
theorem gX1_leavesTogether_X1_sumOf : GoodIn wsX1_leavesTogether (va_wsS RX1 98 yX1_sumOf wsX1_sumOf) := goodIn_app (goodIn_of _ (by decide +kernel)) ggX1_leavesTogether_X1_sumOf
theorem dX1_leavesTogether_0 : decode cX1_leavesTogether 0 = .ok (.aload_n 0, 1) := by decide +kernel
theorem dX1_leavesTogether_1 : decode cX1_leavesTogether 1 = .ok (.getfield 30, 3) := by decide +kernel
theorem dX1_leavesTogether_4 : decode cX1_leavesTogether 4 = .ok (.invokestatic 98, 3) := by decide +kernel
theorem dX1_leavesTogether_7 : decode cX1_leavesTogether 7 = .ok (.ireturn, 1) := by decide +kernel
theorem dX1_sumOf_0 : decode cX1_sumOf 0 = .ok (.iconst 0, 1) := by decide +kernel
theorem dX1_sumOf_1 : decode cX1_sumOf 1 = .ok (.istore_n 1, 1) := by decide +kernel
theorem dX1_sumOf_2 : decode cX1_sumOf 2 = .ok (.aload_n 0, 1) := by decide +kernel
theorem dX1_sumOf_3 : decode cX1_sumOf 3 = .ok (.astore_n 2, 1) := by decide +kernel
theorem dX1_sumOf_4 : decode cX1_sumOf 4 = .ok (.aload_n 2, 1) := by decide +kernel
theorem dX1_sumOf_5 : decode cX1_sumOf 5 = .ok (.arraylength, 1) := by decide +kernel
theorem dX1_sumOf_6 : decode cX1_sumOf 6 = .ok (.istore_n 3, 1) := by decide +kernel
theorem dX1_sumOf_7 : decode cX1_sumOf 7 = .ok (.iconst 0, 1) := by decide +kernel
theorem dX1_sumOf_8 : decode cX1_sumOf 8 = .ok (.istore 4, 2) := by decide +kernel
theorem dX1_sumOf_10 : decode cX1_sumOf 10 = .ok (.iload 4, 2) := by decide +kernel
theorem dX1_sumOf_12 : decode cX1_sumOf 12 = .ok (.iload_n 3, 1) := by decide +kernel
theorem dX1_sumOf_13 : decode cX1_sumOf 13 = .ok (.if_icmp .ge 20, 3) := by decide +kernel
theorem dX1_sumOf_16 : decode cX1_sumOf 16 = .ok (.aload_n 2, 1) := by decide +kernel
theorem dX1_sumOf_17 : decode cX1_sumOf 17 = .ok (.iload 4, 2) := by decide +kernel
theorem dX1_sumOf_19 : decode cX1_sumOf 19 = .ok (.iaload, 1) := by decide +kernel
theorem dX1_sumOf_20 : decode cX1_sumOf 20 = .ok (.istore 5, 2) := by decide +kernel
theorem dX1_sumOf_22 : decode cX1_sumOf 22 = .ok (.iload_n 1, 1) := by decide +kernel
theorem dX1_sumOf_23 : decode cX1_sumOf 23 = .ok (.iload 5, 2) := by decide +kernel
theorem dX1_sumOf_25 : decode cX1_sumOf 25 = .ok (.iadd, 1) := by decide +kernel
theorem dX1_sumOf_26 : decode cX1_sumOf 26 = .ok (.istore_n 1, 1) := by decide +kernel
theorem dX1_sumOf_27 : decode cX1_sumOf 27 = .ok (.iinc 4 1, 3) := by decide +kernel
theorem dX1_sumOf_30 : decode cX1_sumOf 30 = .ok (.goto (-20), 3) := by decide +kernel
theorem dX1_sumOf_33 : decode cX1_sumOf 33 = .ok (.iload_n 1, 1) := by decide +kernel
theorem dX1_sumOf_34 : decode cX1_sumOf 34 = .ok (.ireturn, 1) := by decide +kernel
theorem dX2_init_0 : decode cX2_init 0 = .ok (.aload_n 0, 1) := by decide +kernel
theorem dX2_init_1 : decode cX2_init 1 = .ok (.invokespecial 1, 3) := by decide +kernel
theorem dX2_init_4 : decode cX2_init 4 = .ok (.aload_n 0, 1) := by decide +kernel
theorem dX2_init_5 : decode cX2_init 5 = .ok (.bipush 6, 2) := by decide +kernel
theorem dX2_init_7 : decode cX2_init 7 = .ok (.anewarray 9, 3) := by decide +kernel
theorem dX2_init_10 : decode cX2_init 10 = .ok (.putfield 11, 3) := by decide +kernel
theorem dX2_init_13 : decode cX2_init 13 = .ok (.return_, 1) := by decide +kernel
theorem dX2_held_0 : decode cX2_held 0 = .ok (.aload_n 0, 1) := by decide +kernel
theorem dX2_held_1 : decode cX2_held 1 = .ok (.getfield 15, 3) := by decide +kernel
theorem dX2_held_4 : decode cX2_held 4 = .ok (.ireturn, 1) := by decide +kernel
set_option maxRecDepth 20000 in
theorem ggX2_keep_X1_init : GoodIn wsX2_keep wsX1_init := goodIn_r _ [9, 10, 11, 12, 13, 14, 15, 16, 17, 18, 19, 20, 21, 22, 23, 24, 25, 41, 42, 43, 44, 45, 46, 47, 48, 49, 50, 51, 52, 53, 54, 55, 56] (by decide +kernel) (by decide +kernel)
set_option maxRecDepth 20000 in
theorem gX2_keep_X1_init : GoodIn wsX2_keep (wsX1_init) := ggX2_keep_X1_init
set_option maxRecDepth 20000 in
theorem ggX2_keep_X1_copyFrom : GoodIn wsX2_keep wsX1_copyFrom := goodIn_r _ [29, 14, 30, 31, 32, 33, 15, 16, 17, 18, 19, 20, 21, 22, 23, 24, 25, 34, 35, 36, 37, 41, 42, 43, 44, 45, 46, 47, 48, 49, 50, 51, 52, 53, 54, 55, 56] (by decide +kernel) (by decide +kernel)
set_option maxRecDepth 20000 in
theorem gX2_keep_X1_copyFrom : GoodIn wsX2_keep (wsV RX2 23 RX1 yX1_copyFrom wsX1_copyFrom) := goodIn_app (goodIn_of _ (by decide +kernel)) ggX2_keep_X1_copyFrom
theorem dX2_keep_0 : decode cX2_keep 0 = .ok (.aload_n 0, 1) := by decide +kernel
theorem dX2_keep_1 : decode cX2_keep 1 = .ok (.getfield 15, 3) := by decide +kernel
theorem dX2_keep_4 : decode cX2_keep 4 = .ok (.bipush 6, 2) := by decide +kernel
theorem dX2_keep_6 : decode cX2_keep 6 = .ok (.if_icmp .ne 26, 3) := by decide +kernel
theorem dX2_keep_9 : decode cX2_keep 9 = .ok (.aload_n 0, 1) := by decide +kernel
theorem dX2_keep_10 : decode cX2_keep 10 = .ok (.aload_n 0, 1) := by decide +kernel
theorem dX2_keep_11 : decode cX2_keep 11 = .ok (.getfield 19, 3) := by decide +kernel
theorem dX2_keep_14 : decode cX2_keep 14 = .ok (.iconst 1, 1) := by decide +kernel
theorem dX2_keep_15 : decode cX2_keep 15 = .ok (.iadd, 1) := by decide +kernel
theorem dX2_keep_16 : decode cX2_keep 16 = .ok (.bipush 6, 2) := by decide +kernel
theorem dX2_keep_18 : decode cX2_keep 18 = .ok (.irem, 1) := by decide +kernel
theorem dX2_keep_19 : decode cX2_keep 19 = .ok (.putfield 19, 3) := by decide +kernel
theorem dX2_keep_22 : decode cX2_keep 22 = .ok (.aload_n 0, 1) := by decide +kernel
theorem dX2_keep_23 : decode cX2_keep 23 = .ok (.dup, 1) := by decide +kernel
theorem dX2_keep_24 : decode cX2_keep 24 = .ok (.getfield 15, 3) := by decide +kernel
theorem dX2_keep_27 : decode cX2_keep 27 = .ok (.iconst 1, 1) := by decide +kernel
theorem dX2_keep_28 : decode cX2_keep 28 = .ok (.isub, 1) := by decide +kernel
theorem dX2_keep_29 : decode cX2_keep 29 = .ok (.putfield 15, 3) := by decide +kernel
theorem dX2_keep_32 : decode cX2_keep 32 = .ok (.aload_n 0, 1) := by decide +kernel
theorem dX2_keep_33 : decode cX2_keep 33 = .ok (.getfield 19, 3) := by decide +kernel
theorem dX2_keep_36 : decode cX2_keep 36 = .ok (.aload_n 0, 1) := by decide +kernel
theorem dX2_keep_37 : decode cX2_keep 37 = .ok (.getfield 15, 3) := by decide +kernel
theorem dX2_keep_40 : decode cX2_keep 40 = .ok (.iadd, 1) := by decide +kernel
theorem dX2_keep_41 : decode cX2_keep 41 = .ok (.bipush 6, 2) := by decide +kernel
theorem dX2_keep_43 : decode cX2_keep 43 = .ok (.irem, 1) := by decide +kernel
theorem dX2_keep_44 : decode cX2_keep 44 = .ok (.istore_n 2, 1) := by decide +kernel
theorem dX2_keep_45 : decode cX2_keep 45 = .ok (.aload_n 0, 1) := by decide +kernel
theorem dX2_keep_46 : decode cX2_keep 46 = .ok (.getfield 11, 3) := by decide +kernel
theorem dX2_keep_49 : decode cX2_keep 49 = .ok (.iload_n 2, 1) := by decide +kernel
theorem dX2_keep_50 : decode cX2_keep 50 = .ok (.aaload, 1) := by decide +kernel
theorem dX2_keep_51 : decode cX2_keep 51 = .ok (.astore_n 3, 1) := by decide +kernel
theorem dX2_keep_52 : decode cX2_keep 52 = .ok (.aload_n 3, 1) := by decide +kernel
theorem dX2_keep_53 : decode cX2_keep 53 = .ok (.ifnonnull 18, 3) := by decide +kernel
theorem dX2_keep_56 : decode cX2_keep 56 = .ok (.new 9, 3) := by decide +kernel
theorem dX2_keep_59 : decode cX2_keep 59 = .ok (.dup, 1) := by decide +kernel
theorem dX2_keep_60 : decode cX2_keep 60 = .ok (.invokespecial 22, 3) := by decide +kernel
theorem dX2_keep_63 : decode cX2_keep 63 = .ok (.astore_n 3, 1) := by decide +kernel
theorem dX2_keep_64 : decode cX2_keep 64 = .ok (.aload_n 0, 1) := by decide +kernel
theorem dX2_keep_65 : decode cX2_keep 65 = .ok (.getfield 11, 3) := by decide +kernel
theorem dX2_keep_68 : decode cX2_keep 68 = .ok (.iload_n 2, 1) := by decide +kernel
theorem dX2_keep_69 : decode cX2_keep 69 = .ok (.aload_n 3, 1) := by decide +kernel
theorem dX2_keep_70 : decode cX2_keep 70 = .ok (.aastore, 1) := by decide +kernel
theorem dX2_keep_71 : decode cX2_keep 71 = .ok (.aload_n 3, 1) := by decide +kernel
theorem dX2_keep_72 : decode cX2_keep 72 = .ok (.aload_n 1, 1) := by decide +kernel
theorem dX2_keep_73 : decode cX2_keep 73 = .ok (.invokevirtual 23, 3) := by decide +kernel
theorem dX2_keep_76 : decode cX2_keep 76 = .ok (.aload_n 0, 1) := by decide +kernel
theorem dX2_keep_77 : decode cX2_keep 77 = .ok (.dup, 1) := by decide +kernel
theorem dX2_keep_78 : decode cX2_keep 78 = .ok (.getfield 15, 3) := by decide +kernel
theorem dX2_keep_81 : decode cX2_keep 81 = .ok (.iconst 1, 1) := by decide +kernel
theorem dX2_keep_82 : decode cX2_keep 82 = .ok (.iadd, 1) := by decide +kernel
theorem dX2_keep_83 : decode cX2_keep 83 = .ok (.putfield 15, 3) := by decide +kernel
theorem dX2_keep_86 : decode cX2_keep 86 = .ok (.return_, 1) := by decide +kernel
theorem dX2_dropLatest_0 : decode cX2_dropLatest 0 = .ok (.aload_n 0, 1) := by decide +kernel
theorem dX2_dropLatest_1 : decode cX2_dropLatest 1 = .ok (.getfield 15, 3) := by decide +kernel
theorem dX2_dropLatest_4 : decode cX2_dropLatest 4 = .ok (.ifCond .ne 5, 3) := by decide +kernel
theorem dX2_dropLatest_7 : decode cX2_dropLatest 7 = .ok (.aconst_null, 1) := by decide +kernel
theorem dX2_dropLatest_8 : decode cX2_dropLatest 8 = .ok (.areturn, 1) := by decide +kernel
theorem dX2_dropLatest_9 : decode cX2_dropLatest 9 = .ok (.aload_n 0, 1) := by decide +kernel
theorem dX2_dropLatest_10 : decode cX2_dropLatest 10 = .ok (.dup, 1) := by decide +kernel
theorem dX2_dropLatest_11 : decode cX2_dropLatest 11 = .ok (.getfield 15, 3) := by decide +kernel
theorem dX2_dropLatest_14 : decode cX2_dropLatest 14 = .ok (.iconst 1, 1) := by decide +kernel
theorem dX2_dropLatest_15 : decode cX2_dropLatest 15 = .ok (.isub, 1) := by decide +kernel
theorem dX2_dropLatest_16 : decode cX2_dropLatest 16 = .ok (.putfield 15, 3) := by decide +kernel
theorem dX2_dropLatest_19 : decode cX2_dropLatest 19 = .ok (.aload_n 0, 1) := by decide +kernel
theorem dX2_dropLatest_20 : decode cX2_dropLatest 20 = .ok (.getfield 11, 3) := by decide +kernel
theorem dX2_dropLatest_23 : decode cX2_dropLatest 23 = .ok (.aload_n 0, 1) := by decide +kernel
theorem dX2_dropLatest_24 : decode cX2_dropLatest 24 = .ok (.getfield 19, 3) := by decide +kernel
theorem dX2_dropLatest_27 : decode cX2_dropLatest 27 = .ok (.aload_n 0, 1) := by decide +kernel
theorem dX2_dropLatest_28 : decode cX2_dropLatest 28 = .ok (.getfield 15, 3) := by decide +kernel
theorem dX2_dropLatest_31 : decode cX2_dropLatest 31 = .ok (.iadd, 1) := by decide +kernel
theorem dX2_dropLatest_32 : decode cX2_dropLatest 32 = .ok (.bipush 6, 2) := by decide +kernel
theorem dX2_dropLatest_34 : decode cX2_dropLatest 34 = .ok (.irem, 1) := by decide +kernel
theorem dX2_dropLatest_35 : decode cX2_dropLatest 35 = .ok (.aaload, 1) := by decide +kernel
theorem dX2_dropLatest_36 : decode cX2_dropLatest 36 = .ok (.areturn, 1) := by decide +kernel
end
section
set_option maxRecDepth 20000 in
theorem ggX3_init_X1_init : GoodIn wsX3_init wsX1_init := goodIn_r _ [19, 20, 2, 3, 21, 22, 23, 24, 25, 26, 27, 28, 29, 30, 31, 32, 33, 45, 46, 47, 48, 49, 50, 51, 52, 53, 54, 55, 56, 57, 58, 59, 60] (by decide +kernel) (by decide +kernel)
set_option maxRecDepth 20000 in
theorem gX3_init_X1_init : GoodIn wsX3_init (wsX1_init) := ggX3_init_X1_init
set_option maxRecDepth 20000 in
theorem ggX3_init_X2_init : GoodIn wsX3_init wsX2_init := goodIn_r _ [36, 37, 2, 3, 38, 39, 65, 66, 67] (by decide +kernel) (by decide +kernel)
set_option maxRecDepth 20000 in
theorem gX3_init_X2_init : GoodIn wsX3_init (wsX2_init) := ggX3_init_X2_init
set_option maxRecDepth 20000 in
theorem ggX3_init_X0_init : GoodIn wsX3_init wsX0_init := goodIn_r _ [42, 43, 2, 3, 21, 44, 68, 69] (by decide +kernel) (by decide +kernel)
set_option maxRecDepth 20000 in
theorem gX3_init_X0_init : GoodIn wsX3_init (wsX0_init) := ggX3_init_X0_init
theorem dX3_init_0 : decode cX3_init 0 = .ok (.aload_n 0, 1) := by decide +kernel
theorem dX3_init_1 : decode cX3_init 1 = .ok (.invokespecial 1, 3) := by decide +kernel
theorem dX3_init_4 : decode cX3_init 4 = .ok (.aload_n 0, 1) := by decide +kernel
theorem dX3_init_5 : decode cX3_init 5 = .ok (.new 7, 3) := by decide +kernel
theorem dX3_init_8 : decode cX3_init 8 = .ok (.dup, 1) := by decide +kernel
theorem dX3_init_9 : decode cX3_init 9 = .ok (.invokespecial 9, 3) := by decide +kernel
theorem dX3_init_12 : decode cX3_init 12 = .ok (.putfield 10, 3) := by decide +kernel
theorem dX3_init_15 : decode cX3_init 15 = .ok (.aload_n 0, 1) := by decide +kernel
theorem dX3_init_16 : decode cX3_init 16 = .ok (.new 7, 3) := by decide +kernel
theorem dX3_init_19 : decode cX3_init 19 = .ok (.dup, 1) := by decide +kernel
theorem dX3_init_20 : decode cX3_init 20 = .ok (.invokespecial 9, 3) := by decide +kernel
theorem dX3_init_23 : decode cX3_init 23 = .ok (.putfield 16, 3) := by decide +kernel
theorem dX3_init_26 : decode cX3_init 26 = .ok (.aload_n 0, 1) := by decide +kernel
theorem dX3_init_27 : decode cX3_init 27 = .ok (.new 19, 3) := by decide +kernel
theorem dX3_init_30 : decode cX3_init 30 = .ok (.dup, 1) := by decide +kernel
theorem dX3_init_31 : decode cX3_init 31 = .ok (.invokespecial 21, 3) := by decide +kernel
theorem dX3_init_34 : decode cX3_init 34 = .ok (.putfield 22, 3) := by decide +kernel
theorem dX3_init_37 : decode cX3_init 37 = .ok (.aload_n 0, 1) := by decide +kernel
theorem dX3_init_38 : decode cX3_init 38 = .ok (.new 26, 3) := by decide +kernel
theorem dX3_init_41 : decode cX3_init 41 = .ok (.dup, 1) := by decide +kernel
theorem dX3_init_42 : decode cX3_init 42 = .ok (.invokespecial 28, 3) := by decide +kernel
theorem dX3_init_45 : decode cX3_init 45 = .ok (.putfield 29, 3) := by decide +kernel
theorem dX3_init_48 : decode cX3_init 48 = .ok (.return_, 1) := by decide +kernel
set_option maxRecDepth 20000 in
theorem ggX3_plane_X3_isPlane : GoodIn wsX3_plane wsX3_isPlane := goodIn_r _ [10] (by decide +kernel) (by decide +kernel)
set_option maxRecDepth 20000 in
theorem gX3_plane_X3_isPlane : GoodIn wsX3_plane (va_wsS RX3 33 yX3_isPlane wsX3_isPlane) := goodIn_app (goodIn_of _ (by decide +kernel)) ggX3_plane_X3_isPlane
set_option maxRecDepth 20000 in
theorem ggX3_plane_X3_isGutter : GoodIn wsX3_plane wsX3_isGutter := goodIn_r _ [13] (by decide +kernel) (by decide +kernel)
set_option maxRecDepth 20000 in
theorem gX3_plane_X3_isGutter : GoodIn wsX3_plane (va_wsS RX3 37 yX3_isGutter wsX3_isGutter) := goodIn_app (goodIn_of _ (by decide +kernel)) ggX3_plane_X3_isGutter
set_option maxRecDepth 20000 in
theorem ggX3_plane_X3_isWithin : GoodIn wsX3_plane wsX3_isWithin := goodIn_r _ [16] (by decide +kernel) (by decide +kernel)
set_option maxRecDepth 20000 in
theorem gX3_plane_X3_isWithin : GoodIn wsX3_plane (va_wsS RX3 47 yX3_isWithin wsX3_isWithin) := goodIn_app (goodIn_of _ (by decide +kernel)) ggX3_plane_X3_isWithin
set_option maxRecDepth 20000 in
theorem ggX3_plane_X2_keep : GoodIn wsX3_plane wsX2_keep := goodIn_r _ [21, 22, 23, 24, 25, 26, 27, 28, 29, 30, 31, 32, 33, 34, 35, 36, 37, 38, 39, 40, 41, 42, 43, 44, 45, 46, 47, 48, 49, 50, 51, 52, 53, 54, 55, 56, 57, 58, 67, 68, 69, 70, 71, 72, 73, 74, 75, 76, 77, 78, 79, 80, 81, 82, 83, 84, 85] (by decide +kernel) (by decide +kernel)
set_option maxRecDepth 20000 in
theorem gX3_plane_X2_keep : GoodIn wsX3_plane (wsV RX3 56 RX2 yX2_keep wsX2_keep) := goodIn_app (goodIn_of _ (by decide +kernel)) ggX3_plane_X2_keep
set_option maxRecDepth 20000 in
theorem ggX3_plane_X1_changePlane : GoodIn wsX3_plane wsX1_changePlane := goodIn_r _ [62, 35, 36, 37, 70, 71, 72, 73, 74, 75, 76, 77, 78, 79, 80, 81, 82, 83, 84, 85] (by decide +kernel) (by decide +kernel)
set_option maxRecDepth 20000 in
theorem gX3_plane_X1_changePlane : GoodIn wsX3_plane (wsV RX3 60 RX1 yX1_changePlane wsX1_changePlane) := goodIn_app (goodIn_of _ (by decide +kernel)) ggX3_plane_X1_changePlane
theorem dX3_plane_0 : decode cX3_plane 0 = .ok (.iload_n 1, 1) := by decide +kernel
theorem dX3_plane_1 : decode cX3_plane 1 = .ok (.invokestatic 33, 3) := by decide +kernel
theorem dX3_plane_4 : decode cX3_plane 4 = .ok (.ifCond .eq 11, 3) := by decide +kernel
theorem dX3_plane_7 : decode cX3_plane 7 = .ok (.iload 4, 2) := by decide +kernel
theorem dX3_plane_9 : decode cX3_plane 9 = .ok (.invokestatic 37, 3) := by decide +kernel
theorem dX3_plane_12 : decode cX3_plane 12 = .ok (.ifCond .ne 13, 3) := by decide +kernel
theorem dX3_plane_15 : decode cX3_plane 15 = .ok (.new 40, 3) := by decide +kernel
theorem dX3_plane_18 : decode cX3_plane 18 = .ok (.dup, 1) := by decide +kernel
theorem dX3_plane_19 : decode cX3_plane 19 = .ok (.ldc 42, 2) := by decide +kernel
theorem dX3_plane_21 : decode cX3_plane 21 = .ok (.invokespecial 44, 3) := by decide +kernel
theorem dX3_plane_24 : decode cX3_plane 24 = .ok (.athrow, 1) := by decide +kernel
theorem dX3_plane_25 : decode cX3_plane 25 = .ok (.iload_n 2, 1) := by decide +kernel
theorem dX3_plane_26 : decode cX3_plane 26 = .ok (.iconst 0, 1) := by decide +kernel
theorem dX3_plane_27 : decode cX3_plane 27 = .ok (.sipush 200, 3) := by decide +kernel
theorem dX3_plane_30 : decode cX3_plane 30 = .ok (.invokestatic 47, 3) := by decide +kernel
theorem dX3_plane_33 : decode cX3_plane 33 = .ok (.ifCond .eq 13, 3) := by decide +kernel
theorem dX3_plane_36 : decode cX3_plane 36 = .ok (.iload_n 3, 1) := by decide +kernel
theorem dX3_plane_37 : decode cX3_plane 37 = .ok (.iconst 0, 1) := by decide +kernel
theorem dX3_plane_38 : decode cX3_plane 38 = .ok (.bipush 9, 2) := by decide +kernel
theorem dX3_plane_40 : decode cX3_plane 40 = .ok (.invokestatic 47, 3) := by decide +kernel
theorem dX3_plane_43 : decode cX3_plane 43 = .ok (.ifCond .ne 13, 3) := by decide +kernel
theorem dX3_plane_46 : decode cX3_plane 46 = .ok (.new 51, 3) := by decide +kernel
theorem dX3_plane_49 : decode cX3_plane 49 = .ok (.dup, 1) := by decide +kernel
theorem dX3_plane_50 : decode cX3_plane 50 = .ok (.ldc 53, 2) := by decide +kernel
theorem dX3_plane_52 : decode cX3_plane 52 = .ok (.invokespecial 55, 3) := by decide +kernel
theorem dX3_plane_55 : decode cX3_plane 55 = .ok (.athrow, 1) := by decide +kernel
theorem dX3_plane_56 : decode cX3_plane 56 = .ok (.aload_n 0, 1) := by decide +kernel
theorem dX3_plane_57 : decode cX3_plane 57 = .ok (.getfield 22, 3) := by decide +kernel
theorem dX3_plane_60 : decode cX3_plane 60 = .ok (.aload_n 0, 1) := by decide +kernel
theorem dX3_plane_61 : decode cX3_plane 61 = .ok (.getfield 10, 3) := by decide +kernel
theorem dX3_plane_64 : decode cX3_plane 64 = .ok (.invokevirtual 56, 3) := by decide +kernel
theorem dX3_plane_67 : decode cX3_plane 67 = .ok (.aload_n 0, 1) := by decide +kernel
theorem dX3_plane_68 : decode cX3_plane 68 = .ok (.getfield 10, 3) := by decide +kernel
theorem dX3_plane_71 : decode cX3_plane 71 = .ok (.iload_n 1, 1) := by decide +kernel
theorem dX3_plane_72 : decode cX3_plane 72 = .ok (.iload_n 2, 1) := by decide +kernel
theorem dX3_plane_73 : decode cX3_plane 73 = .ok (.iload_n 3, 1) := by decide +kernel
theorem dX3_plane_74 : decode cX3_plane 74 = .ok (.iload 4, 2) := by decide +kernel
theorem dX3_plane_76 : decode cX3_plane 76 = .ok (.invokevirtual 60, 3) := by decide +kernel
theorem dX3_plane_79 : decode cX3_plane 79 = .ok (.ireturn, 1) := by decide +kernel
set_option maxRecDepth 20000 in
theorem ggX3_gutter_X3_isGutter : GoodIn wsX3_gutter wsX3_isGutter := goodIn_r _ [10] (by decide +kernel) (by decide +kernel)
set_option maxRecDepth 20000 in
theorem gX3_gutter_X3_isGutter : GoodIn wsX3_gutter (va_wsS RX3 37 yX3_isGutter wsX3_isGutter) := goodIn_app (goodIn_of _ (by decide +kernel)) ggX3_gutter_X3_isGutter
set_option maxRecDepth 20000 in
theorem ggX3_gutter_X3_isWithin : GoodIn wsX3_gutter wsX3_isWithin := goodIn_r _ [13] (by decide +kernel) (by decide +kernel)
set_option maxRecDepth 20000 in
theorem gX3_gutter_X3_isWithin : GoodIn wsX3_gutter (va_wsS RX3 47 yX3_isWithin wsX3_isWithin) := goodIn_app (goodIn_of _ (by decide +kernel)) ggX3_gutter_X3_isWithin
set_option maxRecDepth 20000 in
theorem ggX3_gutter_X2_keep : GoodIn wsX3_gutter wsX2_keep := goodIn_r _ [18, 19, 20, 21, 22, 23, 24, 25, 26, 27, 28, 29, 30, 31, 32, 33, 34, 35, 36, 37, 38, 39, 40, 41, 42, 43, 44, 45, 46, 47, 48, 49, 50, 51, 52, 53, 54, 55, 64, 65, 66, 67, 68, 69, 70, 71, 72, 73, 74, 75, 76, 77, 78, 79, 80, 81, 82] (by decide +kernel) (by decide +kernel)
set_option maxRecDepth 20000 in
theorem gX3_gutter_X2_keep : GoodIn wsX3_gutter (wsV RX3 56 RX2 yX2_keep wsX2_keep) := goodIn_app (goodIn_of _ (by decide +kernel)) ggX3_gutter_X2_keep
set_option maxRecDepth 20000 in
theorem ggX3_gutter_X1_changeGutter : GoodIn wsX3_gutter wsX1_changeGutter := goodIn_r _ [59, 36, 37, 67, 68, 69, 70, 71, 72, 73, 74, 75, 76, 77, 78, 79, 80, 81, 82] (by decide +kernel) (by decide +kernel)
set_option maxRecDepth 20000 in
theorem gX3_gutter_X1_changeGutter : GoodIn wsX3_gutter (wsV RX3 68 RX1 yX1_changeGutter wsX1_changeGutter) := goodIn_app (goodIn_of _ (by decide +kernel)) ggX3_gutter_X1_changeGutter
theorem dX3_gutter_0 : decode cX3_gutter 0 = .ok (.iload_n 1, 1) := by decide +kernel
theorem dX3_gutter_1 : decode cX3_gutter 1 = .ok (.invokestatic 37, 3) := by decide +kernel
theorem dX3_gutter_4 : decode cX3_gutter 4 = .ok (.ifCond .ne 13, 3) := by decide +kernel
theorem dX3_gutter_7 : decode cX3_gutter 7 = .ok (.new 40, 3) := by decide +kernel
theorem dX3_gutter_10 : decode cX3_gutter 10 = .ok (.dup, 1) := by decide +kernel
theorem dX3_gutter_11 : decode cX3_gutter 11 = .ok (.ldc 64, 2) := by decide +kernel
theorem dX3_gutter_13 : decode cX3_gutter 13 = .ok (.invokespecial 44, 3) := by decide +kernel
theorem dX3_gutter_16 : decode cX3_gutter 16 = .ok (.athrow, 1) := by decide +kernel
theorem dX3_gutter_17 : decode cX3_gutter 17 = .ok (.iload_n 2, 1) := by decide +kernel
theorem dX3_gutter_18 : decode cX3_gutter 18 = .ok (.iconst 1, 1) := by decide +kernel
theorem dX3_gutter_19 : decode cX3_gutter 19 = .ok (.sipush 500, 3) := by decide +kernel
theorem dX3_gutter_22 : decode cX3_gutter 22 = .ok (.invokestatic 47, 3) := by decide +kernel
theorem dX3_gutter_25 : decode cX3_gutter 25 = .ok (.ifCond .eq 13, 3) := by decide +kernel
theorem dX3_gutter_28 : decode cX3_gutter 28 = .ok (.iload_n 3, 1) := by decide +kernel
theorem dX3_gutter_29 : decode cX3_gutter 29 = .ok (.iconst 0, 1) := by decide +kernel
theorem dX3_gutter_30 : decode cX3_gutter 30 = .ok (.bipush 99, 2) := by decide +kernel
theorem dX3_gutter_32 : decode cX3_gutter 32 = .ok (.invokestatic 47, 3) := by decide +kernel
theorem dX3_gutter_35 : decode cX3_gutter 35 = .ok (.ifCond .ne 13, 3) := by decide +kernel
theorem dX3_gutter_38 : decode cX3_gutter 38 = .ok (.new 51, 3) := by decide +kernel
theorem dX3_gutter_41 : decode cX3_gutter 41 = .ok (.dup, 1) := by decide +kernel
theorem dX3_gutter_42 : decode cX3_gutter 42 = .ok (.ldc 66, 2) := by decide +kernel
theorem dX3_gutter_44 : decode cX3_gutter 44 = .ok (.invokespecial 55, 3) := by decide +kernel
theorem dX3_gutter_47 : decode cX3_gutter 47 = .ok (.athrow, 1) := by decide +kernel
theorem dX3_gutter_48 : decode cX3_gutter 48 = .ok (.aload_n 0, 1) := by decide +kernel
theorem dX3_gutter_49 : decode cX3_gutter 49 = .ok (.getfield 22, 3) := by decide +kernel
theorem dX3_gutter_52 : decode cX3_gutter 52 = .ok (.aload_n 0, 1) := by decide +kernel
theorem dX3_gutter_53 : decode cX3_gutter 53 = .ok (.getfield 10, 3) := by decide +kernel
theorem dX3_gutter_56 : decode cX3_gutter 56 = .ok (.invokevirtual 56, 3) := by decide +kernel
theorem dX3_gutter_59 : decode cX3_gutter 59 = .ok (.aload_n 0, 1) := by decide +kernel
theorem dX3_gutter_60 : decode cX3_gutter 60 = .ok (.getfield 10, 3) := by decide +kernel
theorem dX3_gutter_63 : decode cX3_gutter 63 = .ok (.iload_n 1, 1) := by decide +kernel
theorem dX3_gutter_64 : decode cX3_gutter 64 = .ok (.iload_n 2, 1) := by decide +kernel
theorem dX3_gutter_65 : decode cX3_gutter 65 = .ok (.iload_n 3, 1) := by decide +kernel
theorem dX3_gutter_66 : decode cX3_gutter 66 = .ok (.invokevirtual 68, 3) := by decide +kernel
theorem dX3_gutter_69 : decode cX3_gutter 69 = .ok (.ireturn, 1) := by decide +kernel
set_option maxRecDepth 20000 in
theorem ggX3_valley_X3_isGutter : GoodIn wsX3_valley wsX3_isGutter := goodIn_r _ [12] (by decide +kernel) (by decide +kernel)
set_option maxRecDepth 20000 in
theorem gX3_valley_X3_isGutter : GoodIn wsX3_valley (va_wsS RX3 37 yX3_isGutter wsX3_isGutter) := goodIn_app (goodIn_of _ (by decide +kernel)) ggX3_valley_X3_isGutter
set_option maxRecDepth 20000 in
theorem ggX3_valley_X1_valleysLead : GoodIn wsX3_valley wsX1_valleysLead := goodIn_r _ [17, 18, 10, 11, 12, 67, 68, 69, 70, 71, 72, 73, 74, 75, 76, 77, 78, 79, 80, 81, 82] (by decide +kernel) (by decide +kernel)
set_option maxRecDepth 20000 in
theorem gX3_valley_X1_valleysLead : GoodIn wsX3_valley (wsV RX3 74 RX1 yX1_valleysLead wsX1_valleysLead) := goodIn_app (goodIn_of _ (by decide +kernel)) ggX3_valley_X1_valleysLead
set_option maxRecDepth 20000 in
theorem ggX3_valley_X2_keep : GoodIn wsX3_valley wsX2_keep := goodIn_r _ [23, 24, 25, 26, 27, 28, 16, 29, 30, 31, 32, 33, 34, 35, 36, 37, 38, 39, 40, 41, 42, 18, 43, 44, 45, 46, 47, 48, 49, 50, 51, 52, 53, 54, 55, 56, 57, 58, 83, 84, 85, 67, 68, 69, 70, 71, 72, 73, 74, 75, 76, 77, 78, 79, 80, 81, 82] (by decide +kernel) (by decide +kernel)
set_option maxRecDepth 20000 in
theorem gX3_valley_X2_keep : GoodIn wsX3_valley (wsV RX3 56 RX2 yX2_keep wsX2_keep) := goodIn_app (goodIn_of _ (by decide +kernel)) ggX3_valley_X2_keep
set_option maxRecDepth 20000 in
theorem ggX3_valley_X1_changeValley : GoodIn wsX3_valley wsX1_changeValley := goodIn_r _ [62, 18, 67, 68, 69, 70, 71, 72, 73, 74, 75, 76, 77, 78, 79, 80, 81, 82] (by decide +kernel) (by decide +kernel)
set_option maxRecDepth 20000 in
theorem gX3_valley_X1_changeValley : GoodIn wsX3_valley (wsV RX3 83 RX1 yX1_changeValley wsX1_changeValley) := goodIn_app (goodIn_of _ (by decide +kernel)) ggX3_valley_X1_changeValley
theorem dX3_valley_0 : decode cX3_valley 0 = .ok (.iload_n 1, 1) := by decide +kernel
theorem dX3_valley_1 : decode cX3_valley 1 = .ok (.invokestatic 37, 3) := by decide +kernel
theorem dX3_valley_4 : decode cX3_valley 4 = .ok (.ifCond .eq 15, 3) := by decide +kernel
theorem dX3_valley_7 : decode cX3_valley 7 = .ok (.iload_n 2, 1) := by decide +kernel
theorem dX3_valley_8 : decode cX3_valley 8 = .ok (.iconst (-1), 1) := by decide +kernel
theorem dX3_valley_9 : decode cX3_valley 9 = .ok (.if_icmp .eq 20, 3) := by decide +kernel
theorem dX3_valley_12 : decode cX3_valley 12 = .ok (.iload_n 2, 1) := by decide +kernel
theorem dX3_valley_13 : decode cX3_valley 13 = .ok (.invokestatic 37, 3) := by decide +kernel
theorem dX3_valley_16 : decode cX3_valley 16 = .ok (.ifCond .ne 13, 3) := by decide +kernel
theorem dX3_valley_19 : decode cX3_valley 19 = .ok (.new 40, 3) := by decide +kernel
theorem dX3_valley_22 : decode cX3_valley 22 = .ok (.dup, 1) := by decide +kernel
theorem dX3_valley_23 : decode cX3_valley 23 = .ok (.ldc 64, 2) := by decide +kernel
theorem dX3_valley_25 : decode cX3_valley 25 = .ok (.invokespecial 44, 3) := by decide +kernel
theorem dX3_valley_28 : decode cX3_valley 28 = .ok (.athrow, 1) := by decide +kernel
theorem dX3_valley_29 : decode cX3_valley 29 = .ok (.iload_n 1, 1) := by decide +kernel
theorem dX3_valley_30 : decode cX3_valley 30 = .ok (.iload_n 2, 1) := by decide +kernel
theorem dX3_valley_31 : decode cX3_valley 31 = .ok (.if_icmp .ne 13, 3) := by decide +kernel
theorem dX3_valley_34 : decode cX3_valley 34 = .ok (.new 51, 3) := by decide +kernel
theorem dX3_valley_37 : decode cX3_valley 37 = .ok (.dup, 1) := by decide +kernel
theorem dX3_valley_38 : decode cX3_valley 38 = .ok (.ldc 72, 2) := by decide +kernel
theorem dX3_valley_40 : decode cX3_valley 40 = .ok (.invokespecial 55, 3) := by decide +kernel
theorem dX3_valley_43 : decode cX3_valley 43 = .ok (.athrow, 1) := by decide +kernel
theorem dX3_valley_44 : decode cX3_valley 44 = .ok (.aload_n 0, 1) := by decide +kernel
theorem dX3_valley_45 : decode cX3_valley 45 = .ok (.getfield 10, 3) := by decide +kernel
theorem dX3_valley_48 : decode cX3_valley 48 = .ok (.iload_n 2, 1) := by decide +kernel
theorem dX3_valley_49 : decode cX3_valley 49 = .ok (.iload_n 1, 1) := by decide +kernel
theorem dX3_valley_50 : decode cX3_valley 50 = .ok (.invokevirtual 74, 3) := by decide +kernel
theorem dX3_valley_53 : decode cX3_valley 53 = .ok (.ifCond .eq 13, 3) := by decide +kernel
theorem dX3_valley_56 : decode cX3_valley 56 = .ok (.new 78, 3) := by decide +kernel
theorem dX3_valley_59 : decode cX3_valley 59 = .ok (.dup, 1) := by decide +kernel
theorem dX3_valley_60 : decode cX3_valley 60 = .ok (.ldc 80, 2) := by decide +kernel
theorem dX3_valley_62 : decode cX3_valley 62 = .ok (.invokespecial 82, 3) := by decide +kernel
theorem dX3_valley_65 : decode cX3_valley 65 = .ok (.athrow, 1) := by decide +kernel
theorem dX3_valley_66 : decode cX3_valley 66 = .ok (.aload_n 0, 1) := by decide +kernel
theorem dX3_valley_67 : decode cX3_valley 67 = .ok (.getfield 22, 3) := by decide +kernel
theorem dX3_valley_70 : decode cX3_valley 70 = .ok (.aload_n 0, 1) := by decide +kernel
theorem dX3_valley_71 : decode cX3_valley 71 = .ok (.getfield 10, 3) := by decide +kernel
theorem dX3_valley_74 : decode cX3_valley 74 = .ok (.invokevirtual 56, 3) := by decide +kernel
theorem dX3_valley_77 : decode cX3_valley 77 = .ok (.aload_n 0, 1) := by decide +kernel
theorem dX3_valley_78 : decode cX3_valley 78 = .ok (.getfield 10, 3) := by decide +kernel
theorem dX3_valley_81 : decode cX3_valley 81 = .ok (.iload_n 1, 1) := by decide +kernel
theorem dX3_valley_82 : decode cX3_valley 82 = .ok (.iload_n 2, 1) := by decide +kernel
theorem dX3_valley_83 : decode cX3_valley 83 = .ok (.invokevirtual 83, 3) := by decide +kernel
theorem dX3_valley_86 : decode cX3_valley 86 = .ok (.ireturn, 1) := by decide +kernel
set_option maxRecDepth 20000 in
theorem ggX3_clean_X3_isGutter : GoodIn wsX3_clean wsX3_isGutter := goodIn_r _ [8] (by decide +kernel) (by decide +kernel)
set_option maxRecDepth 20000 in
theorem gX3_clean_X3_isGutter : GoodIn wsX3_clean (va_wsS RX3 37 yX3_isGutter wsX3_isGutter) := goodIn_app (goodIn_of _ (by decide +kernel)) ggX3_clean_X3_isGutter
set_option maxRecDepth 20000 in
theorem ggX3_clean_X2_keep : GoodIn wsX3_clean wsX2_keep := goodIn_r _ [13, 14, 15, 16, 17, 18, 19, 20, 21, 22, 23, 24, 25, 26, 27, 28, 29, 30, 31, 32, 33, 34, 35, 36, 37, 38, 39, 40, 41, 42, 43, 44, 45, 46, 47, 48, 49, 50, 59, 60, 61, 62, 63, 64, 65, 66, 67, 68, 69, 70, 71, 72, 73, 74, 75, 76, 77] (by decide +kernel) (by decide +kernel)
set_option maxRecDepth 20000 in
theorem gX3_clean_X2_keep : GoodIn wsX3_clean (wsV RX3 56 RX2 yX2_keep wsX2_keep) := goodIn_app (goodIn_of _ (by decide +kernel)) ggX3_clean_X2_keep
set_option maxRecDepth 20000 in
theorem ggX3_clean_X1_takeLeaves : GoodIn wsX3_clean wsX1_takeLeaves := goodIn_r _ [54, 33, 62, 63, 64, 65, 66, 67, 68, 69, 70, 71, 72, 73, 74, 75, 76, 77] (by decide +kernel) (by decide +kernel)
set_option maxRecDepth 20000 in
theorem gX3_clean_X1_takeLeaves : GoodIn wsX3_clean (wsV RX3 87 RX1 yX1_takeLeaves wsX1_takeLeaves) := goodIn_app (goodIn_of _ (by decide +kernel)) ggX3_clean_X1_takeLeaves
theorem dX3_clean_0 : decode cX3_clean 0 = .ok (.iload_n 1, 1) := by decide +kernel
theorem dX3_clean_1 : decode cX3_clean 1 = .ok (.invokestatic 37, 3) := by decide +kernel
theorem dX3_clean_4 : decode cX3_clean 4 = .ok (.ifCond .ne 13, 3) := by decide +kernel
theorem dX3_clean_7 : decode cX3_clean 7 = .ok (.new 40, 3) := by decide +kernel
theorem dX3_clean_10 : decode cX3_clean 10 = .ok (.dup, 1) := by decide +kernel
theorem dX3_clean_11 : decode cX3_clean 11 = .ok (.ldc 64, 2) := by decide +kernel
theorem dX3_clean_13 : decode cX3_clean 13 = .ok (.invokespecial 44, 3) := by decide +kernel
theorem dX3_clean_16 : decode cX3_clean 16 = .ok (.athrow, 1) := by decide +kernel
theorem dX3_clean_17 : decode cX3_clean 17 = .ok (.aload_n 0, 1) := by decide +kernel
theorem dX3_clean_18 : decode cX3_clean 18 = .ok (.getfield 22, 3) := by decide +kernel
theorem dX3_clean_21 : decode cX3_clean 21 = .ok (.aload_n 0, 1) := by decide +kernel
theorem dX3_clean_22 : decode cX3_clean 22 = .ok (.getfield 10, 3) := by decide +kernel
theorem dX3_clean_25 : decode cX3_clean 25 = .ok (.invokevirtual 56, 3) := by decide +kernel
theorem dX3_clean_28 : decode cX3_clean 28 = .ok (.aload_n 0, 1) := by decide +kernel
theorem dX3_clean_29 : decode cX3_clean 29 = .ok (.getfield 10, 3) := by decide +kernel
theorem dX3_clean_32 : decode cX3_clean 32 = .ok (.iload_n 1, 1) := by decide +kernel
theorem dX3_clean_33 : decode cX3_clean 33 = .ok (.invokevirtual 87, 3) := by decide +kernel
theorem dX3_clean_36 : decode cX3_clean 36 = .ok (.ireturn, 1) := by decide +kernel
set_option maxRecDepth 20000 in
theorem ggX3_set_X3_isSetting : GoodIn wsX3_set wsX3_isSetting := goodIn_r _ [11] (by decide +kernel) (by decide +kernel)
set_option maxRecDepth 20000 in
theorem gX3_set_X3_isSetting : GoodIn wsX3_set (va_wsS RX3 91 yX3_isSetting wsX3_isSetting) := goodIn_app (goodIn_of _ (by decide +kernel)) ggX3_set_X3_isSetting
set_option maxRecDepth 20000 in
theorem ggX3_set_X3_isWithin : GoodIn wsX3_set wsX3_isWithin := goodIn_r _ [14] (by decide +kernel) (by decide +kernel)
set_option maxRecDepth 20000 in
theorem gX3_set_X3_isWithin : GoodIn wsX3_set (va_wsS RX3 47 yX3_isWithin wsX3_isWithin) := goodIn_app (goodIn_of _ (by decide +kernel)) ggX3_set_X3_isWithin
set_option maxRecDepth 20000 in
theorem ggX3_set_X2_keep : GoodIn wsX3_set wsX2_keep := goodIn_r _ [19, 20, 21, 22, 23, 24, 25, 26, 27, 28, 29, 30, 31, 32, 33, 34, 35, 36, 37, 38, 39, 40, 41, 42, 43, 44, 45, 46, 47, 48, 49, 50, 51, 52, 53, 54, 55, 56, 65, 66, 67, 68, 69, 70, 71, 72, 73, 74, 75, 76, 77, 78, 79, 80, 81, 82, 83] (by decide +kernel) (by decide +kernel)
set_option maxRecDepth 20000 in
theorem gX3_set_X2_keep : GoodIn wsX3_set (wsV RX3 56 RX2 yX2_keep wsX2_keep) := goodIn_app (goodIn_of _ (by decide +kernel)) ggX3_set_X2_keep
set_option maxRecDepth 20000 in
theorem ggX3_set_X1_changeSetting : GoodIn wsX3_set wsX1_changeSetting := goodIn_r _ [60, 44, 68, 69, 70, 71, 72, 73, 74, 75, 76, 77, 78, 79, 80, 81, 82, 83] (by decide +kernel) (by decide +kernel)
set_option maxRecDepth 20000 in
theorem gX3_set_X1_changeSetting : GoodIn wsX3_set (wsV RX3 102 RX1 yX1_changeSetting wsX1_changeSetting) := goodIn_app (goodIn_of _ (by decide +kernel)) ggX3_set_X1_changeSetting
theorem dX3_set_0 : decode cX3_set 0 = .ok (.iload_n 1, 1) := by decide +kernel
theorem dX3_set_1 : decode cX3_set 1 = .ok (.invokestatic 91, 3) := by decide +kernel
theorem dX3_set_4 : decode cX3_set 4 = .ok (.ifCond .ne 13, 3) := by decide +kernel
theorem dX3_set_7 : decode cX3_set 7 = .ok (.new 40, 3) := by decide +kernel
theorem dX3_set_10 : decode cX3_set 10 = .ok (.dup, 1) := by decide +kernel
theorem dX3_set_11 : decode cX3_set 11 = .ok (.ldc 94, 2) := by decide +kernel
theorem dX3_set_13 : decode cX3_set 13 = .ok (.invokespecial 44, 3) := by decide +kernel
theorem dX3_set_16 : decode cX3_set 16 = .ok (.athrow, 1) := by decide +kernel
theorem dX3_set_17 : decode cX3_set 17 = .ok (.iload_n 2, 1) := by decide +kernel
theorem dX3_set_18 : decode cX3_set 18 = .ok (.iconst 0, 1) := by decide +kernel
theorem dX3_set_19 : decode cX3_set 19 = .ok (.getstatic 96, 3) := by decide +kernel
theorem dX3_set_22 : decode cX3_set 22 = .ok (.iload_n 1, 1) := by decide +kernel
theorem dX3_set_23 : decode cX3_set 23 = .ok (.iaload, 1) := by decide +kernel
theorem dX3_set_24 : decode cX3_set 24 = .ok (.invokestatic 47, 3) := by decide +kernel
theorem dX3_set_27 : decode cX3_set 27 = .ok (.ifCond .ne 13, 3) := by decide +kernel
theorem dX3_set_30 : decode cX3_set 30 = .ok (.new 51, 3) := by decide +kernel
theorem dX3_set_33 : decode cX3_set 33 = .ok (.dup, 1) := by decide +kernel
theorem dX3_set_34 : decode cX3_set 34 = .ok (.ldc 100, 2) := by decide +kernel
theorem dX3_set_36 : decode cX3_set 36 = .ok (.invokespecial 55, 3) := by decide +kernel
theorem dX3_set_39 : decode cX3_set 39 = .ok (.athrow, 1) := by decide +kernel
theorem dX3_set_40 : decode cX3_set 40 = .ok (.aload_n 0, 1) := by decide +kernel
theorem dX3_set_41 : decode cX3_set 41 = .ok (.getfield 22, 3) := by decide +kernel
theorem dX3_set_44 : decode cX3_set 44 = .ok (.aload_n 0, 1) := by decide +kernel
theorem dX3_set_45 : decode cX3_set 45 = .ok (.getfield 10, 3) := by decide +kernel
theorem dX3_set_48 : decode cX3_set 48 = .ok (.invokevirtual 56, 3) := by decide +kernel
theorem dX3_set_51 : decode cX3_set 51 = .ok (.aload_n 0, 1) := by decide +kernel
theorem dX3_set_52 : decode cX3_set 52 = .ok (.getfield 10, 3) := by decide +kernel
theorem dX3_set_55 : decode cX3_set 55 = .ok (.iload_n 1, 1) := by decide +kernel
theorem dX3_set_56 : decode cX3_set 56 = .ok (.iload_n 2, 1) := by decide +kernel
theorem dX3_set_57 : decode cX3_set 57 = .ok (.invokevirtual 102, 3) := by decide +kernel
theorem dX3_set_60 : decode cX3_set 60 = .ok (.ireturn, 1) := by decide +kernel
set_option maxRecDepth 20000 in
theorem ggX3_rain_X3_isWithin : GoodIn wsX3_rain wsX3_isWithin := goodIn_r _ [8] (by decide +kernel) (by decide +kernel)
set_option maxRecDepth 20000 in
theorem gX3_rain_X3_isWithin : GoodIn wsX3_rain (va_wsS RX3 47 yX3_isWithin wsX3_isWithin) := goodIn_app (goodIn_of _ (by decide +kernel)) ggX3_rain_X3_isWithin
set_option maxRecDepth 20000 in
theorem ggX3_rain_X2_keep : GoodIn wsX3_rain wsX2_keep := goodIn_r _ [13, 14, 15, 16, 17, 18, 19, 20, 21, 22, 23, 24, 25, 26, 27, 28, 29, 30, 31, 32, 33, 34, 35, 36, 37, 38, 39, 40, 41, 42, 43, 44, 45, 46, 47, 48, 49, 50, 96, 97, 98, 99, 100, 101, 102, 103, 104, 105, 106, 107, 108, 109, 110, 111, 112, 113, 114] (by decide +kernel) (by decide +kernel)
set_option maxRecDepth 20000 in
theorem gX3_rain_X2_keep : GoodIn wsX3_rain (wsV RX3 56 RX2 yX2_keep wsX2_keep) := goodIn_app (goodIn_of _ (by decide +kernel)) ggX3_rain_X2_keep
set_option maxRecDepth 20000 in
theorem ggX3_rain_X1_spiltLitres : GoodIn wsX3_rain wsX1_spiltLitres := goodIn_r _ [54, 36, 55, 56, 19, 57, 99, 100, 101, 102, 103, 104, 105, 106, 107, 108, 109, 110, 111, 112, 113, 114] (by decide +kernel) (by decide +kernel)
set_option maxRecDepth 20000 in
theorem gX3_rain_X1_spiltLitres : GoodIn wsX3_rain (wsV RX3 107 RX1 yX1_spiltLitres wsX1_spiltLitres) := goodIn_app (goodIn_of _ (by decide +kernel)) ggX3_rain_X1_spiltLitres
set_option maxRecDepth 20000 in
theorem ggX3_rain_X1_passMinutes : GoodIn wsX3_rain wsX1_passMinutes := goodIn_r _ [61, 62, 63, 64, 19, 65, 47, 66, 67, 68, 69, 27, 49, 30, 28, 29, 35, 70, 7, 71, 72, 73, 74, 75, 38, 76, 77, 78, 79, 37, 50, 80, 81, 82, 83, 32, 33, 84, 85, 86, 87, 34, 36, 88, 89, 90, 91, 31, 99, 100, 101, 102, 103, 104, 105, 106, 107, 108, 109, 110, 111, 112, 113, 114] (by decide +kernel) (by decide +kernel)
set_option maxRecDepth 20000 in
theorem gX3_rain_X1_passMinutes : GoodIn wsX3_rain (wsV RX3 111 RX1 yX1_passMinutes wsX1_passMinutes) := goodIn_app (goodIn_of _ (by decide +kernel)) ggX3_rain_X1_passMinutes
theorem dX3_rain_0 : decode cX3_rain 0 = .ok (.iload_n 1, 1) := by decide +kernel
theorem dX3_rain_1 : decode cX3_rain 1 = .ok (.iconst 0, 1) := by decide +kernel
theorem dX3_rain_2 : decode cX3_rain 2 = .ok (.bipush 99, 2) := by decide +kernel
theorem dX3_rain_4 : decode cX3_rain 4 = .ok (.invokestatic 47, 3) := by decide +kernel
theorem dX3_rain_7 : decode cX3_rain 7 = .ok (.ifCond .eq 13, 3) := by decide +kernel
theorem dX3_rain_10 : decode cX3_rain 10 = .ok (.iload_n 2, 1) := by decide +kernel
theorem dX3_rain_11 : decode cX3_rain 11 = .ok (.iconst 1, 1) := by decide +kernel
theorem dX3_rain_12 : decode cX3_rain 12 = .ok (.bipush 60, 2) := by decide +kernel
theorem dX3_rain_14 : decode cX3_rain 14 = .ok (.invokestatic 47, 3) := by decide +kernel
theorem dX3_rain_17 : decode cX3_rain 17 = .ok (.ifCond .ne 13, 3) := by decide +kernel
theorem dX3_rain_20 : decode cX3_rain 20 = .ok (.new 51, 3) := by decide +kernel
theorem dX3_rain_23 : decode cX3_rain 23 = .ok (.dup, 1) := by decide +kernel
theorem dX3_rain_24 : decode cX3_rain 24 = .ok (.ldc 105, 2) := by decide +kernel
theorem dX3_rain_26 : decode cX3_rain 26 = .ok (.invokespecial 55, 3) := by decide +kernel
theorem dX3_rain_29 : decode cX3_rain 29 = .ok (.athrow, 1) := by decide +kernel
theorem dX3_rain_30 : decode cX3_rain 30 = .ok (.aload_n 0, 1) := by decide +kernel
theorem dX3_rain_31 : decode cX3_rain 31 = .ok (.getfield 22, 3) := by decide +kernel
theorem dX3_rain_34 : decode cX3_rain 34 = .ok (.aload_n 0, 1) := by decide +kernel
theorem dX3_rain_35 : decode cX3_rain 35 = .ok (.getfield 10, 3) := by decide +kernel
theorem dX3_rain_38 : decode cX3_rain 38 = .ok (.invokevirtual 56, 3) := by decide +kernel
theorem dX3_rain_41 : decode cX3_rain 41 = .ok (.aload_n 0, 1) := by decide +kernel
theorem dX3_rain_42 : decode cX3_rain 42 = .ok (.getfield 10, 3) := by decide +kernel
theorem dX3_rain_45 : decode cX3_rain 45 = .ok (.invokevirtual 107, 3) := by decide +kernel
theorem dX3_rain_48 : decode cX3_rain 48 = .ok (.istore_n 3, 1) := by decide +kernel
theorem dX3_rain_49 : decode cX3_rain 49 = .ok (.aload_n 0, 1) := by decide +kernel
theorem dX3_rain_50 : decode cX3_rain 50 = .ok (.getfield 10, 3) := by decide +kernel
theorem dX3_rain_53 : decode cX3_rain 53 = .ok (.iload_n 1, 1) := by decide +kernel
theorem dX3_rain_54 : decode cX3_rain 54 = .ok (.iload_n 2, 1) := by decide +kernel
theorem dX3_rain_55 : decode cX3_rain 55 = .ok (.invokevirtual 111, 3) := by decide +kernel
theorem dX3_rain_58 : decode cX3_rain 58 = .ok (.aload_n 0, 1) := by decide +kernel
theorem dX3_rain_59 : decode cX3_rain 59 = .ok (.getfield 10, 3) := by decide +kernel
theorem dX3_rain_62 : decode cX3_rain 62 = .ok (.invokevirtual 107, 3) := by decide +kernel
theorem dX3_rain_65 : decode cX3_rain 65 = .ok (.iload_n 3, 1) := by decide +kernel
theorem dX3_rain_66 : decode cX3_rain 66 = .ok (.isub, 1) := by decide +kernel
theorem dX3_rain_67 : decode cX3_rain 67 = .ok (.ireturn, 1) := by decide +kernel
set_option maxRecDepth 20000 in
theorem ggX3_weeks_X3_isWithin : GoodIn wsX3_weeks wsX3_isWithin := goodIn_r _ [8] (by decide +kernel) (by decide +kernel)
set_option maxRecDepth 20000 in
theorem gX3_weeks_X3_isWithin : GoodIn wsX3_weeks (va_wsS RX3 47 yX3_isWithin wsX3_isWithin) := goodIn_app (goodIn_of _ (by decide +kernel)) ggX3_weeks_X3_isWithin
set_option maxRecDepth 20000 in
theorem ggX3_weeks_X2_keep : GoodIn wsX3_weeks wsX2_keep := goodIn_r _ [13, 14, 15, 16, 17, 18, 19, 20, 21, 22, 23, 24, 25, 26, 27, 28, 29, 30, 31, 32, 33, 34, 35, 36, 37, 38, 39, 40, 41, 42, 43, 44, 45, 46, 47, 48, 49, 50, 70, 71, 72, 73, 74, 75, 76, 77, 78, 79, 80, 81, 82, 83, 84, 85, 86, 87, 88] (by decide +kernel) (by decide +kernel)
set_option maxRecDepth 20000 in
theorem gX3_weeks_X2_keep : GoodIn wsX3_weeks (wsV RX3 56 RX2 yX2_keep wsX2_keep) := goodIn_app (goodIn_of _ (by decide +kernel)) ggX3_weeks_X2_keep
set_option maxRecDepth 20000 in
theorem ggX3_weeks_X1_passWeek : GoodIn wsX3_weeks wsX1_passWeek := goodIn_r _ [54, 33, 38, 55, 56, 57, 58, 48, 73, 74, 75, 76, 77, 78, 79, 80, 81, 82, 83, 84, 85, 86, 87, 88] (by decide +kernel) (by decide +kernel)
set_option maxRecDepth 20000 in
theorem gX3_weeks_X1_passWeek : GoodIn wsX3_weeks (wsV RX3 117 RX1 yX1_passWeek wsX1_passWeek) := goodIn_app (goodIn_of _ (by decide +kernel)) ggX3_weeks_X1_passWeek
set_option maxRecDepth 20000 in
theorem ggX3_weeks_X1_leavesTogether : GoodIn wsX3_weeks wsX1_leavesTogether := goodIn_r _ [62, 33, 63, 64, 19, 65, 73, 74, 75, 76, 77, 78, 79, 80, 81, 82, 83, 84, 85, 86, 87, 88] (by decide +kernel) (by decide +kernel)
set_option maxRecDepth 20000 in
theorem gX3_weeks_X1_leavesTogether : GoodIn wsX3_weeks (wsV RX3 120 RX1 yX1_leavesTogether wsX1_leavesTogether) := goodIn_app (goodIn_of _ (by decide +kernel)) ggX3_weeks_X1_leavesTogether
theorem dX3_weeks_0 : decode cX3_weeks 0 = .ok (.iload_n 1, 1) := by decide +kernel
theorem dX3_weeks_1 : decode cX3_weeks 1 = .ok (.iconst 1, 1) := by decide +kernel
theorem dX3_weeks_2 : decode cX3_weeks 2 = .ok (.bipush 52, 2) := by decide +kernel
theorem dX3_weeks_4 : decode cX3_weeks 4 = .ok (.invokestatic 47, 3) := by decide +kernel
theorem dX3_weeks_7 : decode cX3_weeks 7 = .ok (.ifCond .ne 13, 3) := by decide +kernel
theorem dX3_weeks_10 : decode cX3_weeks 10 = .ok (.new 51, 3) := by decide +kernel
theorem dX3_weeks_13 : decode cX3_weeks 13 = .ok (.dup, 1) := by decide +kernel
theorem dX3_weeks_14 : decode cX3_weeks 14 = .ok (.ldc 115, 2) := by decide +kernel
theorem dX3_weeks_16 : decode cX3_weeks 16 = .ok (.invokespecial 55, 3) := by decide +kernel
theorem dX3_weeks_19 : decode cX3_weeks 19 = .ok (.athrow, 1) := by decide +kernel
theorem dX3_weeks_20 : decode cX3_weeks 20 = .ok (.aload_n 0, 1) := by decide +kernel
theorem dX3_weeks_21 : decode cX3_weeks 21 = .ok (.getfield 22, 3) := by decide +kernel
theorem dX3_weeks_24 : decode cX3_weeks 24 = .ok (.aload_n 0, 1) := by decide +kernel
theorem dX3_weeks_25 : decode cX3_weeks 25 = .ok (.getfield 10, 3) := by decide +kernel
theorem dX3_weeks_28 : decode cX3_weeks 28 = .ok (.invokevirtual 56, 3) := by decide +kernel
theorem dX3_weeks_31 : decode cX3_weeks 31 = .ok (.iconst 0, 1) := by decide +kernel
theorem dX3_weeks_32 : decode cX3_weeks 32 = .ok (.istore_n 2, 1) := by decide +kernel
theorem dX3_weeks_33 : decode cX3_weeks 33 = .ok (.iload_n 2, 1) := by decide +kernel
theorem dX3_weeks_34 : decode cX3_weeks 34 = .ok (.iload_n 1, 1) := by decide +kernel
theorem dX3_weeks_35 : decode cX3_weeks 35 = .ok (.if_icmp .ge 16, 3) := by decide +kernel
theorem dX3_weeks_38 : decode cX3_weeks 38 = .ok (.aload_n 0, 1) := by decide +kernel
theorem dX3_weeks_39 : decode cX3_weeks 39 = .ok (.getfield 10, 3) := by decide +kernel
theorem dX3_weeks_42 : decode cX3_weeks 42 = .ok (.invokevirtual 117, 3) := by decide +kernel
theorem dX3_weeks_45 : decode cX3_weeks 45 = .ok (.iinc 2 1, 3) := by decide +kernel
theorem dX3_weeks_48 : decode cX3_weeks 48 = .ok (.goto (-15), 3) := by decide +kernel
theorem dX3_weeks_51 : decode cX3_weeks 51 = .ok (.aload_n 0, 1) := by decide +kernel
theorem dX3_weeks_52 : decode cX3_weeks 52 = .ok (.getfield 10, 3) := by decide +kernel
theorem dX3_weeks_55 : decode cX3_weeks 55 = .ok (.invokevirtual 120, 3) := by decide +kernel
theorem dX3_weeks_58 : decode cX3_weeks 58 = .ok (.ireturn, 1) := by decide +kernel
set_option maxRecDepth 20000 in
theorem ggX3_append_X3_isWithin : GoodIn wsX3_append wsX3_isWithin := goodIn_r _ [9] (by decide +kernel) (by decide +kernel)
set_option maxRecDepth 20000 in
theorem gX3_append_X3_isWithin : GoodIn wsX3_append (va_wsS RX3 47 yX3_isWithin wsX3_isWithin) := goodIn_app (goodIn_of _ (by decide +kernel)) ggX3_append_X3_isWithin
set_option maxRecDepth 20000 in
theorem ggX3_append_X0_isFull : GoodIn wsX3_append wsX0_isFull := goodIn_r _ [14, 15, 29, 30] (by decide +kernel) (by decide +kernel)
set_option maxRecDepth 20000 in
theorem gX3_append_X0_isFull : GoodIn wsX3_append (wsV RX3 125 RX0 yX0_isFull wsX0_isFull) := goodIn_app (goodIn_of _ (by decide +kernel)) ggX3_append_X0_isFull
set_option maxRecDepth 20000 in
theorem ggX3_append_X0_add : GoodIn wsX3_append wsX0_add := goodIn_r _ [19, 20, 15, 29, 30] (by decide +kernel) (by decide +kernel)
set_option maxRecDepth 20000 in
theorem gX3_append_X0_add : GoodIn wsX3_append (wsV RX3 131 RX0 yX0_add wsX0_add) := goodIn_app (goodIn_of _ (by decide +kernel)) ggX3_append_X0_add
set_option maxRecDepth 20000 in
theorem ggX3_append_X0_length : GoodIn wsX3_append wsX0_length := goodIn_r _ [24, 15, 29, 30] (by decide +kernel) (by decide +kernel)
set_option maxRecDepth 20000 in
theorem gX3_append_X0_length : GoodIn wsX3_append (wsV RX3 135 RX0 yX0_length wsX0_length) := goodIn_app (goodIn_of _ (by decide +kernel)) ggX3_append_X0_length
theorem dX3_append_0 : decode cX3_append 0 = .ok (.iload_n 1, 1) := by decide +kernel
theorem dX3_append_1 : decode cX3_append 1 = .ok (.bipush 33, 2) := by decide +kernel
theorem dX3_append_3 : decode cX3_append 3 = .ok (.bipush 126, 2) := by decide +kernel
theorem dX3_append_5 : decode cX3_append 5 = .ok (.invokestatic 47, 3) := by decide +kernel
theorem dX3_append_8 : decode cX3_append 8 = .ok (.ifCond .ne 13, 3) := by decide +kernel
theorem dX3_append_11 : decode cX3_append 11 = .ok (.new 51, 3) := by decide +kernel
theorem dX3_append_14 : decode cX3_append 14 = .ok (.dup, 1) := by decide +kernel
theorem dX3_append_15 : decode cX3_append 15 = .ok (.ldc 123, 2) := by decide +kernel
theorem dX3_append_17 : decode cX3_append 17 = .ok (.invokespecial 55, 3) := by decide +kernel
theorem dX3_append_20 : decode cX3_append 20 = .ok (.athrow, 1) := by decide +kernel
theorem dX3_append_21 : decode cX3_append 21 = .ok (.aload_n 0, 1) := by decide +kernel
theorem dX3_append_22 : decode cX3_append 22 = .ok (.getfield 29, 3) := by decide +kernel
theorem dX3_append_25 : decode cX3_append 25 = .ok (.invokevirtual 125, 3) := by decide +kernel
theorem dX3_append_28 : decode cX3_append 28 = .ok (.ifCond .eq 13, 3) := by decide +kernel
theorem dX3_append_31 : decode cX3_append 31 = .ok (.new 78, 3) := by decide +kernel
theorem dX3_append_34 : decode cX3_append 34 = .ok (.dup, 1) := by decide +kernel
theorem dX3_append_35 : decode cX3_append 35 = .ok (.ldc 129, 2) := by decide +kernel
theorem dX3_append_37 : decode cX3_append 37 = .ok (.invokespecial 82, 3) := by decide +kernel
theorem dX3_append_40 : decode cX3_append 40 = .ok (.athrow, 1) := by decide +kernel
theorem dX3_append_41 : decode cX3_append 41 = .ok (.aload_n 0, 1) := by decide +kernel
theorem dX3_append_42 : decode cX3_append 42 = .ok (.getfield 29, 3) := by decide +kernel
theorem dX3_append_45 : decode cX3_append 45 = .ok (.iload_n 1, 1) := by decide +kernel
theorem dX3_append_46 : decode cX3_append 46 = .ok (.invokevirtual 131, 3) := by decide +kernel
theorem dX3_append_49 : decode cX3_append 49 = .ok (.aload_n 0, 1) := by decide +kernel
theorem dX3_append_50 : decode cX3_append 50 = .ok (.getfield 29, 3) := by decide +kernel
theorem dX3_append_53 : decode cX3_append 53 = .ok (.invokevirtual 135, 3) := by decide +kernel
theorem dX3_append_56 : decode cX3_append 56 = .ok (.ireturn, 1) := by decide +kernel
set_option maxRecDepth 20000 in
theorem ggX3_clearBuffer_X0_length : GoodIn wsX3_clearBuffer wsX0_length := goodIn_r _ [6, 7, 16, 17] (by decide +kernel) (by decide +kernel)
set_option maxRecDepth 20000 in
theorem gX3_clearBuffer_X0_length : GoodIn wsX3_clearBuffer (wsV RX3 135 RX0 yX0_length wsX0_length) := goodIn_app (goodIn_of _ (by decide +kernel)) ggX3_clearBuffer_X0_length
set_option maxRecDepth 20000 in
theorem ggX3_clearBuffer_X0_empty : GoodIn wsX3_clearBuffer wsX0_empty := goodIn_r _ [11, 7, 16, 17] (by decide +kernel) (by decide +kernel)
set_option maxRecDepth 20000 in
theorem gX3_clearBuffer_X0_empty : GoodIn wsX3_clearBuffer (wsV RX3 138 RX0 yX0_empty wsX0_empty) := goodIn_app (goodIn_of _ (by decide +kernel)) ggX3_clearBuffer_X0_empty
theorem dX3_clearBuffer_0 : decode cX3_clearBuffer 0 = .ok (.aload_n 0, 1) := by decide +kernel
theorem dX3_clearBuffer_1 : decode cX3_clearBuffer 1 = .ok (.getfield 29, 3) := by decide +kernel
theorem dX3_clearBuffer_4 : decode cX3_clearBuffer 4 = .ok (.invokevirtual 135, 3) := by decide +kernel
theorem dX3_clearBuffer_7 : decode cX3_clearBuffer 7 = .ok (.istore_n 1, 1) := by decide +kernel
theorem dX3_clearBuffer_8 : decode cX3_clearBuffer 8 = .ok (.aload_n 0, 1) := by decide +kernel
theorem dX3_clearBuffer_9 : decode cX3_clearBuffer 9 = .ok (.getfield 29, 3) := by decide +kernel
theorem dX3_clearBuffer_12 : decode cX3_clearBuffer 12 = .ok (.invokevirtual 138, 3) := by decide +kernel
theorem dX3_clearBuffer_15 : decode cX3_clearBuffer 15 = .ok (.iload_n 1, 1) := by decide +kernel
theorem dX3_clearBuffer_16 : decode cX3_clearBuffer 16 = .ok (.ireturn, 1) := by decide +kernel
set_option maxRecDepth 20000 in
theorem ggX3_firstError_X0_firstWrong : GoodIn wsX3_firstError wsX0_firstWrong := goodIn_r _ [6, 7, 8, 9, 10, 5, 11, 12, 13, 14, 15, 16, 17, 18, 19, 20, 21, 22, 23, 24, 25, 26, 31, 32] (by decide +kernel) (by decide +kernel)
set_option maxRecDepth 20000 in
theorem gX3_firstError_X0_firstWrong : GoodIn wsX3_firstError (wsV RX3 141 RX0 yX0_firstWrong wsX0_firstWrong) := goodIn_app (goodIn_of _ (by decide +kernel)) ggX3_firstError_X0_firstWrong
theorem dX3_firstError_0 : decode cX3_firstError 0 = .ok (.aload_n 0, 1) := by decide +kernel
theorem dX3_firstError_1 : decode cX3_firstError 1 = .ok (.getfield 29, 3) := by decide +kernel
theorem dX3_firstError_4 : decode cX3_firstError 4 = .ok (.invokevirtual 141, 3) := by decide +kernel
theorem dX3_firstError_7 : decode cX3_firstError 7 = .ok (.ireturn, 1) := by decide +kernel
set_option maxRecDepth 20000 in
theorem ggX3_play_X0_isComplete : GoodIn wsX3_play wsX0_isComplete := goodIn_r _ [10, 11, 12, 13, 14, 9, 15, 16, 17, 18, 19, 20, 21, 22, 23, 24, 25, 26, 27, 28, 29, 30, 140, 141] (by decide +kernel) (by decide +kernel)
set_option maxRecDepth 20000 in
theorem gX3_play_X0_isComplete : GoodIn wsX3_play (wsV RX3 144 RX0 yX0_isComplete wsX0_isComplete) := goodIn_app (goodIn_of _ (by decide +kernel)) ggX3_play_X0_isComplete
set_option maxRecDepth 20000 in
theorem ggX3_play_X2_keep : GoodIn wsX3_play wsX2_keep := goodIn_r _ [35, 36, 37, 38, 39, 40, 41, 42, 43, 44, 45, 46, 47, 48, 49, 50, 51, 52, 53, 54, 55, 56, 57, 58, 59, 60, 61, 62, 63, 64, 65, 66, 67, 68, 69, 70, 71, 72, 142, 143, 144, 145, 146, 147, 148, 149, 150, 151, 152, 153, 154, 155, 156, 157, 158, 159, 160] (by decide +kernel) (by decide +kernel)
set_option maxRecDepth 20000 in
theorem gX3_play_X2_keep : GoodIn wsX3_play (wsV RX3 56 RX2 yX2_keep wsX2_keep) := goodIn_app (goodIn_of _ (by decide +kernel)) ggX3_play_X2_keep
set_option maxRecDepth 20000 in
theorem ggX3_play_X1_spiltLitres : GoodIn wsX3_play wsX1_spiltLitres := goodIn_r _ [76, 58, 77, 78, 41, 79, 145, 146, 147, 148, 149, 150, 151, 152, 153, 154, 155, 156, 157, 158, 159, 160] (by decide +kernel) (by decide +kernel)
set_option maxRecDepth 20000 in
theorem gX3_play_X1_spiltLitres : GoodIn wsX3_play (wsV RX3 107 RX1 yX1_spiltLitres wsX1_spiltLitres) := goodIn_app (goodIn_of _ (by decide +kernel)) ggX3_play_X1_spiltLitres
set_option maxRecDepth 20000 in
theorem ggX3_play_X0_playOn : GoodIn wsX3_play wsX0_playOn := goodIn_r _ [83, 11, 12, 84, 85, 9, 86, 87, 88, 89, 41, 90, 55, 60, 91, 92, 93, 94, 70, 95, 96, 97, 98, 23, 99, 100, 101, 102, 103, 104, 105, 106, 107, 108, 109, 110, 111, 69, 112, 113, 114, 115, 49, 71, 52, 50, 51, 57, 116, 117, 118, 119, 59, 72, 120, 121, 122, 123, 54, 124, 125, 126, 127, 56, 58, 128, 129, 130, 131, 53, 22, 24, 140, 141, 145, 146, 147, 148, 149, 150, 151, 152, 153, 154, 155, 156, 157, 158, 159, 160] (by decide +kernel) (by decide +kernel)
set_option maxRecDepth 20000 in
theorem gX3_play_X0_playOn : GoodIn wsX3_play (wsV RX3 149 RX0 yX0_playOn wsX0_playOn) := goodIn_app (goodIn_of _ (by decide +kernel)) ggX3_play_X0_playOn
set_option maxRecDepth 20000 in
theorem ggX3_play_X0_empty : GoodIn wsX3_play wsX0_empty := goodIn_r _ [135, 11, 140, 141] (by decide +kernel) (by decide +kernel)
set_option maxRecDepth 20000 in
theorem gX3_play_X0_empty : GoodIn wsX3_play (wsV RX3 138 RX0 yX0_empty wsX0_empty) := goodIn_app (goodIn_of _ (by decide +kernel)) ggX3_play_X0_empty
theorem dX3_play_0 : decode cX3_play 0 = .ok (.aload_n 0, 1) := by decide +kernel
theorem dX3_play_1 : decode cX3_play 1 = .ok (.getfield 29, 3) := by decide +kernel
theorem dX3_play_4 : decode cX3_play 4 = .ok (.invokevirtual 144, 3) := by decide +kernel
theorem dX3_play_7 : decode cX3_play 7 = .ok (.ifCond .ne 13, 3) := by decide +kernel
theorem dX3_play_10 : decode cX3_play 10 = .ok (.new 51, 3) := by decide +kernel
theorem dX3_play_13 : decode cX3_play 13 = .ok (.dup, 1) := by decide +kernel
theorem dX3_play_14 : decode cX3_play 14 = .ok (.ldc 147, 2) := by decide +kernel
theorem dX3_play_16 : decode cX3_play 16 = .ok (.invokespecial 55, 3) := by decide +kernel
theorem dX3_play_19 : decode cX3_play 19 = .ok (.athrow, 1) := by decide +kernel
theorem dX3_play_20 : decode cX3_play 20 = .ok (.aload_n 0, 1) := by decide +kernel
theorem dX3_play_21 : decode cX3_play 21 = .ok (.getfield 22, 3) := by decide +kernel
theorem dX3_play_24 : decode cX3_play 24 = .ok (.aload_n 0, 1) := by decide +kernel
theorem dX3_play_25 : decode cX3_play 25 = .ok (.getfield 10, 3) := by decide +kernel
theorem dX3_play_28 : decode cX3_play 28 = .ok (.invokevirtual 56, 3) := by decide +kernel
theorem dX3_play_31 : decode cX3_play 31 = .ok (.aload_n 0, 1) := by decide +kernel
theorem dX3_play_32 : decode cX3_play 32 = .ok (.getfield 10, 3) := by decide +kernel
theorem dX3_play_35 : decode cX3_play 35 = .ok (.invokevirtual 107, 3) := by decide +kernel
theorem dX3_play_38 : decode cX3_play 38 = .ok (.istore_n 1, 1) := by decide +kernel
theorem dX3_play_39 : decode cX3_play 39 = .ok (.aload_n 0, 1) := by decide +kernel
theorem dX3_play_40 : decode cX3_play 40 = .ok (.getfield 29, 3) := by decide +kernel
theorem dX3_play_43 : decode cX3_play 43 = .ok (.aload_n 0, 1) := by decide +kernel
theorem dX3_play_44 : decode cX3_play 44 = .ok (.getfield 10, 3) := by decide +kernel
theorem dX3_play_47 : decode cX3_play 47 = .ok (.invokevirtual 149, 3) := by decide +kernel
theorem dX3_play_50 : decode cX3_play 50 = .ok (.aload_n 0, 1) := by decide +kernel
theorem dX3_play_51 : decode cX3_play 51 = .ok (.getfield 29, 3) := by decide +kernel
theorem dX3_play_54 : decode cX3_play 54 = .ok (.invokevirtual 138, 3) := by decide +kernel
theorem dX3_play_57 : decode cX3_play 57 = .ok (.aload_n 0, 1) := by decide +kernel
theorem dX3_play_58 : decode cX3_play 58 = .ok (.getfield 10, 3) := by decide +kernel
theorem dX3_play_61 : decode cX3_play 61 = .ok (.invokevirtual 107, 3) := by decide +kernel
theorem dX3_play_64 : decode cX3_play 64 = .ok (.iload_n 1, 1) := by decide +kernel
theorem dX3_play_65 : decode cX3_play 65 = .ok (.isub, 1) := by decide +kernel
theorem dX3_play_66 : decode cX3_play 66 = .ok (.ireturn, 1) := by decide +kernel
set_option maxRecDepth 20000 in
theorem ggX3_undo_X2_dropLatest : GoodIn wsX3_undo wsX2_dropLatest := goodIn_r _ [9, 10, 11, 12, 46, 47, 48] (by decide +kernel) (by decide +kernel)
set_option maxRecDepth 20000 in
theorem gX3_undo_X2_dropLatest : GoodIn wsX3_undo (wsV RX3 152 RX2 yX2_dropLatest wsX2_dropLatest) := goodIn_app (goodIn_of _ (by decide +kernel)) ggX3_undo_X2_dropLatest
set_option maxRecDepth 20000 in
theorem ggX3_undo_X1_copyFrom : GoodIn wsX3_undo wsX1_copyFrom := goodIn_r _ [17, 18, 19, 20, 21, 22, 23, 24, 25, 26, 27, 28, 29, 30, 31, 32, 33, 34, 35, 36, 37, 49, 50, 51, 52, 53, 54, 55, 56, 57, 58, 59, 60, 61, 62, 63, 64] (by decide +kernel) (by decide +kernel)
set_option maxRecDepth 20000 in
theorem gX3_undo_X1_copyFrom : GoodIn wsX3_undo (wsV RX3 158 RX1 yX1_copyFrom wsX1_copyFrom) := goodIn_app (goodIn_of _ (by decide +kernel)) ggX3_undo_X1_copyFrom
set_option maxRecDepth 20000 in
theorem ggX3_undo_X2_held : GoodIn wsX3_undo wsX2_held := goodIn_r _ [41, 10, 46, 47, 48] (by decide +kernel) (by decide +kernel)
set_option maxRecDepth 20000 in
theorem gX3_undo_X2_held : GoodIn wsX3_undo (wsV RX3 161 RX2 yX2_held wsX2_held) := goodIn_app (goodIn_of _ (by decide +kernel)) ggX3_undo_X2_held
theorem dX3_undo_0 : decode cX3_undo 0 = .ok (.aload_n 0, 1) := by decide +kernel
theorem dX3_undo_1 : decode cX3_undo 1 = .ok (.getfield 22, 3) := by decide +kernel
theorem dX3_undo_4 : decode cX3_undo 4 = .ok (.invokevirtual 152, 3) := by decide +kernel
theorem dX3_undo_7 : decode cX3_undo 7 = .ok (.astore_n 1, 1) := by decide +kernel
theorem dX3_undo_8 : decode cX3_undo 8 = .ok (.aload_n 1, 1) := by decide +kernel
theorem dX3_undo_9 : decode cX3_undo 9 = .ok (.ifnonnull 13, 3) := by decide +kernel
theorem dX3_undo_12 : decode cX3_undo 12 = .ok (.new 78, 3) := by decide +kernel
theorem dX3_undo_15 : decode cX3_undo 15 = .ok (.dup, 1) := by decide +kernel
theorem dX3_undo_16 : decode cX3_undo 16 = .ok (.ldc 156, 2) := by decide +kernel
theorem dX3_undo_18 : decode cX3_undo 18 = .ok (.invokespecial 82, 3) := by decide +kernel
theorem dX3_undo_21 : decode cX3_undo 21 = .ok (.athrow, 1) := by decide +kernel
theorem dX3_undo_22 : decode cX3_undo 22 = .ok (.aload_n 0, 1) := by decide +kernel
theorem dX3_undo_23 : decode cX3_undo 23 = .ok (.getfield 10, 3) := by decide +kernel
theorem dX3_undo_26 : decode cX3_undo 26 = .ok (.aload_n 1, 1) := by decide +kernel
theorem dX3_undo_27 : decode cX3_undo 27 = .ok (.invokevirtual 158, 3) := by decide +kernel
theorem dX3_undo_30 : decode cX3_undo 30 = .ok (.aload_n 0, 1) := by decide +kernel
theorem dX3_undo_31 : decode cX3_undo 31 = .ok (.getfield 22, 3) := by decide +kernel
theorem dX3_undo_34 : decode cX3_undo 34 = .ok (.invokevirtual 161, 3) := by decide +kernel
theorem dX3_undo_37 : decode cX3_undo 37 = .ok (.ireturn, 1) := by decide +kernel
set_option maxRecDepth 20000 in
theorem ggX3_planeOf_X3_isPlane : GoodIn wsX3_planeOf wsX3_isPlane := goodIn_r _ [9] (by decide +kernel) (by decide +kernel)
set_option maxRecDepth 20000 in
theorem gX3_planeOf_X3_isPlane : GoodIn wsX3_planeOf (va_wsS RX3 33 yX3_isPlane wsX3_isPlane) := goodIn_app (goodIn_of _ (by decide +kernel)) ggX3_planeOf_X3_isPlane
set_option maxRecDepth 20000 in
theorem ggX3_planeOf_X3_isWithin : GoodIn wsX3_planeOf wsX3_isWithin := goodIn_r _ [12] (by decide +kernel) (by decide +kernel)
set_option maxRecDepth 20000 in
theorem gX3_planeOf_X3_isWithin : GoodIn wsX3_planeOf (va_wsS RX3 47 yX3_isWithin wsX3_isWithin) := goodIn_app (goodIn_of _ (by decide +kernel)) ggX3_planeOf_X3_isWithin
set_option maxRecDepth 20000 in
theorem ggX3_planeOf_X1_planeNumber : GoodIn wsX3_planeOf wsX1_planeNumber := goodIn_r _ [17, 18, 19, 20, 21, 26, 27, 28, 29, 30, 31, 32, 33, 34, 35, 36, 37, 38, 39, 40, 41] (by decide +kernel) (by decide +kernel)
set_option maxRecDepth 20000 in
theorem gX3_planeOf_X1_planeNumber : GoodIn wsX3_planeOf (wsV RX3 168 RX1 yX1_planeNumber wsX1_planeNumber) := goodIn_app (goodIn_of _ (by decide +kernel)) ggX3_planeOf_X1_planeNumber
theorem dX3_planeOf_0 : decode cX3_planeOf 0 = .ok (.iload_n 1, 1) := by decide +kernel
theorem dX3_planeOf_1 : decode cX3_planeOf 1 = .ok (.invokestatic 33, 3) := by decide +kernel
theorem dX3_planeOf_4 : decode cX3_planeOf 4 = .ok (.ifCond .ne 13, 3) := by decide +kernel
theorem dX3_planeOf_7 : decode cX3_planeOf 7 = .ok (.new 40, 3) := by decide +kernel
theorem dX3_planeOf_10 : decode cX3_planeOf 10 = .ok (.dup, 1) := by decide +kernel
theorem dX3_planeOf_11 : decode cX3_planeOf 11 = .ok (.ldc 164, 2) := by decide +kernel
theorem dX3_planeOf_13 : decode cX3_planeOf 13 = .ok (.invokespecial 44, 3) := by decide +kernel
theorem dX3_planeOf_16 : decode cX3_planeOf 16 = .ok (.athrow, 1) := by decide +kernel
theorem dX3_planeOf_17 : decode cX3_planeOf 17 = .ok (.iload_n 2, 1) := by decide +kernel
theorem dX3_planeOf_18 : decode cX3_planeOf 18 = .ok (.iconst 0, 1) := by decide +kernel
theorem dX3_planeOf_19 : decode cX3_planeOf 19 = .ok (.iconst 3, 1) := by decide +kernel
theorem dX3_planeOf_20 : decode cX3_planeOf 20 = .ok (.invokestatic 47, 3) := by decide +kernel
theorem dX3_planeOf_23 : decode cX3_planeOf 23 = .ok (.ifCond .ne 13, 3) := by decide +kernel
theorem dX3_planeOf_26 : decode cX3_planeOf 26 = .ok (.new 51, 3) := by decide +kernel
theorem dX3_planeOf_29 : decode cX3_planeOf 29 = .ok (.dup, 1) := by decide +kernel
theorem dX3_planeOf_30 : decode cX3_planeOf 30 = .ok (.ldc 166, 2) := by decide +kernel
theorem dX3_planeOf_32 : decode cX3_planeOf 32 = .ok (.invokespecial 55, 3) := by decide +kernel
theorem dX3_planeOf_35 : decode cX3_planeOf 35 = .ok (.athrow, 1) := by decide +kernel
theorem dX3_planeOf_36 : decode cX3_planeOf 36 = .ok (.aload_n 0, 1) := by decide +kernel
theorem dX3_planeOf_37 : decode cX3_planeOf 37 = .ok (.getfield 10, 3) := by decide +kernel
theorem dX3_planeOf_40 : decode cX3_planeOf 40 = .ok (.iload_n 1, 1) := by decide +kernel
theorem dX3_planeOf_41 : decode cX3_planeOf 41 = .ok (.iload_n 2, 1) := by decide +kernel
theorem dX3_planeOf_42 : decode cX3_planeOf 42 = .ok (.invokevirtual 168, 3) := by decide +kernel
theorem dX3_planeOf_45 : decode cX3_planeOf 45 = .ok (.ireturn, 1) := by decide +kernel
set_option maxRecDepth 20000 in
theorem ggX3_gutterOf_X3_isGutter : GoodIn wsX3_gutterOf wsX3_isGutter := goodIn_r _ [9] (by decide +kernel) (by decide +kernel)
set_option maxRecDepth 20000 in
theorem gX3_gutterOf_X3_isGutter : GoodIn wsX3_gutterOf (va_wsS RX3 37 yX3_isGutter wsX3_isGutter) := goodIn_app (goodIn_of _ (by decide +kernel)) ggX3_gutterOf_X3_isGutter
set_option maxRecDepth 20000 in
theorem ggX3_gutterOf_X3_isWithin : GoodIn wsX3_gutterOf wsX3_isWithin := goodIn_r _ [12] (by decide +kernel) (by decide +kernel)
set_option maxRecDepth 20000 in
theorem gX3_gutterOf_X3_isWithin : GoodIn wsX3_gutterOf (va_wsS RX3 47 yX3_isWithin wsX3_isWithin) := goodIn_app (goodIn_of _ (by decide +kernel)) ggX3_gutterOf_X3_isWithin
set_option maxRecDepth 20000 in
theorem ggX3_gutterOf_X1_gutterNumber : GoodIn wsX3_gutterOf wsX1_gutterNumber := goodIn_r _ [17, 18, 19, 20, 21, 22, 23, 24, 25, 26, 27, 16, 28, 29, 30, 31, 32, 37, 38, 39, 40, 41, 42, 43, 44, 45, 46, 47, 48, 49, 50, 51, 52] (by decide +kernel) (by decide +kernel)
set_option maxRecDepth 20000 in
theorem gX3_gutterOf_X1_gutterNumber : GoodIn wsX3_gutterOf (wsV RX3 173 RX1 yX1_gutterNumber wsX1_gutterNumber) := goodIn_app (goodIn_of _ (by decide +kernel)) ggX3_gutterOf_X1_gutterNumber
theorem dX3_gutterOf_0 : decode cX3_gutterOf 0 = .ok (.iload_n 1, 1) := by decide +kernel
theorem dX3_gutterOf_1 : decode cX3_gutterOf 1 = .ok (.invokestatic 37, 3) := by decide +kernel
theorem dX3_gutterOf_4 : decode cX3_gutterOf 4 = .ok (.ifCond .ne 13, 3) := by decide +kernel
theorem dX3_gutterOf_7 : decode cX3_gutterOf 7 = .ok (.new 40, 3) := by decide +kernel
theorem dX3_gutterOf_10 : decode cX3_gutterOf 10 = .ok (.dup, 1) := by decide +kernel
theorem dX3_gutterOf_11 : decode cX3_gutterOf 11 = .ok (.ldc 64, 2) := by decide +kernel
theorem dX3_gutterOf_13 : decode cX3_gutterOf 13 = .ok (.invokespecial 44, 3) := by decide +kernel
theorem dX3_gutterOf_16 : decode cX3_gutterOf 16 = .ok (.athrow, 1) := by decide +kernel
theorem dX3_gutterOf_17 : decode cX3_gutterOf 17 = .ok (.iload_n 2, 1) := by decide +kernel
theorem dX3_gutterOf_18 : decode cX3_gutterOf 18 = .ok (.iconst 0, 1) := by decide +kernel
theorem dX3_gutterOf_19 : decode cX3_gutterOf 19 = .ok (.bipush 8, 2) := by decide +kernel
theorem dX3_gutterOf_21 : decode cX3_gutterOf 21 = .ok (.invokestatic 47, 3) := by decide +kernel
theorem dX3_gutterOf_24 : decode cX3_gutterOf 24 = .ok (.ifCond .ne 13, 3) := by decide +kernel
theorem dX3_gutterOf_27 : decode cX3_gutterOf 27 = .ok (.new 51, 3) := by decide +kernel
theorem dX3_gutterOf_30 : decode cX3_gutterOf 30 = .ok (.dup, 1) := by decide +kernel
theorem dX3_gutterOf_31 : decode cX3_gutterOf 31 = .ok (.ldc 171, 2) := by decide +kernel
theorem dX3_gutterOf_33 : decode cX3_gutterOf 33 = .ok (.invokespecial 55, 3) := by decide +kernel
theorem dX3_gutterOf_36 : decode cX3_gutterOf 36 = .ok (.athrow, 1) := by decide +kernel
theorem dX3_gutterOf_37 : decode cX3_gutterOf 37 = .ok (.aload_n 0, 1) := by decide +kernel
theorem dX3_gutterOf_38 : decode cX3_gutterOf 38 = .ok (.getfield 10, 3) := by decide +kernel
theorem dX3_gutterOf_41 : decode cX3_gutterOf 41 = .ok (.iload_n 1, 1) := by decide +kernel
theorem dX3_gutterOf_42 : decode cX3_gutterOf 42 = .ok (.iload_n 2, 1) := by decide +kernel
theorem dX3_gutterOf_43 : decode cX3_gutterOf 43 = .ok (.invokevirtual 173, 3) := by decide +kernel
theorem dX3_gutterOf_46 : decode cX3_gutterOf 46 = .ok (.ireturn, 1) := by decide +kernel
set_option maxRecDepth 20000 in
theorem ggX3_count_X1_minutesGone : GoodIn wsX3_count wsX1_minutesGone := goodIn_r _ [9, 10, 60, 61, 62, 63, 64, 65, 66, 67, 68, 69, 70, 71, 72, 73, 74, 75] (by decide +kernel) (by decide +kernel)
set_option maxRecDepth 20000 in
theorem gX3_count_X1_minutesGone : GoodIn wsX3_count (wsV RX3 176 RX1 yX1_minutesGone wsX1_minutesGone) := goodIn_app (goodIn_of _ (by decide +kernel)) ggX3_count_X1_minutesGone
set_option maxRecDepth 20000 in
theorem ggX3_count_X1_weeksPassed : GoodIn wsX3_count wsX1_weeksPassed := goodIn_r _ [14, 15, 60, 61, 62, 63, 64, 65, 66, 67, 68, 69, 70, 71, 72, 73, 74, 75] (by decide +kernel) (by decide +kernel)
set_option maxRecDepth 20000 in
theorem gX3_count_X1_weeksPassed : GoodIn wsX3_count (wsV RX3 179 RX1 yX1_weeksPassed wsX1_weeksPassed) := goodIn_app (goodIn_of _ (by decide +kernel)) ggX3_count_X1_weeksPassed
set_option maxRecDepth 20000 in
theorem ggX3_count_X1_rainedLitres : GoodIn wsX3_count wsX1_rainedLitres := goodIn_r _ [19, 20, 60, 61, 62, 63, 64, 65, 66, 67, 68, 69, 70, 71, 72, 73, 74, 75] (by decide +kernel) (by decide +kernel)
set_option maxRecDepth 20000 in
theorem gX3_count_X1_rainedLitres : GoodIn wsX3_count (wsV RX3 182 RX1 yX1_rainedLitres wsX1_rainedLitres) := goodIn_app (goodIn_of _ (by decide +kernel)) ggX3_count_X1_rainedLitres
set_option maxRecDepth 20000 in
theorem ggX3_count_X1_standingLitres : GoodIn wsX3_count wsX1_standingLitres := goodIn_r _ [24, 25, 26, 27, 28, 8, 29, 60, 61, 62, 63, 64, 65, 66, 67, 68, 69, 70, 71, 72, 73, 74, 75] (by decide +kernel) (by decide +kernel)
set_option maxRecDepth 20000 in
theorem gX3_count_X1_standingLitres : GoodIn wsX3_count (wsV RX3 185 RX1 yX1_standingLitres wsX1_standingLitres) := goodIn_app (goodIn_of _ (by decide +kernel)) ggX3_count_X1_standingLitres
set_option maxRecDepth 20000 in
theorem ggX3_count_X1_drainedLitres : GoodIn wsX3_count wsX1_drainedLitres := goodIn_r _ [33, 34, 27, 28, 8, 29, 60, 61, 62, 63, 64, 65, 66, 67, 68, 69, 70, 71, 72, 73, 74, 75] (by decide +kernel) (by decide +kernel)
set_option maxRecDepth 20000 in
theorem gX3_count_X1_drainedLitres : GoodIn wsX3_count (wsV RX3 188 RX1 yX1_drainedLitres wsX1_drainedLitres) := goodIn_app (goodIn_of _ (by decide +kernel)) ggX3_count_X1_drainedLitres
set_option maxRecDepth 20000 in
theorem ggX3_count_X1_spiltLitres : GoodIn wsX3_count wsX1_spiltLitres := goodIn_r _ [38, 39, 27, 28, 8, 29, 60, 61, 62, 63, 64, 65, 66, 67, 68, 69, 70, 71, 72, 73, 74, 75] (by decide +kernel) (by decide +kernel)
set_option maxRecDepth 20000 in
theorem gX3_count_X1_spiltLitres : GoodIn wsX3_count (wsV RX3 107 RX1 yX1_spiltLitres wsX1_spiltLitres) := goodIn_app (goodIn_of _ (by decide +kernel)) ggX3_count_X1_spiltLitres
set_option maxRecDepth 20000 in
theorem ggX3_count_X1_backedUpMinutes : GoodIn wsX3_count wsX1_backedUpMinutes := goodIn_r _ [43, 44, 60, 61, 62, 63, 64, 65, 66, 67, 68, 69, 70, 71, 72, 73, 74, 75] (by decide +kernel) (by decide +kernel)
set_option maxRecDepth 20000 in
theorem gX3_count_X1_backedUpMinutes : GoodIn wsX3_count (wsV RX3 191 RX1 yX1_backedUpMinutes wsX1_backedUpMinutes) := goodIn_app (goodIn_of _ (by decide +kernel)) ggX3_count_X1_backedUpMinutes
set_option maxRecDepth 20000 in
theorem ggX3_count_X1_leavesTogether : GoodIn wsX3_count wsX1_leavesTogether := goodIn_r _ [48, 49, 27, 28, 8, 29, 60, 61, 62, 63, 64, 65, 66, 67, 68, 69, 70, 71, 72, 73, 74, 75] (by decide +kernel) (by decide +kernel)
set_option maxRecDepth 20000 in
theorem gX3_count_X1_leavesTogether : GoodIn wsX3_count (wsV RX3 120 RX1 yX1_leavesTogether wsX1_leavesTogether) := goodIn_app (goodIn_of _ (by decide +kernel)) ggX3_count_X1_leavesTogether
set_option maxRecDepth 20000 in
theorem ggX3_count_X2_held : GoodIn wsX3_count wsX2_held := goodIn_r _ [54, 55, 76, 77, 78] (by decide +kernel) (by decide +kernel)
set_option maxRecDepth 20000 in
theorem gX3_count_X2_held : GoodIn wsX3_count (wsV RX3 161 RX2 yX2_held wsX2_held) := goodIn_app (goodIn_of _ (by decide +kernel)) ggX3_count_X2_held
theorem dX3_count_0 : decode cX3_count 0 = .ok (.iload_n 1, 1) := by decide +kernel
theorem dX3_count_1 : decode cX3_count 1 = .ok (.tableswitch 123 0 8 #[51, 59, 67, 75, 83, 91, 99, 107, 115], 51) := by decide +kernel
theorem dX3_count_52 : decode cX3_count 52 = .ok (.aload_n 0, 1) := by decide +kernel
theorem dX3_count_53 : decode cX3_count 53 = .ok (.getfield 10, 3) := by decide +kernel
theorem dX3_count_56 : decode cX3_count 56 = .ok (.invokevirtual 176, 3) := by decide +kernel
theorem dX3_count_59 : decode cX3_count 59 = .ok (.ireturn, 1) := by decide +kernel
theorem dX3_count_60 : decode cX3_count 60 = .ok (.aload_n 0, 1) := by decide +kernel
theorem dX3_count_61 : decode cX3_count 61 = .ok (.getfield 10, 3) := by decide +kernel
theorem dX3_count_64 : decode cX3_count 64 = .ok (.invokevirtual 179, 3) := by decide +kernel
theorem dX3_count_67 : decode cX3_count 67 = .ok (.ireturn, 1) := by decide +kernel
theorem dX3_count_68 : decode cX3_count 68 = .ok (.aload_n 0, 1) := by decide +kernel
theorem dX3_count_69 : decode cX3_count 69 = .ok (.getfield 10, 3) := by decide +kernel
theorem dX3_count_72 : decode cX3_count 72 = .ok (.invokevirtual 182, 3) := by decide +kernel
theorem dX3_count_75 : decode cX3_count 75 = .ok (.ireturn, 1) := by decide +kernel
theorem dX3_count_76 : decode cX3_count 76 = .ok (.aload_n 0, 1) := by decide +kernel
theorem dX3_count_77 : decode cX3_count 77 = .ok (.getfield 10, 3) := by decide +kernel
theorem dX3_count_80 : decode cX3_count 80 = .ok (.invokevirtual 185, 3) := by decide +kernel
theorem dX3_count_83 : decode cX3_count 83 = .ok (.ireturn, 1) := by decide +kernel
theorem dX3_count_84 : decode cX3_count 84 = .ok (.aload_n 0, 1) := by decide +kernel
theorem dX3_count_85 : decode cX3_count 85 = .ok (.getfield 10, 3) := by decide +kernel
theorem dX3_count_88 : decode cX3_count 88 = .ok (.invokevirtual 188, 3) := by decide +kernel
theorem dX3_count_91 : decode cX3_count 91 = .ok (.ireturn, 1) := by decide +kernel
theorem dX3_count_92 : decode cX3_count 92 = .ok (.aload_n 0, 1) := by decide +kernel
theorem dX3_count_93 : decode cX3_count 93 = .ok (.getfield 10, 3) := by decide +kernel
theorem dX3_count_96 : decode cX3_count 96 = .ok (.invokevirtual 107, 3) := by decide +kernel
theorem dX3_count_99 : decode cX3_count 99 = .ok (.ireturn, 1) := by decide +kernel
theorem dX3_count_100 : decode cX3_count 100 = .ok (.aload_n 0, 1) := by decide +kernel
theorem dX3_count_101 : decode cX3_count 101 = .ok (.getfield 10, 3) := by decide +kernel
theorem dX3_count_104 : decode cX3_count 104 = .ok (.invokevirtual 191, 3) := by decide +kernel
theorem dX3_count_107 : decode cX3_count 107 = .ok (.ireturn, 1) := by decide +kernel
theorem dX3_count_108 : decode cX3_count 108 = .ok (.aload_n 0, 1) := by decide +kernel
theorem dX3_count_109 : decode cX3_count 109 = .ok (.getfield 10, 3) := by decide +kernel
theorem dX3_count_112 : decode cX3_count 112 = .ok (.invokevirtual 120, 3) := by decide +kernel
theorem dX3_count_115 : decode cX3_count 115 = .ok (.ireturn, 1) := by decide +kernel
theorem dX3_count_116 : decode cX3_count 116 = .ok (.aload_n 0, 1) := by decide +kernel
theorem dX3_count_117 : decode cX3_count 117 = .ok (.getfield 22, 3) := by decide +kernel
theorem dX3_count_120 : decode cX3_count 120 = .ok (.invokevirtual 161, 3) := by decide +kernel
theorem dX3_count_123 : decode cX3_count 123 = .ok (.ireturn, 1) := by decide +kernel
theorem dX3_count_124 : decode cX3_count 124 = .ok (.new 51, 3) := by decide +kernel
theorem dX3_count_127 : decode cX3_count 127 = .ok (.dup, 1) := by decide +kernel
theorem dX3_count_128 : decode cX3_count 128 = .ok (.ldc 171, 2) := by decide +kernel
theorem dX3_count_130 : decode cX3_count 130 = .ok (.invokespecial 55, 3) := by decide +kernel
theorem dX3_count_133 : decode cX3_count 133 = .ok (.athrow, 1) := by decide +kernel
set_option maxRecDepth 20000 in
theorem ggX3_setting_X3_isSetting : GoodIn wsX3_setting wsX3_isSetting := goodIn_r _ [7] (by decide +kernel) (by decide +kernel)
set_option maxRecDepth 20000 in
theorem gX3_setting_X3_isSetting : GoodIn wsX3_setting (va_wsS RX3 91 yX3_isSetting wsX3_isSetting) := goodIn_app (goodIn_of _ (by decide +kernel)) ggX3_setting_X3_isSetting
set_option maxRecDepth 20000 in
theorem ggX3_setting_X1_settingValue : GoodIn wsX3_setting wsX1_settingValue := goodIn_r _ [12, 13, 18, 19, 20, 21, 22, 23, 24, 25, 26, 27, 28, 29, 30, 31, 32, 33] (by decide +kernel) (by decide +kernel)
set_option maxRecDepth 20000 in
theorem gX3_setting_X1_settingValue : GoodIn wsX3_setting (wsV RX3 194 RX1 yX1_settingValue wsX1_settingValue) := goodIn_app (goodIn_of _ (by decide +kernel)) ggX3_setting_X1_settingValue
theorem dX3_setting_0 : decode cX3_setting 0 = .ok (.iload_n 1, 1) := by decide +kernel
theorem dX3_setting_1 : decode cX3_setting 1 = .ok (.invokestatic 91, 3) := by decide +kernel
theorem dX3_setting_4 : decode cX3_setting 4 = .ok (.ifCond .ne 13, 3) := by decide +kernel
theorem dX3_setting_7 : decode cX3_setting 7 = .ok (.new 40, 3) := by decide +kernel
theorem dX3_setting_10 : decode cX3_setting 10 = .ok (.dup, 1) := by decide +kernel
theorem dX3_setting_11 : decode cX3_setting 11 = .ok (.ldc 94, 2) := by decide +kernel
theorem dX3_setting_13 : decode cX3_setting 13 = .ok (.invokespecial 44, 3) := by decide +kernel
theorem dX3_setting_16 : decode cX3_setting 16 = .ok (.athrow, 1) := by decide +kernel
theorem dX3_setting_17 : decode cX3_setting 17 = .ok (.aload_n 0, 1) := by decide +kernel
theorem dX3_setting_18 : decode cX3_setting 18 = .ok (.getfield 10, 3) := by decide +kernel
theorem dX3_setting_21 : decode cX3_setting 21 = .ok (.iload_n 1, 1) := by decide +kernel
theorem dX3_setting_22 : decode cX3_setting 22 = .ok (.invokevirtual 194, 3) := by decide +kernel
theorem dX3_setting_25 : decode cX3_setting 25 = .ok (.ireturn, 1) := by decide +kernel
set_option maxRecDepth 20000 in
theorem ggX3_ifRained_X3_isWithin : GoodIn wsX3_ifRained wsX3_isWithin := goodIn_r _ [8] (by decide +kernel) (by decide +kernel)
set_option maxRecDepth 20000 in
theorem gX3_ifRained_X3_isWithin : GoodIn wsX3_ifRained (va_wsS RX3 47 yX3_isWithin wsX3_isWithin) := goodIn_app (goodIn_of _ (by decide +kernel)) ggX3_ifRained_X3_isWithin
set_option maxRecDepth 20000 in
theorem ggX3_ifRained_X1_copyFrom : GoodIn wsX3_ifRained wsX1_copyFrom := goodIn_r _ [13, 14, 15, 16, 17, 18, 19, 20, 21, 22, 23, 24, 25, 26, 27, 28, 29, 30, 31, 32, 33, 91, 92, 93, 94, 95, 96, 97, 98, 99, 100, 101, 102, 103, 104, 105, 106] (by decide +kernel) (by decide +kernel)
set_option maxRecDepth 20000 in
theorem gX3_ifRained_X1_copyFrom : GoodIn wsX3_ifRained (wsV RX3 158 RX1 yX1_copyFrom wsX1_copyFrom) := goodIn_app (goodIn_of _ (by decide +kernel)) ggX3_ifRained_X1_copyFrom
set_option maxRecDepth 20000 in
theorem ggX3_ifRained_X1_settingValue : GoodIn wsX3_ifRained wsX1_settingValue := goodIn_r _ [37, 29, 91, 92, 93, 94, 95, 96, 97, 98, 99, 100, 101, 102, 103, 104, 105, 106] (by decide +kernel) (by decide +kernel)
set_option maxRecDepth 20000 in
theorem gX3_ifRained_X1_settingValue : GoodIn wsX3_ifRained (wsV RX3 194 RX1 yX1_settingValue wsX1_settingValue) := goodIn_app (goodIn_of _ (by decide +kernel)) ggX3_ifRained_X1_settingValue
set_option maxRecDepth 20000 in
theorem ggX3_ifRained_X1_passMinutes : GoodIn wsX3_ifRained wsX1_passMinutes := goodIn_r _ [41, 42, 43, 44, 12, 45, 30, 46, 47, 48, 49, 14, 32, 21, 19, 20, 26, 50, 7, 51, 52, 53, 54, 55, 29, 56, 57, 58, 59, 28, 33, 60, 61, 62, 63, 23, 24, 64, 65, 66, 67, 25, 27, 68, 69, 70, 71, 22, 91, 92, 93, 94, 95, 96, 97, 98, 99, 100, 101, 102, 103, 104, 105, 106] (by decide +kernel) (by decide +kernel)
set_option maxRecDepth 20000 in
theorem gX3_ifRained_X1_passMinutes : GoodIn wsX3_ifRained (wsV RX3 111 RX1 yX1_passMinutes wsX1_passMinutes) := goodIn_app (goodIn_of _ (by decide +kernel)) ggX3_ifRained_X1_passMinutes
set_option maxRecDepth 20000 in
theorem ggX3_ifRained_X1_spiltLitres : GoodIn wsX3_ifRained wsX1_spiltLitres := goodIn_r _ [75, 27, 76, 77, 12, 78, 91, 92, 93, 94, 95, 96, 97, 98, 99, 100, 101, 102, 103, 104, 105, 106] (by decide +kernel) (by decide +kernel)
set_option maxRecDepth 20000 in
theorem gX3_ifRained_X1_spiltLitres : GoodIn wsX3_ifRained (wsV RX3 107 RX1 yX1_spiltLitres wsX1_spiltLitres) := goodIn_app (goodIn_of _ (by decide +kernel)) ggX3_ifRained_X1_spiltLitres
set_option maxRecDepth 20000 in
theorem ggX3_ifRained_X1_drainedLitres : GoodIn wsX3_ifRained wsX1_drainedLitres := goodIn_r _ [82, 28, 76, 77, 12, 78, 91, 92, 93, 94, 95, 96, 97, 98, 99, 100, 101, 102, 103, 104, 105, 106] (by decide +kernel) (by decide +kernel)
set_option maxRecDepth 20000 in
theorem gX3_ifRained_X1_drainedLitres : GoodIn wsX3_ifRained (wsV RX3 188 RX1 yX1_drainedLitres wsX1_drainedLitres) := goodIn_app (goodIn_of _ (by decide +kernel)) ggX3_ifRained_X1_drainedLitres
set_option maxRecDepth 20000 in
theorem ggX3_ifRained_X1_standingLitres : GoodIn wsX3_ifRained wsX1_standingLitres := goodIn_r _ [86, 21, 26, 76, 77, 12, 78, 91, 92, 93, 94, 95, 96, 97, 98, 99, 100, 101, 102, 103, 104, 105, 106] (by decide +kernel) (by decide +kernel)
set_option maxRecDepth 20000 in
theorem gX3_ifRained_X1_standingLitres : GoodIn wsX3_ifRained (wsV RX3 185 RX1 yX1_standingLitres wsX1_standingLitres) := goodIn_app (goodIn_of _ (by decide +kernel)) ggX3_ifRained_X1_standingLitres
theorem dX3_ifRained_0 : decode cX3_ifRained 0 = .ok (.iload_n 1, 1) := by decide +kernel
theorem dX3_ifRained_1 : decode cX3_ifRained 1 = .ok (.iconst 1, 1) := by decide +kernel
theorem dX3_ifRained_2 : decode cX3_ifRained 2 = .ok (.bipush 60, 2) := by decide +kernel
theorem dX3_ifRained_4 : decode cX3_ifRained 4 = .ok (.invokestatic 47, 3) := by decide +kernel
theorem dX3_ifRained_7 : decode cX3_ifRained 7 = .ok (.ifCond .eq 12, 3) := by decide +kernel
theorem dX3_ifRained_10 : decode cX3_ifRained 10 = .ok (.iload_n 2, 1) := by decide +kernel
theorem dX3_ifRained_11 : decode cX3_ifRained 11 = .ok (.iconst 0, 1) := by decide +kernel
theorem dX3_ifRained_12 : decode cX3_ifRained 12 = .ok (.iconst 2, 1) := by decide +kernel
theorem dX3_ifRained_13 : decode cX3_ifRained 13 = .ok (.invokestatic 47, 3) := by decide +kernel
theorem dX3_ifRained_16 : decode cX3_ifRained 16 = .ok (.ifCond .ne 13, 3) := by decide +kernel
theorem dX3_ifRained_19 : decode cX3_ifRained 19 = .ok (.new 51, 3) := by decide +kernel
theorem dX3_ifRained_22 : decode cX3_ifRained 22 = .ok (.dup, 1) := by decide +kernel
theorem dX3_ifRained_23 : decode cX3_ifRained 23 = .ok (.ldc 197, 2) := by decide +kernel
theorem dX3_ifRained_25 : decode cX3_ifRained 25 = .ok (.invokespecial 55, 3) := by decide +kernel
theorem dX3_ifRained_28 : decode cX3_ifRained 28 = .ok (.athrow, 1) := by decide +kernel
theorem dX3_ifRained_29 : decode cX3_ifRained 29 = .ok (.aload_n 0, 1) := by decide +kernel
theorem dX3_ifRained_30 : decode cX3_ifRained 30 = .ok (.getfield 16, 3) := by decide +kernel
theorem dX3_ifRained_33 : decode cX3_ifRained 33 = .ok (.aload_n 0, 1) := by decide +kernel
theorem dX3_ifRained_34 : decode cX3_ifRained 34 = .ok (.getfield 10, 3) := by decide +kernel
theorem dX3_ifRained_37 : decode cX3_ifRained 37 = .ok (.invokevirtual 158, 3) := by decide +kernel
theorem dX3_ifRained_40 : decode cX3_ifRained 40 = .ok (.aload_n 0, 1) := by decide +kernel
theorem dX3_ifRained_41 : decode cX3_ifRained 41 = .ok (.getfield 16, 3) := by decide +kernel
theorem dX3_ifRained_44 : decode cX3_ifRained 44 = .ok (.aload_n 0, 1) := by decide +kernel
theorem dX3_ifRained_45 : decode cX3_ifRained 45 = .ok (.getfield 10, 3) := by decide +kernel
theorem dX3_ifRained_48 : decode cX3_ifRained 48 = .ok (.iconst 2, 1) := by decide +kernel
theorem dX3_ifRained_49 : decode cX3_ifRained 49 = .ok (.invokevirtual 194, 3) := by decide +kernel
theorem dX3_ifRained_52 : decode cX3_ifRained 52 = .ok (.iload_n 1, 1) := by decide +kernel
theorem dX3_ifRained_53 : decode cX3_ifRained 53 = .ok (.invokevirtual 111, 3) := by decide +kernel
theorem dX3_ifRained_56 : decode cX3_ifRained 56 = .ok (.iload_n 2, 1) := by decide +kernel
theorem dX3_ifRained_57 : decode cX3_ifRained 57 = .ok (.ifCond .ne 19, 3) := by decide +kernel
theorem dX3_ifRained_60 : decode cX3_ifRained 60 = .ok (.aload_n 0, 1) := by decide +kernel
theorem dX3_ifRained_61 : decode cX3_ifRained 61 = .ok (.getfield 16, 3) := by decide +kernel
theorem dX3_ifRained_64 : decode cX3_ifRained 64 = .ok (.invokevirtual 107, 3) := by decide +kernel
theorem dX3_ifRained_67 : decode cX3_ifRained 67 = .ok (.aload_n 0, 1) := by decide +kernel
theorem dX3_ifRained_68 : decode cX3_ifRained 68 = .ok (.getfield 10, 3) := by decide +kernel
theorem dX3_ifRained_71 : decode cX3_ifRained 71 = .ok (.invokevirtual 107, 3) := by decide +kernel
theorem dX3_ifRained_74 : decode cX3_ifRained 74 = .ok (.isub, 1) := by decide +kernel
theorem dX3_ifRained_75 : decode cX3_ifRained 75 = .ok (.ireturn, 1) := by decide +kernel
theorem dX3_ifRained_76 : decode cX3_ifRained 76 = .ok (.iload_n 2, 1) := by decide +kernel
theorem dX3_ifRained_77 : decode cX3_ifRained 77 = .ok (.iconst 1, 1) := by decide +kernel
theorem dX3_ifRained_78 : decode cX3_ifRained 78 = .ok (.if_icmp .ne 19, 3) := by decide +kernel
theorem dX3_ifRained_81 : decode cX3_ifRained 81 = .ok (.aload_n 0, 1) := by decide +kernel
theorem dX3_ifRained_82 : decode cX3_ifRained 82 = .ok (.getfield 16, 3) := by decide +kernel
theorem dX3_ifRained_85 : decode cX3_ifRained 85 = .ok (.invokevirtual 188, 3) := by decide +kernel
theorem dX3_ifRained_88 : decode cX3_ifRained 88 = .ok (.aload_n 0, 1) := by decide +kernel
theorem dX3_ifRained_89 : decode cX3_ifRained 89 = .ok (.getfield 10, 3) := by decide +kernel
theorem dX3_ifRained_92 : decode cX3_ifRained 92 = .ok (.invokevirtual 188, 3) := by decide +kernel
theorem dX3_ifRained_95 : decode cX3_ifRained 95 = .ok (.isub, 1) := by decide +kernel
theorem dX3_ifRained_96 : decode cX3_ifRained 96 = .ok (.ireturn, 1) := by decide +kernel
theorem dX3_ifRained_97 : decode cX3_ifRained 97 = .ok (.aload_n 0, 1) := by decide +kernel
theorem dX3_ifRained_98 : decode cX3_ifRained 98 = .ok (.getfield 16, 3) := by decide +kernel
theorem dX3_ifRained_101 : decode cX3_ifRained 101 = .ok (.invokevirtual 185, 3) := by decide +kernel
theorem dX3_ifRained_104 : decode cX3_ifRained 104 = .ok (.ireturn, 1) := by decide +kernel
set_option maxRecDepth 20000 in
theorem ggX3_spillsFirst_X3_isWithin : GoodIn wsX3_spillsFirst wsX3_isWithin := goodIn_r _ [8] (by decide +kernel) (by decide +kernel)
set_option maxRecDepth 20000 in
theorem gX3_spillsFirst_X3_isWithin : GoodIn wsX3_spillsFirst (va_wsS RX3 47 yX3_isWithin wsX3_isWithin) := goodIn_app (goodIn_of _ (by decide +kernel)) ggX3_spillsFirst_X3_isWithin
set_option maxRecDepth 20000 in
theorem ggX3_spillsFirst_X1_copyFrom : GoodIn wsX3_spillsFirst wsX1_copyFrom := goodIn_r _ [13, 14, 15, 16, 17, 18, 19, 20, 21, 22, 23, 24, 25, 26, 27, 28, 29, 30, 31, 32, 33, 76, 77, 78, 79, 80, 81, 82, 83, 84, 85, 86, 87, 88, 89, 90, 91] (by decide +kernel) (by decide +kernel)
set_option maxRecDepth 20000 in
theorem gX3_spillsFirst_X1_copyFrom : GoodIn wsX3_spillsFirst (wsV RX3 158 RX1 yX1_copyFrom wsX1_copyFrom) := goodIn_app (goodIn_of _ (by decide +kernel)) ggX3_spillsFirst_X1_copyFrom
set_option maxRecDepth 20000 in
theorem ggX3_spillsFirst_X1_settingValue : GoodIn wsX3_spillsFirst wsX1_settingValue := goodIn_r _ [37, 29, 76, 77, 78, 79, 80, 81, 82, 83, 84, 85, 86, 87, 88, 89, 90, 91] (by decide +kernel) (by decide +kernel)
set_option maxRecDepth 20000 in
theorem gX3_spillsFirst_X1_settingValue : GoodIn wsX3_spillsFirst (wsV RX3 194 RX1 yX1_settingValue wsX1_settingValue) := goodIn_app (goodIn_of _ (by decide +kernel)) ggX3_spillsFirst_X1_settingValue
set_option maxRecDepth 20000 in
theorem ggX3_spillsFirst_X1_passMinute : GoodIn wsX3_spillsFirst wsX1_passMinute := goodIn_r _ [41, 30, 42, 43, 44, 12, 45, 14, 32, 21, 19, 20, 26, 46, 7, 47, 48, 49, 50, 51, 29, 52, 53, 54, 55, 28, 33, 56, 57, 58, 59, 23, 24, 60, 61, 62, 63, 25, 27, 64, 65, 66, 67, 22, 76, 77, 78, 79, 80, 81, 82, 83, 84, 85, 86, 87, 88, 89, 90, 91] (by decide +kernel) (by decide +kernel)
set_option maxRecDepth 20000 in
theorem gX3_spillsFirst_X1_passMinute : GoodIn wsX3_spillsFirst (wsV RX3 201 RX1 yX1_passMinute wsX1_passMinute) := goodIn_app (goodIn_of _ (by decide +kernel)) ggX3_spillsFirst_X1_passMinute
set_option maxRecDepth 20000 in
theorem ggX3_spillsFirst_X1_lowestThatSpiltMoreThanIn : GoodIn wsX3_spillsFirst wsX1_lowestThatSpiltMoreThanIn := goodIn_r _ [71, 27, 76, 77, 78, 79, 80, 81, 82, 83, 84, 85, 86, 87, 88, 89, 90, 91] (by decide +kernel) (by decide +kernel)
set_option maxRecDepth 20000 in
theorem gX3_spillsFirst_X1_lowestThatSpiltMoreThanIn : GoodIn wsX3_spillsFirst (wsV RX3 204 RX1 yX1_lowestThatSpiltMoreThanIn wsX1_lowestThatSpiltMoreThanIn) := goodIn_app (goodIn_of _ (by decide +kernel)) ggX3_spillsFirst_X1_lowestThatSpiltMoreThanIn
theorem dX3_spillsFirst_0 : decode cX3_spillsFirst 0 = .ok (.iload_n 1, 1) := by decide +kernel
theorem dX3_spillsFirst_1 : decode cX3_spillsFirst 1 = .ok (.iconst 0, 1) := by decide +kernel
theorem dX3_spillsFirst_2 : decode cX3_spillsFirst 2 = .ok (.iconst 1, 1) := by decide +kernel
theorem dX3_spillsFirst_3 : decode cX3_spillsFirst 3 = .ok (.invokestatic 47, 3) := by decide +kernel
theorem dX3_spillsFirst_6 : decode cX3_spillsFirst 6 = .ok (.ifCond .ne 13, 3) := by decide +kernel
theorem dX3_spillsFirst_9 : decode cX3_spillsFirst 9 = .ok (.new 51, 3) := by decide +kernel
theorem dX3_spillsFirst_12 : decode cX3_spillsFirst 12 = .ok (.dup, 1) := by decide +kernel
theorem dX3_spillsFirst_13 : decode cX3_spillsFirst 13 = .ok (.ldc 199, 2) := by decide +kernel
theorem dX3_spillsFirst_15 : decode cX3_spillsFirst 15 = .ok (.invokespecial 55, 3) := by decide +kernel
theorem dX3_spillsFirst_18 : decode cX3_spillsFirst 18 = .ok (.athrow, 1) := by decide +kernel
theorem dX3_spillsFirst_19 : decode cX3_spillsFirst 19 = .ok (.aload_n 0, 1) := by decide +kernel
theorem dX3_spillsFirst_20 : decode cX3_spillsFirst 20 = .ok (.getfield 16, 3) := by decide +kernel
theorem dX3_spillsFirst_23 : decode cX3_spillsFirst 23 = .ok (.aload_n 0, 1) := by decide +kernel
theorem dX3_spillsFirst_24 : decode cX3_spillsFirst 24 = .ok (.getfield 10, 3) := by decide +kernel
theorem dX3_spillsFirst_27 : decode cX3_spillsFirst 27 = .ok (.invokevirtual 158, 3) := by decide +kernel
theorem dX3_spillsFirst_30 : decode cX3_spillsFirst 30 = .ok (.iconst 1, 1) := by decide +kernel
theorem dX3_spillsFirst_31 : decode cX3_spillsFirst 31 = .ok (.istore_n 2, 1) := by decide +kernel
theorem dX3_spillsFirst_32 : decode cX3_spillsFirst 32 = .ok (.iload_n 2, 1) := by decide +kernel
theorem dX3_spillsFirst_33 : decode cX3_spillsFirst 33 = .ok (.bipush 60, 2) := by decide +kernel
theorem dX3_spillsFirst_35 : decode cX3_spillsFirst 35 = .ok (.if_icmp .gt 51, 3) := by decide +kernel
theorem dX3_spillsFirst_38 : decode cX3_spillsFirst 38 = .ok (.aload_n 0, 1) := by decide +kernel
theorem dX3_spillsFirst_39 : decode cX3_spillsFirst 39 = .ok (.getfield 16, 3) := by decide +kernel
theorem dX3_spillsFirst_42 : decode cX3_spillsFirst 42 = .ok (.aload_n 0, 1) := by decide +kernel
theorem dX3_spillsFirst_43 : decode cX3_spillsFirst 43 = .ok (.getfield 10, 3) := by decide +kernel
theorem dX3_spillsFirst_46 : decode cX3_spillsFirst 46 = .ok (.iconst 2, 1) := by decide +kernel
theorem dX3_spillsFirst_47 : decode cX3_spillsFirst 47 = .ok (.invokevirtual 194, 3) := by decide +kernel
theorem dX3_spillsFirst_50 : decode cX3_spillsFirst 50 = .ok (.invokevirtual 201, 3) := by decide +kernel
theorem dX3_spillsFirst_53 : decode cX3_spillsFirst 53 = .ok (.aload_n 0, 1) := by decide +kernel
theorem dX3_spillsFirst_54 : decode cX3_spillsFirst 54 = .ok (.getfield 16, 3) := by decide +kernel
theorem dX3_spillsFirst_57 : decode cX3_spillsFirst 57 = .ok (.aload_n 0, 1) := by decide +kernel
theorem dX3_spillsFirst_58 : decode cX3_spillsFirst 58 = .ok (.getfield 10, 3) := by decide +kernel
theorem dX3_spillsFirst_61 : decode cX3_spillsFirst 61 = .ok (.invokevirtual 204, 3) := by decide +kernel
theorem dX3_spillsFirst_64 : decode cX3_spillsFirst 64 = .ok (.istore_n 3, 1) := by decide +kernel
theorem dX3_spillsFirst_65 : decode cX3_spillsFirst 65 = .ok (.iload_n 3, 1) := by decide +kernel
theorem dX3_spillsFirst_66 : decode cX3_spillsFirst 66 = .ok (.iconst (-1), 1) := by decide +kernel
theorem dX3_spillsFirst_67 : decode cX3_spillsFirst 67 = .ok (.if_icmp .eq 13, 3) := by decide +kernel
theorem dX3_spillsFirst_70 : decode cX3_spillsFirst 70 = .ok (.iload_n 1, 1) := by decide +kernel
theorem dX3_spillsFirst_71 : decode cX3_spillsFirst 71 = .ok (.ifCond .ne 7, 3) := by decide +kernel
theorem dX3_spillsFirst_74 : decode cX3_spillsFirst 74 = .ok (.iload_n 3, 1) := by decide +kernel
theorem dX3_spillsFirst_75 : decode cX3_spillsFirst 75 = .ok (.goto 4, 3) := by decide +kernel
theorem dX3_spillsFirst_78 : decode cX3_spillsFirst 78 = .ok (.iload_n 2, 1) := by decide +kernel
theorem dX3_spillsFirst_79 : decode cX3_spillsFirst 79 = .ok (.ireturn, 1) := by decide +kernel
theorem dX3_spillsFirst_80 : decode cX3_spillsFirst 80 = .ok (.iinc 2 1, 3) := by decide +kernel
theorem dX3_spillsFirst_83 : decode cX3_spillsFirst 83 = .ok (.goto (-51), 3) := by decide +kernel
theorem dX3_spillsFirst_86 : decode cX3_spillsFirst 86 = .ok (.iconst (-1), 1) := by decide +kernel
theorem dX3_spillsFirst_87 : decode cX3_spillsFirst 87 = .ok (.ireturn, 1) := by decide +kernel
set_option maxRecDepth 20000 in
theorem ggX3_bestClean_X1_hasLeaves : GoodIn wsX3_bestClean wsX1_hasLeaves := goodIn_r _ [6, 7, 90, 91, 92, 93, 94, 95, 96, 97, 98, 99, 100, 101, 102, 103, 104, 105] (by decide +kernel) (by decide +kernel)
set_option maxRecDepth 20000 in
theorem gX3_bestClean_X1_hasLeaves : GoodIn wsX3_bestClean (wsV RX3 208 RX1 yX1_hasLeaves wsX1_hasLeaves) := goodIn_app (goodIn_of _ (by decide +kernel)) ggX3_bestClean_X1_hasLeaves
set_option maxRecDepth 20000 in
theorem ggX3_bestClean_X3_spiltIfCleaned : GoodIn wsX3_bestClean wsX3_spiltIfCleaned := goodIn_r _ [12, 13, 1, 14, 15, 16, 5, 17, 18, 19, 20, 21, 22, 23, 24, 25, 26, 27, 7, 28, 29, 30, 31, 32, 33, 34, 35, 36, 37, 38, 39, 40, 41, 42, 43, 44, 45, 46, 47, 48, 49, 50, 51, 52, 53, 54, 55, 56, 57, 11, 58, 59, 60, 61, 62, 63, 64, 65, 66, 67, 68, 69, 70, 71, 72, 73, 74, 75, 76, 77, 78, 79, 80, 81, 82, 83, 84, 85, 86, 87, 88, 89, 90, 91, 92, 93, 94, 95, 96, 97, 98, 99, 100, 101, 102, 103, 104, 105] (by decide +kernel) (by decide +kernel)
set_option maxRecDepth 20000 in
theorem gX3_bestClean_X3_spiltIfCleaned : GoodIn wsX3_bestClean (wsV RX3 211 RX3 yX3_spiltIfCleaned wsX3_spiltIfCleaned) := goodIn_app (goodIn_of _ (by decide +kernel)) ggX3_bestClean_X3_spiltIfCleaned
theorem dX3_bestClean_0 : decode cX3_bestClean 0 = .ok (.iconst (-1), 1) := by decide +kernel
theorem dX3_bestClean_1 : decode cX3_bestClean 1 = .ok (.istore_n 1, 1) := by decide +kernel
theorem dX3_bestClean_2 : decode cX3_bestClean 2 = .ok (.iconst 0, 1) := by decide +kernel
theorem dX3_bestClean_3 : decode cX3_bestClean 3 = .ok (.istore_n 2, 1) := by decide +kernel
theorem dX3_bestClean_4 : decode cX3_bestClean 4 = .ok (.iconst 0, 1) := by decide +kernel
theorem dX3_bestClean_5 : decode cX3_bestClean 5 = .ok (.istore_n 3, 1) := by decide +kernel
theorem dX3_bestClean_6 : decode cX3_bestClean 6 = .ok (.iload_n 3, 1) := by decide +kernel
theorem dX3_bestClean_7 : decode cX3_bestClean 7 = .ok (.bipush 6, 2) := by decide +kernel
theorem dX3_bestClean_9 : decode cX3_bestClean 9 = .ok (.if_icmp .ge 43, 3) := by decide +kernel
theorem dX3_bestClean_12 : decode cX3_bestClean 12 = .ok (.aload_n 0, 1) := by decide +kernel
theorem dX3_bestClean_13 : decode cX3_bestClean 13 = .ok (.getfield 10, 3) := by decide +kernel
theorem dX3_bestClean_16 : decode cX3_bestClean 16 = .ok (.iload_n 3, 1) := by decide +kernel
theorem dX3_bestClean_17 : decode cX3_bestClean 17 = .ok (.invokevirtual 208, 3) := by decide +kernel
theorem dX3_bestClean_20 : decode cX3_bestClean 20 = .ok (.ifCond .eq 26, 3) := by decide +kernel
theorem dX3_bestClean_23 : decode cX3_bestClean 23 = .ok (.aload_n 0, 1) := by decide +kernel
theorem dX3_bestClean_24 : decode cX3_bestClean 24 = .ok (.iload_n 3, 1) := by decide +kernel
theorem dX3_bestClean_25 : decode cX3_bestClean 25 = .ok (.invokevirtual 211, 3) := by decide +kernel
theorem dX3_bestClean_28 : decode cX3_bestClean 28 = .ok (.istore 4, 2) := by decide +kernel
theorem dX3_bestClean_30 : decode cX3_bestClean 30 = .ok (.iload_n 1, 1) := by decide +kernel
theorem dX3_bestClean_31 : decode cX3_bestClean 31 = .ok (.iconst (-1), 1) := by decide +kernel
theorem dX3_bestClean_32 : decode cX3_bestClean 32 = .ok (.if_icmp .eq 9, 3) := by decide +kernel
theorem dX3_bestClean_35 : decode cX3_bestClean 35 = .ok (.iload 4, 2) := by decide +kernel
theorem dX3_bestClean_37 : decode cX3_bestClean 37 = .ok (.iload_n 2, 1) := by decide +kernel
theorem dX3_bestClean_38 : decode cX3_bestClean 38 = .ok (.if_icmp .ge 8, 3) := by decide +kernel
theorem dX3_bestClean_41 : decode cX3_bestClean 41 = .ok (.iload_n 3, 1) := by decide +kernel
theorem dX3_bestClean_42 : decode cX3_bestClean 42 = .ok (.istore_n 1, 1) := by decide +kernel
theorem dX3_bestClean_43 : decode cX3_bestClean 43 = .ok (.iload 4, 2) := by decide +kernel
theorem dX3_bestClean_45 : decode cX3_bestClean 45 = .ok (.istore_n 2, 1) := by decide +kernel
theorem dX3_bestClean_46 : decode cX3_bestClean 46 = .ok (.iinc 3 1, 3) := by decide +kernel
theorem dX3_bestClean_49 : decode cX3_bestClean 49 = .ok (.goto (-43), 3) := by decide +kernel
theorem dX3_bestClean_52 : decode cX3_bestClean 52 = .ok (.iload_n 1, 1) := by decide +kernel
theorem dX3_bestClean_53 : decode cX3_bestClean 53 = .ok (.ireturn, 1) := by decide +kernel
set_option maxRecDepth 20000 in
theorem ggX3_mostRain_X3_isWithin : GoodIn wsX3_mostRain wsX3_isWithin := goodIn_r _ [6] (by decide +kernel) (by decide +kernel)
set_option maxRecDepth 20000 in
theorem gX3_mostRain_X3_isWithin : GoodIn wsX3_mostRain (va_wsS RX3 47 yX3_isWithin wsX3_isWithin) := goodIn_app (goodIn_of _ (by decide +kernel)) ggX3_mostRain_X3_isWithin
set_option maxRecDepth 20000 in
theorem ggX3_mostRain_X3_wouldSpill : GoodIn wsX3_mostRain wsX3_wouldSpill := goodIn_r _ [10, 11, 12, 13, 14, 15, 16, 17, 18, 19, 20, 21, 22, 23, 24, 25, 26, 27, 28, 29, 30, 31, 32, 33, 34, 35, 36, 37, 38, 39, 40, 41, 42, 43, 44, 45, 46, 5, 47, 48, 49, 50, 51, 52, 53, 54, 55, 56, 57, 58, 59, 60, 61, 62, 63, 64, 65, 66, 67, 68, 69, 70, 71, 72, 73, 74, 75, 76, 77, 78, 79, 80, 81, 82, 83, 84, 85, 86, 87, 88, 89, 90, 91] (by decide +kernel) (by decide +kernel)
set_option maxRecDepth 20000 in
theorem gX3_mostRain_X3_wouldSpill : GoodIn wsX3_mostRain (wsV RX3 216 RX3 yX3_wouldSpill wsX3_wouldSpill) := goodIn_app (goodIn_of _ (by decide +kernel)) ggX3_mostRain_X3_wouldSpill
theorem dX3_mostRain_0 : decode cX3_mostRain 0 = .ok (.iload_n 1, 1) := by decide +kernel
theorem dX3_mostRain_1 : decode cX3_mostRain 1 = .ok (.iconst 1, 1) := by decide +kernel
theorem dX3_mostRain_2 : decode cX3_mostRain 2 = .ok (.bipush 60, 2) := by decide +kernel
theorem dX3_mostRain_4 : decode cX3_mostRain 4 = .ok (.invokestatic 47, 3) := by decide +kernel
theorem dX3_mostRain_7 : decode cX3_mostRain 7 = .ok (.ifCond .ne 13, 3) := by decide +kernel
theorem dX3_mostRain_10 : decode cX3_mostRain 10 = .ok (.new 51, 3) := by decide +kernel
theorem dX3_mostRain_13 : decode cX3_mostRain 13 = .ok (.dup, 1) := by decide +kernel
theorem dX3_mostRain_14 : decode cX3_mostRain 14 = .ok (.ldc 214, 2) := by decide +kernel
theorem dX3_mostRain_16 : decode cX3_mostRain 16 = .ok (.invokespecial 55, 3) := by decide +kernel
theorem dX3_mostRain_19 : decode cX3_mostRain 19 = .ok (.athrow, 1) := by decide +kernel
theorem dX3_mostRain_20 : decode cX3_mostRain 20 = .ok (.bipush 99, 2) := by decide +kernel
theorem dX3_mostRain_22 : decode cX3_mostRain 22 = .ok (.istore_n 2, 1) := by decide +kernel
theorem dX3_mostRain_23 : decode cX3_mostRain 23 = .ok (.iload_n 2, 1) := by decide +kernel
theorem dX3_mostRain_24 : decode cX3_mostRain 24 = .ok (.ifCond .lt 20, 3) := by decide +kernel
theorem dX3_mostRain_27 : decode cX3_mostRain 27 = .ok (.aload_n 0, 1) := by decide +kernel
theorem dX3_mostRain_28 : decode cX3_mostRain 28 = .ok (.iload_n 2, 1) := by decide +kernel
theorem dX3_mostRain_29 : decode cX3_mostRain 29 = .ok (.iload_n 1, 1) := by decide +kernel
theorem dX3_mostRain_30 : decode cX3_mostRain 30 = .ok (.invokevirtual 216, 3) := by decide +kernel
theorem dX3_mostRain_33 : decode cX3_mostRain 33 = .ok (.ifCond .ne 5, 3) := by decide +kernel
theorem dX3_mostRain_36 : decode cX3_mostRain 36 = .ok (.iload_n 2, 1) := by decide +kernel
theorem dX3_mostRain_37 : decode cX3_mostRain 37 = .ok (.ireturn, 1) := by decide +kernel
theorem dX3_mostRain_38 : decode cX3_mostRain 38 = .ok (.iinc 2 (-1), 3) := by decide +kernel
theorem dX3_mostRain_41 : decode cX3_mostRain 41 = .ok (.goto (-18), 3) := by decide +kernel
theorem dX3_mostRain_44 : decode cX3_mostRain 44 = .ok (.iconst (-1), 1) := by decide +kernel
theorem dX3_mostRain_45 : decode cX3_mostRain 45 = .ok (.ireturn, 1) := by decide +kernel
set_option maxRecDepth 20000 in
theorem ggX3_dryIn_X1_copyFrom : GoodIn wsX3_dryIn wsX1_copyFrom := goodIn_r _ [7, 8, 9, 10, 11, 12, 13, 14, 15, 16, 17, 18, 19, 20, 21, 22, 23, 24, 25, 26, 27, 70, 71, 72, 73, 74, 75, 76, 77, 78, 79, 80, 81, 82, 83, 84, 85] (by decide +kernel) (by decide +kernel)
set_option maxRecDepth 20000 in
theorem gX3_dryIn_X1_copyFrom : GoodIn wsX3_dryIn (wsV RX3 158 RX1 yX1_copyFrom wsX1_copyFrom) := goodIn_app (goodIn_of _ (by decide +kernel)) ggX3_dryIn_X1_copyFrom
set_option maxRecDepth 20000 in
theorem ggX3_dryIn_X1_standingLitres : GoodIn wsX3_dryIn wsX1_standingLitres := goodIn_r _ [31, 15, 20, 32, 33, 6, 34, 70, 71, 72, 73, 74, 75, 76, 77, 78, 79, 80, 81, 82, 83, 84, 85] (by decide +kernel) (by decide +kernel)
set_option maxRecDepth 20000 in
theorem gX3_dryIn_X1_standingLitres : GoodIn wsX3_dryIn (wsV RX3 185 RX1 yX1_standingLitres wsX1_standingLitres) := goodIn_app (goodIn_of _ (by decide +kernel)) ggX3_dryIn_X1_standingLitres
set_option maxRecDepth 20000 in
theorem ggX3_dryIn_X1_passMinute : GoodIn wsX3_dryIn wsX1_passMinute := goodIn_r _ [38, 24, 39, 40, 41, 6, 42, 8, 26, 15, 13, 14, 20, 43, 44, 45, 46, 47, 48, 49, 23, 50, 51, 52, 53, 22, 27, 54, 55, 56, 57, 17, 18, 58, 59, 60, 61, 19, 21, 62, 63, 64, 65, 16, 70, 71, 72, 73, 74, 75, 76, 77, 78, 79, 80, 81, 82, 83, 84, 85] (by decide +kernel) (by decide +kernel)
set_option maxRecDepth 20000 in
theorem gX3_dryIn_X1_passMinute : GoodIn wsX3_dryIn (wsV RX3 201 RX1 yX1_passMinute wsX1_passMinute) := goodIn_app (goodIn_of _ (by decide +kernel)) ggX3_dryIn_X1_passMinute
theorem dX3_dryIn_0 : decode cX3_dryIn 0 = .ok (.aload_n 0, 1) := by decide +kernel
theorem dX3_dryIn_1 : decode cX3_dryIn 1 = .ok (.getfield 16, 3) := by decide +kernel
theorem dX3_dryIn_4 : decode cX3_dryIn 4 = .ok (.aload_n 0, 1) := by decide +kernel
theorem dX3_dryIn_5 : decode cX3_dryIn 5 = .ok (.getfield 10, 3) := by decide +kernel
theorem dX3_dryIn_8 : decode cX3_dryIn 8 = .ok (.invokevirtual 158, 3) := by decide +kernel
theorem dX3_dryIn_11 : decode cX3_dryIn 11 = .ok (.iconst 0, 1) := by decide +kernel
theorem dX3_dryIn_12 : decode cX3_dryIn 12 = .ok (.istore_n 1, 1) := by decide +kernel
theorem dX3_dryIn_13 : decode cX3_dryIn 13 = .ok (.iload_n 1, 1) := by decide +kernel
theorem dX3_dryIn_14 : decode cX3_dryIn 14 = .ok (.sipush 300, 3) := by decide +kernel
theorem dX3_dryIn_17 : decode cX3_dryIn 17 = .ok (.if_icmp .gt 29, 3) := by decide +kernel
theorem dX3_dryIn_20 : decode cX3_dryIn 20 = .ok (.aload_n 0, 1) := by decide +kernel
theorem dX3_dryIn_21 : decode cX3_dryIn 21 = .ok (.getfield 16, 3) := by decide +kernel
theorem dX3_dryIn_24 : decode cX3_dryIn 24 = .ok (.invokevirtual 185, 3) := by decide +kernel
theorem dX3_dryIn_27 : decode cX3_dryIn 27 = .ok (.ifCond .ne 5, 3) := by decide +kernel
theorem dX3_dryIn_30 : decode cX3_dryIn 30 = .ok (.iload_n 1, 1) := by decide +kernel
theorem dX3_dryIn_31 : decode cX3_dryIn 31 = .ok (.ireturn, 1) := by decide +kernel
theorem dX3_dryIn_32 : decode cX3_dryIn 32 = .ok (.aload_n 0, 1) := by decide +kernel
theorem dX3_dryIn_33 : decode cX3_dryIn 33 = .ok (.getfield 16, 3) := by decide +kernel
theorem dX3_dryIn_36 : decode cX3_dryIn 36 = .ok (.iconst 0, 1) := by decide +kernel
theorem dX3_dryIn_37 : decode cX3_dryIn 37 = .ok (.invokevirtual 201, 3) := by decide +kernel
theorem dX3_dryIn_40 : decode cX3_dryIn 40 = .ok (.iinc 1 1, 3) := by decide +kernel
theorem dX3_dryIn_43 : decode cX3_dryIn 43 = .ok (.goto (-30), 3) := by decide +kernel
theorem dX3_dryIn_46 : decode cX3_dryIn 46 = .ok (.iconst (-1), 1) := by decide +kernel
theorem dX3_dryIn_47 : decode cX3_dryIn 47 = .ok (.ireturn, 1) := by decide +kernel
set_option maxRecDepth 20000 in
theorem ggX3_drainedShare_X1_rainedLitres : GoodIn wsX3_drainedShare wsX1_rainedLitres := goodIn_r _ [6, 7, 20, 21, 22, 23, 24, 25, 26, 27, 28, 29, 30, 31, 32, 33, 34, 35] (by decide +kernel) (by decide +kernel)
set_option maxRecDepth 20000 in
theorem gX3_drainedShare_X1_rainedLitres : GoodIn wsX3_drainedShare (wsV RX3 182 RX1 yX1_rainedLitres wsX1_rainedLitres) := goodIn_app (goodIn_of _ (by decide +kernel)) ggX3_drainedShare_X1_rainedLitres
set_option maxRecDepth 20000 in
theorem ggX3_drainedShare_X1_drainedLitres : GoodIn wsX3_drainedShare wsX1_drainedLitres := goodIn_r _ [11, 12, 13, 14, 5, 15, 20, 21, 22, 23, 24, 25, 26, 27, 28, 29, 30, 31, 32, 33, 34, 35] (by decide +kernel) (by decide +kernel)
set_option maxRecDepth 20000 in
theorem gX3_drainedShare_X1_drainedLitres : GoodIn wsX3_drainedShare (wsV RX3 188 RX1 yX1_drainedLitres wsX1_drainedLitres) := goodIn_app (goodIn_of _ (by decide +kernel)) ggX3_drainedShare_X1_drainedLitres
theorem dX3_drainedShare_0 : decode cX3_drainedShare 0 = .ok (.aload_n 0, 1) := by decide +kernel
theorem dX3_drainedShare_1 : decode cX3_drainedShare 1 = .ok (.getfield 10, 3) := by decide +kernel
theorem dX3_drainedShare_4 : decode cX3_drainedShare 4 = .ok (.invokevirtual 182, 3) := by decide +kernel
theorem dX3_drainedShare_7 : decode cX3_drainedShare 7 = .ok (.istore_n 1, 1) := by decide +kernel
theorem dX3_drainedShare_8 : decode cX3_drainedShare 8 = .ok (.iload_n 1, 1) := by decide +kernel
theorem dX3_drainedShare_9 : decode cX3_drainedShare 9 = .ok (.ifCond .ne 7, 3) := by decide +kernel
theorem dX3_drainedShare_12 : decode cX3_drainedShare 12 = .ok (.dconst 1, 1) := by decide +kernel
theorem dX3_drainedShare_13 : decode cX3_drainedShare 13 = .ok (.goto 14, 3) := by decide +kernel
theorem dX3_drainedShare_16 : decode cX3_drainedShare 16 = .ok (.aload_n 0, 1) := by decide +kernel
theorem dX3_drainedShare_17 : decode cX3_drainedShare 17 = .ok (.getfield 10, 3) := by decide +kernel
theorem dX3_drainedShare_20 : decode cX3_drainedShare 20 = .ok (.invokevirtual 188, 3) := by decide +kernel
theorem dX3_drainedShare_23 : decode cX3_drainedShare 23 = .ok (.i2d, 1) := by decide +kernel
theorem dX3_drainedShare_24 : decode cX3_drainedShare 24 = .ok (.iload_n 1, 1) := by decide +kernel
theorem dX3_drainedShare_25 : decode cX3_drainedShare 25 = .ok (.i2d, 1) := by decide +kernel
theorem dX3_drainedShare_26 : decode cX3_drainedShare 26 = .ok (.ddiv, 1) := by decide +kernel
theorem dX3_drainedShare_27 : decode cX3_drainedShare 27 = .ok (.dreturn, 1) := by decide +kernel
set_option maxRecDepth 20000 in
theorem ggX3_digest_X3_hashOfCounts : GoodIn wsX3_digest wsX3_hashOfCounts := goodIn_ca (goodIn_r _ [6, 7, 8, 9, 10, 5, 11, 12, 13, 14, 15, 16, 17, 18, 19, 20, 21, 22, 23, 24, 25, 26, 27, 28, 29, 30, 31, 32, 33, 34, 35, 36, 37, 38, 39, 40, 41, 42, 43, 44, 45, 46, 47, 48, 49, 50, 51, 52, 53, 54, 55, 56, 57, 58, 59, 60, 61, 62, 63, 64, 65, 66, 67, 68, 69, 70, 71, 72, 73, 74, 207, 208, 209, 210, 211, 212, 213, 214, 215, 216, 217, 218, 219, 220, 221, 222, 223, 224, 225, 226, 227, 228, 229] (by decide +kernel) (by decide +kernel)) (goodIn_sub (fun _ h => List.mem_cons_of_mem _ (List.mem_append_right _ h)) (by decide +kernel))
set_option maxRecDepth 20000 in
theorem gX3_digest_X3_hashOfCounts : GoodIn wsX3_digest (wsV RX3 221 RX3 yX3_hashOfCounts wsX3_hashOfCounts) := goodIn_app (goodIn_of _ (by decide +kernel)) ggX3_digest_X3_hashOfCounts
set_option maxRecDepth 20000 in
theorem ggX3_digest_X3_hashOfRoof : GoodIn wsX3_digest wsX3_hashOfRoof := goodIn_r _ [78, 7, 79, 80, 81, 18, 82, 83, 84, 85, 35, 66, 67, 5, 68, 69, 86, 87, 88, 89, 90, 91, 59, 92, 36, 49, 44, 93, 94, 95, 96, 97, 98, 99, 100, 207, 208, 209, 210, 211, 212, 213, 214, 215, 216, 217, 218, 219, 220, 221, 222, 223, 224, 225, 226] (by decide +kernel) (by decide +kernel)
set_option maxRecDepth 20000 in
theorem gX3_digest_X3_hashOfRoof : GoodIn wsX3_digest (wsV RX3 225 RX3 yX3_hashOfRoof wsX3_hashOfRoof) := goodIn_app (goodIn_of _ (by decide +kernel)) ggX3_digest_X3_hashOfRoof
set_option maxRecDepth 20000 in
theorem ggX3_digest_X3_ifRained : GoodIn wsX3_digest wsX3_ifRained := goodIn_ca (goodIn_r _ [104, 12, 13, 105, 7, 106, 107, 5, 108, 109, 110, 111, 18, 112, 83, 113, 114, 115, 116, 84, 85, 35, 90, 91, 59, 92, 36, 49, 44, 74, 20, 25, 30, 54, 70, 71, 72, 73, 117, 118, 119, 120, 121, 122, 123, 124, 125, 126, 127, 128, 129, 130, 131, 132, 133, 134, 135, 136, 137, 138, 97, 98, 99, 100, 139, 140, 141, 142, 93, 94, 95, 96, 45, 46, 47, 48, 37, 38, 39, 40, 41, 42, 43, 31, 32, 33, 34, 207, 208, 209, 210, 211, 212, 213, 214, 215, 216, 217, 218, 219, 220, 221, 222, 223, 224, 225, 226] (by decide +kernel) (by decide +kernel)) (goodIn_sub (fun _ h => List.mem_cons_of_mem _ (List.mem_append_right _ h)) (by decide +kernel))
set_option maxRecDepth 20000 in
theorem gX3_digest_X3_ifRained : GoodIn wsX3_digest (wsV RX3 228 RX3 yX3_ifRained wsX3_ifRained) := goodIn_app (goodIn_of _ (by decide +kernel)) ggX3_digest_X3_ifRained
set_option maxRecDepth 20000 in
theorem ggX3_digest_X3_hashWith : GoodIn wsX3_digest wsX3_hashWith := goodIn_r _ [68, 69] (by decide +kernel) (by decide +kernel)
set_option maxRecDepth 20000 in
theorem gX3_digest_X3_hashWith : GoodIn wsX3_digest (va_wsS RX3 231 yX3_hashWith wsX3_hashWith) := goodIn_app (goodIn_of _ (by decide +kernel)) ggX3_digest_X3_hashWith
set_option maxRecDepth 20000 in
theorem ggX3_digest_X3_spillsFirst : GoodIn wsX3_digest wsX3_spillsFirst := goodIn_ca (goodIn_r _ [146, 12, 13, 105, 7, 106, 107, 5, 108, 109, 110, 111, 18, 112, 83, 113, 114, 115, 116, 84, 85, 35, 90, 91, 59, 92, 36, 49, 44, 74, 20, 25, 30, 54, 70, 71, 72, 73, 147, 122, 123, 124, 125, 126, 127, 128, 129, 130, 131, 132, 133, 134, 135, 136, 137, 138, 97, 98, 99, 100, 139, 140, 141, 142, 93, 94, 95, 96, 148, 149, 150, 151, 207, 208, 209, 210, 211, 212, 213, 214, 215, 216, 217, 218, 219, 220, 221, 222, 223, 224, 225, 226] (by decide +kernel) (by decide +kernel)) (goodIn_sub (fun _ h => List.mem_cons_of_mem _ (List.mem_append_right _ h)) (by decide +kernel))
set_option maxRecDepth 20000 in
theorem gX3_digest_X3_spillsFirst : GoodIn wsX3_digest (wsV RX3 235 RX3 yX3_spillsFirst wsX3_spillsFirst) := goodIn_app (goodIn_of _ (by decide +kernel)) ggX3_digest_X3_spillsFirst
set_option maxRecDepth 20000 in
theorem ggX3_digest_X3_bestClean : GoodIn wsX3_digest wsX3_bestClean := goodIn_r _ [155, 7, 156, 157, 158, 18, 159, 59, 160, 161, 162, 5, 163, 105, 109, 110, 111, 112, 83, 113, 114, 115, 116, 84, 85, 35, 90, 91, 92, 36, 49, 44, 74, 20, 25, 30, 54, 164, 165, 166, 167, 70, 71, 72, 73, 117, 118, 119, 120, 121, 122, 123, 124, 125, 126, 127, 128, 129, 130, 131, 132, 133, 134, 135, 136, 137, 138, 97, 98, 99, 100, 139, 140, 141, 142, 93, 94, 95, 96, 45, 46, 47, 48, 37, 38, 39, 207, 208, 209, 210, 211, 212, 213, 214, 215, 216, 217, 218, 219, 220, 221, 222, 223, 224, 225, 226] (by decide +kernel) (by decide +kernel)
set_option maxRecDepth 20000 in
theorem gX3_digest_X3_bestClean : GoodIn wsX3_digest (wsV RX3 238 RX3 yX3_bestClean wsX3_bestClean) := goodIn_app (goodIn_of _ (by decide +kernel)) ggX3_digest_X3_bestClean
set_option maxRecDepth 20000 in
theorem ggX3_digest_X3_mostRain : GoodIn wsX3_digest wsX3_mostRain := goodIn_ca (goodIn_r _ [171, 12, 13, 106, 107, 5, 108, 172, 173, 174, 175, 105, 7, 109, 110, 111, 18, 112, 83, 113, 114, 115, 116, 84, 85, 35, 90, 91, 59, 92, 36, 49, 44, 74, 20, 25, 30, 54, 147, 122, 123, 124, 125, 126, 127, 128, 129, 130, 131, 132, 133, 134, 135, 136, 137, 138, 97, 98, 99, 100, 139, 140, 141, 142, 93, 94, 95, 96, 148, 149, 150, 151, 207, 208, 209, 210, 211, 212, 213, 214, 215, 216, 217, 218, 219, 220, 221, 222, 223, 224, 225, 226] (by decide +kernel) (by decide +kernel)) (goodIn_sub (fun _ h => List.mem_cons_of_mem _ (List.mem_append_right _ h)) (by decide +kernel))
set_option maxRecDepth 20000 in
theorem gX3_digest_X3_mostRain : GoodIn wsX3_digest (wsV RX3 241 RX3 yX3_mostRain wsX3_mostRain) := goodIn_app (goodIn_of _ (by decide +kernel)) ggX3_digest_X3_mostRain
set_option maxRecDepth 20000 in
theorem ggX3_digest_X3_dryIn : GoodIn wsX3_digest wsX3_dryIn := goodIn_r _ [179, 105, 7, 109, 110, 111, 18, 112, 83, 113, 114, 115, 116, 84, 85, 35, 90, 91, 59, 92, 36, 49, 44, 74, 20, 25, 30, 54, 31, 32, 33, 34, 37, 38, 39, 147, 122, 123, 124, 125, 126, 127, 128, 129, 5, 130, 131, 132, 133, 134, 135, 136, 137, 138, 97, 98, 99, 100, 139, 140, 141, 142, 93, 94, 95, 96, 207, 208, 209, 210, 211, 212, 213, 214, 215, 216, 217, 218, 219, 220, 221, 222, 223, 224, 225, 226] (by decide +kernel) (by decide +kernel)
set_option maxRecDepth 20000 in
theorem gX3_digest_X3_dryIn : GoodIn wsX3_digest (wsV RX3 244 RX3 yX3_dryIn wsX3_dryIn) := goodIn_app (goodIn_of _ (by decide +kernel)) ggX3_digest_X3_dryIn
set_option maxRecDepth 20000 in
theorem ggX3_digest_X3_drainedShare : GoodIn wsX3_digest wsX3_drainedShare := goodIn_r _ [183, 7, 26, 27, 28, 18, 29, 30, 40, 41, 42, 43, 44, 37, 38, 39, 207, 208, 209, 210, 211, 212, 213, 214, 215, 216, 217, 218, 219, 220, 221, 222, 223, 224, 225, 226] (by decide +kernel) (by decide +kernel)
set_option maxRecDepth 20000 in
theorem gX3_digest_X3_drainedShare : GoodIn wsX3_digest (wsV RX3 247 RX3 yX3_drainedShare wsX3_drainedShare) := goodIn_app (goodIn_of _ (by decide +kernel)) ggX3_digest_X3_drainedShare
set_option maxRecDepth 20000 in
theorem ggX3_digest_X3_bitsOfShare : GoodIn wsX3_digest wsX3_bitsOfShare := goodIn_r _ [186, 187, 188, 189, 190] (by decide +kernel) (by decide +kernel)
set_option maxRecDepth 20000 in
theorem gX3_digest_X3_bitsOfShare : GoodIn wsX3_digest (va_wsS RX3 251 yX3_bitsOfShare wsX3_bitsOfShare) := goodIn_app (goodIn_of _ (by decide +kernel)) ggX3_digest_X3_bitsOfShare
set_option maxRecDepth 20000 in
theorem ggX3_digest_X3_hashOfText : GoodIn wsX3_digest wsX3_hashOfText := goodIn_r _ [194, 195, 196, 197, 198, 199, 200, 201, 66, 67, 5, 68, 69, 202, 203, 204, 205, 206, 207, 208, 209, 210, 230, 231] (by decide +kernel) (by decide +kernel)
set_option maxRecDepth 20000 in
theorem gX3_digest_X3_hashOfText : GoodIn wsX3_digest (wsV RX3 255 RX3 yX3_hashOfText wsX3_hashOfText) := goodIn_app (goodIn_of _ (by decide +kernel)) ggX3_digest_X3_hashOfText
theorem dX3_digest_0 : decode cX3_digest 0 = .ok (.aload_n 0, 1) := by decide +kernel
theorem dX3_digest_1 : decode cX3_digest 1 = .ok (.aload_n 0, 1) := by decide +kernel
theorem dX3_digest_2 : decode cX3_digest 2 = .ok (.ldc2_w 219, 3) := by decide +kernel
theorem dX3_digest_5 : decode cX3_digest 5 = .ok (.invokevirtual 221, 3) := by decide +kernel
theorem dX3_digest_8 : decode cX3_digest 8 = .ok (.invokevirtual 225, 3) := by decide +kernel
theorem dX3_digest_11 : decode cX3_digest 11 = .ok (.lstore_n 1, 1) := by decide +kernel
theorem dX3_digest_12 : decode cX3_digest 12 = .ok (.iconst 0, 1) := by decide +kernel
theorem dX3_digest_13 : decode cX3_digest 13 = .ok (.istore_n 3, 1) := by decide +kernel
theorem dX3_digest_14 : decode cX3_digest 14 = .ok (.iload_n 3, 1) := by decide +kernel
theorem dX3_digest_15 : decode cX3_digest 15 = .ok (.iconst 2, 1) := by decide +kernel
theorem dX3_digest_16 : decode cX3_digest 16 = .ok (.if_icmp .gt 22, 3) := by decide +kernel
theorem dX3_digest_19 : decode cX3_digest 19 = .ok (.lload_n 1, 1) := by decide +kernel
theorem dX3_digest_20 : decode cX3_digest 20 = .ok (.aload_n 0, 1) := by decide +kernel
theorem dX3_digest_21 : decode cX3_digest 21 = .ok (.bipush 20, 2) := by decide +kernel
theorem dX3_digest_23 : decode cX3_digest 23 = .ok (.iload_n 3, 1) := by decide +kernel
theorem dX3_digest_24 : decode cX3_digest 24 = .ok (.invokevirtual 228, 3) := by decide +kernel
theorem dX3_digest_27 : decode cX3_digest 27 = .ok (.i2l, 1) := by decide +kernel
theorem dX3_digest_28 : decode cX3_digest 28 = .ok (.invokestatic 231, 3) := by decide +kernel
theorem dX3_digest_31 : decode cX3_digest 31 = .ok (.lstore_n 1, 1) := by decide +kernel
theorem dX3_digest_32 : decode cX3_digest 32 = .ok (.iinc 3 1, 3) := by decide +kernel
theorem dX3_digest_35 : decode cX3_digest 35 = .ok (.goto (-21), 3) := by decide +kernel
theorem dX3_digest_38 : decode cX3_digest 38 = .ok (.lload_n 1, 1) := by decide +kernel
theorem dX3_digest_39 : decode cX3_digest 39 = .ok (.aload_n 0, 1) := by decide +kernel
theorem dX3_digest_40 : decode cX3_digest 40 = .ok (.iconst 0, 1) := by decide +kernel
theorem dX3_digest_41 : decode cX3_digest 41 = .ok (.invokevirtual 235, 3) := by decide +kernel
theorem dX3_digest_44 : decode cX3_digest 44 = .ok (.i2l, 1) := by decide +kernel
theorem dX3_digest_45 : decode cX3_digest 45 = .ok (.invokestatic 231, 3) := by decide +kernel
theorem dX3_digest_48 : decode cX3_digest 48 = .ok (.lstore_n 1, 1) := by decide +kernel
theorem dX3_digest_49 : decode cX3_digest 49 = .ok (.lload_n 1, 1) := by decide +kernel
theorem dX3_digest_50 : decode cX3_digest 50 = .ok (.aload_n 0, 1) := by decide +kernel
theorem dX3_digest_51 : decode cX3_digest 51 = .ok (.iconst 1, 1) := by decide +kernel
theorem dX3_digest_52 : decode cX3_digest 52 = .ok (.invokevirtual 235, 3) := by decide +kernel
theorem dX3_digest_55 : decode cX3_digest 55 = .ok (.i2l, 1) := by decide +kernel
theorem dX3_digest_56 : decode cX3_digest 56 = .ok (.invokestatic 231, 3) := by decide +kernel
theorem dX3_digest_59 : decode cX3_digest 59 = .ok (.lstore_n 1, 1) := by decide +kernel
theorem dX3_digest_60 : decode cX3_digest 60 = .ok (.lload_n 1, 1) := by decide +kernel
theorem dX3_digest_61 : decode cX3_digest 61 = .ok (.aload_n 0, 1) := by decide +kernel
theorem dX3_digest_62 : decode cX3_digest 62 = .ok (.invokevirtual 238, 3) := by decide +kernel
theorem dX3_digest_65 : decode cX3_digest 65 = .ok (.i2l, 1) := by decide +kernel
theorem dX3_digest_66 : decode cX3_digest 66 = .ok (.invokestatic 231, 3) := by decide +kernel
theorem dX3_digest_69 : decode cX3_digest 69 = .ok (.lstore_n 1, 1) := by decide +kernel
theorem dX3_digest_70 : decode cX3_digest 70 = .ok (.lload_n 1, 1) := by decide +kernel
theorem dX3_digest_71 : decode cX3_digest 71 = .ok (.aload_n 0, 1) := by decide +kernel
theorem dX3_digest_72 : decode cX3_digest 72 = .ok (.bipush 10, 2) := by decide +kernel
theorem dX3_digest_74 : decode cX3_digest 74 = .ok (.invokevirtual 241, 3) := by decide +kernel
theorem dX3_digest_77 : decode cX3_digest 77 = .ok (.i2l, 1) := by decide +kernel
theorem dX3_digest_78 : decode cX3_digest 78 = .ok (.invokestatic 231, 3) := by decide +kernel
theorem dX3_digest_81 : decode cX3_digest 81 = .ok (.lstore_n 1, 1) := by decide +kernel
theorem dX3_digest_82 : decode cX3_digest 82 = .ok (.lload_n 1, 1) := by decide +kernel
theorem dX3_digest_83 : decode cX3_digest 83 = .ok (.aload_n 0, 1) := by decide +kernel
theorem dX3_digest_84 : decode cX3_digest 84 = .ok (.invokevirtual 244, 3) := by decide +kernel
theorem dX3_digest_87 : decode cX3_digest 87 = .ok (.i2l, 1) := by decide +kernel
theorem dX3_digest_88 : decode cX3_digest 88 = .ok (.invokestatic 231, 3) := by decide +kernel
theorem dX3_digest_91 : decode cX3_digest 91 = .ok (.lstore_n 1, 1) := by decide +kernel
theorem dX3_digest_92 : decode cX3_digest 92 = .ok (.lload_n 1, 1) := by decide +kernel
theorem dX3_digest_93 : decode cX3_digest 93 = .ok (.aload_n 0, 1) := by decide +kernel
theorem dX3_digest_94 : decode cX3_digest 94 = .ok (.invokevirtual 247, 3) := by decide +kernel
theorem dX3_digest_97 : decode cX3_digest 97 = .ok (.invokestatic 251, 3) := by decide +kernel
theorem dX3_digest_100 : decode cX3_digest 100 = .ok (.invokestatic 231, 3) := by decide +kernel
theorem dX3_digest_103 : decode cX3_digest 103 = .ok (.lstore_n 1, 1) := by decide +kernel
theorem dX3_digest_104 : decode cX3_digest 104 = .ok (.aload_n 0, 1) := by decide +kernel
theorem dX3_digest_105 : decode cX3_digest 105 = .ok (.lload_n 1, 1) := by decide +kernel
theorem dX3_digest_106 : decode cX3_digest 106 = .ok (.invokevirtual 255, 3) := by decide +kernel
theorem dX3_digest_109 : decode cX3_digest 109 = .ok (.lreturn, 1) := by decide +kernel
set_option maxRecDepth 20000 in
theorem ggX3_spiltIfCleaned_X1_copyFrom : GoodIn wsX3_spiltIfCleaned wsX1_copyFrom := goodIn_r _ [7, 8, 9, 10, 11, 12, 13, 14, 15, 16, 17, 18, 19, 20, 21, 22, 23, 24, 25, 26, 27, 82, 83, 84, 85, 86, 87, 88, 89, 90, 91, 92, 93, 94, 95, 96, 97] (by decide +kernel) (by decide +kernel)
set_option maxRecDepth 20000 in
theorem gX3_spiltIfCleaned_X1_copyFrom : GoodIn wsX3_spiltIfCleaned (wsV RX3 158 RX1 yX1_copyFrom wsX1_copyFrom) := goodIn_app (goodIn_of _ (by decide +kernel)) ggX3_spiltIfCleaned_X1_copyFrom
set_option maxRecDepth 20000 in
theorem ggX3_spiltIfCleaned_X1_takeLeaves : GoodIn wsX3_spiltIfCleaned wsX1_takeLeaves := goodIn_r _ [31, 18, 82, 83, 84, 85, 86, 87, 88, 89, 90, 91, 92, 93, 94, 95, 96, 97] (by decide +kernel) (by decide +kernel)
set_option maxRecDepth 20000 in
theorem gX3_spiltIfCleaned_X1_takeLeaves : GoodIn wsX3_spiltIfCleaned (wsV RX3 87 RX1 yX1_takeLeaves wsX1_takeLeaves) := goodIn_app (goodIn_of _ (by decide +kernel)) ggX3_spiltIfCleaned_X1_takeLeaves
set_option maxRecDepth 20000 in
theorem ggX3_spiltIfCleaned_X1_settingValue : GoodIn wsX3_spiltIfCleaned wsX1_settingValue := goodIn_r _ [35, 23, 82, 83, 84, 85, 86, 87, 88, 89, 90, 91, 92, 93, 94, 95, 96, 97] (by decide +kernel) (by decide +kernel)
set_option maxRecDepth 20000 in
theorem gX3_spiltIfCleaned_X1_settingValue : GoodIn wsX3_spiltIfCleaned (wsV RX3 194 RX1 yX1_settingValue wsX1_settingValue) := goodIn_app (goodIn_of _ (by decide +kernel)) ggX3_spiltIfCleaned_X1_settingValue
set_option maxRecDepth 20000 in
theorem ggX3_spiltIfCleaned_X1_passMinutes : GoodIn wsX3_spiltIfCleaned wsX1_passMinutes := goodIn_r _ [39, 40, 41, 42, 6, 43, 24, 44, 45, 46, 47, 8, 26, 15, 13, 14, 20, 48, 49, 50, 51, 52, 53, 54, 23, 55, 56, 57, 58, 22, 27, 59, 60, 61, 62, 17, 18, 63, 64, 65, 66, 19, 21, 67, 68, 69, 70, 16, 82, 83, 84, 85, 86, 87, 88, 89, 90, 91, 92, 93, 94, 95, 96, 97] (by decide +kernel) (by decide +kernel)
set_option maxRecDepth 20000 in
theorem gX3_spiltIfCleaned_X1_passMinutes : GoodIn wsX3_spiltIfCleaned (wsV RX3 111 RX1 yX1_passMinutes wsX1_passMinutes) := goodIn_app (goodIn_of _ (by decide +kernel)) ggX3_spiltIfCleaned_X1_passMinutes
set_option maxRecDepth 20000 in
theorem ggX3_spiltIfCleaned_X1_spiltLitres : GoodIn wsX3_spiltIfCleaned wsX1_spiltLitres := goodIn_r _ [74, 21, 75, 76, 6, 77, 82, 83, 84, 85, 86, 87, 88, 89, 90, 91, 92, 93, 94, 95, 96, 97] (by decide +kernel) (by decide +kernel)
set_option maxRecDepth 20000 in
theorem gX3_spiltIfCleaned_X1_spiltLitres : GoodIn wsX3_spiltIfCleaned (wsV RX3 107 RX1 yX1_spiltLitres wsX1_spiltLitres) := goodIn_app (goodIn_of _ (by decide +kernel)) ggX3_spiltIfCleaned_X1_spiltLitres
theorem dX3_spiltIfCleaned_0 : decode cX3_spiltIfCleaned 0 = .ok (.aload_n 0, 1) := by decide +kernel
theorem dX3_spiltIfCleaned_1 : decode cX3_spiltIfCleaned 1 = .ok (.getfield 16, 3) := by decide +kernel
theorem dX3_spiltIfCleaned_4 : decode cX3_spiltIfCleaned 4 = .ok (.aload_n 0, 1) := by decide +kernel
theorem dX3_spiltIfCleaned_5 : decode cX3_spiltIfCleaned 5 = .ok (.getfield 10, 3) := by decide +kernel
theorem dX3_spiltIfCleaned_8 : decode cX3_spiltIfCleaned 8 = .ok (.invokevirtual 158, 3) := by decide +kernel
theorem dX3_spiltIfCleaned_11 : decode cX3_spiltIfCleaned 11 = .ok (.aload_n 0, 1) := by decide +kernel
theorem dX3_spiltIfCleaned_12 : decode cX3_spiltIfCleaned 12 = .ok (.getfield 16, 3) := by decide +kernel
theorem dX3_spiltIfCleaned_15 : decode cX3_spiltIfCleaned 15 = .ok (.iload_n 1, 1) := by decide +kernel
theorem dX3_spiltIfCleaned_16 : decode cX3_spiltIfCleaned 16 = .ok (.invokevirtual 87, 3) := by decide +kernel
theorem dX3_spiltIfCleaned_19 : decode cX3_spiltIfCleaned 19 = .ok (.pop, 1) := by decide +kernel
theorem dX3_spiltIfCleaned_20 : decode cX3_spiltIfCleaned 20 = .ok (.aload_n 0, 1) := by decide +kernel
theorem dX3_spiltIfCleaned_21 : decode cX3_spiltIfCleaned 21 = .ok (.getfield 16, 3) := by decide +kernel
theorem dX3_spiltIfCleaned_24 : decode cX3_spiltIfCleaned 24 = .ok (.aload_n 0, 1) := by decide +kernel
theorem dX3_spiltIfCleaned_25 : decode cX3_spiltIfCleaned 25 = .ok (.getfield 10, 3) := by decide +kernel
theorem dX3_spiltIfCleaned_28 : decode cX3_spiltIfCleaned 28 = .ok (.iconst 2, 1) := by decide +kernel
theorem dX3_spiltIfCleaned_29 : decode cX3_spiltIfCleaned 29 = .ok (.invokevirtual 194, 3) := by decide +kernel
theorem dX3_spiltIfCleaned_32 : decode cX3_spiltIfCleaned 32 = .ok (.bipush 30, 2) := by decide +kernel
theorem dX3_spiltIfCleaned_34 : decode cX3_spiltIfCleaned 34 = .ok (.invokevirtual 111, 3) := by decide +kernel
theorem dX3_spiltIfCleaned_37 : decode cX3_spiltIfCleaned 37 = .ok (.aload_n 0, 1) := by decide +kernel
theorem dX3_spiltIfCleaned_38 : decode cX3_spiltIfCleaned 38 = .ok (.getfield 16, 3) := by decide +kernel
theorem dX3_spiltIfCleaned_41 : decode cX3_spiltIfCleaned 41 = .ok (.invokevirtual 107, 3) := by decide +kernel
theorem dX3_spiltIfCleaned_44 : decode cX3_spiltIfCleaned 44 = .ok (.aload_n 0, 1) := by decide +kernel
theorem dX3_spiltIfCleaned_45 : decode cX3_spiltIfCleaned 45 = .ok (.getfield 10, 3) := by decide +kernel
theorem dX3_spiltIfCleaned_48 : decode cX3_spiltIfCleaned 48 = .ok (.invokevirtual 107, 3) := by decide +kernel
theorem dX3_spiltIfCleaned_51 : decode cX3_spiltIfCleaned 51 = .ok (.isub, 1) := by decide +kernel
theorem dX3_spiltIfCleaned_52 : decode cX3_spiltIfCleaned 52 = .ok (.ireturn, 1) := by decide +kernel
set_option maxRecDepth 20000 in
theorem ggX3_wouldSpill_X1_copyFrom : GoodIn wsX3_wouldSpill wsX1_copyFrom := goodIn_r _ [7, 8, 9, 10, 11, 12, 13, 14, 15, 16, 17, 18, 19, 20, 21, 22, 23, 24, 25, 26, 27, 67, 68, 69, 70, 71, 72, 73, 74, 75, 76, 77, 78, 79, 80, 81, 82] (by decide +kernel) (by decide +kernel)
set_option maxRecDepth 20000 in
theorem gX3_wouldSpill_X1_copyFrom : GoodIn wsX3_wouldSpill (wsV RX3 158 RX1 yX1_copyFrom wsX1_copyFrom) := goodIn_app (goodIn_of _ (by decide +kernel)) ggX3_wouldSpill_X1_copyFrom
set_option maxRecDepth 20000 in
theorem ggX3_wouldSpill_X1_passMinute : GoodIn wsX3_wouldSpill wsX1_passMinute := goodIn_r _ [31, 24, 32, 33, 34, 6, 35, 8, 26, 15, 13, 14, 20, 36, 37, 38, 39, 40, 41, 42, 23, 43, 44, 45, 46, 22, 27, 47, 48, 49, 50, 17, 18, 51, 52, 53, 54, 19, 21, 55, 56, 57, 58, 16, 67, 68, 69, 70, 71, 72, 73, 74, 75, 76, 77, 78, 79, 80, 81, 82] (by decide +kernel) (by decide +kernel)
set_option maxRecDepth 20000 in
theorem gX3_wouldSpill_X1_passMinute : GoodIn wsX3_wouldSpill (wsV RX3 201 RX1 yX1_passMinute wsX1_passMinute) := goodIn_app (goodIn_of _ (by decide +kernel)) ggX3_wouldSpill_X1_passMinute
set_option maxRecDepth 20000 in
theorem ggX3_wouldSpill_X1_lowestThatSpiltMoreThanIn : GoodIn wsX3_wouldSpill wsX1_lowestThatSpiltMoreThanIn := goodIn_r _ [62, 21, 67, 68, 69, 70, 71, 72, 73, 74, 75, 76, 77, 78, 79, 80, 81, 82] (by decide +kernel) (by decide +kernel)
set_option maxRecDepth 20000 in
theorem gX3_wouldSpill_X1_lowestThatSpiltMoreThanIn : GoodIn wsX3_wouldSpill (wsV RX3 204 RX1 yX1_lowestThatSpiltMoreThanIn wsX1_lowestThatSpiltMoreThanIn) := goodIn_app (goodIn_of _ (by decide +kernel)) ggX3_wouldSpill_X1_lowestThatSpiltMoreThanIn
theorem dX3_wouldSpill_0 : decode cX3_wouldSpill 0 = .ok (.aload_n 0, 1) := by decide +kernel
theorem dX3_wouldSpill_1 : decode cX3_wouldSpill 1 = .ok (.getfield 16, 3) := by decide +kernel
theorem dX3_wouldSpill_4 : decode cX3_wouldSpill 4 = .ok (.aload_n 0, 1) := by decide +kernel
theorem dX3_wouldSpill_5 : decode cX3_wouldSpill 5 = .ok (.getfield 10, 3) := by decide +kernel
theorem dX3_wouldSpill_8 : decode cX3_wouldSpill 8 = .ok (.invokevirtual 158, 3) := by decide +kernel
theorem dX3_wouldSpill_11 : decode cX3_wouldSpill 11 = .ok (.iconst 0, 1) := by decide +kernel
theorem dX3_wouldSpill_12 : decode cX3_wouldSpill 12 = .ok (.istore_n 3, 1) := by decide +kernel
theorem dX3_wouldSpill_13 : decode cX3_wouldSpill 13 = .ok (.iload_n 3, 1) := by decide +kernel
theorem dX3_wouldSpill_14 : decode cX3_wouldSpill 14 = .ok (.iload_n 2, 1) := by decide +kernel
theorem dX3_wouldSpill_15 : decode cX3_wouldSpill 15 = .ok (.if_icmp .ge 34, 3) := by decide +kernel
theorem dX3_wouldSpill_18 : decode cX3_wouldSpill 18 = .ok (.aload_n 0, 1) := by decide +kernel
theorem dX3_wouldSpill_19 : decode cX3_wouldSpill 19 = .ok (.getfield 16, 3) := by decide +kernel
theorem dX3_wouldSpill_22 : decode cX3_wouldSpill 22 = .ok (.iload_n 1, 1) := by decide +kernel
theorem dX3_wouldSpill_23 : decode cX3_wouldSpill 23 = .ok (.invokevirtual 201, 3) := by decide +kernel
theorem dX3_wouldSpill_26 : decode cX3_wouldSpill 26 = .ok (.aload_n 0, 1) := by decide +kernel
theorem dX3_wouldSpill_27 : decode cX3_wouldSpill 27 = .ok (.getfield 16, 3) := by decide +kernel
theorem dX3_wouldSpill_30 : decode cX3_wouldSpill 30 = .ok (.aload_n 0, 1) := by decide +kernel
theorem dX3_wouldSpill_31 : decode cX3_wouldSpill 31 = .ok (.getfield 10, 3) := by decide +kernel
theorem dX3_wouldSpill_34 : decode cX3_wouldSpill 34 = .ok (.invokevirtual 204, 3) := by decide +kernel
theorem dX3_wouldSpill_37 : decode cX3_wouldSpill 37 = .ok (.iconst (-1), 1) := by decide +kernel
theorem dX3_wouldSpill_38 : decode cX3_wouldSpill 38 = .ok (.if_icmp .eq 5, 3) := by decide +kernel
theorem dX3_wouldSpill_41 : decode cX3_wouldSpill 41 = .ok (.iconst 1, 1) := by decide +kernel
theorem dX3_wouldSpill_42 : decode cX3_wouldSpill 42 = .ok (.ireturn, 1) := by decide +kernel
theorem dX3_wouldSpill_43 : decode cX3_wouldSpill 43 = .ok (.iinc 3 1, 3) := by decide +kernel
theorem dX3_wouldSpill_46 : decode cX3_wouldSpill 46 = .ok (.goto (-33), 3) := by decide +kernel
theorem dX3_wouldSpill_49 : decode cX3_wouldSpill 49 = .ok (.iconst 0, 1) := by decide +kernel
theorem dX3_wouldSpill_50 : decode cX3_wouldSpill 50 = .ok (.ireturn, 1) := by decide +kernel
theorem dX3_hashWith_0 : decode cX3_hashWith 0 = .ok (.ldc2_w 258, 3) := by decide +kernel
theorem dX3_hashWith_3 : decode cX3_hashWith 3 = .ok (.lload_n 0, 1) := by decide +kernel
theorem dX3_hashWith_4 : decode cX3_hashWith 4 = .ok (.lmul, 1) := by decide +kernel
theorem dX3_hashWith_5 : decode cX3_hashWith 5 = .ok (.lload_n 2, 1) := by decide +kernel
theorem dX3_hashWith_6 : decode cX3_hashWith 6 = .ok (.ladd, 1) := by decide +kernel
theorem dX3_hashWith_7 : decode cX3_hashWith 7 = .ok (.lreturn, 1) := by decide +kernel
set_option maxRecDepth 20000 in
theorem ggX3_hashOfCounts_X3_count : GoodIn wsX3_hashOfCounts wsX3_count := goodIn_ca (goodIn_r _ [6, 7, 8, 1, 9, 10, 11, 12, 13, 14, 15, 16, 17, 18, 19, 20, 21, 22, 23, 24, 25, 26, 27, 28, 29, 30, 31, 32, 33, 34, 35, 36, 37, 38, 39, 40, 41, 42, 43, 44, 45, 46, 47, 48, 49, 50, 51, 52, 53, 54, 55, 56, 57, 58, 59, 60, 70, 71, 72, 73, 74, 75, 76, 77, 78, 79, 80, 81, 82, 83, 84, 85, 86, 87, 88, 89, 90, 91, 92] (by decide +kernel) (by decide +kernel)) (goodIn_sub (fun _ h => List.mem_cons_of_mem _ (List.mem_append_right _ h)) (by decide +kernel))
set_option maxRecDepth 20000 in
theorem gX3_hashOfCounts_X3_count : GoodIn wsX3_hashOfCounts (wsV RX3 260 RX3 yX3_count wsX3_count) := goodIn_app (goodIn_of _ (by decide +kernel)) ggX3_hashOfCounts_X3_count
set_option maxRecDepth 20000 in
theorem ggX3_hashOfCounts_X3_hashWith : GoodIn wsX3_hashOfCounts wsX3_hashWith := goodIn_r _ [63, 64] (by decide +kernel) (by decide +kernel)
set_option maxRecDepth 20000 in
theorem gX3_hashOfCounts_X3_hashWith : GoodIn wsX3_hashOfCounts (va_wsS RX3 231 yX3_hashWith wsX3_hashWith) := goodIn_app (goodIn_of _ (by decide +kernel)) ggX3_hashOfCounts_X3_hashWith
set_option maxRecDepth 20000 in
theorem ggX3_hashOfCounts_X1_settingValue : GoodIn wsX3_hashOfCounts wsX1_settingValue := goodIn_r _ [68, 69, 74, 75, 76, 77, 78, 79, 80, 81, 82, 83, 84, 85, 86, 87, 88, 89] (by decide +kernel) (by decide +kernel)
set_option maxRecDepth 20000 in
theorem gX3_hashOfCounts_X1_settingValue : GoodIn wsX3_hashOfCounts (wsV RX3 194 RX1 yX1_settingValue wsX1_settingValue) := goodIn_app (goodIn_of _ (by decide +kernel)) ggX3_hashOfCounts_X1_settingValue
theorem dX3_hashOfCounts_0 : decode cX3_hashOfCounts 0 = .ok (.lload_n 1, 1) := by decide +kernel
theorem dX3_hashOfCounts_1 : decode cX3_hashOfCounts 1 = .ok (.lstore_n 3, 1) := by decide +kernel
theorem dX3_hashOfCounts_2 : decode cX3_hashOfCounts 2 = .ok (.iconst 0, 1) := by decide +kernel
theorem dX3_hashOfCounts_3 : decode cX3_hashOfCounts 3 = .ok (.istore 5, 2) := by decide +kernel
theorem dX3_hashOfCounts_5 : decode cX3_hashOfCounts 5 = .ok (.iload 5, 2) := by decide +kernel
theorem dX3_hashOfCounts_7 : decode cX3_hashOfCounts 7 = .ok (.bipush 8, 2) := by decide +kernel
theorem dX3_hashOfCounts_9 : decode cX3_hashOfCounts 9 = .ok (.if_icmp .gt 21, 3) := by decide +kernel
theorem dX3_hashOfCounts_12 : decode cX3_hashOfCounts 12 = .ok (.lload_n 3, 1) := by decide +kernel
theorem dX3_hashOfCounts_13 : decode cX3_hashOfCounts 13 = .ok (.aload_n 0, 1) := by decide +kernel
theorem dX3_hashOfCounts_14 : decode cX3_hashOfCounts 14 = .ok (.iload 5, 2) := by decide +kernel
theorem dX3_hashOfCounts_16 : decode cX3_hashOfCounts 16 = .ok (.invokevirtual 260, 3) := by decide +kernel
theorem dX3_hashOfCounts_19 : decode cX3_hashOfCounts 19 = .ok (.i2l, 1) := by decide +kernel
theorem dX3_hashOfCounts_20 : decode cX3_hashOfCounts 20 = .ok (.invokestatic 231, 3) := by decide +kernel
theorem dX3_hashOfCounts_23 : decode cX3_hashOfCounts 23 = .ok (.lstore_n 3, 1) := by decide +kernel
theorem dX3_hashOfCounts_24 : decode cX3_hashOfCounts 24 = .ok (.iinc 5 1, 3) := by decide +kernel
theorem dX3_hashOfCounts_27 : decode cX3_hashOfCounts 27 = .ok (.goto (-22), 3) := by decide +kernel
theorem dX3_hashOfCounts_30 : decode cX3_hashOfCounts 30 = .ok (.iconst 0, 1) := by decide +kernel
theorem dX3_hashOfCounts_31 : decode cX3_hashOfCounts 31 = .ok (.istore 5, 2) := by decide +kernel
theorem dX3_hashOfCounts_33 : decode cX3_hashOfCounts 33 = .ok (.iload 5, 2) := by decide +kernel
theorem dX3_hashOfCounts_35 : decode cX3_hashOfCounts 35 = .ok (.iconst 3, 1) := by decide +kernel
theorem dX3_hashOfCounts_36 : decode cX3_hashOfCounts 36 = .ok (.if_icmp .ge 24, 3) := by decide +kernel
theorem dX3_hashOfCounts_39 : decode cX3_hashOfCounts 39 = .ok (.lload_n 3, 1) := by decide +kernel
theorem dX3_hashOfCounts_40 : decode cX3_hashOfCounts 40 = .ok (.aload_n 0, 1) := by decide +kernel
theorem dX3_hashOfCounts_41 : decode cX3_hashOfCounts 41 = .ok (.getfield 10, 3) := by decide +kernel
theorem dX3_hashOfCounts_44 : decode cX3_hashOfCounts 44 = .ok (.iload 5, 2) := by decide +kernel
theorem dX3_hashOfCounts_46 : decode cX3_hashOfCounts 46 = .ok (.invokevirtual 194, 3) := by decide +kernel
theorem dX3_hashOfCounts_49 : decode cX3_hashOfCounts 49 = .ok (.i2l, 1) := by decide +kernel
theorem dX3_hashOfCounts_50 : decode cX3_hashOfCounts 50 = .ok (.invokestatic 231, 3) := by decide +kernel
theorem dX3_hashOfCounts_53 : decode cX3_hashOfCounts 53 = .ok (.lstore_n 3, 1) := by decide +kernel
theorem dX3_hashOfCounts_54 : decode cX3_hashOfCounts 54 = .ok (.iinc 5 1, 3) := by decide +kernel
theorem dX3_hashOfCounts_57 : decode cX3_hashOfCounts 57 = .ok (.goto (-24), 3) := by decide +kernel
theorem dX3_hashOfCounts_60 : decode cX3_hashOfCounts 60 = .ok (.lload_n 3, 1) := by decide +kernel
theorem dX3_hashOfCounts_61 : decode cX3_hashOfCounts 61 = .ok (.lreturn, 1) := by decide +kernel
set_option maxRecDepth 20000 in
theorem ggX3_hashOfRoof_X1_planeNumber : GoodIn wsX3_hashOfRoof wsX1_planeNumber := goodIn_r _ [6, 7, 8, 9, 10, 39, 40, 41, 42, 43, 44, 45, 46, 47, 48, 49, 50, 51, 52, 53, 54] (by decide +kernel) (by decide +kernel)
set_option maxRecDepth 20000 in
theorem gX3_hashOfRoof_X1_planeNumber : GoodIn wsX3_hashOfRoof (wsV RX3 168 RX1 yX1_planeNumber wsX1_planeNumber) := goodIn_app (goodIn_of _ (by decide +kernel)) ggX3_hashOfRoof_X1_planeNumber
set_option maxRecDepth 20000 in
theorem ggX3_hashOfRoof_X3_hashWith : GoodIn wsX3_hashOfRoof wsX3_hashWith := goodIn_r _ [14, 15] (by decide +kernel) (by decide +kernel)
set_option maxRecDepth 20000 in
theorem gX3_hashOfRoof_X3_hashWith : GoodIn wsX3_hashOfRoof (va_wsS RX3 231 yX3_hashWith wsX3_hashWith) := goodIn_app (goodIn_of _ (by decide +kernel)) ggX3_hashOfRoof_X3_hashWith
set_option maxRecDepth 20000 in
theorem ggX3_hashOfRoof_X1_gutterNumber : GoodIn wsX3_hashOfRoof wsX1_gutterNumber := goodIn_r _ [19, 20, 21, 22, 23, 24, 25, 26, 27, 28, 29, 5, 30, 31, 32, 33, 34, 39, 40, 41, 42, 43, 44, 45, 46, 47, 48, 49, 50, 51, 52, 53, 54] (by decide +kernel) (by decide +kernel)
set_option maxRecDepth 20000 in
theorem gX3_hashOfRoof_X1_gutterNumber : GoodIn wsX3_hashOfRoof (wsV RX3 173 RX1 yX1_gutterNumber wsX1_gutterNumber) := goodIn_app (goodIn_of _ (by decide +kernel)) ggX3_hashOfRoof_X1_gutterNumber
theorem dX3_hashOfRoof_0 : decode cX3_hashOfRoof 0 = .ok (.lload_n 1, 1) := by decide +kernel
theorem dX3_hashOfRoof_1 : decode cX3_hashOfRoof 1 = .ok (.lstore_n 3, 1) := by decide +kernel
theorem dX3_hashOfRoof_2 : decode cX3_hashOfRoof 2 = .ok (.iconst 0, 1) := by decide +kernel
theorem dX3_hashOfRoof_3 : decode cX3_hashOfRoof 3 = .ok (.istore 5, 2) := by decide +kernel
theorem dX3_hashOfRoof_5 : decode cX3_hashOfRoof 5 = .ok (.iload 5, 2) := by decide +kernel
theorem dX3_hashOfRoof_7 : decode cX3_hashOfRoof 7 = .ok (.bipush 6, 2) := by decide +kernel
theorem dX3_hashOfRoof_9 : decode cX3_hashOfRoof 9 = .ok (.if_icmp .ge 41, 3) := by decide +kernel
theorem dX3_hashOfRoof_12 : decode cX3_hashOfRoof 12 = .ok (.iconst 0, 1) := by decide +kernel
theorem dX3_hashOfRoof_13 : decode cX3_hashOfRoof 13 = .ok (.istore 6, 2) := by decide +kernel
theorem dX3_hashOfRoof_15 : decode cX3_hashOfRoof 15 = .ok (.iload 6, 2) := by decide +kernel
theorem dX3_hashOfRoof_17 : decode cX3_hashOfRoof 17 = .ok (.iconst 3, 1) := by decide +kernel
theorem dX3_hashOfRoof_18 : decode cX3_hashOfRoof 18 = .ok (.if_icmp .gt 26, 3) := by decide +kernel
theorem dX3_hashOfRoof_21 : decode cX3_hashOfRoof 21 = .ok (.lload_n 3, 1) := by decide +kernel
theorem dX3_hashOfRoof_22 : decode cX3_hashOfRoof 22 = .ok (.aload_n 0, 1) := by decide +kernel
theorem dX3_hashOfRoof_23 : decode cX3_hashOfRoof 23 = .ok (.getfield 10, 3) := by decide +kernel
theorem dX3_hashOfRoof_26 : decode cX3_hashOfRoof 26 = .ok (.iload 5, 2) := by decide +kernel
theorem dX3_hashOfRoof_28 : decode cX3_hashOfRoof 28 = .ok (.iload 6, 2) := by decide +kernel
theorem dX3_hashOfRoof_30 : decode cX3_hashOfRoof 30 = .ok (.invokevirtual 168, 3) := by decide +kernel
theorem dX3_hashOfRoof_33 : decode cX3_hashOfRoof 33 = .ok (.i2l, 1) := by decide +kernel
theorem dX3_hashOfRoof_34 : decode cX3_hashOfRoof 34 = .ok (.invokestatic 231, 3) := by decide +kernel
theorem dX3_hashOfRoof_37 : decode cX3_hashOfRoof 37 = .ok (.lstore_n 3, 1) := by decide +kernel
theorem dX3_hashOfRoof_38 : decode cX3_hashOfRoof 38 = .ok (.iinc 6 1, 3) := by decide +kernel
theorem dX3_hashOfRoof_41 : decode cX3_hashOfRoof 41 = .ok (.goto (-26), 3) := by decide +kernel
theorem dX3_hashOfRoof_44 : decode cX3_hashOfRoof 44 = .ok (.iinc 5 1, 3) := by decide +kernel
theorem dX3_hashOfRoof_47 : decode cX3_hashOfRoof 47 = .ok (.goto (-42), 3) := by decide +kernel
theorem dX3_hashOfRoof_50 : decode cX3_hashOfRoof 50 = .ok (.iconst 0, 1) := by decide +kernel
theorem dX3_hashOfRoof_51 : decode cX3_hashOfRoof 51 = .ok (.istore 5, 2) := by decide +kernel
theorem dX3_hashOfRoof_53 : decode cX3_hashOfRoof 53 = .ok (.iload 5, 2) := by decide +kernel
theorem dX3_hashOfRoof_55 : decode cX3_hashOfRoof 55 = .ok (.bipush 6, 2) := by decide +kernel
theorem dX3_hashOfRoof_57 : decode cX3_hashOfRoof 57 = .ok (.if_icmp .ge 42, 3) := by decide +kernel
theorem dX3_hashOfRoof_60 : decode cX3_hashOfRoof 60 = .ok (.iconst 0, 1) := by decide +kernel
theorem dX3_hashOfRoof_61 : decode cX3_hashOfRoof 61 = .ok (.istore 6, 2) := by decide +kernel
theorem dX3_hashOfRoof_63 : decode cX3_hashOfRoof 63 = .ok (.iload 6, 2) := by decide +kernel
theorem dX3_hashOfRoof_65 : decode cX3_hashOfRoof 65 = .ok (.bipush 8, 2) := by decide +kernel
theorem dX3_hashOfRoof_67 : decode cX3_hashOfRoof 67 = .ok (.if_icmp .gt 26, 3) := by decide +kernel
theorem dX3_hashOfRoof_70 : decode cX3_hashOfRoof 70 = .ok (.lload_n 3, 1) := by decide +kernel
theorem dX3_hashOfRoof_71 : decode cX3_hashOfRoof 71 = .ok (.aload_n 0, 1) := by decide +kernel
theorem dX3_hashOfRoof_72 : decode cX3_hashOfRoof 72 = .ok (.getfield 10, 3) := by decide +kernel
theorem dX3_hashOfRoof_75 : decode cX3_hashOfRoof 75 = .ok (.iload 5, 2) := by decide +kernel
theorem dX3_hashOfRoof_77 : decode cX3_hashOfRoof 77 = .ok (.iload 6, 2) := by decide +kernel
theorem dX3_hashOfRoof_79 : decode cX3_hashOfRoof 79 = .ok (.invokevirtual 173, 3) := by decide +kernel
theorem dX3_hashOfRoof_82 : decode cX3_hashOfRoof 82 = .ok (.i2l, 1) := by decide +kernel
theorem dX3_hashOfRoof_83 : decode cX3_hashOfRoof 83 = .ok (.invokestatic 231, 3) := by decide +kernel
theorem dX3_hashOfRoof_86 : decode cX3_hashOfRoof 86 = .ok (.lstore_n 3, 1) := by decide +kernel
theorem dX3_hashOfRoof_87 : decode cX3_hashOfRoof 87 = .ok (.iinc 6 1, 3) := by decide +kernel
theorem dX3_hashOfRoof_90 : decode cX3_hashOfRoof 90 = .ok (.goto (-27), 3) := by decide +kernel
theorem dX3_hashOfRoof_93 : decode cX3_hashOfRoof 93 = .ok (.iinc 5 1, 3) := by decide +kernel
theorem dX3_hashOfRoof_96 : decode cX3_hashOfRoof 96 = .ok (.goto (-43), 3) := by decide +kernel
theorem dX3_hashOfRoof_99 : decode cX3_hashOfRoof 99 = .ok (.lload_n 3, 1) := by decide +kernel
theorem dX3_hashOfRoof_100 : decode cX3_hashOfRoof 100 = .ok (.lreturn, 1) := by decide +kernel
set_option maxRecDepth 20000 in
theorem ggX3_hashOfText_X0_length : GoodIn wsX3_hashOfText wsX0_length := goodIn_r _ [6, 7, 22, 23] (by decide +kernel) (by decide +kernel)
set_option maxRecDepth 20000 in
theorem gX3_hashOfText_X0_length : GoodIn wsX3_hashOfText (wsV RX3 135 RX0 yX0_length wsX0_length) := goodIn_app (goodIn_of _ (by decide +kernel)) ggX3_hashOfText_X0_length
set_option maxRecDepth 20000 in
theorem ggX3_hashOfText_X3_hashWith : GoodIn wsX3_hashOfText wsX3_hashWith := goodIn_r _ [11, 12] (by decide +kernel) (by decide +kernel)
set_option maxRecDepth 20000 in
theorem gX3_hashOfText_X3_hashWith : GoodIn wsX3_hashOfText (va_wsS RX3 231 yX3_hashWith wsX3_hashWith) := goodIn_app (goodIn_of _ (by decide +kernel)) ggX3_hashOfText_X3_hashWith
set_option maxRecDepth 20000 in
theorem ggX3_hashOfText_X0_codeAt : GoodIn wsX3_hashOfText wsX0_codeAt := goodIn_r _ [16, 17, 22, 23] (by decide +kernel) (by decide +kernel)
set_option maxRecDepth 20000 in
theorem gX3_hashOfText_X0_codeAt : GoodIn wsX3_hashOfText (wsV RX3 263 RX0 yX0_codeAt wsX0_codeAt) := goodIn_app (goodIn_of _ (by decide +kernel)) ggX3_hashOfText_X0_codeAt
theorem dX3_hashOfText_0 : decode cX3_hashOfText 0 = .ok (.lload_n 1, 1) := by decide +kernel
theorem dX3_hashOfText_1 : decode cX3_hashOfText 1 = .ok (.aload_n 0, 1) := by decide +kernel
theorem dX3_hashOfText_2 : decode cX3_hashOfText 2 = .ok (.getfield 29, 3) := by decide +kernel
theorem dX3_hashOfText_5 : decode cX3_hashOfText 5 = .ok (.invokevirtual 135, 3) := by decide +kernel
theorem dX3_hashOfText_8 : decode cX3_hashOfText 8 = .ok (.i2l, 1) := by decide +kernel
theorem dX3_hashOfText_9 : decode cX3_hashOfText 9 = .ok (.invokestatic 231, 3) := by decide +kernel
theorem dX3_hashOfText_12 : decode cX3_hashOfText 12 = .ok (.lstore_n 3, 1) := by decide +kernel
theorem dX3_hashOfText_13 : decode cX3_hashOfText 13 = .ok (.iconst 0, 1) := by decide +kernel
theorem dX3_hashOfText_14 : decode cX3_hashOfText 14 = .ok (.istore 5, 2) := by decide +kernel
theorem dX3_hashOfText_16 : decode cX3_hashOfText 16 = .ok (.iload 5, 2) := by decide +kernel
theorem dX3_hashOfText_18 : decode cX3_hashOfText 18 = .ok (.aload_n 0, 1) := by decide +kernel
theorem dX3_hashOfText_19 : decode cX3_hashOfText 19 = .ok (.getfield 29, 3) := by decide +kernel
theorem dX3_hashOfText_22 : decode cX3_hashOfText 22 = .ok (.invokevirtual 135, 3) := by decide +kernel
theorem dX3_hashOfText_25 : decode cX3_hashOfText 25 = .ok (.if_icmp .ge 24, 3) := by decide +kernel
theorem dX3_hashOfText_28 : decode cX3_hashOfText 28 = .ok (.lload_n 3, 1) := by decide +kernel
theorem dX3_hashOfText_29 : decode cX3_hashOfText 29 = .ok (.aload_n 0, 1) := by decide +kernel
theorem dX3_hashOfText_30 : decode cX3_hashOfText 30 = .ok (.getfield 29, 3) := by decide +kernel
theorem dX3_hashOfText_33 : decode cX3_hashOfText 33 = .ok (.iload 5, 2) := by decide +kernel
theorem dX3_hashOfText_35 : decode cX3_hashOfText 35 = .ok (.invokevirtual 263, 3) := by decide +kernel
theorem dX3_hashOfText_38 : decode cX3_hashOfText 38 = .ok (.i2l, 1) := by decide +kernel
theorem dX3_hashOfText_39 : decode cX3_hashOfText 39 = .ok (.invokestatic 231, 3) := by decide +kernel
theorem dX3_hashOfText_42 : decode cX3_hashOfText 42 = .ok (.lstore_n 3, 1) := by decide +kernel
theorem dX3_hashOfText_43 : decode cX3_hashOfText 43 = .ok (.iinc 5 1, 3) := by decide +kernel
theorem dX3_hashOfText_46 : decode cX3_hashOfText 46 = .ok (.goto (-30), 3) := by decide +kernel
theorem dX3_hashOfText_49 : decode cX3_hashOfText 49 = .ok (.lload_n 3, 1) := by decide +kernel
theorem dX3_hashOfText_50 : decode cX3_hashOfText 50 = .ok (.lreturn, 1) := by decide +kernel
theorem dX3_bitsOfShare_0 : decode cX3_bitsOfShare 0 = .ok (.dload_n 0, 1) := by decide +kernel
theorem dX3_bitsOfShare_1 : decode cX3_bitsOfShare 1 = .ok (.dconst 0, 1) := by decide +kernel
theorem dX3_bitsOfShare_2 : decode cX3_bitsOfShare 2 = .ok (.dcmp .g, 1) := by decide +kernel
theorem dX3_bitsOfShare_3 : decode cX3_bitsOfShare 3 = .ok (.ifCond .gt 5, 3) := by decide +kernel
theorem dX3_bitsOfShare_6 : decode cX3_bitsOfShare 6 = .ok (.lconst 0, 1) := by decide +kernel
theorem dX3_bitsOfShare_7 : decode cX3_bitsOfShare 7 = .ok (.lreturn, 1) := by decide +kernel
theorem dX3_bitsOfShare_8 : decode cX3_bitsOfShare 8 = .ok (.dload_n 0, 1) := by decide +kernel
theorem dX3_bitsOfShare_9 : decode cX3_bitsOfShare 9 = .ok (.dstore_n 2, 1) := by decide +kernel
theorem dX3_bitsOfShare_10 : decode cX3_bitsOfShare 10 = .ok (.lconst 0, 1) := by decide +kernel
theorem dX3_bitsOfShare_11 : decode cX3_bitsOfShare 11 = .ok (.lstore 4, 2) := by decide +kernel
theorem dX3_bitsOfShare_13 : decode cX3_bitsOfShare 13 = .ok (.dload_n 2, 1) := by decide +kernel
theorem dX3_bitsOfShare_14 : decode cX3_bitsOfShare 14 = .ok (.dconst 1, 1) := by decide +kernel
theorem dX3_bitsOfShare_15 : decode cX3_bitsOfShare 15 = .ok (.dcmp .g, 1) := by decide +kernel
theorem dX3_bitsOfShare_16 : decode cX3_bitsOfShare 16 = .ok (.ifCond .ge 27, 3) := by decide +kernel
theorem dX3_bitsOfShare_19 : decode cX3_bitsOfShare 19 = .ok (.lload 4, 2) := by decide +kernel
theorem dX3_bitsOfShare_21 : decode cX3_bitsOfShare 21 = .ok (.ldc2_w 266, 3) := by decide +kernel
theorem dX3_bitsOfShare_24 : decode cX3_bitsOfShare 24 = .ok (.lcmp, 1) := by decide +kernel
theorem dX3_bitsOfShare_25 : decode cX3_bitsOfShare 25 = .ok (.ifCond .ge 18, 3) := by decide +kernel
theorem dX3_bitsOfShare_28 : decode cX3_bitsOfShare 28 = .ok (.dload_n 2, 1) := by decide +kernel
theorem dX3_bitsOfShare_29 : decode cX3_bitsOfShare 29 = .ok (.ldc2_w 268, 3) := by decide +kernel
theorem dX3_bitsOfShare_32 : decode cX3_bitsOfShare 32 = .ok (.dmul, 1) := by decide +kernel
theorem dX3_bitsOfShare_33 : decode cX3_bitsOfShare 33 = .ok (.dstore_n 2, 1) := by decide +kernel
theorem dX3_bitsOfShare_34 : decode cX3_bitsOfShare 34 = .ok (.lload 4, 2) := by decide +kernel
theorem dX3_bitsOfShare_36 : decode cX3_bitsOfShare 36 = .ok (.lconst 1, 1) := by decide +kernel
theorem dX3_bitsOfShare_37 : decode cX3_bitsOfShare 37 = .ok (.ladd, 1) := by decide +kernel
theorem dX3_bitsOfShare_38 : decode cX3_bitsOfShare 38 = .ok (.lstore 4, 2) := by decide +kernel
theorem dX3_bitsOfShare_40 : decode cX3_bitsOfShare 40 = .ok (.goto (-27), 3) := by decide +kernel
theorem dX3_bitsOfShare_43 : decode cX3_bitsOfShare 43 = .ok (.dload_n 2, 1) := by decide +kernel
theorem dX3_bitsOfShare_44 : decode cX3_bitsOfShare 44 = .ok (.dconst 1, 1) := by decide +kernel
theorem dX3_bitsOfShare_45 : decode cX3_bitsOfShare 45 = .ok (.dsub, 1) := by decide +kernel
theorem dX3_bitsOfShare_46 : decode cX3_bitsOfShare 46 = .ok (.ldc2_w 270, 3) := by decide +kernel
theorem dX3_bitsOfShare_49 : decode cX3_bitsOfShare 49 = .ok (.dmul, 1) := by decide +kernel
theorem dX3_bitsOfShare_50 : decode cX3_bitsOfShare 50 = .ok (.dstore 6, 2) := by decide +kernel
theorem dX3_bitsOfShare_52 : decode cX3_bitsOfShare 52 = .ok (.ldc2_w 272, 3) := by decide +kernel
theorem dX3_bitsOfShare_55 : decode cX3_bitsOfShare 55 = .ok (.lload 4, 2) := by decide +kernel
theorem dX3_bitsOfShare_57 : decode cX3_bitsOfShare 57 = .ok (.lsub, 1) := by decide +kernel
theorem dX3_bitsOfShare_58 : decode cX3_bitsOfShare 58 = .ok (.bipush 52, 2) := by decide +kernel
theorem dX3_bitsOfShare_60 : decode cX3_bitsOfShare 60 = .ok (.lshl, 1) := by decide +kernel
theorem dX3_bitsOfShare_61 : decode cX3_bitsOfShare 61 = .ok (.dload 6, 2) := by decide +kernel
theorem dX3_bitsOfShare_63 : decode cX3_bitsOfShare 63 = .ok (.d2l, 1) := by decide +kernel
theorem dX3_bitsOfShare_64 : decode cX3_bitsOfShare 64 = .ok (.ladd, 1) := by decide +kernel
theorem dX3_bitsOfShare_65 : decode cX3_bitsOfShare 65 = .ok (.lreturn, 1) := by decide +kernel
theorem dX3_isWithin_0 : decode cX3_isWithin 0 = .ok (.iload_n 0, 1) := by decide +kernel
theorem dX3_isWithin_1 : decode cX3_isWithin 1 = .ok (.iload_n 1, 1) := by decide +kernel
theorem dX3_isWithin_2 : decode cX3_isWithin 2 = .ok (.if_icmp .lt 12, 3) := by decide +kernel
theorem dX3_isWithin_5 : decode cX3_isWithin 5 = .ok (.iload_n 0, 1) := by decide +kernel
theorem dX3_isWithin_6 : decode cX3_isWithin 6 = .ok (.iload_n 2, 1) := by decide +kernel
theorem dX3_isWithin_7 : decode cX3_isWithin 7 = .ok (.if_icmp .gt 7, 3) := by decide +kernel
theorem dX3_isWithin_10 : decode cX3_isWithin 10 = .ok (.iconst 1, 1) := by decide +kernel
theorem dX3_isWithin_11 : decode cX3_isWithin 11 = .ok (.goto 4, 3) := by decide +kernel
theorem dX3_isWithin_14 : decode cX3_isWithin 14 = .ok (.iconst 0, 1) := by decide +kernel
theorem dX3_isWithin_15 : decode cX3_isWithin 15 = .ok (.ireturn, 1) := by decide +kernel
theorem dX3_isPlane_0 : decode cX3_isPlane 0 = .ok (.iload_n 0, 1) := by decide +kernel
theorem dX3_isPlane_1 : decode cX3_isPlane 1 = .ok (.ifCond .lt 13, 3) := by decide +kernel
theorem dX3_isPlane_4 : decode cX3_isPlane 4 = .ok (.iload_n 0, 1) := by decide +kernel
theorem dX3_isPlane_5 : decode cX3_isPlane 5 = .ok (.bipush 6, 2) := by decide +kernel
theorem dX3_isPlane_7 : decode cX3_isPlane 7 = .ok (.if_icmp .ge 7, 3) := by decide +kernel
theorem dX3_isPlane_10 : decode cX3_isPlane 10 = .ok (.iconst 1, 1) := by decide +kernel
theorem dX3_isPlane_11 : decode cX3_isPlane 11 = .ok (.goto 4, 3) := by decide +kernel
theorem dX3_isPlane_14 : decode cX3_isPlane 14 = .ok (.iconst 0, 1) := by decide +kernel
theorem dX3_isPlane_15 : decode cX3_isPlane 15 = .ok (.ireturn, 1) := by decide +kernel
theorem dX3_isGutter_0 : decode cX3_isGutter 0 = .ok (.iload_n 0, 1) := by decide +kernel
theorem dX3_isGutter_1 : decode cX3_isGutter 1 = .ok (.ifCond .lt 13, 3) := by decide +kernel
theorem dX3_isGutter_4 : decode cX3_isGutter 4 = .ok (.iload_n 0, 1) := by decide +kernel
theorem dX3_isGutter_5 : decode cX3_isGutter 5 = .ok (.bipush 6, 2) := by decide +kernel
theorem dX3_isGutter_7 : decode cX3_isGutter 7 = .ok (.if_icmp .ge 7, 3) := by decide +kernel
theorem dX3_isGutter_10 : decode cX3_isGutter 10 = .ok (.iconst 1, 1) := by decide +kernel
theorem dX3_isGutter_11 : decode cX3_isGutter 11 = .ok (.goto 4, 3) := by decide +kernel
theorem dX3_isGutter_14 : decode cX3_isGutter 14 = .ok (.iconst 0, 1) := by decide +kernel
theorem dX3_isGutter_15 : decode cX3_isGutter 15 = .ok (.ireturn, 1) := by decide +kernel
theorem dX3_isSetting_0 : decode cX3_isSetting 0 = .ok (.iload_n 0, 1) := by decide +kernel
theorem dX3_isSetting_1 : decode cX3_isSetting 1 = .ok (.ifCond .lt 12, 3) := by decide +kernel
theorem dX3_isSetting_4 : decode cX3_isSetting 4 = .ok (.iload_n 0, 1) := by decide +kernel
theorem dX3_isSetting_5 : decode cX3_isSetting 5 = .ok (.iconst 3, 1) := by decide +kernel
theorem dX3_isSetting_6 : decode cX3_isSetting 6 = .ok (.if_icmp .ge 7, 3) := by decide +kernel
theorem dX3_isSetting_9 : decode cX3_isSetting 9 = .ok (.iconst 1, 1) := by decide +kernel
theorem dX3_isSetting_10 : decode cX3_isSetting 10 = .ok (.goto 4, 3) := by decide +kernel
theorem dX3_isSetting_13 : decode cX3_isSetting 13 = .ok (.iconst 0, 1) := by decide +kernel
theorem dX3_isSetting_14 : decode cX3_isSetting 14 = .ok (.ireturn, 1) := by decide +kernel
end
section
/-! rows of my own: banks of ints, contracts whose end is one world and one answer, calls put back in place -/
abbrev rB : Type := Nat → Nat → Int32
def bp (r : rB) (k i : Nat) (x : Int32) : rB := fun a => if a = k then upd (r a) i x else r a
def EV (s : State) : Prop := va_Nw (.methodLinkNest RX1 67 yX3_isGutter RX3) s ∧ va_Nw (.methodLinkNest RX0 29 yX3_isWithin RX3) s ∧ va_Nw (.methodLinkNest RX0 58 yX3_isGutter RX3) s
theorem EV.warm {s U : State} (hW : s.WarmedH U.vm) (h : EV s) : EV U := ⟨va_Nw.warmM hW h.1, va_Nw.warmM hW h.2.1, va_Nw.warmM hW h.2.2⟩
theorem EV.same {s U : State} (hW : s.vm = U.vm) (h : EV s) : EV U := ⟨va_Nw.same rfl hW h.1, va_Nw.same rfl hW h.2.1, va_Nw.same rfl hW h.2.2⟩
abbrev tY (cI cQ cJ : ClassId) : List (ClassId × FieldType) := [(cI, .int), (cQ, .object "RoofDrains$Roof"), (cJ, .long)]
def Prx (D : va_G) (ty : List (ClassId × FieldType)) (sz : Nat) (w : va_W) (U : State) : Prop := U.heap.size = sz ∧ EV U ∧ va_P D vwCl w U.heap ∧ va_K D vwCl ty U ∧ va_D (fun _ => True) w
theorem Prx.blind {D : va_G} {ty : List (ClassId × FieldType)} {sz : Nat} {w : va_W} {av : List Value} : FrameBlind (va_Pc av (Prx D ty sz w)) := fun a U g mk q => by
  obtain ⟨q0, q1, q2, q3, q4, q5⟩ := q
  exact ⟨q0, q1, EV.same (s := U) (U := U.calling g mk a) rfl q2, q3, va_K.moved (u := U) (U := U.calling g mk a) (Vm.Alike.refl U.vm) q4, q5⟩
/-- the world behind a method -/
abbrev Wd (D : va_G) (w : va_W) (t : State) : Prop := va_P D vwCl w t.heap
/-- contracts: from the world w to the world w', answer r; nothing new -/
def Mi (l : Launch) (D : va_G) (ty : List (ClassId × FieldType)) (y : MethodName) (ws : List Cond) (rm : Room) (av : List Value) (w w' : va_W) (r : Int32) : Prop := ∀ sz : Nat, Met l y ws rm (va_Pc av (Prx D ty sz w)) (va_Qi (fun (x : Int32) (_ : Unit) => x = r) (fun _ t => Wd D w' t) (va_A w sz)) 0 0 (va_A w sz)
def Ml (l : Launch) (D : va_G) (ty : List (ClassId × FieldType)) (y : MethodName) (ws : List Cond) (rm : Room) (av : List Value) (w w' : va_W) (r : Int64) : Prop := ∀ sz : Nat, Met l y ws rm (va_Pc av (Prx D ty sz w)) (va_Ql (fun (x : Int64) (_ : Unit) => x = r) (fun _ t => Wd D w' t) (va_A w sz)) 0 0 (va_A w sz)
def Md (l : Launch) (D : va_G) (ty : List (ClassId × FieldType)) (y : MethodName) (ws : List Cond) (rm : Room) (av : List Value) (w w' : va_W) (r : UInt64) : Prop := ∀ sz : Nat, Met l y ws rm (va_Pc av (Prx D ty sz w)) (va_Qd (fun (x : UInt64) (_ : Unit) => x = r) (fun _ t => Wd D w' t) (va_A w sz)) 0 0 (va_A w sz)
def Mv (l : Launch) (D : va_G) (ty : List (ClassId × FieldType)) (y : MethodName) (ws : List Cond) (rm : Room) (av : List Value) (w w' : va_W) : Prop := ∀ sz : Nat, Met l y ws rm (va_Pc av (Prx D ty sz w)) (va_Qv (fun (_ : Unit) => True) (fun _ t => Wd D w' t) (va_A w sz)) 0 0 (va_A w sz)
/-- what a body has at its entry -/
def BF (p : Program) (s : State) (m : MethodId) (args : Array Value) (meth : Method) (c : Code) (cc : ByteArray) (maxL : Nat) (ret : Option FieldType) (Ts : List Cond) (own : String) : Prop :=
  p.tables.exec = Jvm.exec ∧ c.code = cc ∧ meth.sig.returnType = ret ∧ c.maxLocals = maxL ∧ (∀ w ∈ Ts, w.before args s = true) ∧ s.vm.findClass own = some m.cls ∧ meth.locks = false
theorem M_of {l : Launch} {D : va_G} {ty : List (ClassId × FieldType)} {y : MethodName} {ws ws' : List Cond} {rm : Room} {av : List Value} {w : va_W} {cc : ByteArray} {maxL : Nat} {ret : Option FieldType} {Qc : (Nat → Prop) → Array Value → State → Outcome → State → Prop} {mc ms : Nat}
    (hy : plainName y.cls = true) (hw : ws = Cond.code y cc maxL ret :: ws') (hn : (lg_sl av).length ≤ maxL)
    (body : ∀ (p : Program) (e : Env) (s : State) (m : MethodId) (below : List Frame) (meth : Method) (c : Code) (A : Nat → Prop) (ls : Array Slot), BF p s m av.toArray meth c cc maxL ret ws y.cls → EV s → va_P D vwCl w s.heap → va_K D vwCl ty s → va_D A w → (∀ q, s.heap.size ≤ q → A q) → lv_has ls maxL (lv_args 0 av) →
      W p l e rm s m av.toArray below meth c s.heap [] 0 0 (MQ below (Qc A) av.toArray s mc ms A) (F0 m 0 ls [])) (sz : Nat) : Met l y ws rm (va_Pc av (Prx D ty sz w)) (Qc (va_A w sz)) mc ms (va_A w sz) := by
  refine Met.ofW (cc := cc) (maxL := maxL) (ret := ret) hy hw ?_
  intro p e s m args below meth c s₁ B hml hv
  obtain ⟨rfl, hsz, hE, hP, hK, hD0⟩ := hv
  subst hsz
  have hl := lv_entry av (n := maxL) hn
  rw [lg_entry_eq]
  exact body p e s m below meth c _ _ ⟨B.exec, B.bytes, B.returns, hml, atoms_spec (ws := ws) B.pre, findClass_of_methodNamed B.named, B.notSynchronized⟩ hE hP hK hD0.self (fun q h => Or.inr h) hl
section KR
variable {p : Program} {l : Launch} {e : Env} {R : Room} {s : State} {m : MethodId} {args : Array Value} {below : List Frame} {meth : Method} {c : Code} {H : Heap} {locs : List Loc} {cells slots : Nat} {Q : State → Prop}
variable {cc : ByteArray} {pc : Nat} {ls : Array Slot} {rest st0 : List Value} {D : va_G} {A : Nat → Prop} {a : Nat} {tys : List (ClassId × FieldType)} {ws : va_W} {H0 : Heap} {cl : List vw_C}
theorem k_iret {w' : va_W} {r v : Int32} (hx : p.tables.exec = Jvm.exec) (hb : c.code = cc) (hr : meth.sig.returnType = some .int) (hlocks : meth.locks = false) (hS : va_S A s.heap H locs) (hP : va_P D vwCl w' H) (hdg : decode cc pc = .ok (.ireturn, 1)) (hv : v = r) :
    W p l e R s m args below meth c H locs cells slots (MQ below (va_Qi (fun (x : Int32) (_ : Unit) => x = r) (fun _ t => Wd D w' t) A) args s cells slots A) (F0 m pc ls [.int v]) :=
  W.iret hx hb hr (fun t ht hW => ⟨⟨v, (), rfl, hv, by show va_P D vwCl w' t.heap; rw [ht]; exact hP⟩, hS.F ht⟩) hS.2.2 hdg hlocks
theorem k_zret {w' : va_W} {r v : Int32} (hx : p.tables.exec = Jvm.exec) (hb : c.code = cc) (hr : meth.sig.returnType = some .boolean) (hlocks : meth.locks = false) (hS : va_S A s.heap H locs) (hP : va_P D vwCl w' H) (hdg : decode cc pc = .ok (.ireturn, 1)) (hn : narrow .boolean (.int v) = .int v) (hv : v = r) :
    W p l e R s m args below meth c H locs cells slots (MQ below (va_Qi (fun (x : Int32) (_ : Unit) => x = r) (fun _ t => Wd D w' t) A) args s cells slots A) (F0 m pc ls [.int v]) :=
  W.zret hx hb hr hn (fun t ht hW => ⟨⟨v, (), rfl, hv, by show va_P D vwCl w' t.heap; rw [ht]; exact hP⟩, hS.F ht⟩) hS.2.2 hdg hlocks
theorem k_vret {w' : va_W} (hx : p.tables.exec = Jvm.exec) (hb : c.code = cc) (hr : meth.sig.returnType = none) (hlocks : meth.locks = false) (hS : va_S A s.heap H locs) (hP : va_P D vwCl w' H) (hdg : decode cc pc = .ok (.return_, 1)) :
    W p l e R s m args below meth c H locs cells slots (MQ below (va_Qv (fun (_ : Unit) => True) (fun _ t => Wd D w' t) A) args s cells slots A) (F0 m pc ls []) :=
  W.vret hx hb hr (fun t ht hW => ⟨⟨(), rfl, trivial, by show va_P D vwCl w' t.heap; rw [ht]; exact hP⟩, hS.F ht⟩) hS.2.2 hdg hlocks
theorem k_iald (hx : p.tables.exec = Jvm.exec) (hb : c.code = cc) (hK : va_K D cl tys s) (hP : va_P D cl ws H) (q0 t0 : Nat) {cA : ClassId} {n : Nat} {f : Nat → Int32} (ha : ws[q0]? = some (a, .inl (cA, n, .inl f))) (ht : tys[t0]? = some (cA, .int)) {i : Int32} {k : Nat} {v : Int32} (hin : vp_in i n) (hk : i.toNatClampNeg = k) (hv : f k = v) (hdg : decode cc pc = .ok (.iaload, 1))
    (kk : W p l e R s m args below meth c H locs cells slots Q (F0 m (pc + 1) ls (.int v :: rest))) : W p l e R s m args below meth c H locs cells slots Q (F0 m pc ls (.int i :: .ref a :: rest)) := by
  subst hk; subst hv
  exact va_iald hx hb hK hP q0 t0 ha ht hin hdg kk
theorem k_iast (hx : p.tables.exec = Jvm.exec) (hb : c.code = cc) (hK : va_K D cl tys s) (hP : va_P D cl ws H) (hD : va_D A ws) (hS : va_S A H0 H locs) (q0 t0 : Nat) {cA : ClassId} {n : Nat} {f : Nat → Int32} (ha : ws[q0]? = some (a, .inl (cA, n, .inl f))) (ht : tys[t0]? = some (cA, .int)) {i : Int32} {x : Int32} {k : Nat} {ws' : va_W} (hin : vp_in i n) (hk : i.toNatClampNeg = k) (hw : ws.set q0 (a, .inl (cA, n, .inl (upd f k x))) = ws') (hdg : decode cc pc = .ok (.iastore, 1))
    (kk : ∀ (H : Heap) (locs : List Loc), va_P D cl ws' H → va_D A ws' → va_S A H0 H locs → W p l e R s m args below meth c H locs cells slots Q (F0 m (pc + 1) ls rest)) : W p l e R s m args below meth c H locs cells slots Q (F0 m pc ls (.int x :: .int i :: .ref a :: rest)) := by
  subst hk; subst hw
  exact va_iast hx hb hK hP hD hS q0 t0 ha ht hin hdg kk
theorem k_put (hexec : p.tables.exec = Jvm.exec) (hb : c.code = cc) {own ref C : String} {T : u_T} {N ci index : Nat} {Ts : List Cond} (hts : ∀ w ∈ Ts, w.before args s = true) (hin : ∀ w ∈ u_ws C T N, w ∈ Ts) (ty0 : Nat → FieldType) (hty : ∀ k, k < N → parseFieldDescriptor (T k).2.2.1 = some (ty0 k)) (hnm : ∀ a, a < N → ∀ b, b < N → a ≠ b → (T a).2.1 ≠ (T b).2.1) (hown : s.vm.findClass own = some m.cls) (hK : va_K D cl tys s) (hP : va_P D cl ws H) (hD : va_D A ws) (hS0 : va_S A H0 H locs) (q0 : Nat) {fs : List Value} (he : ws[q0]? = some (a, .inr (ci, fs))) (hc : cl[ci]? = some (C, T, N)) (k : Nat) (hk : k < N) (hlink : (Cond.fieldLink own index ref (T k).2.1 (T k).2.2.1).before args s = true) (hsame : ∀ x, s.fieldFound? (T k).1 (T k).2.1 (T k).2.2.1 = some x → s.fieldFound? ref (T k).2.1 (T k).2.2.1 = some x) (hfin : (T k).2.2.2 = false) {ty : FieldType} {v : Value} (hd : parseFieldDescriptor (T k).2.2.1 = some ty) (hn : narrow ty v = v) (hfit : fits ty v = true) (hl : k < fs.length) {ws' : va_W} (hw : ws.set q0 (a, .inr (ci, fs.set k v)) = ws')
    (hdg : decode cc pc = .ok (.putfield index, 3)) (kk : ∀ (H : Heap) (locs : List Loc), va_P D cl ws' H → va_D A ws' → va_S A H0 H locs → W p l e R s m args below meth c H locs cells slots Q (F0 m (pc + 3) ls rest)) : W p l e R s m args below meth c H locs cells slots Q (F0 m pc ls (v :: .ref a :: rest)) := by
  subst hw
  exact va_put hexec hb hts hin ty0 hty hnm hown hK hP hD hS0 q0 he hc k hk hlink hsame hfin hd hn hfit hl hdg kk
theorem lv_eqi {x y : Int32} (h : x = y) (k : W p l e R s m args below meth c H locs cells slots Q (F0 m pc ls (.int y :: rest))) : W p l e R s m args below meth c H locs cells slots Q (F0 m pc ls (.int x :: rest)) := by subst h; exact k
theorem k_lret {w' : va_W} {r v : Int64} (hx : p.tables.exec = Jvm.exec) (hb : c.code = cc) (hr : meth.sig.returnType = some .long) (hlocks : meth.locks = false) (hS : va_S A s.heap H locs) (hP : va_P D vwCl w' H) (hdg : decode cc pc = .ok (.lreturn, 1)) (hv : v = r) :
    W p l e R s m args below meth c H locs cells slots (MQ below (va_Ql (fun (x : Int64) (_ : Unit) => x = r) (fun _ t => Wd D w' t) A) args s cells slots A) (F0 m pc ls [.long v]) :=
  W.lret hx hb hr (fun t ht hW => ⟨⟨v, (), rfl, hv, by show va_P D vwCl w' t.heap; rw [ht]; exact hP⟩, hS.F ht⟩) hS.2.2 hdg hlocks
theorem k_dret {w' : va_W} {r v : UInt64} (hx : p.tables.exec = Jvm.exec) (hb : c.code = cc) (hr : meth.sig.returnType = some .double) (hlocks : meth.locks = false) (hS : va_S A s.heap H locs) (hP : va_P D vwCl w' H) (hdg : decode cc pc = .ok (.dreturn, 1)) (hv : v = r) :
    W p l e R s m args below meth c H locs cells slots (MQ below (va_Qd (fun (x : UInt64) (_ : Unit) => x = r) (fun _ t => Wd D w' t) A) args s cells slots A) (F0 m pc ls [.double v]) :=
  W.dret hx hb hr (fun t ht hW => ⟨⟨v, (), rfl, hv, by show va_P D vwCl w' t.heap; rw [ht]; exact hP⟩, hS.F ht⟩) hS.2.2 hdg hlocks
end KR
/-- the cells of w' put into w at the places is -/
def putAt : va_W → List Nat → va_W → va_W
  | w, i :: is, e :: es => putAt (w.set i e) is es
  | w, _, _ => w
theorem putAt_P {D : va_G} {cl : List vw_C} {H : Heap} : ∀ (is : List Nat) (w' w : va_W), is.length = w'.length → (∀ (k : Nat) (q : Nat × va_E), w[k]? = some q → k ∈ is ∨ va_at D cl q H) → va_P D cl w' H → va_P D cl (putAt w is w') H
  | [], w', w, hl, h, hw => by
    cases w' with
    | nil => intro k q hq; rcases h k q hq with h1 | h1; cases h1; exact h1
    | cons a b => simp at hl
  | i :: is, w', w, hl, h, hw => by
    cases w' with
    | nil => simp at hl
    | cons e es =>
      show va_P D cl (putAt (w.set i e) is es) H
      refine putAt_P is es (w.set i e) (by simpa using hl) ?_ (fun k q hk => hw (k + 1) q (by simpa using hk))
      intro k q hq
      by_cases hki : i = k
      · subst hki
        have hlt : i < w.length := by
          have := (List.getElem?_eq_some_iff.mp hq).1
          simpa using this
        rw [List.getElem?_set_self hlt] at hq
        cases hq
        exact Or.inr (hw 0 e rfl)
      · rw [List.getElem?_set_ne hki] at hq
        rcases h k q hq with h1 | h1
        · rcases List.mem_cons.mp h1 with h2 | h2
          · exact absurd h2.symm hki
          · exact Or.inl h2
        · exact Or.inr h1
theorem va_D_fst {A : Nat → Prop} {w w' : va_W} (h : va_D A w) (e : w'.map Prod.fst = w.map Prod.fst) : va_D A w' := by
  have key : ∀ (k : Nat) (q : Nat × va_E), w'[k]? = some q → ∃ q0, w[k]? = some q0 ∧ q0.1 = q.1 := by
    intro k q hq
    have h1 : (w'.map Prod.fst)[k]? = some q.1 := by rw [List.getElem?_map, hq]; rfl
    rw [e, List.getElem?_map] at h1
    cases hk : w[k]? with
    | none => rw [hk] at h1; cases h1
    | some q0 => rw [hk] at h1; exact ⟨q0, rfl, Option.some.inj h1⟩
  refine ⟨fun i j x y hi hj hxy => ?_, fun k q hk => ?_⟩
  · obtain ⟨x0, h1, h2⟩ := key i x hi
    obtain ⟨y0, h3, h4⟩ := key j y hj
    exact h.1 i j x0 y0 h1 h3 (h2.trans (hxy.trans h4.symm))
  · obtain ⟨q0, h1, h2⟩ := key k q hk
    rw [← h2]; exact h.2 k q0 h1
theorem putAt_fst : ∀ (is : List Nat) (w' w : va_W), is.map (fun i => (w.map Prod.fst)[i]?) = (w'.map Prod.fst).map some → (putAt w is w').map Prod.fst = w.map Prod.fst
  | [], w', w, _ => by cases w' <;> rfl
  | i :: is, w', w, h => by
    cases w' with
    | nil => rfl
    | cons e es =>
      simp only [List.map_cons, List.cons.injEq] at h
      have h1 : (w.set i e).map Prod.fst = w.map Prod.fst := by
        apply List.ext_getElem?
        intro k
        by_cases hk : i = k
        · subst hk
          rw [List.getElem?_map, h.1]
          have hlt : i < w.length := by
            have := (List.getElem?_eq_some_iff.mp h.1).1
            simpa using this
          rw [List.getElem?_set_self hlt]; rfl
        · rw [List.getElem?_map, List.getElem?_set_ne hk, List.getElem?_map]
      show (putAt (w.set i e) is es).map Prod.fst = w.map Prod.fst
      rw [putAt_fst is es (w.set i e) (by rw [h1]; exact h.2), h1]
/-- a call's world behind it -/
theorem k_back {A0 : Nat → Prop} {D : va_G} {cl : List vw_C} {ws wc w' wn : va_W} {H H1 : Heap} (hP : va_P D cl ws H) (hD : va_D A0 ws) (isC : List Nat) (hC : isC.map (fun i => ws[i]?) = wc.map some) (ha : w'.map Prod.fst = wc.map Prod.fst) (hn : putAt ws isC w' = wn)
    (hk : ∀ q : Nat, q < H.size → ¬ va_A wc H.size q → H1[q]? = H[q]?) (hP1 : va_P D cl w' H1) : va_P D cl wn H1 ∧ va_D A0 wn := by
  have hlen : isC.length = wc.length := by have := congrArg List.length hC; simpa using this
  have hlen2 : w'.length = wc.length := by have := congrArg List.length ha; simpa using this
  subst hn
  refine ⟨putAt_P isC w' ws (hlen.trans hlen2.symm) (fun k q hq => ?_) hP1, va_D_fst hD (putAt_fst isC w' ws ?_)⟩
  · by_cases hki : k ∈ isC
    · exact Or.inl hki
    · refine Or.inr ((hP k q hq).kept (hk q.1 (hP k q hq).lt (fun h => ?_)))
      rcases h with ⟨k2, e, h⟩ | h
      · have h1 : (isC.map (fun i => ws[i]?))[k2]? = some (some (q.1, e)) := by rw [hC, List.getElem?_map, h]; rfl
        rw [List.getElem?_map] at h1
        cases hi : isC[k2]? with
        | none => rw [hi] at h1; cases h1
        | some i =>
          rw [hi] at h1
          have h4 : ws[i]? = some (q.1, e) := Option.some.inj h1
          have := hD.1 k i q (q.1, e) hq h4 rfl
          subst this
          exact hki (List.mem_of_getElem? hi)
      · exact absurd (hP k q hq).lt (Nat.not_lt.mpr h)
  · have : ∀ (l : List Nat) (g : va_W), l.map (fun i => ws[i]?) = g.map some → l.map (fun i => (ws.map Prod.fst)[i]?) = (g.map Prod.fst).map some := by
      intro l g hlg
      have h2 := congrArg (List.map (Option.map Prod.fst)) hlg
      simp only [List.map_map] at h2 ⊢
      refine Eq.trans (List.map_congr_left fun i _ => ?_) (h2.trans (List.map_congr_left fun i _ => rfl))
      show (ws.map Prod.fst)[i]? = Option.map Prod.fst ws[i]?
      rw [List.getElem?_map]
    rw [this isC wc hC, ha]
section KC
variable {p : Program} {l : Launch} {e : Env} {R : Room} {s : State} {m : MethodId} {args : Array Value} {below : List Frame} {meth : Method} {c : Code} {H : Heap} {locs : List Loc} {cells slots : Nat} {Q : State → Prop}
variable {pc : Nat} {ls : Array Slot} {rest st0 : List Value} {a : Array Value} {A : Nat → Prop} {H0 : Heap} {mc ms : Nat} {D : va_G} {tys : List (ClassId × FieldType)} {w wc w' wn : va_W}
theorem k_preS (hE : EV s) (hK : va_K D vwCl tys s) (hP : va_P D vwCl w H) (hD : va_D A w) (isC : List Nat) (hnd : va_nd isC = true) (hC : isC.map (fun i => w[i]?) = wc.map some) (av : List Value) : PreS s H (va_Pc av (Prx D tys H.size wc)) av := by
  have hC2 : isC.filterMap (fun i => w[i]?) = wc := by
    have : ∀ (is : List Nat) (g : va_W), is.map (fun i => w[i]?) = g.map some → is.filterMap (fun i => w[i]?) = g := by
      intro is
      induction is with
      | nil => intro g hg; cases g with
        | nil => rfl
        | cons x y => simp at hg
      | cons i is ih =>
        intro g hg
        cases g with
        | nil => simp at hg
        | cons x y =>
          simp only [List.map_cons, List.cons.injEq] at hg
          rw [List.filterMap_cons, hg.1, ih y hg.2]
    exact this isC wc hC
  have hPc := hP.sub isC hC2
  have hDc := hD.sub isC hnd hC
  exact ⟨Prx.blind, fun U hU hW => ⟨rfl, by rw [hU], hE.warm hW, by rw [hU]; exact hPc, va_K.moved hW.alike hK, hDc.weaken (fun _ _ _ _ => trivial)⟩⟩
theorem k_preV (hE : EV s) (hK : va_K D vwCl tys s) (hP : va_P D vwCl w H) (hD : va_D A w) (isC : List Nat) (hnd : va_nd isC = true) (hC : isC.map (fun i => w[i]?) = wc.map some) {b ci q0 : Nat} {q : vw_C} {fs : List Value} (hc : vwCl[ci]? = some q) (he : w[q0]? = some (b, .inr (ci, fs))) (As : List Value) : PreV s H q.1 b (va_Pc (.ref b :: As) (Prx D tys H.size wc)) As :=
  ⟨(k_preS hE hK hP hD isC hnd hC (.ref b :: As)).1, va_recv hK hP hc he, (k_preS hE hK hP hD isC hnd hC (.ref b :: As)).2⟩
theorem k_calli {r : Int32} (hr : va_Run p l e R s m args below meth c H locs cells slots 0 0 (F0 m pc ls st0) rest (va_Qi (fun (x : Int32) (_ : Unit) => x = r) (fun _ t => Wd D w' t) (va_A wc H.size) a) (va_A wc H.size)) (hP : va_P D vwCl w H) (hD : va_D A w) (hS : va_S A H0 H locs) (hA : ∀ q, H0.size ≤ q → A q) (isC : List Nat) (hC : isC.map (fun i => w[i]?) = wc.map some) (ha : w'.map Prod.fst = wc.map Prod.fst) (hn : putAt w isC w' = wn)
    (kk : ∀ (H : Heap) (locs : List Loc), va_P D vwCl wn H → va_D A wn → va_S A H0 H locs → W p l e R s m args below meth c H locs cells slots Q (F0 m (pc + 3) ls (.int r :: rest))) : W p l e R s m args below meth c H locs cells slots Q (F0 m pc ls st0) := by
  have hF := va_free (wc := wc) hD hS hA isC hC
  refine va_calli hr hS (fun q _ h => hF q h) hF (fun r_2 u t H1 locs ht hvm hw hB hz1 hk1 hS => ?_)
  subst hw
  have hB : va_P D vwCl w' t.heap := hB
  rw [ht] at hB
  obtain ⟨h1, h2⟩ := k_back hP hD isC hC ha hn hk1 hB
  exact kk H1 locs h1 h2 hS
theorem k_calll {r : Int64} (hr : va_Run p l e R s m args below meth c H locs cells slots 0 0 (F0 m pc ls st0) rest (va_Ql (fun (x : Int64) (_ : Unit) => x = r) (fun _ t => Wd D w' t) (va_A wc H.size) a) (va_A wc H.size)) (hP : va_P D vwCl w H) (hD : va_D A w) (hS : va_S A H0 H locs) (hA : ∀ q, H0.size ≤ q → A q) (isC : List Nat) (hC : isC.map (fun i => w[i]?) = wc.map some) (ha : w'.map Prod.fst = wc.map Prod.fst) (hn : putAt w isC w' = wn)
    (kk : ∀ (H : Heap) (locs : List Loc), va_P D vwCl wn H → va_D A wn → va_S A H0 H locs → W p l e R s m args below meth c H locs cells slots Q (F0 m (pc + 3) ls (.long r :: rest))) : W p l e R s m args below meth c H locs cells slots Q (F0 m pc ls st0) := by
  have hF := va_free (wc := wc) hD hS hA isC hC
  refine va_calll hr hS (fun q _ h => hF q h) hF (fun r_2 u t H1 locs ht hvm hw hB hz1 hk1 hS => ?_)
  subst hw
  have hB : va_P D vwCl w' t.heap := hB
  rw [ht] at hB
  obtain ⟨h1, h2⟩ := k_back hP hD isC hC ha hn hk1 hB
  exact kk H1 locs h1 h2 hS
theorem k_calld {r : UInt64} (hr : va_Run p l e R s m args below meth c H locs cells slots 0 0 (F0 m pc ls st0) rest (va_Qd (fun (x : UInt64) (_ : Unit) => x = r) (fun _ t => Wd D w' t) (va_A wc H.size) a) (va_A wc H.size)) (hP : va_P D vwCl w H) (hD : va_D A w) (hS : va_S A H0 H locs) (hA : ∀ q, H0.size ≤ q → A q) (isC : List Nat) (hC : isC.map (fun i => w[i]?) = wc.map some) (ha : w'.map Prod.fst = wc.map Prod.fst) (hn : putAt w isC w' = wn)
    (kk : ∀ (H : Heap) (locs : List Loc), va_P D vwCl wn H → va_D A wn → va_S A H0 H locs → W p l e R s m args below meth c H locs cells slots Q (F0 m (pc + 3) ls (.double r :: rest))) : W p l e R s m args below meth c H locs cells slots Q (F0 m pc ls st0) := by
  have hF := va_free (wc := wc) hD hS hA isC hC
  refine va_calld hr hS (fun q _ h => hF q h) hF (fun r_2 u t H1 locs ht hvm hw hB hz1 hk1 hS => ?_)
  subst hw
  have hB : va_P D vwCl w' t.heap := hB
  rw [ht] at hB
  obtain ⟨h1, h2⟩ := k_back hP hD isC hC ha hn hk1 hB
  exact kk H1 locs h1 h2 hS
theorem k_callv (hr : va_Run p l e R s m args below meth c H locs cells slots 0 0 (F0 m pc ls st0) rest (va_Qv (fun (_ : Unit) => True) (fun _ t => Wd D w' t) (va_A wc H.size) a) (va_A wc H.size)) (hP : va_P D vwCl w H) (hD : va_D A w) (hS : va_S A H0 H locs) (hA : ∀ q, H0.size ≤ q → A q) (isC : List Nat) (hC : isC.map (fun i => w[i]?) = wc.map some) (ha : w'.map Prod.fst = wc.map Prod.fst) (hn : putAt w isC w' = wn)
    (kk : ∀ (H : Heap) (locs : List Loc), va_P D vwCl wn H → va_D A wn → va_S A H0 H locs → W p l e R s m args below meth c H locs cells slots Q (F0 m (pc + 3) ls rest)) : W p l e R s m args below meth c H locs cells slots Q (F0 m pc ls st0) := by
  have hF := va_free (wc := wc) hD hS hA isC hC
  refine va_callv hr hS (fun q _ h => hF q h) hF (fun u t H1 locs ht hvm hw hB hz1 hk1 hS => ?_)
  have hB : va_P D vwCl w' t.heap := hB
  rw [ht] at hB
  obtain ⟨h1, h2⟩ := k_back hP hD isC hC ha hn hk1 hB
  exact kk H1 locs h1 h2 hS
end KC
/-- the cells of one Roof: its object and its twelve arrays -/
def cR (cI : ClassId) (a : Nat → Nat) (r : rB) : va_W := [(a 0, .inr (1, [.ref (a 1), .ref (a 2), .ref (a 3), .ref (a 4), .ref (a 5), .ref (a 6), .ref (a 7), .ref (a 8), .ref (a 9), .ref (a 10), .ref (a 11), .ref (a 12), .int (r 12 0), .int (r 12 1), .int (r 12 2), .int (r 12 3)])), (a 1, .inl (cI, 6, .inl (r 0))), (a 2, .inl (cI, 6, .inl (r 1))), (a 3, .inl (cI, 6, .inl (r 2))), (a 4, .inl (cI, 6, .inl (r 3))), (a 5, .inl (cI, 6, .inl (r 4))), (a 6, .inl (cI, 6, .inl (r 5))), (a 7, .inl (cI, 6, .inl (r 6))), (a 8, .inl (cI, 6, .inl (r 7))), (a 9, .inl (cI, 6, .inl (r 8))), (a 10, .inl (cI, 6, .inl (r 9))), (a 11, .inl (cI, 6, .inl (r 10))), (a 12, .inl (cI, 3, .inl (r 11)))]
/-- the cells of the model -/
def cM (cI : ClassId) (a : Nat → Nat) (r : rB) (h : Int64) : va_W := [(a 0, .inr (4, [.int (r 5 0), .ref (a 1), .ref (a 2), .ref (a 3), .int (r 5 1), .ref (a 4), .int (r 5 2), .int (r 5 3), .int (r 5 4), .ref (a 5), .int (r 5 5), .long h])), (a 1, .inl (cI, 75, .inl (r 0))), (a 2, .inl (cI, 75, .inl (r 1))), (a 3, .inl (cI, 450, .inl (r 2))), (a 4, .inl (cI, 60, .inl (r 3))), (a 5, .inl (cI, 64, .inl (r 4)))]
/-- the cells of the text: codes, length -/
def cT (cI : ClassId) (a : Nat → Nat) (r : rB) : va_W := [(a 0, .inr (0, [.ref (a 1), .int (r 1 0)])), (a 1, .inl (cI, 60, .inl (r 0)))]
theorem bp_rw {r : rB} {k k2 i j : Nat} {x : Int32} (h : k2 ≠ k) : bp r k i x k2 j = r k2 j := by simp [bp, h]
theorem bp_eq {r : rB} {k i : Nat} {x : Int32} : bp r k i x k i = x := by simp [bp, upd]
theorem bp_ne {r : rB} {k i j : Nat} {x : Int32} (h : j ≠ i) : bp r k i x k j = r k j := by simp [bp, upd, h]
end
section
/-! what the methods of the class answer and do, as functions of banks -/
def zL (q n : Int32) : Int32 := if q < 0 then 0 else if n ≤ q then 0 else 1
def zW (v lo hi : Int32) : Int32 := if v < lo then 0 else if hi < v then 0 else 1
theorem zL_in {q N : Int32} {n : Nat} (hN : N = nI n) (hn : decide (n < 2 ^ 31) = true) (h : ¬ zL q N = 0) : vp_in q n := by
  have hn := of_decide_eq_true hn
  subst hN
  unfold zL at h
  by_cases h1 : q < 0
  · rw [if_pos h1] at h; exact absurd rfl h
  · rw [if_neg h1] at h
    by_cases h2 : nI n ≤ q
    · rw [if_pos h2] at h; exact absurd rfl h
    · rcases pk_ix q hn with h3 | h3 | ⟨j, hj, rfl⟩
      · exact absurd h3 h1
      · exact absurd h3 h2
      · exact vp_in_nI hj hn
def mn (x y : Int32) : Int32 := if y < x then y else x
def smI (f : Nat → Int32) : Nat → Nat → Int32 → Int32
  | 0, _, a => a
  | n + 1, i, a => smI f n (i + 1) (a + f i)
def standC (r : rB) : Int32 := smI (r 3) 6 0 0 + smI (r 8) 6 0 0
def roomT (r : rB) (i : Nat) : Int32 := r 4 i * (100 - r 6 i) / 100
def pipeT (r : rB) (i : Nat) : Int32 :=
  let v := r 5 i * (100 - r 6 i) / 100
  if v = 0 then (if r 5 i = 0 then v else 1) else v
def hasL (r : rB) (i : Nat) : Int32 := if r 6 i ≤ 0 then 0 else 1
def wet (r : rB) (i : Nat) (x : Int32) : rB :=
  let l := r 0 i * x / 10
  let w := r 3 i + l
  let f := w * (5 + r 1 i) / 14
  let g := if f = 0 then (if w ≤ 0 then f else 1) else f
  let r3 := bp (bp (bp r 12 2 (r 12 2 + l)) 3 i w) 3 i (w - g)
  if zL (r 2 i) 6 = 0 then r3 else bp r3 8 (r 2 i).toNatClampNeg (r 8 (r 2 i).toNatClampNeg + g)
def drW (r : rB) (i : Nat) : Int32 := mn (pipeT r i) (r 8 i)
def drS (r : rB) (i : Nat) (left : Int32) : Int32 := mn (drW r i) left
def drStep (r : rB) (left : Int32) (i : Nat) : rB := bp (bp r 8 i (r 8 i - drS r i left)) 10 i (r 10 i + drS r i left)
def drL : Nat → Nat → rB → Int32 → Int32 → rB × Int32
  | 0, _, r, _, b => (r, b)
  | n + 1, i, r, left, b => drL n (i + 1) (drStep r left i) (left - drS r i left) (if b = 0 then (if drW r i ≤ drS r i left then 0 else 1) else 1)
def emptyD (r : rB) : rB := if (drL 6 0 r (r 11 0) 0).2 = 0 then (drL 6 0 r (r 11 0) 0).1 else bp (drL 6 0 r (r 11 0) 0).1 12 3 ((drL 6 0 r (r 11 0) 0).1 12 3 + 1)
def ovf (r : rB) (i : Nat) : rB :=
  let t := r 8 i - roomT r i
  if 0 < t then (if zL (r 7 i) 6 = 0 then bp (bp r 8 i (r 8 i - t)) 9 i (r 9 i + t) else bp (bp r 8 i (r 8 i - t)) 8 (r 7 i).toNatClampNeg (bp r 8 i (r 8 i - t) 8 (r 7 i).toNatClampNeg + t)) else r
def wetAll : Nat → Nat → rB → Int32 → rB
  | 0, _, r, _ => r
  | n + 1, i, r, x => wetAll n (i + 1) (wet r i x) x
def ovfAll : Nat → Nat → rB → rB
  | 0, _, r => r
  | n + 1, i, r => ovfAll n (i + 1) (ovf r i)
def minuteC (r : rB) (x : Int32) : rB := bp (ovfAll 6 0 (emptyD (wetAll 6 0 r x))) 12 0 ((ovfAll 6 0 (emptyD (wetAll 6 0 r x))) 12 0 + 1)
def minutesC : Nat → rB → Int32 → rB
  | 0, r, _ => r
  | n + 1, r, x => minutesC n (minuteC r x) x
def weekL : Nat → Nat → rB → rB
  | 0, _, r => r
  | n + 1, i, r => weekL n (i + 1) (bp r 6 i (mn 100 (r 6 i + r 11 1)))
def weekC (r : rB) : rB := bp (weekL 6 0 r) 12 1 ((weekL 6 0 r) 12 1 + 1)
def vlead (r : rB) (t : Int32) : Nat → Int32 → Int32
  | 0, _ => 0
  | n + 1, at' => if zL at' 6 = 0 then 0 else if at' = t then 1 else vlead r t n (r 7 at'.toNatClampNeg)
def pnC (r : rB) (i w : Nat) : Int32 := match w with
  | 0 => r 0 i
  | 1 => r 1 i
  | 2 => r 2 i
  | _ => r 3 i
def gnC (r : rB) (i w : Nat) : Int32 := match w with
  | 0 => r 4 i
  | 1 => r 5 i
  | 2 => r 6 i
  | 3 => r 7 i
  | 4 => r 8 i
  | 5 => roomT r i
  | 6 => pipeT r i
  | 7 => r 9 i
  | _ => r 10 i
def lowL (r q : rB) : Nat → Nat → Int32
  | 0, _ => -1
  | n + 1, i => if r 9 i ≤ q 9 i then lowL r q n (i + 1) else nI i
theorem cl_lt (x : Int32) : x.toNatClampNeg < 2 ^ 31 := by
  have := x.toInt_lt
  show x.toInt.toNat < 2 ^ 31
  omega
theorem cl_le {x : Int32} {i : Nat} (h : i = x.toNatClampNeg) : x ≤ nI i := by
  have h2 := cl_lt x
  rw [Int32.le_iff_toInt_le, nI_toInt (by omega), h]
  show x.toInt ≤ ((x.toInt.toNat : Nat) : Int)
  omega
theorem cl_nle {x : Int32} {i : Nat} (h : i < x.toNatClampNeg) : ¬ x ≤ nI i := by
  have h2 := cl_lt x
  rw [Int32.le_iff_toInt_le, nI_toInt (by omega)]
  have h3 : x.toNatClampNeg = x.toInt.toNat := rfl
  omega
end
section
/-! the text -/
def zM (x : Int32) : Int32 := if x = 5 then 1 else if x = 6 then 1 else if x = 7 then 1 else 0
theorem zM_nar (x : Int32) : narrow .boolean (.int (zM x)) = .int (zM x) := by
  unfold zM
  split
  · rfl
  · split
    · rfl
    · split <;> rfl
def d2 (c : Int32) : Nat := if c = 42 then 4 else 0
def d1 (c : Int32) : Nat := if c = 119 then 7 else if c = 99 then 8 else if c = 48 then 3 else if zW c 49 57 = 0 then 0 else 2
def d3 (c : Int32) : Nat := if zW c 49 53 = 0 then (if c = 54 then 6 else if zW c 55 57 = 0 then 0 else 7) else 5
def dA (d : Nat) (c : Int32) : Nat := if c = 59 then (if zM (nI d) = 0 then 0 else 1) else match d with
  | 1 => d1 c
  | 2 => if zW c 48 57 = 0 then d2 c else 3
  | 3 => d2 c
  | 4 => d3 c
  | 5 => if zW c 48 57 = 0 then 0 else 7
  | 6 => if c = 48 then 7 else 0
  | 8 => if zW c 48 53 = 0 then 0 else 7
  | _ => 0
theorem d1_le (c : Int32) : d1 c ≤ 8 := by unfold d1; repeat (first | omega | split)
theorem d2_le (c : Int32) : d2 c ≤ 8 := by unfold d2; repeat (first | omega | split)
theorem d3_le (c : Int32) : d3 c ≤ 8 := by unfold d3; repeat (first | omega | split)
theorem dA_le (d : Nat) (c : Int32) : dA d c ≤ 8 := by
  have h1 := d1_le c
  have h2 := d2_le c
  have h3 := d3_le c
  unfold dA
  repeat (first | omega | split)
def fullC (r : rB) : Int32 := if r 1 0 < 60 then 0 else 1
def fwL (t : rB) : Nat → Nat → Nat → Int32
  | 0, i, _ => nI i
  | n + 1, i, d => if nI (dA d (t 0 i)) = 0 then nI i else fwL t n (i + 1) (dA d (t 0 i))
def icL (t : rB) : Nat → Nat → Nat → Nat
  | 0, _, d => d
  | n + 1, i, d => icL t n (i + 1) (dA d (t 0 i))
def clnC (r : rB) (q : Int32) : rB := if zL q 6 = 0 then r else bp r 6 q.toNatClampNeg 0
def playP (r : rB) (k ra nu : Int32) : rB := if k = 119 then weekC r else if k = 99 then clnC r nu else minutesC nu.toNatClampNeg r ra
def playL (t : rB) : Nat → Nat → rB → Int32 → Int32 → Int32 → rB
  | 0, _, r, k, ra, nu => playP r k ra nu
  | n + 1, i, r, k, ra, nu => if t 0 i = 59 then playL t n (i + 1) (playP r k ra nu) k ra 0 else if zW (t 0 i) 48 57 = 0 then playL t n (i + 1) r (t 0 i) nu 0 else playL t n (i + 1) r k ra (nu * 10 + t 0 i - 48)
end
section
set_option maxHeartbeats 4000000 in
set_option maxRecDepth 100000 in
theorem mX3_isGutter (l : Launch) (D : va_G) (cI cQ cJ : ClassId) (q : Int32) : Mi l D (tY cI cQ cJ) yX3_isGutter wsX3_isGutter ({ frames := 0, cells := 0, slots := 0, locals := 0 } : Room) [.int q] (([] : va_W)) (([] : va_W)) (zL q 6) := by
  refine M_of (cc := cX3_isGutter) (maxL := 1) (ret := some .boolean) (Qc := fun A => va_Qi (fun (x : Int32) (_ : Unit) => x = zL q 6) (fun _ t => Wd D (([] : va_W)) t) A) (by decide) rfl (Nat.le_of_ble_eq_true rfl) ?_
  intro p e s m below meth c A ls hB hE hP hK hD hA hl
  obtain ⟨hx, hb, hr, hml, hts, hown, hlocks⟩ := hB
  have hS : va_S A s.heap s.heap [] := va_S.rf
  have hl : lv_has ls 1 [(0, .int q)] := hl
  refine lv_iload_n hx hb dX3_isGutter_0 rfl (lv_at hl 0 rfl) ?_
  refine lv_if_lt (tgt := 14) hx hb dX3_isGutter_1 (by decide) (fun c_1 => ?_) (fun c_1 => ?_)
  · skip
    refine lv_iconst (v := 0) hx hb dX3_isGutter_14 (by decide) ?_
    exact k_zret hx hb hr hlocks hS hP dX3_isGutter_15 (by first | rfl | decide | exact rfl) (by (first | rfl | (simp only [zL, c_1, ↓reduceIte]; done) | (simp [zL, c_1]; done)))
  · skip
    refine lv_iload_n hx hb dX3_isGutter_4 rfl (lv_at hl 0 rfl) ?_
    refine lv_bipush (v := 6) hx hb dX3_isGutter_5 (by decide) ?_
    refine lv_icmp_ge (tgt := 14) hx hb dX3_isGutter_7 (by decide) (fun c_2 => ?_) (fun c_2 => ?_)
    · skip
      refine lv_iconst (v := 0) hx hb dX3_isGutter_14 (by decide) ?_
      exact k_zret hx hb hr hlocks hS hP dX3_isGutter_15 (by first | rfl | decide | exact rfl) (by (first | rfl | (simp only [zL, c_1, c_2, ↓reduceIte]; done) | (simp [zL, c_1, c_2]; done)))
    · skip
      refine lv_iconst (v := 1) hx hb dX3_isGutter_10 (by decide) ?_
      refine lv_goto (tgt := 15) hx hb dX3_isGutter_11 (by decide) ?_
      exact k_zret hx hb hr hlocks hS hP dX3_isGutter_15 (by first | rfl | decide | exact rfl) (by (first | rfl | (simp only [zL, c_1, c_2, ↓reduceIte]; done) | (simp [zL, c_1, c_2]; done)))
set_option maxHeartbeats 4000000 in
set_option maxRecDepth 100000 in
theorem mX3_isPlane (l : Launch) (D : va_G) (cI cQ cJ : ClassId) (q : Int32) : Mi l D (tY cI cQ cJ) yX3_isPlane wsX3_isPlane ({ frames := 0, cells := 0, slots := 0, locals := 0 } : Room) [.int q] (([] : va_W)) (([] : va_W)) (zL q 6) := by
  refine M_of (cc := cX3_isPlane) (maxL := 1) (ret := some .boolean) (Qc := fun A => va_Qi (fun (x : Int32) (_ : Unit) => x = zL q 6) (fun _ t => Wd D (([] : va_W)) t) A) (by decide) rfl (Nat.le_of_ble_eq_true rfl) ?_
  intro p e s m below meth c A ls hB hE hP hK hD hA hl
  obtain ⟨hx, hb, hr, hml, hts, hown, hlocks⟩ := hB
  have hS : va_S A s.heap s.heap [] := va_S.rf
  have hl : lv_has ls 1 [(0, .int q)] := hl
  refine lv_iload_n hx hb dX3_isPlane_0 rfl (lv_at hl 0 rfl) ?_
  refine lv_if_lt (tgt := 14) hx hb dX3_isPlane_1 (by decide) (fun c_1 => ?_) (fun c_1 => ?_)
  · skip
    refine lv_iconst (v := 0) hx hb dX3_isPlane_14 (by decide) ?_
    exact k_zret hx hb hr hlocks hS hP dX3_isPlane_15 (by first | rfl | decide | exact rfl) (by (first | rfl | (simp only [zL, c_1, ↓reduceIte]; done) | (simp [zL, c_1]; done)))
  · skip
    refine lv_iload_n hx hb dX3_isPlane_4 rfl (lv_at hl 0 rfl) ?_
    refine lv_bipush (v := 6) hx hb dX3_isPlane_5 (by decide) ?_
    refine lv_icmp_ge (tgt := 14) hx hb dX3_isPlane_7 (by decide) (fun c_2 => ?_) (fun c_2 => ?_)
    · skip
      refine lv_iconst (v := 0) hx hb dX3_isPlane_14 (by decide) ?_
      exact k_zret hx hb hr hlocks hS hP dX3_isPlane_15 (by first | rfl | decide | exact rfl) (by (first | rfl | (simp only [zL, c_1, c_2, ↓reduceIte]; done) | (simp [zL, c_1, c_2]; done)))
    · skip
      refine lv_iconst (v := 1) hx hb dX3_isPlane_10 (by decide) ?_
      refine lv_goto (tgt := 15) hx hb dX3_isPlane_11 (by decide) ?_
      exact k_zret hx hb hr hlocks hS hP dX3_isPlane_15 (by first | rfl | decide | exact rfl) (by (first | rfl | (simp only [zL, c_1, c_2, ↓reduceIte]; done) | (simp [zL, c_1, c_2]; done)))
set_option maxHeartbeats 4000000 in
set_option maxRecDepth 100000 in
theorem mX3_isSetting (l : Launch) (D : va_G) (cI cQ cJ : ClassId) (q : Int32) : Mi l D (tY cI cQ cJ) yX3_isSetting wsX3_isSetting ({ frames := 0, cells := 0, slots := 0, locals := 0 } : Room) [.int q] (([] : va_W)) (([] : va_W)) (zL q 3) := by
  refine M_of (cc := cX3_isSetting) (maxL := 1) (ret := some .boolean) (Qc := fun A => va_Qi (fun (x : Int32) (_ : Unit) => x = zL q 3) (fun _ t => Wd D (([] : va_W)) t) A) (by decide) rfl (Nat.le_of_ble_eq_true rfl) ?_
  intro p e s m below meth c A ls hB hE hP hK hD hA hl
  obtain ⟨hx, hb, hr, hml, hts, hown, hlocks⟩ := hB
  have hS : va_S A s.heap s.heap [] := va_S.rf
  have hl : lv_has ls 1 [(0, .int q)] := hl
  refine lv_iload_n hx hb dX3_isSetting_0 rfl (lv_at hl 0 rfl) ?_
  refine lv_if_lt (tgt := 13) hx hb dX3_isSetting_1 (by decide) (fun c_1 => ?_) (fun c_1 => ?_)
  · skip
    refine lv_iconst (v := 0) hx hb dX3_isSetting_13 (by decide) ?_
    exact k_zret hx hb hr hlocks hS hP dX3_isSetting_14 (by first | rfl | decide | exact rfl) (by (first | rfl | (simp only [zL, c_1, ↓reduceIte]; done) | (simp [zL, c_1]; done)))
  · skip
    refine lv_iload_n hx hb dX3_isSetting_4 rfl (lv_at hl 0 rfl) ?_
    refine lv_iconst (v := 3) hx hb dX3_isSetting_5 (by decide) ?_
    refine lv_icmp_ge (tgt := 13) hx hb dX3_isSetting_6 (by decide) (fun c_2 => ?_) (fun c_2 => ?_)
    · skip
      refine lv_iconst (v := 0) hx hb dX3_isSetting_13 (by decide) ?_
      exact k_zret hx hb hr hlocks hS hP dX3_isSetting_14 (by first | rfl | decide | exact rfl) (by (first | rfl | (simp only [zL, c_1, c_2, ↓reduceIte]; done) | (simp [zL, c_1, c_2]; done)))
    · skip
      refine lv_iconst (v := 1) hx hb dX3_isSetting_9 (by decide) ?_
      refine lv_goto (tgt := 14) hx hb dX3_isSetting_10 (by decide) ?_
      exact k_zret hx hb hr hlocks hS hP dX3_isSetting_14 (by first | rfl | decide | exact rfl) (by (first | rfl | (simp only [zL, c_1, c_2, ↓reduceIte]; done) | (simp [zL, c_1, c_2]; done)))
set_option maxHeartbeats 4000000 in
set_option maxRecDepth 100000 in
theorem mX3_isWithin (l : Launch) (D : va_G) (cI cQ cJ : ClassId) (v lo hi : Int32) : Mi l D (tY cI cQ cJ) yX3_isWithin wsX3_isWithin ({ frames := 0, cells := 0, slots := 0, locals := 0 } : Room) [.int v, .int lo, .int hi] (([] : va_W)) (([] : va_W)) (zW v lo hi) := by
  refine M_of (cc := cX3_isWithin) (maxL := 3) (ret := some .boolean) (Qc := fun A => va_Qi (fun (x : Int32) (_ : Unit) => x = zW v lo hi) (fun _ t => Wd D (([] : va_W)) t) A) (by decide) rfl (Nat.le_of_ble_eq_true rfl) ?_
  intro p e s m below meth c A ls hB hE hP hK hD hA hl
  obtain ⟨hx, hb, hr, hml, hts, hown, hlocks⟩ := hB
  have hS : va_S A s.heap s.heap [] := va_S.rf
  have hl : lv_has ls 3 [(0, .int v), (1, .int lo), (2, .int hi)] := hl
  refine lv_iload_n hx hb dX3_isWithin_0 rfl (lv_at hl 0 rfl) ?_
  refine lv_iload_n hx hb dX3_isWithin_1 rfl (lv_at hl 1 rfl) ?_
  refine lv_icmp_lt (tgt := 14) hx hb dX3_isWithin_2 (by decide) (fun c_1 => ?_) (fun c_1 => ?_)
  · skip
    refine lv_iconst (v := 0) hx hb dX3_isWithin_14 (by decide) ?_
    exact k_zret hx hb hr hlocks hS hP dX3_isWithin_15 (by first | rfl | decide | exact rfl) (by (first | rfl | (simp only [zW, c_1, ↓reduceIte]; done) | (simp [zW, c_1]; done)))
  · skip
    refine lv_iload_n hx hb dX3_isWithin_5 rfl (lv_at hl 0 rfl) ?_
    refine lv_iload_n hx hb dX3_isWithin_6 rfl (lv_at hl 2 rfl) ?_
    refine lv_icmp_gt (tgt := 14) hx hb dX3_isWithin_7 (by decide) (fun c_2 => ?_) (fun c_2 => ?_)
    · skip
      refine lv_iconst (v := 0) hx hb dX3_isWithin_14 (by decide) ?_
      exact k_zret hx hb hr hlocks hS hP dX3_isWithin_15 (by first | rfl | decide | exact rfl) (by (first | rfl | (simp only [zW, c_1, c_2, ↓reduceIte]; done) | (simp [zW, c_1, c_2]; done)))
    · skip
      refine lv_iconst (v := 1) hx hb dX3_isWithin_10 (by decide) ?_
      refine lv_goto (tgt := 15) hx hb dX3_isWithin_11 (by decide) ?_
      exact k_zret hx hb hr hlocks hS hP dX3_isWithin_15 (by first | rfl | decide | exact rfl) (by (first | rfl | (simp only [zW, c_1, c_2, ↓reduceIte]; done) | (simp [zW, c_1, c_2]; done)))
end
section
set_option maxHeartbeats 4000000 in
set_option maxRecDepth 100000 in
theorem mX1_minutesGone (l : Launch) (D : va_G) (cI cQ cJ : ClassId) (a : Nat → Nat) (r : rB)  : Mi l D (tY cI cQ cJ) yX1_minutesGone wsX1_minutesGone ({ frames := 0, cells := 0, slots := 0, locals := 0 } : Room) [.ref (a 0)] (cR cI a r) (cR cI a r) (r 12 0) := by
  refine M_of (cc := cX1_minutesGone) (maxL := 1) (ret := some .int) (Qc := fun A => va_Qi (fun (x : Int32) (_ : Unit) => x = r 12 0) (fun _ t => Wd D (cR cI a r) t) A) (by decide) rfl (Nat.le_of_ble_eq_true rfl) ?_
  intro p e s m below meth c A ls hB hE hP hK hD hA hl
  obtain ⟨hx, hb, hr, hml, hts, hown, hlocks⟩ := hB
  have hS : va_S A s.heap s.heap [] := va_S.rf
  have hl : lv_has ls 1 [(0, .ref (a 0))] := hl
  have hinX1 : ∀ w ∈ u_ws RX1 TX1 16, w ∈ wsX1_minutesGone := by decide +kernel
  have fl54 := hts (.fieldLink RX1 54 "RoofDrains$Roof" "minutesGone" "I") (by decide +kernel)
  refine lv_aload_n hx hb dX1_minutesGone_0 rfl (lv_at hl 0 rfl) ?_
  refine va_get (D := D) (ci := 1) (v := .int (r 12 0)) (C := RX1) (T := TX1) (N := 16) hx hb hts hinX1 hown hK hP 0 rfl rfl 12 (by decide) fl54 (fun _ h9 => h9) (congrArg (fun z => some (Value.int z)) (rfl)) dX1_minutesGone_1 ?_
  exact k_iret hx hb hr hlocks hS hP dX1_minutesGone_4 (by (first | rfl | (simp only [↓reduceIte]; done) | (simp []; done)))
set_option maxHeartbeats 4000000 in
set_option maxRecDepth 100000 in
theorem mX1_weeksPassed (l : Launch) (D : va_G) (cI cQ cJ : ClassId) (a : Nat → Nat) (r : rB)  : Mi l D (tY cI cQ cJ) yX1_weeksPassed wsX1_weeksPassed ({ frames := 0, cells := 0, slots := 0, locals := 0 } : Room) [.ref (a 0)] (cR cI a r) (cR cI a r) (r 12 1) := by
  refine M_of (cc := cX1_weeksPassed) (maxL := 1) (ret := some .int) (Qc := fun A => va_Qi (fun (x : Int32) (_ : Unit) => x = r 12 1) (fun _ t => Wd D (cR cI a r) t) A) (by decide) rfl (Nat.le_of_ble_eq_true rfl) ?_
  intro p e s m below meth c A ls hB hE hP hK hD hA hl
  obtain ⟨hx, hb, hr, hml, hts, hown, hlocks⟩ := hB
  have hS : va_S A s.heap s.heap [] := va_S.rf
  have hl : lv_has ls 1 [(0, .ref (a 0))] := hl
  have hinX1 : ∀ w ∈ u_ws RX1 TX1 16, w ∈ wsX1_weeksPassed := by decide +kernel
  have fl58 := hts (.fieldLink RX1 58 "RoofDrains$Roof" "weeksPassed" "I") (by decide +kernel)
  refine lv_aload_n hx hb dX1_weeksPassed_0 rfl (lv_at hl 0 rfl) ?_
  refine va_get (D := D) (ci := 1) (v := .int (r 12 1)) (C := RX1) (T := TX1) (N := 16) hx hb hts hinX1 hown hK hP 0 rfl rfl 13 (by decide) fl58 (fun _ h9 => h9) (congrArg (fun z => some (Value.int z)) (rfl)) dX1_weeksPassed_1 ?_
  exact k_iret hx hb hr hlocks hS hP dX1_weeksPassed_4 (by (first | rfl | (simp only [↓reduceIte]; done) | (simp []; done)))
set_option maxHeartbeats 4000000 in
set_option maxRecDepth 100000 in
theorem mX1_rainedLitres (l : Launch) (D : va_G) (cI cQ cJ : ClassId) (a : Nat → Nat) (r : rB)  : Mi l D (tY cI cQ cJ) yX1_rainedLitres wsX1_rainedLitres ({ frames := 0, cells := 0, slots := 0, locals := 0 } : Room) [.ref (a 0)] (cR cI a r) (cR cI a r) (r 12 2) := by
  refine M_of (cc := cX1_rainedLitres) (maxL := 1) (ret := some .int) (Qc := fun A => va_Qi (fun (x : Int32) (_ : Unit) => x = r 12 2) (fun _ t => Wd D (cR cI a r) t) A) (by decide) rfl (Nat.le_of_ble_eq_true rfl) ?_
  intro p e s m below meth c A ls hB hE hP hK hD hA hl
  obtain ⟨hx, hb, hr, hml, hts, hown, hlocks⟩ := hB
  have hS : va_S A s.heap s.heap [] := va_S.rf
  have hl : lv_has ls 1 [(0, .ref (a 0))] := hl
  have hinX1 : ∀ w ∈ u_ws RX1 TX1 16, w ∈ wsX1_rainedLitres := by decide +kernel
  have fl61 := hts (.fieldLink RX1 61 "RoofDrains$Roof" "rained" "I") (by decide +kernel)
  refine lv_aload_n hx hb dX1_rainedLitres_0 rfl (lv_at hl 0 rfl) ?_
  refine va_get (D := D) (ci := 1) (v := .int (r 12 2)) (C := RX1) (T := TX1) (N := 16) hx hb hts hinX1 hown hK hP 0 rfl rfl 14 (by decide) fl61 (fun _ h9 => h9) (congrArg (fun z => some (Value.int z)) (rfl)) dX1_rainedLitres_1 ?_
  exact k_iret hx hb hr hlocks hS hP dX1_rainedLitres_4 (by (first | rfl | (simp only [↓reduceIte]; done) | (simp []; done)))
set_option maxHeartbeats 4000000 in
set_option maxRecDepth 100000 in
theorem mX1_backedUpMinutes (l : Launch) (D : va_G) (cI cQ cJ : ClassId) (a : Nat → Nat) (r : rB)  : Mi l D (tY cI cQ cJ) yX1_backedUpMinutes wsX1_backedUpMinutes ({ frames := 0, cells := 0, slots := 0, locals := 0 } : Room) [.ref (a 0)] (cR cI a r) (cR cI a r) (r 12 3) := by
  refine M_of (cc := cX1_backedUpMinutes) (maxL := 1) (ret := some .int) (Qc := fun A => va_Qi (fun (x : Int32) (_ : Unit) => x = r 12 3) (fun _ t => Wd D (cR cI a r) t) A) (by decide) rfl (Nat.le_of_ble_eq_true rfl) ?_
  intro p e s m below meth c A ls hB hE hP hK hD hA hl
  obtain ⟨hx, hb, hr, hml, hts, hown, hlocks⟩ := hB
  have hS : va_S A s.heap s.heap [] := va_S.rf
  have hl : lv_has ls 1 [(0, .ref (a 0))] := hl
  have hinX1 : ∀ w ∈ u_ws RX1 TX1 16, w ∈ wsX1_backedUpMinutes := by decide +kernel
  have fl64 := hts (.fieldLink RX1 64 "RoofDrains$Roof" "backedUp" "I") (by decide +kernel)
  refine lv_aload_n hx hb dX1_backedUpMinutes_0 rfl (lv_at hl 0 rfl) ?_
  refine va_get (D := D) (ci := 1) (v := .int (r 12 3)) (C := RX1) (T := TX1) (N := 16) hx hb hts hinX1 hown hK hP 0 rfl rfl 15 (by decide) fl64 (fun _ h9 => h9) (congrArg (fun z => some (Value.int z)) (rfl)) dX1_backedUpMinutes_1 ?_
  exact k_iret hx hb hr hlocks hS hP dX1_backedUpMinutes_4 (by (first | rfl | (simp only [↓reduceIte]; done) | (simp []; done)))
set_option maxHeartbeats 4000000 in
set_option maxRecDepth 100000 in
theorem mX1_settingValue (l : Launch) (D : va_G) (cI cQ cJ : ClassId) (a : Nat → Nat) (r : rB) (q : Int32) (i : Nat) (hq : vp_in q 3) (hi : q.toNatClampNeg = i) : Mi l D (tY cI cQ cJ) yX1_settingValue wsX1_settingValue ({ frames := 0, cells := 0, slots := 0, locals := 0 } : Room) [.ref (a 0), .int q] (cR cI a r) (cR cI a r) (r 11 i) := by
  refine M_of (cc := cX1_settingValue) (maxL := 2) (ret := some .int) (Qc := fun A => va_Qi (fun (x : Int32) (_ : Unit) => x = r 11 i) (fun _ t => Wd D (cR cI a r) t) A) (by decide) rfl (Nat.le_of_ble_eq_true rfl) ?_
  intro p e s m below meth c A ls hB hE hP hK hD hA hl
  obtain ⟨hx, hb, hr, hml, hts, hown, hlocks⟩ := hB
  have hS : va_S A s.heap s.heap [] := va_S.rf
  have hl : lv_has ls 2 [(0, .ref (a 0)), (1, .int q)] := hl
  have hinX1 : ∀ w ∈ u_ws RX1 TX1 16, w ∈ wsX1_settingValue := by decide +kernel
  have fl45 := hts (.fieldLink RX1 45 "RoofDrains$Roof" "values" "[I") (by decide +kernel)
  refine lv_aload_n hx hb dX1_settingValue_0 rfl (lv_at hl 0 rfl) ?_
  refine va_get (D := D) (ci := 1) (v := .ref (a 12)) (C := RX1) (T := TX1) (N := 16) hx hb hts hinX1 hown hK hP 0 rfl rfl 11 (by decide) fl45 (fun _ h9 => h9) rfl dX1_settingValue_1 ?_
  refine lv_iload_n hx hb dX1_settingValue_4 rfl (lv_at hl 1 rfl) ?_
  refine k_iald (k := i) (v := r 11 i) hx hb hK hP 12 0 rfl rfl hq hi (rfl) dX1_settingValue_5 ?_
  exact k_iret hx hb hr hlocks hS hP dX1_settingValue_6 (by (first | rfl | (simp only [↓reduceIte]; done) | (simp []; done)))
set_option maxHeartbeats 4000000 in
set_option maxRecDepth 100000 in
theorem mX1_room (l : Launch) (D : va_G) (cI cQ cJ : ClassId) (a : Nat → Nat) (r : rB) (q : Int32) (i : Nat) (hq : vp_in q 6) (hi : q.toNatClampNeg = i) : Mi l D (tY cI cQ cJ) yX1_room wsX1_room ({ frames := 0, cells := 0, slots := 0, locals := 0 } : Room) [.ref (a 0), .int q] (cR cI a r) (cR cI a r) (roomT r i) := by
  refine M_of (cc := cX1_room) (maxL := 2) (ret := some .int) (Qc := fun A => va_Qi (fun (x : Int32) (_ : Unit) => x = roomT r i) (fun _ t => Wd D (cR cI a r) t) A) (by decide) rfl (Nat.le_of_ble_eq_true rfl) ?_
  intro p e s m below meth c A ls hB hE hP hK hD hA hl
  obtain ⟨hx, hb, hr, hml, hts, hown, hlocks⟩ := hB
  have hS : va_S A s.heap s.heap [] := va_S.rf
  have hl : lv_has ls 2 [(0, .ref (a 0)), (1, .int q)] := hl
  have hinX1 : ∀ w ∈ u_ws RX1 TX1 16, w ∈ wsX1_room := by decide +kernel
  have fl24 := hts (.fieldLink RX1 24 "RoofDrains$Roof" "size" "[I") (by decide +kernel)
  have fl30 := hts (.fieldLink RX1 30 "RoofDrains$Roof" "leaves" "[I") (by decide +kernel)
  refine lv_aload_n hx hb dX1_room_0 rfl (lv_at hl 0 rfl) ?_
  refine va_get (D := D) (ci := 1) (v := .ref (a 5)) (C := RX1) (T := TX1) (N := 16) hx hb hts hinX1 hown hK hP 0 rfl rfl 4 (by decide) fl24 (fun _ h9 => h9) rfl dX1_room_1 ?_
  refine lv_iload_n hx hb dX1_room_4 rfl (lv_at hl 1 rfl) ?_
  refine k_iald (k := i) (v := r 4 i) hx hb hK hP 5 0 rfl rfl hq hi (rfl) dX1_room_5 ?_
  refine lv_bipush (v := 100) hx hb dX1_room_6 (by decide) ?_
  refine lv_aload_n hx hb dX1_room_8 rfl (lv_at hl 0 rfl) ?_
  refine va_get (D := D) (ci := 1) (v := .ref (a 7)) (C := RX1) (T := TX1) (N := 16) hx hb hts hinX1 hown hK hP 0 rfl rfl 6 (by decide) fl30 (fun _ h9 => h9) rfl dX1_room_9 ?_
  refine lv_iload_n hx hb dX1_room_12 rfl (lv_at hl 1 rfl) ?_
  refine k_iald (k := i) (v := r 6 i) hx hb hK hP 7 0 rfl rfl hq hi (rfl) dX1_room_13 ?_
  refine lv_isub hx hb dX1_room_14 ?_
  refine lv_imul hx hb dX1_room_15 ?_
  refine lv_bipush (v := 100) hx hb dX1_room_16 (by decide) ?_
  refine lv_idiv hx hb dX1_room_18 (by decide) ?_
  exact k_iret hx hb hr hlocks hS hP dX1_room_19 (by (first | rfl | (simp only [roomT, ↓reduceIte]; done) | (simp [roomT]; done)))
set_option maxHeartbeats 4000000 in
set_option maxRecDepth 100000 in
theorem mX1_pipeTakes (l : Launch) (D : va_G) (cI cQ cJ : ClassId) (a : Nat → Nat) (r : rB) (q : Int32) (i : Nat) (hq : vp_in q 6) (hi : q.toNatClampNeg = i) : Mi l D (tY cI cQ cJ) yX1_pipeTakes wsX1_pipeTakes ({ frames := 0, cells := 0, slots := 0, locals := 0 } : Room) [.ref (a 0), .int q] (cR cI a r) (cR cI a r) (pipeT r i) := by
  refine M_of (cc := cX1_pipeTakes) (maxL := 3) (ret := some .int) (Qc := fun A => va_Qi (fun (x : Int32) (_ : Unit) => x = pipeT r i) (fun _ t => Wd D (cR cI a r) t) A) (by decide) rfl (Nat.le_of_ble_eq_true rfl) ?_
  intro p e s m below meth c A ls hB hE hP hK hD hA hl
  obtain ⟨hx, hb, hr, hml, hts, hown, hlocks⟩ := hB
  have hS : va_S A s.heap s.heap [] := va_S.rf
  have hl : lv_has ls 3 [(0, .ref (a 0)), (1, .int q)] := hl
  have hinX1 : ∀ w ∈ u_ws RX1 TX1 16, w ∈ wsX1_pipeTakes := by decide +kernel
  have fl27 := hts (.fieldLink RX1 27 "RoofDrains$Roof" "bore" "[I") (by decide +kernel)
  have fl30 := hts (.fieldLink RX1 30 "RoofDrains$Roof" "leaves" "[I") (by decide +kernel)
  refine lv_aload_n hx hb dX1_pipeTakes_0 rfl (lv_at hl 0 rfl) ?_
  refine va_get (D := D) (ci := 1) (v := .ref (a 6)) (C := RX1) (T := TX1) (N := 16) hx hb hts hinX1 hown hK hP 0 rfl rfl 5 (by decide) fl27 (fun _ h9 => h9) rfl dX1_pipeTakes_1 ?_
  refine lv_iload_n hx hb dX1_pipeTakes_4 rfl (lv_at hl 1 rfl) ?_
  refine k_iald (k := i) (v := r 5 i) hx hb hK hP 6 0 rfl rfl hq hi (rfl) dX1_pipeTakes_5 ?_
  refine lv_bipush (v := 100) hx hb dX1_pipeTakes_6 (by decide) ?_
  refine lv_aload_n hx hb dX1_pipeTakes_8 rfl (lv_at hl 0 rfl) ?_
  refine va_get (D := D) (ci := 1) (v := .ref (a 7)) (C := RX1) (T := TX1) (N := 16) hx hb hts hinX1 hown hK hP 0 rfl rfl 6 (by decide) fl30 (fun _ h9 => h9) rfl dX1_pipeTakes_9 ?_
  refine lv_iload_n hx hb dX1_pipeTakes_12 rfl (lv_at hl 1 rfl) ?_
  refine k_iald (k := i) (v := r 6 i) hx hb hK hP 7 0 rfl rfl hq hi (rfl) dX1_pipeTakes_13 ?_
  refine lv_isub hx hb dX1_pipeTakes_14 ?_
  refine lv_imul hx hb dX1_pipeTakes_15 ?_
  refine lv_bipush (v := 100) hx hb dX1_pipeTakes_16 (by decide) ?_
  refine lv_idiv hx hb dX1_pipeTakes_18 (by decide) ?_
  refine lv_topi (fun v2_1 ev2_1 => ?_)
  refine lv_istore_n (lv' := [(2, .int v2_1), (0, .ref (a 0)), (1, .int q)]) hx hb dX1_pipeTakes_19 rfl hl (by decide) rfl (fun ls hl => ?_)
  refine lv_iload_n hx hb dX1_pipeTakes_20 rfl (lv_at hl 0 rfl) ?_
  refine lv_if_ne (tgt := 37) hx hb dX1_pipeTakes_21 (by decide) (fun c_2 => ?_) (fun c_2 => ?_)
  · skip
    refine lv_iload_n hx hb dX1_pipeTakes_37 rfl (lv_at hl 0 rfl) ?_
    exact k_iret hx hb hr hlocks hS hP dX1_pipeTakes_38 (by (subst ev2_1; first | rfl | (simp only [pipeT, c_2, ↓reduceIte]; done) | (simp [pipeT, c_2]; done)))
  · skip
    refine lv_aload_n hx hb dX1_pipeTakes_24 rfl (lv_at hl 1 rfl) ?_
    refine va_get (D := D) (ci := 1) (v := .ref (a 6)) (C := RX1) (T := TX1) (N := 16) hx hb hts hinX1 hown hK hP 0 rfl rfl 5 (by decide) fl27 (fun _ h9 => h9) rfl dX1_pipeTakes_25 ?_
    refine lv_iload_n hx hb dX1_pipeTakes_28 rfl (lv_at hl 2 rfl) ?_
    refine k_iald (k := i) (v := r 5 i) hx hb hK hP 6 0 rfl rfl hq hi (rfl) dX1_pipeTakes_29 ?_
    refine lv_if_eq (tgt := 37) hx hb dX1_pipeTakes_30 (by decide) (fun c_3 => ?_) (fun c_3 => ?_)
    · skip
      refine lv_iload_n hx hb dX1_pipeTakes_37 rfl (lv_at hl 0 rfl) ?_
      exact k_iret hx hb hr hlocks hS hP dX1_pipeTakes_38 (by (subst ev2_1; first | rfl | (simp only [pipeT, c_2, c_3, ↓reduceIte]; done) | (simp [pipeT, c_2, c_3]; done)))
    · skip
      refine lv_iconst (v := 1) hx hb dX1_pipeTakes_33 (by decide) ?_
      refine lv_goto (tgt := 38) hx hb dX1_pipeTakes_34 (by decide) ?_
      exact k_iret hx hb hr hlocks hS hP dX1_pipeTakes_38 (by (subst ev2_1; first | rfl | (simp only [pipeT, c_2, c_3, ↓reduceIte]; done) | (simp [pipeT, c_2, c_3]; done)))
set_option maxHeartbeats 4000000 in
set_option maxRecDepth 100000 in
theorem mX1_hasLeaves (l : Launch) (D : va_G) (cI cQ cJ : ClassId) (a : Nat → Nat) (r : rB) (q : Int32) (i : Nat) (hq : vp_in q 6) (hi : q.toNatClampNeg = i) : Mi l D (tY cI cQ cJ) yX1_hasLeaves wsX1_hasLeaves ({ frames := 0, cells := 0, slots := 0, locals := 0 } : Room) [.ref (a 0), .int q] (cR cI a r) (cR cI a r) (hasL r i) := by
  refine M_of (cc := cX1_hasLeaves) (maxL := 2) (ret := some .boolean) (Qc := fun A => va_Qi (fun (x : Int32) (_ : Unit) => x = hasL r i) (fun _ t => Wd D (cR cI a r) t) A) (by decide) rfl (Nat.le_of_ble_eq_true rfl) ?_
  intro p e s m below meth c A ls hB hE hP hK hD hA hl
  obtain ⟨hx, hb, hr, hml, hts, hown, hlocks⟩ := hB
  have hS : va_S A s.heap s.heap [] := va_S.rf
  have hl : lv_has ls 2 [(0, .ref (a 0)), (1, .int q)] := hl
  have hinX1 : ∀ w ∈ u_ws RX1 TX1 16, w ∈ wsX1_hasLeaves := by decide +kernel
  have fl30 := hts (.fieldLink RX1 30 "RoofDrains$Roof" "leaves" "[I") (by decide +kernel)
  refine lv_aload_n hx hb dX1_hasLeaves_0 rfl (lv_at hl 0 rfl) ?_
  refine va_get (D := D) (ci := 1) (v := .ref (a 7)) (C := RX1) (T := TX1) (N := 16) hx hb hts hinX1 hown hK hP 0 rfl rfl 6 (by decide) fl30 (fun _ h9 => h9) rfl dX1_hasLeaves_1 ?_
  refine lv_iload_n hx hb dX1_hasLeaves_4 rfl (lv_at hl 1 rfl) ?_
  refine k_iald (k := i) (v := r 6 i) hx hb hK hP 7 0 rfl rfl hq hi (rfl) dX1_hasLeaves_5 ?_
  refine lv_if_le (tgt := 13) hx hb dX1_hasLeaves_6 (by decide) (fun c_1 => ?_) (fun c_1 => ?_)
  · skip
    refine lv_iconst (v := 0) hx hb dX1_hasLeaves_13 (by decide) ?_
    exact k_zret hx hb hr hlocks hS hP dX1_hasLeaves_14 (by first | rfl | decide | exact rfl) (by (first | rfl | (simp only [hasL, c_1, ↓reduceIte]; done) | (simp [hasL, c_1]; done)))
  · skip
    refine lv_iconst (v := 1) hx hb dX1_hasLeaves_9 (by decide) ?_
    refine lv_goto (tgt := 14) hx hb dX1_hasLeaves_10 (by decide) ?_
    exact k_zret hx hb hr hlocks hS hP dX1_hasLeaves_14 (by first | rfl | decide | exact rfl) (by (first | rfl | (simp only [hasL, c_1, ↓reduceIte]; done) | (simp [hasL, c_1]; done)))
set_option maxHeartbeats 4000000 in
set_option maxRecDepth 100000 in
theorem mX1_sumOf (l : Launch) (D : va_G) (cI cQ cJ : ClassId) (q : Nat) (f : Nat → Int32) : Mi l D (tY cI cQ cJ) yX1_sumOf wsX1_sumOf ({ frames := 0, cells := 0, slots := 0, locals := 0 } : Room) [.ref q] ([(q, .inl (cI, 6, .inl f))]) ([(q, .inl (cI, 6, .inl f))]) (smI f 6 0 0) := by
  refine M_of (cc := cX1_sumOf) (maxL := 6) (ret := some .int) (Qc := fun A => va_Qi (fun (x : Int32) (_ : Unit) => x = smI f 6 0 0) (fun _ t => Wd D ([(q, .inl (cI, 6, .inl f))]) t) A) (by decide) rfl (Nat.le_of_ble_eq_true rfl) ?_
  intro p e s m below meth c A ls hB hE hP hK hD hA hl
  obtain ⟨hx, hb, hr, hml, hts, hown, hlocks⟩ := hB
  have hS : va_S A s.heap s.heap [] := va_S.rf
  have hl : lv_has ls 6 [(0, .ref q)] := hl
  refine lv_iconst (v := 0) hx hb dX1_sumOf_0 (by decide) ?_
  refine lv_istore_n (lv' := [(1, .int 0), (0, .ref q)]) hx hb dX1_sumOf_1 rfl hl (by decide) rfl (fun ls hl => ?_)
  refine lv_aload_n hx hb dX1_sumOf_2 rfl (lv_at hl 1 rfl) ?_
  refine lv_astore_n (lv' := [(2, .ref q), (1, .int 0), (0, .ref q)]) hx hb dX1_sumOf_3 rfl hl (by decide) rfl (fun ls hl => ?_)
  refine lv_aload_n hx hb dX1_sumOf_4 rfl (lv_at hl 0 rfl) ?_
  refine va_alen (v := 6) hx hb hK hP 0 0 rfl rfl rfl dX1_sumOf_5 ?_
  refine lv_istore_n (lv' := [(3, .int 6), (2, .ref q), (1, .int 0), (0, .ref q)]) hx hb dX1_sumOf_6 rfl hl (by decide) rfl (fun ls hl => ?_)
  refine lv_iconst (v := 0) hx hb dX1_sumOf_7 (by decide) ?_
  refine lv_istore (lv' := [(4, .int 0), (3, .int 6), (2, .ref q), (1, .int 0), (0, .ref q)]) hx hb dX1_sumOf_8 hl (by decide) rfl (fun ls hl => ?_)
  have Lp10 : ∀ (n i : Nat) (sa : Int32), i + n = 6 → smI f n i sa = smI f 6 0 0 → ∀ (H : Heap) (locs : List Loc), va_P D vwCl ([(q, .inl (cI, 6, .inl f))]) H → va_D A ([(q, .inl (cI, 6, .inl f))]) → va_S A s.heap H locs → ∀ (ls : Array Slot), lv_has ls 6 [(4, .int (nI i)), (3, .int 6), (2, .ref q), (1, .int sa), (0, .ref q)] → W p l e ({ frames := 0, cells := 0, slots := 0, locals := 0 } : Room) s m ([.ref q] : List Value).toArray below meth c H locs 0 0 (MQ below (va_Qi (fun (x : Int32) (_ : Unit) => x = smI f 6 0 0) (fun _ t => Wd D ([(q, .inl (cI, 6, .inl f))]) t) A) ([.ref q] : List Value).toArray s 0 0 A) (F0 m 10 ls []) := by
    intro n
    induction n with
    | zero =>
      intro i sa hin hres H locs hP hD hS ls hl
      have h9 : sa = smI f 6 0 0 := hres
      subst h9
      refine lv_iload hx hb dX1_sumOf_10 (lv_at hl 0 rfl) ?_
      refine lv_iload_n hx hb dX1_sumOf_12 rfl (lv_at hl 1 rfl) ?_
      refine lv_icmp_ge (tgt := 33) hx hb dX1_sumOf_13 (by decide) (fun _ => ?_) (fun h9 => absurd (nI_le (a := 6) (b := i) (by omega) (by omega)) h9)
      refine lv_iload_n hx hb dX1_sumOf_33 rfl (lv_at hl 3 rfl) ?_
      exact k_iret hx hb hr hlocks hS hP dX1_sumOf_34 (by (first | rfl | (simp only [↓reduceIte]; done) | (simp []; done)))
    | succ n ih =>
      intro i sa hin hres H locs hP hD hS ls hl
      refine lv_iload hx hb dX1_sumOf_10 (lv_at hl 0 rfl) ?_
      refine lv_iload_n hx hb dX1_sumOf_12 rfl (lv_at hl 1 rfl) ?_
      refine lv_icmp_ge (tgt := 33) hx hb dX1_sumOf_13 (by decide) (fun h9 => absurd h9 (nI_ge (a := i) (b := 6) (by omega) (by omega))) (fun _ => ?_)
      refine lv_aload_n hx hb dX1_sumOf_16 rfl (lv_at hl 2 rfl) ?_
      refine lv_iload hx hb dX1_sumOf_17 (lv_at hl 0 rfl) ?_
      refine k_iald (k := i) (v := f i) hx hb hK hP 0 0 rfl rfl (vp_in_nI (by omega) (by omega)) (nI_clamp (by omega)) rfl dX1_sumOf_19 ?_
      refine lv_topi (fun v5_1 ev5_1 => ?_)
      refine lv_istore (lv' := [(5, .int v5_1), (4, .int (nI i)), (3, .int 6), (2, .ref q), (1, .int sa), (0, .ref q)]) hx hb dX1_sumOf_20 hl (by decide) rfl (fun ls hl => ?_)
      refine lv_iload_n hx hb dX1_sumOf_22 rfl (lv_at hl 4 rfl) ?_
      refine lv_iload hx hb dX1_sumOf_23 (lv_at hl 0 rfl) ?_
      refine lv_iadd hx hb dX1_sumOf_25 ?_
      refine lv_topi (fun v1_2 ev1_2 => ?_)
      refine lv_istore_n (lv' := [(1, .int v1_2), (5, .int v5_1), (4, .int (nI i)), (3, .int 6), (2, .ref q), (0, .ref q)]) hx hb dX1_sumOf_26 rfl hl (by decide) rfl (fun ls hl => ?_)
      refine lv_iinc (v := nI (i + 1)) (lv' := [(4, .int (nI (i + 1))), (1, .int v1_2), (5, .int v5_1), (3, .int 6), (2, .ref q), (0, .ref q)]) hx hb dX1_sumOf_27 hl (k := 2) rfl (nI_1 i) (by decide) rfl (fun ls hl => ?_)
      refine lv_goto (tgt := 10) hx hb dX1_sumOf_30 (by decide) ?_
      exact ih (i + 1) v1_2 (by omega) (by subst ev1_2; subst ev5_1;  exact hres) H locs hP hD hS ls (lv_sub hl [0, 3, 4, 1, 5] rfl)
  exact Lp10 6 0 0 (by omega) rfl _ _ hP hD hS ls (lv_sub hl [0, 1, 2, 3, 4] rfl)
set_option maxHeartbeats 4000000 in
set_option maxRecDepth 100000 in
theorem mX1_drainedLitres (l : Launch) (D : va_G) (cI cQ cJ : ClassId) (a : Nat → Nat) (r : rB)  : Mi l D (tY cI cQ cJ) yX1_drainedLitres wsX1_drainedLitres ({ frames := 1, cells := 0, slots := 0, locals := 25 } : Room) [.ref (a 0)] (cR cI a r) (cR cI a r) (smI (r 10) 6 0 0) := by
  refine M_of (cc := cX1_drainedLitres) (maxL := 1) (ret := some .int) (Qc := fun A => va_Qi (fun (x : Int32) (_ : Unit) => x = smI (r 10) 6 0 0) (fun _ t => Wd D (cR cI a r) t) A) (by decide) rfl (Nat.le_of_ble_eq_true rfl) ?_
  intro p e s m below meth c A ls hB hE hP hK hD hA hl
  obtain ⟨hx, hb, hr, hml, hts, hown, hlocks⟩ := hB
  have hS : va_S A s.heap s.heap [] := va_S.rf
  have hl : lv_has ls 1 [(0, .ref (a 0))] := hl
  have hinX1 : ∀ w ∈ u_ws RX1 TX1 16, w ∈ wsX1_drainedLitres := by decide +kernel
  have fl42 := hts (.fieldLink RX1 42 "RoofDrains$Roof" "drained" "[I") (by decide +kernel)
  refine lv_aload_n hx hb dX1_drainedLitres_0 rfl (lv_at hl 0 rfl) ?_
  refine va_get (D := D) (ci := 1) (v := .ref (a 11)) (C := RX1) (T := TX1) (N := 16) hx hb hts hinX1 hown hK hP 0 rfl rfl 10 (by decide) fl42 (fun _ h9 => h9) rfl dX1_drainedLitres_1 ?_
  refine k_calli (wc := [(a 11, .inl (cI, 6, .inl (r 10)))]) (w' := [(a 11, .inl (cI, 6, .inl (r 10)))]) (wn := cR cI a r) (va_runS (As := [.ref (a 11)]) (rest := []) ⟨hx, hb, hml, hown, hts⟩ (mX1_sumOf l D cI cQ cJ (a 11) (r 10) _) (va_cwS 1 hts gX1_drainedLitres_X1_sumOf rfl rfl rfl (by decide +kernel) ⟨Nat.le_of_ble_eq_true rfl, Nat.le_of_ble_eq_true rfl⟩) (k_preS (wc := [(a 11, .inl (cI, 6, .inl (r 10)))]) hE hK hP hD [11] (by decide) rfl [.ref (a 11)]) rfl rfl hl.1 rfl (lv_room (Nat.le_of_ble_eq_true rfl)) dX1_drainedLitres_4 ⟨Nat.zero_le _, Nat.zero_le _⟩) hP hD hS hA [11] rfl rfl rfl (fun H locs hP hD hS => ?_)
  exact k_iret hx hb hr hlocks hS hP dX1_drainedLitres_7 (by (first | rfl | (simp only [↓reduceIte]; done) | (simp []; done)))
set_option maxHeartbeats 4000000 in
set_option maxRecDepth 100000 in
theorem mX1_spiltLitres (l : Launch) (D : va_G) (cI cQ cJ : ClassId) (a : Nat → Nat) (r : rB)  : Mi l D (tY cI cQ cJ) yX1_spiltLitres wsX1_spiltLitres ({ frames := 1, cells := 0, slots := 0, locals := 25 } : Room) [.ref (a 0)] (cR cI a r) (cR cI a r) (smI (r 9) 6 0 0) := by
  refine M_of (cc := cX1_spiltLitres) (maxL := 1) (ret := some .int) (Qc := fun A => va_Qi (fun (x : Int32) (_ : Unit) => x = smI (r 9) 6 0 0) (fun _ t => Wd D (cR cI a r) t) A) (by decide) rfl (Nat.le_of_ble_eq_true rfl) ?_
  intro p e s m below meth c A ls hB hE hP hK hD hA hl
  obtain ⟨hx, hb, hr, hml, hts, hown, hlocks⟩ := hB
  have hS : va_S A s.heap s.heap [] := va_S.rf
  have hl : lv_has ls 1 [(0, .ref (a 0))] := hl
  have hinX1 : ∀ w ∈ u_ws RX1 TX1 16, w ∈ wsX1_spiltLitres := by decide +kernel
  have fl39 := hts (.fieldLink RX1 39 "RoofDrains$Roof" "spilt" "[I") (by decide +kernel)
  refine lv_aload_n hx hb dX1_spiltLitres_0 rfl (lv_at hl 0 rfl) ?_
  refine va_get (D := D) (ci := 1) (v := .ref (a 10)) (C := RX1) (T := TX1) (N := 16) hx hb hts hinX1 hown hK hP 0 rfl rfl 9 (by decide) fl39 (fun _ h9 => h9) rfl dX1_spiltLitres_1 ?_
  refine k_calli (wc := [(a 10, .inl (cI, 6, .inl (r 9)))]) (w' := [(a 10, .inl (cI, 6, .inl (r 9)))]) (wn := cR cI a r) (va_runS (As := [.ref (a 10)]) (rest := []) ⟨hx, hb, hml, hown, hts⟩ (mX1_sumOf l D cI cQ cJ (a 10) (r 9) _) (va_cwS 1 hts gX1_spiltLitres_X1_sumOf rfl rfl rfl (by decide +kernel) ⟨Nat.le_of_ble_eq_true rfl, Nat.le_of_ble_eq_true rfl⟩) (k_preS (wc := [(a 10, .inl (cI, 6, .inl (r 9)))]) hE hK hP hD [10] (by decide) rfl [.ref (a 10)]) rfl rfl hl.1 rfl (lv_room (Nat.le_of_ble_eq_true rfl)) dX1_spiltLitres_4 ⟨Nat.zero_le _, Nat.zero_le _⟩) hP hD hS hA [10] rfl rfl rfl (fun H locs hP hD hS => ?_)
  exact k_iret hx hb hr hlocks hS hP dX1_spiltLitres_7 (by (first | rfl | (simp only [↓reduceIte]; done) | (simp []; done)))
set_option maxHeartbeats 4000000 in
set_option maxRecDepth 100000 in
theorem mX1_leavesTogether (l : Launch) (D : va_G) (cI cQ cJ : ClassId) (a : Nat → Nat) (r : rB)  : Mi l D (tY cI cQ cJ) yX1_leavesTogether wsX1_leavesTogether ({ frames := 1, cells := 0, slots := 0, locals := 25 } : Room) [.ref (a 0)] (cR cI a r) (cR cI a r) (smI (r 6) 6 0 0) := by
  refine M_of (cc := cX1_leavesTogether) (maxL := 1) (ret := some .int) (Qc := fun A => va_Qi (fun (x : Int32) (_ : Unit) => x = smI (r 6) 6 0 0) (fun _ t => Wd D (cR cI a r) t) A) (by decide) rfl (Nat.le_of_ble_eq_true rfl) ?_
  intro p e s m below meth c A ls hB hE hP hK hD hA hl
  obtain ⟨hx, hb, hr, hml, hts, hown, hlocks⟩ := hB
  have hS : va_S A s.heap s.heap [] := va_S.rf
  have hl : lv_has ls 1 [(0, .ref (a 0))] := hl
  have hinX1 : ∀ w ∈ u_ws RX1 TX1 16, w ∈ wsX1_leavesTogether := by decide +kernel
  have fl30 := hts (.fieldLink RX1 30 "RoofDrains$Roof" "leaves" "[I") (by decide +kernel)
  refine lv_aload_n hx hb dX1_leavesTogether_0 rfl (lv_at hl 0 rfl) ?_
  refine va_get (D := D) (ci := 1) (v := .ref (a 7)) (C := RX1) (T := TX1) (N := 16) hx hb hts hinX1 hown hK hP 0 rfl rfl 6 (by decide) fl30 (fun _ h9 => h9) rfl dX1_leavesTogether_1 ?_
  refine k_calli (wc := [(a 7, .inl (cI, 6, .inl (r 6)))]) (w' := [(a 7, .inl (cI, 6, .inl (r 6)))]) (wn := cR cI a r) (va_runS (As := [.ref (a 7)]) (rest := []) ⟨hx, hb, hml, hown, hts⟩ (mX1_sumOf l D cI cQ cJ (a 7) (r 6) _) (va_cwS 1 hts gX1_leavesTogether_X1_sumOf rfl rfl rfl (by decide +kernel) ⟨Nat.le_of_ble_eq_true rfl, Nat.le_of_ble_eq_true rfl⟩) (k_preS (wc := [(a 7, .inl (cI, 6, .inl (r 6)))]) hE hK hP hD [7] (by decide) rfl [.ref (a 7)]) rfl rfl hl.1 rfl (lv_room (Nat.le_of_ble_eq_true rfl)) dX1_leavesTogether_4 ⟨Nat.zero_le _, Nat.zero_le _⟩) hP hD hS hA [7] rfl rfl rfl (fun H locs hP hD hS => ?_)
  exact k_iret hx hb hr hlocks hS hP dX1_leavesTogether_7 (by (first | rfl | (simp only [↓reduceIte]; done) | (simp []; done)))
set_option maxHeartbeats 4000000 in
set_option maxRecDepth 100000 in
theorem mX1_standingLitres (l : Launch) (D : va_G) (cI cQ cJ : ClassId) (a : Nat → Nat) (r : rB)  : Mi l D (tY cI cQ cJ) yX1_standingLitres wsX1_standingLitres ({ frames := 1, cells := 0, slots := 0, locals := 25 } : Room) [.ref (a 0)] (cR cI a r) (cR cI a r) (standC r) := by
  refine M_of (cc := cX1_standingLitres) (maxL := 1) (ret := some .int) (Qc := fun A => va_Qi (fun (x : Int32) (_ : Unit) => x = standC r) (fun _ t => Wd D (cR cI a r) t) A) (by decide) rfl (Nat.le_of_ble_eq_true rfl) ?_
  intro p e s m below meth c A ls hB hE hP hK hD hA hl
  obtain ⟨hx, hb, hr, hml, hts, hown, hlocks⟩ := hB
  have hS : va_S A s.heap s.heap [] := va_S.rf
  have hl : lv_has ls 1 [(0, .ref (a 0))] := hl
  have hinX1 : ∀ w ∈ u_ws RX1 TX1 16, w ∈ wsX1_standingLitres := by decide +kernel
  have fl21 := hts (.fieldLink RX1 21 "RoofDrains$Roof" "onPlane" "[I") (by decide +kernel)
  have fl36 := hts (.fieldLink RX1 36 "RoofDrains$Roof" "inGutter" "[I") (by decide +kernel)
  refine lv_aload_n hx hb dX1_standingLitres_0 rfl (lv_at hl 0 rfl) ?_
  refine va_get (D := D) (ci := 1) (v := .ref (a 4)) (C := RX1) (T := TX1) (N := 16) hx hb hts hinX1 hown hK hP 0 rfl rfl 3 (by decide) fl21 (fun _ h9 => h9) rfl dX1_standingLitres_1 ?_
  refine k_calli (wc := [(a 4, .inl (cI, 6, .inl (r 3)))]) (w' := [(a 4, .inl (cI, 6, .inl (r 3)))]) (wn := cR cI a r) (va_runS (As := [.ref (a 4)]) (rest := []) ⟨hx, hb, hml, hown, hts⟩ (mX1_sumOf l D cI cQ cJ (a 4) (r 3) _) (va_cwS 1 hts gX1_standingLitres_X1_sumOf rfl rfl rfl (by decide +kernel) ⟨Nat.le_of_ble_eq_true rfl, Nat.le_of_ble_eq_true rfl⟩) (k_preS (wc := [(a 4, .inl (cI, 6, .inl (r 3)))]) hE hK hP hD [4] (by decide) rfl [.ref (a 4)]) rfl rfl hl.1 rfl (lv_room (Nat.le_of_ble_eq_true rfl)) dX1_standingLitres_4 ⟨Nat.zero_le _, Nat.zero_le _⟩) hP hD hS hA [4] rfl rfl rfl (fun H locs hP hD hS => ?_)
  refine lv_aload_n hx hb dX1_standingLitres_7 rfl (lv_at hl 0 rfl) ?_
  refine va_get (D := D) (ci := 1) (v := .ref (a 9)) (C := RX1) (T := TX1) (N := 16) hx hb hts hinX1 hown hK hP 0 rfl rfl 8 (by decide) fl36 (fun _ h9 => h9) rfl dX1_standingLitres_8 ?_
  refine k_calli (wc := [(a 9, .inl (cI, 6, .inl (r 8)))]) (w' := [(a 9, .inl (cI, 6, .inl (r 8)))]) (wn := cR cI a r) (va_runS (As := [.ref (a 9)]) (rest := [.int (smI (r 3) 6 0 0)]) ⟨hx, hb, hml, hown, hts⟩ (mX1_sumOf l D cI cQ cJ (a 9) (r 8) _) (va_cwS 1 hts gX1_standingLitres_X1_sumOf rfl rfl rfl (by decide +kernel) ⟨Nat.le_of_ble_eq_true rfl, Nat.le_of_ble_eq_true rfl⟩) (k_preS (wc := [(a 9, .inl (cI, 6, .inl (r 8)))]) hE hK hP hD [9] (by decide) rfl [.ref (a 9)]) rfl rfl hl.1 rfl (lv_room (Nat.le_of_ble_eq_true rfl)) dX1_standingLitres_11 ⟨Nat.zero_le _, Nat.zero_le _⟩) hP hD hS hA [9] rfl rfl rfl (fun H locs hP hD hS => ?_)
  refine lv_iadd hx hb dX1_standingLitres_14 ?_
  exact k_iret hx hb hr hlocks hS hP dX1_standingLitres_15 (by (first | rfl | (simp only [standC, ↓reduceIte]; done) | (simp [standC]; done)))
set_option maxHeartbeats 4000000 in
set_option maxRecDepth 100000 in
theorem mX1_changePlane (l : Launch) (D : va_G) (cI cQ cJ : ClassId) (a : Nat → Nat) (r : rB) (q : Int32) (i : Nat) (hq : vp_in q 6) (hi : q.toNatClampNeg = i) (x y z : Int32) : Mi l D (tY cI cQ cJ) yX1_changePlane wsX1_changePlane ({ frames := 0, cells := 0, slots := 0, locals := 0 } : Room) [.ref (a 0), .int q, .int x, .int y, .int z] (cR cI a r) (cR cI a (bp (bp (bp r 0 i x) 1 i y) 2 i z)) (r 0 i) := by
  refine M_of (cc := cX1_changePlane) (maxL := 6) (ret := some .int) (Qc := fun A => va_Qi (fun (x : Int32) (_ : Unit) => x = r 0 i) (fun _ t => Wd D (cR cI a (bp (bp (bp r 0 i x) 1 i y) 2 i z)) t) A) (by decide) rfl (Nat.le_of_ble_eq_true rfl) ?_
  intro p e s m below meth c A ls hB hE hP hK hD hA hl
  obtain ⟨hx, hb, hr, hml, hts, hown, hlocks⟩ := hB
  have hS : va_S A s.heap s.heap [] := va_S.rf
  have hl : lv_has ls 6 [(0, .ref (a 0)), (1, .int q), (2, .int x), (3, .int y), (4, .int z)] := hl
  have hinX1 : ∀ w ∈ u_ws RX1 TX1 16, w ∈ wsX1_changePlane := by decide +kernel
  have fl9 := hts (.fieldLink RX1 9 "RoofDrains$Roof" "area" "[I") (by decide +kernel)
  have fl15 := hts (.fieldLink RX1 15 "RoofDrains$Roof" "slope" "[I") (by decide +kernel)
  have fl18 := hts (.fieldLink RX1 18 "RoofDrains$Roof" "leadsTo" "[I") (by decide +kernel)
  refine lv_aload_n hx hb dX1_changePlane_0 rfl (lv_at hl 0 rfl) ?_
  refine va_get (D := D) (ci := 1) (v := .ref (a 1)) (C := RX1) (T := TX1) (N := 16) hx hb hts hinX1 hown hK hP 0 rfl rfl 0 (by decide) fl9 (fun _ h9 => h9) rfl dX1_changePlane_1 ?_
  refine lv_iload_n hx hb dX1_changePlane_4 rfl (lv_at hl 1 rfl) ?_
  refine k_iald (k := i) (v := r 0 i) hx hb hK hP 1 0 rfl rfl hq hi (rfl) dX1_changePlane_5 ?_
  refine lv_topi (fun v5_1 ev5_1 => ?_)
  refine lv_istore (lv' := [(5, .int v5_1), (0, .ref (a 0)), (1, .int q), (2, .int x), (3, .int y), (4, .int z)]) hx hb dX1_changePlane_6 hl (by decide) rfl (fun ls hl => ?_)
  refine lv_aload_n hx hb dX1_changePlane_8 rfl (lv_at hl 1 rfl) ?_
  refine va_get (D := D) (ci := 1) (v := .ref (a 1)) (C := RX1) (T := TX1) (N := 16) hx hb hts hinX1 hown hK hP 0 rfl rfl 0 (by decide) fl9 (fun _ h9 => h9) rfl dX1_changePlane_9 ?_
  refine lv_iload_n hx hb dX1_changePlane_12 rfl (lv_at hl 2 rfl) ?_
  refine lv_iload_n hx hb dX1_changePlane_13 rfl (lv_at hl 3 rfl) ?_
  refine k_iast (k := i) (ws' := cR cI a (bp r 0 i x)) hx hb hK hP hD hS 1 0 rfl rfl hq hi rfl dX1_changePlane_14 (fun H locs hP hD hS => ?_)
  refine lv_aload_n hx hb dX1_changePlane_15 rfl (lv_at hl 1 rfl) ?_
  refine va_get (D := D) (ci := 1) (v := .ref (a 2)) (C := RX1) (T := TX1) (N := 16) hx hb hts hinX1 hown hK hP 0 rfl rfl 1 (by decide) fl15 (fun _ h9 => h9) rfl dX1_changePlane_16 ?_
  refine lv_iload_n hx hb dX1_changePlane_19 rfl (lv_at hl 2 rfl) ?_
  refine lv_iload_n hx hb dX1_changePlane_20 rfl (lv_at hl 4 rfl) ?_
  refine k_iast (k := i) (ws' := cR cI a (bp (bp r 0 i x) 1 i y)) hx hb hK hP hD hS 2 0 rfl rfl hq hi rfl dX1_changePlane_21 (fun H locs hP hD hS => ?_)
  refine lv_aload_n hx hb dX1_changePlane_22 rfl (lv_at hl 1 rfl) ?_
  refine va_get (D := D) (ci := 1) (v := .ref (a 3)) (C := RX1) (T := TX1) (N := 16) hx hb hts hinX1 hown hK hP 0 rfl rfl 2 (by decide) fl18 (fun _ h9 => h9) rfl dX1_changePlane_23 ?_
  refine lv_iload_n hx hb dX1_changePlane_26 rfl (lv_at hl 2 rfl) ?_
  refine lv_iload hx hb dX1_changePlane_27 (lv_at hl 5 rfl) ?_
  refine k_iast (k := i) (ws' := cR cI a (bp (bp (bp r 0 i x) 1 i y) 2 i z)) hx hb hK hP hD hS 3 0 rfl rfl hq hi rfl dX1_changePlane_29 (fun H locs hP hD hS => ?_)
  refine lv_iload hx hb dX1_changePlane_30 (lv_at hl 0 rfl) ?_
  exact k_iret hx hb hr hlocks hS hP dX1_changePlane_32 (by (subst ev5_1; first | rfl | (simp only [↓reduceIte]; done) | (simp []; done)))
set_option maxHeartbeats 4000000 in
set_option maxRecDepth 100000 in
theorem mX1_changeGutter (l : Launch) (D : va_G) (cI cQ cJ : ClassId) (a : Nat → Nat) (r : rB) (q : Int32) (i : Nat) (hq : vp_in q 6) (hi : q.toNatClampNeg = i) (x y : Int32) : Mi l D (tY cI cQ cJ) yX1_changeGutter wsX1_changeGutter ({ frames := 0, cells := 0, slots := 0, locals := 0 } : Room) [.ref (a 0), .int q, .int x, .int y] (cR cI a r) (cR cI a (bp (bp r 4 i x) 5 i y)) (r 4 i) := by
  refine M_of (cc := cX1_changeGutter) (maxL := 5) (ret := some .int) (Qc := fun A => va_Qi (fun (x : Int32) (_ : Unit) => x = r 4 i) (fun _ t => Wd D (cR cI a (bp (bp r 4 i x) 5 i y)) t) A) (by decide) rfl (Nat.le_of_ble_eq_true rfl) ?_
  intro p e s m below meth c A ls hB hE hP hK hD hA hl
  obtain ⟨hx, hb, hr, hml, hts, hown, hlocks⟩ := hB
  have hS : va_S A s.heap s.heap [] := va_S.rf
  have hl : lv_has ls 5 [(0, .ref (a 0)), (1, .int q), (2, .int x), (3, .int y)] := hl
  have hinX1 : ∀ w ∈ u_ws RX1 TX1 16, w ∈ wsX1_changeGutter := by decide +kernel
  have fl24 := hts (.fieldLink RX1 24 "RoofDrains$Roof" "size" "[I") (by decide +kernel)
  have fl27 := hts (.fieldLink RX1 27 "RoofDrains$Roof" "bore" "[I") (by decide +kernel)
  refine lv_aload_n hx hb dX1_changeGutter_0 rfl (lv_at hl 0 rfl) ?_
  refine va_get (D := D) (ci := 1) (v := .ref (a 5)) (C := RX1) (T := TX1) (N := 16) hx hb hts hinX1 hown hK hP 0 rfl rfl 4 (by decide) fl24 (fun _ h9 => h9) rfl dX1_changeGutter_1 ?_
  refine lv_iload_n hx hb dX1_changeGutter_4 rfl (lv_at hl 1 rfl) ?_
  refine k_iald (k := i) (v := r 4 i) hx hb hK hP 5 0 rfl rfl hq hi (rfl) dX1_changeGutter_5 ?_
  refine lv_topi (fun v4_1 ev4_1 => ?_)
  refine lv_istore (lv' := [(4, .int v4_1), (0, .ref (a 0)), (1, .int q), (2, .int x), (3, .int y)]) hx hb dX1_changeGutter_6 hl (by decide) rfl (fun ls hl => ?_)
  refine lv_aload_n hx hb dX1_changeGutter_8 rfl (lv_at hl 1 rfl) ?_
  refine va_get (D := D) (ci := 1) (v := .ref (a 5)) (C := RX1) (T := TX1) (N := 16) hx hb hts hinX1 hown hK hP 0 rfl rfl 4 (by decide) fl24 (fun _ h9 => h9) rfl dX1_changeGutter_9 ?_
  refine lv_iload_n hx hb dX1_changeGutter_12 rfl (lv_at hl 2 rfl) ?_
  refine lv_iload_n hx hb dX1_changeGutter_13 rfl (lv_at hl 3 rfl) ?_
  refine k_iast (k := i) (ws' := cR cI a (bp r 4 i x)) hx hb hK hP hD hS 5 0 rfl rfl hq hi rfl dX1_changeGutter_14 (fun H locs hP hD hS => ?_)
  refine lv_aload_n hx hb dX1_changeGutter_15 rfl (lv_at hl 1 rfl) ?_
  refine va_get (D := D) (ci := 1) (v := .ref (a 6)) (C := RX1) (T := TX1) (N := 16) hx hb hts hinX1 hown hK hP 0 rfl rfl 5 (by decide) fl27 (fun _ h9 => h9) rfl dX1_changeGutter_16 ?_
  refine lv_iload_n hx hb dX1_changeGutter_19 rfl (lv_at hl 2 rfl) ?_
  refine lv_iload_n hx hb dX1_changeGutter_20 rfl (lv_at hl 4 rfl) ?_
  refine k_iast (k := i) (ws' := cR cI a (bp (bp r 4 i x) 5 i y)) hx hb hK hP hD hS 6 0 rfl rfl hq hi rfl dX1_changeGutter_21 (fun H locs hP hD hS => ?_)
  refine lv_iload hx hb dX1_changeGutter_22 (lv_at hl 0 rfl) ?_
  exact k_iret hx hb hr hlocks hS hP dX1_changeGutter_24 (by (subst ev4_1; first | rfl | (simp only [↓reduceIte]; done) | (simp []; done)))
set_option maxHeartbeats 4000000 in
set_option maxRecDepth 100000 in
theorem mX1_changeValley (l : Launch) (D : va_G) (cI cQ cJ : ClassId) (a : Nat → Nat) (r : rB) (q : Int32) (i : Nat) (hq : vp_in q 6) (hi : q.toNatClampNeg = i) (x : Int32) : Mi l D (tY cI cQ cJ) yX1_changeValley wsX1_changeValley ({ frames := 0, cells := 0, slots := 0, locals := 0 } : Room) [.ref (a 0), .int q, .int x] (cR cI a r) (cR cI a (bp r 7 i x)) (r 7 i) := by
  refine M_of (cc := cX1_changeValley) (maxL := 4) (ret := some .int) (Qc := fun A => va_Qi (fun (x : Int32) (_ : Unit) => x = r 7 i) (fun _ t => Wd D (cR cI a (bp r 7 i x)) t) A) (by decide) rfl (Nat.le_of_ble_eq_true rfl) ?_
  intro p e s m below meth c A ls hB hE hP hK hD hA hl
  obtain ⟨hx, hb, hr, hml, hts, hown, hlocks⟩ := hB
  have hS : va_S A s.heap s.heap [] := va_S.rf
  have hl : lv_has ls 4 [(0, .ref (a 0)), (1, .int q), (2, .int x)] := hl
  have hinX1 : ∀ w ∈ u_ws RX1 TX1 16, w ∈ wsX1_changeValley := by decide +kernel
  have fl33 := hts (.fieldLink RX1 33 "RoofDrains$Roof" "valleyTo" "[I") (by decide +kernel)
  refine lv_aload_n hx hb dX1_changeValley_0 rfl (lv_at hl 0 rfl) ?_
  refine va_get (D := D) (ci := 1) (v := .ref (a 8)) (C := RX1) (T := TX1) (N := 16) hx hb hts hinX1 hown hK hP 0 rfl rfl 7 (by decide) fl33 (fun _ h9 => h9) rfl dX1_changeValley_1 ?_
  refine lv_iload_n hx hb dX1_changeValley_4 rfl (lv_at hl 1 rfl) ?_
  refine k_iald (k := i) (v := r 7 i) hx hb hK hP 8 0 rfl rfl hq hi (rfl) dX1_changeValley_5 ?_
  refine lv_topi (fun v3_1 ev3_1 => ?_)
  refine lv_istore_n (lv' := [(3, .int v3_1), (0, .ref (a 0)), (1, .int q), (2, .int x)]) hx hb dX1_changeValley_6 rfl hl (by decide) rfl (fun ls hl => ?_)
  refine lv_aload_n hx hb dX1_changeValley_7 rfl (lv_at hl 1 rfl) ?_
  refine va_get (D := D) (ci := 1) (v := .ref (a 8)) (C := RX1) (T := TX1) (N := 16) hx hb hts hinX1 hown hK hP 0 rfl rfl 7 (by decide) fl33 (fun _ h9 => h9) rfl dX1_changeValley_8 ?_
  refine lv_iload_n hx hb dX1_changeValley_11 rfl (lv_at hl 2 rfl) ?_
  refine lv_iload_n hx hb dX1_changeValley_12 rfl (lv_at hl 3 rfl) ?_
  refine k_iast (k := i) (ws' := cR cI a (bp r 7 i x)) hx hb hK hP hD hS 8 0 rfl rfl hq hi rfl dX1_changeValley_13 (fun H locs hP hD hS => ?_)
  refine lv_iload_n hx hb dX1_changeValley_14 rfl (lv_at hl 0 rfl) ?_
  exact k_iret hx hb hr hlocks hS hP dX1_changeValley_15 (by (subst ev3_1; first | rfl | (simp only [↓reduceIte]; done) | (simp []; done)))
set_option maxHeartbeats 4000000 in
set_option maxRecDepth 100000 in
theorem mX1_takeLeaves (l : Launch) (D : va_G) (cI cQ cJ : ClassId) (a : Nat → Nat) (r : rB) (q : Int32) (i : Nat) (hq : vp_in q 6) (hi : q.toNatClampNeg = i) : Mi l D (tY cI cQ cJ) yX1_takeLeaves wsX1_takeLeaves ({ frames := 0, cells := 0, slots := 0, locals := 0 } : Room) [.ref (a 0), .int q] (cR cI a r) (cR cI a (bp r 6 i 0)) (r 6 i) := by
  refine M_of (cc := cX1_takeLeaves) (maxL := 3) (ret := some .int) (Qc := fun A => va_Qi (fun (x : Int32) (_ : Unit) => x = r 6 i) (fun _ t => Wd D (cR cI a (bp r 6 i 0)) t) A) (by decide) rfl (Nat.le_of_ble_eq_true rfl) ?_
  intro p e s m below meth c A ls hB hE hP hK hD hA hl
  obtain ⟨hx, hb, hr, hml, hts, hown, hlocks⟩ := hB
  have hS : va_S A s.heap s.heap [] := va_S.rf
  have hl : lv_has ls 3 [(0, .ref (a 0)), (1, .int q)] := hl
  have hinX1 : ∀ w ∈ u_ws RX1 TX1 16, w ∈ wsX1_takeLeaves := by decide +kernel
  have fl30 := hts (.fieldLink RX1 30 "RoofDrains$Roof" "leaves" "[I") (by decide +kernel)
  refine lv_aload_n hx hb dX1_takeLeaves_0 rfl (lv_at hl 0 rfl) ?_
  refine va_get (D := D) (ci := 1) (v := .ref (a 7)) (C := RX1) (T := TX1) (N := 16) hx hb hts hinX1 hown hK hP 0 rfl rfl 6 (by decide) fl30 (fun _ h9 => h9) rfl dX1_takeLeaves_1 ?_
  refine lv_iload_n hx hb dX1_takeLeaves_4 rfl (lv_at hl 1 rfl) ?_
  refine k_iald (k := i) (v := r 6 i) hx hb hK hP 7 0 rfl rfl hq hi (rfl) dX1_takeLeaves_5 ?_
  refine lv_topi (fun v2_1 ev2_1 => ?_)
  refine lv_istore_n (lv' := [(2, .int v2_1), (0, .ref (a 0)), (1, .int q)]) hx hb dX1_takeLeaves_6 rfl hl (by decide) rfl (fun ls hl => ?_)
  refine lv_aload_n hx hb dX1_takeLeaves_7 rfl (lv_at hl 1 rfl) ?_
  refine va_get (D := D) (ci := 1) (v := .ref (a 7)) (C := RX1) (T := TX1) (N := 16) hx hb hts hinX1 hown hK hP 0 rfl rfl 6 (by decide) fl30 (fun _ h9 => h9) rfl dX1_takeLeaves_8 ?_
  refine lv_iload_n hx hb dX1_takeLeaves_11 rfl (lv_at hl 2 rfl) ?_
  refine lv_iconst (v := 0) hx hb dX1_takeLeaves_12 (by decide) ?_
  refine k_iast (k := i) (ws' := cR cI a (bp r 6 i 0)) hx hb hK hP hD hS 7 0 rfl rfl hq hi rfl dX1_takeLeaves_13 (fun H locs hP hD hS => ?_)
  refine lv_iload_n hx hb dX1_takeLeaves_14 rfl (lv_at hl 0 rfl) ?_
  exact k_iret hx hb hr hlocks hS hP dX1_takeLeaves_15 (by (subst ev2_1; first | rfl | (simp only [↓reduceIte]; done) | (simp []; done)))
set_option maxHeartbeats 4000000 in
set_option maxRecDepth 100000 in
theorem mX1_changeSetting (l : Launch) (D : va_G) (cI cQ cJ : ClassId) (a : Nat → Nat) (r : rB) (q : Int32) (i : Nat) (hq : vp_in q 3) (hi : q.toNatClampNeg = i) (x : Int32) : Mi l D (tY cI cQ cJ) yX1_changeSetting wsX1_changeSetting ({ frames := 0, cells := 0, slots := 0, locals := 0 } : Room) [.ref (a 0), .int q, .int x] (cR cI a r) (cR cI a (bp r 11 i x)) (r 11 i) := by
  refine M_of (cc := cX1_changeSetting) (maxL := 4) (ret := some .int) (Qc := fun A => va_Qi (fun (x : Int32) (_ : Unit) => x = r 11 i) (fun _ t => Wd D (cR cI a (bp r 11 i x)) t) A) (by decide) rfl (Nat.le_of_ble_eq_true rfl) ?_
  intro p e s m below meth c A ls hB hE hP hK hD hA hl
  obtain ⟨hx, hb, hr, hml, hts, hown, hlocks⟩ := hB
  have hS : va_S A s.heap s.heap [] := va_S.rf
  have hl : lv_has ls 4 [(0, .ref (a 0)), (1, .int q), (2, .int x)] := hl
  have hinX1 : ∀ w ∈ u_ws RX1 TX1 16, w ∈ wsX1_changeSetting := by decide +kernel
  have fl45 := hts (.fieldLink RX1 45 "RoofDrains$Roof" "values" "[I") (by decide +kernel)
  refine lv_aload_n hx hb dX1_changeSetting_0 rfl (lv_at hl 0 rfl) ?_
  refine va_get (D := D) (ci := 1) (v := .ref (a 12)) (C := RX1) (T := TX1) (N := 16) hx hb hts hinX1 hown hK hP 0 rfl rfl 11 (by decide) fl45 (fun _ h9 => h9) rfl dX1_changeSetting_1 ?_
  refine lv_iload_n hx hb dX1_changeSetting_4 rfl (lv_at hl 1 rfl) ?_
  refine k_iald (k := i) (v := r 11 i) hx hb hK hP 12 0 rfl rfl hq hi (rfl) dX1_changeSetting_5 ?_
  refine lv_topi (fun v3_1 ev3_1 => ?_)
  refine lv_istore_n (lv' := [(3, .int v3_1), (0, .ref (a 0)), (1, .int q), (2, .int x)]) hx hb dX1_changeSetting_6 rfl hl (by decide) rfl (fun ls hl => ?_)
  refine lv_aload_n hx hb dX1_changeSetting_7 rfl (lv_at hl 1 rfl) ?_
  refine va_get (D := D) (ci := 1) (v := .ref (a 12)) (C := RX1) (T := TX1) (N := 16) hx hb hts hinX1 hown hK hP 0 rfl rfl 11 (by decide) fl45 (fun _ h9 => h9) rfl dX1_changeSetting_8 ?_
  refine lv_iload_n hx hb dX1_changeSetting_11 rfl (lv_at hl 2 rfl) ?_
  refine lv_iload_n hx hb dX1_changeSetting_12 rfl (lv_at hl 3 rfl) ?_
  refine k_iast (k := i) (ws' := cR cI a (bp r 11 i x)) hx hb hK hP hD hS 12 0 rfl rfl hq hi rfl dX1_changeSetting_13 (fun H locs hP hD hS => ?_)
  refine lv_iload_n hx hb dX1_changeSetting_14 rfl (lv_at hl 0 rfl) ?_
  exact k_iret hx hb hr hlocks hS hP dX1_changeSetting_15 (by (subst ev3_1; first | rfl | (simp only [↓reduceIte]; done) | (simp []; done)))
end
section
set_option maxHeartbeats 4000000 in
set_option maxRecDepth 100000 in
theorem mX1_wetPlane (l : Launch) (D : va_G) (cI cQ cJ : ClassId) (a : Nat → Nat) (r : rB) (q : Int32) (i : Nat) (hq : vp_in q 6) (hi : q.toNatClampNeg = i) (x : Int32) : Mv l D (tY cI cQ cJ) yX1_wetPlane wsX1_wetPlane ({ frames := 1, cells := 0, slots := 0, locals := 20 } : Room) [.ref (a 0), .int q, .int x] (cR cI a r) (cR cI a (wet r i x)) := by
  refine M_of (cc := cX1_wetPlane) (maxL := 6) (ret := none) (Qc := fun A => va_Qv (fun (_ : Unit) => True) (fun _ t => Wd D (cR cI a (wet r i x)) t) A) (by decide) rfl (Nat.le_of_ble_eq_true rfl) ?_
  intro p e s m below meth c A ls hB hE hP hK hD hA hl
  obtain ⟨hx, hb, hr, hml, hts, hown, hlocks⟩ := hB
  have hS : va_S A s.heap s.heap [] := va_S.rf
  have hl : lv_has ls 6 [(0, .ref (a 0)), (1, .int q), (2, .int x)] := hl
  have hinX1 : ∀ w ∈ u_ws RX1 TX1 16, w ∈ wsX1_wetPlane := by decide +kernel
  have fl9 := hts (.fieldLink RX1 9 "RoofDrains$Roof" "area" "[I") (by decide +kernel)
  have fl61 := hts (.fieldLink RX1 61 "RoofDrains$Roof" "rained" "I") (by decide +kernel)
  have fl21 := hts (.fieldLink RX1 21 "RoofDrains$Roof" "onPlane" "[I") (by decide +kernel)
  have fl15 := hts (.fieldLink RX1 15 "RoofDrains$Roof" "slope" "[I") (by decide +kernel)
  have fl18 := hts (.fieldLink RX1 18 "RoofDrains$Roof" "leadsTo" "[I") (by decide +kernel)
  have fl36 := hts (.fieldLink RX1 36 "RoofDrains$Roof" "inGutter" "[I") (by decide +kernel)
  refine lv_aload_n hx hb dX1_wetPlane_0 rfl (lv_at hl 0 rfl) ?_
  refine va_get (D := D) (ci := 1) (v := .ref (a 1)) (C := RX1) (T := TX1) (N := 16) hx hb hts hinX1 hown hK hP 0 rfl rfl 0 (by decide) fl9 (fun _ h9 => h9) rfl dX1_wetPlane_1 ?_
  refine lv_iload_n hx hb dX1_wetPlane_4 rfl (lv_at hl 1 rfl) ?_
  refine k_iald (k := i) (v := r 0 i) hx hb hK hP 1 0 rfl rfl hq hi (rfl) dX1_wetPlane_5 ?_
  refine lv_iload_n hx hb dX1_wetPlane_6 rfl (lv_at hl 2 rfl) ?_
  refine lv_imul hx hb dX1_wetPlane_7 ?_
  refine lv_bipush (v := 10) hx hb dX1_wetPlane_8 (by decide) ?_
  refine lv_idiv hx hb dX1_wetPlane_10 (by decide) ?_
  refine lv_topi (fun v3_1 ev3_1 => ?_)
  refine lv_istore_n (lv' := [(3, .int v3_1), (0, .ref (a 0)), (1, .int q), (2, .int x)]) hx hb dX1_wetPlane_11 rfl hl (by decide) rfl (fun ls hl => ?_)
  refine lv_aload_n hx hb dX1_wetPlane_12 rfl (lv_at hl 1 rfl) ?_
  refine lv_dup hx hb dX1_wetPlane_13 rfl ?_
  refine va_get (D := D) (ci := 1) (v := .int (r 12 2)) (C := RX1) (T := TX1) (N := 16) hx hb hts hinX1 hown hK hP 0 rfl rfl 14 (by decide) fl61 (fun _ h9 => h9) (congrArg (fun z => some (Value.int z)) (rfl)) dX1_wetPlane_14 ?_
  refine lv_iload_n hx hb dX1_wetPlane_17 rfl (lv_at hl 0 rfl) ?_
  refine lv_iadd hx hb dX1_wetPlane_18 ?_
  refine lv_topi (fun f_2 ef_2 => ?_)
  refine k_put (D := D) (ci := 1) (v := .int f_2) (ty := .int) (C := RX1) (T := TX1) (N := 16) hx hb hts hinX1 tyX1 tyX1_ok nmX1 hown hK hP hD hS 0 rfl rfl 14 (by decide) fl61 (fun _ h9 => h9) rfl (by decide +kernel) rfl rfl (Nat.le_of_ble_eq_true rfl) (ws' := cR cI a (bp r 12 2 f_2)) rfl dX1_wetPlane_19 (fun H locs hP hD hS => ?_)
  refine lv_aload_n hx hb dX1_wetPlane_22 rfl (lv_at hl 1 rfl) ?_
  refine va_get (D := D) (ci := 1) (v := .ref (a 4)) (C := RX1) (T := TX1) (N := 16) hx hb hts hinX1 hown hK hP 0 rfl rfl 3 (by decide) fl21 (fun _ h9 => h9) rfl dX1_wetPlane_23 ?_
  refine lv_iload_n hx hb dX1_wetPlane_26 rfl (lv_at hl 2 rfl) ?_
  refine lv_dup2_11 hx hb dX1_wetPlane_27 rfl rfl ?_
  refine k_iald (k := i) (v := r 3 i) hx hb hK hP 4 0 rfl rfl hq hi ((bp_rw (by decide)).trans (rfl)) dX1_wetPlane_28 ?_
  refine lv_iload_n hx hb dX1_wetPlane_29 rfl (lv_at hl 0 rfl) ?_
  refine lv_iadd hx hb dX1_wetPlane_30 ?_
  refine lv_topi (fun a_3 ea_3 => ?_)
  refine k_iast (k := i) (ws' := cR cI a (bp (bp r 12 2 f_2) 3 i a_3)) hx hb hK hP hD hS 4 0 rfl rfl hq hi rfl dX1_wetPlane_31 (fun H locs hP hD hS => ?_)
  refine lv_aload_n hx hb dX1_wetPlane_32 rfl (lv_at hl 1 rfl) ?_
  refine va_get (D := D) (ci := 1) (v := .ref (a 4)) (C := RX1) (T := TX1) (N := 16) hx hb hts hinX1 hown hK hP 0 rfl rfl 3 (by decide) fl21 (fun _ h9 => h9) rfl dX1_wetPlane_33 ?_
  refine lv_iload_n hx hb dX1_wetPlane_36 rfl (lv_at hl 2 rfl) ?_
  refine k_iald (k := i) (v := a_3) hx hb hK hP 4 0 rfl rfl hq hi (bp_eq) dX1_wetPlane_37 ?_
  refine lv_iconst (v := 5) hx hb dX1_wetPlane_38 (by decide) ?_
  refine lv_aload_n hx hb dX1_wetPlane_39 rfl (lv_at hl 1 rfl) ?_
  refine va_get (D := D) (ci := 1) (v := .ref (a 2)) (C := RX1) (T := TX1) (N := 16) hx hb hts hinX1 hown hK hP 0 rfl rfl 1 (by decide) fl15 (fun _ h9 => h9) rfl dX1_wetPlane_40 ?_
  refine lv_iload_n hx hb dX1_wetPlane_43 rfl (lv_at hl 2 rfl) ?_
  refine k_iald (k := i) (v := r 1 i) hx hb hK hP 2 0 rfl rfl hq hi ((bp_rw (by decide)).trans ((bp_rw (by decide)).trans (rfl))) dX1_wetPlane_44 ?_
  refine lv_iadd hx hb dX1_wetPlane_45 ?_
  refine lv_imul hx hb dX1_wetPlane_46 ?_
  refine lv_bipush (v := 14) hx hb dX1_wetPlane_47 (by decide) ?_
  refine lv_idiv hx hb dX1_wetPlane_49 (by decide) ?_
  refine lv_topi (fun v4_4 ev4_4 => ?_)
  refine lv_istore (lv' := [(4, .int v4_4), (3, .int v3_1), (0, .ref (a 0)), (1, .int q), (2, .int x)]) hx hb dX1_wetPlane_50 hl (by decide) rfl (fun ls hl => ?_)
  refine lv_iload hx hb dX1_wetPlane_52 (lv_at hl 0 rfl) ?_
  refine lv_if_ne (tgt := 69) hx hb dX1_wetPlane_54 (by decide) (fun c_5 => ?_) (fun c_5 => ?_)
  · skip
    refine lv_aload_n hx hb dX1_wetPlane_69 rfl (lv_at hl 2 rfl) ?_
    refine va_get (D := D) (ci := 1) (v := .ref (a 4)) (C := RX1) (T := TX1) (N := 16) hx hb hts hinX1 hown hK hP 0 rfl rfl 3 (by decide) fl21 (fun _ h9 => h9) rfl dX1_wetPlane_70 ?_
    refine lv_iload_n hx hb dX1_wetPlane_73 rfl (lv_at hl 3 rfl) ?_
    refine lv_dup2_11 hx hb dX1_wetPlane_74 rfl rfl ?_
    refine k_iald (k := i) (v := a_3) hx hb hK hP 4 0 rfl rfl hq hi (bp_eq) dX1_wetPlane_75 ?_
    refine lv_iload hx hb dX1_wetPlane_76 (lv_at hl 0 rfl) ?_
    refine lv_isub hx hb dX1_wetPlane_78 ?_
    refine lv_topi (fun a_6 ea_6 => ?_)
    refine k_iast (k := i) (ws' := cR cI a (bp (bp (bp r 12 2 f_2) 3 i a_3) 3 i a_6)) hx hb hK hP hD hS 4 0 rfl rfl hq hi rfl dX1_wetPlane_79 (fun H locs hP hD hS => ?_)
    refine lv_aload_n hx hb dX1_wetPlane_80 rfl (lv_at hl 2 rfl) ?_
    refine va_get (D := D) (ci := 1) (v := .ref (a 3)) (C := RX1) (T := TX1) (N := 16) hx hb hts hinX1 hown hK hP 0 rfl rfl 2 (by decide) fl18 (fun _ h9 => h9) rfl dX1_wetPlane_81 ?_
    refine lv_iload_n hx hb dX1_wetPlane_84 rfl (lv_at hl 3 rfl) ?_
    refine k_iald (k := i) (v := r 2 i) hx hb hK hP 3 0 rfl rfl hq hi ((bp_rw (by decide)).trans ((bp_rw (by decide)).trans ((bp_rw (by decide)).trans (rfl)))) dX1_wetPlane_85 ?_
    refine lv_topi (fun v5_7 ev5_7 => ?_)
    refine lv_istore (lv' := [(5, .int v5_7), (4, .int v4_4), (3, .int v3_1), (0, .ref (a 0)), (1, .int q), (2, .int x)]) hx hb dX1_wetPlane_86 hl (by decide) rfl (fun ls hl => ?_)
    refine lv_iload hx hb dX1_wetPlane_88 (lv_at hl 0 rfl) ?_
    refine k_calli (wc := ([] : va_W)) (w' := ([] : va_W)) (wn := cR cI a (bp (bp (bp r 12 2 f_2) 3 i a_3) 3 i a_6)) (va_runSN (As := [.int v5_7]) (rest := []) ⟨hx, hb, hml, hown, hts⟩ (mX3_isGutter l D cI cQ cJ v5_7 _) ⟨va_cnB 1 hts gX1_wetPlane_X3_isGutter_n67 rfl rfl rfl hE.1 (hts (.initialized RX3) (by decide +kernel)) (by decide +kernel) ⟨Nat.le_of_ble_eq_true rfl, Nat.le_of_ble_eq_true rfl⟩, hts (.static yX3_isGutter) (by decide +kernel), trivial⟩ (k_preS (wc := ([] : va_W)) hE hK hP hD [] (by decide) rfl [.int v5_7]) rfl rfl hl.1 rfl (lv_room (Nat.le_of_ble_eq_true rfl)) dX1_wetPlane_90 ⟨Nat.zero_le _, Nat.zero_le _⟩) hP hD hS hA [] rfl rfl rfl (fun H locs hP hD hS => ?_)
    refine lv_if_eq (tgt := 108) hx hb dX1_wetPlane_93 (by decide) (fun c_8 => ?_) (fun c_8 => ?_)
    · skip
      have e9 : (bp (bp (bp r 12 2 f_2) 3 i a_3) 3 i a_6 : rB) = wet r i x := by (replace ev5_7 := ev5_7.symm; subst ev5_7; replace ea_6 := ea_6.symm; subst ea_6; replace ev4_4 := ev4_4.symm; subst ev4_4; replace ea_3 := ea_3.symm; subst ea_3; replace ef_2 := ef_2.symm; subst ef_2; replace ev3_1 := ev3_1.symm; subst ev3_1; simp only [wet, c_5, c_8, ↓reduceIte])
      rw [e9] at hP
      exact k_vret hx hb hr hlocks hS hP dX1_wetPlane_108
    · skip
      refine lv_aload_n hx hb dX1_wetPlane_96 rfl (lv_at hl 3 rfl) ?_
      refine va_get (D := D) (ci := 1) (v := .ref (a 9)) (C := RX1) (T := TX1) (N := 16) hx hb hts hinX1 hown hK hP 0 rfl rfl 8 (by decide) fl36 (fun _ h9 => h9) rfl dX1_wetPlane_97 ?_
      refine lv_iload hx hb dX1_wetPlane_100 (lv_at hl 0 rfl) ?_
      refine lv_dup2_11 hx hb dX1_wetPlane_102 rfl rfl ?_
      refine k_iald (k := v5_7.toNatClampNeg) (v := r 8 v5_7.toNatClampNeg) hx hb hK hP 9 0 rfl rfl (zL_in (n := 6) rfl rfl c_8) rfl ((bp_rw (by decide)).trans ((bp_rw (by decide)).trans ((bp_rw (by decide)).trans (rfl)))) dX1_wetPlane_103 ?_
      refine lv_iload hx hb dX1_wetPlane_104 (lv_at hl 1 rfl) ?_
      refine lv_iadd hx hb dX1_wetPlane_106 ?_
      refine lv_topi (fun a_9 ea_9 => ?_)
      refine k_iast (k := v5_7.toNatClampNeg) (ws' := cR cI a (bp (bp (bp (bp r 12 2 f_2) 3 i a_3) 3 i a_6) 8 v5_7.toNatClampNeg a_9)) hx hb hK hP hD hS 9 0 rfl rfl (zL_in (n := 6) rfl rfl c_8) rfl rfl dX1_wetPlane_107 (fun H locs hP hD hS => ?_)
      have e9 : (bp (bp (bp (bp r 12 2 f_2) 3 i a_3) 3 i a_6) 8 v5_7.toNatClampNeg a_9 : rB) = wet r i x := by (replace ea_9 := ea_9.symm; subst ea_9; replace ev5_7 := ev5_7.symm; subst ev5_7; replace ea_6 := ea_6.symm; subst ea_6; replace ev4_4 := ev4_4.symm; subst ev4_4; replace ea_3 := ea_3.symm; subst ea_3; replace ef_2 := ef_2.symm; subst ef_2; replace ev3_1 := ev3_1.symm; subst ev3_1; simp only [wet, c_5, c_8, ↓reduceIte])
      rw [e9] at hP
      exact k_vret hx hb hr hlocks hS hP dX1_wetPlane_108
  · skip
    refine lv_aload_n hx hb dX1_wetPlane_57 rfl (lv_at hl 2 rfl) ?_
    refine va_get (D := D) (ci := 1) (v := .ref (a 4)) (C := RX1) (T := TX1) (N := 16) hx hb hts hinX1 hown hK hP 0 rfl rfl 3 (by decide) fl21 (fun _ h9 => h9) rfl dX1_wetPlane_58 ?_
    refine lv_iload_n hx hb dX1_wetPlane_61 rfl (lv_at hl 3 rfl) ?_
    refine k_iald (k := i) (v := a_3) hx hb hK hP 4 0 rfl rfl hq hi (bp_eq) dX1_wetPlane_62 ?_
    refine lv_if_le (tgt := 69) hx hb dX1_wetPlane_63 (by decide) (fun c_10 => ?_) (fun c_10 => ?_)
    · skip
      refine lv_aload_n hx hb dX1_wetPlane_69 rfl (lv_at hl 2 rfl) ?_
      refine va_get (D := D) (ci := 1) (v := .ref (a 4)) (C := RX1) (T := TX1) (N := 16) hx hb hts hinX1 hown hK hP 0 rfl rfl 3 (by decide) fl21 (fun _ h9 => h9) rfl dX1_wetPlane_70 ?_
      refine lv_iload_n hx hb dX1_wetPlane_73 rfl (lv_at hl 3 rfl) ?_
      refine lv_dup2_11 hx hb dX1_wetPlane_74 rfl rfl ?_
      refine k_iald (k := i) (v := a_3) hx hb hK hP 4 0 rfl rfl hq hi (bp_eq) dX1_wetPlane_75 ?_
      refine lv_iload hx hb dX1_wetPlane_76 (lv_at hl 0 rfl) ?_
      refine lv_isub hx hb dX1_wetPlane_78 ?_
      refine lv_topi (fun a_11 ea_11 => ?_)
      refine k_iast (k := i) (ws' := cR cI a (bp (bp (bp r 12 2 f_2) 3 i a_3) 3 i a_11)) hx hb hK hP hD hS 4 0 rfl rfl hq hi rfl dX1_wetPlane_79 (fun H locs hP hD hS => ?_)
      refine lv_aload_n hx hb dX1_wetPlane_80 rfl (lv_at hl 2 rfl) ?_
      refine va_get (D := D) (ci := 1) (v := .ref (a 3)) (C := RX1) (T := TX1) (N := 16) hx hb hts hinX1 hown hK hP 0 rfl rfl 2 (by decide) fl18 (fun _ h9 => h9) rfl dX1_wetPlane_81 ?_
      refine lv_iload_n hx hb dX1_wetPlane_84 rfl (lv_at hl 3 rfl) ?_
      refine k_iald (k := i) (v := r 2 i) hx hb hK hP 3 0 rfl rfl hq hi ((bp_rw (by decide)).trans ((bp_rw (by decide)).trans ((bp_rw (by decide)).trans (rfl)))) dX1_wetPlane_85 ?_
      refine lv_topi (fun v5_12 ev5_12 => ?_)
      refine lv_istore (lv' := [(5, .int v5_12), (4, .int v4_4), (3, .int v3_1), (0, .ref (a 0)), (1, .int q), (2, .int x)]) hx hb dX1_wetPlane_86 hl (by decide) rfl (fun ls hl => ?_)
      refine lv_iload hx hb dX1_wetPlane_88 (lv_at hl 0 rfl) ?_
      refine k_calli (wc := ([] : va_W)) (w' := ([] : va_W)) (wn := cR cI a (bp (bp (bp r 12 2 f_2) 3 i a_3) 3 i a_11)) (va_runSN (As := [.int v5_12]) (rest := []) ⟨hx, hb, hml, hown, hts⟩ (mX3_isGutter l D cI cQ cJ v5_12 _) ⟨va_cnB 1 hts gX1_wetPlane_X3_isGutter_n67 rfl rfl rfl hE.1 (hts (.initialized RX3) (by decide +kernel)) (by decide +kernel) ⟨Nat.le_of_ble_eq_true rfl, Nat.le_of_ble_eq_true rfl⟩, hts (.static yX3_isGutter) (by decide +kernel), trivial⟩ (k_preS (wc := ([] : va_W)) hE hK hP hD [] (by decide) rfl [.int v5_12]) rfl rfl hl.1 rfl (lv_room (Nat.le_of_ble_eq_true rfl)) dX1_wetPlane_90 ⟨Nat.zero_le _, Nat.zero_le _⟩) hP hD hS hA [] rfl rfl rfl (fun H locs hP hD hS => ?_)
      refine lv_if_eq (tgt := 108) hx hb dX1_wetPlane_93 (by decide) (fun c_13 => ?_) (fun c_13 => ?_)
      · skip
        have e9 : (bp (bp (bp r 12 2 f_2) 3 i a_3) 3 i a_11 : rB) = wet r i x := by (replace ev5_12 := ev5_12.symm; subst ev5_12; replace ea_11 := ea_11.symm; subst ea_11; replace ev4_4 := ev4_4.symm; subst ev4_4; replace ea_3 := ea_3.symm; subst ea_3; replace ef_2 := ef_2.symm; subst ef_2; replace ev3_1 := ev3_1.symm; subst ev3_1; simp only [wet, c_5, c_10, c_13, ↓reduceIte])
        rw [e9] at hP
        exact k_vret hx hb hr hlocks hS hP dX1_wetPlane_108
      · skip
        refine lv_aload_n hx hb dX1_wetPlane_96 rfl (lv_at hl 3 rfl) ?_
        refine va_get (D := D) (ci := 1) (v := .ref (a 9)) (C := RX1) (T := TX1) (N := 16) hx hb hts hinX1 hown hK hP 0 rfl rfl 8 (by decide) fl36 (fun _ h9 => h9) rfl dX1_wetPlane_97 ?_
        refine lv_iload hx hb dX1_wetPlane_100 (lv_at hl 0 rfl) ?_
        refine lv_dup2_11 hx hb dX1_wetPlane_102 rfl rfl ?_
        refine k_iald (k := v5_12.toNatClampNeg) (v := r 8 v5_12.toNatClampNeg) hx hb hK hP 9 0 rfl rfl (zL_in (n := 6) rfl rfl c_13) rfl ((bp_rw (by decide)).trans ((bp_rw (by decide)).trans ((bp_rw (by decide)).trans (rfl)))) dX1_wetPlane_103 ?_
        refine lv_iload hx hb dX1_wetPlane_104 (lv_at hl 1 rfl) ?_
        refine lv_iadd hx hb dX1_wetPlane_106 ?_
        refine lv_topi (fun a_14 ea_14 => ?_)
        refine k_iast (k := v5_12.toNatClampNeg) (ws' := cR cI a (bp (bp (bp (bp r 12 2 f_2) 3 i a_3) 3 i a_11) 8 v5_12.toNatClampNeg a_14)) hx hb hK hP hD hS 9 0 rfl rfl (zL_in (n := 6) rfl rfl c_13) rfl rfl dX1_wetPlane_107 (fun H locs hP hD hS => ?_)
        have e9 : (bp (bp (bp (bp r 12 2 f_2) 3 i a_3) 3 i a_11) 8 v5_12.toNatClampNeg a_14 : rB) = wet r i x := by (replace ea_14 := ea_14.symm; subst ea_14; replace ev5_12 := ev5_12.symm; subst ev5_12; replace ea_11 := ea_11.symm; subst ea_11; replace ev4_4 := ev4_4.symm; subst ev4_4; replace ea_3 := ea_3.symm; subst ea_3; replace ef_2 := ef_2.symm; subst ef_2; replace ev3_1 := ev3_1.symm; subst ev3_1; simp only [wet, c_5, c_10, c_13, ↓reduceIte])
        rw [e9] at hP
        exact k_vret hx hb hr hlocks hS hP dX1_wetPlane_108
    · skip
      refine lv_iconst (v := 1) hx hb dX1_wetPlane_66 (by decide) ?_
      refine lv_istore (lv' := [(4, .int 1), (3, .int v3_1), (0, .ref (a 0)), (1, .int q), (2, .int x)]) hx hb dX1_wetPlane_67 hl (by decide) rfl (fun ls hl => ?_)
      refine lv_aload_n hx hb dX1_wetPlane_69 rfl (lv_at hl 2 rfl) ?_
      refine va_get (D := D) (ci := 1) (v := .ref (a 4)) (C := RX1) (T := TX1) (N := 16) hx hb hts hinX1 hown hK hP 0 rfl rfl 3 (by decide) fl21 (fun _ h9 => h9) rfl dX1_wetPlane_70 ?_
      refine lv_iload_n hx hb dX1_wetPlane_73 rfl (lv_at hl 3 rfl) ?_
      refine lv_dup2_11 hx hb dX1_wetPlane_74 rfl rfl ?_
      refine k_iald (k := i) (v := a_3) hx hb hK hP 4 0 rfl rfl hq hi (bp_eq) dX1_wetPlane_75 ?_
      refine lv_iload hx hb dX1_wetPlane_76 (lv_at hl 0 rfl) ?_
      refine lv_isub hx hb dX1_wetPlane_78 ?_
      refine lv_topi (fun a_15 ea_15 => ?_)
      refine k_iast (k := i) (ws' := cR cI a (bp (bp (bp r 12 2 f_2) 3 i a_3) 3 i a_15)) hx hb hK hP hD hS 4 0 rfl rfl hq hi rfl dX1_wetPlane_79 (fun H locs hP hD hS => ?_)
      refine lv_aload_n hx hb dX1_wetPlane_80 rfl (lv_at hl 2 rfl) ?_
      refine va_get (D := D) (ci := 1) (v := .ref (a 3)) (C := RX1) (T := TX1) (N := 16) hx hb hts hinX1 hown hK hP 0 rfl rfl 2 (by decide) fl18 (fun _ h9 => h9) rfl dX1_wetPlane_81 ?_
      refine lv_iload_n hx hb dX1_wetPlane_84 rfl (lv_at hl 3 rfl) ?_
      refine k_iald (k := i) (v := r 2 i) hx hb hK hP 3 0 rfl rfl hq hi ((bp_rw (by decide)).trans ((bp_rw (by decide)).trans ((bp_rw (by decide)).trans (rfl)))) dX1_wetPlane_85 ?_
      refine lv_topi (fun v5_16 ev5_16 => ?_)
      refine lv_istore (lv' := [(5, .int v5_16), (4, .int 1), (3, .int v3_1), (0, .ref (a 0)), (1, .int q), (2, .int x)]) hx hb dX1_wetPlane_86 hl (by decide) rfl (fun ls hl => ?_)
      refine lv_iload hx hb dX1_wetPlane_88 (lv_at hl 0 rfl) ?_
      refine k_calli (wc := ([] : va_W)) (w' := ([] : va_W)) (wn := cR cI a (bp (bp (bp r 12 2 f_2) 3 i a_3) 3 i a_15)) (va_runSN (As := [.int v5_16]) (rest := []) ⟨hx, hb, hml, hown, hts⟩ (mX3_isGutter l D cI cQ cJ v5_16 _) ⟨va_cnB 1 hts gX1_wetPlane_X3_isGutter_n67 rfl rfl rfl hE.1 (hts (.initialized RX3) (by decide +kernel)) (by decide +kernel) ⟨Nat.le_of_ble_eq_true rfl, Nat.le_of_ble_eq_true rfl⟩, hts (.static yX3_isGutter) (by decide +kernel), trivial⟩ (k_preS (wc := ([] : va_W)) hE hK hP hD [] (by decide) rfl [.int v5_16]) rfl rfl hl.1 rfl (lv_room (Nat.le_of_ble_eq_true rfl)) dX1_wetPlane_90 ⟨Nat.zero_le _, Nat.zero_le _⟩) hP hD hS hA [] rfl rfl rfl (fun H locs hP hD hS => ?_)
      refine lv_if_eq (tgt := 108) hx hb dX1_wetPlane_93 (by decide) (fun c_17 => ?_) (fun c_17 => ?_)
      · skip
        have e9 : (bp (bp (bp r 12 2 f_2) 3 i a_3) 3 i a_15 : rB) = wet r i x := by (replace ev5_16 := ev5_16.symm; subst ev5_16; replace ea_15 := ea_15.symm; subst ea_15; replace ev4_4 := ev4_4.symm; subst ev4_4; replace ea_3 := ea_3.symm; subst ea_3; replace ef_2 := ef_2.symm; subst ef_2; replace ev3_1 := ev3_1.symm; subst ev3_1; simp only [wet, c_5, c_10, c_17, ↓reduceIte])
        rw [e9] at hP
        exact k_vret hx hb hr hlocks hS hP dX1_wetPlane_108
      · skip
        refine lv_aload_n hx hb dX1_wetPlane_96 rfl (lv_at hl 3 rfl) ?_
        refine va_get (D := D) (ci := 1) (v := .ref (a 9)) (C := RX1) (T := TX1) (N := 16) hx hb hts hinX1 hown hK hP 0 rfl rfl 8 (by decide) fl36 (fun _ h9 => h9) rfl dX1_wetPlane_97 ?_
        refine lv_iload hx hb dX1_wetPlane_100 (lv_at hl 0 rfl) ?_
        refine lv_dup2_11 hx hb dX1_wetPlane_102 rfl rfl ?_
        refine k_iald (k := v5_16.toNatClampNeg) (v := r 8 v5_16.toNatClampNeg) hx hb hK hP 9 0 rfl rfl (zL_in (n := 6) rfl rfl c_17) rfl ((bp_rw (by decide)).trans ((bp_rw (by decide)).trans ((bp_rw (by decide)).trans (rfl)))) dX1_wetPlane_103 ?_
        refine lv_iload hx hb dX1_wetPlane_104 (lv_at hl 1 rfl) ?_
        refine lv_iadd hx hb dX1_wetPlane_106 ?_
        refine lv_topi (fun a_18 ea_18 => ?_)
        refine k_iast (k := v5_16.toNatClampNeg) (ws' := cR cI a (bp (bp (bp (bp r 12 2 f_2) 3 i a_3) 3 i a_15) 8 v5_16.toNatClampNeg a_18)) hx hb hK hP hD hS 9 0 rfl rfl (zL_in (n := 6) rfl rfl c_17) rfl rfl dX1_wetPlane_107 (fun H locs hP hD hS => ?_)
        have e9 : (bp (bp (bp (bp r 12 2 f_2) 3 i a_3) 3 i a_15) 8 v5_16.toNatClampNeg a_18 : rB) = wet r i x := by (replace ea_18 := ea_18.symm; subst ea_18; replace ev5_16 := ev5_16.symm; subst ev5_16; replace ea_15 := ea_15.symm; subst ea_15; replace ev4_4 := ev4_4.symm; subst ev4_4; replace ea_3 := ea_3.symm; subst ea_3; replace ef_2 := ef_2.symm; subst ef_2; replace ev3_1 := ev3_1.symm; subst ev3_1; simp only [wet, c_5, c_10, c_17, ↓reduceIte])
        rw [e9] at hP
        exact k_vret hx hb hr hlocks hS hP dX1_wetPlane_108
end
section
set_option maxHeartbeats 4000000 in
set_option maxRecDepth 100000 in
theorem mX1_overflow (l : Launch) (D : va_G) (cI cQ cJ : ClassId) (a : Nat → Nat) (r : rB) (q : Int32) (i : Nat) (hq : vp_in q 6) (hi : q.toNatClampNeg = i) : Mv l D (tY cI cQ cJ) yX1_overflow wsX1_overflow ({ frames := 1, cells := 0, slots := 0, locals := 21 } : Room) [.ref (a 0), .int q] (cR cI a r) (cR cI a (ovf r i)) := by
  refine M_of (cc := cX1_overflow) (maxL := 4) (ret := none) (Qc := fun A => va_Qv (fun (_ : Unit) => True) (fun _ t => Wd D (cR cI a (ovf r i)) t) A) (by decide) rfl (Nat.le_of_ble_eq_true rfl) ?_
  intro p e s m below meth c A ls hB hE hP hK hD hA hl
  obtain ⟨hx, hb, hr, hml, hts, hown, hlocks⟩ := hB
  have hS : va_S A s.heap s.heap [] := va_S.rf
  have hl : lv_has ls 4 [(0, .ref (a 0)), (1, .int q)] := hl
  have hinX1 : ∀ w ∈ u_ws RX1 TX1 16, w ∈ wsX1_overflow := by decide +kernel
  have fl36 := hts (.fieldLink RX1 36 "RoofDrains$Roof" "inGutter" "[I") (by decide +kernel)
  have fl33 := hts (.fieldLink RX1 33 "RoofDrains$Roof" "valleyTo" "[I") (by decide +kernel)
  have fl39 := hts (.fieldLink RX1 39 "RoofDrains$Roof" "spilt" "[I") (by decide +kernel)
  refine lv_aload_n hx hb dX1_overflow_0 rfl (lv_at hl 0 rfl) ?_
  refine va_get (D := D) (ci := 1) (v := .ref (a 9)) (C := RX1) (T := TX1) (N := 16) hx hb hts hinX1 hown hK hP 0 rfl rfl 8 (by decide) fl36 (fun _ h9 => h9) rfl dX1_overflow_1 ?_
  refine lv_iload_n hx hb dX1_overflow_4 rfl (lv_at hl 1 rfl) ?_
  refine k_iald (k := i) (v := r 8 i) hx hb hK hP 9 0 rfl rfl hq hi (rfl) dX1_overflow_5 ?_
  refine lv_aload_n hx hb dX1_overflow_6 rfl (lv_at hl 0 rfl) ?_
  refine lv_iload_n hx hb dX1_overflow_7 rfl (lv_at hl 1 rfl) ?_
  refine k_calli (wc := cR cI a r) (w' := cR cI a r) (wn := cR cI a r) (va_runV (As := [.int q]) (rest := [.int (r 8 i)]) ⟨hx, hb, hml, hown, hts⟩ (mX1_room l D cI cQ cJ a r q i hq hi _) (cwV 1 hts gX1_overflow_X1_room rfl rfl rfl (by decide +kernel) ⟨Nat.le_of_ble_eq_true rfl, Nat.le_of_ble_eq_true rfl⟩) (k_preV (wc := cR cI a r) hE hK hP hD [0, 1, 2, 3, 4, 5, 6, 7, 8, 9, 10, 11, 12] (by decide) rfl (ci := 1) (q0 := 0) rfl rfl [.int q]) rfl rfl hl.1 rfl (lv_room (Nat.le_of_ble_eq_true rfl)) dX1_overflow_8 ⟨Nat.zero_le _, Nat.zero_le _⟩) hP hD hS hA [0, 1, 2, 3, 4, 5, 6, 7, 8, 9, 10, 11, 12] rfl rfl rfl (fun H locs hP hD hS => ?_)
  refine lv_isub hx hb dX1_overflow_11 ?_
  refine lv_topi (fun v2_1 ev2_1 => ?_)
  refine lv_istore_n (lv' := [(2, .int v2_1), (0, .ref (a 0)), (1, .int q)]) hx hb dX1_overflow_12 rfl hl (by decide) rfl (fun ls hl => ?_)
  refine lv_iload_n hx hb dX1_overflow_13 rfl (lv_at hl 0 rfl) ?_
  refine lv_if_gt (tgt := 18) hx hb dX1_overflow_14 (by decide) (fun c_2 => ?_) (fun c_2 => ?_)
  · skip
    refine lv_aload_n hx hb dX1_overflow_18 rfl (lv_at hl 1 rfl) ?_
    refine va_get (D := D) (ci := 1) (v := .ref (a 9)) (C := RX1) (T := TX1) (N := 16) hx hb hts hinX1 hown hK hP 0 rfl rfl 8 (by decide) fl36 (fun _ h9 => h9) rfl dX1_overflow_19 ?_
    refine lv_iload_n hx hb dX1_overflow_22 rfl (lv_at hl 2 rfl) ?_
    refine lv_dup2_11 hx hb dX1_overflow_23 rfl rfl ?_
    refine k_iald (k := i) (v := r 8 i) hx hb hK hP 9 0 rfl rfl hq hi (rfl) dX1_overflow_24 ?_
    refine lv_iload_n hx hb dX1_overflow_25 rfl (lv_at hl 0 rfl) ?_
    refine lv_isub hx hb dX1_overflow_26 ?_
    refine lv_topi (fun a_3 ea_3 => ?_)
    refine k_iast (k := i) (ws' := cR cI a (bp r 8 i a_3)) hx hb hK hP hD hS 9 0 rfl rfl hq hi rfl dX1_overflow_27 (fun H locs hP hD hS => ?_)
    refine lv_aload_n hx hb dX1_overflow_28 rfl (lv_at hl 1 rfl) ?_
    refine va_get (D := D) (ci := 1) (v := .ref (a 8)) (C := RX1) (T := TX1) (N := 16) hx hb hts hinX1 hown hK hP 0 rfl rfl 7 (by decide) fl33 (fun _ h9 => h9) rfl dX1_overflow_29 ?_
    refine lv_iload_n hx hb dX1_overflow_32 rfl (lv_at hl 2 rfl) ?_
    refine k_iald (k := i) (v := r 7 i) hx hb hK hP 8 0 rfl rfl hq hi ((bp_rw (by decide)).trans (rfl)) dX1_overflow_33 ?_
    refine lv_topi (fun v3_4 ev3_4 => ?_)
    refine lv_istore_n (lv' := [(3, .int v3_4), (2, .int v2_1), (0, .ref (a 0)), (1, .int q)]) hx hb dX1_overflow_34 rfl hl (by decide) rfl (fun ls hl => ?_)
    refine lv_iload_n hx hb dX1_overflow_35 rfl (lv_at hl 0 rfl) ?_
    refine k_calli (wc := ([] : va_W)) (w' := ([] : va_W)) (wn := cR cI a (bp r 8 i a_3)) (va_runSN (As := [.int v3_4]) (rest := []) ⟨hx, hb, hml, hown, hts⟩ (mX3_isGutter l D cI cQ cJ v3_4 _) ⟨va_cnB 1 hts gX1_overflow_X3_isGutter_n67 rfl rfl rfl hE.1 (hts (.initialized RX3) (by decide +kernel)) (by decide +kernel) ⟨Nat.le_of_ble_eq_true rfl, Nat.le_of_ble_eq_true rfl⟩, hts (.static yX3_isGutter) (by decide +kernel), trivial⟩ (k_preS (wc := ([] : va_W)) hE hK hP hD [] (by decide) rfl [.int v3_4]) rfl rfl hl.1 rfl (lv_room (Nat.le_of_ble_eq_true rfl)) dX1_overflow_36 ⟨Nat.zero_le _, Nat.zero_le _⟩) hP hD hS hA [] rfl rfl rfl (fun H locs hP hD hS => ?_)
    refine lv_if_eq (tgt := 55) hx hb dX1_overflow_39 (by decide) (fun c_5 => ?_) (fun c_5 => ?_)
    · skip
      refine lv_aload_n hx hb dX1_overflow_55 rfl (lv_at hl 2 rfl) ?_
      refine va_get (D := D) (ci := 1) (v := .ref (a 10)) (C := RX1) (T := TX1) (N := 16) hx hb hts hinX1 hown hK hP 0 rfl rfl 9 (by decide) fl39 (fun _ h9 => h9) rfl dX1_overflow_56 ?_
      refine lv_iload_n hx hb dX1_overflow_59 rfl (lv_at hl 3 rfl) ?_
      refine lv_dup2_11 hx hb dX1_overflow_60 rfl rfl ?_
      refine k_iald (k := i) (v := r 9 i) hx hb hK hP 10 0 rfl rfl hq hi ((bp_rw (by decide)).trans (rfl)) dX1_overflow_61 ?_
      refine lv_iload_n hx hb dX1_overflow_62 rfl (lv_at hl 1 rfl) ?_
      refine lv_iadd hx hb dX1_overflow_63 ?_
      refine lv_topi (fun a_6 ea_6 => ?_)
      refine k_iast (k := i) (ws' := cR cI a (bp (bp r 8 i a_3) 9 i a_6)) hx hb hK hP hD hS 10 0 rfl rfl hq hi rfl dX1_overflow_64 (fun H locs hP hD hS => ?_)
      have e9 : (bp (bp r 8 i a_3) 9 i a_6 : rB) = ovf r i := by (replace ea_6 := ea_6.symm; subst ea_6; replace ev3_4 := ev3_4.symm; subst ev3_4; replace ea_3 := ea_3.symm; subst ea_3; replace ev2_1 := ev2_1.symm; subst ev2_1; simp only [ovf, c_2, c_5, ↓reduceIte])
      rw [e9] at hP
      exact k_vret hx hb hr hlocks hS hP dX1_overflow_65
    · skip
      refine lv_aload_n hx hb dX1_overflow_42 rfl (lv_at hl 2 rfl) ?_
      refine va_get (D := D) (ci := 1) (v := .ref (a 9)) (C := RX1) (T := TX1) (N := 16) hx hb hts hinX1 hown hK hP 0 rfl rfl 8 (by decide) fl36 (fun _ h9 => h9) rfl dX1_overflow_43 ?_
      refine lv_iload_n hx hb dX1_overflow_46 rfl (lv_at hl 0 rfl) ?_
      refine lv_dup2_11 hx hb dX1_overflow_47 rfl rfl ?_
      refine k_iald (k := v3_4.toNatClampNeg) (v := (bp r 8 i a_3) 8 v3_4.toNatClampNeg) hx hb hK hP 9 0 rfl rfl (zL_in (n := 6) rfl rfl c_5) rfl (rfl) dX1_overflow_48 ?_
      refine lv_iload_n hx hb dX1_overflow_49 rfl (lv_at hl 1 rfl) ?_
      refine lv_iadd hx hb dX1_overflow_50 ?_
      refine lv_topi (fun a_7 ea_7 => ?_)
      refine k_iast (k := v3_4.toNatClampNeg) (ws' := cR cI a (bp (bp r 8 i a_3) 8 v3_4.toNatClampNeg a_7)) hx hb hK hP hD hS 9 0 rfl rfl (zL_in (n := 6) rfl rfl c_5) rfl rfl dX1_overflow_51 (fun H locs hP hD hS => ?_)
      refine lv_goto (tgt := 65) hx hb dX1_overflow_52 (by decide) ?_
      have e9 : (bp (bp r 8 i a_3) 8 v3_4.toNatClampNeg a_7 : rB) = ovf r i := by (replace ea_7 := ea_7.symm; subst ea_7; replace ev3_4 := ev3_4.symm; subst ev3_4; replace ea_3 := ea_3.symm; subst ea_3; replace ev2_1 := ev2_1.symm; subst ev2_1; simp only [ovf, c_2, c_5, ↓reduceIte])
      rw [e9] at hP
      exact k_vret hx hb hr hlocks hS hP dX1_overflow_65
  · skip
    have e9 : (r : rB) = ovf r i := by (replace ev2_1 := ev2_1.symm; subst ev2_1; simp only [ovf, c_2, ↓reduceIte])
    rw [e9] at hP
    exact k_vret hx hb hr hlocks hS hP dX1_overflow_17
end
section
set_option maxHeartbeats 4000000 in
set_option maxRecDepth 100000 in
theorem mX1_emptyIntoDrain (l : Launch) (D : va_G) (cI cQ cJ : ClassId) (a : Nat → Nat) (r : rB)  : Mv l D (tY cI cQ cJ) yX1_emptyIntoDrain wsX1_emptyIntoDrain ({ frames := 1, cells := 0, slots := 0, locals := 22 } : Room) [.ref (a 0)] (cR cI a r) (cR cI a (emptyD r)) := by
  refine M_of (cc := cX1_emptyIntoDrain) (maxL := 6) (ret := none) (Qc := fun A => va_Qv (fun (_ : Unit) => True) (fun _ t => Wd D (cR cI a (emptyD r)) t) A) (by decide) rfl (Nat.le_of_ble_eq_true rfl) ?_
  intro p e s m below meth c A ls hB hE hP hK hD hA hl
  obtain ⟨hx, hb, hr, hml, hts, hown, hlocks⟩ := hB
  have hS : va_S A s.heap s.heap [] := va_S.rf
  have hl : lv_has ls 6 [(0, .ref (a 0))] := hl
  have hinX1 : ∀ w ∈ u_ws RX1 TX1 16, w ∈ wsX1_emptyIntoDrain := by decide +kernel
  have fl45 := hts (.fieldLink RX1 45 "RoofDrains$Roof" "values" "[I") (by decide +kernel)
  have fl64 := hts (.fieldLink RX1 64 "RoofDrains$Roof" "backedUp" "I") (by decide +kernel)
  have fl36 := hts (.fieldLink RX1 36 "RoofDrains$Roof" "inGutter" "[I") (by decide +kernel)
  have mm1 := hts (.methodLink RX1 85 Lib.Math.min.name) (by decide +kernel)
  have mm2 := hts (.static Lib.Math.min.name) (by decide +kernel)
  have mm3 := hts (.initialized "java/lang/Math") (by decide +kernel)
  have mm4 := hts (.code Lib.Math.min.name Lib.Math.min.code 2 (some .int)) (by decide +kernel)
  have fl42 := hts (.fieldLink RX1 42 "RoofDrains$Roof" "drained" "[I") (by decide +kernel)
  refine lv_aload_n hx hb dX1_emptyIntoDrain_0 rfl (lv_at hl 0 rfl) ?_
  refine va_get (D := D) (ci := 1) (v := .ref (a 12)) (C := RX1) (T := TX1) (N := 16) hx hb hts hinX1 hown hK hP 0 rfl rfl 11 (by decide) fl45 (fun _ h9 => h9) rfl dX1_emptyIntoDrain_1 ?_
  refine lv_iconst (v := 0) hx hb dX1_emptyIntoDrain_4 (by decide) ?_
  refine k_iald (k := 0) (v := r 11 0) hx hb hK hP 12 0 rfl rfl (vp_in_nI (n := 0) (by omega) (by omega)) (nI_clamp (n := 0) (by omega)) (rfl) dX1_emptyIntoDrain_5 ?_
  refine lv_topi (fun v1_1 ev1_1 => ?_)
  refine lv_istore_n (lv' := [(1, .int v1_1), (0, .ref (a 0))]) hx hb dX1_emptyIntoDrain_6 rfl hl (by decide) rfl (fun ls hl => ?_)
  refine lv_iconst (v := 0) hx hb dX1_emptyIntoDrain_7 (by decide) ?_
  refine lv_istore_n (lv' := [(2, .int 0), (1, .int v1_1), (0, .ref (a 0))]) hx hb dX1_emptyIntoDrain_8 rfl hl (by decide) rfl (fun ls hl => ?_)
  refine lv_iconst (v := 0) hx hb dX1_emptyIntoDrain_9 (by decide) ?_
  refine lv_istore_n (lv' := [(3, .int 0), (2, .int 0), (1, .int v1_1), (0, .ref (a 0))]) hx hb dX1_emptyIntoDrain_10 rfl hl (by decide) rfl (fun ls hl => ?_)
  have Lp11 : ∀ (n i : Nat) (r1 : rB) (lf : Int32) (b : Int32), i + n = 6 → drL n i r1 lf b = drL 6 0 r v1_1 0 → ∀ (H : Heap) (locs : List Loc), va_P D vwCl (cR cI a r1) H → va_D A (cR cI a r1) → va_S A s.heap H locs → ∀ (ls : Array Slot), lv_has ls 6 [(3, .int (nI i)), (2, .int b), (1, .int lf), (0, .ref (a 0))] → W p l e ({ frames := 1, cells := 0, slots := 0, locals := 22 } : Room) s m ([.ref (a 0)] : List Value).toArray below meth c H locs 0 0 (MQ below (va_Qv (fun (_ : Unit) => True) (fun _ t => Wd D (cR cI a (emptyD r)) t) A) ([.ref (a 0)] : List Value).toArray s 0 0 A) (F0 m 11 ls []) := by
    intro n
    induction n with
    | zero =>
      intro i r1 lf b hin hres H locs hP hD hS ls hl
      have h9r1 : r1 = (drL 6 0 r v1_1 0).1 := congrArg Prod.fst hres
      have h9b : b = (drL 6 0 r v1_1 0).2 := congrArg Prod.snd hres
      refine lv_iload_n hx hb dX1_emptyIntoDrain_11 rfl (lv_at hl 0 rfl) ?_
      refine lv_bipush (v := 6) hx hb dX1_emptyIntoDrain_12 (by decide) ?_
      refine lv_icmp_ge (tgt := 91) hx hb dX1_emptyIntoDrain_14 (by decide) (fun _ => ?_) (fun h9 => absurd (nI_le (a := 6) (b := i) (by omega) (by omega)) h9)
      refine lv_iload_n hx hb dX1_emptyIntoDrain_91 rfl (lv_at hl 1 rfl) ?_
      refine lv_if_eq (tgt := 105) hx hb dX1_emptyIntoDrain_92 (by decide) (fun c_2 => ?_) (fun c_2 => ?_)
      · skip
        have e9 : (r1 : rB) = emptyD r := by (replace h9b := h9b.symm; subst h9b; replace h9r1 := h9r1.symm; subst h9r1; replace ev1_1 := ev1_1.symm; subst ev1_1; simp only [emptyD, c_2, ↓reduceIte])
        rw [e9] at hP
        exact k_vret hx hb hr hlocks hS hP dX1_emptyIntoDrain_105
      · skip
        refine lv_aload_n hx hb dX1_emptyIntoDrain_95 rfl (lv_at hl 3 rfl) ?_
        refine lv_dup hx hb dX1_emptyIntoDrain_96 rfl ?_
        refine va_get (D := D) (ci := 1) (v := .int (r1 12 3)) (C := RX1) (T := TX1) (N := 16) hx hb hts hinX1 hown hK hP 0 rfl rfl 15 (by decide) fl64 (fun _ h9 => h9) (congrArg (fun z => some (Value.int z)) (rfl)) dX1_emptyIntoDrain_97 ?_
        refine lv_iconst (v := 1) hx hb dX1_emptyIntoDrain_100 (by decide) ?_
        refine lv_iadd hx hb dX1_emptyIntoDrain_101 ?_
        refine lv_topi (fun f_3 ef_3 => ?_)
        refine k_put (D := D) (ci := 1) (v := .int f_3) (ty := .int) (C := RX1) (T := TX1) (N := 16) hx hb hts hinX1 tyX1 tyX1_ok nmX1 hown hK hP hD hS 0 rfl rfl 15 (by decide) fl64 (fun _ h9 => h9) rfl (by decide +kernel) rfl rfl (Nat.le_of_ble_eq_true rfl) (ws' := cR cI a (bp r1 12 3 f_3)) rfl dX1_emptyIntoDrain_102 (fun H locs hP hD hS => ?_)
        have e9 : (bp r1 12 3 f_3 : rB) = emptyD r := by (replace ef_3 := ef_3.symm; subst ef_3; replace h9b := h9b.symm; subst h9b; replace h9r1 := h9r1.symm; subst h9r1; replace ev1_1 := ev1_1.symm; subst ev1_1; simp only [emptyD, c_2, ↓reduceIte])
        rw [e9] at hP
        exact k_vret hx hb hr hlocks hS hP dX1_emptyIntoDrain_105
    | succ n ih =>
      intro i r1 lf b hin hres H locs hP hD hS ls hl
      refine lv_iload_n hx hb dX1_emptyIntoDrain_11 rfl (lv_at hl 0 rfl) ?_
      refine lv_bipush (v := 6) hx hb dX1_emptyIntoDrain_12 (by decide) ?_
      refine lv_icmp_ge (tgt := 91) hx hb dX1_emptyIntoDrain_14 (by decide) (fun h9 => absurd h9 (nI_ge (a := i) (b := 6) (by omega) (by omega))) (fun _ => ?_)
      refine lv_aload_n hx hb dX1_emptyIntoDrain_17 rfl (lv_at hl 3 rfl) ?_
      refine lv_iload_n hx hb dX1_emptyIntoDrain_18 rfl (lv_at hl 0 rfl) ?_
      refine k_calli (wc := cR cI a r1) (w' := cR cI a r1) (wn := cR cI a r1) (va_runV (As := [.int (nI i)]) (rest := []) ⟨hx, hb, hml, hown, hts⟩ (mX1_pipeTakes l D cI cQ cJ a r1 (nI i) i (vp_in_nI (n := i) (by omega) (by omega)) (nI_clamp (n := i) (by omega)) _) (cwV 1 hts gX1_emptyIntoDrain_X1_pipeTakes rfl rfl rfl (by decide +kernel) ⟨Nat.le_of_ble_eq_true rfl, Nat.le_of_ble_eq_true rfl⟩) (k_preV (wc := cR cI a r1) hE hK hP hD [0, 1, 2, 3, 4, 5, 6, 7, 8, 9, 10, 11, 12] (by decide) rfl (ci := 1) (q0 := 0) rfl rfl [.int (nI i)]) rfl rfl hl.1 rfl (lv_room (Nat.le_of_ble_eq_true rfl)) dX1_emptyIntoDrain_19 ⟨Nat.zero_le _, Nat.zero_le _⟩) hP hD hS hA [0, 1, 2, 3, 4, 5, 6, 7, 8, 9, 10, 11, 12] rfl rfl rfl (fun H locs hP hD hS => ?_)
      refine lv_aload_n hx hb dX1_emptyIntoDrain_22 rfl (lv_at hl 3 rfl) ?_
      refine va_get (D := D) (ci := 1) (v := .ref (a 9)) (C := RX1) (T := TX1) (N := 16) hx hb hts hinX1 hown hK hP 0 rfl rfl 8 (by decide) fl36 (fun _ h9 => h9) rfl dX1_emptyIntoDrain_23 ?_
      refine lv_iload_n hx hb dX1_emptyIntoDrain_26 rfl (lv_at hl 0 rfl) ?_
      refine k_iald (k := i) (v := r1 8 i) hx hb hK hP 9 0 rfl rfl (vp_in_nI (n := i) (by omega) (by omega)) (nI_clamp (n := i) (by omega)) (rfl) dX1_emptyIntoDrain_27 ?_
      refine va_mmin hx hb (hml.trans hl.1.symm) hown mm1 mm2 mm3 mm4 (Nat.le_of_ble_eq_true rfl) (Nat.le_of_ble_eq_true rfl) (Nat.zero_le _) (Nat.zero_le _) dX1_emptyIntoDrain_28 ?_
      refine lv_eqi (y := mn (pipeT r1 i) (r1 8 i)) rfl ?_
      refine lv_topi (fun mn_4 emn_4 => ?_)
      refine lv_istore (lv' := [(4, .int mn_4), (3, .int (nI i)), (2, .int b), (1, .int lf), (0, .ref (a 0))]) hx hb dX1_emptyIntoDrain_31 hl (by decide) rfl (fun ls hl => ?_)
      refine lv_iload hx hb dX1_emptyIntoDrain_33 (lv_at hl 0 rfl) ?_
      refine lv_iload_n hx hb dX1_emptyIntoDrain_35 rfl (lv_at hl 3 rfl) ?_
      refine va_mmin hx hb (hml.trans hl.1.symm) hown mm1 mm2 mm3 mm4 (Nat.le_of_ble_eq_true rfl) (Nat.le_of_ble_eq_true rfl) (Nat.zero_le _) (Nat.zero_le _) dX1_emptyIntoDrain_36 ?_
      refine lv_eqi (y := mn mn_4 lf) rfl ?_
      refine lv_topi (fun mn_5 emn_5 => ?_)
      refine lv_istore (lv' := [(5, .int mn_5), (4, .int mn_4), (3, .int (nI i)), (2, .int b), (1, .int lf), (0, .ref (a 0))]) hx hb dX1_emptyIntoDrain_39 hl (by decide) rfl (fun ls hl => ?_)
      refine lv_aload_n hx hb dX1_emptyIntoDrain_41 rfl (lv_at hl 5 rfl) ?_
      refine va_get (D := D) (ci := 1) (v := .ref (a 9)) (C := RX1) (T := TX1) (N := 16) hx hb hts hinX1 hown hK hP 0 rfl rfl 8 (by decide) fl36 (fun _ h9 => h9) rfl dX1_emptyIntoDrain_42 ?_
      refine lv_iload_n hx hb dX1_emptyIntoDrain_45 rfl (lv_at hl 2 rfl) ?_
      refine lv_dup2_11 hx hb dX1_emptyIntoDrain_46 rfl rfl ?_
      refine k_iald (k := i) (v := r1 8 i) hx hb hK hP 9 0 rfl rfl (vp_in_nI (n := i) (by omega) (by omega)) (nI_clamp (n := i) (by omega)) (rfl) dX1_emptyIntoDrain_47 ?_
      refine lv_iload hx hb dX1_emptyIntoDrain_48 (lv_at hl 0 rfl) ?_
      refine lv_isub hx hb dX1_emptyIntoDrain_50 ?_
      refine lv_topi (fun a_6 ea_6 => ?_)
      refine k_iast (k := i) (ws' := cR cI a (bp r1 8 i a_6)) hx hb hK hP hD hS 9 0 rfl rfl (vp_in_nI (n := i) (by omega) (by omega)) (nI_clamp (n := i) (by omega)) rfl dX1_emptyIntoDrain_51 (fun H locs hP hD hS => ?_)
      refine lv_aload_n hx hb dX1_emptyIntoDrain_52 rfl (lv_at hl 5 rfl) ?_
      refine va_get (D := D) (ci := 1) (v := .ref (a 11)) (C := RX1) (T := TX1) (N := 16) hx hb hts hinX1 hown hK hP 0 rfl rfl 10 (by decide) fl42 (fun _ h9 => h9) rfl dX1_emptyIntoDrain_53 ?_
      refine lv_iload_n hx hb dX1_emptyIntoDrain_56 rfl (lv_at hl 2 rfl) ?_
      refine lv_dup2_11 hx hb dX1_emptyIntoDrain_57 rfl rfl ?_
      refine k_iald (k := i) (v := r1 10 i) hx hb hK hP 11 0 rfl rfl (vp_in_nI (n := i) (by omega) (by omega)) (nI_clamp (n := i) (by omega)) ((bp_rw (by decide)).trans (rfl)) dX1_emptyIntoDrain_58 ?_
      refine lv_iload hx hb dX1_emptyIntoDrain_59 (lv_at hl 0 rfl) ?_
      refine lv_iadd hx hb dX1_emptyIntoDrain_61 ?_
      refine lv_topi (fun a_7 ea_7 => ?_)
      refine k_iast (k := i) (ws' := cR cI a (bp (bp r1 8 i a_6) 10 i a_7)) hx hb hK hP hD hS 11 0 rfl rfl (vp_in_nI (n := i) (by omega) (by omega)) (nI_clamp (n := i) (by omega)) rfl dX1_emptyIntoDrain_62 (fun H locs hP hD hS => ?_)
      refine lv_iload_n hx hb dX1_emptyIntoDrain_63 rfl (lv_at hl 4 rfl) ?_
      refine lv_iload hx hb dX1_emptyIntoDrain_64 (lv_at hl 0 rfl) ?_
      refine lv_isub hx hb dX1_emptyIntoDrain_66 ?_
      refine lv_topi (fun v1_8 ev1_8 => ?_)
      refine lv_istore_n (lv' := [(1, .int v1_8), (5, .int mn_5), (4, .int mn_4), (3, .int (nI i)), (2, .int b), (0, .ref (a 0))]) hx hb dX1_emptyIntoDrain_67 rfl hl (by decide) rfl (fun ls hl => ?_)
      refine lv_iload_n hx hb dX1_emptyIntoDrain_68 rfl (lv_at hl 4 rfl) ?_
      refine lv_if_ne (tgt := 79) hx hb dX1_emptyIntoDrain_69 (by decide) (fun c_9 => ?_) (fun c_9 => ?_)
      · skip
        refine lv_iconst (v := 1) hx hb dX1_emptyIntoDrain_79 (by decide) ?_
        refine lv_goto (tgt := 84) hx hb dX1_emptyIntoDrain_80 (by decide) ?_
        refine lv_istore_n (lv' := [(2, .int 1), (1, .int v1_8), (5, .int mn_5), (4, .int mn_4), (3, .int (nI i)), (0, .ref (a 0))]) hx hb dX1_emptyIntoDrain_84 rfl hl (by decide) rfl (fun ls hl => ?_)
        refine lv_iinc (v := nI (i + 1)) (lv' := [(3, .int (nI (i + 1))), (2, .int 1), (1, .int v1_8), (5, .int mn_5), (4, .int mn_4), (0, .ref (a 0))]) hx hb dX1_emptyIntoDrain_85 hl (k := 4) rfl (nI_1 i) (by decide) rfl (fun ls hl => ?_)
        refine lv_goto (tgt := 11) hx hb dX1_emptyIntoDrain_88 (by decide) ?_
        exact ih (i + 1) (bp (bp r1 8 i a_6) 10 i a_7) v1_8 1 (by omega) (by replace ev1_8 := ev1_8.symm; subst ev1_8; replace ea_7 := ea_7.symm; subst ea_7; replace ea_6 := ea_6.symm; subst ea_6; replace emn_5 := emn_5.symm; subst emn_5; replace emn_4 := emn_4.symm; subst emn_4; replace ev1_1 := ev1_1.symm; subst ev1_1; rw [← hres]; simp only [drL, drStep, drS, drW, c_9, ↓reduceIte]) H locs hP hD hS ls (lv_sub hl [0, 1, 2, 5] rfl)
      · skip
        refine lv_iload hx hb dX1_emptyIntoDrain_72 (lv_at hl 1 rfl) ?_
        refine lv_iload hx hb dX1_emptyIntoDrain_74 (lv_at hl 2 rfl) ?_
        refine lv_icmp_ge (tgt := 83) hx hb dX1_emptyIntoDrain_76 (by decide) (fun c_10 => ?_) (fun c_10 => ?_)
        · skip
          refine lv_iconst (v := 0) hx hb dX1_emptyIntoDrain_83 (by decide) ?_
          refine lv_istore_n (lv' := [(2, .int 0), (1, .int v1_8), (5, .int mn_5), (4, .int mn_4), (3, .int (nI i)), (0, .ref (a 0))]) hx hb dX1_emptyIntoDrain_84 rfl hl (by decide) rfl (fun ls hl => ?_)
          refine lv_iinc (v := nI (i + 1)) (lv' := [(3, .int (nI (i + 1))), (2, .int 0), (1, .int v1_8), (5, .int mn_5), (4, .int mn_4), (0, .ref (a 0))]) hx hb dX1_emptyIntoDrain_85 hl (k := 4) rfl (nI_1 i) (by decide) rfl (fun ls hl => ?_)
          refine lv_goto (tgt := 11) hx hb dX1_emptyIntoDrain_88 (by decide) ?_
          exact ih (i + 1) (bp (bp r1 8 i a_6) 10 i a_7) v1_8 0 (by omega) (by replace ev1_8 := ev1_8.symm; subst ev1_8; replace ea_7 := ea_7.symm; subst ea_7; replace ea_6 := ea_6.symm; subst ea_6; replace emn_5 := emn_5.symm; subst emn_5; replace emn_4 := emn_4.symm; subst emn_4; replace ev1_1 := ev1_1.symm; subst ev1_1; rw [← hres]; simp only [drL, drStep, drS, drW, c_9, c_10, ↓reduceIte]) H locs hP hD hS ls (lv_sub hl [0, 1, 2, 5] rfl)
        · skip
          refine lv_iconst (v := 1) hx hb dX1_emptyIntoDrain_79 (by decide) ?_
          refine lv_goto (tgt := 84) hx hb dX1_emptyIntoDrain_80 (by decide) ?_
          refine lv_istore_n (lv' := [(2, .int 1), (1, .int v1_8), (5, .int mn_5), (4, .int mn_4), (3, .int (nI i)), (0, .ref (a 0))]) hx hb dX1_emptyIntoDrain_84 rfl hl (by decide) rfl (fun ls hl => ?_)
          refine lv_iinc (v := nI (i + 1)) (lv' := [(3, .int (nI (i + 1))), (2, .int 1), (1, .int v1_8), (5, .int mn_5), (4, .int mn_4), (0, .ref (a 0))]) hx hb dX1_emptyIntoDrain_85 hl (k := 4) rfl (nI_1 i) (by decide) rfl (fun ls hl => ?_)
          refine lv_goto (tgt := 11) hx hb dX1_emptyIntoDrain_88 (by decide) ?_
          exact ih (i + 1) (bp (bp r1 8 i a_6) 10 i a_7) v1_8 1 (by omega) (by replace ev1_8 := ev1_8.symm; subst ev1_8; replace ea_7 := ea_7.symm; subst ea_7; replace ea_6 := ea_6.symm; subst ea_6; replace emn_5 := emn_5.symm; subst emn_5; replace emn_4 := emn_4.symm; subst emn_4; replace ev1_1 := ev1_1.symm; subst ev1_1; rw [← hres]; simp only [drL, drStep, drS, drW, c_9, c_10, ↓reduceIte]) H locs hP hD hS ls (lv_sub hl [0, 1, 2, 5] rfl)
  exact Lp11 6 0 r v1_1 0 (by omega) rfl _ _ hP hD hS ls (lv_sub hl [0, 1, 2, 3] rfl)
end
section
set_option maxHeartbeats 4000000 in
set_option maxRecDepth 100000 in
theorem mX1_passMinute (l : Launch) (D : va_G) (cI cQ cJ : ClassId) (a : Nat → Nat) (r : rB) (x : Int32) : Mv l D (tY cI cQ cJ) yX1_passMinute wsX1_passMinute ({ frames := 2, cells := 0, slots := 0, locals := 47 } : Room) [.ref (a 0), .int x] (cR cI a r) (cR cI a (minuteC r x)) := by
  refine M_of (cc := cX1_passMinute) (maxL := 3) (ret := none) (Qc := fun A => va_Qv (fun (_ : Unit) => True) (fun _ t => Wd D (cR cI a (minuteC r x)) t) A) (by decide) rfl (Nat.le_of_ble_eq_true rfl) ?_
  intro p e s m below meth c A ls hB hE hP hK hD hA hl
  obtain ⟨hx, hb, hr, hml, hts, hown, hlocks⟩ := hB
  have hS : va_S A s.heap s.heap [] := va_S.rf
  have hl : lv_has ls 3 [(0, .ref (a 0)), (1, .int x)] := hl
  have hinX1 : ∀ w ∈ u_ws RX1 TX1 16, w ∈ wsX1_passMinute := by decide +kernel
  have fl54 := hts (.fieldLink RX1 54 "RoofDrains$Roof" "minutesGone" "I") (by decide +kernel)
  refine lv_iconst (v := 0) hx hb dX1_passMinute_0 (by decide) ?_
  refine lv_istore_n (lv' := [(2, .int 0), (0, .ref (a 0)), (1, .int x)]) hx hb dX1_passMinute_1 rfl hl (by decide) rfl (fun ls hl => ?_)
  have Lp2 : ∀ (n i : Nat) (r1 : rB), i + n = 6 → wetAll n i r1 x = wetAll 6 0 r x → ∀ (H : Heap) (locs : List Loc), va_P D vwCl (cR cI a r1) H → va_D A (cR cI a r1) → va_S A s.heap H locs → ∀ (ls : Array Slot), lv_has ls 3 [(2, .int (nI i)), (0, .ref (a 0)), (1, .int x)] → W p l e ({ frames := 2, cells := 0, slots := 0, locals := 47 } : Room) s m ([.ref (a 0), .int x] : List Value).toArray below meth c H locs 0 0 (MQ below (va_Qv (fun (_ : Unit) => True) (fun _ t => Wd D (cR cI a (minuteC r x)) t) A) ([.ref (a 0), .int x] : List Value).toArray s 0 0 A) (F0 m 2 ls []) := by
    intro n
    induction n with
    | zero =>
      intro i r1 hin hres H locs hP hD hS ls hl
      have h9r1 : r1 = wetAll 6 0 r x := hres
      refine lv_iload_n hx hb dX1_passMinute_2 rfl (lv_at hl 0 rfl) ?_
      refine lv_bipush (v := 6) hx hb dX1_passMinute_3 (by decide) ?_
      refine lv_icmp_ge (tgt := 20) hx hb dX1_passMinute_5 (by decide) (fun _ => ?_) (fun h9 => absurd (nI_le (a := 6) (b := i) (by omega) (by omega)) h9)
      refine lv_aload_n hx hb dX1_passMinute_20 rfl (lv_at hl 1 rfl) ?_
      obtain ⟨r_1, er_1⟩ : ∃ z : rB, z = emptyD r1 := ⟨_, rfl⟩
      have hm_2 := mX1_emptyIntoDrain l D cI cQ cJ a r1
      rw [← er_1] at hm_2
      refine k_callv (wc := cR cI a r1) (w' := cR cI a r_1) (wn := cR cI a r_1) (va_runV (As := []) (rest := []) ⟨hx, hb, hml, hown, hts⟩ (hm_2 _) (cwV 0 hts gX1_passMinute_X1_emptyIntoDrain rfl rfl rfl (by decide +kernel) ⟨Nat.le_of_ble_eq_true rfl, Nat.le_of_ble_eq_true rfl⟩) (k_preV (wc := cR cI a r1) hE hK hP hD [0, 1, 2, 3, 4, 5, 6, 7, 8, 9, 10, 11, 12] (by decide) rfl (ci := 1) (q0 := 0) rfl rfl []) rfl rfl hl.1 rfl (lv_room (Nat.le_of_ble_eq_true rfl)) dX1_passMinute_21 ⟨Nat.zero_le _, Nat.zero_le _⟩) hP hD hS hA [0, 1, 2, 3, 4, 5, 6, 7, 8, 9, 10, 11, 12] rfl rfl rfl (fun H locs hP hD hS => ?_)
      refine lv_iconst (v := 0) hx hb dX1_passMinute_24 (by decide) ?_
      refine lv_istore_n (lv' := [(2, .int 0), (0, .ref (a 0)), (1, .int x)]) hx hb dX1_passMinute_25 rfl hl (by decide) rfl (fun ls hl => ?_)
      have Lp26 : ∀ (n i : Nat) (r2 : rB), i + n = 6 → ovfAll n i r2 = ovfAll 6 0 r_1 → ∀ (H : Heap) (locs : List Loc), va_P D vwCl (cR cI a r2) H → va_D A (cR cI a r2) → va_S A s.heap H locs → ∀ (ls : Array Slot), lv_has ls 3 [(2, .int (nI i)), (0, .ref (a 0)), (1, .int x)] → W p l e ({ frames := 2, cells := 0, slots := 0, locals := 47 } : Room) s m ([.ref (a 0), .int x] : List Value).toArray below meth c H locs 0 0 (MQ below (va_Qv (fun (_ : Unit) => True) (fun _ t => Wd D (cR cI a (minuteC r x)) t) A) ([.ref (a 0), .int x] : List Value).toArray s 0 0 A) (F0 m 26 ls []) := by
        intro n
        induction n with
        | zero =>
          intro i r2 hin hres H locs hP hD hS ls hl
          have h9r2 : r2 = ovfAll 6 0 r_1 := hres
          refine lv_iload_n hx hb dX1_passMinute_26 rfl (lv_at hl 0 rfl) ?_
          refine lv_bipush (v := 6) hx hb dX1_passMinute_27 (by decide) ?_
          refine lv_icmp_ge (tgt := 43) hx hb dX1_passMinute_29 (by decide) (fun _ => ?_) (fun h9 => absurd (nI_le (a := 6) (b := i) (by omega) (by omega)) h9)
          refine lv_aload_n hx hb dX1_passMinute_43 rfl (lv_at hl 1 rfl) ?_
          refine lv_dup hx hb dX1_passMinute_44 rfl ?_
          refine va_get (D := D) (ci := 1) (v := .int (r2 12 0)) (C := RX1) (T := TX1) (N := 16) hx hb hts hinX1 hown hK hP 0 rfl rfl 12 (by decide) fl54 (fun _ h9 => h9) (congrArg (fun z => some (Value.int z)) (rfl)) dX1_passMinute_45 ?_
          refine lv_iconst (v := 1) hx hb dX1_passMinute_48 (by decide) ?_
          refine lv_iadd hx hb dX1_passMinute_49 ?_
          refine lv_topi (fun f_3 ef_3 => ?_)
          refine k_put (D := D) (ci := 1) (v := .int f_3) (ty := .int) (C := RX1) (T := TX1) (N := 16) hx hb hts hinX1 tyX1 tyX1_ok nmX1 hown hK hP hD hS 0 rfl rfl 12 (by decide) fl54 (fun _ h9 => h9) rfl (by decide +kernel) rfl rfl (Nat.le_of_ble_eq_true rfl) (ws' := cR cI a (bp r2 12 0 f_3)) rfl dX1_passMinute_50 (fun H locs hP hD hS => ?_)
          have e9 : (bp r2 12 0 f_3 : rB) = minuteC r x := by (replace ef_3 := ef_3.symm; subst ef_3; replace h9r2 := h9r2.symm; subst h9r2; replace er_1 := er_1.symm; subst er_1; replace h9r1 := h9r1.symm; subst h9r1; simp only [minuteC, ↓reduceIte])
          rw [e9] at hP
          exact k_vret hx hb hr hlocks hS hP dX1_passMinute_53
        | succ n ih =>
          intro i r2 hin hres H locs hP hD hS ls hl
          refine lv_iload_n hx hb dX1_passMinute_26 rfl (lv_at hl 0 rfl) ?_
          refine lv_bipush (v := 6) hx hb dX1_passMinute_27 (by decide) ?_
          refine lv_icmp_ge (tgt := 43) hx hb dX1_passMinute_29 (by decide) (fun h9 => absurd h9 (nI_ge (a := i) (b := 6) (by omega) (by omega))) (fun _ => ?_)
          refine lv_aload_n hx hb dX1_passMinute_32 rfl (lv_at hl 1 rfl) ?_
          refine lv_iload_n hx hb dX1_passMinute_33 rfl (lv_at hl 0 rfl) ?_
          obtain ⟨r_4, er_4⟩ : ∃ z : rB, z = ovf r2 i := ⟨_, rfl⟩
          have hm_5 := mX1_overflow l D cI cQ cJ a r2 (nI i) i (vp_in_nI (n := i) (by omega) (by omega)) (nI_clamp (n := i) (by omega))
          rw [← er_4] at hm_5
          refine k_callv (wc := cR cI a r2) (w' := cR cI a r_4) (wn := cR cI a r_4) (va_runV (As := [.int (nI i)]) (rest := []) ⟨hx, hb, hml, hown, hts⟩ (hm_5 _) (cwV 1 hts gX1_passMinute_X1_overflow rfl rfl rfl (by decide +kernel) ⟨Nat.le_of_ble_eq_true rfl, Nat.le_of_ble_eq_true rfl⟩) (k_preV (wc := cR cI a r2) hE hK hP hD [0, 1, 2, 3, 4, 5, 6, 7, 8, 9, 10, 11, 12] (by decide) rfl (ci := 1) (q0 := 0) rfl rfl [.int (nI i)]) rfl rfl hl.1 rfl (lv_room (Nat.le_of_ble_eq_true rfl)) dX1_passMinute_34 ⟨Nat.zero_le _, Nat.zero_le _⟩) hP hD hS hA [0, 1, 2, 3, 4, 5, 6, 7, 8, 9, 10, 11, 12] rfl rfl rfl (fun H locs hP hD hS => ?_)
          refine lv_iinc (v := nI (i + 1)) (lv' := [(2, .int (nI (i + 1))), (0, .ref (a 0)), (1, .int x)]) hx hb dX1_passMinute_37 hl (k := 0) rfl (nI_1 i) (by decide) rfl (fun ls hl => ?_)
          refine lv_goto (tgt := 26) hx hb dX1_passMinute_40 (by decide) ?_
          exact ih (i + 1) r_4 (by omega) (by replace er_4 := er_4.symm; subst er_4; replace er_1 := er_1.symm; subst er_1; replace h9r1 := h9r1.symm; subst h9r1; exact hres) H locs hP hD hS ls (lv_sub hl [0, 1, 2] rfl)
      exact Lp26 6 0 r_1 (by omega) rfl _ _ hP hD hS ls (lv_sub hl [0, 1, 2] rfl)
    | succ n ih =>
      intro i r1 hin hres H locs hP hD hS ls hl
      refine lv_iload_n hx hb dX1_passMinute_2 rfl (lv_at hl 0 rfl) ?_
      refine lv_bipush (v := 6) hx hb dX1_passMinute_3 (by decide) ?_
      refine lv_icmp_ge (tgt := 20) hx hb dX1_passMinute_5 (by decide) (fun h9 => absurd h9 (nI_ge (a := i) (b := 6) (by omega) (by omega))) (fun _ => ?_)
      refine lv_aload_n hx hb dX1_passMinute_8 rfl (lv_at hl 1 rfl) ?_
      refine lv_iload_n hx hb dX1_passMinute_9 rfl (lv_at hl 0 rfl) ?_
      refine lv_iload_n hx hb dX1_passMinute_10 rfl (lv_at hl 2 rfl) ?_
      obtain ⟨r_6, er_6⟩ : ∃ z : rB, z = wet r1 i x := ⟨_, rfl⟩
      have hm_7 := mX1_wetPlane l D cI cQ cJ a r1 (nI i) i (vp_in_nI (n := i) (by omega) (by omega)) (nI_clamp (n := i) (by omega)) x
      rw [← er_6] at hm_7
      refine k_callv (wc := cR cI a r1) (w' := cR cI a r_6) (wn := cR cI a r_6) (va_runV (As := [.int (nI i), .int x]) (rest := []) ⟨hx, hb, hml, hown, hts⟩ (hm_7 _) (cwV 2 hts gX1_passMinute_X1_wetPlane rfl rfl rfl (by decide +kernel) ⟨Nat.le_of_ble_eq_true rfl, Nat.le_of_ble_eq_true rfl⟩) (k_preV (wc := cR cI a r1) hE hK hP hD [0, 1, 2, 3, 4, 5, 6, 7, 8, 9, 10, 11, 12] (by decide) rfl (ci := 1) (q0 := 0) rfl rfl [.int (nI i), .int x]) rfl rfl hl.1 rfl (lv_room (Nat.le_of_ble_eq_true rfl)) dX1_passMinute_11 ⟨Nat.zero_le _, Nat.zero_le _⟩) hP hD hS hA [0, 1, 2, 3, 4, 5, 6, 7, 8, 9, 10, 11, 12] rfl rfl rfl (fun H locs hP hD hS => ?_)
      refine lv_iinc (v := nI (i + 1)) (lv' := [(2, .int (nI (i + 1))), (0, .ref (a 0)), (1, .int x)]) hx hb dX1_passMinute_14 hl (k := 0) rfl (nI_1 i) (by decide) rfl (fun ls hl => ?_)
      refine lv_goto (tgt := 2) hx hb dX1_passMinute_17 (by decide) ?_
      exact ih (i + 1) r_6 (by omega) (by replace er_6 := er_6.symm; subst er_6; exact hres) H locs hP hD hS ls (lv_sub hl [0, 1, 2] rfl)
  exact Lp2 6 0 r (by omega) rfl _ _ hP hD hS ls (lv_sub hl [0, 1, 2] rfl)
end
section
set_option maxHeartbeats 4000000 in
set_option maxRecDepth 100000 in
theorem mX1_passMinutes (l : Launch) (D : va_G) (cI cQ cJ : ClassId) (a : Nat → Nat) (r : rB) (x mi : Int32) (k : Nat) (hk : mi.toNatClampNeg = k) : Mv l D (tY cI cQ cJ) yX1_passMinutes wsX1_passMinutes ({ frames := 3, cells := 0, slots := 0, locals := 69 } : Room) [.ref (a 0), .int x, .int mi] (cR cI a r) (cR cI a (minutesC k r x)) := by
  refine M_of (cc := cX1_passMinutes) (maxL := 4) (ret := none) (Qc := fun A => va_Qv (fun (_ : Unit) => True) (fun _ t => Wd D (cR cI a (minutesC k r x)) t) A) (by decide) rfl (Nat.le_of_ble_eq_true rfl) ?_
  intro p e s m below meth c A ls hB hE hP hK hD hA hl
  obtain ⟨hx, hb, hr, hml, hts, hown, hlocks⟩ := hB
  have hS : va_S A s.heap s.heap [] := va_S.rf
  have hl : lv_has ls 4 [(0, .ref (a 0)), (1, .int x), (2, .int mi)] := hl
  refine lv_iconst (v := 0) hx hb dX1_passMinutes_0 (by decide) ?_
  refine lv_istore_n (lv' := [(3, .int 0), (0, .ref (a 0)), (1, .int x), (2, .int mi)]) hx hb dX1_passMinutes_1 rfl hl (by decide) rfl (fun ls hl => ?_)
  have Lp2 : ∀ (n i : Nat) (r1 : rB), i + n = k → i ≤ k → minutesC n r1 x = minutesC k r x → ∀ (H : Heap) (locs : List Loc), va_P D vwCl (cR cI a r1) H → va_D A (cR cI a r1) → va_S A s.heap H locs → ∀ (ls : Array Slot), lv_has ls 4 [(3, .int (nI i)), (0, .ref (a 0)), (1, .int x), (2, .int mi)] → W p l e ({ frames := 3, cells := 0, slots := 0, locals := 69 } : Room) s m ([.ref (a 0), .int x, .int mi] : List Value).toArray below meth c H locs 0 0 (MQ below (va_Qv (fun (_ : Unit) => True) (fun _ t => Wd D (cR cI a (minutesC k r x)) t) A) ([.ref (a 0), .int x, .int mi] : List Value).toArray s 0 0 A) (F0 m 2 ls []) := by
    intro n
    induction n with
    | zero =>
      intro i r1 hin h8 hres H locs hP hD hS ls hl
      have h9r1 : r1 = minutesC k r x := hres
      refine lv_iload_n hx hb dX1_passMinutes_2 rfl (lv_at hl 0 rfl) ?_
      refine lv_iload_n hx hb dX1_passMinutes_3 rfl (lv_at hl 3 rfl) ?_
      refine lv_icmp_ge (tgt := 18) hx hb dX1_passMinutes_4 (by decide) (fun _ => ?_) (fun h9 => absurd (cl_le (i := i) (by omega)) h9)
      have e9 : (r1 : rB) = minutesC k r x := by (replace h9r1 := h9r1.symm; subst h9r1; simp only [↓reduceIte])
      rw [e9] at hP
      exact k_vret hx hb hr hlocks hS hP dX1_passMinutes_18
    | succ n ih =>
      intro i r1 hin h8 hres H locs hP hD hS ls hl
      refine lv_iload_n hx hb dX1_passMinutes_2 rfl (lv_at hl 0 rfl) ?_
      refine lv_iload_n hx hb dX1_passMinutes_3 rfl (lv_at hl 3 rfl) ?_
      refine lv_icmp_ge (tgt := 18) hx hb dX1_passMinutes_4 (by decide) (fun h9 => absurd h9 (cl_nle (i := i) (by omega))) (fun _ => ?_)
      refine lv_aload_n hx hb dX1_passMinutes_7 rfl (lv_at hl 1 rfl) ?_
      refine lv_iload_n hx hb dX1_passMinutes_8 rfl (lv_at hl 2 rfl) ?_
      obtain ⟨r_1, er_1⟩ : ∃ z : rB, z = minuteC r1 x := ⟨_, rfl⟩
      have hm_2 := mX1_passMinute l D cI cQ cJ a r1 x
      rw [← er_1] at hm_2
      refine k_callv (wc := cR cI a r1) (w' := cR cI a r_1) (wn := cR cI a r_1) (va_runV (As := [.int x]) (rest := []) ⟨hx, hb, hml, hown, hts⟩ (hm_2 _) (cwV 1 hts gX1_passMinutes_X1_passMinute rfl rfl rfl (by decide +kernel) ⟨Nat.le_of_ble_eq_true rfl, Nat.le_of_ble_eq_true rfl⟩) (k_preV (wc := cR cI a r1) hE hK hP hD [0, 1, 2, 3, 4, 5, 6, 7, 8, 9, 10, 11, 12] (by decide) rfl (ci := 1) (q0 := 0) rfl rfl [.int x]) rfl rfl hl.1 rfl (lv_room (Nat.le_of_ble_eq_true rfl)) dX1_passMinutes_9 ⟨Nat.zero_le _, Nat.zero_le _⟩) hP hD hS hA [0, 1, 2, 3, 4, 5, 6, 7, 8, 9, 10, 11, 12] rfl rfl rfl (fun H locs hP hD hS => ?_)
      refine lv_iinc (v := nI (i + 1)) (lv' := [(3, .int (nI (i + 1))), (0, .ref (a 0)), (1, .int x), (2, .int mi)]) hx hb dX1_passMinutes_12 hl (k := 0) rfl (nI_1 i) (by decide) rfl (fun ls hl => ?_)
      refine lv_goto (tgt := 2) hx hb dX1_passMinutes_15 (by decide) ?_
      exact ih (i + 1) r_1 (by omega) (by omega) (by replace er_1 := er_1.symm; subst er_1; exact hres) H locs hP hD hS ls (lv_sub hl [0, 1, 2, 3] rfl)
  exact Lp2 k 0 r (by omega) (by omega) rfl _ _ hP hD hS ls (lv_sub hl [0, 1, 2, 3] rfl)
end
section
set_option maxHeartbeats 4000000 in
set_option maxRecDepth 100000 in
theorem mX1_passWeek (l : Launch) (D : va_G) (cI cQ cJ : ClassId) (a : Nat → Nat) (r : rB)  : Mv l D (tY cI cQ cJ) yX1_passWeek wsX1_passWeek ({ frames := 1, cells := 0, slots := 0, locals := 21 } : Room) [.ref (a 0)] (cR cI a r) (cR cI a (weekC r)) := by
  refine M_of (cc := cX1_passWeek) (maxL := 2) (ret := none) (Qc := fun A => va_Qv (fun (_ : Unit) => True) (fun _ t => Wd D (cR cI a (weekC r)) t) A) (by decide) rfl (Nat.le_of_ble_eq_true rfl) ?_
  intro p e s m below meth c A ls hB hE hP hK hD hA hl
  obtain ⟨hx, hb, hr, hml, hts, hown, hlocks⟩ := hB
  have hS : va_S A s.heap s.heap [] := va_S.rf
  have hl : lv_has ls 2 [(0, .ref (a 0))] := hl
  have hinX1 : ∀ w ∈ u_ws RX1 TX1 16, w ∈ wsX1_passWeek := by decide +kernel
  have fl58 := hts (.fieldLink RX1 58 "RoofDrains$Roof" "weeksPassed" "I") (by decide +kernel)
  have fl30 := hts (.fieldLink RX1 30 "RoofDrains$Roof" "leaves" "[I") (by decide +kernel)
  have fl45 := hts (.fieldLink RX1 45 "RoofDrains$Roof" "values" "[I") (by decide +kernel)
  have mm1 := hts (.methodLink RX1 85 Lib.Math.min.name) (by decide +kernel)
  have mm2 := hts (.static Lib.Math.min.name) (by decide +kernel)
  have mm3 := hts (.initialized "java/lang/Math") (by decide +kernel)
  have mm4 := hts (.code Lib.Math.min.name Lib.Math.min.code 2 (some .int)) (by decide +kernel)
  refine lv_iconst (v := 0) hx hb dX1_passWeek_0 (by decide) ?_
  refine lv_istore_n (lv' := [(1, .int 0), (0, .ref (a 0))]) hx hb dX1_passWeek_1 rfl hl (by decide) rfl (fun ls hl => ?_)
  have Lp2 : ∀ (n i : Nat) (r1 : rB), i + n = 6 → weekL n i r1 = weekL 6 0 r → ∀ (H : Heap) (locs : List Loc), va_P D vwCl (cR cI a r1) H → va_D A (cR cI a r1) → va_S A s.heap H locs → ∀ (ls : Array Slot), lv_has ls 2 [(1, .int (nI i)), (0, .ref (a 0))] → W p l e ({ frames := 1, cells := 0, slots := 0, locals := 21 } : Room) s m ([.ref (a 0)] : List Value).toArray below meth c H locs 0 0 (MQ below (va_Qv (fun (_ : Unit) => True) (fun _ t => Wd D (cR cI a (weekC r)) t) A) ([.ref (a 0)] : List Value).toArray s 0 0 A) (F0 m 2 ls []) := by
    intro n
    induction n with
    | zero =>
      intro i r1 hin hres H locs hP hD hS ls hl
      have h9r1 : r1 = weekL 6 0 r := hres
      refine lv_iload_n hx hb dX1_passWeek_2 rfl (lv_at hl 0 rfl) ?_
      refine lv_bipush (v := 6) hx hb dX1_passWeek_3 (by decide) ?_
      refine lv_icmp_ge (tgt := 38) hx hb dX1_passWeek_5 (by decide) (fun _ => ?_) (fun h9 => absurd (nI_le (a := 6) (b := i) (by omega) (by omega)) h9)
      refine lv_aload_n hx hb dX1_passWeek_38 rfl (lv_at hl 1 rfl) ?_
      refine lv_dup hx hb dX1_passWeek_39 rfl ?_
      refine va_get (D := D) (ci := 1) (v := .int (r1 12 1)) (C := RX1) (T := TX1) (N := 16) hx hb hts hinX1 hown hK hP 0 rfl rfl 13 (by decide) fl58 (fun _ h9 => h9) (congrArg (fun z => some (Value.int z)) (rfl)) dX1_passWeek_40 ?_
      refine lv_iconst (v := 1) hx hb dX1_passWeek_43 (by decide) ?_
      refine lv_iadd hx hb dX1_passWeek_44 ?_
      refine lv_topi (fun f_1 ef_1 => ?_)
      refine k_put (D := D) (ci := 1) (v := .int f_1) (ty := .int) (C := RX1) (T := TX1) (N := 16) hx hb hts hinX1 tyX1 tyX1_ok nmX1 hown hK hP hD hS 0 rfl rfl 13 (by decide) fl58 (fun _ h9 => h9) rfl (by decide +kernel) rfl rfl (Nat.le_of_ble_eq_true rfl) (ws' := cR cI a (bp r1 12 1 f_1)) rfl dX1_passWeek_45 (fun H locs hP hD hS => ?_)
      have e9 : (bp r1 12 1 f_1 : rB) = weekC r := by (replace ef_1 := ef_1.symm; subst ef_1; replace h9r1 := h9r1.symm; subst h9r1; simp only [weekC, ↓reduceIte])
      rw [e9] at hP
      exact k_vret hx hb hr hlocks hS hP dX1_passWeek_48
    | succ n ih =>
      intro i r1 hin hres H locs hP hD hS ls hl
      refine lv_iload_n hx hb dX1_passWeek_2 rfl (lv_at hl 0 rfl) ?_
      refine lv_bipush (v := 6) hx hb dX1_passWeek_3 (by decide) ?_
      refine lv_icmp_ge (tgt := 38) hx hb dX1_passWeek_5 (by decide) (fun h9 => absurd h9 (nI_ge (a := i) (b := 6) (by omega) (by omega))) (fun _ => ?_)
      refine lv_aload_n hx hb dX1_passWeek_8 rfl (lv_at hl 1 rfl) ?_
      refine va_get (D := D) (ci := 1) (v := .ref (a 7)) (C := RX1) (T := TX1) (N := 16) hx hb hts hinX1 hown hK hP 0 rfl rfl 6 (by decide) fl30 (fun _ h9 => h9) rfl dX1_passWeek_9 ?_
      refine lv_iload_n hx hb dX1_passWeek_12 rfl (lv_at hl 0 rfl) ?_
      refine lv_bipush (v := 100) hx hb dX1_passWeek_13 (by decide) ?_
      refine lv_aload_n hx hb dX1_passWeek_15 rfl (lv_at hl 1 rfl) ?_
      refine va_get (D := D) (ci := 1) (v := .ref (a 7)) (C := RX1) (T := TX1) (N := 16) hx hb hts hinX1 hown hK hP 0 rfl rfl 6 (by decide) fl30 (fun _ h9 => h9) rfl dX1_passWeek_16 ?_
      refine lv_iload_n hx hb dX1_passWeek_19 rfl (lv_at hl 0 rfl) ?_
      refine k_iald (k := i) (v := r1 6 i) hx hb hK hP 7 0 rfl rfl (vp_in_nI (n := i) (by omega) (by omega)) (nI_clamp (n := i) (by omega)) (rfl) dX1_passWeek_20 ?_
      refine lv_aload_n hx hb dX1_passWeek_21 rfl (lv_at hl 1 rfl) ?_
      refine va_get (D := D) (ci := 1) (v := .ref (a 12)) (C := RX1) (T := TX1) (N := 16) hx hb hts hinX1 hown hK hP 0 rfl rfl 11 (by decide) fl45 (fun _ h9 => h9) rfl dX1_passWeek_22 ?_
      refine lv_iconst (v := 1) hx hb dX1_passWeek_25 (by decide) ?_
      refine k_iald (k := 1) (v := r1 11 1) hx hb hK hP 12 0 rfl rfl (vp_in_nI (n := 1) (by omega) (by omega)) (nI_clamp (n := 1) (by omega)) (rfl) dX1_passWeek_26 ?_
      refine lv_iadd hx hb dX1_passWeek_27 ?_
      refine va_mmin hx hb (hml.trans hl.1.symm) hown mm1 mm2 mm3 mm4 (Nat.le_of_ble_eq_true rfl) (Nat.le_of_ble_eq_true rfl) (Nat.zero_le _) (Nat.zero_le _) dX1_passWeek_28 ?_
      refine lv_eqi (y := mn 100 ((r1 6 i) + (r1 11 1))) rfl ?_
      refine lv_topi (fun mn_2 emn_2 => ?_)
      refine k_iast (k := i) (ws' := cR cI a (bp r1 6 i mn_2)) hx hb hK hP hD hS 7 0 rfl rfl (vp_in_nI (n := i) (by omega) (by omega)) (nI_clamp (n := i) (by omega)) rfl dX1_passWeek_31 (fun H locs hP hD hS => ?_)
      refine lv_iinc (v := nI (i + 1)) (lv' := [(1, .int (nI (i + 1))), (0, .ref (a 0))]) hx hb dX1_passWeek_32 hl (k := 0) rfl (nI_1 i) (by decide) rfl (fun ls hl => ?_)
      refine lv_goto (tgt := 2) hx hb dX1_passWeek_35 (by decide) ?_
      exact ih (i + 1) (bp r1 6 i mn_2) (by omega) (by replace emn_2 := emn_2.symm; subst emn_2; rw [← hres]; simp only [weekL, ↓reduceIte]) H locs hP hD hS ls (lv_sub hl [0, 1] rfl)
  exact Lp2 6 0 r (by omega) rfl _ _ hP hD hS ls (lv_sub hl [0, 1] rfl)
end
section
set_option maxHeartbeats 4000000 in
set_option maxRecDepth 100000 in
theorem mX1_valleysLead (l : Launch) (D : va_G) (cI cQ cJ : ClassId) (a : Nat → Nat) (r : rB) (q t : Int32) : Mi l D (tY cI cQ cJ) yX1_valleysLead wsX1_valleysLead ({ frames := 1, cells := 0, slots := 0, locals := 20 } : Room) [.ref (a 0), .int q, .int t] (cR cI a r) (cR cI a r) (vlead r t 6 q) := by
  refine M_of (cc := cX1_valleysLead) (maxL := 5) (ret := some .boolean) (Qc := fun A => va_Qi (fun (x : Int32) (_ : Unit) => x = vlead r t 6 q) (fun _ t => Wd D (cR cI a r) t) A) (by decide) rfl (Nat.le_of_ble_eq_true rfl) ?_
  intro p e s m below meth c A ls hB hE hP hK hD hA hl
  obtain ⟨hx, hb, hr, hml, hts, hown, hlocks⟩ := hB
  have hS : va_S A s.heap s.heap [] := va_S.rf
  have hl : lv_has ls 5 [(0, .ref (a 0)), (1, .int q), (2, .int t)] := hl
  have hinX1 : ∀ w ∈ u_ws RX1 TX1 16, w ∈ wsX1_valleysLead := by decide +kernel
  have fl33 := hts (.fieldLink RX1 33 "RoofDrains$Roof" "valleyTo" "[I") (by decide +kernel)
  refine lv_iload_n hx hb dX1_valleysLead_0 rfl (lv_at hl 1 rfl) ?_
  refine lv_istore_n (lv' := [(3, .int q), (0, .ref (a 0)), (1, .int q), (2, .int t)]) hx hb dX1_valleysLead_1 rfl hl (by decide) rfl (fun ls hl => ?_)
  refine lv_iconst (v := 0) hx hb dX1_valleysLead_2 (by decide) ?_
  refine lv_istore (lv' := [(4, .int 0), (3, .int q), (0, .ref (a 0)), (1, .int q), (2, .int t)]) hx hb dX1_valleysLead_3 hl (by decide) rfl (fun ls hl => ?_)
  have Lp5 : ∀ (n i : Nat) (aq : Int32), i + n = 6 → vlead r t n aq = vlead r t 6 q → ∀ (H : Heap) (locs : List Loc), va_P D vwCl (cR cI a r) H → va_D A (cR cI a r) → va_S A s.heap H locs → ∀ (ls : Array Slot), lv_has ls 5 [(4, .int (nI i)), (3, .int aq), (0, .ref (a 0)), (1, .int q), (2, .int t)] → W p l e ({ frames := 1, cells := 0, slots := 0, locals := 20 } : Room) s m ([.ref (a 0), .int q, .int t] : List Value).toArray below meth c H locs 0 0 (MQ below (va_Qi (fun (x : Int32) (_ : Unit) => x = vlead r t 6 q) (fun _ t => Wd D (cR cI a r) t) A) ([.ref (a 0), .int q, .int t] : List Value).toArray s 0 0 A) (F0 m 5 ls []) := by
    intro n
    induction n with
    | zero =>
      intro i aq hin hres H locs hP hD hS ls hl
      refine lv_iload hx hb dX1_valleysLead_5 (lv_at hl 0 rfl) ?_
      refine lv_bipush (v := 6) hx hb dX1_valleysLead_7 (by decide) ?_
      refine lv_icmp_ge (tgt := 39) hx hb dX1_valleysLead_9 (by decide) (fun _ => ?_) (fun h9 => absurd (nI_le (a := 6) (b := i) (by omega) (by omega)) h9)
      refine lv_iconst (v := 0) hx hb dX1_valleysLead_39 (by decide) ?_
      exact k_zret hx hb hr hlocks hS hP dX1_valleysLead_40 (by first | rfl | decide | exact rfl) (by (rw [← hres]; simp only [vlead, ↓reduceIte]))
    | succ n ih =>
      intro i aq hin hres H locs hP hD hS ls hl
      refine lv_iload hx hb dX1_valleysLead_5 (lv_at hl 0 rfl) ?_
      refine lv_bipush (v := 6) hx hb dX1_valleysLead_7 (by decide) ?_
      refine lv_icmp_ge (tgt := 39) hx hb dX1_valleysLead_9 (by decide) (fun h9 => absurd h9 (nI_ge (a := i) (b := 6) (by omega) (by omega))) (fun _ => ?_)
      refine lv_iload_n hx hb dX1_valleysLead_12 rfl (lv_at hl 1 rfl) ?_
      refine k_calli (wc := ([] : va_W)) (w' := ([] : va_W)) (wn := cR cI a r) (va_runSN (As := [.int aq]) (rest := []) ⟨hx, hb, hml, hown, hts⟩ (mX3_isGutter l D cI cQ cJ aq _) ⟨va_cnB 1 hts gX1_valleysLead_X3_isGutter_n67 rfl rfl rfl hE.1 (hts (.initialized RX3) (by decide +kernel)) (by decide +kernel) ⟨Nat.le_of_ble_eq_true rfl, Nat.le_of_ble_eq_true rfl⟩, hts (.static yX3_isGutter) (by decide +kernel), trivial⟩ (k_preS (wc := ([] : va_W)) hE hK hP hD [] (by decide) rfl [.int aq]) rfl rfl hl.1 rfl (lv_room (Nat.le_of_ble_eq_true rfl)) dX1_valleysLead_13 ⟨Nat.zero_le _, Nat.zero_le _⟩) hP hD hS hA [] rfl rfl rfl (fun H locs hP hD hS => ?_)
      refine lv_if_eq (tgt := 39) hx hb dX1_valleysLead_16 (by decide) (fun c_1 => ?_) (fun c_1 => ?_)
      · skip
        refine lv_iconst (v := 0) hx hb dX1_valleysLead_39 (by decide) ?_
        exact k_zret hx hb hr hlocks hS hP dX1_valleysLead_40 (by first | rfl | decide | exact rfl) (by (rw [← hres]; simp only [vlead, if_pos c_1, ↓reduceIte]))
      · skip
        refine lv_iload_n hx hb dX1_valleysLead_19 rfl (lv_at hl 1 rfl) ?_
        refine lv_iload_n hx hb dX1_valleysLead_20 rfl (lv_at hl 4 rfl) ?_
        refine lv_icmp_ne (tgt := 26) hx hb dX1_valleysLead_21 (by decide) (fun c_2 => ?_) (fun c_2 => ?_)
        · skip
          refine lv_aload_n hx hb dX1_valleysLead_26 rfl (lv_at hl 2 rfl) ?_
          refine va_get (D := D) (ci := 1) (v := .ref (a 8)) (C := RX1) (T := TX1) (N := 16) hx hb hts hinX1 hown hK hP 0 rfl rfl 7 (by decide) fl33 (fun _ h9 => h9) rfl dX1_valleysLead_27 ?_
          refine lv_iload_n hx hb dX1_valleysLead_30 rfl (lv_at hl 1 rfl) ?_
          refine k_iald (k := aq.toNatClampNeg) (v := r 7 aq.toNatClampNeg) hx hb hK hP 8 0 rfl rfl (zL_in (n := 6) rfl rfl c_1) rfl (rfl) dX1_valleysLead_31 ?_
          refine lv_topi (fun v3_3 ev3_3 => ?_)
          refine lv_istore_n (lv' := [(3, .int v3_3), (4, .int (nI i)), (0, .ref (a 0)), (1, .int q), (2, .int t)]) hx hb dX1_valleysLead_32 rfl hl (by decide) rfl (fun ls hl => ?_)
          refine lv_iinc (v := nI (i + 1)) (lv' := [(4, .int (nI (i + 1))), (3, .int v3_3), (0, .ref (a 0)), (1, .int q), (2, .int t)]) hx hb dX1_valleysLead_33 hl (k := 1) rfl (nI_1 i) (by decide) rfl (fun ls hl => ?_)
          refine lv_goto (tgt := 5) hx hb dX1_valleysLead_36 (by decide) ?_
          exact ih (i + 1) v3_3 (by omega) (by replace ev3_3 := ev3_3.symm; subst ev3_3; rw [← hres]; simp only [vlead, if_neg c_1, if_neg c_2, ↓reduceIte]) H locs hP hD hS ls (lv_sub hl [0, 1, 2, 3, 4] rfl)
        · skip
          refine lv_iconst (v := 1) hx hb dX1_valleysLead_24 (by decide) ?_
          exact k_zret hx hb hr hlocks hS hP dX1_valleysLead_25 (by first | rfl | decide | exact rfl) (by (rw [← hres]; simp only [vlead, if_neg c_1, if_pos c_2, ↓reduceIte]))
  exact Lp5 6 0 q (by omega) rfl _ _ hP hD hS ls (lv_sub hl [0, 1, 2, 3, 4] rfl)
end
section
set_option maxHeartbeats 4000000 in
set_option maxRecDepth 100000 in
theorem mX1_planeNumber (l : Launch) (D : va_G) (cI cQ cJ : ClassId) (a : Nat → Nat) (r : rB) (q : Int32) (i w : Nat) (hq : vp_in q 6) (hi : q.toNatClampNeg = i) (hw : w < 4) : Mi l D (tY cI cQ cJ) yX1_planeNumber wsX1_planeNumber ({ frames := 0, cells := 0, slots := 0, locals := 0 } : Room) [.ref (a 0), .int q, .int (nI w)] (cR cI a r) (cR cI a r) (pnC r i w) := by
  refine M_of (cc := cX1_planeNumber) (maxL := 3) (ret := some .int) (Qc := fun A => va_Qi (fun (x : Int32) (_ : Unit) => x = pnC r i w) (fun _ t => Wd D (cR cI a r) t) A) (by decide) rfl (Nat.le_of_ble_eq_true rfl) ?_
  intro p e s m below meth c A ls hB hE hP hK hD hA hl
  obtain ⟨hx, hb, hr, hml, hts, hown, hlocks⟩ := hB
  have hS : va_S A s.heap s.heap [] := va_S.rf
  have hl : lv_has ls 3 [(0, .ref (a 0)), (1, .int q), (2, .int (nI w))] := hl
  have hinX1 : ∀ w ∈ u_ws RX1 TX1 16, w ∈ wsX1_planeNumber := by decide +kernel
  have fl9 := hts (.fieldLink RX1 9 "RoofDrains$Roof" "area" "[I") (by decide +kernel)
  have fl15 := hts (.fieldLink RX1 15 "RoofDrains$Roof" "slope" "[I") (by decide +kernel)
  have fl18 := hts (.fieldLink RX1 18 "RoofDrains$Roof" "leadsTo" "[I") (by decide +kernel)
  have fl21 := hts (.fieldLink RX1 21 "RoofDrains$Roof" "onPlane" "[I") (by decide +kernel)
  refine lv_iload_n hx hb dX1_planeNumber_0 rfl (lv_at hl 2 rfl) ?_
  have hsw : w = 0 ∨ w = 1 ∨ w = 2 ∨ w = 3 := by omega
  rcases hsw with rfl | rfl | rfl | rfl
  · skip
    refine lv_tableIn (off := 27) (tgt := 28) hx hb dX1_planeNumber_1 (by decide +kernel) (by decide +kernel) (by decide +kernel) (by decide) ?_
    refine lv_aload_n hx hb dX1_planeNumber_28 rfl (lv_at hl 0 rfl) ?_
    refine va_get (D := D) (ci := 1) (v := .ref (a 1)) (C := RX1) (T := TX1) (N := 16) hx hb hts hinX1 hown hK hP 0 rfl rfl 0 (by decide) fl9 (fun _ h9 => h9) rfl dX1_planeNumber_29 ?_
    refine lv_iload_n hx hb dX1_planeNumber_32 rfl (lv_at hl 1 rfl) ?_
    refine k_iald (k := i) (v := r 0 i) hx hb hK hP 1 0 rfl rfl hq hi (rfl) dX1_planeNumber_33 ?_
    exact k_iret hx hb hr hlocks hS hP dX1_planeNumber_34 (by (simp only [pnC, ↓reduceIte]))
  · skip
    refine lv_tableIn (off := 34) (tgt := 35) hx hb dX1_planeNumber_1 (by decide +kernel) (by decide +kernel) (by decide +kernel) (by decide) ?_
    refine lv_aload_n hx hb dX1_planeNumber_35 rfl (lv_at hl 0 rfl) ?_
    refine va_get (D := D) (ci := 1) (v := .ref (a 2)) (C := RX1) (T := TX1) (N := 16) hx hb hts hinX1 hown hK hP 0 rfl rfl 1 (by decide) fl15 (fun _ h9 => h9) rfl dX1_planeNumber_36 ?_
    refine lv_iload_n hx hb dX1_planeNumber_39 rfl (lv_at hl 1 rfl) ?_
    refine k_iald (k := i) (v := r 1 i) hx hb hK hP 2 0 rfl rfl hq hi (rfl) dX1_planeNumber_40 ?_
    exact k_iret hx hb hr hlocks hS hP dX1_planeNumber_41 (by (simp only [pnC, ↓reduceIte]))
  · skip
    refine lv_tableIn (off := 41) (tgt := 42) hx hb dX1_planeNumber_1 (by decide +kernel) (by decide +kernel) (by decide +kernel) (by decide) ?_
    refine lv_aload_n hx hb dX1_planeNumber_42 rfl (lv_at hl 0 rfl) ?_
    refine va_get (D := D) (ci := 1) (v := .ref (a 3)) (C := RX1) (T := TX1) (N := 16) hx hb hts hinX1 hown hK hP 0 rfl rfl 2 (by decide) fl18 (fun _ h9 => h9) rfl dX1_planeNumber_43 ?_
    refine lv_iload_n hx hb dX1_planeNumber_46 rfl (lv_at hl 1 rfl) ?_
    refine k_iald (k := i) (v := r 2 i) hx hb hK hP 3 0 rfl rfl hq hi (rfl) dX1_planeNumber_47 ?_
    exact k_iret hx hb hr hlocks hS hP dX1_planeNumber_48 (by (simp only [pnC, ↓reduceIte]))
  · skip
    refine lv_tableOut (tgt := 49) hx hb dX1_planeNumber_1 (by decide +kernel) (by decide) ?_
    refine lv_aload_n hx hb dX1_planeNumber_49 rfl (lv_at hl 0 rfl) ?_
    refine va_get (D := D) (ci := 1) (v := .ref (a 4)) (C := RX1) (T := TX1) (N := 16) hx hb hts hinX1 hown hK hP 0 rfl rfl 3 (by decide) fl21 (fun _ h9 => h9) rfl dX1_planeNumber_50 ?_
    refine lv_iload_n hx hb dX1_planeNumber_53 rfl (lv_at hl 1 rfl) ?_
    refine k_iald (k := i) (v := r 3 i) hx hb hK hP 4 0 rfl rfl hq hi (rfl) dX1_planeNumber_54 ?_
    exact k_iret hx hb hr hlocks hS hP dX1_planeNumber_55 (by (simp only [pnC, ↓reduceIte]))
end
section
set_option maxHeartbeats 4000000 in
set_option maxRecDepth 100000 in
theorem mX1_gutterNumber (l : Launch) (D : va_G) (cI cQ cJ : ClassId) (a : Nat → Nat) (r : rB) (q : Int32) (i w : Nat) (hq : vp_in q 6) (hi : q.toNatClampNeg = i) (hw : w < 9) : Mi l D (tY cI cQ cJ) yX1_gutterNumber wsX1_gutterNumber ({ frames := 1, cells := 0, slots := 0, locals := 22 } : Room) [.ref (a 0), .int q, .int (nI w)] (cR cI a r) (cR cI a r) (gnC r i w) := by
  refine M_of (cc := cX1_gutterNumber) (maxL := 3) (ret := some .int) (Qc := fun A => va_Qi (fun (x : Int32) (_ : Unit) => x = gnC r i w) (fun _ t => Wd D (cR cI a r) t) A) (by decide) rfl (Nat.le_of_ble_eq_true rfl) ?_
  intro p e s m below meth c A ls hB hE hP hK hD hA hl
  obtain ⟨hx, hb, hr, hml, hts, hown, hlocks⟩ := hB
  have hS : va_S A s.heap s.heap [] := va_S.rf
  have hl : lv_has ls 3 [(0, .ref (a 0)), (1, .int q), (2, .int (nI w))] := hl
  have hinX1 : ∀ w ∈ u_ws RX1 TX1 16, w ∈ wsX1_gutterNumber := by decide +kernel
  have fl24 := hts (.fieldLink RX1 24 "RoofDrains$Roof" "size" "[I") (by decide +kernel)
  have fl27 := hts (.fieldLink RX1 27 "RoofDrains$Roof" "bore" "[I") (by decide +kernel)
  have fl30 := hts (.fieldLink RX1 30 "RoofDrains$Roof" "leaves" "[I") (by decide +kernel)
  have fl33 := hts (.fieldLink RX1 33 "RoofDrains$Roof" "valleyTo" "[I") (by decide +kernel)
  have fl36 := hts (.fieldLink RX1 36 "RoofDrains$Roof" "inGutter" "[I") (by decide +kernel)
  have fl39 := hts (.fieldLink RX1 39 "RoofDrains$Roof" "spilt" "[I") (by decide +kernel)
  have fl42 := hts (.fieldLink RX1 42 "RoofDrains$Roof" "drained" "[I") (by decide +kernel)
  refine lv_iload_n hx hb dX1_gutterNumber_0 rfl (lv_at hl 2 rfl) ?_
  have hsw : w = 0 ∨ w = 1 ∨ w = 2 ∨ w = 3 ∨ w = 4 ∨ w = 5 ∨ w = 6 ∨ w = 7 ∨ w = 8 := by omega
  rcases hsw with rfl | rfl | rfl | rfl | rfl | rfl | rfl | rfl | rfl
  · skip
    refine lv_tableIn (off := 47) (tgt := 48) hx hb dX1_gutterNumber_1 (by decide +kernel) (by decide +kernel) (by decide +kernel) (by decide) ?_
    refine lv_aload_n hx hb dX1_gutterNumber_48 rfl (lv_at hl 0 rfl) ?_
    refine va_get (D := D) (ci := 1) (v := .ref (a 5)) (C := RX1) (T := TX1) (N := 16) hx hb hts hinX1 hown hK hP 0 rfl rfl 4 (by decide) fl24 (fun _ h9 => h9) rfl dX1_gutterNumber_49 ?_
    refine lv_iload_n hx hb dX1_gutterNumber_52 rfl (lv_at hl 1 rfl) ?_
    refine k_iald (k := i) (v := r 4 i) hx hb hK hP 5 0 rfl rfl hq hi (rfl) dX1_gutterNumber_53 ?_
    exact k_iret hx hb hr hlocks hS hP dX1_gutterNumber_54 (by (simp only [gnC, ↓reduceIte]))
  · skip
    refine lv_tableIn (off := 54) (tgt := 55) hx hb dX1_gutterNumber_1 (by decide +kernel) (by decide +kernel) (by decide +kernel) (by decide) ?_
    refine lv_aload_n hx hb dX1_gutterNumber_55 rfl (lv_at hl 0 rfl) ?_
    refine va_get (D := D) (ci := 1) (v := .ref (a 6)) (C := RX1) (T := TX1) (N := 16) hx hb hts hinX1 hown hK hP 0 rfl rfl 5 (by decide) fl27 (fun _ h9 => h9) rfl dX1_gutterNumber_56 ?_
    refine lv_iload_n hx hb dX1_gutterNumber_59 rfl (lv_at hl 1 rfl) ?_
    refine k_iald (k := i) (v := r 5 i) hx hb hK hP 6 0 rfl rfl hq hi (rfl) dX1_gutterNumber_60 ?_
    exact k_iret hx hb hr hlocks hS hP dX1_gutterNumber_61 (by (simp only [gnC, ↓reduceIte]))
  · skip
    refine lv_tableIn (off := 61) (tgt := 62) hx hb dX1_gutterNumber_1 (by decide +kernel) (by decide +kernel) (by decide +kernel) (by decide) ?_
    refine lv_aload_n hx hb dX1_gutterNumber_62 rfl (lv_at hl 0 rfl) ?_
    refine va_get (D := D) (ci := 1) (v := .ref (a 7)) (C := RX1) (T := TX1) (N := 16) hx hb hts hinX1 hown hK hP 0 rfl rfl 6 (by decide) fl30 (fun _ h9 => h9) rfl dX1_gutterNumber_63 ?_
    refine lv_iload_n hx hb dX1_gutterNumber_66 rfl (lv_at hl 1 rfl) ?_
    refine k_iald (k := i) (v := r 6 i) hx hb hK hP 7 0 rfl rfl hq hi (rfl) dX1_gutterNumber_67 ?_
    exact k_iret hx hb hr hlocks hS hP dX1_gutterNumber_68 (by (simp only [gnC, ↓reduceIte]))
  · skip
    refine lv_tableIn (off := 68) (tgt := 69) hx hb dX1_gutterNumber_1 (by decide +kernel) (by decide +kernel) (by decide +kernel) (by decide) ?_
    refine lv_aload_n hx hb dX1_gutterNumber_69 rfl (lv_at hl 0 rfl) ?_
    refine va_get (D := D) (ci := 1) (v := .ref (a 8)) (C := RX1) (T := TX1) (N := 16) hx hb hts hinX1 hown hK hP 0 rfl rfl 7 (by decide) fl33 (fun _ h9 => h9) rfl dX1_gutterNumber_70 ?_
    refine lv_iload_n hx hb dX1_gutterNumber_73 rfl (lv_at hl 1 rfl) ?_
    refine k_iald (k := i) (v := r 7 i) hx hb hK hP 8 0 rfl rfl hq hi (rfl) dX1_gutterNumber_74 ?_
    exact k_iret hx hb hr hlocks hS hP dX1_gutterNumber_75 (by (simp only [gnC, ↓reduceIte]))
  · skip
    refine lv_tableIn (off := 75) (tgt := 76) hx hb dX1_gutterNumber_1 (by decide +kernel) (by decide +kernel) (by decide +kernel) (by decide) ?_
    refine lv_aload_n hx hb dX1_gutterNumber_76 rfl (lv_at hl 0 rfl) ?_
    refine va_get (D := D) (ci := 1) (v := .ref (a 9)) (C := RX1) (T := TX1) (N := 16) hx hb hts hinX1 hown hK hP 0 rfl rfl 8 (by decide) fl36 (fun _ h9 => h9) rfl dX1_gutterNumber_77 ?_
    refine lv_iload_n hx hb dX1_gutterNumber_80 rfl (lv_at hl 1 rfl) ?_
    refine k_iald (k := i) (v := r 8 i) hx hb hK hP 9 0 rfl rfl hq hi (rfl) dX1_gutterNumber_81 ?_
    exact k_iret hx hb hr hlocks hS hP dX1_gutterNumber_82 (by (simp only [gnC, ↓reduceIte]))
  · skip
    refine lv_tableIn (off := 82) (tgt := 83) hx hb dX1_gutterNumber_1 (by decide +kernel) (by decide +kernel) (by decide +kernel) (by decide) ?_
    refine lv_aload_n hx hb dX1_gutterNumber_83 rfl (lv_at hl 0 rfl) ?_
    refine lv_iload_n hx hb dX1_gutterNumber_84 rfl (lv_at hl 1 rfl) ?_
    refine k_calli (wc := cR cI a r) (w' := cR cI a r) (wn := cR cI a r) (va_runV (As := [.int q]) (rest := []) ⟨hx, hb, hml, hown, hts⟩ (mX1_room l D cI cQ cJ a r q i hq hi _) (cwV 1 hts gX1_gutterNumber_X1_room rfl rfl rfl (by decide +kernel) ⟨Nat.le_of_ble_eq_true rfl, Nat.le_of_ble_eq_true rfl⟩) (k_preV (wc := cR cI a r) hE hK hP hD [0, 1, 2, 3, 4, 5, 6, 7, 8, 9, 10, 11, 12] (by decide) rfl (ci := 1) (q0 := 0) rfl rfl [.int q]) rfl rfl hl.1 rfl (lv_room (Nat.le_of_ble_eq_true rfl)) dX1_gutterNumber_85 ⟨Nat.zero_le _, Nat.zero_le _⟩) hP hD hS hA [0, 1, 2, 3, 4, 5, 6, 7, 8, 9, 10, 11, 12] rfl rfl rfl (fun H locs hP hD hS => ?_)
    exact k_iret hx hb hr hlocks hS hP dX1_gutterNumber_88 (by (simp only [gnC, ↓reduceIte]))
  · skip
    refine lv_tableIn (off := 88) (tgt := 89) hx hb dX1_gutterNumber_1 (by decide +kernel) (by decide +kernel) (by decide +kernel) (by decide) ?_
    refine lv_aload_n hx hb dX1_gutterNumber_89 rfl (lv_at hl 0 rfl) ?_
    refine lv_iload_n hx hb dX1_gutterNumber_90 rfl (lv_at hl 1 rfl) ?_
    refine k_calli (wc := cR cI a r) (w' := cR cI a r) (wn := cR cI a r) (va_runV (As := [.int q]) (rest := []) ⟨hx, hb, hml, hown, hts⟩ (mX1_pipeTakes l D cI cQ cJ a r q i hq hi _) (cwV 1 hts gX1_gutterNumber_X1_pipeTakes rfl rfl rfl (by decide +kernel) ⟨Nat.le_of_ble_eq_true rfl, Nat.le_of_ble_eq_true rfl⟩) (k_preV (wc := cR cI a r) hE hK hP hD [0, 1, 2, 3, 4, 5, 6, 7, 8, 9, 10, 11, 12] (by decide) rfl (ci := 1) (q0 := 0) rfl rfl [.int q]) rfl rfl hl.1 rfl (lv_room (Nat.le_of_ble_eq_true rfl)) dX1_gutterNumber_91 ⟨Nat.zero_le _, Nat.zero_le _⟩) hP hD hS hA [0, 1, 2, 3, 4, 5, 6, 7, 8, 9, 10, 11, 12] rfl rfl rfl (fun H locs hP hD hS => ?_)
    exact k_iret hx hb hr hlocks hS hP dX1_gutterNumber_94 (by (simp only [gnC, ↓reduceIte]))
  · skip
    refine lv_tableIn (off := 94) (tgt := 95) hx hb dX1_gutterNumber_1 (by decide +kernel) (by decide +kernel) (by decide +kernel) (by decide) ?_
    refine lv_aload_n hx hb dX1_gutterNumber_95 rfl (lv_at hl 0 rfl) ?_
    refine va_get (D := D) (ci := 1) (v := .ref (a 10)) (C := RX1) (T := TX1) (N := 16) hx hb hts hinX1 hown hK hP 0 rfl rfl 9 (by decide) fl39 (fun _ h9 => h9) rfl dX1_gutterNumber_96 ?_
    refine lv_iload_n hx hb dX1_gutterNumber_99 rfl (lv_at hl 1 rfl) ?_
    refine k_iald (k := i) (v := r 9 i) hx hb hK hP 10 0 rfl rfl hq hi (rfl) dX1_gutterNumber_100 ?_
    exact k_iret hx hb hr hlocks hS hP dX1_gutterNumber_101 (by (simp only [gnC, ↓reduceIte]))
  · skip
    refine lv_tableOut (tgt := 102) hx hb dX1_gutterNumber_1 (by decide +kernel) (by decide) ?_
    refine lv_aload_n hx hb dX1_gutterNumber_102 rfl (lv_at hl 0 rfl) ?_
    refine va_get (D := D) (ci := 1) (v := .ref (a 11)) (C := RX1) (T := TX1) (N := 16) hx hb hts hinX1 hown hK hP 0 rfl rfl 10 (by decide) fl42 (fun _ h9 => h9) rfl dX1_gutterNumber_103 ?_
    refine lv_iload_n hx hb dX1_gutterNumber_106 rfl (lv_at hl 1 rfl) ?_
    refine k_iald (k := i) (v := r 10 i) hx hb hK hP 11 0 rfl rfl hq hi (rfl) dX1_gutterNumber_107 ?_
    exact k_iret hx hb hr hlocks hS hP dX1_gutterNumber_108 (by (simp only [gnC, ↓reduceIte]))
end
section
set_option maxHeartbeats 4000000 in
set_option maxRecDepth 100000 in
theorem mX1_lowest (l : Launch) (D : va_G) (cI cQ cJ : ClassId) (a : Nat → Nat) (r : rB) (a2 : Nat → Nat) (r2 : rB) : Mi l D (tY cI cQ cJ) yX1_lowestThatSpiltMoreThanIn wsX1_lowestThatSpiltMoreThanIn ({ frames := 0, cells := 0, slots := 0, locals := 0 } : Room) [.ref (a 0), .ref (a2 0)] ((cR cI a r) ++ (cR cI a2 r2)) ((cR cI a r) ++ (cR cI a2 r2)) (lowL r r2 6 0) := by
  refine M_of (cc := cX1_lowestThatSpiltMoreThanIn) (maxL := 3) (ret := some .int) (Qc := fun A => va_Qi (fun (x : Int32) (_ : Unit) => x = lowL r r2 6 0) (fun _ t => Wd D ((cR cI a r) ++ (cR cI a2 r2)) t) A) (by decide) rfl (Nat.le_of_ble_eq_true rfl) ?_
  intro p e s m below meth c A ls hB hE hP hK hD hA hl
  obtain ⟨hx, hb, hr, hml, hts, hown, hlocks⟩ := hB
  have hS : va_S A s.heap s.heap [] := va_S.rf
  have hl : lv_has ls 3 [(0, .ref (a 0)), (1, .ref (a2 0))] := hl
  have hinX1 : ∀ w ∈ u_ws RX1 TX1 16, w ∈ wsX1_lowestThatSpiltMoreThanIn := by decide +kernel
  have fl39 := hts (.fieldLink RX1 39 "RoofDrains$Roof" "spilt" "[I") (by decide +kernel)
  refine lv_iconst (v := 0) hx hb dX1_lowestThatSpiltMoreThanIn_0 (by decide) ?_
  refine lv_istore_n (lv' := [(2, .int 0), (0, .ref (a 0)), (1, .ref (a2 0))]) hx hb dX1_lowestThatSpiltMoreThanIn_1 rfl hl (by decide) rfl (fun ls hl => ?_)
  have Lp2 : ∀ (n i : Nat) , i + n = 6 → lowL r r2 n i = lowL r r2 6 0 → ∀ (H : Heap) (locs : List Loc), va_P D vwCl ((cR cI a r) ++ (cR cI a2 r2)) H → va_D A ((cR cI a r) ++ (cR cI a2 r2)) → va_S A s.heap H locs → ∀ (ls : Array Slot), lv_has ls 3 [(2, .int (nI i)), (0, .ref (a 0)), (1, .ref (a2 0))] → W p l e ({ frames := 0, cells := 0, slots := 0, locals := 0 } : Room) s m ([.ref (a 0), .ref (a2 0)] : List Value).toArray below meth c H locs 0 0 (MQ below (va_Qi (fun (x : Int32) (_ : Unit) => x = lowL r r2 6 0) (fun _ t => Wd D ((cR cI a r) ++ (cR cI a2 r2)) t) A) ([.ref (a 0), .ref (a2 0)] : List Value).toArray s 0 0 A) (F0 m 2 ls []) := by
    intro n
    induction n with
    | zero =>
      intro i  hin hres H locs hP hD hS ls hl
      refine lv_iload_n hx hb dX1_lowestThatSpiltMoreThanIn_2 rfl (lv_at hl 0 rfl) ?_
      refine lv_bipush (v := 6) hx hb dX1_lowestThatSpiltMoreThanIn_3 (by decide) ?_
      refine lv_icmp_ge (tgt := 31) hx hb dX1_lowestThatSpiltMoreThanIn_5 (by decide) (fun _ => ?_) (fun h9 => absurd (nI_le (a := 6) (b := i) (by omega) (by omega)) h9)
      refine lv_iconst (v := (-1)) hx hb dX1_lowestThatSpiltMoreThanIn_31 (by decide) ?_
      exact k_iret hx hb hr hlocks hS hP dX1_lowestThatSpiltMoreThanIn_32 (by (rw [← hres]; first | rfl | simp only [lowL, ↓reduceIte]))
    | succ n ih =>
      intro i  hin hres H locs hP hD hS ls hl
      refine lv_iload_n hx hb dX1_lowestThatSpiltMoreThanIn_2 rfl (lv_at hl 0 rfl) ?_
      refine lv_bipush (v := 6) hx hb dX1_lowestThatSpiltMoreThanIn_3 (by decide) ?_
      refine lv_icmp_ge (tgt := 31) hx hb dX1_lowestThatSpiltMoreThanIn_5 (by decide) (fun h9 => absurd h9 (nI_ge (a := i) (b := 6) (by omega) (by omega))) (fun _ => ?_)
      refine lv_aload_n hx hb dX1_lowestThatSpiltMoreThanIn_8 rfl (lv_at hl 1 rfl) ?_
      refine va_get (D := D) (ci := 1) (v := .ref (a 10)) (C := RX1) (T := TX1) (N := 16) hx hb hts hinX1 hown hK hP 0 rfl rfl 9 (by decide) fl39 (fun _ h9 => h9) rfl dX1_lowestThatSpiltMoreThanIn_9 ?_
      refine lv_iload_n hx hb dX1_lowestThatSpiltMoreThanIn_12 rfl (lv_at hl 0 rfl) ?_
      refine k_iald (k := i) (v := r 9 i) hx hb hK hP 10 0 rfl rfl (vp_in_nI (n := i) (by omega) (by omega)) (nI_clamp (n := i) (by omega)) (rfl) dX1_lowestThatSpiltMoreThanIn_13 ?_
      refine lv_aload_n hx hb dX1_lowestThatSpiltMoreThanIn_14 rfl (lv_at hl 2 rfl) ?_
      refine va_get (D := D) (ci := 1) (v := .ref (a2 10)) (C := RX1) (T := TX1) (N := 16) hx hb hts hinX1 hown hK hP 13 rfl rfl 9 (by decide) fl39 (fun _ h9 => h9) rfl dX1_lowestThatSpiltMoreThanIn_15 ?_
      refine lv_iload_n hx hb dX1_lowestThatSpiltMoreThanIn_18 rfl (lv_at hl 0 rfl) ?_
      refine k_iald (k := i) (v := r2 9 i) hx hb hK hP 23 0 rfl rfl (vp_in_nI (n := i) (by omega) (by omega)) (nI_clamp (n := i) (by omega)) (rfl) dX1_lowestThatSpiltMoreThanIn_19 ?_
      refine lv_icmp_le (tgt := 25) hx hb dX1_lowestThatSpiltMoreThanIn_20 (by decide) (fun c_1 => ?_) (fun c_1 => ?_)
      · skip
        refine lv_iinc (v := nI (i + 1)) (lv' := [(2, .int (nI (i + 1))), (0, .ref (a 0)), (1, .ref (a2 0))]) hx hb dX1_lowestThatSpiltMoreThanIn_25 hl (k := 0) rfl (nI_1 i) (by decide) rfl (fun ls hl => ?_)
        refine lv_goto (tgt := 2) hx hb dX1_lowestThatSpiltMoreThanIn_28 (by decide) ?_
        exact ih (i + 1)  (by omega) (by rw [← hres]; simp only [lowL, c_1, ↓reduceIte]) H locs hP hD hS ls (lv_sub hl [0, 1, 2] rfl)
      · skip
        refine lv_iload_n hx hb dX1_lowestThatSpiltMoreThanIn_23 rfl (lv_at hl 0 rfl) ?_
        exact k_iret hx hb hr hlocks hS hP dX1_lowestThatSpiltMoreThanIn_24 (by (rw [← hres]; first | rfl | simp only [lowL, c_1, ↓reduceIte]))
  exact Lp2 6 0  (by omega) rfl _ _ hP hD hS ls (lv_sub hl [0, 1, 2] rfl)
end
section
set_option maxHeartbeats 4000000 in
set_option maxRecDepth 100000 in
theorem mX0_mayEnd (l : Launch) (D : va_G) (cI cQ cJ : ClassId) (ch : Int32) : Mi l D (tY cI cQ cJ) yX0_mayEnd wsX0_mayEnd ({ frames := 0, cells := 0, slots := 0, locals := 0 } : Room) [.int ch] (([] : va_W)) (([] : va_W)) (zM ch) := by
  refine M_of (cc := cX0_mayEnd) (maxL := 1) (ret := some .boolean) (Qc := fun A => va_Qi (fun (x : Int32) (_ : Unit) => x = zM ch) (fun _ t => Wd D (([] : va_W)) t) A) (by decide) rfl (Nat.le_of_ble_eq_true rfl) ?_
  intro p e s m below meth c A ls hB hE hP hK hD hA hl
  obtain ⟨hx, hb, hr, hml, hts, hown, hlocks⟩ := hB
  have hS : va_S A s.heap s.heap [] := va_S.rf
  have hl : lv_has ls 1 [(0, .int ch)] := hl
  refine lv_iload_n hx hb dX0_mayEnd_0 rfl (lv_at hl 0 rfl) ?_
  refine lv_iconst (v := 5) hx hb dX0_mayEnd_1 (by decide) ?_
  refine lv_icmp_eq (tgt := 17) hx hb dX0_mayEnd_2 (by decide) (fun c_1 => ?_) (fun c_1 => ?_)
  · skip
    refine lv_iconst (v := 1) hx hb dX0_mayEnd_17 (by decide) ?_
    refine lv_goto (tgt := 22) hx hb dX0_mayEnd_18 (by decide) ?_
    exact k_zret hx hb hr hlocks hS hP dX0_mayEnd_22 (by first | rfl | decide | exact rfl) (by (simp only [zM, if_pos c_1, ↓reduceIte]))
  · skip
    refine lv_iload_n hx hb dX0_mayEnd_5 rfl (lv_at hl 0 rfl) ?_
    refine lv_bipush (v := 6) hx hb dX0_mayEnd_6 (by decide) ?_
    refine lv_icmp_eq (tgt := 17) hx hb dX0_mayEnd_8 (by decide) (fun c_2 => ?_) (fun c_2 => ?_)
    · skip
      refine lv_iconst (v := 1) hx hb dX0_mayEnd_17 (by decide) ?_
      refine lv_goto (tgt := 22) hx hb dX0_mayEnd_18 (by decide) ?_
      exact k_zret hx hb hr hlocks hS hP dX0_mayEnd_22 (by first | rfl | decide | exact rfl) (by (simp only [zM, if_neg c_1, if_pos c_2, ↓reduceIte]))
    · skip
      refine lv_iload_n hx hb dX0_mayEnd_11 rfl (lv_at hl 0 rfl) ?_
      refine lv_bipush (v := 7) hx hb dX0_mayEnd_12 (by decide) ?_
      refine lv_icmp_ne (tgt := 21) hx hb dX0_mayEnd_14 (by decide) (fun c_3 => ?_) (fun c_3 => ?_)
      · skip
        refine lv_iconst (v := 0) hx hb dX0_mayEnd_21 (by decide) ?_
        exact k_zret hx hb hr hlocks hS hP dX0_mayEnd_22 (by first | rfl | decide | exact rfl) (by (simp only [zM, if_neg c_1, if_neg c_2, if_neg c_3, ↓reduceIte]))
      · skip
        refine lv_iconst (v := 1) hx hb dX0_mayEnd_17 (by decide) ?_
        refine lv_goto (tgt := 22) hx hb dX0_mayEnd_18 (by decide) ?_
        exact k_zret hx hb hr hlocks hS hP dX0_mayEnd_22 (by first | rfl | decide | exact rfl) (by (simp only [zM, if_neg c_1, if_neg c_2, if_pos c_3, ↓reduceIte]))
end
section
set_option maxHeartbeats 4000000 in
set_option maxRecDepth 100000 in
theorem mX0_dueAfterStar (l : Launch) (D : va_G) (cI cQ cJ : ClassId) (ch : Int32) : Mi l D (tY cI cQ cJ) yX0_dueAfterStar wsX0_dueAfterStar ({ frames := 0, cells := 0, slots := 0, locals := 0 } : Room) [.int ch] (([] : va_W)) (([] : va_W)) (nI (d2 ch)) := by
  refine M_of (cc := cX0_dueAfterStar) (maxL := 1) (ret := some .int) (Qc := fun A => va_Qi (fun (x : Int32) (_ : Unit) => x = nI (d2 ch)) (fun _ t => Wd D (([] : va_W)) t) A) (by decide) rfl (Nat.le_of_ble_eq_true rfl) ?_
  intro p e s m below meth c A ls hB hE hP hK hD hA hl
  obtain ⟨hx, hb, hr, hml, hts, hown, hlocks⟩ := hB
  have hS : va_S A s.heap s.heap [] := va_S.rf
  have hl : lv_has ls 1 [(0, .int ch)] := hl
  refine lv_iload_n hx hb dX0_dueAfterStar_0 rfl (lv_at hl 0 rfl) ?_
  refine lv_bipush (v := 42) hx hb dX0_dueAfterStar_1 (by decide) ?_
  refine lv_icmp_ne (tgt := 10) hx hb dX0_dueAfterStar_3 (by decide) (fun c_1 => ?_) (fun c_1 => ?_)
  · skip
    refine lv_iconst (v := 0) hx hb dX0_dueAfterStar_10 (by decide) ?_
    exact k_iret hx hb hr hlocks hS hP dX0_dueAfterStar_11 (by (simp only [d2, if_neg c_1, ↓reduceIte] <;> rfl))
  · skip
    refine lv_iconst (v := 4) hx hb dX0_dueAfterStar_6 (by decide) ?_
    refine lv_goto (tgt := 11) hx hb dX0_dueAfterStar_7 (by decide) ?_
    exact k_iret hx hb hr hlocks hS hP dX0_dueAfterStar_11 (by (simp only [d2, if_pos c_1, ↓reduceIte] <;> rfl))
end
section
set_option maxHeartbeats 4000000 in
set_option maxRecDepth 100000 in
theorem mX0_dueAfterFirst (l : Launch) (D : va_G) (cI cQ cJ : ClassId) (ch : Int32) : Mi l D (tY cI cQ cJ) yX0_dueAfterFirst wsX0_dueAfterFirst ({ frames := 1, cells := 0, slots := 0, locals := 22 } : Room) [.int ch] (([] : va_W)) (([] : va_W)) (nI (d1 ch)) := by
  refine M_of (cc := cX0_dueAfterFirst) (maxL := 1) (ret := some .int) (Qc := fun A => va_Qi (fun (x : Int32) (_ : Unit) => x = nI (d1 ch)) (fun _ t => Wd D (([] : va_W)) t) A) (by decide) rfl (Nat.le_of_ble_eq_true rfl) ?_
  intro p e s m below meth c A ls hB hE hP hK hD hA hl
  obtain ⟨hx, hb, hr, hml, hts, hown, hlocks⟩ := hB
  have hS : va_S A s.heap s.heap [] := va_S.rf
  have hl : lv_has ls 1 [(0, .int ch)] := hl
  refine lv_iload_n hx hb dX0_dueAfterFirst_0 rfl (lv_at hl 0 rfl) ?_
  refine lv_bipush (v := 119) hx hb dX0_dueAfterFirst_1 (by decide) ?_
  refine lv_icmp_ne (tgt := 9) hx hb dX0_dueAfterFirst_3 (by decide) (fun c_1 => ?_) (fun c_1 => ?_)
  · skip
    refine lv_iload_n hx hb dX0_dueAfterFirst_9 rfl (lv_at hl 0 rfl) ?_
    refine lv_bipush (v := 99) hx hb dX0_dueAfterFirst_10 (by decide) ?_
    refine lv_icmp_ne (tgt := 18) hx hb dX0_dueAfterFirst_12 (by decide) (fun c_2 => ?_) (fun c_2 => ?_)
    · skip
      refine lv_iload_n hx hb dX0_dueAfterFirst_18 rfl (lv_at hl 0 rfl) ?_
      refine lv_bipush (v := 48) hx hb dX0_dueAfterFirst_19 (by decide) ?_
      refine lv_icmp_ne (tgt := 26) hx hb dX0_dueAfterFirst_21 (by decide) (fun c_3 => ?_) (fun c_3 => ?_)
      · skip
        refine lv_iload_n hx hb dX0_dueAfterFirst_26 rfl (lv_at hl 0 rfl) ?_
        refine lv_bipush (v := 49) hx hb dX0_dueAfterFirst_27 (by decide) ?_
        refine lv_bipush (v := 57) hx hb dX0_dueAfterFirst_29 (by decide) ?_
        refine k_calli (wc := ([] : va_W)) (w' := ([] : va_W)) (wn := ([] : va_W)) (va_runSN (As := [.int ch, .int 49, .int 57]) (rest := []) ⟨hx, hb, hml, hown, hts⟩ (mX3_isWithin l D cI cQ cJ ch 49 57 _) ⟨va_cnB 3 hts gX0_dueAfterFirst_X3_isWithin_n29 rfl rfl rfl hE.2.1 (hts (.initialized RX3) (by decide +kernel)) (by decide +kernel) ⟨Nat.le_of_ble_eq_true rfl, Nat.le_of_ble_eq_true rfl⟩, hts (.static yX3_isWithin) (by decide +kernel), trivial⟩ (k_preS (wc := ([] : va_W)) hE hK hP hD [] (by decide) rfl [.int ch, .int 49, .int 57]) rfl rfl hl.1 rfl (lv_room (Nat.le_of_ble_eq_true rfl)) dX0_dueAfterFirst_31 ⟨Nat.zero_le _, Nat.zero_le _⟩) hP hD hS hA [] rfl rfl rfl (fun H locs hP hD hS => ?_)
        refine lv_if_eq (tgt := 41) hx hb dX0_dueAfterFirst_34 (by decide) (fun c_4 => ?_) (fun c_4 => ?_)
        · skip
          refine lv_iconst (v := 0) hx hb dX0_dueAfterFirst_41 (by decide) ?_
          exact k_iret hx hb hr hlocks hS hP dX0_dueAfterFirst_42 (by (simp only [d1, if_neg c_1, if_neg c_2, if_neg c_3, if_pos c_4, ↓reduceIte] <;> rfl))
        · skip
          refine lv_iconst (v := 2) hx hb dX0_dueAfterFirst_37 (by decide) ?_
          refine lv_goto (tgt := 42) hx hb dX0_dueAfterFirst_38 (by decide) ?_
          exact k_iret hx hb hr hlocks hS hP dX0_dueAfterFirst_42 (by (simp only [d1, if_neg c_1, if_neg c_2, if_neg c_3, if_neg c_4, ↓reduceIte] <;> rfl))
      · skip
        refine lv_iconst (v := 3) hx hb dX0_dueAfterFirst_24 (by decide) ?_
        exact k_iret hx hb hr hlocks hS hP dX0_dueAfterFirst_25 (by (simp only [d1, if_neg c_1, if_neg c_2, if_pos c_3, ↓reduceIte] <;> rfl))
    · skip
      refine lv_bipush (v := 8) hx hb dX0_dueAfterFirst_15 (by decide) ?_
      exact k_iret hx hb hr hlocks hS hP dX0_dueAfterFirst_17 (by (simp only [d1, if_neg c_1, if_pos c_2, ↓reduceIte] <;> rfl))
  · skip
    refine lv_bipush (v := 7) hx hb dX0_dueAfterFirst_6 (by decide) ?_
    exact k_iret hx hb hr hlocks hS hP dX0_dueAfterFirst_8 (by (simp only [d1, if_pos c_1, ↓reduceIte] <;> rfl))
end
section
set_option maxHeartbeats 4000000 in
set_option maxRecDepth 100000 in
theorem mX0_dueAfterMinutesDigit (l : Launch) (D : va_G) (cI cQ cJ : ClassId) (ch : Int32) : Mi l D (tY cI cQ cJ) yX0_dueAfterMinutesDigit wsX0_dueAfterMinutesDigit ({ frames := 1, cells := 0, slots := 0, locals := 22 } : Room) [.int ch] (([] : va_W)) (([] : va_W)) (nI (d3 ch)) := by
  refine M_of (cc := cX0_dueAfterMinutesDigit) (maxL := 1) (ret := some .int) (Qc := fun A => va_Qi (fun (x : Int32) (_ : Unit) => x = nI (d3 ch)) (fun _ t => Wd D (([] : va_W)) t) A) (by decide) rfl (Nat.le_of_ble_eq_true rfl) ?_
  intro p e s m below meth c A ls hB hE hP hK hD hA hl
  obtain ⟨hx, hb, hr, hml, hts, hown, hlocks⟩ := hB
  have hS : va_S A s.heap s.heap [] := va_S.rf
  have hl : lv_has ls 1 [(0, .int ch)] := hl
  refine lv_iload_n hx hb dX0_dueAfterMinutesDigit_0 rfl (lv_at hl 0 rfl) ?_
  refine lv_bipush (v := 49) hx hb dX0_dueAfterMinutesDigit_1 (by decide) ?_
  refine lv_bipush (v := 53) hx hb dX0_dueAfterMinutesDigit_3 (by decide) ?_
  refine k_calli (wc := ([] : va_W)) (w' := ([] : va_W)) (wn := ([] : va_W)) (va_runSN (As := [.int ch, .int 49, .int 53]) (rest := []) ⟨hx, hb, hml, hown, hts⟩ (mX3_isWithin l D cI cQ cJ ch 49 53 _) ⟨va_cnB 3 hts gX0_dueAfterMinutesDigit_X3_isWithin_n29 rfl rfl rfl hE.2.1 (hts (.initialized RX3) (by decide +kernel)) (by decide +kernel) ⟨Nat.le_of_ble_eq_true rfl, Nat.le_of_ble_eq_true rfl⟩, hts (.static yX3_isWithin) (by decide +kernel), trivial⟩ (k_preS (wc := ([] : va_W)) hE hK hP hD [] (by decide) rfl [.int ch, .int 49, .int 53]) rfl rfl hl.1 rfl (lv_room (Nat.le_of_ble_eq_true rfl)) dX0_dueAfterMinutesDigit_5 ⟨Nat.zero_le _, Nat.zero_le _⟩) hP hD hS hA [] rfl rfl rfl (fun H locs hP hD hS => ?_)
  refine lv_if_eq (tgt := 13) hx hb dX0_dueAfterMinutesDigit_8 (by decide) (fun c_1 => ?_) (fun c_1 => ?_)
  · skip
    refine lv_iload_n hx hb dX0_dueAfterMinutesDigit_13 rfl (lv_at hl 0 rfl) ?_
    refine lv_bipush (v := 54) hx hb dX0_dueAfterMinutesDigit_14 (by decide) ?_
    refine lv_icmp_ne (tgt := 22) hx hb dX0_dueAfterMinutesDigit_16 (by decide) (fun c_2 => ?_) (fun c_2 => ?_)
    · skip
      refine lv_iload_n hx hb dX0_dueAfterMinutesDigit_22 rfl (lv_at hl 0 rfl) ?_
      refine lv_bipush (v := 55) hx hb dX0_dueAfterMinutesDigit_23 (by decide) ?_
      refine lv_bipush (v := 57) hx hb dX0_dueAfterMinutesDigit_25 (by decide) ?_
      refine k_calli (wc := ([] : va_W)) (w' := ([] : va_W)) (wn := ([] : va_W)) (va_runSN (As := [.int ch, .int 55, .int 57]) (rest := []) ⟨hx, hb, hml, hown, hts⟩ (mX3_isWithin l D cI cQ cJ ch 55 57 _) ⟨va_cnB 3 hts gX0_dueAfterMinutesDigit_X3_isWithin_n29 rfl rfl rfl hE.2.1 (hts (.initialized RX3) (by decide +kernel)) (by decide +kernel) ⟨Nat.le_of_ble_eq_true rfl, Nat.le_of_ble_eq_true rfl⟩, hts (.static yX3_isWithin) (by decide +kernel), trivial⟩ (k_preS (wc := ([] : va_W)) hE hK hP hD [] (by decide) rfl [.int ch, .int 55, .int 57]) rfl rfl hl.1 rfl (lv_room (Nat.le_of_ble_eq_true rfl)) dX0_dueAfterMinutesDigit_27 ⟨Nat.zero_le _, Nat.zero_le _⟩) hP hD hS hA [] rfl rfl rfl (fun H locs hP hD hS => ?_)
      refine lv_if_eq (tgt := 38) hx hb dX0_dueAfterMinutesDigit_30 (by decide) (fun c_3 => ?_) (fun c_3 => ?_)
      · skip
        refine lv_iconst (v := 0) hx hb dX0_dueAfterMinutesDigit_38 (by decide) ?_
        exact k_iret hx hb hr hlocks hS hP dX0_dueAfterMinutesDigit_39 (by (simp only [d3, if_pos c_1, if_neg c_2, if_pos c_3, ↓reduceIte] <;> rfl))
      · skip
        refine lv_bipush (v := 7) hx hb dX0_dueAfterMinutesDigit_33 (by decide) ?_
        refine lv_goto (tgt := 39) hx hb dX0_dueAfterMinutesDigit_35 (by decide) ?_
        exact k_iret hx hb hr hlocks hS hP dX0_dueAfterMinutesDigit_39 (by (simp only [d3, if_pos c_1, if_neg c_2, if_neg c_3, ↓reduceIte] <;> rfl))
    · skip
      refine lv_bipush (v := 6) hx hb dX0_dueAfterMinutesDigit_19 (by decide) ?_
      exact k_iret hx hb hr hlocks hS hP dX0_dueAfterMinutesDigit_21 (by (simp only [d3, if_pos c_1, if_pos c_2, ↓reduceIte] <;> rfl))
  · skip
    refine lv_iconst (v := 5) hx hb dX0_dueAfterMinutesDigit_11 (by decide) ?_
    exact k_iret hx hb hr hlocks hS hP dX0_dueAfterMinutesDigit_12 (by (simp only [d3, if_neg c_1, ↓reduceIte] <;> rfl))
end
section
set_option maxHeartbeats 4000000 in
set_option maxRecDepth 100000 in
theorem mX0_dueAfter (l : Launch) (D : va_G) (cI cQ cJ : ClassId) (d : Nat) (hd : d ≤ 8) (ch : Int32) : Mi l D (tY cI cQ cJ) yX0_dueAfter wsX0_dueAfter ({ frames := 2, cells := 0, slots := 0, locals := 42 } : Room) [.int (nI d), .int ch] (([] : va_W)) (([] : va_W)) (nI (dA d ch)) := by
  refine M_of (cc := cX0_dueAfter) (maxL := 2) (ret := some .int) (Qc := fun A => va_Qi (fun (x : Int32) (_ : Unit) => x = nI (dA d ch)) (fun _ t => Wd D (([] : va_W)) t) A) (by decide) rfl (Nat.le_of_ble_eq_true rfl) ?_
  intro p e s m below meth c A ls hB hE hP hK hD hA hl
  obtain ⟨hx, hb, hr, hml, hts, hown, hlocks⟩ := hB
  have hS : va_S A s.heap s.heap [] := va_S.rf
  have hl : lv_has ls 2 [(0, .int (nI d)), (1, .int ch)] := hl
  refine lv_iload_n hx hb dX0_dueAfter_0 rfl (lv_at hl 1 rfl) ?_
  refine lv_bipush (v := 59) hx hb dX0_dueAfter_1 (by decide) ?_
  refine lv_icmp_ne (tgt := 19) hx hb dX0_dueAfter_3 (by decide) (fun c_1 => ?_) (fun c_1 => ?_)
  · skip
    refine lv_iload_n hx hb dX0_dueAfter_19 rfl (lv_at hl 0 rfl) ?_
    have hsw : d = 0 ∨ d = 1 ∨ d = 2 ∨ d = 3 ∨ d = 4 ∨ d = 5 ∨ d = 6 ∨ d = 7 ∨ d = 8 := by omega
    rcases hsw with rfl | rfl | rfl | rfl | rfl | rfl | rfl | rfl | rfl
    · skip
      refine lv_tableOut (tgt := 152) hx hb dX0_dueAfter_20 (by decide +kernel) (by decide) ?_
      refine lv_iconst (v := 0) hx hb dX0_dueAfter_152 (by decide) ?_
      exact k_iret hx hb hr hlocks hS hP dX0_dueAfter_153 (by (simp only [dA, if_neg c_1, ↓reduceIte] <;> rfl))
    · skip
      refine lv_tableIn (off := 48) (tgt := 68) hx hb dX0_dueAfter_20 (by decide +kernel) (by decide +kernel) (by decide +kernel) (by decide) ?_
      refine lv_iload_n hx hb dX0_dueAfter_68 rfl (lv_at hl 1 rfl) ?_
      refine k_calli (wc := ([] : va_W)) (w' := ([] : va_W)) (wn := ([] : va_W)) (va_runS (As := [.int ch]) (rest := []) ⟨hx, hb, hml, hown, hts⟩ (mX0_dueAfterFirst l D cI cQ cJ ch _) (va_cwS 1 hts gX0_dueAfter_X0_dueAfterFirst rfl rfl rfl (by decide +kernel) ⟨Nat.le_of_ble_eq_true rfl, Nat.le_of_ble_eq_true rfl⟩) (k_preS (wc := ([] : va_W)) hE hK hP hD [] (by decide) rfl [.int ch]) rfl rfl hl.1 rfl (lv_room (Nat.le_of_ble_eq_true rfl)) dX0_dueAfter_69 ⟨Nat.zero_le _, Nat.zero_le _⟩) hP hD hS hA [] rfl rfl rfl (fun H locs hP hD hS => ?_)
      exact k_iret hx hb hr hlocks hS hP dX0_dueAfter_72 (by (simp only [dA, if_neg c_1, ↓reduceIte] <;> rfl))
    · skip
      refine lv_tableIn (off := 53) (tgt := 73) hx hb dX0_dueAfter_20 (by decide +kernel) (by decide +kernel) (by decide +kernel) (by decide) ?_
      refine lv_iload_n hx hb dX0_dueAfter_73 rfl (lv_at hl 1 rfl) ?_
      refine lv_bipush (v := 48) hx hb dX0_dueAfter_74 (by decide) ?_
      refine lv_bipush (v := 57) hx hb dX0_dueAfter_76 (by decide) ?_
      refine k_calli (wc := ([] : va_W)) (w' := ([] : va_W)) (wn := ([] : va_W)) (va_runSN (As := [.int ch, .int 48, .int 57]) (rest := []) ⟨hx, hb, hml, hown, hts⟩ (mX3_isWithin l D cI cQ cJ ch 48 57 _) ⟨va_cnB 3 hts gX0_dueAfter_X3_isWithin_n29 rfl rfl rfl hE.2.1 (hts (.initialized RX3) (by decide +kernel)) (by decide +kernel) ⟨Nat.le_of_ble_eq_true rfl, Nat.le_of_ble_eq_true rfl⟩, hts (.static yX3_isWithin) (by decide +kernel), trivial⟩ (k_preS (wc := ([] : va_W)) hE hK hP hD [] (by decide) rfl [.int ch, .int 48, .int 57]) rfl rfl hl.1 rfl (lv_room (Nat.le_of_ble_eq_true rfl)) dX0_dueAfter_78 ⟨Nat.zero_le _, Nat.zero_le _⟩) hP hD hS hA [] rfl rfl rfl (fun H locs hP hD hS => ?_)
      refine lv_if_eq (tgt := 88) hx hb dX0_dueAfter_81 (by decide) (fun c_2 => ?_) (fun c_2 => ?_)
      · skip
        refine lv_iload_n hx hb dX0_dueAfter_88 rfl (lv_at hl 1 rfl) ?_
        refine k_calli (wc := ([] : va_W)) (w' := ([] : va_W)) (wn := ([] : va_W)) (va_runS (As := [.int ch]) (rest := []) ⟨hx, hb, hml, hown, hts⟩ (mX0_dueAfterStar l D cI cQ cJ ch _) (va_cwS 1 hts gX0_dueAfter_X0_dueAfterStar rfl rfl rfl (by decide +kernel) ⟨Nat.le_of_ble_eq_true rfl, Nat.le_of_ble_eq_true rfl⟩) (k_preS (wc := ([] : va_W)) hE hK hP hD [] (by decide) rfl [.int ch]) rfl rfl hl.1 rfl (lv_room (Nat.le_of_ble_eq_true rfl)) dX0_dueAfter_89 ⟨Nat.zero_le _, Nat.zero_le _⟩) hP hD hS hA [] rfl rfl rfl (fun H locs hP hD hS => ?_)
        exact k_iret hx hb hr hlocks hS hP dX0_dueAfter_92 (by (simp only [dA, if_neg c_1, if_pos c_2, ↓reduceIte] <;> rfl))
      · skip
        refine lv_iconst (v := 3) hx hb dX0_dueAfter_84 (by decide) ?_
        refine lv_goto (tgt := 92) hx hb dX0_dueAfter_85 (by decide) ?_
        exact k_iret hx hb hr hlocks hS hP dX0_dueAfter_92 (by (simp only [dA, if_neg c_1, if_neg c_2, ↓reduceIte] <;> rfl))
    · skip
      refine lv_tableIn (off := 73) (tgt := 93) hx hb dX0_dueAfter_20 (by decide +kernel) (by decide +kernel) (by decide +kernel) (by decide) ?_
      refine lv_iload_n hx hb dX0_dueAfter_93 rfl (lv_at hl 1 rfl) ?_
      refine k_calli (wc := ([] : va_W)) (w' := ([] : va_W)) (wn := ([] : va_W)) (va_runS (As := [.int ch]) (rest := []) ⟨hx, hb, hml, hown, hts⟩ (mX0_dueAfterStar l D cI cQ cJ ch _) (va_cwS 1 hts gX0_dueAfter_X0_dueAfterStar rfl rfl rfl (by decide +kernel) ⟨Nat.le_of_ble_eq_true rfl, Nat.le_of_ble_eq_true rfl⟩) (k_preS (wc := ([] : va_W)) hE hK hP hD [] (by decide) rfl [.int ch]) rfl rfl hl.1 rfl (lv_room (Nat.le_of_ble_eq_true rfl)) dX0_dueAfter_94 ⟨Nat.zero_le _, Nat.zero_le _⟩) hP hD hS hA [] rfl rfl rfl (fun H locs hP hD hS => ?_)
      exact k_iret hx hb hr hlocks hS hP dX0_dueAfter_97 (by (simp only [dA, if_neg c_1, ↓reduceIte] <;> rfl))
    · skip
      refine lv_tableIn (off := 78) (tgt := 98) hx hb dX0_dueAfter_20 (by decide +kernel) (by decide +kernel) (by decide +kernel) (by decide) ?_
      refine lv_iload_n hx hb dX0_dueAfter_98 rfl (lv_at hl 1 rfl) ?_
      refine k_calli (wc := ([] : va_W)) (w' := ([] : va_W)) (wn := ([] : va_W)) (va_runS (As := [.int ch]) (rest := []) ⟨hx, hb, hml, hown, hts⟩ (mX0_dueAfterMinutesDigit l D cI cQ cJ ch _) (va_cwS 1 hts gX0_dueAfter_X0_dueAfterMinutesDigit rfl rfl rfl (by decide +kernel) ⟨Nat.le_of_ble_eq_true rfl, Nat.le_of_ble_eq_true rfl⟩) (k_preS (wc := ([] : va_W)) hE hK hP hD [] (by decide) rfl [.int ch]) rfl rfl hl.1 rfl (lv_room (Nat.le_of_ble_eq_true rfl)) dX0_dueAfter_99 ⟨Nat.zero_le _, Nat.zero_le _⟩) hP hD hS hA [] rfl rfl rfl (fun H locs hP hD hS => ?_)
      exact k_iret hx hb hr hlocks hS hP dX0_dueAfter_102 (by (simp only [dA, if_neg c_1, ↓reduceIte] <;> rfl))
    · skip
      refine lv_tableIn (off := 83) (tgt := 103) hx hb dX0_dueAfter_20 (by decide +kernel) (by decide +kernel) (by decide +kernel) (by decide) ?_
      refine lv_iload_n hx hb dX0_dueAfter_103 rfl (lv_at hl 1 rfl) ?_
      refine lv_bipush (v := 48) hx hb dX0_dueAfter_104 (by decide) ?_
      refine lv_bipush (v := 57) hx hb dX0_dueAfter_106 (by decide) ?_
      refine k_calli (wc := ([] : va_W)) (w' := ([] : va_W)) (wn := ([] : va_W)) (va_runSN (As := [.int ch, .int 48, .int 57]) (rest := []) ⟨hx, hb, hml, hown, hts⟩ (mX3_isWithin l D cI cQ cJ ch 48 57 _) ⟨va_cnB 3 hts gX0_dueAfter_X3_isWithin_n29 rfl rfl rfl hE.2.1 (hts (.initialized RX3) (by decide +kernel)) (by decide +kernel) ⟨Nat.le_of_ble_eq_true rfl, Nat.le_of_ble_eq_true rfl⟩, hts (.static yX3_isWithin) (by decide +kernel), trivial⟩ (k_preS (wc := ([] : va_W)) hE hK hP hD [] (by decide) rfl [.int ch, .int 48, .int 57]) rfl rfl hl.1 rfl (lv_room (Nat.le_of_ble_eq_true rfl)) dX0_dueAfter_108 ⟨Nat.zero_le _, Nat.zero_le _⟩) hP hD hS hA [] rfl rfl rfl (fun H locs hP hD hS => ?_)
      refine lv_if_eq (tgt := 119) hx hb dX0_dueAfter_111 (by decide) (fun c_3 => ?_) (fun c_3 => ?_)
      · skip
        refine lv_iconst (v := 0) hx hb dX0_dueAfter_119 (by decide) ?_
        exact k_iret hx hb hr hlocks hS hP dX0_dueAfter_120 (by (simp only [dA, if_neg c_1, if_pos c_3, ↓reduceIte] <;> rfl))
      · skip
        refine lv_bipush (v := 7) hx hb dX0_dueAfter_114 (by decide) ?_
        refine lv_goto (tgt := 120) hx hb dX0_dueAfter_116 (by decide) ?_
        exact k_iret hx hb hr hlocks hS hP dX0_dueAfter_120 (by (simp only [dA, if_neg c_1, if_neg c_3, ↓reduceIte] <;> rfl))
    · skip
      refine lv_tableIn (off := 101) (tgt := 121) hx hb dX0_dueAfter_20 (by decide +kernel) (by decide +kernel) (by decide +kernel) (by decide) ?_
      refine lv_iload_n hx hb dX0_dueAfter_121 rfl (lv_at hl 1 rfl) ?_
      refine lv_bipush (v := 48) hx hb dX0_dueAfter_122 (by decide) ?_
      refine lv_icmp_ne (tgt := 132) hx hb dX0_dueAfter_124 (by decide) (fun c_4 => ?_) (fun c_4 => ?_)
      · skip
        refine lv_iconst (v := 0) hx hb dX0_dueAfter_132 (by decide) ?_
        exact k_iret hx hb hr hlocks hS hP dX0_dueAfter_133 (by (simp only [dA, if_neg c_1, if_neg c_4, ↓reduceIte] <;> rfl))
      · skip
        refine lv_bipush (v := 7) hx hb dX0_dueAfter_127 (by decide) ?_
        refine lv_goto (tgt := 133) hx hb dX0_dueAfter_129 (by decide) ?_
        exact k_iret hx hb hr hlocks hS hP dX0_dueAfter_133 (by (simp only [dA, if_neg c_1, if_pos c_4, ↓reduceIte] <;> rfl))
    · skip
      refine lv_tableIn (off := 132) (tgt := 152) hx hb dX0_dueAfter_20 (by decide +kernel) (by decide +kernel) (by decide +kernel) (by decide) ?_
      refine lv_iconst (v := 0) hx hb dX0_dueAfter_152 (by decide) ?_
      exact k_iret hx hb hr hlocks hS hP dX0_dueAfter_153 (by (simp only [dA, if_neg c_1, ↓reduceIte] <;> rfl))
    · skip
      refine lv_tableIn (off := 114) (tgt := 134) hx hb dX0_dueAfter_20 (by decide +kernel) (by decide +kernel) (by decide +kernel) (by decide) ?_
      refine lv_iload_n hx hb dX0_dueAfter_134 rfl (lv_at hl 1 rfl) ?_
      refine lv_bipush (v := 48) hx hb dX0_dueAfter_135 (by decide) ?_
      refine lv_bipush (v := 53) hx hb dX0_dueAfter_137 (by decide) ?_
      refine k_calli (wc := ([] : va_W)) (w' := ([] : va_W)) (wn := ([] : va_W)) (va_runSN (As := [.int ch, .int 48, .int 53]) (rest := []) ⟨hx, hb, hml, hown, hts⟩ (mX3_isWithin l D cI cQ cJ ch 48 53 _) ⟨va_cnB 3 hts gX0_dueAfter_X3_isWithin_n29 rfl rfl rfl hE.2.1 (hts (.initialized RX3) (by decide +kernel)) (by decide +kernel) ⟨Nat.le_of_ble_eq_true rfl, Nat.le_of_ble_eq_true rfl⟩, hts (.static yX3_isWithin) (by decide +kernel), trivial⟩ (k_preS (wc := ([] : va_W)) hE hK hP hD [] (by decide) rfl [.int ch, .int 48, .int 53]) rfl rfl hl.1 rfl (lv_room (Nat.le_of_ble_eq_true rfl)) dX0_dueAfter_139 ⟨Nat.zero_le _, Nat.zero_le _⟩) hP hD hS hA [] rfl rfl rfl (fun H locs hP hD hS => ?_)
      refine lv_if_eq (tgt := 150) hx hb dX0_dueAfter_142 (by decide) (fun c_5 => ?_) (fun c_5 => ?_)
      · skip
        refine lv_iconst (v := 0) hx hb dX0_dueAfter_150 (by decide) ?_
        exact k_iret hx hb hr hlocks hS hP dX0_dueAfter_151 (by (simp only [dA, if_neg c_1, if_pos c_5, ↓reduceIte] <;> rfl))
      · skip
        refine lv_bipush (v := 7) hx hb dX0_dueAfter_145 (by decide) ?_
        refine lv_goto (tgt := 151) hx hb dX0_dueAfter_147 (by decide) ?_
        exact k_iret hx hb hr hlocks hS hP dX0_dueAfter_151 (by (simp only [dA, if_neg c_1, if_neg c_5, ↓reduceIte] <;> rfl))
  · skip
    refine lv_iload_n hx hb dX0_dueAfter_6 rfl (lv_at hl 0 rfl) ?_
    refine k_calli (wc := ([] : va_W)) (w' := ([] : va_W)) (wn := ([] : va_W)) (va_runS (As := [.int (nI d)]) (rest := []) ⟨hx, hb, hml, hown, hts⟩ (mX0_mayEnd l D cI cQ cJ (nI d) _) (va_cwS 1 hts gX0_dueAfter_X0_mayEnd rfl rfl rfl (by decide +kernel) ⟨Nat.le_of_ble_eq_true rfl, Nat.le_of_ble_eq_true rfl⟩) (k_preS (wc := ([] : va_W)) hE hK hP hD [] (by decide) rfl [.int (nI d)]) rfl rfl hl.1 rfl (lv_room (Nat.le_of_ble_eq_true rfl)) dX0_dueAfter_7 ⟨Nat.zero_le _, Nat.zero_le _⟩) hP hD hS hA [] rfl rfl rfl (fun H locs hP hD hS => ?_)
    refine lv_if_eq (tgt := 17) hx hb dX0_dueAfter_10 (by decide) (fun c_6 => ?_) (fun c_6 => ?_)
    · skip
      refine lv_iconst (v := 0) hx hb dX0_dueAfter_17 (by decide) ?_
      exact k_iret hx hb hr hlocks hS hP dX0_dueAfter_18 (by (simp only [dA, if_pos c_1, if_pos c_6, ↓reduceIte] <;> rfl))
    · skip
      refine lv_iconst (v := 1) hx hb dX0_dueAfter_13 (by decide) ?_
      refine lv_goto (tgt := 18) hx hb dX0_dueAfter_14 (by decide) ?_
      exact k_iret hx hb hr hlocks hS hP dX0_dueAfter_18 (by (simp only [dA, if_pos c_1, if_neg c_6, ↓reduceIte] <;> rfl))
end
section
set_option maxHeartbeats 4000000 in
set_option maxRecDepth 100000 in
theorem mX0_length (l : Launch) (D : va_G) (cI cQ cJ : ClassId) (a : Nat → Nat) (r : rB)  : Mi l D (tY cI cQ cJ) yX0_length wsX0_length ({ frames := 0, cells := 0, slots := 0, locals := 0 } : Room) [.ref (a 0)] (cT cI a r) (cT cI a r) (r 1 0) := by
  refine M_of (cc := cX0_length) (maxL := 1) (ret := some .int) (Qc := fun A => va_Qi (fun (x : Int32) (_ : Unit) => x = r 1 0) (fun _ t => Wd D (cT cI a r) t) A) (by decide) rfl (Nat.le_of_ble_eq_true rfl) ?_
  intro p e s m below meth c A ls hB hE hP hK hD hA hl
  obtain ⟨hx, hb, hr, hml, hts, hown, hlocks⟩ := hB
  have hS : va_S A s.heap s.heap [] := va_S.rf
  have hl : lv_has ls 1 [(0, .ref (a 0))] := hl
  have hinX0 : ∀ w ∈ u_ws RX0 TX0 2, w ∈ wsX0_length := by decide +kernel
  have fl13 := hts (.fieldLink RX0 13 "RoofDrains$RainText" "length" "I") (by decide +kernel)
  refine lv_aload_n hx hb dX0_length_0 rfl (lv_at hl 0 rfl) ?_
  refine va_get (D := D) (ci := 0) (v := .int (r 1 0)) (C := RX0) (T := TX0) (N := 2) hx hb hts hinX0 hown hK hP 0 rfl rfl 1 (by decide) fl13 (fun _ h9 => h9) (congrArg (fun z => some (Value.int z)) (rfl)) dX0_length_1 ?_
  exact k_iret hx hb hr hlocks hS hP dX0_length_4 (by (simp only [↓reduceIte]))
end
section
set_option maxHeartbeats 4000000 in
set_option maxRecDepth 100000 in
theorem mX0_isFull (l : Launch) (D : va_G) (cI cQ cJ : ClassId) (a : Nat → Nat) (r : rB)  : Mi l D (tY cI cQ cJ) yX0_isFull wsX0_isFull ({ frames := 0, cells := 0, slots := 0, locals := 0 } : Room) [.ref (a 0)] (cT cI a r) (cT cI a r) (fullC r) := by
  refine M_of (cc := cX0_isFull) (maxL := 1) (ret := some .boolean) (Qc := fun A => va_Qi (fun (x : Int32) (_ : Unit) => x = fullC r) (fun _ t => Wd D (cT cI a r) t) A) (by decide) rfl (Nat.le_of_ble_eq_true rfl) ?_
  intro p e s m below meth c A ls hB hE hP hK hD hA hl
  obtain ⟨hx, hb, hr, hml, hts, hown, hlocks⟩ := hB
  have hS : va_S A s.heap s.heap [] := va_S.rf
  have hl : lv_has ls 1 [(0, .ref (a 0))] := hl
  have hinX0 : ∀ w ∈ u_ws RX0 TX0 2, w ∈ wsX0_isFull := by decide +kernel
  have fl13 := hts (.fieldLink RX0 13 "RoofDrains$RainText" "length" "I") (by decide +kernel)
  refine lv_aload_n hx hb dX0_isFull_0 rfl (lv_at hl 0 rfl) ?_
  refine va_get (D := D) (ci := 0) (v := .int (r 1 0)) (C := RX0) (T := TX0) (N := 2) hx hb hts hinX0 hown hK hP 0 rfl rfl 1 (by decide) fl13 (fun _ h9 => h9) (congrArg (fun z => some (Value.int z)) (rfl)) dX0_isFull_1 ?_
  refine lv_bipush (v := 60) hx hb dX0_isFull_4 (by decide) ?_
  refine lv_icmp_lt (tgt := 13) hx hb dX0_isFull_6 (by decide) (fun c_1 => ?_) (fun c_1 => ?_)
  · skip
    refine lv_iconst (v := 0) hx hb dX0_isFull_13 (by decide) ?_
    exact k_zret hx hb hr hlocks hS hP dX0_isFull_14 (by first | rfl | decide | exact rfl) (by (simp only [fullC, if_pos c_1, ↓reduceIte]))
  · skip
    refine lv_iconst (v := 1) hx hb dX0_isFull_9 (by decide) ?_
    refine lv_goto (tgt := 14) hx hb dX0_isFull_10 (by decide) ?_
    exact k_zret hx hb hr hlocks hS hP dX0_isFull_14 (by first | rfl | decide | exact rfl) (by (simp only [fullC, if_neg c_1, ↓reduceIte]))
end
section
set_option maxHeartbeats 4000000 in
set_option maxRecDepth 100000 in
theorem mX0_add (l : Launch) (D : va_G) (cI cQ cJ : ClassId) (a : Nat → Nat) (r : rB) (L : Nat) (hL : r 1 0 = nI L) (hb60 : L < 60) (x : Int32) : Mv l D (tY cI cQ cJ) yX0_add wsX0_add ({ frames := 0, cells := 0, slots := 0, locals := 0 } : Room) [.ref (a 0), .int x] (cT cI a r) (cT cI a (bp (bp r 0 L x) 1 0 (nI (L + 1)))) := by
  refine M_of (cc := cX0_add) (maxL := 2) (ret := none) (Qc := fun A => va_Qv (fun (_ : Unit) => True) (fun _ t => Wd D (cT cI a (bp (bp r 0 L x) 1 0 (nI (L + 1)))) t) A) (by decide) rfl (Nat.le_of_ble_eq_true rfl) ?_
  intro p e s m below meth c A ls hB hE hP hK hD hA hl
  obtain ⟨hx, hb, hr, hml, hts, hown, hlocks⟩ := hB
  have hS : va_S A s.heap s.heap [] := va_S.rf
  have hl : lv_has ls 2 [(0, .ref (a 0)), (1, .int x)] := hl
  have hinX0 : ∀ w ∈ u_ws RX0 TX0 2, w ∈ wsX0_add := by decide +kernel
  have fl9 := hts (.fieldLink RX0 9 "RoofDrains$RainText" "codes" "[I") (by decide +kernel)
  have fl13 := hts (.fieldLink RX0 13 "RoofDrains$RainText" "length" "I") (by decide +kernel)
  refine lv_aload_n hx hb dX0_add_0 rfl (lv_at hl 0 rfl) ?_
  refine va_get (D := D) (ci := 0) (v := .ref (a 1)) (C := RX0) (T := TX0) (N := 2) hx hb hts hinX0 hown hK hP 0 rfl rfl 0 (by decide) fl9 (fun _ h9 => h9) rfl dX0_add_1 ?_
  refine lv_aload_n hx hb dX0_add_4 rfl (lv_at hl 0 rfl) ?_
  refine va_get (D := D) (ci := 0) (v := .int (nI L)) (C := RX0) (T := TX0) (N := 2) hx hb hts hinX0 hown hK hP 0 rfl rfl 1 (by decide) fl13 (fun _ h9 => h9) (by first | rfl | simp [bp, upd, *]) dX0_add_5 ?_
  refine lv_iload_n hx hb dX0_add_8 rfl (lv_at hl 1 rfl) ?_
  refine k_iast (k := L) (ws' := cT cI a (bp r 0 L x)) hx hb hK hP hD hS 1 0 rfl rfl (vp_in_nI (n := L) (by omega) (by omega)) (nI_clamp (n := L) (by omega)) rfl dX0_add_9 (fun H locs hP hD hS => ?_)
  refine lv_aload_n hx hb dX0_add_10 rfl (lv_at hl 0 rfl) ?_
  refine lv_dup hx hb dX0_add_11 rfl ?_
  refine va_get (D := D) (ci := 0) (v := .int (nI L)) (C := RX0) (T := TX0) (N := 2) hx hb hts hinX0 hown hK hP 0 rfl rfl 1 (by decide) fl13 (fun _ h9 => h9) (by first | rfl | simp [bp, upd, *]) dX0_add_12 ?_
  refine lv_iconst (v := 1) hx hb dX0_add_15 (by decide) ?_
  refine lv_iadd hx hb dX0_add_16 ?_
  refine lv_eqi (y := nI (L + 1)) (nI_add L 1) ?_
  refine k_put (D := D) (ci := 0) (v := .int (nI (L + 1))) (ty := .int) (C := RX0) (T := TX0) (N := 2) hx hb hts hinX0 tyX0 tyX0_ok nmX0 hown hK hP hD hS 0 rfl rfl 1 (by decide) fl13 (fun _ h9 => h9) rfl (by decide +kernel) rfl rfl (Nat.le_of_ble_eq_true rfl) (ws' := cT cI a (bp (bp r 0 L x) 1 0 (nI (L + 1)))) rfl dX0_add_17 (fun H locs hP hD hS => ?_)
  exact k_vret hx hb hr hlocks hS hP dX0_add_20
end
section
set_option maxHeartbeats 4000000 in
set_option maxRecDepth 100000 in
theorem mX0_empty (l : Launch) (D : va_G) (cI cQ cJ : ClassId) (a : Nat → Nat) (r : rB)  : Mv l D (tY cI cQ cJ) yX0_empty wsX0_empty ({ frames := 0, cells := 0, slots := 0, locals := 0 } : Room) [.ref (a 0)] (cT cI a r) (cT cI a (bp r 1 0 0)) := by
  refine M_of (cc := cX0_empty) (maxL := 1) (ret := none) (Qc := fun A => va_Qv (fun (_ : Unit) => True) (fun _ t => Wd D (cT cI a (bp r 1 0 0)) t) A) (by decide) rfl (Nat.le_of_ble_eq_true rfl) ?_
  intro p e s m below meth c A ls hB hE hP hK hD hA hl
  obtain ⟨hx, hb, hr, hml, hts, hown, hlocks⟩ := hB
  have hS : va_S A s.heap s.heap [] := va_S.rf
  have hl : lv_has ls 1 [(0, .ref (a 0))] := hl
  have hinX0 : ∀ w ∈ u_ws RX0 TX0 2, w ∈ wsX0_empty := by decide +kernel
  have fl13 := hts (.fieldLink RX0 13 "RoofDrains$RainText" "length" "I") (by decide +kernel)
  refine lv_aload_n hx hb dX0_empty_0 rfl (lv_at hl 0 rfl) ?_
  refine lv_iconst (v := 0) hx hb dX0_empty_1 (by decide) ?_
  refine k_put (D := D) (ci := 0) (v := .int 0) (ty := .int) (C := RX0) (T := TX0) (N := 2) hx hb hts hinX0 tyX0 tyX0_ok nmX0 hown hK hP hD hS 0 rfl rfl 1 (by decide) fl13 (fun _ h9 => h9) rfl (by decide +kernel) rfl rfl (Nat.le_of_ble_eq_true rfl) (ws' := cT cI a (bp r 1 0 0)) rfl dX0_empty_2 (fun H locs hP hD hS => ?_)
  exact k_vret hx hb hr hlocks hS hP dX0_empty_5
end
section
set_option maxHeartbeats 4000000 in
set_option maxRecDepth 100000 in
theorem mX0_codeAt (l : Launch) (D : va_G) (cI cQ cJ : ClassId) (a : Nat → Nat) (r : rB) (q : Int32) (i : Nat) (hq : vp_in q 60) (hi : q.toNatClampNeg = i) : Mi l D (tY cI cQ cJ) yX0_codeAt wsX0_codeAt ({ frames := 0, cells := 0, slots := 0, locals := 0 } : Room) [.ref (a 0), .int q] (cT cI a r) (cT cI a r) (r 0 i) := by
  refine M_of (cc := cX0_codeAt) (maxL := 2) (ret := some .int) (Qc := fun A => va_Qi (fun (x : Int32) (_ : Unit) => x = r 0 i) (fun _ t => Wd D (cT cI a r) t) A) (by decide) rfl (Nat.le_of_ble_eq_true rfl) ?_
  intro p e s m below meth c A ls hB hE hP hK hD hA hl
  obtain ⟨hx, hb, hr, hml, hts, hown, hlocks⟩ := hB
  have hS : va_S A s.heap s.heap [] := va_S.rf
  have hl : lv_has ls 2 [(0, .ref (a 0)), (1, .int q)] := hl
  have hinX0 : ∀ w ∈ u_ws RX0 TX0 2, w ∈ wsX0_codeAt := by decide +kernel
  have fl9 := hts (.fieldLink RX0 9 "RoofDrains$RainText" "codes" "[I") (by decide +kernel)
  refine lv_aload_n hx hb dX0_codeAt_0 rfl (lv_at hl 0 rfl) ?_
  refine va_get (D := D) (ci := 0) (v := .ref (a 1)) (C := RX0) (T := TX0) (N := 2) hx hb hts hinX0 hown hK hP 0 rfl rfl 0 (by decide) fl9 (fun _ h9 => h9) rfl dX0_codeAt_1 ?_
  refine lv_iload_n hx hb dX0_codeAt_4 rfl (lv_at hl 1 rfl) ?_
  refine k_iald (k := i) (v := r 0 i) hx hb hK hP 1 0 rfl rfl hq hi (rfl) dX0_codeAt_5 ?_
  exact k_iret hx hb hr hlocks hS hP dX0_codeAt_6 (by (simp only [↓reduceIte]))
end
section
set_option maxHeartbeats 4000000 in
set_option maxRecDepth 100000 in
theorem mX0_firstWrong (l : Launch) (D : va_G) (cI cQ cJ : ClassId) (a : Nat → Nat) (r : rB) (L : Nat) (hL : r 1 0 = nI L) (hb60 : L ≤ 60) : Mi l D (tY cI cQ cJ) yX0_firstWrong wsX0_firstWrong ({ frames := 3, cells := 0, slots := 0, locals := 63 } : Room) [.ref (a 0)] (cT cI a r) (cT cI a r) (fwL r L 0 1) := by
  refine M_of (cc := cX0_firstWrong) (maxL := 3) (ret := some .int) (Qc := fun A => va_Qi (fun (x : Int32) (_ : Unit) => x = fwL r L 0 1) (fun _ t => Wd D (cT cI a r) t) A) (by decide) rfl (Nat.le_of_ble_eq_true rfl) ?_
  intro p e s m below meth c A ls hB hE hP hK hD hA hl
  obtain ⟨hx, hb, hr, hml, hts, hown, hlocks⟩ := hB
  have hS : va_S A s.heap s.heap [] := va_S.rf
  have hl : lv_has ls 3 [(0, .ref (a 0))] := hl
  have hinX0 : ∀ w ∈ u_ws RX0 TX0 2, w ∈ wsX0_firstWrong := by decide +kernel
  have fl13 := hts (.fieldLink RX0 13 "RoofDrains$RainText" "length" "I") (by decide +kernel)
  have fl9 := hts (.fieldLink RX0 9 "RoofDrains$RainText" "codes" "[I") (by decide +kernel)
  refine lv_iconst (v := 1) hx hb dX0_firstWrong_0 (by decide) ?_
  refine lv_istore_n (lv' := [(1, .int 1), (0, .ref (a 0))]) hx hb dX0_firstWrong_1 rfl hl (by decide) rfl (fun ls hl => ?_)
  refine lv_iconst (v := 0) hx hb dX0_firstWrong_2 (by decide) ?_
  refine lv_istore_n (lv' := [(2, .int 0), (1, .int 1), (0, .ref (a 0))]) hx hb dX0_firstWrong_3 rfl hl (by decide) rfl (fun ls hl => ?_)
  have Lp4 : ∀ (n i : Nat) (d : Nat), i + n = L → d ≤ 8 → fwL r n i d = fwL r L 0 1 → ∀ (H : Heap) (locs : List Loc), va_P D vwCl (cT cI a r) H → va_D A (cT cI a r) → va_S A s.heap H locs → ∀ (ls : Array Slot), lv_has ls 3 [(2, .int (nI i)), (1, .int (nI d)), (0, .ref (a 0))] → W p l e ({ frames := 3, cells := 0, slots := 0, locals := 63 } : Room) s m ([.ref (a 0)] : List Value).toArray below meth c H locs 0 0 (MQ below (va_Qi (fun (x : Int32) (_ : Unit) => x = fwL r L 0 1) (fun _ t => Wd D (cT cI a r) t) A) ([.ref (a 0)] : List Value).toArray s 0 0 A) (F0 m 4 ls []) := by
    intro n
    induction n with
    | zero =>
      intro i d hin hd hres H locs hP hD hS ls hl
      refine lv_iload_n hx hb dX0_firstWrong_4 rfl (lv_at hl 0 rfl) ?_
      refine lv_aload_n hx hb dX0_firstWrong_5 rfl (lv_at hl 2 rfl) ?_
      refine va_get (D := D) (ci := 0) (v := .int (nI L)) (C := RX0) (T := TX0) (N := 2) hx hb hts hinX0 hown hK hP 0 rfl rfl 1 (by decide) fl13 (fun _ h9 => h9) (by first | rfl | simp [bp, upd, *]) dX0_firstWrong_6 ?_
      refine lv_icmp_ge (tgt := 35) hx hb dX0_firstWrong_9 (by decide) (fun _ => ?_) (fun h9 => absurd (nI_le (a := L) (b := i) (by omega) (by omega)) h9)
      refine lv_aload_n hx hb dX0_firstWrong_35 rfl (lv_at hl 2 rfl) ?_
      refine va_get (D := D) (ci := 0) (v := .int (nI L)) (C := RX0) (T := TX0) (N := 2) hx hb hts hinX0 hown hK hP 0 rfl rfl 1 (by decide) fl13 (fun _ h9 => h9) (by first | rfl | simp [bp, upd, *]) dX0_firstWrong_36 ?_
      exact k_iret hx hb hr hlocks hS hP dX0_firstWrong_39 (by (rw [← hres]; first | (simp only [fwL, ↓reduceIte]; done) | (show nI L = nI i; rw [show i = L by omega])))
    | succ n ih =>
      intro i d hin hd hres H locs hP hD hS ls hl
      refine lv_iload_n hx hb dX0_firstWrong_4 rfl (lv_at hl 0 rfl) ?_
      refine lv_aload_n hx hb dX0_firstWrong_5 rfl (lv_at hl 2 rfl) ?_
      refine va_get (D := D) (ci := 0) (v := .int (nI L)) (C := RX0) (T := TX0) (N := 2) hx hb hts hinX0 hown hK hP 0 rfl rfl 1 (by decide) fl13 (fun _ h9 => h9) (by first | rfl | simp [bp, upd, *]) dX0_firstWrong_6 ?_
      refine lv_icmp_ge (tgt := 35) hx hb dX0_firstWrong_9 (by decide) (fun h9 => absurd h9 (nI_ge (a := i) (b := L) (by omega) (by omega))) (fun _ => ?_)
      refine lv_iload_n hx hb dX0_firstWrong_12 rfl (lv_at hl 1 rfl) ?_
      refine lv_aload_n hx hb dX0_firstWrong_13 rfl (lv_at hl 2 rfl) ?_
      refine va_get (D := D) (ci := 0) (v := .ref (a 1)) (C := RX0) (T := TX0) (N := 2) hx hb hts hinX0 hown hK hP 0 rfl rfl 0 (by decide) fl9 (fun _ h9 => h9) rfl dX0_firstWrong_14 ?_
      refine lv_iload_n hx hb dX0_firstWrong_17 rfl (lv_at hl 0 rfl) ?_
      refine k_iald (k := i) (v := r 0 i) hx hb hK hP 1 0 rfl rfl (vp_in_nI (n := i) (by omega) (by omega)) (nI_clamp (n := i) (by omega)) (rfl) dX0_firstWrong_18 ?_
      refine k_calli (wc := ([] : va_W)) (w' := ([] : va_W)) (wn := cT cI a r) (va_runS (As := [.int (nI d), .int (r 0 i)]) (rest := []) ⟨hx, hb, hml, hown, hts⟩ (mX0_dueAfter l D cI cQ cJ d hd (r 0 i) _) (va_cwS 2 hts gX0_firstWrong_X0_dueAfter rfl rfl rfl (by decide +kernel) ⟨Nat.le_of_ble_eq_true rfl, Nat.le_of_ble_eq_true rfl⟩) (k_preS (wc := ([] : va_W)) hE hK hP hD [] (by decide) rfl [.int (nI d), .int (r 0 i)]) rfl rfl hl.1 rfl (lv_room (Nat.le_of_ble_eq_true rfl)) dX0_firstWrong_19 ⟨Nat.zero_le _, Nat.zero_le _⟩) hP hD hS hA [] rfl rfl rfl (fun H locs hP hD hS => ?_)
      refine lv_istore_n (lv' := [(1, .int (nI (dA d (r 0 i)))), (2, .int (nI i)), (0, .ref (a 0))]) hx hb dX0_firstWrong_22 rfl hl (by decide) rfl (fun ls hl => ?_)
      refine lv_iload_n hx hb dX0_firstWrong_23 rfl (lv_at hl 0 rfl) ?_
      refine lv_if_ne (tgt := 29) hx hb dX0_firstWrong_24 (by decide) (fun c_1 => ?_) (fun c_1 => ?_)
      · skip
        refine lv_iinc (v := nI (i + 1)) (lv' := [(2, .int (nI (i + 1))), (1, .int (nI (dA d (r 0 i)))), (0, .ref (a 0))]) hx hb dX0_firstWrong_29 hl (k := 1) rfl (nI_1 i) (by decide) rfl (fun ls hl => ?_)
        refine lv_goto (tgt := 4) hx hb dX0_firstWrong_32 (by decide) ?_
        exact ih (i + 1) (dA d (r 0 i)) (by omega) (dA_le _ _) (by rw [← hres]; simp only [fwL, if_neg c_1, ↓reduceIte]) H locs hP hD hS ls (lv_sub hl [0, 1, 2] rfl)
      · skip
        refine lv_iload_n hx hb dX0_firstWrong_27 rfl (lv_at hl 1 rfl) ?_
        exact k_iret hx hb hr hlocks hS hP dX0_firstWrong_28 (by (rw [← hres]; first | (simp only [fwL, if_pos c_1, ↓reduceIte]; done) | (show nI L = nI i; rw [show i = L by omega])))
  exact Lp4 L 0 1 (by omega) (by decide) rfl _ _ hP hD hS ls (lv_sub hl [0, 1, 2] rfl)
end
section
set_option maxHeartbeats 4000000 in
set_option maxRecDepth 100000 in
theorem mX0_isComplete (l : Launch) (D : va_G) (cI cQ cJ : ClassId) (a : Nat → Nat) (r : rB) (L : Nat) (hL : r 1 0 = nI L) (hb60 : L ≤ 60) : Mi l D (tY cI cQ cJ) yX0_isComplete wsX0_isComplete ({ frames := 3, cells := 0, slots := 0, locals := 63 } : Room) [.ref (a 0)] (cT cI a r) (cT cI a r) (zM (nI (icL r L 0 1))) := by
  refine M_of (cc := cX0_isComplete) (maxL := 3) (ret := some .boolean) (Qc := fun A => va_Qi (fun (x : Int32) (_ : Unit) => x = zM (nI (icL r L 0 1))) (fun _ t => Wd D (cT cI a r) t) A) (by decide) rfl (Nat.le_of_ble_eq_true rfl) ?_
  intro p e s m below meth c A ls hB hE hP hK hD hA hl
  obtain ⟨hx, hb, hr, hml, hts, hown, hlocks⟩ := hB
  have hS : va_S A s.heap s.heap [] := va_S.rf
  have hl : lv_has ls 3 [(0, .ref (a 0))] := hl
  have hinX0 : ∀ w ∈ u_ws RX0 TX0 2, w ∈ wsX0_isComplete := by decide +kernel
  have fl13 := hts (.fieldLink RX0 13 "RoofDrains$RainText" "length" "I") (by decide +kernel)
  have fl9 := hts (.fieldLink RX0 9 "RoofDrains$RainText" "codes" "[I") (by decide +kernel)
  refine lv_iconst (v := 1) hx hb dX0_isComplete_0 (by decide) ?_
  refine lv_istore_n (lv' := [(1, .int 1), (0, .ref (a 0))]) hx hb dX0_isComplete_1 rfl hl (by decide) rfl (fun ls hl => ?_)
  refine lv_iconst (v := 0) hx hb dX0_isComplete_2 (by decide) ?_
  refine lv_istore_n (lv' := [(2, .int 0), (1, .int 1), (0, .ref (a 0))]) hx hb dX0_isComplete_3 rfl hl (by decide) rfl (fun ls hl => ?_)
  have Lp4 : ∀ (n i : Nat) (d : Nat), i + n = L → d ≤ 8 → icL r n i d = icL r L 0 1 → ∀ (H : Heap) (locs : List Loc), va_P D vwCl (cT cI a r) H → va_D A (cT cI a r) → va_S A s.heap H locs → ∀ (ls : Array Slot), lv_has ls 3 [(2, .int (nI i)), (1, .int (nI d)), (0, .ref (a 0))] → W p l e ({ frames := 3, cells := 0, slots := 0, locals := 63 } : Room) s m ([.ref (a 0)] : List Value).toArray below meth c H locs 0 0 (MQ below (va_Qi (fun (x : Int32) (_ : Unit) => x = zM (nI (icL r L 0 1))) (fun _ t => Wd D (cT cI a r) t) A) ([.ref (a 0)] : List Value).toArray s 0 0 A) (F0 m 4 ls []) := by
    intro n
    induction n with
    | zero =>
      intro i d hin hd hres H locs hP hD hS ls hl
      have h9d : d = icL r L 0 1 := hres
      refine lv_iload_n hx hb dX0_isComplete_4 rfl (lv_at hl 0 rfl) ?_
      refine lv_aload_n hx hb dX0_isComplete_5 rfl (lv_at hl 2 rfl) ?_
      refine va_get (D := D) (ci := 0) (v := .int (nI L)) (C := RX0) (T := TX0) (N := 2) hx hb hts hinX0 hown hK hP 0 rfl rfl 1 (by decide) fl13 (fun _ h9 => h9) (by first | rfl | simp [bp, upd, *]) dX0_isComplete_6 ?_
      refine lv_icmp_ge (tgt := 29) hx hb dX0_isComplete_9 (by decide) (fun _ => ?_) (fun h9 => absurd (nI_le (a := L) (b := i) (by omega) (by omega)) h9)
      refine lv_iload_n hx hb dX0_isComplete_29 rfl (lv_at hl 1 rfl) ?_
      refine k_calli (wc := ([] : va_W)) (w' := ([] : va_W)) (wn := cT cI a r) (va_runS (As := [.int (nI d)]) (rest := []) ⟨hx, hb, hml, hown, hts⟩ (mX0_mayEnd l D cI cQ cJ (nI d) _) (va_cwS 1 hts gX0_isComplete_X0_mayEnd rfl rfl rfl (by decide +kernel) ⟨Nat.le_of_ble_eq_true rfl, Nat.le_of_ble_eq_true rfl⟩) (k_preS (wc := ([] : va_W)) hE hK hP hD [] (by decide) rfl [.int (nI d)]) rfl rfl hl.1 rfl (lv_room (Nat.le_of_ble_eq_true rfl)) dX0_isComplete_30 ⟨Nat.zero_le _, Nat.zero_le _⟩) hP hD hS hA [] rfl rfl rfl (fun H locs hP hD hS => ?_)
      exact k_zret hx hb hr hlocks hS hP dX0_isComplete_33 (by first | rfl | decide | exact zM_nar _) (by (replace h9d := h9d.symm; subst h9d; simp only [↓reduceIte]))
    | succ n ih =>
      intro i d hin hd hres H locs hP hD hS ls hl
      refine lv_iload_n hx hb dX0_isComplete_4 rfl (lv_at hl 0 rfl) ?_
      refine lv_aload_n hx hb dX0_isComplete_5 rfl (lv_at hl 2 rfl) ?_
      refine va_get (D := D) (ci := 0) (v := .int (nI L)) (C := RX0) (T := TX0) (N := 2) hx hb hts hinX0 hown hK hP 0 rfl rfl 1 (by decide) fl13 (fun _ h9 => h9) (by first | rfl | simp [bp, upd, *]) dX0_isComplete_6 ?_
      refine lv_icmp_ge (tgt := 29) hx hb dX0_isComplete_9 (by decide) (fun h9 => absurd h9 (nI_ge (a := i) (b := L) (by omega) (by omega))) (fun _ => ?_)
      refine lv_iload_n hx hb dX0_isComplete_12 rfl (lv_at hl 1 rfl) ?_
      refine lv_aload_n hx hb dX0_isComplete_13 rfl (lv_at hl 2 rfl) ?_
      refine va_get (D := D) (ci := 0) (v := .ref (a 1)) (C := RX0) (T := TX0) (N := 2) hx hb hts hinX0 hown hK hP 0 rfl rfl 0 (by decide) fl9 (fun _ h9 => h9) rfl dX0_isComplete_14 ?_
      refine lv_iload_n hx hb dX0_isComplete_17 rfl (lv_at hl 0 rfl) ?_
      refine k_iald (k := i) (v := r 0 i) hx hb hK hP 1 0 rfl rfl (vp_in_nI (n := i) (by omega) (by omega)) (nI_clamp (n := i) (by omega)) (rfl) dX0_isComplete_18 ?_
      refine k_calli (wc := ([] : va_W)) (w' := ([] : va_W)) (wn := cT cI a r) (va_runS (As := [.int (nI d), .int (r 0 i)]) (rest := []) ⟨hx, hb, hml, hown, hts⟩ (mX0_dueAfter l D cI cQ cJ d hd (r 0 i) _) (va_cwS 2 hts gX0_isComplete_X0_dueAfter rfl rfl rfl (by decide +kernel) ⟨Nat.le_of_ble_eq_true rfl, Nat.le_of_ble_eq_true rfl⟩) (k_preS (wc := ([] : va_W)) hE hK hP hD [] (by decide) rfl [.int (nI d), .int (r 0 i)]) rfl rfl hl.1 rfl (lv_room (Nat.le_of_ble_eq_true rfl)) dX0_isComplete_19 ⟨Nat.zero_le _, Nat.zero_le _⟩) hP hD hS hA [] rfl rfl rfl (fun H locs hP hD hS => ?_)
      refine lv_istore_n (lv' := [(1, .int (nI (dA d (r 0 i)))), (2, .int (nI i)), (0, .ref (a 0))]) hx hb dX0_isComplete_22 rfl hl (by decide) rfl (fun ls hl => ?_)
      refine lv_iinc (v := nI (i + 1)) (lv' := [(2, .int (nI (i + 1))), (1, .int (nI (dA d (r 0 i)))), (0, .ref (a 0))]) hx hb dX0_isComplete_23 hl (k := 1) rfl (nI_1 i) (by decide) rfl (fun ls hl => ?_)
      refine lv_goto (tgt := 4) hx hb dX0_isComplete_26 (by decide) ?_
      exact ih (i + 1) (dA d (r 0 i)) (by omega) (dA_le _ _) (by exact hres) H locs hP hD hS ls (lv_sub hl [0, 1, 2] rfl)
  exact Lp4 L 0 1 (by omega) (by decide) rfl _ _ hP hD hS ls (lv_sub hl [0, 1, 2] rfl)
end
section
set_option maxHeartbeats 4000000 in
set_option maxRecDepth 100000 in
theorem mX0_cleanOn (l : Launch) (D : va_G) (cI cQ cJ : ClassId) (a : Nat → Nat) (r : rB) (q : Int32) : Mv l D (tY cI cQ cJ) yX0_cleanOn wsX0_cleanOn ({ frames := 1, cells := 0, slots := 0, locals := 22 } : Room) [.ref (a 0), .int q] (cR cI a r) (cR cI a (clnC r q)) := by
  refine M_of (cc := cX0_cleanOn) (maxL := 2) (ret := none) (Qc := fun A => va_Qv (fun (_ : Unit) => True) (fun _ t => Wd D (cR cI a (clnC r q)) t) A) (by decide) rfl (Nat.le_of_ble_eq_true rfl) ?_
  intro p e s m below meth c A ls hB hE hP hK hD hA hl
  obtain ⟨hx, hb, hr, hml, hts, hown, hlocks⟩ := hB
  have hS : va_S A s.heap s.heap [] := va_S.rf
  have hl : lv_has ls 2 [(0, .ref (a 0)), (1, .int q)] := hl
  refine lv_iload_n hx hb dX0_cleanOn_0 rfl (lv_at hl 1 rfl) ?_
  refine k_calli (wc := ([] : va_W)) (w' := ([] : va_W)) (wn := cR cI a r) (va_runSN (As := [.int q]) (rest := []) ⟨hx, hb, hml, hown, hts⟩ (mX3_isGutter l D cI cQ cJ q _) ⟨va_cnB 1 hts gX0_cleanOn_X3_isGutter_n58 rfl rfl rfl hE.2.2 (hts (.initialized RX3) (by decide +kernel)) (by decide +kernel) ⟨Nat.le_of_ble_eq_true rfl, Nat.le_of_ble_eq_true rfl⟩, hts (.static yX3_isGutter) (by decide +kernel), trivial⟩ (k_preS (wc := ([] : va_W)) hE hK hP hD [] (by decide) rfl [.int q]) rfl rfl hl.1 rfl (lv_room (Nat.le_of_ble_eq_true rfl)) dX0_cleanOn_1 ⟨Nat.zero_le _, Nat.zero_le _⟩) hP hD hS hA [] rfl rfl rfl (fun H locs hP hD hS => ?_)
  refine lv_if_eq (tgt := 13) hx hb dX0_cleanOn_4 (by decide) (fun c_1 => ?_) (fun c_1 => ?_)
  · skip
    have e9 : (r : rB) = clnC r q := by (simp only [clnC, if_pos c_1, ↓reduceIte])
    rw [e9] at hP
    exact k_vret hx hb hr hlocks hS hP dX0_cleanOn_13
  · skip
    refine lv_aload_n hx hb dX0_cleanOn_7 rfl (lv_at hl 0 rfl) ?_
    refine lv_iload_n hx hb dX0_cleanOn_8 rfl (lv_at hl 1 rfl) ?_
    obtain ⟨r_2, er_2⟩ : ∃ z : rB, z = bp r 6 q.toNatClampNeg 0 := ⟨_, rfl⟩
    have hm_3 := mX1_takeLeaves l D cI cQ cJ a r q q.toNatClampNeg (zL_in (n := 6) rfl rfl c_1) rfl
    rw [← er_2] at hm_3
    refine k_calli (wc := cR cI a r) (w' := cR cI a r_2) (wn := cR cI a r_2) (va_runV (As := [.int q]) (rest := []) ⟨hx, hb, hml, hown, hts⟩ (hm_3 _) (cwV 1 hts gX0_cleanOn_X1_takeLeaves rfl rfl rfl (by decide +kernel) ⟨Nat.le_of_ble_eq_true rfl, Nat.le_of_ble_eq_true rfl⟩) (k_preV (wc := cR cI a r) hE hK hP hD [0, 1, 2, 3, 4, 5, 6, 7, 8, 9, 10, 11, 12] (by decide) rfl (ci := 1) (q0 := 0) rfl rfl [.int q]) rfl rfl hl.1 rfl (lv_room (Nat.le_of_ble_eq_true rfl)) dX0_cleanOn_9 ⟨Nat.zero_le _, Nat.zero_le _⟩) hP hD hS hA [0, 1, 2, 3, 4, 5, 6, 7, 8, 9, 10, 11, 12] rfl rfl rfl (fun H locs hP hD hS => ?_)
    refine lv_pop hx hb dX0_cleanOn_12 rfl ?_
    have e9 : (r_2 : rB) = clnC r q := by (replace er_2 := er_2.symm; subst er_2; simp only [clnC, if_neg c_1, ↓reduceIte])
    rw [e9] at hP
    exact k_vret hx hb hr hlocks hS hP dX0_cleanOn_13
end
section
set_option maxHeartbeats 4000000 in
set_option maxRecDepth 100000 in
theorem mX0_playPart (l : Launch) (D : va_G) (cI cQ cJ : ClassId) (a : Nat → Nat) (r : rB) (k ra nu : Int32) : Mv l D (tY cI cQ cJ) yX0_playPart wsX0_playPart ({ frames := 4, cells := 0, slots := 0, locals := 92 } : Room) [.ref (a 0), .int k, .int ra, .int nu] (cR cI a r) (cR cI a (playP r k ra nu)) := by
  refine M_of (cc := cX0_playPart) (maxL := 4) (ret := none) (Qc := fun A => va_Qv (fun (_ : Unit) => True) (fun _ t => Wd D (cR cI a (playP r k ra nu)) t) A) (by decide) rfl (Nat.le_of_ble_eq_true rfl) ?_
  intro p e s m below meth c A ls hB hE hP hK hD hA hl
  obtain ⟨hx, hb, hr, hml, hts, hown, hlocks⟩ := hB
  have hS : va_S A s.heap s.heap [] := va_S.rf
  have hl : lv_has ls 4 [(0, .ref (a 0)), (1, .int k), (2, .int ra), (3, .int nu)] := hl
  refine lv_iload_n hx hb dX0_playPart_0 rfl (lv_at hl 1 rfl) ?_
  refine lv_bipush (v := 119) hx hb dX0_playPart_1 (by decide) ?_
  refine lv_icmp_ne (tgt := 13) hx hb dX0_playPart_3 (by decide) (fun c_1 => ?_) (fun c_1 => ?_)
  · skip
    refine lv_iload_n hx hb dX0_playPart_13 rfl (lv_at hl 1 rfl) ?_
    refine lv_bipush (v := 99) hx hb dX0_playPart_14 (by decide) ?_
    refine lv_icmp_ne (tgt := 27) hx hb dX0_playPart_16 (by decide) (fun c_2 => ?_) (fun c_2 => ?_)
    · skip
      refine lv_aload_n hx hb dX0_playPart_27 rfl (lv_at hl 0 rfl) ?_
      refine lv_iload_n hx hb dX0_playPart_28 rfl (lv_at hl 2 rfl) ?_
      refine lv_iload_n hx hb dX0_playPart_29 rfl (lv_at hl 3 rfl) ?_
      obtain ⟨r_3, er_3⟩ : ∃ z : rB, z = minutesC nu.toNatClampNeg r ra := ⟨_, rfl⟩
      have hm_4 := mX1_passMinutes l D cI cQ cJ a r ra nu nu.toNatClampNeg rfl
      rw [← er_3] at hm_4
      refine k_callv (wc := cR cI a r) (w' := cR cI a r_3) (wn := cR cI a r_3) (va_runV (As := [.int ra, .int nu]) (rest := []) ⟨hx, hb, hml, hown, hts⟩ (hm_4 _) (cwV 2 hts gX0_playPart_X1_passMinutes rfl rfl rfl (by decide +kernel) ⟨Nat.le_of_ble_eq_true rfl, Nat.le_of_ble_eq_true rfl⟩) (k_preV (wc := cR cI a r) hE hK hP hD [0, 1, 2, 3, 4, 5, 6, 7, 8, 9, 10, 11, 12] (by decide) rfl (ci := 1) (q0 := 0) rfl rfl [.int ra, .int nu]) rfl rfl hl.1 rfl (lv_room (Nat.le_of_ble_eq_true rfl)) dX0_playPart_30 ⟨Nat.zero_le _, Nat.zero_le _⟩) hP hD hS hA [0, 1, 2, 3, 4, 5, 6, 7, 8, 9, 10, 11, 12] rfl rfl rfl (fun H locs hP hD hS => ?_)
      have e9 : (r_3 : rB) = playP r k ra nu := by (replace er_3 := er_3.symm; subst er_3; simp only [playP, if_neg c_1, if_neg c_2, ↓reduceIte])
      rw [e9] at hP
      exact k_vret hx hb hr hlocks hS hP dX0_playPart_33
    · skip
      refine lv_aload_n hx hb dX0_playPart_19 rfl (lv_at hl 0 rfl) ?_
      refine lv_iload_n hx hb dX0_playPart_20 rfl (lv_at hl 3 rfl) ?_
      obtain ⟨r_5, er_5⟩ : ∃ z : rB, z = clnC r nu := ⟨_, rfl⟩
      have hm_6 := mX0_cleanOn l D cI cQ cJ a r nu
      rw [← er_5] at hm_6
      refine k_callv (wc := cR cI a r) (w' := cR cI a r_5) (wn := cR cI a r_5) (va_runS (As := [.ref (a 0), .int nu]) (rest := []) ⟨hx, hb, hml, hown, hts⟩ (hm_6 _) (va_cwS 2 hts gX0_playPart_X0_cleanOn rfl rfl rfl (by decide +kernel) ⟨Nat.le_of_ble_eq_true rfl, Nat.le_of_ble_eq_true rfl⟩) (k_preS (wc := cR cI a r) hE hK hP hD [0, 1, 2, 3, 4, 5, 6, 7, 8, 9, 10, 11, 12] (by decide) rfl [.ref (a 0), .int nu]) rfl rfl hl.1 rfl (lv_room (Nat.le_of_ble_eq_true rfl)) dX0_playPart_21 ⟨Nat.zero_le _, Nat.zero_le _⟩) hP hD hS hA [0, 1, 2, 3, 4, 5, 6, 7, 8, 9, 10, 11, 12] rfl rfl rfl (fun H locs hP hD hS => ?_)
      refine lv_goto (tgt := 33) hx hb dX0_playPart_24 (by decide) ?_
      have e9 : (r_5 : rB) = playP r k ra nu := by (replace er_5 := er_5.symm; subst er_5; simp only [playP, if_neg c_1, if_pos c_2, ↓reduceIte])
      rw [e9] at hP
      exact k_vret hx hb hr hlocks hS hP dX0_playPart_33
  · skip
    refine lv_aload_n hx hb dX0_playPart_6 rfl (lv_at hl 0 rfl) ?_
    obtain ⟨r_7, er_7⟩ : ∃ z : rB, z = weekC r := ⟨_, rfl⟩
    have hm_8 := mX1_passWeek l D cI cQ cJ a r
    rw [← er_7] at hm_8
    refine k_callv (wc := cR cI a r) (w' := cR cI a r_7) (wn := cR cI a r_7) (va_runV (As := []) (rest := []) ⟨hx, hb, hml, hown, hts⟩ (hm_8 _) (cwV 0 hts gX0_playPart_X1_passWeek rfl rfl rfl (by decide +kernel) ⟨Nat.le_of_ble_eq_true rfl, Nat.le_of_ble_eq_true rfl⟩) (k_preV (wc := cR cI a r) hE hK hP hD [0, 1, 2, 3, 4, 5, 6, 7, 8, 9, 10, 11, 12] (by decide) rfl (ci := 1) (q0 := 0) rfl rfl []) rfl rfl hl.1 rfl (lv_room (Nat.le_of_ble_eq_true rfl)) dX0_playPart_7 ⟨Nat.zero_le _, Nat.zero_le _⟩) hP hD hS hA [0, 1, 2, 3, 4, 5, 6, 7, 8, 9, 10, 11, 12] rfl rfl rfl (fun H locs hP hD hS => ?_)
    refine lv_goto (tgt := 33) hx hb dX0_playPart_10 (by decide) ?_
    have e9 : (r_7 : rB) = playP r k ra nu := by (replace er_7 := er_7.symm; subst er_7; simp only [playP, if_pos c_1, ↓reduceIte])
    rw [e9] at hP
    exact k_vret hx hb hr hlocks hS hP dX0_playPart_33
end
section
set_option maxHeartbeats 4000000 in
set_option maxRecDepth 100000 in
theorem mX0_playOn (l : Launch) (D : va_G) (cI cQ cJ : ClassId) (a : Nat → Nat) (r : rB) (a2 : Nat → Nat) (r2 : rB) (L : Nat) (hL : r 1 0 = nI L) (hb60 : L ≤ 60) : Mv l D (tY cI cQ cJ) yX0_playOn wsX0_playOn ({ frames := 5, cells := 0, slots := 0, locals := 115 } : Room) [.ref (a 0), .ref (a2 0)] ((cT cI a r) ++ (cR cI a2 r2)) ((cT cI a r) ++ (cR cI a2 (playL r L 0 r2 42 0 0))) := by
  refine M_of (cc := cX0_playOn) (maxL := 7) (ret := none) (Qc := fun A => va_Qv (fun (_ : Unit) => True) (fun _ t => Wd D ((cT cI a r) ++ (cR cI a2 (playL r L 0 r2 42 0 0))) t) A) (by decide) rfl (Nat.le_of_ble_eq_true rfl) ?_
  intro p e s m below meth c A ls hB hE hP hK hD hA hl
  obtain ⟨hx, hb, hr, hml, hts, hown, hlocks⟩ := hB
  have hS : va_S A s.heap s.heap [] := va_S.rf
  have hl : lv_has ls 7 [(0, .ref (a 0)), (1, .ref (a2 0))] := hl
  have hinX0 : ∀ w ∈ u_ws RX0 TX0 2, w ∈ wsX0_playOn := by decide +kernel
  have fl13 := hts (.fieldLink RX0 13 "RoofDrains$RainText" "length" "I") (by decide +kernel)
  have fl9 := hts (.fieldLink RX0 9 "RoofDrains$RainText" "codes" "[I") (by decide +kernel)
  refine lv_bipush (v := 42) hx hb dX0_playOn_0 (by decide) ?_
  refine lv_istore_n (lv' := [(2, .int 42), (0, .ref (a 0)), (1, .ref (a2 0))]) hx hb dX0_playOn_2 rfl hl (by decide) rfl (fun ls hl => ?_)
  refine lv_iconst (v := 0) hx hb dX0_playOn_3 (by decide) ?_
  refine lv_istore_n (lv' := [(3, .int 0), (2, .int 42), (0, .ref (a 0)), (1, .ref (a2 0))]) hx hb dX0_playOn_4 rfl hl (by decide) rfl (fun ls hl => ?_)
  refine lv_iconst (v := 0) hx hb dX0_playOn_5 (by decide) ?_
  refine lv_istore (lv' := [(4, .int 0), (3, .int 0), (2, .int 42), (0, .ref (a 0)), (1, .ref (a2 0))]) hx hb dX0_playOn_6 hl (by decide) rfl (fun ls hl => ?_)
  refine lv_iconst (v := 0) hx hb dX0_playOn_8 (by decide) ?_
  refine lv_istore (lv' := [(5, .int 0), (4, .int 0), (3, .int 0), (2, .int 42), (0, .ref (a 0)), (1, .ref (a2 0))]) hx hb dX0_playOn_9 hl (by decide) rfl (fun ls hl => ?_)
  have Lp11 : ∀ (n i : Nat) (r1 : rB) (k : Int32) (ra : Int32) (nu : Int32), i + n = L → playL r n i r1 k ra nu = playL r L 0 r2 42 0 0 → ∀ (H : Heap) (locs : List Loc), va_P D vwCl ((cT cI a r) ++ (cR cI a2 r1)) H → va_D A ((cT cI a r) ++ (cR cI a2 r1)) → va_S A s.heap H locs → ∀ (ls : Array Slot), lv_has ls 7 [(5, .int (nI i)), (4, .int nu), (3, .int ra), (2, .int k), (0, .ref (a 0)), (1, .ref (a2 0))] → W p l e ({ frames := 5, cells := 0, slots := 0, locals := 115 } : Room) s m ([.ref (a 0), .ref (a2 0)] : List Value).toArray below meth c H locs 0 0 (MQ below (va_Qv (fun (_ : Unit) => True) (fun _ t => Wd D ((cT cI a r) ++ (cR cI a2 (playL r L 0 r2 42 0 0))) t) A) ([.ref (a 0), .ref (a2 0)] : List Value).toArray s 0 0 A) (F0 m 11 ls []) := by
    intro n
    induction n with
    | zero =>
      intro i r1 k ra nu hin hres H locs hP hD hS ls hl
      refine lv_iload hx hb dX0_playOn_11 (lv_at hl 0 rfl) ?_
      refine lv_aload_n hx hb dX0_playOn_13 rfl (lv_at hl 4 rfl) ?_
      refine va_get (D := D) (ci := 0) (v := .int (nI L)) (C := RX0) (T := TX0) (N := 2) hx hb hts hinX0 hown hK hP 0 rfl rfl 1 (by decide) fl13 (fun _ h9 => h9) (by first | rfl | simp [bp, upd, *]) dX0_playOn_14 ?_
      refine lv_icmp_ge (tgt := 93) hx hb dX0_playOn_17 (by decide) (fun _ => ?_) (fun h9 => absurd (nI_le (a := L) (b := i) (by omega) (by omega)) h9)
      refine lv_aload_n hx hb dX0_playOn_93 rfl (lv_at hl 5 rfl) ?_
      refine lv_iload_n hx hb dX0_playOn_94 rfl (lv_at hl 3 rfl) ?_
      refine lv_iload_n hx hb dX0_playOn_95 rfl (lv_at hl 2 rfl) ?_
      refine lv_iload hx hb dX0_playOn_96 (lv_at hl 1 rfl) ?_
      obtain ⟨r_1, er_1⟩ : ∃ z : rB, z = playP r1 k ra nu := ⟨_, rfl⟩
      have hm_2 := mX0_playPart l D cI cQ cJ a2 r1 k ra nu
      rw [← er_1] at hm_2
      refine k_callv (wc := cR cI a2 r1) (w' := cR cI a2 r_1) (wn := (cT cI a r) ++ (cR cI a2 r_1)) (va_runS (As := [.ref (a2 0), .int k, .int ra, .int nu]) (rest := []) ⟨hx, hb, hml, hown, hts⟩ (hm_2 _) (va_cwS 4 hts gX0_playOn_X0_playPart rfl rfl rfl (by decide +kernel) ⟨Nat.le_of_ble_eq_true rfl, Nat.le_of_ble_eq_true rfl⟩) (k_preS (wc := cR cI a2 r1) hE hK hP hD [2, 3, 4, 5, 6, 7, 8, 9, 10, 11, 12, 13, 14] (by decide) rfl [.ref (a2 0), .int k, .int ra, .int nu]) rfl rfl hl.1 rfl (lv_room (Nat.le_of_ble_eq_true rfl)) dX0_playOn_98 ⟨Nat.zero_le _, Nat.zero_le _⟩) hP hD hS hA [2, 3, 4, 5, 6, 7, 8, 9, 10, 11, 12, 13, 14] rfl rfl rfl (fun H locs hP hD hS => ?_)
      have e9 : (r_1 : rB) = playL r L 0 r2 42 0 0 := by (replace er_1 := er_1.symm; subst er_1; rw [← hres]; rfl)
      rw [e9] at hP
      exact k_vret hx hb hr hlocks hS hP dX0_playOn_101
    | succ n ih =>
      intro i r1 k ra nu hin hres H locs hP hD hS ls hl
      refine lv_iload hx hb dX0_playOn_11 (lv_at hl 0 rfl) ?_
      refine lv_aload_n hx hb dX0_playOn_13 rfl (lv_at hl 4 rfl) ?_
      refine va_get (D := D) (ci := 0) (v := .int (nI L)) (C := RX0) (T := TX0) (N := 2) hx hb hts hinX0 hown hK hP 0 rfl rfl 1 (by decide) fl13 (fun _ h9 => h9) (by first | rfl | simp [bp, upd, *]) dX0_playOn_14 ?_
      refine lv_icmp_ge (tgt := 93) hx hb dX0_playOn_17 (by decide) (fun h9 => absurd h9 (nI_ge (a := i) (b := L) (by omega) (by omega))) (fun _ => ?_)
      refine lv_aload_n hx hb dX0_playOn_20 rfl (lv_at hl 4 rfl) ?_
      refine va_get (D := D) (ci := 0) (v := .ref (a 1)) (C := RX0) (T := TX0) (N := 2) hx hb hts hinX0 hown hK hP 0 rfl rfl 0 (by decide) fl9 (fun _ h9 => h9) rfl dX0_playOn_21 ?_
      refine lv_iload hx hb dX0_playOn_24 (lv_at hl 0 rfl) ?_
      refine k_iald (k := i) (v := r 0 i) hx hb hK hP 1 0 rfl rfl (vp_in_nI (n := i) (by omega) (by omega)) (nI_clamp (n := i) (by omega)) (rfl) dX0_playOn_26 ?_
      refine lv_topi (fun v6_3 ev6_3 => ?_)
      refine lv_istore (lv' := [(6, .int v6_3), (5, .int (nI i)), (4, .int nu), (3, .int ra), (2, .int k), (0, .ref (a 0)), (1, .ref (a2 0))]) hx hb dX0_playOn_27 hl (by decide) rfl (fun ls hl => ?_)
      refine lv_iload hx hb dX0_playOn_29 (lv_at hl 0 rfl) ?_
      refine lv_bipush (v := 59) hx hb dX0_playOn_31 (by decide) ?_
      refine lv_icmp_ne (tgt := 50) hx hb dX0_playOn_33 (by decide) (fun c_4 => ?_) (fun c_4 => ?_)
      · skip
        refine lv_iload hx hb dX0_playOn_50 (lv_at hl 0 rfl) ?_
        refine lv_bipush (v := 48) hx hb dX0_playOn_52 (by decide) ?_
        refine lv_bipush (v := 57) hx hb dX0_playOn_54 (by decide) ?_
        refine k_calli (wc := ([] : va_W)) (w' := ([] : va_W)) (wn := (cT cI a r) ++ (cR cI a2 r1)) (va_runSN (As := [.int v6_3, .int 48, .int 57]) (rest := []) ⟨hx, hb, hml, hown, hts⟩ (mX3_isWithin l D cI cQ cJ v6_3 48 57 _) ⟨va_cnB 3 hts gX0_playOn_X3_isWithin_n29 rfl rfl rfl hE.2.1 (hts (.initialized RX3) (by decide +kernel)) (by decide +kernel) ⟨Nat.le_of_ble_eq_true rfl, Nat.le_of_ble_eq_true rfl⟩, hts (.static yX3_isWithin) (by decide +kernel), trivial⟩ (k_preS (wc := ([] : va_W)) hE hK hP hD [] (by decide) rfl [.int v6_3, .int 48, .int 57]) rfl rfl hl.1 rfl (lv_room (Nat.le_of_ble_eq_true rfl)) dX0_playOn_56 ⟨Nat.zero_le _, Nat.zero_le _⟩) hP hD hS hA [] rfl rfl rfl (fun H locs hP hD hS => ?_)
        refine lv_if_eq (tgt := 78) hx hb dX0_playOn_59 (by decide) (fun c_5 => ?_) (fun c_5 => ?_)
        · skip
          refine lv_iload hx hb dX0_playOn_78 (lv_at hl 0 rfl) ?_
          refine lv_istore_n (lv' := [(2, .int v6_3), (6, .int v6_3), (5, .int (nI i)), (4, .int nu), (3, .int ra), (0, .ref (a 0)), (1, .ref (a2 0))]) hx hb dX0_playOn_80 rfl hl (by decide) rfl (fun ls hl => ?_)
          refine lv_iload hx hb dX0_playOn_81 (lv_at hl 3 rfl) ?_
          refine lv_istore_n (lv' := [(3, .int nu), (2, .int v6_3), (6, .int v6_3), (5, .int (nI i)), (4, .int nu), (0, .ref (a 0)), (1, .ref (a2 0))]) hx hb dX0_playOn_83 rfl hl (by decide) rfl (fun ls hl => ?_)
          refine lv_iconst (v := 0) hx hb dX0_playOn_84 (by decide) ?_
          refine lv_istore (lv' := [(4, .int 0), (3, .int nu), (2, .int v6_3), (6, .int v6_3), (5, .int (nI i)), (0, .ref (a 0)), (1, .ref (a2 0))]) hx hb dX0_playOn_85 hl (by decide) rfl (fun ls hl => ?_)
          refine lv_iinc (v := nI (i + 1)) (lv' := [(5, .int (nI (i + 1))), (4, .int 0), (3, .int nu), (2, .int v6_3), (6, .int v6_3), (0, .ref (a 0)), (1, .ref (a2 0))]) hx hb dX0_playOn_87 hl (k := 4) rfl (nI_1 i) (by decide) rfl (fun ls hl => ?_)
          refine lv_goto (tgt := 11) hx hb dX0_playOn_90 (by decide) ?_
          exact ih (i + 1) r1 v6_3 nu 0 (by omega) (by replace ev6_3 := ev6_3.symm; subst ev6_3; rw [← hres]; simp only [playL, if_neg c_4, if_pos c_5, ↓reduceIte]) H locs hP hD hS ls (lv_sub hl [0, 1, 2, 3, 5, 6] rfl)
        · skip
          refine lv_iload hx hb dX0_playOn_62 (lv_at hl 2 rfl) ?_
          refine lv_bipush (v := 10) hx hb dX0_playOn_64 (by decide) ?_
          refine lv_imul hx hb dX0_playOn_66 ?_
          refine lv_iload hx hb dX0_playOn_67 (lv_at hl 0 rfl) ?_
          refine lv_iadd hx hb dX0_playOn_69 ?_
          refine lv_bipush (v := 48) hx hb dX0_playOn_70 (by decide) ?_
          refine lv_isub hx hb dX0_playOn_72 ?_
          refine lv_topi (fun v4_6 ev4_6 => ?_)
          refine lv_istore (lv' := [(4, .int v4_6), (6, .int v6_3), (5, .int (nI i)), (3, .int ra), (2, .int k), (0, .ref (a 0)), (1, .ref (a2 0))]) hx hb dX0_playOn_73 hl (by decide) rfl (fun ls hl => ?_)
          refine lv_goto (tgt := 87) hx hb dX0_playOn_75 (by decide) ?_
          refine lv_iinc (v := nI (i + 1)) (lv' := [(5, .int (nI (i + 1))), (4, .int v4_6), (6, .int v6_3), (3, .int ra), (2, .int k), (0, .ref (a 0)), (1, .ref (a2 0))]) hx hb dX0_playOn_87 hl (k := 2) rfl (nI_1 i) (by decide) rfl (fun ls hl => ?_)
          refine lv_goto (tgt := 11) hx hb dX0_playOn_90 (by decide) ?_
          exact ih (i + 1) r1 k ra v4_6 (by omega) (by replace ev4_6 := ev4_6.symm; subst ev4_6; replace ev6_3 := ev6_3.symm; subst ev6_3; rw [← hres]; simp only [playL, if_neg c_4, if_neg c_5, ↓reduceIte]) H locs hP hD hS ls (lv_sub hl [0, 1, 3, 4, 5, 6] rfl)
      · skip
        refine lv_aload_n hx hb dX0_playOn_36 rfl (lv_at hl 6 rfl) ?_
        refine lv_iload_n hx hb dX0_playOn_37 rfl (lv_at hl 4 rfl) ?_
        refine lv_iload_n hx hb dX0_playOn_38 rfl (lv_at hl 3 rfl) ?_
        refine lv_iload hx hb dX0_playOn_39 (lv_at hl 2 rfl) ?_
        obtain ⟨r_7, er_7⟩ : ∃ z : rB, z = playP r1 k ra nu := ⟨_, rfl⟩
        have hm_8 := mX0_playPart l D cI cQ cJ a2 r1 k ra nu
        rw [← er_7] at hm_8
        refine k_callv (wc := cR cI a2 r1) (w' := cR cI a2 r_7) (wn := (cT cI a r) ++ (cR cI a2 r_7)) (va_runS (As := [.ref (a2 0), .int k, .int ra, .int nu]) (rest := []) ⟨hx, hb, hml, hown, hts⟩ (hm_8 _) (va_cwS 4 hts gX0_playOn_X0_playPart rfl rfl rfl (by decide +kernel) ⟨Nat.le_of_ble_eq_true rfl, Nat.le_of_ble_eq_true rfl⟩) (k_preS (wc := cR cI a2 r1) hE hK hP hD [2, 3, 4, 5, 6, 7, 8, 9, 10, 11, 12, 13, 14] (by decide) rfl [.ref (a2 0), .int k, .int ra, .int nu]) rfl rfl hl.1 rfl (lv_room (Nat.le_of_ble_eq_true rfl)) dX0_playOn_41 ⟨Nat.zero_le _, Nat.zero_le _⟩) hP hD hS hA [2, 3, 4, 5, 6, 7, 8, 9, 10, 11, 12, 13, 14] rfl rfl rfl (fun H locs hP hD hS => ?_)
        refine lv_iconst (v := 0) hx hb dX0_playOn_44 (by decide) ?_
        refine lv_istore (lv' := [(4, .int 0), (6, .int v6_3), (5, .int (nI i)), (3, .int ra), (2, .int k), (0, .ref (a 0)), (1, .ref (a2 0))]) hx hb dX0_playOn_45 hl (by decide) rfl (fun ls hl => ?_)
        refine lv_goto (tgt := 87) hx hb dX0_playOn_47 (by decide) ?_
        refine lv_iinc (v := nI (i + 1)) (lv' := [(5, .int (nI (i + 1))), (4, .int 0), (6, .int v6_3), (3, .int ra), (2, .int k), (0, .ref (a 0)), (1, .ref (a2 0))]) hx hb dX0_playOn_87 hl (k := 2) rfl (nI_1 i) (by decide) rfl (fun ls hl => ?_)
        refine lv_goto (tgt := 11) hx hb dX0_playOn_90 (by decide) ?_
        exact ih (i + 1) r_7 k ra 0 (by omega) (by replace er_7 := er_7.symm; subst er_7; replace ev6_3 := ev6_3.symm; subst ev6_3; rw [← hres]; simp only [playL, if_pos c_4, ↓reduceIte]) H locs hP hD hS ls (lv_sub hl [0, 1, 3, 4, 5, 6] rfl)
  exact Lp11 L 0 r2 42 0 0 (by omega) rfl _ _ hP hD hS ls (lv_sub hl [0, 1, 2, 3, 4, 5] rfl)
end
section
/-- last -/
theorem zz_last : True := trivial
end
